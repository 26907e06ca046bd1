set_option maxHeartbeats 4000000 in
set_option maxRecDepth 100000 in
theorem c_Kinds_reaches (l : Launch) (D : va_G) (cI cW : ClassId) (n : Nat) (g : Int32 → Int32 → Int32 → Int32) (k : Int32) (wd : Int32) (dp : Int32) (hg : KRe l D cI cW n g) (hp : pRe (n + 1) dp) (res : Int32) (hres : m_Kinds_reaches g k wd dp = res) : CM l y_Kinds_reaches b_Kinds_reaches 4 .boolean (rmN (n + 1)) D (tyC cI cW) [.int k, .int wd, .int dp] ([]) res ([]) := by
  refine CM_mk (by decide) (Nat.le_of_ble_eq_true rfl) ?_
  intro p e s m args below meth c A ls hx hb hr hml hown hk hlocks hA hSt hK hP hD hS hl
  have hown : s.vm.findClass R_Kinds = some m.cls := hown
  have hl : lv_has ls 4 [(0, .int k), (1, .int wd), (2, .int dp)] := hl
  obtain ⟨t_OWNERS, hZ_OWNERS, hT_OWNERS⟩ := hSt.OWNERS
  obtain ⟨t_OWNED, hZ_OWNED, hT_OWNED⟩ := hSt.OWNED
  refine lv_iload_n hx hb d_Kinds_reaches_0 rfl (lv_at hl 0 rfl) ?_
  refine lv_iconst (v := (-1 : Int32)) hx hb d_Kinds_reaches_1 (by decide) ?_
  refine lv_icmp_eq (tgt := 11) hx hb d_Kinds_reaches_2 (by decide) (fun c_2 => ?_) (fun c_2 => ?_)
  · subst c_2
    refine lv_iconst (v := (0 : Int32)) hx hb d_Kinds_reaches_11 (by decide) ?_
    obtain rfl : res = (0 : Int32) := hres.symm.trans ((if_pos (by rfl)).trans rfl)
    exact CM_zret hx hb hr hlocks rfl hP hK hD hS d_Kinds_reaches_12
  · refine lv_iload_n hx hb d_Kinds_reaches_5 rfl (lv_at hl 2 rfl) ?_
    refine lv_bipush (v := (34 : Int32)) hx hb d_Kinds_reaches_6 (by decide) ?_
    refine lv_icmp_le (tgt := 13) hx hb d_Kinds_reaches_8 (by decide) (fun c_8 => ?_) (fun c_8 => ?_)
    · refine lv_iload_n hx hb d_Kinds_reaches_13 rfl (lv_at hl 0 rfl) ?_
      refine lv_iload_n hx hb d_Kinds_reaches_14 rfl (lv_at hl 1 rfl) ?_
      refine lv_icmp_eq (tgt := 32) hx hb d_Kinds_reaches_15 (by decide) (fun c_15 => ?_) (fun c_15 => ?_)
      · refine lv_iconst (v := (1 : Int32)) hx hb d_Kinds_reaches_32 (by decide) ?_
        obtain rfl : res = (1 : Int32) := hres.symm.trans ((if_neg c_2).trans ((if_pos c_8).trans ((if_pos c_15).trans rfl)))
        exact CM_zret hx hb hr hlocks rfl hP hK hD hS d_Kinds_reaches_33
      · refine lv_iload_n hx hb d_Kinds_reaches_18 rfl (lv_at hl 0 rfl) ?_
        refine CM.callS (wc := []) (wr := []) (av := [.int k]) (rest := []) hx hb hml hown hk (c_Kinds_up l D cI cW k _ rfl) hK hP hD hS hA hSt hl.1 d_Kinds_reaches_19 kc_Kinds_up ki_Kinds kl_Kinds_23 ks_Kinds_up (n := 1) rfl (by decide +kernel) ⟨(by show 1 + 1 ≤ n + 1; have h1 := hp.2.1; have h2 := hp.2.2; omega), (by show 8 + (1 + 11) + 20 ≤ 40 * (n + 1); have h1 := hp.2.1; have h2 := hp.2.2; omega)⟩ rfl rfl (Nat.le_of_ble_eq_true rfl) ⟨Nat.zero_le _, Nat.zero_le _⟩ (fun H locs hP hD hS => ?_)
        have hP : va_P D classes ([]) H := hP
        have hD : va_D A ([]) := hD
        refine lv_iload_n hx hb d_Kinds_reaches_22 rfl (lv_at hl 1 rfl) ?_
        refine lv_iload_n hx hb d_Kinds_reaches_23 rfl (lv_at hl 2 rfl) ?_
        refine lv_iconst (v := (1 : Int32)) hx hb d_Kinds_reaches_24 (by decide) ?_
        refine lv_iadd hx hb d_Kinds_reaches_25 ?_
        refine CM.callS (wc := []) (wr := []) (av := [.int (m_Kinds_up k), .int wd, .int (dp + (1 : Int32))]) (rest := []) hx hb hml hown hk (hg (m_Kinds_up k) wd (dp + (1 : Int32)) (pRe_step hp c_8)) hK hP hD hS hA hSt hl.1 d_Kinds_reaches_26 kc_Kinds_reaches ki_Kinds kl_Kinds_19 ks_Kinds_reaches (n := 3) rfl (by decide +kernel) ⟨Nat.le_refl _, (by show 8 + (4 + 11) + 40 * n ≤ 40 * (n + 1); omega)⟩ rfl rfl (Nat.le_of_ble_eq_true rfl) ⟨Nat.zero_le _, Nat.zero_le _⟩ (fun H locs hP hD hS => ?_)
        have hP : va_P D classes ([]) H := hP
        have hD : va_D A ([]) := hD
        refine lv_if_eq (tgt := 34) hx hb d_Kinds_reaches_29 (by decide) (fun c_29 => ?_) (fun c_29 => ?_)
        · refine lv_iconst (v := (0 : Int32)) hx hb d_Kinds_reaches_34 (by decide) ?_
          refine lv_istore_n (lv' := [(3, .int (0 : Int32)), (0, .int k), (1, .int wd), (2, .int dp)]) hx hb d_Kinds_reaches_35 rfl hl (by decide) rfl (fun ls hl => ?_)
          refine lv_iload_n hx hb d_Kinds_reaches_36 rfl (lv_at hl 0 rfl) ?_
          refine va_gets hx hb hZ_OWNERS hS hown (hk _ kl_Kinds_27) (fun _ h9 => h9) d_Kinds_reaches_37 ?_
          refine va_tlen hx hb hT_OWNERS hS (v := (5 : Int32)) (by decide) d_Kinds_reaches_40 ?_
          refine lv_icmp_ge (tgt := 76) hx hb d_Kinds_reaches_41 (by decide) (fun h9 => absurd h9 (by decide)) (fun _ => ?_)
          refine va_gets hx hb hZ_OWNERS hS hown (hk _ kl_Kinds_27) (fun _ h9 => h9) d_Kinds_reaches_44 ?_
          refine lv_iload_n hx hb d_Kinds_reaches_47 rfl (lv_at hl 0 rfl) ?_
          refine va_ti (v := .int (1 : Int32)) hx hb hT_OWNERS hS (by unfold vp_in; decide) rfl d_Kinds_reaches_48 ?_
          refine lv_iload_n hx hb d_Kinds_reaches_49 rfl (lv_at hl 1 rfl) ?_
          refine lv_icmp_ne (tgt := 70) hx hb d_Kinds_reaches_50 (by decide) (fun c_50 => ?_) (fun c_50 => ?_)
          · refine lv_iinc (v := (1 : Int32)) (lv' := [(3, .int (1 : Int32)), (0, .int k), (1, .int wd), (2, .int dp)]) hx hb d_Kinds_reaches_70 hl (k := 0) rfl (by decide) (by decide) rfl (fun ls hl => ?_)
            refine lv_goto (tgt := 36) hx hb d_Kinds_reaches_73 (by decide) ?_
            refine lv_iload_n hx hb d_Kinds_reaches_36 rfl (lv_at hl 0 rfl) ?_
            refine va_gets hx hb hZ_OWNERS hS hown (hk _ kl_Kinds_27) (fun _ h9 => h9) d_Kinds_reaches_37 ?_
            refine va_tlen hx hb hT_OWNERS hS (v := (5 : Int32)) (by decide) d_Kinds_reaches_40 ?_
            refine lv_icmp_ge (tgt := 76) hx hb d_Kinds_reaches_41 (by decide) (fun h9 => absurd h9 (by decide)) (fun _ => ?_)
            refine va_gets hx hb hZ_OWNERS hS hown (hk _ kl_Kinds_27) (fun _ h9 => h9) d_Kinds_reaches_44 ?_
            refine lv_iload_n hx hb d_Kinds_reaches_47 rfl (lv_at hl 0 rfl) ?_
            refine va_ti (v := .int (1 : Int32)) hx hb hT_OWNERS hS (by unfold vp_in; decide) rfl d_Kinds_reaches_48 ?_
            refine lv_iload_n hx hb d_Kinds_reaches_49 rfl (lv_at hl 1 rfl) ?_
            refine lv_icmp_ne (tgt := 70) hx hb d_Kinds_reaches_50 (by decide) (fun _ => ?_) (fun h9 => absurd h9 c_50)
            refine lv_iinc (v := (2 : Int32)) (lv' := [(3, .int (2 : Int32)), (0, .int k), (1, .int wd), (2, .int dp)]) hx hb d_Kinds_reaches_70 hl (k := 0) rfl (by decide) (by decide) rfl (fun ls hl => ?_)
            refine lv_goto (tgt := 36) hx hb d_Kinds_reaches_73 (by decide) ?_
            refine lv_iload_n hx hb d_Kinds_reaches_36 rfl (lv_at hl 0 rfl) ?_
            refine va_gets hx hb hZ_OWNERS hS hown (hk _ kl_Kinds_27) (fun _ h9 => h9) d_Kinds_reaches_37 ?_
            refine va_tlen hx hb hT_OWNERS hS (v := (5 : Int32)) (by decide) d_Kinds_reaches_40 ?_
            refine lv_icmp_ge (tgt := 76) hx hb d_Kinds_reaches_41 (by decide) (fun h9 => absurd h9 (by decide)) (fun _ => ?_)
            refine va_gets hx hb hZ_OWNERS hS hown (hk _ kl_Kinds_27) (fun _ h9 => h9) d_Kinds_reaches_44 ?_
            refine lv_iload_n hx hb d_Kinds_reaches_47 rfl (lv_at hl 0 rfl) ?_
            refine va_ti (v := .int (4 : Int32)) hx hb hT_OWNERS hS (by unfold vp_in; decide) rfl d_Kinds_reaches_48 ?_
            refine lv_iload_n hx hb d_Kinds_reaches_49 rfl (lv_at hl 1 rfl) ?_
            refine lv_icmp_ne (tgt := 70) hx hb d_Kinds_reaches_50 (by decide) (fun c_50_1 => ?_) (fun c_50_1 => ?_)
            · refine lv_iinc (v := (3 : Int32)) (lv' := [(3, .int (3 : Int32)), (0, .int k), (1, .int wd), (2, .int dp)]) hx hb d_Kinds_reaches_70 hl (k := 0) rfl (by decide) (by decide) rfl (fun ls hl => ?_)
              refine lv_goto (tgt := 36) hx hb d_Kinds_reaches_73 (by decide) ?_
              refine lv_iload_n hx hb d_Kinds_reaches_36 rfl (lv_at hl 0 rfl) ?_
              refine va_gets hx hb hZ_OWNERS hS hown (hk _ kl_Kinds_27) (fun _ h9 => h9) d_Kinds_reaches_37 ?_
              refine va_tlen hx hb hT_OWNERS hS (v := (5 : Int32)) (by decide) d_Kinds_reaches_40 ?_
              refine lv_icmp_ge (tgt := 76) hx hb d_Kinds_reaches_41 (by decide) (fun h9 => absurd h9 (by decide)) (fun _ => ?_)
              refine va_gets hx hb hZ_OWNERS hS hown (hk _ kl_Kinds_27) (fun _ h9 => h9) d_Kinds_reaches_44 ?_
              refine lv_iload_n hx hb d_Kinds_reaches_47 rfl (lv_at hl 0 rfl) ?_
              refine va_ti (v := .int (6 : Int32)) hx hb hT_OWNERS hS (by unfold vp_in; decide) rfl d_Kinds_reaches_48 ?_
              refine lv_iload_n hx hb d_Kinds_reaches_49 rfl (lv_at hl 1 rfl) ?_
              refine lv_icmp_ne (tgt := 70) hx hb d_Kinds_reaches_50 (by decide) (fun c_50_2 => ?_) (fun c_50_2 => ?_)
              · refine lv_iinc (v := (4 : Int32)) (lv' := [(3, .int (4 : Int32)), (0, .int k), (1, .int wd), (2, .int dp)]) hx hb d_Kinds_reaches_70 hl (k := 0) rfl (by decide) (by decide) rfl (fun ls hl => ?_)
                refine lv_goto (tgt := 36) hx hb d_Kinds_reaches_73 (by decide) ?_
                refine lv_iload_n hx hb d_Kinds_reaches_36 rfl (lv_at hl 0 rfl) ?_
                refine va_gets hx hb hZ_OWNERS hS hown (hk _ kl_Kinds_27) (fun _ h9 => h9) d_Kinds_reaches_37 ?_
                refine va_tlen hx hb hT_OWNERS hS (v := (5 : Int32)) (by decide) d_Kinds_reaches_40 ?_
                refine lv_icmp_ge (tgt := 76) hx hb d_Kinds_reaches_41 (by decide) (fun h9 => absurd h9 (by decide)) (fun _ => ?_)
                refine va_gets hx hb hZ_OWNERS hS hown (hk _ kl_Kinds_27) (fun _ h9 => h9) d_Kinds_reaches_44 ?_
                refine lv_iload_n hx hb d_Kinds_reaches_47 rfl (lv_at hl 0 rfl) ?_
                refine va_ti (v := .int (7 : Int32)) hx hb hT_OWNERS hS (by unfold vp_in; decide) rfl d_Kinds_reaches_48 ?_
                refine lv_iload_n hx hb d_Kinds_reaches_49 rfl (lv_at hl 1 rfl) ?_
                refine lv_icmp_ne (tgt := 70) hx hb d_Kinds_reaches_50 (by decide) (fun c_50_3 => ?_) (fun c_50_3 => ?_)
                · refine lv_iinc (v := (5 : Int32)) (lv' := [(3, .int (5 : Int32)), (0, .int k), (1, .int wd), (2, .int dp)]) hx hb d_Kinds_reaches_70 hl (k := 0) rfl (by decide) (by decide) rfl (fun ls hl => ?_)
                  refine lv_goto (tgt := 36) hx hb d_Kinds_reaches_73 (by decide) ?_
                  refine lv_iload_n hx hb d_Kinds_reaches_36 rfl (lv_at hl 0 rfl) ?_
                  refine va_gets hx hb hZ_OWNERS hS hown (hk _ kl_Kinds_27) (fun _ h9 => h9) d_Kinds_reaches_37 ?_
                  refine va_tlen hx hb hT_OWNERS hS (v := (5 : Int32)) (by decide) d_Kinds_reaches_40 ?_
                  refine lv_icmp_ge (tgt := 76) hx hb d_Kinds_reaches_41 (by decide) (fun _ => ?_) (fun h9 => absurd (by decide) h9)
                  refine lv_iconst (v := (0 : Int32)) hx hb d_Kinds_reaches_76 (by decide) ?_
                  obtain rfl : res = (0 : Int32) := hres.symm.trans ((if_neg c_2).trans ((if_pos c_8).trans ((if_neg c_15).trans ((if_pos c_29).trans ((if_neg c_50).trans ((if_neg c_50_1).trans ((if_neg c_50_2).trans ((if_neg c_50_3).trans rfl))))))))
                  exact CM_zret hx hb hr hlocks rfl hP hK hD hS d_Kinds_reaches_77
                · subst c_50_3
                  refine va_gets hx hb hZ_OWNED hS hown (hk _ kl_Kinds_30) (fun _ h9 => h9) d_Kinds_reaches_53 ?_
                  refine lv_iload_n hx hb d_Kinds_reaches_56 rfl (lv_at hl 0 rfl) ?_
                  refine va_ti (v := .int (4 : Int32)) hx hb hT_OWNED hS (by unfold vp_in; decide) rfl d_Kinds_reaches_57 ?_
                  refine lv_iload_n hx hb d_Kinds_reaches_58 rfl (lv_at hl 2 rfl) ?_
                  refine lv_iload_n hx hb d_Kinds_reaches_59 rfl (lv_at hl 3 rfl) ?_
                  refine lv_iconst (v := (1 : Int32)) hx hb d_Kinds_reaches_60 (by decide) ?_
                  refine lv_iadd hx hb d_Kinds_reaches_61 ?_
                  refine CM.callS (wc := []) (wr := []) (av := [.int (4 : Int32), .int wd, .int (dp + (1 : Int32))]) (rest := []) hx hb hml hown hk (hg (4 : Int32) wd (dp + (1 : Int32)) (pRe_step hp c_8)) hK hP hD hS hA hSt hl.1 d_Kinds_reaches_62 kc_Kinds_reaches ki_Kinds kl_Kinds_19 ks_Kinds_reaches (n := 3) rfl (by decide +kernel) ⟨Nat.le_refl _, (by show 8 + (4 + 11) + 40 * n ≤ 40 * (n + 1); omega)⟩ rfl rfl (Nat.le_of_ble_eq_true rfl) ⟨Nat.zero_le _, Nat.zero_le _⟩ (fun H locs hP hD hS => ?_)
                  have hP : va_P D classes ([]) H := hP
                  have hD : va_D A ([]) := hD
                  refine lv_if_eq (tgt := 70) hx hb d_Kinds_reaches_65 (by decide) (fun c_65 => ?_) (fun c_65 => ?_)
                  · refine lv_iinc (v := (5 : Int32)) (lv' := [(3, .int (5 : Int32)), (0, .int (7 : Int32)), (1, .int wd), (2, .int dp)]) hx hb d_Kinds_reaches_70 hl (k := 0) rfl (by decide) (by decide) rfl (fun ls hl => ?_)
                    refine lv_goto (tgt := 36) hx hb d_Kinds_reaches_73 (by decide) ?_
                    refine lv_iload_n hx hb d_Kinds_reaches_36 rfl (lv_at hl 0 rfl) ?_
                    refine va_gets hx hb hZ_OWNERS hS hown (hk _ kl_Kinds_27) (fun _ h9 => h9) d_Kinds_reaches_37 ?_
                    refine va_tlen hx hb hT_OWNERS hS (v := (5 : Int32)) (by decide) d_Kinds_reaches_40 ?_
                    refine lv_icmp_ge (tgt := 76) hx hb d_Kinds_reaches_41 (by decide) (fun _ => ?_) (fun h9 => absurd (by decide) h9)
                    refine lv_iconst (v := (0 : Int32)) hx hb d_Kinds_reaches_76 (by decide) ?_
                    obtain rfl : res = (0 : Int32) := hres.symm.trans ((if_neg c_2).trans ((if_pos c_8).trans ((if_neg c_15).trans ((if_pos c_29).trans ((if_neg c_50).trans ((if_neg c_50_1).trans ((if_neg c_50_2).trans ((if_pos (by rfl)).trans ((if_pos c_65).trans rfl)))))))))
                    exact CM_zret hx hb hr hlocks rfl hP hK hD hS d_Kinds_reaches_77
                  · refine lv_iconst (v := (1 : Int32)) hx hb d_Kinds_reaches_68 (by decide) ?_
                    obtain rfl : res = (1 : Int32) := hres.symm.trans ((if_neg c_2).trans ((if_pos c_8).trans ((if_neg c_15).trans ((if_pos c_29).trans ((if_neg c_50).trans ((if_neg c_50_1).trans ((if_neg c_50_2).trans ((if_pos (by rfl)).trans ((if_neg c_65).trans rfl)))))))))
                    exact CM_zret hx hb hr hlocks rfl hP hK hD hS d_Kinds_reaches_69
              · subst c_50_2
                refine va_gets hx hb hZ_OWNED hS hown (hk _ kl_Kinds_30) (fun _ h9 => h9) d_Kinds_reaches_53 ?_
                refine lv_iload_n hx hb d_Kinds_reaches_56 rfl (lv_at hl 0 rfl) ?_
                refine va_ti (v := .int (3 : Int32)) hx hb hT_OWNED hS (by unfold vp_in; decide) rfl d_Kinds_reaches_57 ?_
                refine lv_iload_n hx hb d_Kinds_reaches_58 rfl (lv_at hl 2 rfl) ?_
                refine lv_iload_n hx hb d_Kinds_reaches_59 rfl (lv_at hl 3 rfl) ?_
                refine lv_iconst (v := (1 : Int32)) hx hb d_Kinds_reaches_60 (by decide) ?_
                refine lv_iadd hx hb d_Kinds_reaches_61 ?_
                refine CM.callS (wc := []) (wr := []) (av := [.int (3 : Int32), .int wd, .int (dp + (1 : Int32))]) (rest := []) hx hb hml hown hk (hg (3 : Int32) wd (dp + (1 : Int32)) (pRe_step hp c_8)) hK hP hD hS hA hSt hl.1 d_Kinds_reaches_62 kc_Kinds_reaches ki_Kinds kl_Kinds_19 ks_Kinds_reaches (n := 3) rfl (by decide +kernel) ⟨Nat.le_refl _, (by show 8 + (4 + 11) + 40 * n ≤ 40 * (n + 1); omega)⟩ rfl rfl (Nat.le_of_ble_eq_true rfl) ⟨Nat.zero_le _, Nat.zero_le _⟩ (fun H locs hP hD hS => ?_)
                have hP : va_P D classes ([]) H := hP
                have hD : va_D A ([]) := hD
                refine lv_if_eq (tgt := 70) hx hb d_Kinds_reaches_65 (by decide) (fun c_65 => ?_) (fun c_65 => ?_)
                · refine lv_iinc (v := (4 : Int32)) (lv' := [(3, .int (4 : Int32)), (0, .int (6 : Int32)), (1, .int wd), (2, .int dp)]) hx hb d_Kinds_reaches_70 hl (k := 0) rfl (by decide) (by decide) rfl (fun ls hl => ?_)
                  refine lv_goto (tgt := 36) hx hb d_Kinds_reaches_73 (by decide) ?_
                  refine lv_iload_n hx hb d_Kinds_reaches_36 rfl (lv_at hl 0 rfl) ?_
                  refine va_gets hx hb hZ_OWNERS hS hown (hk _ kl_Kinds_27) (fun _ h9 => h9) d_Kinds_reaches_37 ?_
                  refine va_tlen hx hb hT_OWNERS hS (v := (5 : Int32)) (by decide) d_Kinds_reaches_40 ?_
                  refine lv_icmp_ge (tgt := 76) hx hb d_Kinds_reaches_41 (by decide) (fun h9 => absurd h9 (by decide)) (fun _ => ?_)
                  refine va_gets hx hb hZ_OWNERS hS hown (hk _ kl_Kinds_27) (fun _ h9 => h9) d_Kinds_reaches_44 ?_
                  refine lv_iload_n hx hb d_Kinds_reaches_47 rfl (lv_at hl 0 rfl) ?_
                  refine va_ti (v := .int (7 : Int32)) hx hb hT_OWNERS hS (by unfold vp_in; decide) rfl d_Kinds_reaches_48 ?_
                  refine lv_iload_n hx hb d_Kinds_reaches_49 rfl (lv_at hl 1 rfl) ?_
                  refine lv_icmp_ne (tgt := 70) hx hb d_Kinds_reaches_50 (by decide) (fun _ => ?_) (fun h9 => absurd h9 (by decide))
                  refine lv_iinc (v := (5 : Int32)) (lv' := [(3, .int (5 : Int32)), (0, .int (6 : Int32)), (1, .int wd), (2, .int dp)]) hx hb d_Kinds_reaches_70 hl (k := 0) rfl (by decide) (by decide) rfl (fun ls hl => ?_)
                  refine lv_goto (tgt := 36) hx hb d_Kinds_reaches_73 (by decide) ?_
                  refine lv_iload_n hx hb d_Kinds_reaches_36 rfl (lv_at hl 0 rfl) ?_
                  refine va_gets hx hb hZ_OWNERS hS hown (hk _ kl_Kinds_27) (fun _ h9 => h9) d_Kinds_reaches_37 ?_
                  refine va_tlen hx hb hT_OWNERS hS (v := (5 : Int32)) (by decide) d_Kinds_reaches_40 ?_
                  refine lv_icmp_ge (tgt := 76) hx hb d_Kinds_reaches_41 (by decide) (fun _ => ?_) (fun h9 => absurd (by decide) h9)
                  refine lv_iconst (v := (0 : Int32)) hx hb d_Kinds_reaches_76 (by decide) ?_
                  obtain rfl : res = (0 : Int32) := hres.symm.trans ((if_neg c_2).trans ((if_pos c_8).trans ((if_neg c_15).trans ((if_pos c_29).trans ((if_neg c_50).trans ((if_neg c_50_1).trans ((if_pos (by rfl)).trans ((if_pos c_65).trans rfl))))))))
                  exact CM_zret hx hb hr hlocks rfl hP hK hD hS d_Kinds_reaches_77
                · refine lv_iconst (v := (1 : Int32)) hx hb d_Kinds_reaches_68 (by decide) ?_
                  obtain rfl : res = (1 : Int32) := hres.symm.trans ((if_neg c_2).trans ((if_pos c_8).trans ((if_neg c_15).trans ((if_pos c_29).trans ((if_neg c_50).trans ((if_neg c_50_1).trans ((if_pos (by rfl)).trans ((if_neg c_65).trans rfl))))))))
                  exact CM_zret hx hb hr hlocks rfl hP hK hD hS d_Kinds_reaches_69
            · subst c_50_1
              refine va_gets hx hb hZ_OWNED hS hown (hk _ kl_Kinds_30) (fun _ h9 => h9) d_Kinds_reaches_53 ?_
              refine lv_iload_n hx hb d_Kinds_reaches_56 rfl (lv_at hl 0 rfl) ?_
              refine va_ti (v := .int (3 : Int32)) hx hb hT_OWNED hS (by unfold vp_in; decide) rfl d_Kinds_reaches_57 ?_
              refine lv_iload_n hx hb d_Kinds_reaches_58 rfl (lv_at hl 2 rfl) ?_
              refine lv_iload_n hx hb d_Kinds_reaches_59 rfl (lv_at hl 3 rfl) ?_
              refine lv_iconst (v := (1 : Int32)) hx hb d_Kinds_reaches_60 (by decide) ?_
              refine lv_iadd hx hb d_Kinds_reaches_61 ?_
              refine CM.callS (wc := []) (wr := []) (av := [.int (3 : Int32), .int wd, .int (dp + (1 : Int32))]) (rest := []) hx hb hml hown hk (hg (3 : Int32) wd (dp + (1 : Int32)) (pRe_step hp c_8)) hK hP hD hS hA hSt hl.1 d_Kinds_reaches_62 kc_Kinds_reaches ki_Kinds kl_Kinds_19 ks_Kinds_reaches (n := 3) rfl (by decide +kernel) ⟨Nat.le_refl _, (by show 8 + (4 + 11) + 40 * n ≤ 40 * (n + 1); omega)⟩ rfl rfl (Nat.le_of_ble_eq_true rfl) ⟨Nat.zero_le _, Nat.zero_le _⟩ (fun H locs hP hD hS => ?_)
              have hP : va_P D classes ([]) H := hP
              have hD : va_D A ([]) := hD
              refine lv_if_eq (tgt := 70) hx hb d_Kinds_reaches_65 (by decide) (fun c_65 => ?_) (fun c_65 => ?_)
              · refine lv_iinc (v := (3 : Int32)) (lv' := [(3, .int (3 : Int32)), (0, .int (4 : Int32)), (1, .int wd), (2, .int dp)]) hx hb d_Kinds_reaches_70 hl (k := 0) rfl (by decide) (by decide) rfl (fun ls hl => ?_)
                refine lv_goto (tgt := 36) hx hb d_Kinds_reaches_73 (by decide) ?_
                refine lv_iload_n hx hb d_Kinds_reaches_36 rfl (lv_at hl 0 rfl) ?_
                refine va_gets hx hb hZ_OWNERS hS hown (hk _ kl_Kinds_27) (fun _ h9 => h9) d_Kinds_reaches_37 ?_
                refine va_tlen hx hb hT_OWNERS hS (v := (5 : Int32)) (by decide) d_Kinds_reaches_40 ?_
                refine lv_icmp_ge (tgt := 76) hx hb d_Kinds_reaches_41 (by decide) (fun h9 => absurd h9 (by decide)) (fun _ => ?_)
                refine va_gets hx hb hZ_OWNERS hS hown (hk _ kl_Kinds_27) (fun _ h9 => h9) d_Kinds_reaches_44 ?_
                refine lv_iload_n hx hb d_Kinds_reaches_47 rfl (lv_at hl 0 rfl) ?_
                refine va_ti (v := .int (6 : Int32)) hx hb hT_OWNERS hS (by unfold vp_in; decide) rfl d_Kinds_reaches_48 ?_
                refine lv_iload_n hx hb d_Kinds_reaches_49 rfl (lv_at hl 1 rfl) ?_
                refine lv_icmp_ne (tgt := 70) hx hb d_Kinds_reaches_50 (by decide) (fun _ => ?_) (fun h9 => absurd h9 (by decide))
                refine lv_iinc (v := (4 : Int32)) (lv' := [(3, .int (4 : Int32)), (0, .int (4 : Int32)), (1, .int wd), (2, .int dp)]) hx hb d_Kinds_reaches_70 hl (k := 0) rfl (by decide) (by decide) rfl (fun ls hl => ?_)
                refine lv_goto (tgt := 36) hx hb d_Kinds_reaches_73 (by decide) ?_
                refine lv_iload_n hx hb d_Kinds_reaches_36 rfl (lv_at hl 0 rfl) ?_
                refine va_gets hx hb hZ_OWNERS hS hown (hk _ kl_Kinds_27) (fun _ h9 => h9) d_Kinds_reaches_37 ?_
                refine va_tlen hx hb hT_OWNERS hS (v := (5 : Int32)) (by decide) d_Kinds_reaches_40 ?_
                refine lv_icmp_ge (tgt := 76) hx hb d_Kinds_reaches_41 (by decide) (fun h9 => absurd h9 (by decide)) (fun _ => ?_)
                refine va_gets hx hb hZ_OWNERS hS hown (hk _ kl_Kinds_27) (fun _ h9 => h9) d_Kinds_reaches_44 ?_
                refine lv_iload_n hx hb d_Kinds_reaches_47 rfl (lv_at hl 0 rfl) ?_
                refine va_ti (v := .int (7 : Int32)) hx hb hT_OWNERS hS (by unfold vp_in; decide) rfl d_Kinds_reaches_48 ?_
                refine lv_iload_n hx hb d_Kinds_reaches_49 rfl (lv_at hl 1 rfl) ?_
                refine lv_icmp_ne (tgt := 70) hx hb d_Kinds_reaches_50 (by decide) (fun _ => ?_) (fun h9 => absurd h9 (by decide))
                refine lv_iinc (v := (5 : Int32)) (lv' := [(3, .int (5 : Int32)), (0, .int (4 : Int32)), (1, .int wd), (2, .int dp)]) hx hb d_Kinds_reaches_70 hl (k := 0) rfl (by decide) (by decide) rfl (fun ls hl => ?_)
                refine lv_goto (tgt := 36) hx hb d_Kinds_reaches_73 (by decide) ?_
                refine lv_iload_n hx hb d_Kinds_reaches_36 rfl (lv_at hl 0 rfl) ?_
                refine va_gets hx hb hZ_OWNERS hS hown (hk _ kl_Kinds_27) (fun _ h9 => h9) d_Kinds_reaches_37 ?_
                refine va_tlen hx hb hT_OWNERS hS (v := (5 : Int32)) (by decide) d_Kinds_reaches_40 ?_
                refine lv_icmp_ge (tgt := 76) hx hb d_Kinds_reaches_41 (by decide) (fun _ => ?_) (fun h9 => absurd (by decide) h9)
                refine lv_iconst (v := (0 : Int32)) hx hb d_Kinds_reaches_76 (by decide) ?_
                obtain rfl : res = (0 : Int32) := hres.symm.trans ((if_neg c_2).trans ((if_pos c_8).trans ((if_neg c_15).trans ((if_pos c_29).trans ((if_neg c_50).trans ((if_pos (by rfl)).trans ((if_pos c_65).trans rfl)))))))
                exact CM_zret hx hb hr hlocks rfl hP hK hD hS d_Kinds_reaches_77
              · refine lv_iconst (v := (1 : Int32)) hx hb d_Kinds_reaches_68 (by decide) ?_
                obtain rfl : res = (1 : Int32) := hres.symm.trans ((if_neg c_2).trans ((if_pos c_8).trans ((if_neg c_15).trans ((if_pos c_29).trans ((if_neg c_50).trans ((if_pos (by rfl)).trans ((if_neg c_65).trans rfl)))))))
                exact CM_zret hx hb hr hlocks rfl hP hK hD hS d_Kinds_reaches_69
          · subst c_50
            refine va_gets hx hb hZ_OWNED hS hown (hk _ kl_Kinds_30) (fun _ h9 => h9) d_Kinds_reaches_53 ?_
            refine lv_iload_n hx hb d_Kinds_reaches_56 rfl (lv_at hl 0 rfl) ?_
            refine va_ti (v := .int (3 : Int32)) hx hb hT_OWNED hS (by unfold vp_in; decide) rfl d_Kinds_reaches_57 ?_
            refine lv_iload_n hx hb d_Kinds_reaches_58 rfl (lv_at hl 2 rfl) ?_
            refine lv_iload_n hx hb d_Kinds_reaches_59 rfl (lv_at hl 3 rfl) ?_
            refine lv_iconst (v := (1 : Int32)) hx hb d_Kinds_reaches_60 (by decide) ?_
            refine lv_iadd hx hb d_Kinds_reaches_61 ?_
            refine CM.callS (wc := []) (wr := []) (av := [.int (3 : Int32), .int wd, .int (dp + (1 : Int32))]) (rest := []) hx hb hml hown hk (hg (3 : Int32) wd (dp + (1 : Int32)) (pRe_step hp c_8)) hK hP hD hS hA hSt hl.1 d_Kinds_reaches_62 kc_Kinds_reaches ki_Kinds kl_Kinds_19 ks_Kinds_reaches (n := 3) rfl (by decide +kernel) ⟨Nat.le_refl _, (by show 8 + (4 + 11) + 40 * n ≤ 40 * (n + 1); omega)⟩ rfl rfl (Nat.le_of_ble_eq_true rfl) ⟨Nat.zero_le _, Nat.zero_le _⟩ (fun H locs hP hD hS => ?_)
            have hP : va_P D classes ([]) H := hP
            have hD : va_D A ([]) := hD
            refine lv_if_eq (tgt := 70) hx hb d_Kinds_reaches_65 (by decide) (fun c_65 => ?_) (fun c_65 => ?_)
            · refine lv_iinc (v := (1 : Int32)) (lv' := [(3, .int (1 : Int32)), (0, .int (1 : Int32)), (1, .int wd), (2, .int dp)]) hx hb d_Kinds_reaches_70 hl (k := 0) rfl (by decide) (by decide) rfl (fun ls hl => ?_)
              refine lv_goto (tgt := 36) hx hb d_Kinds_reaches_73 (by decide) ?_
              refine lv_iload_n hx hb d_Kinds_reaches_36 rfl (lv_at hl 0 rfl) ?_
              refine va_gets hx hb hZ_OWNERS hS hown (hk _ kl_Kinds_27) (fun _ h9 => h9) d_Kinds_reaches_37 ?_
              refine va_tlen hx hb hT_OWNERS hS (v := (5 : Int32)) (by decide) d_Kinds_reaches_40 ?_
              refine lv_icmp_ge (tgt := 76) hx hb d_Kinds_reaches_41 (by decide) (fun h9 => absurd h9 (by decide)) (fun _ => ?_)
              refine va_gets hx hb hZ_OWNERS hS hown (hk _ kl_Kinds_27) (fun _ h9 => h9) d_Kinds_reaches_44 ?_
              refine lv_iload_n hx hb d_Kinds_reaches_47 rfl (lv_at hl 0 rfl) ?_
              refine va_ti (v := .int (1 : Int32)) hx hb hT_OWNERS hS (by unfold vp_in; decide) rfl d_Kinds_reaches_48 ?_
              refine lv_iload_n hx hb d_Kinds_reaches_49 rfl (lv_at hl 1 rfl) ?_
              refine lv_icmp_ne (tgt := 70) hx hb d_Kinds_reaches_50 (by decide) (fun h9 => absurd (by decide) h9) (fun _ => ?_)
              refine va_gets hx hb hZ_OWNED hS hown (hk _ kl_Kinds_30) (fun _ h9 => h9) d_Kinds_reaches_53 ?_
              refine lv_iload_n hx hb d_Kinds_reaches_56 rfl (lv_at hl 0 rfl) ?_
              refine va_ti (v := .int (5 : Int32)) hx hb hT_OWNED hS (by unfold vp_in; decide) rfl d_Kinds_reaches_57 ?_
              refine lv_iload_n hx hb d_Kinds_reaches_58 rfl (lv_at hl 2 rfl) ?_
              refine lv_iload_n hx hb d_Kinds_reaches_59 rfl (lv_at hl 3 rfl) ?_
              refine lv_iconst (v := (1 : Int32)) hx hb d_Kinds_reaches_60 (by decide) ?_
              refine lv_iadd hx hb d_Kinds_reaches_61 ?_
              refine CM.callS (wc := []) (wr := []) (av := [.int (5 : Int32), .int wd, .int (dp + (1 : Int32))]) (rest := []) hx hb hml hown hk (hg (5 : Int32) wd (dp + (1 : Int32)) (pRe_step hp c_8)) hK hP hD hS hA hSt hl.1 d_Kinds_reaches_62 kc_Kinds_reaches ki_Kinds kl_Kinds_19 ks_Kinds_reaches (n := 3) rfl (by decide +kernel) ⟨Nat.le_refl _, (by show 8 + (4 + 11) + 40 * n ≤ 40 * (n + 1); omega)⟩ rfl rfl (Nat.le_of_ble_eq_true rfl) ⟨Nat.zero_le _, Nat.zero_le _⟩ (fun H locs hP hD hS => ?_)
              have hP : va_P D classes ([]) H := hP
              have hD : va_D A ([]) := hD
              refine lv_if_eq (tgt := 70) hx hb d_Kinds_reaches_65 (by decide) (fun c_65_1 => ?_) (fun c_65_1 => ?_)
              · refine lv_iinc (v := (2 : Int32)) (lv' := [(3, .int (2 : Int32)), (0, .int (1 : Int32)), (1, .int wd), (2, .int dp)]) hx hb d_Kinds_reaches_70 hl (k := 0) rfl (by decide) (by decide) rfl (fun ls hl => ?_)
                refine lv_goto (tgt := 36) hx hb d_Kinds_reaches_73 (by decide) ?_
                refine lv_iload_n hx hb d_Kinds_reaches_36 rfl (lv_at hl 0 rfl) ?_
                refine va_gets hx hb hZ_OWNERS hS hown (hk _ kl_Kinds_27) (fun _ h9 => h9) d_Kinds_reaches_37 ?_
                refine va_tlen hx hb hT_OWNERS hS (v := (5 : Int32)) (by decide) d_Kinds_reaches_40 ?_
                refine lv_icmp_ge (tgt := 76) hx hb d_Kinds_reaches_41 (by decide) (fun h9 => absurd h9 (by decide)) (fun _ => ?_)
                refine va_gets hx hb hZ_OWNERS hS hown (hk _ kl_Kinds_27) (fun _ h9 => h9) d_Kinds_reaches_44 ?_
                refine lv_iload_n hx hb d_Kinds_reaches_47 rfl (lv_at hl 0 rfl) ?_
                refine va_ti (v := .int (4 : Int32)) hx hb hT_OWNERS hS (by unfold vp_in; decide) rfl d_Kinds_reaches_48 ?_
                refine lv_iload_n hx hb d_Kinds_reaches_49 rfl (lv_at hl 1 rfl) ?_
                refine lv_icmp_ne (tgt := 70) hx hb d_Kinds_reaches_50 (by decide) (fun _ => ?_) (fun h9 => absurd h9 (by decide))
                refine lv_iinc (v := (3 : Int32)) (lv' := [(3, .int (3 : Int32)), (0, .int (1 : Int32)), (1, .int wd), (2, .int dp)]) hx hb d_Kinds_reaches_70 hl (k := 0) rfl (by decide) (by decide) rfl (fun ls hl => ?_)
                refine lv_goto (tgt := 36) hx hb d_Kinds_reaches_73 (by decide) ?_
                refine lv_iload_n hx hb d_Kinds_reaches_36 rfl (lv_at hl 0 rfl) ?_
                refine va_gets hx hb hZ_OWNERS hS hown (hk _ kl_Kinds_27) (fun _ h9 => h9) d_Kinds_reaches_37 ?_
                refine va_tlen hx hb hT_OWNERS hS (v := (5 : Int32)) (by decide) d_Kinds_reaches_40 ?_
                refine lv_icmp_ge (tgt := 76) hx hb d_Kinds_reaches_41 (by decide) (fun h9 => absurd h9 (by decide)) (fun _ => ?_)
                refine va_gets hx hb hZ_OWNERS hS hown (hk _ kl_Kinds_27) (fun _ h9 => h9) d_Kinds_reaches_44 ?_
                refine lv_iload_n hx hb d_Kinds_reaches_47 rfl (lv_at hl 0 rfl) ?_
                refine va_ti (v := .int (6 : Int32)) hx hb hT_OWNERS hS (by unfold vp_in; decide) rfl d_Kinds_reaches_48 ?_
                refine lv_iload_n hx hb d_Kinds_reaches_49 rfl (lv_at hl 1 rfl) ?_
                refine lv_icmp_ne (tgt := 70) hx hb d_Kinds_reaches_50 (by decide) (fun _ => ?_) (fun h9 => absurd h9 (by decide))
                refine lv_iinc (v := (4 : Int32)) (lv' := [(3, .int (4 : Int32)), (0, .int (1 : Int32)), (1, .int wd), (2, .int dp)]) hx hb d_Kinds_reaches_70 hl (k := 0) rfl (by decide) (by decide) rfl (fun ls hl => ?_)
                refine lv_goto (tgt := 36) hx hb d_Kinds_reaches_73 (by decide) ?_
                refine lv_iload_n hx hb d_Kinds_reaches_36 rfl (lv_at hl 0 rfl) ?_
                refine va_gets hx hb hZ_OWNERS hS hown (hk _ kl_Kinds_27) (fun _ h9 => h9) d_Kinds_reaches_37 ?_
                refine va_tlen hx hb hT_OWNERS hS (v := (5 : Int32)) (by decide) d_Kinds_reaches_40 ?_
                refine lv_icmp_ge (tgt := 76) hx hb d_Kinds_reaches_41 (by decide) (fun h9 => absurd h9 (by decide)) (fun _ => ?_)
                refine va_gets hx hb hZ_OWNERS hS hown (hk _ kl_Kinds_27) (fun _ h9 => h9) d_Kinds_reaches_44 ?_
                refine lv_iload_n hx hb d_Kinds_reaches_47 rfl (lv_at hl 0 rfl) ?_
                refine va_ti (v := .int (7 : Int32)) hx hb hT_OWNERS hS (by unfold vp_in; decide) rfl d_Kinds_reaches_48 ?_
                refine lv_iload_n hx hb d_Kinds_reaches_49 rfl (lv_at hl 1 rfl) ?_
                refine lv_icmp_ne (tgt := 70) hx hb d_Kinds_reaches_50 (by decide) (fun _ => ?_) (fun h9 => absurd h9 (by decide))
                refine lv_iinc (v := (5 : Int32)) (lv' := [(3, .int (5 : Int32)), (0, .int (1 : Int32)), (1, .int wd), (2, .int dp)]) hx hb d_Kinds_reaches_70 hl (k := 0) rfl (by decide) (by decide) rfl (fun ls hl => ?_)
                refine lv_goto (tgt := 36) hx hb d_Kinds_reaches_73 (by decide) ?_
                refine lv_iload_n hx hb d_Kinds_reaches_36 rfl (lv_at hl 0 rfl) ?_
                refine va_gets hx hb hZ_OWNERS hS hown (hk _ kl_Kinds_27) (fun _ h9 => h9) d_Kinds_reaches_37 ?_
                refine va_tlen hx hb hT_OWNERS hS (v := (5 : Int32)) (by decide) d_Kinds_reaches_40 ?_
                refine lv_icmp_ge (tgt := 76) hx hb d_Kinds_reaches_41 (by decide) (fun _ => ?_) (fun h9 => absurd (by decide) h9)
                refine lv_iconst (v := (0 : Int32)) hx hb d_Kinds_reaches_76 (by decide) ?_
                obtain rfl : res = (0 : Int32) := hres.symm.trans ((if_neg c_2).trans ((if_pos c_8).trans ((if_neg c_15).trans ((if_pos c_29).trans ((if_pos (by rfl)).trans ((if_pos c_65).trans ((if_pos c_65_1).trans rfl)))))))
                exact CM_zret hx hb hr hlocks rfl hP hK hD hS d_Kinds_reaches_77
              · refine lv_iconst (v := (1 : Int32)) hx hb d_Kinds_reaches_68 (by decide) ?_
                obtain rfl : res = (1 : Int32) := hres.symm.trans ((if_neg c_2).trans ((if_pos c_8).trans ((if_neg c_15).trans ((if_pos c_29).trans ((if_pos (by rfl)).trans ((if_pos c_65).trans ((if_neg c_65_1).trans rfl)))))))
                exact CM_zret hx hb hr hlocks rfl hP hK hD hS d_Kinds_reaches_69
            · refine lv_iconst (v := (1 : Int32)) hx hb d_Kinds_reaches_68 (by decide) ?_
              obtain rfl : res = (1 : Int32) := hres.symm.trans ((if_neg c_2).trans ((if_pos c_8).trans ((if_neg c_15).trans ((if_pos c_29).trans ((if_pos (by rfl)).trans ((if_neg c_65).trans rfl))))))
              exact CM_zret hx hb hr hlocks rfl hP hK hD hS d_Kinds_reaches_69
        · refine lv_iconst (v := (1 : Int32)) hx hb d_Kinds_reaches_32 (by decide) ?_
          obtain rfl : res = (1 : Int32) := hres.symm.trans ((if_neg c_2).trans ((if_pos c_8).trans ((if_neg c_15).trans ((if_neg c_29).trans rfl))))
          exact CM_zret hx hb hr hlocks rfl hP hK hD hS d_Kinds_reaches_33
    · refine lv_iconst (v := (0 : Int32)) hx hb d_Kinds_reaches_11 (by decide) ?_
      obtain rfl : res = (0 : Int32) := hres.symm.trans ((if_neg c_2).trans ((if_neg c_8).trans rfl))
      exact CM_zret hx hb hr hlocks rfl hP hK hD hS d_Kinds_reaches_12
theorem c_reaches (l : Launch) (D : va_G) (cI cW : ClassId) : ∀ n : Nat, KRe l D cI cW n (mRe n) := by
  intro n
  induction n with
  | zero =>
    intro k wd dp h
    have := h.2.1
    have := h.2.2
    omega
  | succ n ih => exact fun k wd dp h => c_Kinds_reaches l D cI cW n (mRe n) k wd dp ih h _ rfl
set_option maxHeartbeats 4000000 in
set_option maxRecDepth 100000 in
theorem c_Kinds_isWithin (l : Launch) (D : va_G) (cI cW : ClassId)   (k : Int32) (wd : Int32)  (res : Int32) (hres : m_Kinds_isWithin k wd = res) : CM l y_Kinds_isWithin b_Kinds_isWithin 2 .boolean ({ frames := 41, cells := 0, slots := 0, locals := 1623 }) D (tyC cI cW) [.int k, .int wd] ([]) res ([]) := by
  refine CM_mk (by decide) (Nat.le_of_ble_eq_true rfl) ?_
  intro p e s m args below meth c A ls hx hb hr hml hown hk hlocks hA hSt hK hP hD hS hl
  have hown : s.vm.findClass R_Kinds = some m.cls := hown
  have hl : lv_has ls 2 [(0, .int k), (1, .int wd)] := hl
  refine lv_iload_n hx hb d_Kinds_isWithin_0 rfl (lv_at hl 0 rfl) ?_
  refine lv_iload_n hx hb d_Kinds_isWithin_1 rfl (lv_at hl 1 rfl) ?_
  refine lv_iconst (v := (0 : Int32)) hx hb d_Kinds_isWithin_2 (by decide) ?_
  refine CM.callS (wc := []) (wr := []) (av := [.int k, .int wd, .int (0 : Int32)]) (rest := []) hx hb hml hown hk (c_reaches l D cI cW 40 k wd 0 pRe_top) hK hP hD hS hA hSt hl.1 d_Kinds_isWithin_3 kc_Kinds_reaches ki_Kinds kl_Kinds_19 ks_Kinds_reaches (n := 3) rfl (by decide +kernel) ⟨Nat.le_of_ble_eq_true rfl, Nat.le_of_ble_eq_true rfl⟩ rfl rfl (Nat.le_of_ble_eq_true rfl) ⟨Nat.zero_le _, Nat.zero_le _⟩ (fun H locs hP hD hS => ?_)
  have hP : va_P D classes ([]) H := hP
  have hD : va_D A ([]) := hD
  obtain rfl : res = (mRe 40 k wd 0) := hres.symm.trans rfl
  exact CM_zret hx hb hr hlocks (nar01 (mRe_01 _ _ _ _)) hP hK hD hS d_Kinds_isWithin_6

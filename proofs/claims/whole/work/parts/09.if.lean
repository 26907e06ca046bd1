set_option maxHeartbeats 4000000 in
set_option maxRecDepth 100000 in
theorem c_tIf (l : Launch) (D : va_G) (cI cW : ClassId) (q qn qv qs : Nat) (n : Nat) (gI : Int32 → Int32 → MW → MW) (gT : Int32 → Int32 → MW → MW × Int32) (k : Int32) (dp : Int32) (w : MW) (hI2 : KIf l D cI cW q qn qv qs n gI) (hT2 : KAt l D cI cW q qn qv qs n gT) (okI : okFv gI) (okT : okF gT) (hp : pIf (n + 1) dp w) (res : MW) (hres : m_tIf gI gT k dp w = res) : CMv l y_World_initialiseInterfaces b_World_initialiseInterfaces 4 (rmN (n + 1)) D (tyC cI cW) [.ref q, .int k, .int dp] (W4 cI q qn qv qs w) (W4 cI q qn qv qs res) := by
  refine CMv_mk (by decide) (Nat.le_of_ble_eq_true rfl) ?_
  intro p e s m args below meth c A ls hx hb hr hml hown hk hlocks hA hSt hK hP hD hS hl
  have hown : s.vm.findClass R_World = some m.cls := hown
  have hl : lv_has ls 4 [(0, .ref q), (1, .int k), (2, .int dp)] := hl
  obtain ⟨t_OWNERS, hZ_OWNERS, hT_OWNERS⟩ := hSt.OWNERS
  obtain ⟨t_OWNED, hZ_OWNED, hT_OWNED⟩ := hSt.OWNED
  refine lv_iload_n hx hb d_World_initialiseInterfaces_0 rfl (lv_at hl 2 rfl) ?_
  refine lv_bipush (v := (34 : Int32)) hx hb d_World_initialiseInterfaces_1 (by decide) ?_
  refine lv_icmp_le (tgt := 7) hx hb d_World_initialiseInterfaces_3 (by decide) (fun c_3 => ?_) (fun c_3 => ?_)
  · refine lv_iconst (v := (0 : Int32)) hx hb d_World_initialiseInterfaces_7 (by decide) ?_
    refine lv_istore_n (lv' := [(3, .int (0 : Int32)), (0, .ref q), (1, .int k), (2, .int dp)]) hx hb d_World_initialiseInterfaces_8 rfl hl (by decide) rfl (fun ls hl => ?_)
    refine lv_iload_n hx hb d_World_initialiseInterfaces_9 rfl (lv_at hl 0 rfl) ?_
    refine va_gets hx hb hZ_OWNERS hS hown (hk _ kl_World_56) (fun _ h9 => h9) d_World_initialiseInterfaces_10 ?_
    refine va_tlen hx hb hT_OWNERS hS (v := (5 : Int32)) (by decide) d_World_initialiseInterfaces_13 ?_
    refine lv_icmp_ge (tgt := 68) hx hb d_World_initialiseInterfaces_14 (by decide) (fun h9 => absurd h9 (by decide)) (fun _ => ?_)
    refine va_gets hx hb hZ_OWNERS hS hown (hk _ kl_World_56) (fun _ h9 => h9) d_World_initialiseInterfaces_17 ?_
    refine lv_iload_n hx hb d_World_initialiseInterfaces_20 rfl (lv_at hl 0 rfl) ?_
    refine va_ti (v := .int (1 : Int32)) hx hb hT_OWNERS hS (by unfold vp_in; decide) rfl d_World_initialiseInterfaces_21 ?_
    refine lv_iload_n hx hb d_World_initialiseInterfaces_22 rfl (lv_at hl 2 rfl) ?_
    refine lv_icmp_ne (tgt := 62) hx hb d_World_initialiseInterfaces_23 (by decide) (fun c_23 => ?_) (fun c_23 => ?_)
    · refine lv_iinc (v := (1 : Int32)) (lv' := [(3, .int (1 : Int32)), (0, .ref q), (1, .int k), (2, .int dp)]) hx hb d_World_initialiseInterfaces_62 hl (k := 0) rfl (by decide) (by decide) rfl (fun ls hl => ?_)
      refine lv_goto (tgt := 9) hx hb d_World_initialiseInterfaces_65 (by decide) ?_
      refine lv_iload_n hx hb d_World_initialiseInterfaces_9 rfl (lv_at hl 0 rfl) ?_
      refine va_gets hx hb hZ_OWNERS hS hown (hk _ kl_World_56) (fun _ h9 => h9) d_World_initialiseInterfaces_10 ?_
      refine va_tlen hx hb hT_OWNERS hS (v := (5 : Int32)) (by decide) d_World_initialiseInterfaces_13 ?_
      refine lv_icmp_ge (tgt := 68) hx hb d_World_initialiseInterfaces_14 (by decide) (fun h9 => absurd h9 (by decide)) (fun _ => ?_)
      refine va_gets hx hb hZ_OWNERS hS hown (hk _ kl_World_56) (fun _ h9 => h9) d_World_initialiseInterfaces_17 ?_
      refine lv_iload_n hx hb d_World_initialiseInterfaces_20 rfl (lv_at hl 0 rfl) ?_
      refine va_ti (v := .int (1 : Int32)) hx hb hT_OWNERS hS (by unfold vp_in; decide) rfl d_World_initialiseInterfaces_21 ?_
      refine lv_iload_n hx hb d_World_initialiseInterfaces_22 rfl (lv_at hl 2 rfl) ?_
      refine lv_icmp_ne (tgt := 62) hx hb d_World_initialiseInterfaces_23 (by decide) (fun _ => ?_) (fun h9 => absurd h9 c_23)
      refine lv_iinc (v := (2 : Int32)) (lv' := [(3, .int (2 : Int32)), (0, .ref q), (1, .int k), (2, .int dp)]) hx hb d_World_initialiseInterfaces_62 hl (k := 0) rfl (by decide) (by decide) rfl (fun ls hl => ?_)
      refine lv_goto (tgt := 9) hx hb d_World_initialiseInterfaces_65 (by decide) ?_
      refine lv_iload_n hx hb d_World_initialiseInterfaces_9 rfl (lv_at hl 0 rfl) ?_
      refine va_gets hx hb hZ_OWNERS hS hown (hk _ kl_World_56) (fun _ h9 => h9) d_World_initialiseInterfaces_10 ?_
      refine va_tlen hx hb hT_OWNERS hS (v := (5 : Int32)) (by decide) d_World_initialiseInterfaces_13 ?_
      refine lv_icmp_ge (tgt := 68) hx hb d_World_initialiseInterfaces_14 (by decide) (fun h9 => absurd h9 (by decide)) (fun _ => ?_)
      refine va_gets hx hb hZ_OWNERS hS hown (hk _ kl_World_56) (fun _ h9 => h9) d_World_initialiseInterfaces_17 ?_
      refine lv_iload_n hx hb d_World_initialiseInterfaces_20 rfl (lv_at hl 0 rfl) ?_
      refine va_ti (v := .int (4 : Int32)) hx hb hT_OWNERS hS (by unfold vp_in; decide) rfl d_World_initialiseInterfaces_21 ?_
      refine lv_iload_n hx hb d_World_initialiseInterfaces_22 rfl (lv_at hl 2 rfl) ?_
      refine lv_icmp_ne (tgt := 62) hx hb d_World_initialiseInterfaces_23 (by decide) (fun c_23_1 => ?_) (fun c_23_1 => ?_)
      · refine lv_iinc (v := (3 : Int32)) (lv' := [(3, .int (3 : Int32)), (0, .ref q), (1, .int k), (2, .int dp)]) hx hb d_World_initialiseInterfaces_62 hl (k := 0) rfl (by decide) (by decide) rfl (fun ls hl => ?_)
        refine lv_goto (tgt := 9) hx hb d_World_initialiseInterfaces_65 (by decide) ?_
        refine lv_iload_n hx hb d_World_initialiseInterfaces_9 rfl (lv_at hl 0 rfl) ?_
        refine va_gets hx hb hZ_OWNERS hS hown (hk _ kl_World_56) (fun _ h9 => h9) d_World_initialiseInterfaces_10 ?_
        refine va_tlen hx hb hT_OWNERS hS (v := (5 : Int32)) (by decide) d_World_initialiseInterfaces_13 ?_
        refine lv_icmp_ge (tgt := 68) hx hb d_World_initialiseInterfaces_14 (by decide) (fun h9 => absurd h9 (by decide)) (fun _ => ?_)
        refine va_gets hx hb hZ_OWNERS hS hown (hk _ kl_World_56) (fun _ h9 => h9) d_World_initialiseInterfaces_17 ?_
        refine lv_iload_n hx hb d_World_initialiseInterfaces_20 rfl (lv_at hl 0 rfl) ?_
        refine va_ti (v := .int (6 : Int32)) hx hb hT_OWNERS hS (by unfold vp_in; decide) rfl d_World_initialiseInterfaces_21 ?_
        refine lv_iload_n hx hb d_World_initialiseInterfaces_22 rfl (lv_at hl 2 rfl) ?_
        refine lv_icmp_ne (tgt := 62) hx hb d_World_initialiseInterfaces_23 (by decide) (fun c_23_2 => ?_) (fun c_23_2 => ?_)
        · refine lv_iinc (v := (4 : Int32)) (lv' := [(3, .int (4 : Int32)), (0, .ref q), (1, .int k), (2, .int dp)]) hx hb d_World_initialiseInterfaces_62 hl (k := 0) rfl (by decide) (by decide) rfl (fun ls hl => ?_)
          refine lv_goto (tgt := 9) hx hb d_World_initialiseInterfaces_65 (by decide) ?_
          refine lv_iload_n hx hb d_World_initialiseInterfaces_9 rfl (lv_at hl 0 rfl) ?_
          refine va_gets hx hb hZ_OWNERS hS hown (hk _ kl_World_56) (fun _ h9 => h9) d_World_initialiseInterfaces_10 ?_
          refine va_tlen hx hb hT_OWNERS hS (v := (5 : Int32)) (by decide) d_World_initialiseInterfaces_13 ?_
          refine lv_icmp_ge (tgt := 68) hx hb d_World_initialiseInterfaces_14 (by decide) (fun h9 => absurd h9 (by decide)) (fun _ => ?_)
          refine va_gets hx hb hZ_OWNERS hS hown (hk _ kl_World_56) (fun _ h9 => h9) d_World_initialiseInterfaces_17 ?_
          refine lv_iload_n hx hb d_World_initialiseInterfaces_20 rfl (lv_at hl 0 rfl) ?_
          refine va_ti (v := .int (7 : Int32)) hx hb hT_OWNERS hS (by unfold vp_in; decide) rfl d_World_initialiseInterfaces_21 ?_
          refine lv_iload_n hx hb d_World_initialiseInterfaces_22 rfl (lv_at hl 2 rfl) ?_
          refine lv_icmp_ne (tgt := 62) hx hb d_World_initialiseInterfaces_23 (by decide) (fun c_23_3 => ?_) (fun c_23_3 => ?_)
          · refine lv_iinc (v := (5 : Int32)) (lv' := [(3, .int (5 : Int32)), (0, .ref q), (1, .int k), (2, .int dp)]) hx hb d_World_initialiseInterfaces_62 hl (k := 0) rfl (by decide) (by decide) rfl (fun ls hl => ?_)
            refine lv_goto (tgt := 9) hx hb d_World_initialiseInterfaces_65 (by decide) ?_
            refine lv_iload_n hx hb d_World_initialiseInterfaces_9 rfl (lv_at hl 0 rfl) ?_
            refine va_gets hx hb hZ_OWNERS hS hown (hk _ kl_World_56) (fun _ h9 => h9) d_World_initialiseInterfaces_10 ?_
            refine va_tlen hx hb hT_OWNERS hS (v := (5 : Int32)) (by decide) d_World_initialiseInterfaces_13 ?_
            refine lv_icmp_ge (tgt := 68) hx hb d_World_initialiseInterfaces_14 (by decide) (fun _ => ?_) (fun h9 => absurd (by decide) h9)
            obtain rfl : res = w := hres.symm.trans ((if_pos c_3).trans ((if_neg c_23).trans ((if_neg c_23_1).trans ((if_neg c_23_2).trans ((if_neg c_23_3).trans rfl)))))
            exact CMv_ret hx hb hr hlocks hP hK hD hS d_World_initialiseInterfaces_68
          · subst c_23_3
            refine lv_aload_n hx hb d_World_initialiseInterfaces_26 rfl (lv_at hl 1 rfl) ?_
            refine va_gets hx hb hZ_OWNED hS hown (hk _ kl_World_59) (fun _ h9 => h9) d_World_initialiseInterfaces_27 ?_
            refine lv_iload_n hx hb d_World_initialiseInterfaces_30 rfl (lv_at hl 0 rfl) ?_
            refine va_ti (v := .int (4 : Int32)) hx hb hT_OWNED hS (by unfold vp_in; decide) rfl d_World_initialiseInterfaces_31 ?_
            refine lv_iload_n hx hb d_World_initialiseInterfaces_32 rfl (lv_at hl 3 rfl) ?_
            refine lv_iconst (v := (1 : Int32)) hx hb d_World_initialiseInterfaces_33 (by decide) ?_
            refine lv_iadd hx hb d_World_initialiseInterfaces_34 ?_
            refine CMv.callV (wc := W4 cI q qn qv qs w) (wr := []) (b := q) (av := [.int (4 : Int32), .int (dp + (1 : Int32))]) (rest := []) hx hb hml hown hk (hI2 (4 : Int32) (dp + (1 : Int32)) w (pG_If2 hp c_3 (ok_mono hp.2.2.2 (by decide)))) hK hP hD hS hA hSt hl.1 (va_recv hK hP (ci := 0) (q0 := 0) rfl rfl) d_World_initialiseInterfaces_35 kc_World_initialiseInterfaces ki_World kl_World_52 kn_World_initialiseInterfaces kx_World_initialiseInterfaces (n := 2) rfl (by decide +kernel) ⟨Nat.le_refl _, (by show 8 + (4 + 11) + 40 * n ≤ 40 * (n + 1); omega)⟩ rfl rfl (Nat.le_of_ble_eq_true rfl) ⟨Nat.zero_le _, Nat.zero_le _⟩ (fun H locs hP hD hS => ?_)
            have hP : va_P D classes (W4 cI q qn qv qs (gI (4 : Int32) (dp + (1 : Int32)) w)) H := hP
            have hD : va_D A (W4 cI q qn qv qs (gI (4 : Int32) (dp + (1 : Int32)) w)) := hD
            refine va_gets hx hb hZ_OWNED hS hown (hk _ kl_World_59) (fun _ h9 => h9) d_World_initialiseInterfaces_38 ?_
            refine lv_iload_n hx hb d_World_initialiseInterfaces_41 rfl (lv_at hl 0 rfl) ?_
            refine va_ti (v := .int (4 : Int32)) hx hb hT_OWNED hS (by unfold vp_in; decide) rfl d_World_initialiseInterfaces_42 ?_
            refine CM.callS (wc := []) (wr := W4 cI q qn qv qs (gI (4 : Int32) (dp + (1 : Int32)) w)) (av := [.int (4 : Int32)]) (rest := []) hx hb hml hown hk (c_Kinds_hasBody l D cI cW (4 : Int32) _ rfl) hK hP hD hS hA hSt hl.1 d_World_initialiseInterfaces_43 kc_Kinds_hasBody ki_Kinds kl_World_62 ks_Kinds_hasBody (n := 1) rfl (by decide +kernel) ⟨(by show 0 + 1 ≤ n + 1; have h1 := hp.2.1; have h2 := hp.2.2.1; omega), (by show 8 + (1 + 11) + 0 ≤ 40 * (n + 1); have h1 := hp.2.1; have h2 := hp.2.2.1; omega)⟩ rfl rfl (Nat.le_of_ble_eq_true rfl) ⟨Nat.zero_le _, Nat.zero_le _⟩ (fun H locs hP hD hS => ?_)
            have hP : va_P D classes (W4 cI q qn qv qs (gI (4 : Int32) (dp + (1 : Int32)) w)) H := hP
            have hD : va_D A (W4 cI q qn qv qs (gI (4 : Int32) (dp + (1 : Int32)) w)) := hD
            refine lv_if_eq (tgt := 62) hx hb d_World_initialiseInterfaces_46 (by decide) (fun c_46 => ?_) (fun c_46 => ?_)
            · refine lv_iinc (v := (5 : Int32)) (lv' := [(3, .int (5 : Int32)), (0, .ref q), (1, .int (7 : Int32)), (2, .int dp)]) hx hb d_World_initialiseInterfaces_62 hl (k := 0) rfl (by decide) (by decide) rfl (fun ls hl => ?_)
              refine lv_goto (tgt := 9) hx hb d_World_initialiseInterfaces_65 (by decide) ?_
              refine lv_iload_n hx hb d_World_initialiseInterfaces_9 rfl (lv_at hl 0 rfl) ?_
              refine va_gets hx hb hZ_OWNERS hS hown (hk _ kl_World_56) (fun _ h9 => h9) d_World_initialiseInterfaces_10 ?_
              refine va_tlen hx hb hT_OWNERS hS (v := (5 : Int32)) (by decide) d_World_initialiseInterfaces_13 ?_
              refine lv_icmp_ge (tgt := 68) hx hb d_World_initialiseInterfaces_14 (by decide) (fun _ => ?_) (fun h9 => absurd (by decide) h9)
              obtain rfl : res = (gI (4 : Int32) (dp + (1 : Int32)) w) := hres.symm.trans ((if_pos c_3).trans ((if_neg c_23).trans ((if_neg c_23_1).trans ((if_neg c_23_2).trans ((if_pos (by rfl)).trans ((if_pos c_46).trans rfl))))))
              exact CMv_ret hx hb hr hlocks hP hK hD hS d_World_initialiseInterfaces_68
            · refine lv_aload_n hx hb d_World_initialiseInterfaces_49 rfl (lv_at hl 1 rfl) ?_
              refine va_gets hx hb hZ_OWNED hS hown (hk _ kl_World_59) (fun _ h9 => h9) d_World_initialiseInterfaces_50 ?_
              refine lv_iload_n hx hb d_World_initialiseInterfaces_53 rfl (lv_at hl 0 rfl) ?_
              refine va_ti (v := .int (4 : Int32)) hx hb hT_OWNED hS (by unfold vp_in; decide) rfl d_World_initialiseInterfaces_54 ?_
              refine lv_iload_n hx hb d_World_initialiseInterfaces_55 rfl (lv_at hl 3 rfl) ?_
              refine lv_iconst (v := (1 : Int32)) hx hb d_World_initialiseInterfaces_56 (by decide) ?_
              refine lv_iadd hx hb d_World_initialiseInterfaces_57 ?_
              refine CM.callV (wc := W4 cI q qn qv qs (gI (4 : Int32) (dp + (1 : Int32)) w)) (wr := []) (b := q) (av := [.int (4 : Int32), .int (dp + (1 : Int32))]) (rest := []) hx hb hml hown hk (hT2 (4 : Int32) (dp + (1 : Int32)) (gI (4 : Int32) (dp + (1 : Int32)) w) (pG_At2 hp c_3 (ok_mono (okI (4 : Int32) (dp + (1 : Int32)) w _ hp.2.2.2) (by decide)))) hK hP hD hS hA hSt hl.1 (va_recv hK hP (ci := 0) (q0 := 0) rfl rfl) d_World_initialiseInterfaces_58 kc_World_initialiseAt ki_World kl_World_31 kn_World_initialiseAt kx_World_initialiseAt (n := 2) rfl (by decide +kernel) ⟨Nat.le_refl _, (by show 8 + (4 + 11) + 40 * n ≤ 40 * (n + 1); omega)⟩ rfl rfl (Nat.le_of_ble_eq_true rfl) ⟨Nat.zero_le _, Nat.zero_le _⟩ (fun H locs hP hD hS => ?_)
              have hP : va_P D classes (W4 cI q qn qv qs ((gT (4 : Int32) (dp + (1 : Int32)) (gI (4 : Int32) (dp + (1 : Int32)) w)).1)) H := hP
              have hD : va_D A (W4 cI q qn qv qs ((gT (4 : Int32) (dp + (1 : Int32)) (gI (4 : Int32) (dp + (1 : Int32)) w)).1)) := hD
              refine lv_pop hx hb d_World_initialiseInterfaces_61 rfl ?_
              refine lv_iinc (v := (5 : Int32)) (lv' := [(3, .int (5 : Int32)), (0, .ref q), (1, .int (7 : Int32)), (2, .int dp)]) hx hb d_World_initialiseInterfaces_62 hl (k := 0) rfl (by decide) (by decide) rfl (fun ls hl => ?_)
              refine lv_goto (tgt := 9) hx hb d_World_initialiseInterfaces_65 (by decide) ?_
              refine lv_iload_n hx hb d_World_initialiseInterfaces_9 rfl (lv_at hl 0 rfl) ?_
              refine va_gets hx hb hZ_OWNERS hS hown (hk _ kl_World_56) (fun _ h9 => h9) d_World_initialiseInterfaces_10 ?_
              refine va_tlen hx hb hT_OWNERS hS (v := (5 : Int32)) (by decide) d_World_initialiseInterfaces_13 ?_
              refine lv_icmp_ge (tgt := 68) hx hb d_World_initialiseInterfaces_14 (by decide) (fun _ => ?_) (fun h9 => absurd (by decide) h9)
              obtain rfl : res = (gT (4 : Int32) (dp + (1 : Int32)) (gI (4 : Int32) (dp + (1 : Int32)) w)).1 := hres.symm.trans ((if_pos c_3).trans ((if_neg c_23).trans ((if_neg c_23_1).trans ((if_neg c_23_2).trans ((if_pos (by rfl)).trans ((if_neg c_46).trans rfl))))))
              exact CMv_ret hx hb hr hlocks hP hK hD hS d_World_initialiseInterfaces_68
        · subst c_23_2
          refine lv_aload_n hx hb d_World_initialiseInterfaces_26 rfl (lv_at hl 1 rfl) ?_
          refine va_gets hx hb hZ_OWNED hS hown (hk _ kl_World_59) (fun _ h9 => h9) d_World_initialiseInterfaces_27 ?_
          refine lv_iload_n hx hb d_World_initialiseInterfaces_30 rfl (lv_at hl 0 rfl) ?_
          refine va_ti (v := .int (3 : Int32)) hx hb hT_OWNED hS (by unfold vp_in; decide) rfl d_World_initialiseInterfaces_31 ?_
          refine lv_iload_n hx hb d_World_initialiseInterfaces_32 rfl (lv_at hl 3 rfl) ?_
          refine lv_iconst (v := (1 : Int32)) hx hb d_World_initialiseInterfaces_33 (by decide) ?_
          refine lv_iadd hx hb d_World_initialiseInterfaces_34 ?_
          refine CMv.callV (wc := W4 cI q qn qv qs w) (wr := []) (b := q) (av := [.int (3 : Int32), .int (dp + (1 : Int32))]) (rest := []) hx hb hml hown hk (hI2 (3 : Int32) (dp + (1 : Int32)) w (pG_If2 hp c_3 (ok_mono hp.2.2.2 (by decide)))) hK hP hD hS hA hSt hl.1 (va_recv hK hP (ci := 0) (q0 := 0) rfl rfl) d_World_initialiseInterfaces_35 kc_World_initialiseInterfaces ki_World kl_World_52 kn_World_initialiseInterfaces kx_World_initialiseInterfaces (n := 2) rfl (by decide +kernel) ⟨Nat.le_refl _, (by show 8 + (4 + 11) + 40 * n ≤ 40 * (n + 1); omega)⟩ rfl rfl (Nat.le_of_ble_eq_true rfl) ⟨Nat.zero_le _, Nat.zero_le _⟩ (fun H locs hP hD hS => ?_)
          have hP : va_P D classes (W4 cI q qn qv qs (gI (3 : Int32) (dp + (1 : Int32)) w)) H := hP
          have hD : va_D A (W4 cI q qn qv qs (gI (3 : Int32) (dp + (1 : Int32)) w)) := hD
          refine va_gets hx hb hZ_OWNED hS hown (hk _ kl_World_59) (fun _ h9 => h9) d_World_initialiseInterfaces_38 ?_
          refine lv_iload_n hx hb d_World_initialiseInterfaces_41 rfl (lv_at hl 0 rfl) ?_
          refine va_ti (v := .int (3 : Int32)) hx hb hT_OWNED hS (by unfold vp_in; decide) rfl d_World_initialiseInterfaces_42 ?_
          refine CM.callS (wc := []) (wr := W4 cI q qn qv qs (gI (3 : Int32) (dp + (1 : Int32)) w)) (av := [.int (3 : Int32)]) (rest := []) hx hb hml hown hk (c_Kinds_hasBody l D cI cW (3 : Int32) _ rfl) hK hP hD hS hA hSt hl.1 d_World_initialiseInterfaces_43 kc_Kinds_hasBody ki_Kinds kl_World_62 ks_Kinds_hasBody (n := 1) rfl (by decide +kernel) ⟨(by show 0 + 1 ≤ n + 1; have h1 := hp.2.1; have h2 := hp.2.2.1; omega), (by show 8 + (1 + 11) + 0 ≤ 40 * (n + 1); have h1 := hp.2.1; have h2 := hp.2.2.1; omega)⟩ rfl rfl (Nat.le_of_ble_eq_true rfl) ⟨Nat.zero_le _, Nat.zero_le _⟩ (fun H locs hP hD hS => ?_)
          have hP : va_P D classes (W4 cI q qn qv qs (gI (3 : Int32) (dp + (1 : Int32)) w)) H := hP
          have hD : va_D A (W4 cI q qn qv qs (gI (3 : Int32) (dp + (1 : Int32)) w)) := hD
          refine lv_if_eq (tgt := 62) hx hb d_World_initialiseInterfaces_46 (by decide) (fun c_46 => ?_) (fun c_46 => ?_)
          · refine lv_iinc (v := (4 : Int32)) (lv' := [(3, .int (4 : Int32)), (0, .ref q), (1, .int (6 : Int32)), (2, .int dp)]) hx hb d_World_initialiseInterfaces_62 hl (k := 0) rfl (by decide) (by decide) rfl (fun ls hl => ?_)
            refine lv_goto (tgt := 9) hx hb d_World_initialiseInterfaces_65 (by decide) ?_
            refine lv_iload_n hx hb d_World_initialiseInterfaces_9 rfl (lv_at hl 0 rfl) ?_
            refine va_gets hx hb hZ_OWNERS hS hown (hk _ kl_World_56) (fun _ h9 => h9) d_World_initialiseInterfaces_10 ?_
            refine va_tlen hx hb hT_OWNERS hS (v := (5 : Int32)) (by decide) d_World_initialiseInterfaces_13 ?_
            refine lv_icmp_ge (tgt := 68) hx hb d_World_initialiseInterfaces_14 (by decide) (fun h9 => absurd h9 (by decide)) (fun _ => ?_)
            refine va_gets hx hb hZ_OWNERS hS hown (hk _ kl_World_56) (fun _ h9 => h9) d_World_initialiseInterfaces_17 ?_
            refine lv_iload_n hx hb d_World_initialiseInterfaces_20 rfl (lv_at hl 0 rfl) ?_
            refine va_ti (v := .int (7 : Int32)) hx hb hT_OWNERS hS (by unfold vp_in; decide) rfl d_World_initialiseInterfaces_21 ?_
            refine lv_iload_n hx hb d_World_initialiseInterfaces_22 rfl (lv_at hl 2 rfl) ?_
            refine lv_icmp_ne (tgt := 62) hx hb d_World_initialiseInterfaces_23 (by decide) (fun _ => ?_) (fun h9 => absurd h9 (by decide))
            refine lv_iinc (v := (5 : Int32)) (lv' := [(3, .int (5 : Int32)), (0, .ref q), (1, .int (6 : Int32)), (2, .int dp)]) hx hb d_World_initialiseInterfaces_62 hl (k := 0) rfl (by decide) (by decide) rfl (fun ls hl => ?_)
            refine lv_goto (tgt := 9) hx hb d_World_initialiseInterfaces_65 (by decide) ?_
            refine lv_iload_n hx hb d_World_initialiseInterfaces_9 rfl (lv_at hl 0 rfl) ?_
            refine va_gets hx hb hZ_OWNERS hS hown (hk _ kl_World_56) (fun _ h9 => h9) d_World_initialiseInterfaces_10 ?_
            refine va_tlen hx hb hT_OWNERS hS (v := (5 : Int32)) (by decide) d_World_initialiseInterfaces_13 ?_
            refine lv_icmp_ge (tgt := 68) hx hb d_World_initialiseInterfaces_14 (by decide) (fun _ => ?_) (fun h9 => absurd (by decide) h9)
            obtain rfl : res = (gI (3 : Int32) (dp + (1 : Int32)) w) := hres.symm.trans ((if_pos c_3).trans ((if_neg c_23).trans ((if_neg c_23_1).trans ((if_pos (by rfl)).trans ((if_pos c_46).trans rfl)))))
            exact CMv_ret hx hb hr hlocks hP hK hD hS d_World_initialiseInterfaces_68
          · refine lv_aload_n hx hb d_World_initialiseInterfaces_49 rfl (lv_at hl 1 rfl) ?_
            refine va_gets hx hb hZ_OWNED hS hown (hk _ kl_World_59) (fun _ h9 => h9) d_World_initialiseInterfaces_50 ?_
            refine lv_iload_n hx hb d_World_initialiseInterfaces_53 rfl (lv_at hl 0 rfl) ?_
            refine va_ti (v := .int (3 : Int32)) hx hb hT_OWNED hS (by unfold vp_in; decide) rfl d_World_initialiseInterfaces_54 ?_
            refine lv_iload_n hx hb d_World_initialiseInterfaces_55 rfl (lv_at hl 3 rfl) ?_
            refine lv_iconst (v := (1 : Int32)) hx hb d_World_initialiseInterfaces_56 (by decide) ?_
            refine lv_iadd hx hb d_World_initialiseInterfaces_57 ?_
            refine CM.callV (wc := W4 cI q qn qv qs (gI (3 : Int32) (dp + (1 : Int32)) w)) (wr := []) (b := q) (av := [.int (3 : Int32), .int (dp + (1 : Int32))]) (rest := []) hx hb hml hown hk (hT2 (3 : Int32) (dp + (1 : Int32)) (gI (3 : Int32) (dp + (1 : Int32)) w) (pG_At2 hp c_3 (ok_mono (okI (3 : Int32) (dp + (1 : Int32)) w _ hp.2.2.2) (by decide)))) hK hP hD hS hA hSt hl.1 (va_recv hK hP (ci := 0) (q0 := 0) rfl rfl) d_World_initialiseInterfaces_58 kc_World_initialiseAt ki_World kl_World_31 kn_World_initialiseAt kx_World_initialiseAt (n := 2) rfl (by decide +kernel) ⟨Nat.le_refl _, (by show 8 + (4 + 11) + 40 * n ≤ 40 * (n + 1); omega)⟩ rfl rfl (Nat.le_of_ble_eq_true rfl) ⟨Nat.zero_le _, Nat.zero_le _⟩ (fun H locs hP hD hS => ?_)
            have hP : va_P D classes (W4 cI q qn qv qs ((gT (3 : Int32) (dp + (1 : Int32)) (gI (3 : Int32) (dp + (1 : Int32)) w)).1)) H := hP
            have hD : va_D A (W4 cI q qn qv qs ((gT (3 : Int32) (dp + (1 : Int32)) (gI (3 : Int32) (dp + (1 : Int32)) w)).1)) := hD
            refine lv_pop hx hb d_World_initialiseInterfaces_61 rfl ?_
            refine lv_iinc (v := (4 : Int32)) (lv' := [(3, .int (4 : Int32)), (0, .ref q), (1, .int (6 : Int32)), (2, .int dp)]) hx hb d_World_initialiseInterfaces_62 hl (k := 0) rfl (by decide) (by decide) rfl (fun ls hl => ?_)
            refine lv_goto (tgt := 9) hx hb d_World_initialiseInterfaces_65 (by decide) ?_
            refine lv_iload_n hx hb d_World_initialiseInterfaces_9 rfl (lv_at hl 0 rfl) ?_
            refine va_gets hx hb hZ_OWNERS hS hown (hk _ kl_World_56) (fun _ h9 => h9) d_World_initialiseInterfaces_10 ?_
            refine va_tlen hx hb hT_OWNERS hS (v := (5 : Int32)) (by decide) d_World_initialiseInterfaces_13 ?_
            refine lv_icmp_ge (tgt := 68) hx hb d_World_initialiseInterfaces_14 (by decide) (fun h9 => absurd h9 (by decide)) (fun _ => ?_)
            refine va_gets hx hb hZ_OWNERS hS hown (hk _ kl_World_56) (fun _ h9 => h9) d_World_initialiseInterfaces_17 ?_
            refine lv_iload_n hx hb d_World_initialiseInterfaces_20 rfl (lv_at hl 0 rfl) ?_
            refine va_ti (v := .int (7 : Int32)) hx hb hT_OWNERS hS (by unfold vp_in; decide) rfl d_World_initialiseInterfaces_21 ?_
            refine lv_iload_n hx hb d_World_initialiseInterfaces_22 rfl (lv_at hl 2 rfl) ?_
            refine lv_icmp_ne (tgt := 62) hx hb d_World_initialiseInterfaces_23 (by decide) (fun _ => ?_) (fun h9 => absurd h9 (by decide))
            refine lv_iinc (v := (5 : Int32)) (lv' := [(3, .int (5 : Int32)), (0, .ref q), (1, .int (6 : Int32)), (2, .int dp)]) hx hb d_World_initialiseInterfaces_62 hl (k := 0) rfl (by decide) (by decide) rfl (fun ls hl => ?_)
            refine lv_goto (tgt := 9) hx hb d_World_initialiseInterfaces_65 (by decide) ?_
            refine lv_iload_n hx hb d_World_initialiseInterfaces_9 rfl (lv_at hl 0 rfl) ?_
            refine va_gets hx hb hZ_OWNERS hS hown (hk _ kl_World_56) (fun _ h9 => h9) d_World_initialiseInterfaces_10 ?_
            refine va_tlen hx hb hT_OWNERS hS (v := (5 : Int32)) (by decide) d_World_initialiseInterfaces_13 ?_
            refine lv_icmp_ge (tgt := 68) hx hb d_World_initialiseInterfaces_14 (by decide) (fun _ => ?_) (fun h9 => absurd (by decide) h9)
            obtain rfl : res = (gT (3 : Int32) (dp + (1 : Int32)) (gI (3 : Int32) (dp + (1 : Int32)) w)).1 := hres.symm.trans ((if_pos c_3).trans ((if_neg c_23).trans ((if_neg c_23_1).trans ((if_pos (by rfl)).trans ((if_neg c_46).trans rfl)))))
            exact CMv_ret hx hb hr hlocks hP hK hD hS d_World_initialiseInterfaces_68
      · subst c_23_1
        refine lv_aload_n hx hb d_World_initialiseInterfaces_26 rfl (lv_at hl 1 rfl) ?_
        refine va_gets hx hb hZ_OWNED hS hown (hk _ kl_World_59) (fun _ h9 => h9) d_World_initialiseInterfaces_27 ?_
        refine lv_iload_n hx hb d_World_initialiseInterfaces_30 rfl (lv_at hl 0 rfl) ?_
        refine va_ti (v := .int (3 : Int32)) hx hb hT_OWNED hS (by unfold vp_in; decide) rfl d_World_initialiseInterfaces_31 ?_
        refine lv_iload_n hx hb d_World_initialiseInterfaces_32 rfl (lv_at hl 3 rfl) ?_
        refine lv_iconst (v := (1 : Int32)) hx hb d_World_initialiseInterfaces_33 (by decide) ?_
        refine lv_iadd hx hb d_World_initialiseInterfaces_34 ?_
        refine CMv.callV (wc := W4 cI q qn qv qs w) (wr := []) (b := q) (av := [.int (3 : Int32), .int (dp + (1 : Int32))]) (rest := []) hx hb hml hown hk (hI2 (3 : Int32) (dp + (1 : Int32)) w (pG_If2 hp c_3 (ok_mono hp.2.2.2 (by decide)))) hK hP hD hS hA hSt hl.1 (va_recv hK hP (ci := 0) (q0 := 0) rfl rfl) d_World_initialiseInterfaces_35 kc_World_initialiseInterfaces ki_World kl_World_52 kn_World_initialiseInterfaces kx_World_initialiseInterfaces (n := 2) rfl (by decide +kernel) ⟨Nat.le_refl _, (by show 8 + (4 + 11) + 40 * n ≤ 40 * (n + 1); omega)⟩ rfl rfl (Nat.le_of_ble_eq_true rfl) ⟨Nat.zero_le _, Nat.zero_le _⟩ (fun H locs hP hD hS => ?_)
        have hP : va_P D classes (W4 cI q qn qv qs (gI (3 : Int32) (dp + (1 : Int32)) w)) H := hP
        have hD : va_D A (W4 cI q qn qv qs (gI (3 : Int32) (dp + (1 : Int32)) w)) := hD
        refine va_gets hx hb hZ_OWNED hS hown (hk _ kl_World_59) (fun _ h9 => h9) d_World_initialiseInterfaces_38 ?_
        refine lv_iload_n hx hb d_World_initialiseInterfaces_41 rfl (lv_at hl 0 rfl) ?_
        refine va_ti (v := .int (3 : Int32)) hx hb hT_OWNED hS (by unfold vp_in; decide) rfl d_World_initialiseInterfaces_42 ?_
        refine CM.callS (wc := []) (wr := W4 cI q qn qv qs (gI (3 : Int32) (dp + (1 : Int32)) w)) (av := [.int (3 : Int32)]) (rest := []) hx hb hml hown hk (c_Kinds_hasBody l D cI cW (3 : Int32) _ rfl) hK hP hD hS hA hSt hl.1 d_World_initialiseInterfaces_43 kc_Kinds_hasBody ki_Kinds kl_World_62 ks_Kinds_hasBody (n := 1) rfl (by decide +kernel) ⟨(by show 0 + 1 ≤ n + 1; have h1 := hp.2.1; have h2 := hp.2.2.1; omega), (by show 8 + (1 + 11) + 0 ≤ 40 * (n + 1); have h1 := hp.2.1; have h2 := hp.2.2.1; omega)⟩ rfl rfl (Nat.le_of_ble_eq_true rfl) ⟨Nat.zero_le _, Nat.zero_le _⟩ (fun H locs hP hD hS => ?_)
        have hP : va_P D classes (W4 cI q qn qv qs (gI (3 : Int32) (dp + (1 : Int32)) w)) H := hP
        have hD : va_D A (W4 cI q qn qv qs (gI (3 : Int32) (dp + (1 : Int32)) w)) := hD
        refine lv_if_eq (tgt := 62) hx hb d_World_initialiseInterfaces_46 (by decide) (fun c_46 => ?_) (fun c_46 => ?_)
        · refine lv_iinc (v := (3 : Int32)) (lv' := [(3, .int (3 : Int32)), (0, .ref q), (1, .int (4 : Int32)), (2, .int dp)]) hx hb d_World_initialiseInterfaces_62 hl (k := 0) rfl (by decide) (by decide) rfl (fun ls hl => ?_)
          refine lv_goto (tgt := 9) hx hb d_World_initialiseInterfaces_65 (by decide) ?_
          refine lv_iload_n hx hb d_World_initialiseInterfaces_9 rfl (lv_at hl 0 rfl) ?_
          refine va_gets hx hb hZ_OWNERS hS hown (hk _ kl_World_56) (fun _ h9 => h9) d_World_initialiseInterfaces_10 ?_
          refine va_tlen hx hb hT_OWNERS hS (v := (5 : Int32)) (by decide) d_World_initialiseInterfaces_13 ?_
          refine lv_icmp_ge (tgt := 68) hx hb d_World_initialiseInterfaces_14 (by decide) (fun h9 => absurd h9 (by decide)) (fun _ => ?_)
          refine va_gets hx hb hZ_OWNERS hS hown (hk _ kl_World_56) (fun _ h9 => h9) d_World_initialiseInterfaces_17 ?_
          refine lv_iload_n hx hb d_World_initialiseInterfaces_20 rfl (lv_at hl 0 rfl) ?_
          refine va_ti (v := .int (6 : Int32)) hx hb hT_OWNERS hS (by unfold vp_in; decide) rfl d_World_initialiseInterfaces_21 ?_
          refine lv_iload_n hx hb d_World_initialiseInterfaces_22 rfl (lv_at hl 2 rfl) ?_
          refine lv_icmp_ne (tgt := 62) hx hb d_World_initialiseInterfaces_23 (by decide) (fun _ => ?_) (fun h9 => absurd h9 (by decide))
          refine lv_iinc (v := (4 : Int32)) (lv' := [(3, .int (4 : Int32)), (0, .ref q), (1, .int (4 : Int32)), (2, .int dp)]) hx hb d_World_initialiseInterfaces_62 hl (k := 0) rfl (by decide) (by decide) rfl (fun ls hl => ?_)
          refine lv_goto (tgt := 9) hx hb d_World_initialiseInterfaces_65 (by decide) ?_
          refine lv_iload_n hx hb d_World_initialiseInterfaces_9 rfl (lv_at hl 0 rfl) ?_
          refine va_gets hx hb hZ_OWNERS hS hown (hk _ kl_World_56) (fun _ h9 => h9) d_World_initialiseInterfaces_10 ?_
          refine va_tlen hx hb hT_OWNERS hS (v := (5 : Int32)) (by decide) d_World_initialiseInterfaces_13 ?_
          refine lv_icmp_ge (tgt := 68) hx hb d_World_initialiseInterfaces_14 (by decide) (fun h9 => absurd h9 (by decide)) (fun _ => ?_)
          refine va_gets hx hb hZ_OWNERS hS hown (hk _ kl_World_56) (fun _ h9 => h9) d_World_initialiseInterfaces_17 ?_
          refine lv_iload_n hx hb d_World_initialiseInterfaces_20 rfl (lv_at hl 0 rfl) ?_
          refine va_ti (v := .int (7 : Int32)) hx hb hT_OWNERS hS (by unfold vp_in; decide) rfl d_World_initialiseInterfaces_21 ?_
          refine lv_iload_n hx hb d_World_initialiseInterfaces_22 rfl (lv_at hl 2 rfl) ?_
          refine lv_icmp_ne (tgt := 62) hx hb d_World_initialiseInterfaces_23 (by decide) (fun _ => ?_) (fun h9 => absurd h9 (by decide))
          refine lv_iinc (v := (5 : Int32)) (lv' := [(3, .int (5 : Int32)), (0, .ref q), (1, .int (4 : Int32)), (2, .int dp)]) hx hb d_World_initialiseInterfaces_62 hl (k := 0) rfl (by decide) (by decide) rfl (fun ls hl => ?_)
          refine lv_goto (tgt := 9) hx hb d_World_initialiseInterfaces_65 (by decide) ?_
          refine lv_iload_n hx hb d_World_initialiseInterfaces_9 rfl (lv_at hl 0 rfl) ?_
          refine va_gets hx hb hZ_OWNERS hS hown (hk _ kl_World_56) (fun _ h9 => h9) d_World_initialiseInterfaces_10 ?_
          refine va_tlen hx hb hT_OWNERS hS (v := (5 : Int32)) (by decide) d_World_initialiseInterfaces_13 ?_
          refine lv_icmp_ge (tgt := 68) hx hb d_World_initialiseInterfaces_14 (by decide) (fun _ => ?_) (fun h9 => absurd (by decide) h9)
          obtain rfl : res = (gI (3 : Int32) (dp + (1 : Int32)) w) := hres.symm.trans ((if_pos c_3).trans ((if_neg c_23).trans ((if_pos (by rfl)).trans ((if_pos c_46).trans rfl))))
          exact CMv_ret hx hb hr hlocks hP hK hD hS d_World_initialiseInterfaces_68
        · refine lv_aload_n hx hb d_World_initialiseInterfaces_49 rfl (lv_at hl 1 rfl) ?_
          refine va_gets hx hb hZ_OWNED hS hown (hk _ kl_World_59) (fun _ h9 => h9) d_World_initialiseInterfaces_50 ?_
          refine lv_iload_n hx hb d_World_initialiseInterfaces_53 rfl (lv_at hl 0 rfl) ?_
          refine va_ti (v := .int (3 : Int32)) hx hb hT_OWNED hS (by unfold vp_in; decide) rfl d_World_initialiseInterfaces_54 ?_
          refine lv_iload_n hx hb d_World_initialiseInterfaces_55 rfl (lv_at hl 3 rfl) ?_
          refine lv_iconst (v := (1 : Int32)) hx hb d_World_initialiseInterfaces_56 (by decide) ?_
          refine lv_iadd hx hb d_World_initialiseInterfaces_57 ?_
          refine CM.callV (wc := W4 cI q qn qv qs (gI (3 : Int32) (dp + (1 : Int32)) w)) (wr := []) (b := q) (av := [.int (3 : Int32), .int (dp + (1 : Int32))]) (rest := []) hx hb hml hown hk (hT2 (3 : Int32) (dp + (1 : Int32)) (gI (3 : Int32) (dp + (1 : Int32)) w) (pG_At2 hp c_3 (ok_mono (okI (3 : Int32) (dp + (1 : Int32)) w _ hp.2.2.2) (by decide)))) hK hP hD hS hA hSt hl.1 (va_recv hK hP (ci := 0) (q0 := 0) rfl rfl) d_World_initialiseInterfaces_58 kc_World_initialiseAt ki_World kl_World_31 kn_World_initialiseAt kx_World_initialiseAt (n := 2) rfl (by decide +kernel) ⟨Nat.le_refl _, (by show 8 + (4 + 11) + 40 * n ≤ 40 * (n + 1); omega)⟩ rfl rfl (Nat.le_of_ble_eq_true rfl) ⟨Nat.zero_le _, Nat.zero_le _⟩ (fun H locs hP hD hS => ?_)
          have hP : va_P D classes (W4 cI q qn qv qs ((gT (3 : Int32) (dp + (1 : Int32)) (gI (3 : Int32) (dp + (1 : Int32)) w)).1)) H := hP
          have hD : va_D A (W4 cI q qn qv qs ((gT (3 : Int32) (dp + (1 : Int32)) (gI (3 : Int32) (dp + (1 : Int32)) w)).1)) := hD
          refine lv_pop hx hb d_World_initialiseInterfaces_61 rfl ?_
          refine lv_iinc (v := (3 : Int32)) (lv' := [(3, .int (3 : Int32)), (0, .ref q), (1, .int (4 : Int32)), (2, .int dp)]) hx hb d_World_initialiseInterfaces_62 hl (k := 0) rfl (by decide) (by decide) rfl (fun ls hl => ?_)
          refine lv_goto (tgt := 9) hx hb d_World_initialiseInterfaces_65 (by decide) ?_
          refine lv_iload_n hx hb d_World_initialiseInterfaces_9 rfl (lv_at hl 0 rfl) ?_
          refine va_gets hx hb hZ_OWNERS hS hown (hk _ kl_World_56) (fun _ h9 => h9) d_World_initialiseInterfaces_10 ?_
          refine va_tlen hx hb hT_OWNERS hS (v := (5 : Int32)) (by decide) d_World_initialiseInterfaces_13 ?_
          refine lv_icmp_ge (tgt := 68) hx hb d_World_initialiseInterfaces_14 (by decide) (fun h9 => absurd h9 (by decide)) (fun _ => ?_)
          refine va_gets hx hb hZ_OWNERS hS hown (hk _ kl_World_56) (fun _ h9 => h9) d_World_initialiseInterfaces_17 ?_
          refine lv_iload_n hx hb d_World_initialiseInterfaces_20 rfl (lv_at hl 0 rfl) ?_
          refine va_ti (v := .int (6 : Int32)) hx hb hT_OWNERS hS (by unfold vp_in; decide) rfl d_World_initialiseInterfaces_21 ?_
          refine lv_iload_n hx hb d_World_initialiseInterfaces_22 rfl (lv_at hl 2 rfl) ?_
          refine lv_icmp_ne (tgt := 62) hx hb d_World_initialiseInterfaces_23 (by decide) (fun _ => ?_) (fun h9 => absurd h9 (by decide))
          refine lv_iinc (v := (4 : Int32)) (lv' := [(3, .int (4 : Int32)), (0, .ref q), (1, .int (4 : Int32)), (2, .int dp)]) hx hb d_World_initialiseInterfaces_62 hl (k := 0) rfl (by decide) (by decide) rfl (fun ls hl => ?_)
          refine lv_goto (tgt := 9) hx hb d_World_initialiseInterfaces_65 (by decide) ?_
          refine lv_iload_n hx hb d_World_initialiseInterfaces_9 rfl (lv_at hl 0 rfl) ?_
          refine va_gets hx hb hZ_OWNERS hS hown (hk _ kl_World_56) (fun _ h9 => h9) d_World_initialiseInterfaces_10 ?_
          refine va_tlen hx hb hT_OWNERS hS (v := (5 : Int32)) (by decide) d_World_initialiseInterfaces_13 ?_
          refine lv_icmp_ge (tgt := 68) hx hb d_World_initialiseInterfaces_14 (by decide) (fun h9 => absurd h9 (by decide)) (fun _ => ?_)
          refine va_gets hx hb hZ_OWNERS hS hown (hk _ kl_World_56) (fun _ h9 => h9) d_World_initialiseInterfaces_17 ?_
          refine lv_iload_n hx hb d_World_initialiseInterfaces_20 rfl (lv_at hl 0 rfl) ?_
          refine va_ti (v := .int (7 : Int32)) hx hb hT_OWNERS hS (by unfold vp_in; decide) rfl d_World_initialiseInterfaces_21 ?_
          refine lv_iload_n hx hb d_World_initialiseInterfaces_22 rfl (lv_at hl 2 rfl) ?_
          refine lv_icmp_ne (tgt := 62) hx hb d_World_initialiseInterfaces_23 (by decide) (fun _ => ?_) (fun h9 => absurd h9 (by decide))
          refine lv_iinc (v := (5 : Int32)) (lv' := [(3, .int (5 : Int32)), (0, .ref q), (1, .int (4 : Int32)), (2, .int dp)]) hx hb d_World_initialiseInterfaces_62 hl (k := 0) rfl (by decide) (by decide) rfl (fun ls hl => ?_)
          refine lv_goto (tgt := 9) hx hb d_World_initialiseInterfaces_65 (by decide) ?_
          refine lv_iload_n hx hb d_World_initialiseInterfaces_9 rfl (lv_at hl 0 rfl) ?_
          refine va_gets hx hb hZ_OWNERS hS hown (hk _ kl_World_56) (fun _ h9 => h9) d_World_initialiseInterfaces_10 ?_
          refine va_tlen hx hb hT_OWNERS hS (v := (5 : Int32)) (by decide) d_World_initialiseInterfaces_13 ?_
          refine lv_icmp_ge (tgt := 68) hx hb d_World_initialiseInterfaces_14 (by decide) (fun _ => ?_) (fun h9 => absurd (by decide) h9)
          obtain rfl : res = (gT (3 : Int32) (dp + (1 : Int32)) (gI (3 : Int32) (dp + (1 : Int32)) w)).1 := hres.symm.trans ((if_pos c_3).trans ((if_neg c_23).trans ((if_pos (by rfl)).trans ((if_neg c_46).trans rfl))))
          exact CMv_ret hx hb hr hlocks hP hK hD hS d_World_initialiseInterfaces_68
    · subst c_23
      refine lv_aload_n hx hb d_World_initialiseInterfaces_26 rfl (lv_at hl 1 rfl) ?_
      refine va_gets hx hb hZ_OWNED hS hown (hk _ kl_World_59) (fun _ h9 => h9) d_World_initialiseInterfaces_27 ?_
      refine lv_iload_n hx hb d_World_initialiseInterfaces_30 rfl (lv_at hl 0 rfl) ?_
      refine va_ti (v := .int (3 : Int32)) hx hb hT_OWNED hS (by unfold vp_in; decide) rfl d_World_initialiseInterfaces_31 ?_
      refine lv_iload_n hx hb d_World_initialiseInterfaces_32 rfl (lv_at hl 3 rfl) ?_
      refine lv_iconst (v := (1 : Int32)) hx hb d_World_initialiseInterfaces_33 (by decide) ?_
      refine lv_iadd hx hb d_World_initialiseInterfaces_34 ?_
      refine CMv.callV (wc := W4 cI q qn qv qs w) (wr := []) (b := q) (av := [.int (3 : Int32), .int (dp + (1 : Int32))]) (rest := []) hx hb hml hown hk (hI2 (3 : Int32) (dp + (1 : Int32)) w (pG_If2 hp c_3 (ok_mono hp.2.2.2 (by decide)))) hK hP hD hS hA hSt hl.1 (va_recv hK hP (ci := 0) (q0 := 0) rfl rfl) d_World_initialiseInterfaces_35 kc_World_initialiseInterfaces ki_World kl_World_52 kn_World_initialiseInterfaces kx_World_initialiseInterfaces (n := 2) rfl (by decide +kernel) ⟨Nat.le_refl _, (by show 8 + (4 + 11) + 40 * n ≤ 40 * (n + 1); omega)⟩ rfl rfl (Nat.le_of_ble_eq_true rfl) ⟨Nat.zero_le _, Nat.zero_le _⟩ (fun H locs hP hD hS => ?_)
      have hP : va_P D classes (W4 cI q qn qv qs (gI (3 : Int32) (dp + (1 : Int32)) w)) H := hP
      have hD : va_D A (W4 cI q qn qv qs (gI (3 : Int32) (dp + (1 : Int32)) w)) := hD
      refine va_gets hx hb hZ_OWNED hS hown (hk _ kl_World_59) (fun _ h9 => h9) d_World_initialiseInterfaces_38 ?_
      refine lv_iload_n hx hb d_World_initialiseInterfaces_41 rfl (lv_at hl 0 rfl) ?_
      refine va_ti (v := .int (3 : Int32)) hx hb hT_OWNED hS (by unfold vp_in; decide) rfl d_World_initialiseInterfaces_42 ?_
      refine CM.callS (wc := []) (wr := W4 cI q qn qv qs (gI (3 : Int32) (dp + (1 : Int32)) w)) (av := [.int (3 : Int32)]) (rest := []) hx hb hml hown hk (c_Kinds_hasBody l D cI cW (3 : Int32) _ rfl) hK hP hD hS hA hSt hl.1 d_World_initialiseInterfaces_43 kc_Kinds_hasBody ki_Kinds kl_World_62 ks_Kinds_hasBody (n := 1) rfl (by decide +kernel) ⟨(by show 0 + 1 ≤ n + 1; have h1 := hp.2.1; have h2 := hp.2.2.1; omega), (by show 8 + (1 + 11) + 0 ≤ 40 * (n + 1); have h1 := hp.2.1; have h2 := hp.2.2.1; omega)⟩ rfl rfl (Nat.le_of_ble_eq_true rfl) ⟨Nat.zero_le _, Nat.zero_le _⟩ (fun H locs hP hD hS => ?_)
      have hP : va_P D classes (W4 cI q qn qv qs (gI (3 : Int32) (dp + (1 : Int32)) w)) H := hP
      have hD : va_D A (W4 cI q qn qv qs (gI (3 : Int32) (dp + (1 : Int32)) w)) := hD
      refine lv_if_eq (tgt := 62) hx hb d_World_initialiseInterfaces_46 (by decide) (fun c_46 => ?_) (fun c_46 => ?_)
      · refine lv_iinc (v := (1 : Int32)) (lv' := [(3, .int (1 : Int32)), (0, .ref q), (1, .int (1 : Int32)), (2, .int dp)]) hx hb d_World_initialiseInterfaces_62 hl (k := 0) rfl (by decide) (by decide) rfl (fun ls hl => ?_)
        refine lv_goto (tgt := 9) hx hb d_World_initialiseInterfaces_65 (by decide) ?_
        refine lv_iload_n hx hb d_World_initialiseInterfaces_9 rfl (lv_at hl 0 rfl) ?_
        refine va_gets hx hb hZ_OWNERS hS hown (hk _ kl_World_56) (fun _ h9 => h9) d_World_initialiseInterfaces_10 ?_
        refine va_tlen hx hb hT_OWNERS hS (v := (5 : Int32)) (by decide) d_World_initialiseInterfaces_13 ?_
        refine lv_icmp_ge (tgt := 68) hx hb d_World_initialiseInterfaces_14 (by decide) (fun h9 => absurd h9 (by decide)) (fun _ => ?_)
        refine va_gets hx hb hZ_OWNERS hS hown (hk _ kl_World_56) (fun _ h9 => h9) d_World_initialiseInterfaces_17 ?_
        refine lv_iload_n hx hb d_World_initialiseInterfaces_20 rfl (lv_at hl 0 rfl) ?_
        refine va_ti (v := .int (1 : Int32)) hx hb hT_OWNERS hS (by unfold vp_in; decide) rfl d_World_initialiseInterfaces_21 ?_
        refine lv_iload_n hx hb d_World_initialiseInterfaces_22 rfl (lv_at hl 2 rfl) ?_
        refine lv_icmp_ne (tgt := 62) hx hb d_World_initialiseInterfaces_23 (by decide) (fun h9 => absurd (by decide) h9) (fun _ => ?_)
        refine lv_aload_n hx hb d_World_initialiseInterfaces_26 rfl (lv_at hl 1 rfl) ?_
        refine va_gets hx hb hZ_OWNED hS hown (hk _ kl_World_59) (fun _ h9 => h9) d_World_initialiseInterfaces_27 ?_
        refine lv_iload_n hx hb d_World_initialiseInterfaces_30 rfl (lv_at hl 0 rfl) ?_
        refine va_ti (v := .int (5 : Int32)) hx hb hT_OWNED hS (by unfold vp_in; decide) rfl d_World_initialiseInterfaces_31 ?_
        refine lv_iload_n hx hb d_World_initialiseInterfaces_32 rfl (lv_at hl 3 rfl) ?_
        refine lv_iconst (v := (1 : Int32)) hx hb d_World_initialiseInterfaces_33 (by decide) ?_
        refine lv_iadd hx hb d_World_initialiseInterfaces_34 ?_
        refine CMv.callV (wc := W4 cI q qn qv qs (gI (3 : Int32) (dp + (1 : Int32)) w)) (wr := []) (b := q) (av := [.int (5 : Int32), .int (dp + (1 : Int32))]) (rest := []) hx hb hml hown hk (hI2 (5 : Int32) (dp + (1 : Int32)) (gI (3 : Int32) (dp + (1 : Int32)) w) (pG_If2 hp c_3 (ok_mono (okI (3 : Int32) (dp + (1 : Int32)) w _ hp.2.2.2) (by decide)))) hK hP hD hS hA hSt hl.1 (va_recv hK hP (ci := 0) (q0 := 0) rfl rfl) d_World_initialiseInterfaces_35 kc_World_initialiseInterfaces ki_World kl_World_52 kn_World_initialiseInterfaces kx_World_initialiseInterfaces (n := 2) rfl (by decide +kernel) ⟨Nat.le_refl _, (by show 8 + (4 + 11) + 40 * n ≤ 40 * (n + 1); omega)⟩ rfl rfl (Nat.le_of_ble_eq_true rfl) ⟨Nat.zero_le _, Nat.zero_le _⟩ (fun H locs hP hD hS => ?_)
        have hP : va_P D classes (W4 cI q qn qv qs (gI (5 : Int32) (dp + (1 : Int32)) (gI (3 : Int32) (dp + (1 : Int32)) w))) H := hP
        have hD : va_D A (W4 cI q qn qv qs (gI (5 : Int32) (dp + (1 : Int32)) (gI (3 : Int32) (dp + (1 : Int32)) w))) := hD
        refine va_gets hx hb hZ_OWNED hS hown (hk _ kl_World_59) (fun _ h9 => h9) d_World_initialiseInterfaces_38 ?_
        refine lv_iload_n hx hb d_World_initialiseInterfaces_41 rfl (lv_at hl 0 rfl) ?_
        refine va_ti (v := .int (5 : Int32)) hx hb hT_OWNED hS (by unfold vp_in; decide) rfl d_World_initialiseInterfaces_42 ?_
        refine CM.callS (wc := []) (wr := W4 cI q qn qv qs (gI (5 : Int32) (dp + (1 : Int32)) (gI (3 : Int32) (dp + (1 : Int32)) w))) (av := [.int (5 : Int32)]) (rest := []) hx hb hml hown hk (c_Kinds_hasBody l D cI cW (5 : Int32) _ rfl) hK hP hD hS hA hSt hl.1 d_World_initialiseInterfaces_43 kc_Kinds_hasBody ki_Kinds kl_World_62 ks_Kinds_hasBody (n := 1) rfl (by decide +kernel) ⟨(by show 0 + 1 ≤ n + 1; have h1 := hp.2.1; have h2 := hp.2.2.1; omega), (by show 8 + (1 + 11) + 0 ≤ 40 * (n + 1); have h1 := hp.2.1; have h2 := hp.2.2.1; omega)⟩ rfl rfl (Nat.le_of_ble_eq_true rfl) ⟨Nat.zero_le _, Nat.zero_le _⟩ (fun H locs hP hD hS => ?_)
        have hP : va_P D classes (W4 cI q qn qv qs (gI (5 : Int32) (dp + (1 : Int32)) (gI (3 : Int32) (dp + (1 : Int32)) w))) H := hP
        have hD : va_D A (W4 cI q qn qv qs (gI (5 : Int32) (dp + (1 : Int32)) (gI (3 : Int32) (dp + (1 : Int32)) w))) := hD
        refine lv_if_eq (tgt := 62) hx hb d_World_initialiseInterfaces_46 (by decide) (fun c_46_1 => ?_) (fun c_46_1 => ?_)
        · refine lv_iinc (v := (2 : Int32)) (lv' := [(3, .int (2 : Int32)), (0, .ref q), (1, .int (1 : Int32)), (2, .int dp)]) hx hb d_World_initialiseInterfaces_62 hl (k := 0) rfl (by decide) (by decide) rfl (fun ls hl => ?_)
          refine lv_goto (tgt := 9) hx hb d_World_initialiseInterfaces_65 (by decide) ?_
          refine lv_iload_n hx hb d_World_initialiseInterfaces_9 rfl (lv_at hl 0 rfl) ?_
          refine va_gets hx hb hZ_OWNERS hS hown (hk _ kl_World_56) (fun _ h9 => h9) d_World_initialiseInterfaces_10 ?_
          refine va_tlen hx hb hT_OWNERS hS (v := (5 : Int32)) (by decide) d_World_initialiseInterfaces_13 ?_
          refine lv_icmp_ge (tgt := 68) hx hb d_World_initialiseInterfaces_14 (by decide) (fun h9 => absurd h9 (by decide)) (fun _ => ?_)
          refine va_gets hx hb hZ_OWNERS hS hown (hk _ kl_World_56) (fun _ h9 => h9) d_World_initialiseInterfaces_17 ?_
          refine lv_iload_n hx hb d_World_initialiseInterfaces_20 rfl (lv_at hl 0 rfl) ?_
          refine va_ti (v := .int (4 : Int32)) hx hb hT_OWNERS hS (by unfold vp_in; decide) rfl d_World_initialiseInterfaces_21 ?_
          refine lv_iload_n hx hb d_World_initialiseInterfaces_22 rfl (lv_at hl 2 rfl) ?_
          refine lv_icmp_ne (tgt := 62) hx hb d_World_initialiseInterfaces_23 (by decide) (fun _ => ?_) (fun h9 => absurd h9 (by decide))
          refine lv_iinc (v := (3 : Int32)) (lv' := [(3, .int (3 : Int32)), (0, .ref q), (1, .int (1 : Int32)), (2, .int dp)]) hx hb d_World_initialiseInterfaces_62 hl (k := 0) rfl (by decide) (by decide) rfl (fun ls hl => ?_)
          refine lv_goto (tgt := 9) hx hb d_World_initialiseInterfaces_65 (by decide) ?_
          refine lv_iload_n hx hb d_World_initialiseInterfaces_9 rfl (lv_at hl 0 rfl) ?_
          refine va_gets hx hb hZ_OWNERS hS hown (hk _ kl_World_56) (fun _ h9 => h9) d_World_initialiseInterfaces_10 ?_
          refine va_tlen hx hb hT_OWNERS hS (v := (5 : Int32)) (by decide) d_World_initialiseInterfaces_13 ?_
          refine lv_icmp_ge (tgt := 68) hx hb d_World_initialiseInterfaces_14 (by decide) (fun h9 => absurd h9 (by decide)) (fun _ => ?_)
          refine va_gets hx hb hZ_OWNERS hS hown (hk _ kl_World_56) (fun _ h9 => h9) d_World_initialiseInterfaces_17 ?_
          refine lv_iload_n hx hb d_World_initialiseInterfaces_20 rfl (lv_at hl 0 rfl) ?_
          refine va_ti (v := .int (6 : Int32)) hx hb hT_OWNERS hS (by unfold vp_in; decide) rfl d_World_initialiseInterfaces_21 ?_
          refine lv_iload_n hx hb d_World_initialiseInterfaces_22 rfl (lv_at hl 2 rfl) ?_
          refine lv_icmp_ne (tgt := 62) hx hb d_World_initialiseInterfaces_23 (by decide) (fun _ => ?_) (fun h9 => absurd h9 (by decide))
          refine lv_iinc (v := (4 : Int32)) (lv' := [(3, .int (4 : Int32)), (0, .ref q), (1, .int (1 : Int32)), (2, .int dp)]) hx hb d_World_initialiseInterfaces_62 hl (k := 0) rfl (by decide) (by decide) rfl (fun ls hl => ?_)
          refine lv_goto (tgt := 9) hx hb d_World_initialiseInterfaces_65 (by decide) ?_
          refine lv_iload_n hx hb d_World_initialiseInterfaces_9 rfl (lv_at hl 0 rfl) ?_
          refine va_gets hx hb hZ_OWNERS hS hown (hk _ kl_World_56) (fun _ h9 => h9) d_World_initialiseInterfaces_10 ?_
          refine va_tlen hx hb hT_OWNERS hS (v := (5 : Int32)) (by decide) d_World_initialiseInterfaces_13 ?_
          refine lv_icmp_ge (tgt := 68) hx hb d_World_initialiseInterfaces_14 (by decide) (fun h9 => absurd h9 (by decide)) (fun _ => ?_)
          refine va_gets hx hb hZ_OWNERS hS hown (hk _ kl_World_56) (fun _ h9 => h9) d_World_initialiseInterfaces_17 ?_
          refine lv_iload_n hx hb d_World_initialiseInterfaces_20 rfl (lv_at hl 0 rfl) ?_
          refine va_ti (v := .int (7 : Int32)) hx hb hT_OWNERS hS (by unfold vp_in; decide) rfl d_World_initialiseInterfaces_21 ?_
          refine lv_iload_n hx hb d_World_initialiseInterfaces_22 rfl (lv_at hl 2 rfl) ?_
          refine lv_icmp_ne (tgt := 62) hx hb d_World_initialiseInterfaces_23 (by decide) (fun _ => ?_) (fun h9 => absurd h9 (by decide))
          refine lv_iinc (v := (5 : Int32)) (lv' := [(3, .int (5 : Int32)), (0, .ref q), (1, .int (1 : Int32)), (2, .int dp)]) hx hb d_World_initialiseInterfaces_62 hl (k := 0) rfl (by decide) (by decide) rfl (fun ls hl => ?_)
          refine lv_goto (tgt := 9) hx hb d_World_initialiseInterfaces_65 (by decide) ?_
          refine lv_iload_n hx hb d_World_initialiseInterfaces_9 rfl (lv_at hl 0 rfl) ?_
          refine va_gets hx hb hZ_OWNERS hS hown (hk _ kl_World_56) (fun _ h9 => h9) d_World_initialiseInterfaces_10 ?_
          refine va_tlen hx hb hT_OWNERS hS (v := (5 : Int32)) (by decide) d_World_initialiseInterfaces_13 ?_
          refine lv_icmp_ge (tgt := 68) hx hb d_World_initialiseInterfaces_14 (by decide) (fun _ => ?_) (fun h9 => absurd (by decide) h9)
          obtain rfl : res = (gI (5 : Int32) (dp + (1 : Int32)) (gI (3 : Int32) (dp + (1 : Int32)) w)) := hres.symm.trans ((if_pos c_3).trans ((if_pos (by rfl)).trans ((if_pos c_46).trans ((if_pos c_46_1).trans rfl))))
          exact CMv_ret hx hb hr hlocks hP hK hD hS d_World_initialiseInterfaces_68
        · refine lv_aload_n hx hb d_World_initialiseInterfaces_49 rfl (lv_at hl 1 rfl) ?_
          refine va_gets hx hb hZ_OWNED hS hown (hk _ kl_World_59) (fun _ h9 => h9) d_World_initialiseInterfaces_50 ?_
          refine lv_iload_n hx hb d_World_initialiseInterfaces_53 rfl (lv_at hl 0 rfl) ?_
          refine va_ti (v := .int (5 : Int32)) hx hb hT_OWNED hS (by unfold vp_in; decide) rfl d_World_initialiseInterfaces_54 ?_
          refine lv_iload_n hx hb d_World_initialiseInterfaces_55 rfl (lv_at hl 3 rfl) ?_
          refine lv_iconst (v := (1 : Int32)) hx hb d_World_initialiseInterfaces_56 (by decide) ?_
          refine lv_iadd hx hb d_World_initialiseInterfaces_57 ?_
          refine CM.callV (wc := W4 cI q qn qv qs (gI (5 : Int32) (dp + (1 : Int32)) (gI (3 : Int32) (dp + (1 : Int32)) w))) (wr := []) (b := q) (av := [.int (5 : Int32), .int (dp + (1 : Int32))]) (rest := []) hx hb hml hown hk (hT2 (5 : Int32) (dp + (1 : Int32)) (gI (5 : Int32) (dp + (1 : Int32)) (gI (3 : Int32) (dp + (1 : Int32)) w)) (pG_At2 hp c_3 (ok_mono (okI (5 : Int32) (dp + (1 : Int32)) (gI (3 : Int32) (dp + (1 : Int32)) w) _ (okI (3 : Int32) (dp + (1 : Int32)) w _ hp.2.2.2)) (by decide)))) hK hP hD hS hA hSt hl.1 (va_recv hK hP (ci := 0) (q0 := 0) rfl rfl) d_World_initialiseInterfaces_58 kc_World_initialiseAt ki_World kl_World_31 kn_World_initialiseAt kx_World_initialiseAt (n := 2) rfl (by decide +kernel) ⟨Nat.le_refl _, (by show 8 + (4 + 11) + 40 * n ≤ 40 * (n + 1); omega)⟩ rfl rfl (Nat.le_of_ble_eq_true rfl) ⟨Nat.zero_le _, Nat.zero_le _⟩ (fun H locs hP hD hS => ?_)
          have hP : va_P D classes (W4 cI q qn qv qs ((gT (5 : Int32) (dp + (1 : Int32)) (gI (5 : Int32) (dp + (1 : Int32)) (gI (3 : Int32) (dp + (1 : Int32)) w))).1)) H := hP
          have hD : va_D A (W4 cI q qn qv qs ((gT (5 : Int32) (dp + (1 : Int32)) (gI (5 : Int32) (dp + (1 : Int32)) (gI (3 : Int32) (dp + (1 : Int32)) w))).1)) := hD
          refine lv_pop hx hb d_World_initialiseInterfaces_61 rfl ?_
          refine lv_iinc (v := (2 : Int32)) (lv' := [(3, .int (2 : Int32)), (0, .ref q), (1, .int (1 : Int32)), (2, .int dp)]) hx hb d_World_initialiseInterfaces_62 hl (k := 0) rfl (by decide) (by decide) rfl (fun ls hl => ?_)
          refine lv_goto (tgt := 9) hx hb d_World_initialiseInterfaces_65 (by decide) ?_
          refine lv_iload_n hx hb d_World_initialiseInterfaces_9 rfl (lv_at hl 0 rfl) ?_
          refine va_gets hx hb hZ_OWNERS hS hown (hk _ kl_World_56) (fun _ h9 => h9) d_World_initialiseInterfaces_10 ?_
          refine va_tlen hx hb hT_OWNERS hS (v := (5 : Int32)) (by decide) d_World_initialiseInterfaces_13 ?_
          refine lv_icmp_ge (tgt := 68) hx hb d_World_initialiseInterfaces_14 (by decide) (fun h9 => absurd h9 (by decide)) (fun _ => ?_)
          refine va_gets hx hb hZ_OWNERS hS hown (hk _ kl_World_56) (fun _ h9 => h9) d_World_initialiseInterfaces_17 ?_
          refine lv_iload_n hx hb d_World_initialiseInterfaces_20 rfl (lv_at hl 0 rfl) ?_
          refine va_ti (v := .int (4 : Int32)) hx hb hT_OWNERS hS (by unfold vp_in; decide) rfl d_World_initialiseInterfaces_21 ?_
          refine lv_iload_n hx hb d_World_initialiseInterfaces_22 rfl (lv_at hl 2 rfl) ?_
          refine lv_icmp_ne (tgt := 62) hx hb d_World_initialiseInterfaces_23 (by decide) (fun _ => ?_) (fun h9 => absurd h9 (by decide))
          refine lv_iinc (v := (3 : Int32)) (lv' := [(3, .int (3 : Int32)), (0, .ref q), (1, .int (1 : Int32)), (2, .int dp)]) hx hb d_World_initialiseInterfaces_62 hl (k := 0) rfl (by decide) (by decide) rfl (fun ls hl => ?_)
          refine lv_goto (tgt := 9) hx hb d_World_initialiseInterfaces_65 (by decide) ?_
          refine lv_iload_n hx hb d_World_initialiseInterfaces_9 rfl (lv_at hl 0 rfl) ?_
          refine va_gets hx hb hZ_OWNERS hS hown (hk _ kl_World_56) (fun _ h9 => h9) d_World_initialiseInterfaces_10 ?_
          refine va_tlen hx hb hT_OWNERS hS (v := (5 : Int32)) (by decide) d_World_initialiseInterfaces_13 ?_
          refine lv_icmp_ge (tgt := 68) hx hb d_World_initialiseInterfaces_14 (by decide) (fun h9 => absurd h9 (by decide)) (fun _ => ?_)
          refine va_gets hx hb hZ_OWNERS hS hown (hk _ kl_World_56) (fun _ h9 => h9) d_World_initialiseInterfaces_17 ?_
          refine lv_iload_n hx hb d_World_initialiseInterfaces_20 rfl (lv_at hl 0 rfl) ?_
          refine va_ti (v := .int (6 : Int32)) hx hb hT_OWNERS hS (by unfold vp_in; decide) rfl d_World_initialiseInterfaces_21 ?_
          refine lv_iload_n hx hb d_World_initialiseInterfaces_22 rfl (lv_at hl 2 rfl) ?_
          refine lv_icmp_ne (tgt := 62) hx hb d_World_initialiseInterfaces_23 (by decide) (fun _ => ?_) (fun h9 => absurd h9 (by decide))
          refine lv_iinc (v := (4 : Int32)) (lv' := [(3, .int (4 : Int32)), (0, .ref q), (1, .int (1 : Int32)), (2, .int dp)]) hx hb d_World_initialiseInterfaces_62 hl (k := 0) rfl (by decide) (by decide) rfl (fun ls hl => ?_)
          refine lv_goto (tgt := 9) hx hb d_World_initialiseInterfaces_65 (by decide) ?_
          refine lv_iload_n hx hb d_World_initialiseInterfaces_9 rfl (lv_at hl 0 rfl) ?_
          refine va_gets hx hb hZ_OWNERS hS hown (hk _ kl_World_56) (fun _ h9 => h9) d_World_initialiseInterfaces_10 ?_
          refine va_tlen hx hb hT_OWNERS hS (v := (5 : Int32)) (by decide) d_World_initialiseInterfaces_13 ?_
          refine lv_icmp_ge (tgt := 68) hx hb d_World_initialiseInterfaces_14 (by decide) (fun h9 => absurd h9 (by decide)) (fun _ => ?_)
          refine va_gets hx hb hZ_OWNERS hS hown (hk _ kl_World_56) (fun _ h9 => h9) d_World_initialiseInterfaces_17 ?_
          refine lv_iload_n hx hb d_World_initialiseInterfaces_20 rfl (lv_at hl 0 rfl) ?_
          refine va_ti (v := .int (7 : Int32)) hx hb hT_OWNERS hS (by unfold vp_in; decide) rfl d_World_initialiseInterfaces_21 ?_
          refine lv_iload_n hx hb d_World_initialiseInterfaces_22 rfl (lv_at hl 2 rfl) ?_
          refine lv_icmp_ne (tgt := 62) hx hb d_World_initialiseInterfaces_23 (by decide) (fun _ => ?_) (fun h9 => absurd h9 (by decide))
          refine lv_iinc (v := (5 : Int32)) (lv' := [(3, .int (5 : Int32)), (0, .ref q), (1, .int (1 : Int32)), (2, .int dp)]) hx hb d_World_initialiseInterfaces_62 hl (k := 0) rfl (by decide) (by decide) rfl (fun ls hl => ?_)
          refine lv_goto (tgt := 9) hx hb d_World_initialiseInterfaces_65 (by decide) ?_
          refine lv_iload_n hx hb d_World_initialiseInterfaces_9 rfl (lv_at hl 0 rfl) ?_
          refine va_gets hx hb hZ_OWNERS hS hown (hk _ kl_World_56) (fun _ h9 => h9) d_World_initialiseInterfaces_10 ?_
          refine va_tlen hx hb hT_OWNERS hS (v := (5 : Int32)) (by decide) d_World_initialiseInterfaces_13 ?_
          refine lv_icmp_ge (tgt := 68) hx hb d_World_initialiseInterfaces_14 (by decide) (fun _ => ?_) (fun h9 => absurd (by decide) h9)
          obtain rfl : res = (gT (5 : Int32) (dp + (1 : Int32)) (gI (5 : Int32) (dp + (1 : Int32)) (gI (3 : Int32) (dp + (1 : Int32)) w))).1 := hres.symm.trans ((if_pos c_3).trans ((if_pos (by rfl)).trans ((if_pos c_46).trans ((if_neg c_46_1).trans rfl))))
          exact CMv_ret hx hb hr hlocks hP hK hD hS d_World_initialiseInterfaces_68
      · refine lv_aload_n hx hb d_World_initialiseInterfaces_49 rfl (lv_at hl 1 rfl) ?_
        refine va_gets hx hb hZ_OWNED hS hown (hk _ kl_World_59) (fun _ h9 => h9) d_World_initialiseInterfaces_50 ?_
        refine lv_iload_n hx hb d_World_initialiseInterfaces_53 rfl (lv_at hl 0 rfl) ?_
        refine va_ti (v := .int (3 : Int32)) hx hb hT_OWNED hS (by unfold vp_in; decide) rfl d_World_initialiseInterfaces_54 ?_
        refine lv_iload_n hx hb d_World_initialiseInterfaces_55 rfl (lv_at hl 3 rfl) ?_
        refine lv_iconst (v := (1 : Int32)) hx hb d_World_initialiseInterfaces_56 (by decide) ?_
        refine lv_iadd hx hb d_World_initialiseInterfaces_57 ?_
        refine CM.callV (wc := W4 cI q qn qv qs (gI (3 : Int32) (dp + (1 : Int32)) w)) (wr := []) (b := q) (av := [.int (3 : Int32), .int (dp + (1 : Int32))]) (rest := []) hx hb hml hown hk (hT2 (3 : Int32) (dp + (1 : Int32)) (gI (3 : Int32) (dp + (1 : Int32)) w) (pG_At2 hp c_3 (ok_mono (okI (3 : Int32) (dp + (1 : Int32)) w _ hp.2.2.2) (by decide)))) hK hP hD hS hA hSt hl.1 (va_recv hK hP (ci := 0) (q0 := 0) rfl rfl) d_World_initialiseInterfaces_58 kc_World_initialiseAt ki_World kl_World_31 kn_World_initialiseAt kx_World_initialiseAt (n := 2) rfl (by decide +kernel) ⟨Nat.le_refl _, (by show 8 + (4 + 11) + 40 * n ≤ 40 * (n + 1); omega)⟩ rfl rfl (Nat.le_of_ble_eq_true rfl) ⟨Nat.zero_le _, Nat.zero_le _⟩ (fun H locs hP hD hS => ?_)
        have hP : va_P D classes (W4 cI q qn qv qs ((gT (3 : Int32) (dp + (1 : Int32)) (gI (3 : Int32) (dp + (1 : Int32)) w)).1)) H := hP
        have hD : va_D A (W4 cI q qn qv qs ((gT (3 : Int32) (dp + (1 : Int32)) (gI (3 : Int32) (dp + (1 : Int32)) w)).1)) := hD
        refine lv_pop hx hb d_World_initialiseInterfaces_61 rfl ?_
        refine lv_iinc (v := (1 : Int32)) (lv' := [(3, .int (1 : Int32)), (0, .ref q), (1, .int (1 : Int32)), (2, .int dp)]) hx hb d_World_initialiseInterfaces_62 hl (k := 0) rfl (by decide) (by decide) rfl (fun ls hl => ?_)
        refine lv_goto (tgt := 9) hx hb d_World_initialiseInterfaces_65 (by decide) ?_
        refine lv_iload_n hx hb d_World_initialiseInterfaces_9 rfl (lv_at hl 0 rfl) ?_
        refine va_gets hx hb hZ_OWNERS hS hown (hk _ kl_World_56) (fun _ h9 => h9) d_World_initialiseInterfaces_10 ?_
        refine va_tlen hx hb hT_OWNERS hS (v := (5 : Int32)) (by decide) d_World_initialiseInterfaces_13 ?_
        refine lv_icmp_ge (tgt := 68) hx hb d_World_initialiseInterfaces_14 (by decide) (fun h9 => absurd h9 (by decide)) (fun _ => ?_)
        refine va_gets hx hb hZ_OWNERS hS hown (hk _ kl_World_56) (fun _ h9 => h9) d_World_initialiseInterfaces_17 ?_
        refine lv_iload_n hx hb d_World_initialiseInterfaces_20 rfl (lv_at hl 0 rfl) ?_
        refine va_ti (v := .int (1 : Int32)) hx hb hT_OWNERS hS (by unfold vp_in; decide) rfl d_World_initialiseInterfaces_21 ?_
        refine lv_iload_n hx hb d_World_initialiseInterfaces_22 rfl (lv_at hl 2 rfl) ?_
        refine lv_icmp_ne (tgt := 62) hx hb d_World_initialiseInterfaces_23 (by decide) (fun h9 => absurd (by decide) h9) (fun _ => ?_)
        refine lv_aload_n hx hb d_World_initialiseInterfaces_26 rfl (lv_at hl 1 rfl) ?_
        refine va_gets hx hb hZ_OWNED hS hown (hk _ kl_World_59) (fun _ h9 => h9) d_World_initialiseInterfaces_27 ?_
        refine lv_iload_n hx hb d_World_initialiseInterfaces_30 rfl (lv_at hl 0 rfl) ?_
        refine va_ti (v := .int (5 : Int32)) hx hb hT_OWNED hS (by unfold vp_in; decide) rfl d_World_initialiseInterfaces_31 ?_
        refine lv_iload_n hx hb d_World_initialiseInterfaces_32 rfl (lv_at hl 3 rfl) ?_
        refine lv_iconst (v := (1 : Int32)) hx hb d_World_initialiseInterfaces_33 (by decide) ?_
        refine lv_iadd hx hb d_World_initialiseInterfaces_34 ?_
        refine CMv.callV (wc := W4 cI q qn qv qs ((gT (3 : Int32) (dp + (1 : Int32)) (gI (3 : Int32) (dp + (1 : Int32)) w)).1)) (wr := []) (b := q) (av := [.int (5 : Int32), .int (dp + (1 : Int32))]) (rest := []) hx hb hml hown hk (hI2 (5 : Int32) (dp + (1 : Int32)) ((gT (3 : Int32) (dp + (1 : Int32)) (gI (3 : Int32) (dp + (1 : Int32)) w)).1) (pG_If2 hp c_3 (ok_mono (okT (3 : Int32) (dp + (1 : Int32)) (gI (3 : Int32) (dp + (1 : Int32)) w) _ (okI (3 : Int32) (dp + (1 : Int32)) w _ hp.2.2.2)) (by decide)))) hK hP hD hS hA hSt hl.1 (va_recv hK hP (ci := 0) (q0 := 0) rfl rfl) d_World_initialiseInterfaces_35 kc_World_initialiseInterfaces ki_World kl_World_52 kn_World_initialiseInterfaces kx_World_initialiseInterfaces (n := 2) rfl (by decide +kernel) ⟨Nat.le_refl _, (by show 8 + (4 + 11) + 40 * n ≤ 40 * (n + 1); omega)⟩ rfl rfl (Nat.le_of_ble_eq_true rfl) ⟨Nat.zero_le _, Nat.zero_le _⟩ (fun H locs hP hD hS => ?_)
        have hP : va_P D classes (W4 cI q qn qv qs (gI (5 : Int32) (dp + (1 : Int32)) ((gT (3 : Int32) (dp + (1 : Int32)) (gI (3 : Int32) (dp + (1 : Int32)) w)).1))) H := hP
        have hD : va_D A (W4 cI q qn qv qs (gI (5 : Int32) (dp + (1 : Int32)) ((gT (3 : Int32) (dp + (1 : Int32)) (gI (3 : Int32) (dp + (1 : Int32)) w)).1))) := hD
        refine va_gets hx hb hZ_OWNED hS hown (hk _ kl_World_59) (fun _ h9 => h9) d_World_initialiseInterfaces_38 ?_
        refine lv_iload_n hx hb d_World_initialiseInterfaces_41 rfl (lv_at hl 0 rfl) ?_
        refine va_ti (v := .int (5 : Int32)) hx hb hT_OWNED hS (by unfold vp_in; decide) rfl d_World_initialiseInterfaces_42 ?_
        refine CM.callS (wc := []) (wr := W4 cI q qn qv qs (gI (5 : Int32) (dp + (1 : Int32)) ((gT (3 : Int32) (dp + (1 : Int32)) (gI (3 : Int32) (dp + (1 : Int32)) w)).1))) (av := [.int (5 : Int32)]) (rest := []) hx hb hml hown hk (c_Kinds_hasBody l D cI cW (5 : Int32) _ rfl) hK hP hD hS hA hSt hl.1 d_World_initialiseInterfaces_43 kc_Kinds_hasBody ki_Kinds kl_World_62 ks_Kinds_hasBody (n := 1) rfl (by decide +kernel) ⟨(by show 0 + 1 ≤ n + 1; have h1 := hp.2.1; have h2 := hp.2.2.1; omega), (by show 8 + (1 + 11) + 0 ≤ 40 * (n + 1); have h1 := hp.2.1; have h2 := hp.2.2.1; omega)⟩ rfl rfl (Nat.le_of_ble_eq_true rfl) ⟨Nat.zero_le _, Nat.zero_le _⟩ (fun H locs hP hD hS => ?_)
        have hP : va_P D classes (W4 cI q qn qv qs (gI (5 : Int32) (dp + (1 : Int32)) ((gT (3 : Int32) (dp + (1 : Int32)) (gI (3 : Int32) (dp + (1 : Int32)) w)).1))) H := hP
        have hD : va_D A (W4 cI q qn qv qs (gI (5 : Int32) (dp + (1 : Int32)) ((gT (3 : Int32) (dp + (1 : Int32)) (gI (3 : Int32) (dp + (1 : Int32)) w)).1))) := hD
        refine lv_if_eq (tgt := 62) hx hb d_World_initialiseInterfaces_46 (by decide) (fun c_46_1 => ?_) (fun c_46_1 => ?_)
        · refine lv_iinc (v := (2 : Int32)) (lv' := [(3, .int (2 : Int32)), (0, .ref q), (1, .int (1 : Int32)), (2, .int dp)]) hx hb d_World_initialiseInterfaces_62 hl (k := 0) rfl (by decide) (by decide) rfl (fun ls hl => ?_)
          refine lv_goto (tgt := 9) hx hb d_World_initialiseInterfaces_65 (by decide) ?_
          refine lv_iload_n hx hb d_World_initialiseInterfaces_9 rfl (lv_at hl 0 rfl) ?_
          refine va_gets hx hb hZ_OWNERS hS hown (hk _ kl_World_56) (fun _ h9 => h9) d_World_initialiseInterfaces_10 ?_
          refine va_tlen hx hb hT_OWNERS hS (v := (5 : Int32)) (by decide) d_World_initialiseInterfaces_13 ?_
          refine lv_icmp_ge (tgt := 68) hx hb d_World_initialiseInterfaces_14 (by decide) (fun h9 => absurd h9 (by decide)) (fun _ => ?_)
          refine va_gets hx hb hZ_OWNERS hS hown (hk _ kl_World_56) (fun _ h9 => h9) d_World_initialiseInterfaces_17 ?_
          refine lv_iload_n hx hb d_World_initialiseInterfaces_20 rfl (lv_at hl 0 rfl) ?_
          refine va_ti (v := .int (4 : Int32)) hx hb hT_OWNERS hS (by unfold vp_in; decide) rfl d_World_initialiseInterfaces_21 ?_
          refine lv_iload_n hx hb d_World_initialiseInterfaces_22 rfl (lv_at hl 2 rfl) ?_
          refine lv_icmp_ne (tgt := 62) hx hb d_World_initialiseInterfaces_23 (by decide) (fun _ => ?_) (fun h9 => absurd h9 (by decide))
          refine lv_iinc (v := (3 : Int32)) (lv' := [(3, .int (3 : Int32)), (0, .ref q), (1, .int (1 : Int32)), (2, .int dp)]) hx hb d_World_initialiseInterfaces_62 hl (k := 0) rfl (by decide) (by decide) rfl (fun ls hl => ?_)
          refine lv_goto (tgt := 9) hx hb d_World_initialiseInterfaces_65 (by decide) ?_
          refine lv_iload_n hx hb d_World_initialiseInterfaces_9 rfl (lv_at hl 0 rfl) ?_
          refine va_gets hx hb hZ_OWNERS hS hown (hk _ kl_World_56) (fun _ h9 => h9) d_World_initialiseInterfaces_10 ?_
          refine va_tlen hx hb hT_OWNERS hS (v := (5 : Int32)) (by decide) d_World_initialiseInterfaces_13 ?_
          refine lv_icmp_ge (tgt := 68) hx hb d_World_initialiseInterfaces_14 (by decide) (fun h9 => absurd h9 (by decide)) (fun _ => ?_)
          refine va_gets hx hb hZ_OWNERS hS hown (hk _ kl_World_56) (fun _ h9 => h9) d_World_initialiseInterfaces_17 ?_
          refine lv_iload_n hx hb d_World_initialiseInterfaces_20 rfl (lv_at hl 0 rfl) ?_
          refine va_ti (v := .int (6 : Int32)) hx hb hT_OWNERS hS (by unfold vp_in; decide) rfl d_World_initialiseInterfaces_21 ?_
          refine lv_iload_n hx hb d_World_initialiseInterfaces_22 rfl (lv_at hl 2 rfl) ?_
          refine lv_icmp_ne (tgt := 62) hx hb d_World_initialiseInterfaces_23 (by decide) (fun _ => ?_) (fun h9 => absurd h9 (by decide))
          refine lv_iinc (v := (4 : Int32)) (lv' := [(3, .int (4 : Int32)), (0, .ref q), (1, .int (1 : Int32)), (2, .int dp)]) hx hb d_World_initialiseInterfaces_62 hl (k := 0) rfl (by decide) (by decide) rfl (fun ls hl => ?_)
          refine lv_goto (tgt := 9) hx hb d_World_initialiseInterfaces_65 (by decide) ?_
          refine lv_iload_n hx hb d_World_initialiseInterfaces_9 rfl (lv_at hl 0 rfl) ?_
          refine va_gets hx hb hZ_OWNERS hS hown (hk _ kl_World_56) (fun _ h9 => h9) d_World_initialiseInterfaces_10 ?_
          refine va_tlen hx hb hT_OWNERS hS (v := (5 : Int32)) (by decide) d_World_initialiseInterfaces_13 ?_
          refine lv_icmp_ge (tgt := 68) hx hb d_World_initialiseInterfaces_14 (by decide) (fun h9 => absurd h9 (by decide)) (fun _ => ?_)
          refine va_gets hx hb hZ_OWNERS hS hown (hk _ kl_World_56) (fun _ h9 => h9) d_World_initialiseInterfaces_17 ?_
          refine lv_iload_n hx hb d_World_initialiseInterfaces_20 rfl (lv_at hl 0 rfl) ?_
          refine va_ti (v := .int (7 : Int32)) hx hb hT_OWNERS hS (by unfold vp_in; decide) rfl d_World_initialiseInterfaces_21 ?_
          refine lv_iload_n hx hb d_World_initialiseInterfaces_22 rfl (lv_at hl 2 rfl) ?_
          refine lv_icmp_ne (tgt := 62) hx hb d_World_initialiseInterfaces_23 (by decide) (fun _ => ?_) (fun h9 => absurd h9 (by decide))
          refine lv_iinc (v := (5 : Int32)) (lv' := [(3, .int (5 : Int32)), (0, .ref q), (1, .int (1 : Int32)), (2, .int dp)]) hx hb d_World_initialiseInterfaces_62 hl (k := 0) rfl (by decide) (by decide) rfl (fun ls hl => ?_)
          refine lv_goto (tgt := 9) hx hb d_World_initialiseInterfaces_65 (by decide) ?_
          refine lv_iload_n hx hb d_World_initialiseInterfaces_9 rfl (lv_at hl 0 rfl) ?_
          refine va_gets hx hb hZ_OWNERS hS hown (hk _ kl_World_56) (fun _ h9 => h9) d_World_initialiseInterfaces_10 ?_
          refine va_tlen hx hb hT_OWNERS hS (v := (5 : Int32)) (by decide) d_World_initialiseInterfaces_13 ?_
          refine lv_icmp_ge (tgt := 68) hx hb d_World_initialiseInterfaces_14 (by decide) (fun _ => ?_) (fun h9 => absurd (by decide) h9)
          obtain rfl : res = (gI (5 : Int32) (dp + (1 : Int32)) ((gT (3 : Int32) (dp + (1 : Int32)) (gI (3 : Int32) (dp + (1 : Int32)) w)).1)) := hres.symm.trans ((if_pos c_3).trans ((if_pos (by rfl)).trans ((if_neg c_46).trans ((if_pos c_46_1).trans rfl))))
          exact CMv_ret hx hb hr hlocks hP hK hD hS d_World_initialiseInterfaces_68
        · refine lv_aload_n hx hb d_World_initialiseInterfaces_49 rfl (lv_at hl 1 rfl) ?_
          refine va_gets hx hb hZ_OWNED hS hown (hk _ kl_World_59) (fun _ h9 => h9) d_World_initialiseInterfaces_50 ?_
          refine lv_iload_n hx hb d_World_initialiseInterfaces_53 rfl (lv_at hl 0 rfl) ?_
          refine va_ti (v := .int (5 : Int32)) hx hb hT_OWNED hS (by unfold vp_in; decide) rfl d_World_initialiseInterfaces_54 ?_
          refine lv_iload_n hx hb d_World_initialiseInterfaces_55 rfl (lv_at hl 3 rfl) ?_
          refine lv_iconst (v := (1 : Int32)) hx hb d_World_initialiseInterfaces_56 (by decide) ?_
          refine lv_iadd hx hb d_World_initialiseInterfaces_57 ?_
          refine CM.callV (wc := W4 cI q qn qv qs (gI (5 : Int32) (dp + (1 : Int32)) ((gT (3 : Int32) (dp + (1 : Int32)) (gI (3 : Int32) (dp + (1 : Int32)) w)).1))) (wr := []) (b := q) (av := [.int (5 : Int32), .int (dp + (1 : Int32))]) (rest := []) hx hb hml hown hk (hT2 (5 : Int32) (dp + (1 : Int32)) (gI (5 : Int32) (dp + (1 : Int32)) ((gT (3 : Int32) (dp + (1 : Int32)) (gI (3 : Int32) (dp + (1 : Int32)) w)).1)) (pG_At2 hp c_3 (ok_mono (okI (5 : Int32) (dp + (1 : Int32)) ((gT (3 : Int32) (dp + (1 : Int32)) (gI (3 : Int32) (dp + (1 : Int32)) w)).1) _ (okT (3 : Int32) (dp + (1 : Int32)) (gI (3 : Int32) (dp + (1 : Int32)) w) _ (okI (3 : Int32) (dp + (1 : Int32)) w _ hp.2.2.2))) (by decide)))) hK hP hD hS hA hSt hl.1 (va_recv hK hP (ci := 0) (q0 := 0) rfl rfl) d_World_initialiseInterfaces_58 kc_World_initialiseAt ki_World kl_World_31 kn_World_initialiseAt kx_World_initialiseAt (n := 2) rfl (by decide +kernel) ⟨Nat.le_refl _, (by show 8 + (4 + 11) + 40 * n ≤ 40 * (n + 1); omega)⟩ rfl rfl (Nat.le_of_ble_eq_true rfl) ⟨Nat.zero_le _, Nat.zero_le _⟩ (fun H locs hP hD hS => ?_)
          have hP : va_P D classes (W4 cI q qn qv qs ((gT (5 : Int32) (dp + (1 : Int32)) (gI (5 : Int32) (dp + (1 : Int32)) ((gT (3 : Int32) (dp + (1 : Int32)) (gI (3 : Int32) (dp + (1 : Int32)) w)).1))).1)) H := hP
          have hD : va_D A (W4 cI q qn qv qs ((gT (5 : Int32) (dp + (1 : Int32)) (gI (5 : Int32) (dp + (1 : Int32)) ((gT (3 : Int32) (dp + (1 : Int32)) (gI (3 : Int32) (dp + (1 : Int32)) w)).1))).1)) := hD
          refine lv_pop hx hb d_World_initialiseInterfaces_61 rfl ?_
          refine lv_iinc (v := (2 : Int32)) (lv' := [(3, .int (2 : Int32)), (0, .ref q), (1, .int (1 : Int32)), (2, .int dp)]) hx hb d_World_initialiseInterfaces_62 hl (k := 0) rfl (by decide) (by decide) rfl (fun ls hl => ?_)
          refine lv_goto (tgt := 9) hx hb d_World_initialiseInterfaces_65 (by decide) ?_
          refine lv_iload_n hx hb d_World_initialiseInterfaces_9 rfl (lv_at hl 0 rfl) ?_
          refine va_gets hx hb hZ_OWNERS hS hown (hk _ kl_World_56) (fun _ h9 => h9) d_World_initialiseInterfaces_10 ?_
          refine va_tlen hx hb hT_OWNERS hS (v := (5 : Int32)) (by decide) d_World_initialiseInterfaces_13 ?_
          refine lv_icmp_ge (tgt := 68) hx hb d_World_initialiseInterfaces_14 (by decide) (fun h9 => absurd h9 (by decide)) (fun _ => ?_)
          refine va_gets hx hb hZ_OWNERS hS hown (hk _ kl_World_56) (fun _ h9 => h9) d_World_initialiseInterfaces_17 ?_
          refine lv_iload_n hx hb d_World_initialiseInterfaces_20 rfl (lv_at hl 0 rfl) ?_
          refine va_ti (v := .int (4 : Int32)) hx hb hT_OWNERS hS (by unfold vp_in; decide) rfl d_World_initialiseInterfaces_21 ?_
          refine lv_iload_n hx hb d_World_initialiseInterfaces_22 rfl (lv_at hl 2 rfl) ?_
          refine lv_icmp_ne (tgt := 62) hx hb d_World_initialiseInterfaces_23 (by decide) (fun _ => ?_) (fun h9 => absurd h9 (by decide))
          refine lv_iinc (v := (3 : Int32)) (lv' := [(3, .int (3 : Int32)), (0, .ref q), (1, .int (1 : Int32)), (2, .int dp)]) hx hb d_World_initialiseInterfaces_62 hl (k := 0) rfl (by decide) (by decide) rfl (fun ls hl => ?_)
          refine lv_goto (tgt := 9) hx hb d_World_initialiseInterfaces_65 (by decide) ?_
          refine lv_iload_n hx hb d_World_initialiseInterfaces_9 rfl (lv_at hl 0 rfl) ?_
          refine va_gets hx hb hZ_OWNERS hS hown (hk _ kl_World_56) (fun _ h9 => h9) d_World_initialiseInterfaces_10 ?_
          refine va_tlen hx hb hT_OWNERS hS (v := (5 : Int32)) (by decide) d_World_initialiseInterfaces_13 ?_
          refine lv_icmp_ge (tgt := 68) hx hb d_World_initialiseInterfaces_14 (by decide) (fun h9 => absurd h9 (by decide)) (fun _ => ?_)
          refine va_gets hx hb hZ_OWNERS hS hown (hk _ kl_World_56) (fun _ h9 => h9) d_World_initialiseInterfaces_17 ?_
          refine lv_iload_n hx hb d_World_initialiseInterfaces_20 rfl (lv_at hl 0 rfl) ?_
          refine va_ti (v := .int (6 : Int32)) hx hb hT_OWNERS hS (by unfold vp_in; decide) rfl d_World_initialiseInterfaces_21 ?_
          refine lv_iload_n hx hb d_World_initialiseInterfaces_22 rfl (lv_at hl 2 rfl) ?_
          refine lv_icmp_ne (tgt := 62) hx hb d_World_initialiseInterfaces_23 (by decide) (fun _ => ?_) (fun h9 => absurd h9 (by decide))
          refine lv_iinc (v := (4 : Int32)) (lv' := [(3, .int (4 : Int32)), (0, .ref q), (1, .int (1 : Int32)), (2, .int dp)]) hx hb d_World_initialiseInterfaces_62 hl (k := 0) rfl (by decide) (by decide) rfl (fun ls hl => ?_)
          refine lv_goto (tgt := 9) hx hb d_World_initialiseInterfaces_65 (by decide) ?_
          refine lv_iload_n hx hb d_World_initialiseInterfaces_9 rfl (lv_at hl 0 rfl) ?_
          refine va_gets hx hb hZ_OWNERS hS hown (hk _ kl_World_56) (fun _ h9 => h9) d_World_initialiseInterfaces_10 ?_
          refine va_tlen hx hb hT_OWNERS hS (v := (5 : Int32)) (by decide) d_World_initialiseInterfaces_13 ?_
          refine lv_icmp_ge (tgt := 68) hx hb d_World_initialiseInterfaces_14 (by decide) (fun h9 => absurd h9 (by decide)) (fun _ => ?_)
          refine va_gets hx hb hZ_OWNERS hS hown (hk _ kl_World_56) (fun _ h9 => h9) d_World_initialiseInterfaces_17 ?_
          refine lv_iload_n hx hb d_World_initialiseInterfaces_20 rfl (lv_at hl 0 rfl) ?_
          refine va_ti (v := .int (7 : Int32)) hx hb hT_OWNERS hS (by unfold vp_in; decide) rfl d_World_initialiseInterfaces_21 ?_
          refine lv_iload_n hx hb d_World_initialiseInterfaces_22 rfl (lv_at hl 2 rfl) ?_
          refine lv_icmp_ne (tgt := 62) hx hb d_World_initialiseInterfaces_23 (by decide) (fun _ => ?_) (fun h9 => absurd h9 (by decide))
          refine lv_iinc (v := (5 : Int32)) (lv' := [(3, .int (5 : Int32)), (0, .ref q), (1, .int (1 : Int32)), (2, .int dp)]) hx hb d_World_initialiseInterfaces_62 hl (k := 0) rfl (by decide) (by decide) rfl (fun ls hl => ?_)
          refine lv_goto (tgt := 9) hx hb d_World_initialiseInterfaces_65 (by decide) ?_
          refine lv_iload_n hx hb d_World_initialiseInterfaces_9 rfl (lv_at hl 0 rfl) ?_
          refine va_gets hx hb hZ_OWNERS hS hown (hk _ kl_World_56) (fun _ h9 => h9) d_World_initialiseInterfaces_10 ?_
          refine va_tlen hx hb hT_OWNERS hS (v := (5 : Int32)) (by decide) d_World_initialiseInterfaces_13 ?_
          refine lv_icmp_ge (tgt := 68) hx hb d_World_initialiseInterfaces_14 (by decide) (fun _ => ?_) (fun h9 => absurd (by decide) h9)
          obtain rfl : res = (gT (5 : Int32) (dp + (1 : Int32)) (gI (5 : Int32) (dp + (1 : Int32)) ((gT (3 : Int32) (dp + (1 : Int32)) (gI (3 : Int32) (dp + (1 : Int32)) w)).1))).1 := hres.symm.trans ((if_pos c_3).trans ((if_pos (by rfl)).trans ((if_neg c_46).trans ((if_neg c_46_1).trans rfl))))
          exact CMv_ret hx hb hr hlocks hP hK hD hS d_World_initialiseInterfaces_68
  · obtain rfl : res = w := hres.symm.trans ((if_neg c_3).trans rfl)
    exact CMv_ret hx hb hr hlocks hP hK hD hS d_World_initialiseInterfaces_6

set_option maxHeartbeats 4000000 in
set_option maxRecDepth 100000 in
theorem c_tAt (l : Launch) (D : va_G) (cI cW : ClassId) (q qn qv qs : Nat) (n : Nat) (gA : Int32 → Int32 → MW → MW × Int32) (gD : Int32 → Int32 → MW → MW × Int32) (k : Int32) (dp : Int32) (w : MW) (hA2 : KAb l D cI cW q qn qv qs n gA) (hD2 : KDe l D cI cW q qn qv qs n gD) (okA : okF gA) (okD : okF8 gD) (hp : pAt (n + 1) dp w) (z1 : MW) (z2 : Int32) (hres : m_tAt gA gD k dp w = (z1, z2)) : CM l y_World_initialiseAt b_World_initialiseAt 4 .int (rmN (n + 1)) D (tyC cI cW) [.ref q, .int k, .int dp] (W4 cI q qn qv qs w) z2 (W4 cI q qn qv qs z1) := by
  refine CM_mk (by decide) (Nat.le_of_ble_eq_true rfl) ?_
  intro p e s m args below meth c A ls hx hb hr hml hown hk hlocks hA hSt hK hP hD hS hl
  have hown : s.vm.findClass R_World = some m.cls := hown
  have hl : lv_has ls 4 [(0, .ref q), (1, .int k), (2, .int dp)] := hl
  refine lv_iload_n hx hb d_World_initialiseAt_0 rfl (lv_at hl 2 rfl) ?_
  refine lv_bipush (v := (34 : Int32)) hx hb d_World_initialiseAt_1 (by decide) ?_
  refine lv_icmp_le (tgt := 8) hx hb d_World_initialiseAt_3 (by decide) (fun c_3 => ?_) (fun c_3 => ?_)
  · refine lv_iload_n hx hb d_World_initialiseAt_8 rfl (lv_at hl 1 rfl) ?_
    refine CM.callS (wc := []) (wr := W4 cI q qn qv qs w) (av := [.int k]) (rest := []) hx hb hml hown hk (c_Kinds_isThere l D cI cW k _ rfl) hK hP hD hS hA hSt hl.1 d_World_initialiseAt_9 kc_Kinds_isThere ki_Kinds kl_World_35 ks_Kinds_isThere (n := 1) rfl (by decide +kernel) ⟨(by show 0 + 1 ≤ n + 1; have h1 := hp.2.1; have h2 := hp.2.2.1; omega), (by show 8 + (1 + 11) + 0 ≤ 40 * (n + 1); have h1 := hp.2.1; have h2 := hp.2.2.1; omega)⟩ rfl rfl (Nat.le_of_ble_eq_true rfl) ⟨Nat.zero_le _, Nat.zero_le _⟩ (fun H locs hP hD hS => ?_)
    have hP : va_P D classes (W4 cI q qn qv qs w) H := hP
    have hD : va_D A (W4 cI q qn qv qs w) := hD
    refine lv_if_ne (tgt := 17) hx hb d_World_initialiseAt_12 (by decide) (fun c_12 => ?_) (fun c_12 => ?_)
    · refine lv_aload_n hx hb d_World_initialiseAt_17 rfl (lv_at hl 0 rfl) ?_
      refine va_get (D := D) (ci := 0) (v := .ref qs) (C := R_World) (T := F_World) (N := 7) hx hb hk i_World hown hK hP 0 rfl rfl 4 (by decide) (hk _ kl_World_20) (fun _ h9 => h9) rfl d_World_initialiseAt_18 ?_
      refine lv_iload_n hx hb d_World_initialiseAt_21 rfl (lv_at hl 1 rfl) ?_
      refine va_iald hx hb hK hP 3 0 rfl rfl (kThere_in c_12) d_World_initialiseAt_22 ?_
      refine lv_iconst (v := (3 : Int32)) hx hb d_World_initialiseAt_23 (by decide) ?_
      refine lv_icmp_ne (tgt := 30) hx hb d_World_initialiseAt_24 (by decide) (fun c_24 => ?_) (fun c_24 => ?_)
      · refine lv_aload_n hx hb d_World_initialiseAt_30 rfl (lv_at hl 0 rfl) ?_
        refine va_get (D := D) (ci := 0) (v := .ref qs) (C := R_World) (T := F_World) (N := 7) hx hb hk i_World hown hK hP 0 rfl rfl 4 (by decide) (hk _ kl_World_20) (fun _ h9 => h9) rfl d_World_initialiseAt_31 ?_
        refine lv_iload_n hx hb d_World_initialiseAt_34 rfl (lv_at hl 1 rfl) ?_
        refine va_iald hx hb hK hP 3 0 rfl rfl (kThere_in c_12) d_World_initialiseAt_35 ?_
        refine lv_if_eq (tgt := 41) hx hb d_World_initialiseAt_36 (by decide) (fun c_36 => ?_) (fun c_36 => ?_)
        · refine lv_aload_n hx hb d_World_initialiseAt_41 rfl (lv_at hl 0 rfl) ?_
          refine va_get (D := D) (ci := 0) (v := .ref qs) (C := R_World) (T := F_World) (N := 7) hx hb hk i_World hown hK hP 0 rfl rfl 4 (by decide) (hk _ kl_World_20) (fun _ h9 => h9) rfl d_World_initialiseAt_42 ?_
          refine lv_iload_n hx hb d_World_initialiseAt_45 rfl (lv_at hl 1 rfl) ?_
          refine lv_iconst (v := (1 : Int32)) hx hb d_World_initialiseAt_46 (by decide) ?_
          refine va_iast hx hb hK hP hD hS 3 0 rfl rfl (kThere_in c_12) d_World_initialiseAt_47 (fun H locs hP hD hS => ?_)
          have hP : va_P D classes (W4 cI q qn qv qs (sSt w (upd ((gSt w)) k.toNatClampNeg (1 : Int32)))) H := hP
          have hD : va_D A (W4 cI q qn qv qs (sSt w (upd ((gSt w)) k.toNatClampNeg (1 : Int32)))) := hD
          refine lv_aload_n hx hb d_World_initialiseAt_48 rfl (lv_at hl 0 rfl) ?_
          refine lv_iload_n hx hb d_World_initialiseAt_49 rfl (lv_at hl 1 rfl) ?_
          refine lv_iload_n hx hb d_World_initialiseAt_50 rfl (lv_at hl 2 rfl) ?_
          refine lv_iconst (v := (1 : Int32)) hx hb d_World_initialiseAt_51 (by decide) ?_
          refine lv_iadd hx hb d_World_initialiseAt_52 ?_
          refine CM.callV (wc := W4 cI q qn qv qs (sSt w (upd ((gSt w)) k.toNatClampNeg (1 : Int32)))) (wr := []) (b := q) (av := [.int k, .int (dp + (1 : Int32))]) (rest := []) hx hb hml hown hk (hA2 k (dp + (1 : Int32)) (sSt w (upd ((gSt w)) k.toNatClampNeg (1 : Int32))) (pG_Ab hp c_3 (ok_mono (ok_st1 hp.2.2.2 (kThere_in c_12) c_36) (by decide)))) hK hP hD hS hA hSt hl.1 (va_recv hK hP (ci := 0) (q0 := 0) rfl rfl) d_World_initialiseAt_53 kc_World_initialiseAbove ki_World kl_World_39 kn_World_initialiseAbove kx_World_initialiseAbove (n := 2) rfl (by decide +kernel) ⟨Nat.le_refl _, (by show 8 + (4 + 11) + 40 * n ≤ 40 * (n + 1); omega)⟩ rfl rfl (Nat.le_of_ble_eq_true rfl) ⟨Nat.zero_le _, Nat.zero_le _⟩ (fun H locs hP hD hS => ?_)
          have hP : va_P D classes (W4 cI q qn qv qs ((gA k (dp + (1 : Int32)) (sSt w (upd ((gSt w)) k.toNatClampNeg (1 : Int32)))).1)) H := hP
          have hD : va_D A (W4 cI q qn qv qs ((gA k (dp + (1 : Int32)) (sSt w (upd ((gSt w)) k.toNatClampNeg (1 : Int32)))).1)) := hD
          refine lv_istore_n (lv' := [(3, .int (gA k (dp + (1 : Int32)) (sSt w (upd ((gSt w)) k.toNatClampNeg (1 : Int32)))).2), (0, .ref q), (1, .int k), (2, .int dp)]) hx hb d_World_initialiseAt_56 rfl hl (by decide) rfl (fun ls hl => ?_)
          refine lv_iload_n hx hb d_World_initialiseAt_57 rfl (lv_at hl 0 rfl) ?_
          refine lv_if_ne (tgt := 70) hx hb d_World_initialiseAt_58 (by decide) (fun c_58 => ?_) (fun c_58 => ?_)
          · refine lv_aload_n hx hb d_World_initialiseAt_70 rfl (lv_at hl 1 rfl) ?_
            refine va_get (D := D) (ci := 0) (v := .ref qs) (C := R_World) (T := F_World) (N := 7) hx hb hk i_World hown hK hP 0 rfl rfl 4 (by decide) (hk _ kl_World_20) (fun _ h9 => h9) rfl d_World_initialiseAt_71 ?_
            refine lv_iload_n hx hb d_World_initialiseAt_74 rfl (lv_at hl 2 rfl) ?_
            refine lv_iload_n hx hb d_World_initialiseAt_75 rfl (lv_at hl 0 rfl) ?_
            refine lv_if_ne (tgt := 83) hx hb d_World_initialiseAt_76 (by decide) (fun _ => ?_) (fun h9 => absurd h9 c_58)
            refine lv_iconst (v := (3 : Int32)) hx hb d_World_initialiseAt_83 (by decide) ?_
            refine va_iast hx hb hK hP hD hS 3 0 rfl rfl (kThere_in c_12) d_World_initialiseAt_84 (fun H locs hP hD hS => ?_)
            have hP : va_P D classes (W4 cI q qn qv qs (sSt ((gA k (dp + (1 : Int32)) (sSt w (upd ((gSt w)) k.toNatClampNeg (1 : Int32)))).1) (upd ((gSt ((gA k (dp + (1 : Int32)) (sSt w (upd ((gSt w)) k.toNatClampNeg (1 : Int32)))).1))) k.toNatClampNeg (3 : Int32)))) H := hP
            have hD : va_D A (W4 cI q qn qv qs (sSt ((gA k (dp + (1 : Int32)) (sSt w (upd ((gSt w)) k.toNatClampNeg (1 : Int32)))).1) (upd ((gSt ((gA k (dp + (1 : Int32)) (sSt w (upd ((gSt w)) k.toNatClampNeg (1 : Int32)))).1))) k.toNatClampNeg (3 : Int32)))) := hD
            refine lv_iload_n hx hb d_World_initialiseAt_85 rfl (lv_at hl 0 rfl) ?_
            obtain ⟨rfl, rfl⟩ : z1 = (sSt ((gA k (dp + (1 : Int32)) (sSt w (upd ((gSt w)) k.toNatClampNeg (1 : Int32)))).1) (upd ((gSt ((gA k (dp + (1 : Int32)) (sSt w (upd ((gSt w)) k.toNatClampNeg (1 : Int32)))).1))) k.toNatClampNeg (3 : Int32))) ∧ z2 = (gA k (dp + (1 : Int32)) (sSt w (upd ((gSt w)) k.toNatClampNeg (1 : Int32)))).2 := Prod.mk.inj (hres.symm.trans ((if_pos c_3).trans ((if_neg c_12).trans ((if_neg c_24).trans ((if_pos c_36).trans ((if_neg c_58).trans rfl))))))
            exact CM_iret hx hb hr hlocks hP hK hD hS d_World_initialiseAt_86
          · refine lv_aload_n hx hb d_World_initialiseAt_61 rfl (lv_at hl 1 rfl) ?_
            refine lv_iload_n hx hb d_World_initialiseAt_62 rfl (lv_at hl 2 rfl) ?_
            refine lv_iload_n hx hb d_World_initialiseAt_63 rfl (lv_at hl 3 rfl) ?_
            refine lv_iconst (v := (1 : Int32)) hx hb d_World_initialiseAt_64 (by decide) ?_
            refine lv_iadd hx hb d_World_initialiseAt_65 ?_
            refine CM.callV (wc := W4 cI q qn qv qs ((gA k (dp + (1 : Int32)) (sSt w (upd ((gSt w)) k.toNatClampNeg (1 : Int32)))).1)) (wr := []) (b := q) (av := [.int k, .int (dp + (1 : Int32))]) (rest := []) hx hb hml hown hk (hD2 k (dp + (1 : Int32)) ((gA k (dp + (1 : Int32)) (sSt w (upd ((gSt w)) k.toNatClampNeg (1 : Int32)))).1) (pG_De hp c_3 (kThere_in c_12) (ok_mono (okA k (dp + (1 : Int32)) (sSt w (upd ((gSt w)) k.toNatClampNeg (1 : Int32))) _ (ok_st1 hp.2.2.2 (kThere_in c_12) c_36)) (by decide)))) hK hP hD hS hA hSt hl.1 (va_recv hK hP (ci := 0) (q0 := 0) rfl rfl) d_World_initialiseAt_66 kc_World_runDeeds ki_World kl_World_42 kn_World_runDeeds kx_World_runDeeds (n := 2) rfl (by decide +kernel) ⟨Nat.le_refl _, (by show 8 + (3 + 11) + 40 * n ≤ 40 * (n + 1); omega)⟩ rfl rfl (Nat.le_of_ble_eq_true rfl) ⟨Nat.zero_le _, Nat.zero_le _⟩ (fun H locs hP hD hS => ?_)
            have hP : va_P D classes (W4 cI q qn qv qs ((gD k (dp + (1 : Int32)) ((gA k (dp + (1 : Int32)) (sSt w (upd ((gSt w)) k.toNatClampNeg (1 : Int32)))).1)).1)) H := hP
            have hD : va_D A (W4 cI q qn qv qs ((gD k (dp + (1 : Int32)) ((gA k (dp + (1 : Int32)) (sSt w (upd ((gSt w)) k.toNatClampNeg (1 : Int32)))).1)).1)) := hD
            refine lv_istore_n (lv' := [(3, .int (gD k (dp + (1 : Int32)) ((gA k (dp + (1 : Int32)) (sSt w (upd ((gSt w)) k.toNatClampNeg (1 : Int32)))).1)).2), (0, .ref q), (1, .int k), (2, .int dp)]) hx hb d_World_initialiseAt_69 rfl hl (by decide) rfl (fun ls hl => ?_)
            refine lv_aload_n hx hb d_World_initialiseAt_70 rfl (lv_at hl 1 rfl) ?_
            refine va_get (D := D) (ci := 0) (v := .ref qs) (C := R_World) (T := F_World) (N := 7) hx hb hk i_World hown hK hP 0 rfl rfl 4 (by decide) (hk _ kl_World_20) (fun _ h9 => h9) rfl d_World_initialiseAt_71 ?_
            refine lv_iload_n hx hb d_World_initialiseAt_74 rfl (lv_at hl 2 rfl) ?_
            refine lv_iload_n hx hb d_World_initialiseAt_75 rfl (lv_at hl 0 rfl) ?_
            refine lv_if_ne (tgt := 83) hx hb d_World_initialiseAt_76 (by decide) (fun c_76 => ?_) (fun c_76 => ?_)
            · refine lv_iconst (v := (3 : Int32)) hx hb d_World_initialiseAt_83 (by decide) ?_
              refine va_iast hx hb hK hP hD hS 3 0 rfl rfl (kThere_in c_12) d_World_initialiseAt_84 (fun H locs hP hD hS => ?_)
              have hP : va_P D classes (W4 cI q qn qv qs (sSt ((gD k (dp + (1 : Int32)) ((gA k (dp + (1 : Int32)) (sSt w (upd ((gSt w)) k.toNatClampNeg (1 : Int32)))).1)).1) (upd ((gSt ((gD k (dp + (1 : Int32)) ((gA k (dp + (1 : Int32)) (sSt w (upd ((gSt w)) k.toNatClampNeg (1 : Int32)))).1)).1))) k.toNatClampNeg (3 : Int32)))) H := hP
              have hD : va_D A (W4 cI q qn qv qs (sSt ((gD k (dp + (1 : Int32)) ((gA k (dp + (1 : Int32)) (sSt w (upd ((gSt w)) k.toNatClampNeg (1 : Int32)))).1)).1) (upd ((gSt ((gD k (dp + (1 : Int32)) ((gA k (dp + (1 : Int32)) (sSt w (upd ((gSt w)) k.toNatClampNeg (1 : Int32)))).1)).1))) k.toNatClampNeg (3 : Int32)))) := hD
              refine lv_iload_n hx hb d_World_initialiseAt_85 rfl (lv_at hl 0 rfl) ?_
              obtain ⟨rfl, rfl⟩ : z1 = (sSt ((gD k (dp + (1 : Int32)) ((gA k (dp + (1 : Int32)) (sSt w (upd ((gSt w)) k.toNatClampNeg (1 : Int32)))).1)).1) (upd ((gSt ((gD k (dp + (1 : Int32)) ((gA k (dp + (1 : Int32)) (sSt w (upd ((gSt w)) k.toNatClampNeg (1 : Int32)))).1)).1))) k.toNatClampNeg (3 : Int32))) ∧ z2 = (gD k (dp + (1 : Int32)) ((gA k (dp + (1 : Int32)) (sSt w (upd ((gSt w)) k.toNatClampNeg (1 : Int32)))).1)).2 := Prod.mk.inj (hres.symm.trans ((if_pos c_3).trans ((if_neg c_12).trans ((if_neg c_24).trans ((if_pos c_36).trans ((if_pos c_58).trans ((if_neg c_76).trans rfl)))))))
              exact CM_iret hx hb hr hlocks hP hK hD hS d_World_initialiseAt_86
            · refine lv_iconst (v := (2 : Int32)) hx hb d_World_initialiseAt_79 (by decide) ?_
              refine lv_goto (tgt := 84) hx hb d_World_initialiseAt_80 (by decide) ?_
              refine va_iast hx hb hK hP hD hS 3 0 rfl rfl (kThere_in c_12) d_World_initialiseAt_84 (fun H locs hP hD hS => ?_)
              have hP : va_P D classes (W4 cI q qn qv qs (sSt ((gD k (dp + (1 : Int32)) ((gA k (dp + (1 : Int32)) (sSt w (upd ((gSt w)) k.toNatClampNeg (1 : Int32)))).1)).1) (upd ((gSt ((gD k (dp + (1 : Int32)) ((gA k (dp + (1 : Int32)) (sSt w (upd ((gSt w)) k.toNatClampNeg (1 : Int32)))).1)).1))) k.toNatClampNeg (2 : Int32)))) H := hP
              have hD : va_D A (W4 cI q qn qv qs (sSt ((gD k (dp + (1 : Int32)) ((gA k (dp + (1 : Int32)) (sSt w (upd ((gSt w)) k.toNatClampNeg (1 : Int32)))).1)).1) (upd ((gSt ((gD k (dp + (1 : Int32)) ((gA k (dp + (1 : Int32)) (sSt w (upd ((gSt w)) k.toNatClampNeg (1 : Int32)))).1)).1))) k.toNatClampNeg (2 : Int32)))) := hD
              refine lv_iload_n hx hb d_World_initialiseAt_85 rfl (lv_at hl 0 rfl) ?_
              obtain ⟨rfl, rfl⟩ : z1 = (sSt ((gD k (dp + (1 : Int32)) ((gA k (dp + (1 : Int32)) (sSt w (upd ((gSt w)) k.toNatClampNeg (1 : Int32)))).1)).1) (upd ((gSt ((gD k (dp + (1 : Int32)) ((gA k (dp + (1 : Int32)) (sSt w (upd ((gSt w)) k.toNatClampNeg (1 : Int32)))).1)).1))) k.toNatClampNeg (2 : Int32))) ∧ z2 = (gD k (dp + (1 : Int32)) ((gA k (dp + (1 : Int32)) (sSt w (upd ((gSt w)) k.toNatClampNeg (1 : Int32)))).1)).2 := Prod.mk.inj (hres.symm.trans ((if_pos c_3).trans ((if_neg c_12).trans ((if_neg c_24).trans ((if_pos c_36).trans ((if_pos c_58).trans ((if_pos c_76).trans rfl)))))))
              exact CM_iret hx hb hr hlocks hP hK hD hS d_World_initialiseAt_86
        · refine lv_iconst (v := (0 : Int32)) hx hb d_World_initialiseAt_39 (by decide) ?_
          obtain ⟨rfl, rfl⟩ : z1 = w ∧ z2 = (0 : Int32) := Prod.mk.inj (hres.symm.trans ((if_pos c_3).trans ((if_neg c_12).trans ((if_neg c_24).trans ((if_neg c_36).trans rfl)))))
          exact CM_iret hx hb hr hlocks hP hK hD hS d_World_initialiseAt_40
      · refine lv_bipush (v := (-102 : Int32)) hx hb d_World_initialiseAt_27 (by decide) ?_
        obtain ⟨rfl, rfl⟩ : z1 = w ∧ z2 = (-102 : Int32) := Prod.mk.inj (hres.symm.trans ((if_pos c_3).trans ((if_neg c_12).trans ((if_pos c_24).trans rfl))))
        exact CM_iret hx hb hr hlocks hP hK hD hS d_World_initialiseAt_29
    · refine lv_iconst (v := (0 : Int32)) hx hb d_World_initialiseAt_15 (by decide) ?_
      obtain ⟨rfl, rfl⟩ : z1 = w ∧ z2 = (0 : Int32) := Prod.mk.inj (hres.symm.trans ((if_pos c_3).trans ((if_pos c_12).trans rfl)))
      exact CM_iret hx hb hr hlocks hP hK hD hS d_World_initialiseAt_16
  · refine lv_iconst (v := (-1 : Int32)) hx hb d_World_initialiseAt_6 (by decide) ?_
    obtain ⟨rfl, rfl⟩ : z1 = w ∧ z2 = (-1 : Int32) := Prod.mk.inj (hres.symm.trans ((if_neg c_3).trans rfl))
    exact CM_iret hx hb hr hlocks hP hK hD hS d_World_initialiseAt_7
set_option maxHeartbeats 4000000 in
set_option maxRecDepth 100000 in
theorem c_tAb (l : Launch) (D : va_G) (cI cW : ClassId) (q qn qv qs : Nat) (n : Nat) (gT : Int32 → Int32 → MW → MW × Int32) (gI : Int32 → Int32 → MW → MW) (k : Int32) (dp : Int32) (w : MW) (hT2 : KAt l D cI cW q qn qv qs n gT) (hI2 : KIf l D cI cW q qn qv qs n gI) (okT : okF gT) (okI : okFv gI) (hp : pAb (n + 1) dp w) (z1 : MW) (z2 : Int32) (hres : m_tAb gT gI k dp w = (z1, z2)) : CM l y_World_initialiseAbove b_World_initialiseAbove 4 .int (rmN (n + 1)) D (tyC cI cW) [.ref q, .int k, .int dp] (W4 cI q qn qv qs w) z2 (W4 cI q qn qv qs z1) := by
  refine CM_mk (by decide) (Nat.le_of_ble_eq_true rfl) ?_
  intro p e s m args below meth c A ls hx hb hr hml hown hk hlocks hA hSt hK hP hD hS hl
  have hown : s.vm.findClass R_World = some m.cls := hown
  have hl : lv_has ls 4 [(0, .ref q), (1, .int k), (2, .int dp)] := hl
  refine lv_iload_n hx hb d_World_initialiseAbove_0 rfl (lv_at hl 1 rfl) ?_
  refine CM.callS (wc := []) (wr := W4 cI q qn qv qs w) (av := [.int k]) (rest := []) hx hb hml hown hk (c_Kinds_isInterface l D cI cW k _ rfl) hK hP hD hS hA hSt hl.1 d_World_initialiseAbove_1 kc_Kinds_isInterface ki_Kinds kl_World_45 ks_Kinds_isInterface (n := 1) rfl (by decide +kernel) ⟨(by show 0 + 1 ≤ n + 1; have h1 := hp.2.1; have h2 := hp.2.2.1; omega), (by show 8 + (1 + 11) + 0 ≤ 40 * (n + 1); have h1 := hp.2.1; have h2 := hp.2.2.1; omega)⟩ rfl rfl (Nat.le_of_ble_eq_true rfl) ⟨Nat.zero_le _, Nat.zero_le _⟩ (fun H locs hP hD hS => ?_)
  have hP : va_P D classes (W4 cI q qn qv qs w) H := hP
  have hD : va_D A (W4 cI q qn qv qs w) := hD
  refine lv_if_eq (tgt := 9) hx hb d_World_initialiseAbove_4 (by decide) (fun c_4 => ?_) (fun c_4 => ?_)
  · refine lv_aload_n hx hb d_World_initialiseAbove_9 rfl (lv_at hl 0 rfl) ?_
    refine lv_iload_n hx hb d_World_initialiseAbove_10 rfl (lv_at hl 1 rfl) ?_
    refine CM.callS (wc := []) (wr := W4 cI q qn qv qs w) (av := [.int k]) (rest := [.ref q]) hx hb hml hown hk (c_Kinds_up l D cI cW k _ rfl) hK hP hD hS hA hSt hl.1 d_World_initialiseAbove_11 kc_Kinds_up ki_Kinds kl_World_48 ks_Kinds_up (n := 1) rfl (by decide +kernel) ⟨(by show 1 + 1 ≤ n + 1; have h1 := hp.2.1; have h2 := hp.2.2.1; omega), (by show 8 + (1 + 11) + 20 ≤ 40 * (n + 1); have h1 := hp.2.1; have h2 := hp.2.2.1; omega)⟩ rfl rfl (Nat.le_of_ble_eq_true rfl) ⟨Nat.zero_le _, Nat.zero_le _⟩ (fun H locs hP hD hS => ?_)
    have hP : va_P D classes (W4 cI q qn qv qs w) H := hP
    have hD : va_D A (W4 cI q qn qv qs w) := hD
    refine lv_iload_n hx hb d_World_initialiseAbove_14 rfl (lv_at hl 2 rfl) ?_
    refine CM.callV (wc := W4 cI q qn qv qs w) (wr := []) (b := q) (av := [.int (m_Kinds_up k), .int dp]) (rest := []) hx hb hml hown hk (hT2 (m_Kinds_up k) dp w (pG_At hp (ok_mono hp.2.2.2 (by decide)))) hK hP hD hS hA hSt hl.1 (va_recv hK hP (ci := 0) (q0 := 0) rfl rfl) d_World_initialiseAbove_15 kc_World_initialiseAt ki_World kl_World_31 kn_World_initialiseAt kx_World_initialiseAt (n := 2) rfl (by decide +kernel) ⟨Nat.le_refl _, (by show 8 + (4 + 11) + 40 * n ≤ 40 * (n + 1); omega)⟩ rfl rfl (Nat.le_of_ble_eq_true rfl) ⟨Nat.zero_le _, Nat.zero_le _⟩ (fun H locs hP hD hS => ?_)
    have hP : va_P D classes (W4 cI q qn qv qs ((gT (m_Kinds_up k) dp w).1)) H := hP
    have hD : va_D A (W4 cI q qn qv qs ((gT (m_Kinds_up k) dp w).1)) := hD
    refine lv_istore_n (lv' := [(3, .int (gT (m_Kinds_up k) dp w).2), (0, .ref q), (1, .int k), (2, .int dp)]) hx hb d_World_initialiseAbove_18 rfl hl (by decide) rfl (fun ls hl => ?_)
    refine lv_iload_n hx hb d_World_initialiseAbove_19 rfl (lv_at hl 0 rfl) ?_
    refine lv_if_ne (tgt := 29) hx hb d_World_initialiseAbove_20 (by decide) (fun c_20 => ?_) (fun c_20 => ?_)
    · refine lv_iload_n hx hb d_World_initialiseAbove_29 rfl (lv_at hl 0 rfl) ?_
      obtain ⟨rfl, rfl⟩ : z1 = (gT (m_Kinds_up k) dp w).1 ∧ z2 = (gT (m_Kinds_up k) dp w).2 := Prod.mk.inj (hres.symm.trans ((if_pos c_4).trans ((if_neg c_20).trans rfl)))
      exact CM_iret hx hb hr hlocks hP hK hD hS d_World_initialiseAbove_30
    · refine lv_aload_n hx hb d_World_initialiseAbove_23 rfl (lv_at hl 1 rfl) ?_
      refine lv_iload_n hx hb d_World_initialiseAbove_24 rfl (lv_at hl 2 rfl) ?_
      refine lv_iload_n hx hb d_World_initialiseAbove_25 rfl (lv_at hl 3 rfl) ?_
      refine CMv.callV (wc := W4 cI q qn qv qs ((gT (m_Kinds_up k) dp w).1)) (wr := []) (b := q) (av := [.int k, .int dp]) (rest := []) hx hb hml hown hk (hI2 k dp ((gT (m_Kinds_up k) dp w).1) (pG_If hp (ok_mono (okT (m_Kinds_up k) dp w _ hp.2.2.2) (by decide)))) hK hP hD hS hA hSt hl.1 (va_recv hK hP (ci := 0) (q0 := 0) rfl rfl) d_World_initialiseAbove_26 kc_World_initialiseInterfaces ki_World kl_World_52 kn_World_initialiseInterfaces kx_World_initialiseInterfaces (n := 2) rfl (by decide +kernel) ⟨Nat.le_refl _, (by show 8 + (4 + 11) + 40 * n ≤ 40 * (n + 1); omega)⟩ rfl rfl (Nat.le_of_ble_eq_true rfl) ⟨Nat.zero_le _, Nat.zero_le _⟩ (fun H locs hP hD hS => ?_)
      have hP : va_P D classes (W4 cI q qn qv qs (gI k dp ((gT (m_Kinds_up k) dp w).1))) H := hP
      have hD : va_D A (W4 cI q qn qv qs (gI k dp ((gT (m_Kinds_up k) dp w).1))) := hD
      refine lv_iload_n hx hb d_World_initialiseAbove_29 rfl (lv_at hl 0 rfl) ?_
      obtain ⟨rfl, rfl⟩ : z1 = (gI k dp ((gT (m_Kinds_up k) dp w).1)) ∧ z2 = (gT (m_Kinds_up k) dp w).2 := Prod.mk.inj (hres.symm.trans ((if_pos c_4).trans ((if_pos c_20).trans rfl)))
      exact CM_iret hx hb hr hlocks hP hK hD hS d_World_initialiseAbove_30
  · refine lv_iconst (v := (0 : Int32)) hx hb d_World_initialiseAbove_7 (by decide) ?_
    obtain ⟨rfl, rfl⟩ : z1 = w ∧ z2 = (0 : Int32) := Prod.mk.inj (hres.symm.trans ((if_neg c_4).trans rfl))
    exact CM_iret hx hb hr hlocks hP hK hD hS d_World_initialiseAbove_8
set_option maxHeartbeats 4000000 in
set_option maxRecDepth 100000 in
theorem c_tAs (l : Launch) (D : va_G) (cI cW : ClassId) (q qn qv qs : Nat) (n : Nat) (gT : Int32 → Int32 → MW → MW × Int32) (k : Int32) (dp : Int32) (w : MW) (hT2 : KAt l D cI cW q qn qv qs n gT) (okT : okF gT) (hp : pAs (n + 1) k dp w) (z1 : MW) (z2 : Int32) (hres : m_tAs gT k dp w = (z1, z2)) : CM l y_World_ask b_World_ask 3 .int (rmN (n + 1)) D (tyC cI cW) [.ref q, .int k, .int dp] (W4 cI q qn qv qs w) z2 (W4 cI q qn qv qs z1) := by
  refine CM_mk (by decide) (Nat.le_of_ble_eq_true rfl) ?_
  intro p e s m args below meth c A ls hx hb hr hml hown hk hlocks hA hSt hK hP hD hS hl
  have hown : s.vm.findClass R_World = some m.cls := hown
  have hl : lv_has ls 3 [(0, .ref q), (1, .int k), (2, .int dp)] := hl
  refine lv_aload_n hx hb d_World_ask_0 rfl (lv_at hl 0 rfl) ?_
  refine lv_iload_n hx hb d_World_ask_1 rfl (lv_at hl 1 rfl) ?_
  refine lv_iload_n hx hb d_World_ask_2 rfl (lv_at hl 2 rfl) ?_
  refine CM.callV (wc := W4 cI q qn qv qs w) (wr := []) (b := q) (av := [.int k, .int dp]) (rest := []) hx hb hml hown hk (hT2 k dp w (pG_At3 hp (ok_mono hp.2.2.2.2 (by decide)))) hK hP hD hS hA hSt hl.1 (va_recv hK hP (ci := 0) (q0 := 0) rfl rfl) d_World_ask_3 kc_World_initialiseAt ki_World kl_World_31 kn_World_initialiseAt kx_World_initialiseAt (n := 2) rfl (by decide +kernel) ⟨Nat.le_refl _, (by show 8 + (4 + 11) + 40 * n ≤ 40 * (n + 1); omega)⟩ rfl rfl (Nat.le_of_ble_eq_true rfl) ⟨Nat.zero_le _, Nat.zero_le _⟩ (fun H locs hP hD hS => ?_)
  have hP : va_P D classes (W4 cI q qn qv qs ((gT k dp w).1)) H := hP
  have hD : va_D A (W4 cI q qn qv qs ((gT k dp w).1)) := hD
  refine lv_pop hx hb d_World_ask_6 rfl ?_
  refine lv_aload_n hx hb d_World_ask_7 rfl (lv_at hl 0 rfl) ?_
  refine va_get (D := D) (ci := 0) (v := .ref qv) (C := R_World) (T := F_World) (N := 7) hx hb hk i_World hown hK hP 0 rfl rfl 3 (by decide) (hk _ kl_World_17) (fun _ h9 => h9) rfl d_World_ask_8 ?_
  refine lv_iload_n hx hb d_World_ask_11 rfl (lv_at hl 1 rfl) ?_
  refine va_iald hx hb hK hP 2 0 rfl rfl hp.2.2.2.1 d_World_ask_12 ?_
  obtain ⟨rfl, rfl⟩ : z1 = (gT k dp w).1 ∧ z2 = ((gVa ((gT k dp w).1)) k.toNatClampNeg) := Prod.mk.inj (hres.symm.trans rfl)
  exact CM_iret hx hb hr hlocks hP hK hD hS d_World_ask_13

set_option maxHeartbeats 4000000 in
set_option maxRecDepth 100000 in
theorem c_M_initBad (l : Launch) (D : va_G) (cI cZ : ClassId) (o o1 o2 o3 o4 o5 o6 o7 o8 o9 o10 o11 o12 : Nat)   (md : MM) (ho : okM 1 md) (z1 : MM) (z2 : Int32) (hres : m_M_initBad md = (z1, z2)) : CM l y_Model_initBad b_Model_initBad 1 .int ({ frames := 1, cells := 0, slots := 0, locals := 21 }) D (tyZ cI cZ) [.ref o] (M13 cI cZ o o1 o2 o3 o4 o5 o6 o7 o8 o9 o10 o11 o12 md) z2 (M13 cI cZ o o1 o2 o3 o4 o5 o6 o7 o8 o9 o10 o11 o12 z1) := by
  refine CM_mk (by decide) (Nat.le_of_ble_eq_true rfl) ?_
  intro p e s m args below meth c A ls hx hb hr hml hown hk hlocks hA hSt hK hP hD hS hl
  have hown : s.vm.findClass R_Model = some m.cls := hown
  have hl : lv_has ls 1 [(0, .ref o)] := hl
  refine lv_aload_n hx hb d_Model_initBad_0 rfl (lv_at hl 0 rfl) ?_
  refine va_get (D := D) (ci := 2) (v := .ref o1) (C := R_Model) (T := F_Model) (N := 14) hx hb hk i_Model hown hK hP 0 rfl rfl 0 (by decide) (hk _ kl_Model_7) (fun _ h9 => h9) rfl d_Model_initBad_1 ?_
  refine lv_aload_n hx hb d_Model_initBad_4 rfl (lv_at hl 0 rfl) ?_
  refine va_get (D := D) (ci := 2) (v := .int (aWc md)) (C := R_Model) (T := F_Model) (N := 14) hx hb hk i_Model hown hK hP 0 rfl rfl 11 (by decide) (hk _ kl_Model_41) (fun _ h9 => h9) rfl d_Model_initBad_5 ?_
  refine lv_bipush (v := (17 : Int32)) hx hb d_Model_initBad_8 (by decide) ?_
  refine lv_imul hx hb d_Model_initBad_10 ?_
  refine lv_bipush (v := (8 : Int32)) hx hb d_Model_initBad_11 (by decide) ?_
  refine lv_iadd hx hb d_Model_initBad_13 ?_
  refine va_iald hx hb hK hP 1 0 rfl rfl (in_st ho.1 (by unfold vp_in; decide)) d_Model_initBad_14 ?_
  refine lv_iconst (v := (3 : Int32)) hx hb d_Model_initBad_15 (by decide) ?_
  refine lv_icmp_ne (tgt := 22) hx hb d_Model_initBad_16 (by decide) (fun c_16 => ?_) (fun c_16 => ?_)
  · refine lv_aload_n hx hb d_Model_initBad_22 rfl (lv_at hl 0 rfl) ?_
    refine lv_bipush (v := (7 : Int32)) hx hb d_Model_initBad_23 (by decide) ?_
    refine CMv.callV (wc := M13 cI cZ o o1 o2 o3 o4 o5 o6 o7 o8 o9 o10 o11 o12 md) (wr := []) (b := o) (av := [.int (7 : Int32)]) (rest := []) hx hb hml hown hk (c_M_write l D cI cZ o o1 o2 o3 o4 o5 o6 o7 o8 o9 o10 o11 o12 (7 : Int32) md (okM_mono ho (by decide)) _ rfl) hK hP hD hS hA hSt hl.1 (va_recv hK hP (ci := 2) (q0 := 0) rfl rfl) d_Model_initBad_25 kc_Model_write ki_Model kl_Model_62 kn_Model_write kx_Model_write (n := 1) rfl (by decide +kernel) ⟨Nat.le_of_ble_eq_true rfl, Nat.le_of_ble_eq_true rfl⟩ rfl rfl (Nat.le_of_ble_eq_true rfl) ⟨Nat.zero_le _, Nat.zero_le _⟩ (fun H locs hP hD hS => ?_)
    have hP : va_P D classes (M13 cI cZ o o1 o2 o3 o4 o5 o6 o7 o8 o9 o10 o11 o12 (m_M_write (7 : Int32) md)) H := hP
    have hD : va_D A (M13 cI cZ o o1 o2 o3 o4 o5 o6 o7 o8 o9 o10 o11 o12 (m_M_write (7 : Int32) md)) := hD
    obtain ⟨g1, hg1⟩ : ∃ z, (m_M_write (7 : Int32) md) = z := ⟨_, rfl⟩
    rw [hg1] at hP hD
    refine lv_aload_n hx hb d_Model_initBad_28 rfl (lv_at hl 0 rfl) ?_
    refine va_get (D := D) (ci := 2) (v := .ref o1) (C := R_Model) (T := F_Model) (N := 14) hx hb hk i_Model hown hK hP 0 rfl rfl 0 (by decide) (hk _ kl_Model_7) (fun _ h9 => h9) rfl d_Model_initBad_29 ?_
    refine lv_aload_n hx hb d_Model_initBad_32 rfl (lv_at hl 0 rfl) ?_
    refine va_get (D := D) (ci := 2) (v := .int (aWc g1)) (C := R_Model) (T := F_Model) (N := 14) hx hb hk i_Model hown hK hP 0 rfl rfl 11 (by decide) (hk _ kl_Model_41) (fun _ h9 => h9) rfl d_Model_initBad_33 ?_
    refine lv_bipush (v := (17 : Int32)) hx hb d_Model_initBad_36 (by decide) ?_
    refine lv_imul hx hb d_Model_initBad_38 ?_
    refine lv_bipush (v := (8 : Int32)) hx hb d_Model_initBad_39 (by decide) ?_
    refine lv_iadd hx hb d_Model_initBad_41 ?_
    refine lv_iconst (v := (3 : Int32)) hx hb d_Model_initBad_42 (by decide) ?_
    refine va_iast hx hb hK hP hD hS 1 0 rfl rfl (in_st (okM_eq hg1 (okM_write ho)).1 (by unfold vp_in; decide)) d_Model_initBad_43 (fun H locs hP hD hS => ?_)
    have hP : va_P D classes (M13 cI cZ o o1 o2 o3 o4 o5 o6 o7 o8 o9 o10 o11 o12 (uSt g1 (upd ((aSt g1)) (((aWc g1) * (17 : Int32)) + (8 : Int32)).toNatClampNeg (3 : Int32)))) H := hP
    have hD : va_D A (M13 cI cZ o o1 o2 o3 o4 o5 o6 o7 o8 o9 o10 o11 o12 (uSt g1 (upd ((aSt g1)) (((aWc g1) * (17 : Int32)) + (8 : Int32)).toNatClampNeg (3 : Int32)))) := hD
    refine lv_bipush (v := (-101 : Int32)) hx hb d_Model_initBad_44 (by decide) ?_
    subst hg1
    obtain ⟨rfl, rfl⟩ : (uSt (m_M_write (7 : Int32) md) (upd ((aSt (m_M_write (7 : Int32) md))) (((aWc (m_M_write (7 : Int32) md)) * (17 : Int32)) + (8 : Int32)).toNatClampNeg (3 : Int32))) = z1 ∧ (-101 : Int32) = z2 := Prod.mk.inj ((Eq.symm ((if_neg c_16).trans rfl)).trans hres)
    exact CM_iret hx hb hr hlocks hP hK hD hS d_Model_initBad_46
  · refine lv_bipush (v := (-102 : Int32)) hx hb d_Model_initBad_19 (by decide) ?_
    obtain ⟨rfl, rfl⟩ : md = z1 ∧ (-102 : Int32) = z2 := Prod.mk.inj ((Eq.symm ((if_pos c_16).trans rfl)).trans hres)
    exact CM_iret hx hb hr hlocks hP hK hD hS d_Model_initBad_21
set_option maxHeartbeats 4000000 in
set_option maxRecDepth 100000 in
theorem c_M_initWorse (l : Launch) (D : va_G) (cI cZ : ClassId) (o o1 o2 o3 o4 o5 o6 o7 o8 o9 o10 o11 o12 : Nat)   (md : MM) (ho : okM 1 md) (z1 : MM) (z2 : Int32) (hres : m_M_initWorse md = (z1, z2)) : CM l y_Model_initWorse b_Model_initWorse 1 .int ({ frames := 2, cells := 0, slots := 0, locals := 41 }) D (tyZ cI cZ) [.ref o] (M13 cI cZ o o1 o2 o3 o4 o5 o6 o7 o8 o9 o10 o11 o12 md) z2 (M13 cI cZ o o1 o2 o3 o4 o5 o6 o7 o8 o9 o10 o11 o12 z1) := by
  refine CM_mk (by decide) (Nat.le_of_ble_eq_true rfl) ?_
  intro p e s m args below meth c A ls hx hb hr hml hown hk hlocks hA hSt hK hP hD hS hl
  have hown : s.vm.findClass R_Model = some m.cls := hown
  have hl : lv_has ls 1 [(0, .ref o)] := hl
  refine lv_aload_n hx hb d_Model_initWorse_0 rfl (lv_at hl 0 rfl) ?_
  refine va_get (D := D) (ci := 2) (v := .ref o1) (C := R_Model) (T := F_Model) (N := 14) hx hb hk i_Model hown hK hP 0 rfl rfl 0 (by decide) (hk _ kl_Model_7) (fun _ h9 => h9) rfl d_Model_initWorse_1 ?_
  refine lv_aload_n hx hb d_Model_initWorse_4 rfl (lv_at hl 0 rfl) ?_
  refine va_get (D := D) (ci := 2) (v := .int (aWc md)) (C := R_Model) (T := F_Model) (N := 14) hx hb hk i_Model hown hK hP 0 rfl rfl 11 (by decide) (hk _ kl_Model_41) (fun _ h9 => h9) rfl d_Model_initWorse_5 ?_
  refine lv_bipush (v := (17 : Int32)) hx hb d_Model_initWorse_8 (by decide) ?_
  refine lv_imul hx hb d_Model_initWorse_10 ?_
  refine lv_bipush (v := (9 : Int32)) hx hb d_Model_initWorse_11 (by decide) ?_
  refine lv_iadd hx hb d_Model_initWorse_13 ?_
  refine va_iald hx hb hK hP 1 0 rfl rfl (in_st ho.1 (by unfold vp_in; decide)) d_Model_initWorse_14 ?_
  refine lv_iconst (v := (3 : Int32)) hx hb d_Model_initWorse_15 (by decide) ?_
  refine lv_icmp_ne (tgt := 22) hx hb d_Model_initWorse_16 (by decide) (fun c_16 => ?_) (fun c_16 => ?_)
  · refine lv_aload_n hx hb d_Model_initWorse_22 rfl (lv_at hl 0 rfl) ?_
    refine va_get (D := D) (ci := 2) (v := .ref o1) (C := R_Model) (T := F_Model) (N := 14) hx hb hk i_Model hown hK hP 0 rfl rfl 0 (by decide) (hk _ kl_Model_7) (fun _ h9 => h9) rfl d_Model_initWorse_23 ?_
    refine lv_aload_n hx hb d_Model_initWorse_26 rfl (lv_at hl 0 rfl) ?_
    refine va_get (D := D) (ci := 2) (v := .int (aWc md)) (C := R_Model) (T := F_Model) (N := 14) hx hb hk i_Model hown hK hP 0 rfl rfl 11 (by decide) (hk _ kl_Model_41) (fun _ h9 => h9) rfl d_Model_initWorse_27 ?_
    refine lv_bipush (v := (17 : Int32)) hx hb d_Model_initWorse_30 (by decide) ?_
    refine lv_imul hx hb d_Model_initWorse_32 ?_
    refine lv_bipush (v := (9 : Int32)) hx hb d_Model_initWorse_33 (by decide) ?_
    refine lv_iadd hx hb d_Model_initWorse_35 ?_
    refine lv_iconst (v := (3 : Int32)) hx hb d_Model_initWorse_36 (by decide) ?_
    refine va_iast hx hb hK hP hD hS 1 0 rfl rfl (in_st ho.1 (by unfold vp_in; decide)) d_Model_initWorse_37 (fun H locs hP hD hS => ?_)
    have hP : va_P D classes (M13 cI cZ o o1 o2 o3 o4 o5 o6 o7 o8 o9 o10 o11 o12 (uSt md (upd ((aSt md)) (((aWc md) * (17 : Int32)) + (9 : Int32)).toNatClampNeg (3 : Int32)))) H := hP
    have hD : va_D A (M13 cI cZ o o1 o2 o3 o4 o5 o6 o7 o8 o9 o10 o11 o12 (uSt md (upd ((aSt md)) (((aWc md) * (17 : Int32)) + (9 : Int32)).toNatClampNeg (3 : Int32)))) := hD
    refine lv_aload_n hx hb d_Model_initWorse_38 rfl (lv_at hl 0 rfl) ?_
    refine CM.callV (wc := M13 cI cZ o o1 o2 o3 o4 o5 o6 o7 o8 o9 o10 o11 o12 (uSt md (upd ((aSt md)) (((aWc md) * (17 : Int32)) + (9 : Int32)).toNatClampNeg (3 : Int32)))) (wr := []) (b := o) (av := []) (rest := []) hx hb hml hown hk (c_M_initBad l D cI cZ o o1 o2 o3 o4 o5 o6 o7 o8 o9 o10 o11 o12 (uSt md (upd ((aSt md)) (((aWc md) * (17 : Int32)) + (9 : Int32)).toNatClampNeg (3 : Int32))) (okM_mono (okM_uSt ho) (by decide)) _ _ (pe2 _)) hK hP hD hS hA hSt hl.1 (va_recv hK hP (ci := 2) (q0 := 0) rfl rfl) d_Model_initWorse_39 kc_Model_initBad ki_Model kl_Model_79 kn_Model_initBad kx_Model_initBad (n := 0) rfl (by decide +kernel) ⟨Nat.le_of_ble_eq_true rfl, Nat.le_of_ble_eq_true rfl⟩ rfl rfl (Nat.le_of_ble_eq_true rfl) ⟨Nat.zero_le _, Nat.zero_le _⟩ (fun H locs hP hD hS => ?_)
    have hP : va_P D classes (M13 cI cZ o o1 o2 o3 o4 o5 o6 o7 o8 o9 o10 o11 o12 ((m_M_initBad (uSt md (upd ((aSt md)) (((aWc md) * (17 : Int32)) + (9 : Int32)).toNatClampNeg (3 : Int32)))).1)) H := hP
    have hD : va_D A (M13 cI cZ o o1 o2 o3 o4 o5 o6 o7 o8 o9 o10 o11 o12 ((m_M_initBad (uSt md (upd ((aSt md)) (((aWc md) * (17 : Int32)) + (9 : Int32)).toNatClampNeg (3 : Int32)))).1)) := hD
    obtain ⟨g1, hg1⟩ : ∃ z, (m_M_initBad (uSt md (upd ((aSt md)) (((aWc md) * (17 : Int32)) + (9 : Int32)).toNatClampNeg (3 : Int32)))).1 = z := ⟨_, rfl⟩
    rw [hg1] at hP hD
    subst hg1
    obtain ⟨rfl, rfl⟩ : ((m_M_initBad (uSt md (upd ((aSt md)) (((aWc md) * (17 : Int32)) + (9 : Int32)).toNatClampNeg (3 : Int32)))).1) = z1 ∧ (m_M_initBad (uSt md (upd ((aSt md)) (((aWc md) * (17 : Int32)) + (9 : Int32)).toNatClampNeg (3 : Int32)))).2 = z2 := Prod.mk.inj ((Eq.symm ((if_neg c_16).trans rfl)).trans hres)
    exact CM_iret hx hb hr hlocks hP hK hD hS d_Model_initWorse_42
  · refine lv_bipush (v := (-102 : Int32)) hx hb d_Model_initWorse_19 (by decide) ?_
    obtain ⟨rfl, rfl⟩ : md = z1 ∧ (-102 : Int32) = z2 := Prod.mk.inj ((Eq.symm ((if_pos c_16).trans rfl)).trans hres)
    exact CM_iret hx hb hr hlocks hP hK hD hS d_Model_initWorse_21
set_option maxHeartbeats 4000000 in
set_option maxRecDepth 100000 in
theorem c_M_initCircle (l : Launch) (D : va_G) (cI cZ : ClassId) (o o1 o2 o3 o4 o5 o6 o7 o8 o9 o10 o11 o12 : Nat)   (b : Bool) (md : MM) (ho : okM 2 md) (res : MM) (hres : m_M_initCircle b md = res) : CMv l y_Model_initCircle b_Model_initCircle 2 ({ frames := 1, cells := 0, slots := 0, locals := 21 }) D (tyZ cI cZ) [.ref o, .int (bI b)] (M13 cI cZ o o1 o2 o3 o4 o5 o6 o7 o8 o9 o10 o11 o12 md) (M13 cI cZ o o1 o2 o3 o4 o5 o6 o7 o8 o9 o10 o11 o12 res) := by
  refine CMv_mk (by decide) (Nat.le_of_ble_eq_true rfl) ?_
  intro p e s m args below meth c A ls hx hb hr hml hown hk hlocks hA hSt hK hP hD hS hl
  have hown : s.vm.findClass R_Model = some m.cls := hown
  have hl : lv_has ls 2 [(0, .ref o), (1, .int (bI b))] := hl
  refine lv_aload_n hx hb d_Model_initCircle_0 rfl (lv_at hl 0 rfl) ?_
  refine lv_iload_n hx hb d_Model_initCircle_1 rfl (lv_at hl 1 rfl) ?_
  refine lv_if_eq (tgt := 10) hx hb d_Model_initCircle_2 (by decide) (fun c_2 => ?_) (fun c_2 => ?_)
  · refine lv_bipush (v := (11 : Int32)) hx hb d_Model_initCircle_10 (by decide) ?_
    refine CM.callV (wc := M13 cI cZ o o1 o2 o3 o4 o5 o6 o7 o8 o9 o10 o11 o12 md) (wr := []) (b := o) (av := [.int (11 : Int32)]) (rest := []) hx hb hml hown hk (c_M_begins l D cI cZ o o1 o2 o3 o4 o5 o6 o7 o8 o9 o10 o11 o12 (11 : Int32) md (by unfold vp_in; decide) (okM_mono ho (by decide)) _ _ (pe2 _)) hK hP hD hS hA hSt hl.1 (va_recv hK hP (ci := 2) (q0 := 0) rfl rfl) d_Model_initCircle_12 kc_Model_begins ki_Model kl_Model_58 kn_Model_begins kx_Model_begins (n := 1) rfl (by decide +kernel) ⟨Nat.le_of_ble_eq_true rfl, Nat.le_of_ble_eq_true rfl⟩ rfl rfl (Nat.le_of_ble_eq_true rfl) ⟨Nat.zero_le _, Nat.zero_le _⟩ (fun H locs hP hD hS => ?_)
    have hP : va_P D classes (M13 cI cZ o o1 o2 o3 o4 o5 o6 o7 o8 o9 o10 o11 o12 ((m_M_begins (11 : Int32) md).1)) H := hP
    have hD : va_D A (M13 cI cZ o o1 o2 o3 o4 o5 o6 o7 o8 o9 o10 o11 o12 ((m_M_begins (11 : Int32) md).1)) := hD
    obtain ⟨g1, hg1⟩ : ∃ z, (m_M_begins (11 : Int32) md).1 = z := ⟨_, rfl⟩
    rw [hg1] at hP hD
    refine lv_if_ne (tgt := 19) hx hb d_Model_initCircle_15 (by decide) (fun c_15 => ?_) (fun c_15 => ?_)
    · refine lv_aload_n hx hb d_Model_initCircle_19 rfl (lv_at hl 0 rfl) ?_
      refine lv_iload_n hx hb d_Model_initCircle_20 rfl (lv_at hl 1 rfl) ?_
      refine lv_if_eq (tgt := 29) hx hb d_Model_initCircle_21 (by decide) (fun _ => ?_) (fun h9 => absurd c_2 h9)
      refine lv_bipush (v := (10 : Int32)) hx hb d_Model_initCircle_29 (by decide) ?_
      refine CM.callV (wc := M13 cI cZ o o1 o2 o3 o4 o5 o6 o7 o8 o9 o10 o11 o12 g1) (wr := []) (b := o) (av := [.int (10 : Int32)]) (rest := []) hx hb hml hown hk (c_M_begins l D cI cZ o o1 o2 o3 o4 o5 o6 o7 o8 o9 o10 o11 o12 (10 : Int32) g1 (by unfold vp_in; decide) (okM_mono (okM_eq hg1 (okM_begins ho)) (by decide)) _ _ (pe2 _)) hK hP hD hS hA hSt hl.1 (va_recv hK hP (ci := 2) (q0 := 0) rfl rfl) d_Model_initCircle_31 kc_Model_begins ki_Model kl_Model_58 kn_Model_begins kx_Model_begins (n := 1) rfl (by decide +kernel) ⟨Nat.le_of_ble_eq_true rfl, Nat.le_of_ble_eq_true rfl⟩ rfl rfl (Nat.le_of_ble_eq_true rfl) ⟨Nat.zero_le _, Nat.zero_le _⟩ (fun H locs hP hD hS => ?_)
      have hP : va_P D classes (M13 cI cZ o o1 o2 o3 o4 o5 o6 o7 o8 o9 o10 o11 o12 ((m_M_begins (10 : Int32) g1).1)) H := hP
      have hD : va_D A (M13 cI cZ o o1 o2 o3 o4 o5 o6 o7 o8 o9 o10 o11 o12 ((m_M_begins (10 : Int32) g1).1)) := hD
      obtain ⟨g2, hg2⟩ : ∃ z, (m_M_begins (10 : Int32) g1).1 = z := ⟨_, rfl⟩
      rw [hg2] at hP hD
      refine lv_if_eq (tgt := 96) hx hb d_Model_initCircle_34 (by decide) (fun c_34 => ?_) (fun c_34 => ?_)
      · refine lv_aload_n hx hb d_Model_initCircle_96 rfl (lv_at hl 0 rfl) ?_
        refine lv_iload_n hx hb d_Model_initCircle_97 rfl (lv_at hl 1 rfl) ?_
        refine lv_if_eq (tgt := 106) hx hb d_Model_initCircle_98 (by decide) (fun _ => ?_) (fun h9 => absurd c_2 h9)
        refine lv_bipush (v := (40 : Int32)) hx hb d_Model_initCircle_106 (by decide) ?_
        refine CMv.callV (wc := M13 cI cZ o o1 o2 o3 o4 o5 o6 o7 o8 o9 o10 o11 o12 g2) (wr := []) (b := o) (av := [.int (40 : Int32)]) (rest := []) hx hb hml hown hk (c_M_write l D cI cZ o o1 o2 o3 o4 o5 o6 o7 o8 o9 o10 o11 o12 (40 : Int32) g2 (okM_mono (okM_eq hg2 (okM_begins (okM_eq hg1 (okM_begins ho)))) (by decide)) _ rfl) hK hP hD hS hA hSt hl.1 (va_recv hK hP (ci := 2) (q0 := 0) rfl rfl) d_Model_initCircle_108 kc_Model_write ki_Model kl_Model_62 kn_Model_write kx_Model_write (n := 1) rfl (by decide +kernel) ⟨Nat.le_of_ble_eq_true rfl, Nat.le_of_ble_eq_true rfl⟩ rfl rfl (Nat.le_of_ble_eq_true rfl) ⟨Nat.zero_le _, Nat.zero_le _⟩ (fun H locs hP hD hS => ?_)
        have hP : va_P D classes (M13 cI cZ o o1 o2 o3 o4 o5 o6 o7 o8 o9 o10 o11 o12 (m_M_write (40 : Int32) g2)) H := hP
        have hD : va_D A (M13 cI cZ o o1 o2 o3 o4 o5 o6 o7 o8 o9 o10 o11 o12 (m_M_write (40 : Int32) g2)) := hD
        obtain ⟨g3, hg3⟩ : ∃ z, (m_M_write (40 : Int32) g2) = z := ⟨_, rfl⟩
        rw [hg3] at hP hD
        refine lv_iload_n hx hb d_Model_initCircle_111 rfl (lv_at hl 1 rfl) ?_
        refine lv_if_eq (tgt := 139) hx hb d_Model_initCircle_112 (by decide) (fun _ => ?_) (fun h9 => absurd c_2 h9)
        refine lv_aload_n hx hb d_Model_initCircle_139 rfl (lv_at hl 0 rfl) ?_
        refine va_get (D := D) (ci := 2) (v := .ref o5) (C := R_Model) (T := F_Model) (N := 14) hx hb hk i_Model hown hK hP 0 rfl rfl 4 (by decide) (hk _ kl_Model_22) (fun _ h9 => h9) rfl d_Model_initCircle_140 ?_
        refine lv_aload_n hx hb d_Model_initCircle_143 rfl (lv_at hl 0 rfl) ?_
        refine va_get (D := D) (ci := 2) (v := .int (aWc g3)) (C := R_Model) (T := F_Model) (N := 14) hx hb hk i_Model hown hK hP 0 rfl rfl 11 (by decide) (hk _ kl_Model_41) (fun _ h9 => h9) rfl d_Model_initCircle_144 ?_
        refine lv_aload_n hx hb d_Model_initCircle_147 rfl (lv_at hl 0 rfl) ?_
        refine va_get (D := D) (ci := 2) (v := .ref o4) (C := R_Model) (T := F_Model) (N := 14) hx hb hk i_Model hown hK hP 0 rfl rfl 3 (by decide) (hk _ kl_Model_19) (fun _ h9 => h9) rfl d_Model_initCircle_148 ?_
        refine lv_aload_n hx hb d_Model_initCircle_151 rfl (lv_at hl 0 rfl) ?_
        refine va_get (D := D) (ci := 2) (v := .int (aWc g3)) (C := R_Model) (T := F_Model) (N := 14) hx hb hk i_Model hown hK hP 0 rfl rfl 11 (by decide) (hk _ kl_Model_41) (fun _ h9 => h9) rfl d_Model_initCircle_152 ?_
        refine va_iald hx hb hK hP 4 0 rfl rfl (okM_eq hg3 (okM_write (okM_eq hg2 (okM_begins (okM_eq hg1 (okM_begins ho)))))).1 d_Model_initCircle_155 ?_
        refine lv_bipush (v := (40 : Int32)) hx hb d_Model_initCircle_156 (by decide) ?_
        refine lv_iadd hx hb d_Model_initCircle_158 ?_
        refine va_iast hx hb hK hP hD hS 5 0 rfl rfl (okM_eq hg3 (okM_write (okM_eq hg2 (okM_begins (okM_eq hg1 (okM_begins ho)))))).1 d_Model_initCircle_159 (fun H locs hP hD hS => ?_)
        have hP : va_P D classes (M13 cI cZ o o1 o2 o3 o4 o5 o6 o7 o8 o9 o10 o11 o12 (uYy g3 (upd ((aYy g3)) (aWc g3).toNatClampNeg (((aXx g3) (aWc g3).toNatClampNeg) + (40 : Int32))))) H := hP
        have hD : va_D A (M13 cI cZ o o1 o2 o3 o4 o5 o6 o7 o8 o9 o10 o11 o12 (uYy g3 (upd ((aYy g3)) (aWc g3).toNatClampNeg (((aXx g3) (aWc g3).toNatClampNeg) + (40 : Int32))))) := hD
        refine lv_aload_n hx hb d_Model_initCircle_160 rfl (lv_at hl 0 rfl) ?_
        refine lv_iload_n hx hb d_Model_initCircle_161 rfl (lv_at hl 1 rfl) ?_
        refine lv_if_eq (tgt := 170) hx hb d_Model_initCircle_162 (by decide) (fun _ => ?_) (fun h9 => absurd c_2 h9)
        refine lv_bipush (v := (11 : Int32)) hx hb d_Model_initCircle_170 (by decide) ?_
        refine CMv.callV (wc := M13 cI cZ o o1 o2 o3 o4 o5 o6 o7 o8 o9 o10 o11 o12 (uYy g3 (upd ((aYy g3)) (aWc g3).toNatClampNeg (((aXx g3) (aWc g3).toNatClampNeg) + (40 : Int32))))) (wr := []) (b := o) (av := [.int (11 : Int32)]) (rest := []) hx hb hml hown hk (c_M_ends l D cI cZ o o1 o2 o3 o4 o5 o6 o7 o8 o9 o10 o11 o12 (11 : Int32) (uYy g3 (upd ((aYy g3)) (aWc g3).toNatClampNeg (((aXx g3) (aWc g3).toNatClampNeg) + (40 : Int32)))) (by unfold vp_in; decide) (okM_mono (okM_uYy (okM_eq hg3 (okM_write (okM_eq hg2 (okM_begins (okM_eq hg1 (okM_begins ho))))))) (by decide)) _ rfl) hK hP hD hS hA hSt hl.1 (va_recv hK hP (ci := 2) (q0 := 0) rfl rfl) d_Model_initCircle_172 kc_Model_ends ki_Model kl_Model_66 kn_Model_ends kx_Model_ends (n := 1) rfl (by decide +kernel) ⟨Nat.le_of_ble_eq_true rfl, Nat.le_of_ble_eq_true rfl⟩ rfl rfl (Nat.le_of_ble_eq_true rfl) ⟨Nat.zero_le _, Nat.zero_le _⟩ (fun H locs hP hD hS => ?_)
        have hP : va_P D classes (M13 cI cZ o o1 o2 o3 o4 o5 o6 o7 o8 o9 o10 o11 o12 (m_M_ends (11 : Int32) (uYy g3 (upd ((aYy g3)) (aWc g3).toNatClampNeg (((aXx g3) (aWc g3).toNatClampNeg) + (40 : Int32)))))) H := hP
        have hD : va_D A (M13 cI cZ o o1 o2 o3 o4 o5 o6 o7 o8 o9 o10 o11 o12 (m_M_ends (11 : Int32) (uYy g3 (upd ((aYy g3)) (aWc g3).toNatClampNeg (((aXx g3) (aWc g3).toNatClampNeg) + (40 : Int32)))))) := hD
        obtain ⟨g4, hg4⟩ : ∃ z, (m_M_ends (11 : Int32) (uYy g3 (upd ((aYy g3)) (aWc g3).toNatClampNeg (((aXx g3) (aWc g3).toNatClampNeg) + (40 : Int32))))) = z := ⟨_, rfl⟩
        rw [hg4] at hP hD
        subst hg4
        subst hg3
        subst hg2
        subst hg1
        obtain rfl : (m_M_ends (11 : Int32) (uYy (m_M_write (40 : Int32) ((m_M_begins (10 : Int32) ((m_M_begins (11 : Int32) md).1)).1)) (upd ((aYy (m_M_write (40 : Int32) ((m_M_begins (10 : Int32) ((m_M_begins (11 : Int32) md).1)).1)))) (aWc (m_M_write (40 : Int32) ((m_M_begins (10 : Int32) ((m_M_begins (11 : Int32) md).1)).1))).toNatClampNeg (((aXx (m_M_write (40 : Int32) ((m_M_begins (10 : Int32) ((m_M_begins (11 : Int32) md).1)).1))) (aWc (m_M_write (40 : Int32) ((m_M_begins (10 : Int32) ((m_M_begins (11 : Int32) md).1)).1))).toNatClampNeg) + (40 : Int32))))) = res := (Eq.symm ((if_pos c_2).trans ((if_neg c_15).trans ((if_pos c_34).trans rfl)))).trans hres
        exact CMv_ret hx hb hr hlocks hP hK hD hS d_Model_initCircle_175
      · refine lv_aload_n hx hb d_Model_initCircle_37 rfl (lv_at hl 0 rfl) ?_
        refine lv_iload_n hx hb d_Model_initCircle_38 rfl (lv_at hl 1 rfl) ?_
        refine lv_if_eq (tgt := 47) hx hb d_Model_initCircle_39 (by decide) (fun _ => ?_) (fun h9 => absurd c_2 h9)
        refine lv_bipush (v := (30 : Int32)) hx hb d_Model_initCircle_47 (by decide) ?_
        refine CMv.callV (wc := M13 cI cZ o o1 o2 o3 o4 o5 o6 o7 o8 o9 o10 o11 o12 g2) (wr := []) (b := o) (av := [.int (30 : Int32)]) (rest := []) hx hb hml hown hk (c_M_write l D cI cZ o o1 o2 o3 o4 o5 o6 o7 o8 o9 o10 o11 o12 (30 : Int32) g2 (okM_mono (okM_eq hg2 (okM_begins (okM_eq hg1 (okM_begins ho)))) (by decide)) _ rfl) hK hP hD hS hA hSt hl.1 (va_recv hK hP (ci := 2) (q0 := 0) rfl rfl) d_Model_initCircle_49 kc_Model_write ki_Model kl_Model_62 kn_Model_write kx_Model_write (n := 1) rfl (by decide +kernel) ⟨Nat.le_of_ble_eq_true rfl, Nat.le_of_ble_eq_true rfl⟩ rfl rfl (Nat.le_of_ble_eq_true rfl) ⟨Nat.zero_le _, Nat.zero_le _⟩ (fun H locs hP hD hS => ?_)
        have hP : va_P D classes (M13 cI cZ o o1 o2 o3 o4 o5 o6 o7 o8 o9 o10 o11 o12 (m_M_write (30 : Int32) g2)) H := hP
        have hD : va_D A (M13 cI cZ o o1 o2 o3 o4 o5 o6 o7 o8 o9 o10 o11 o12 (m_M_write (30 : Int32) g2)) := hD
        obtain ⟨g5, hg5⟩ : ∃ z, (m_M_write (30 : Int32) g2) = z := ⟨_, rfl⟩
        rw [hg5] at hP hD
        refine lv_iload_n hx hb d_Model_initCircle_52 rfl (lv_at hl 1 rfl) ?_
        refine lv_if_eq (tgt := 70) hx hb d_Model_initCircle_53 (by decide) (fun _ => ?_) (fun h9 => absurd c_2 h9)
        refine lv_aload_n hx hb d_Model_initCircle_70 rfl (lv_at hl 0 rfl) ?_
        refine va_get (D := D) (ci := 2) (v := .ref o4) (C := R_Model) (T := F_Model) (N := 14) hx hb hk i_Model hown hK hP 0 rfl rfl 3 (by decide) (hk _ kl_Model_19) (fun _ h9 => h9) rfl d_Model_initCircle_71 ?_
        refine lv_aload_n hx hb d_Model_initCircle_74 rfl (lv_at hl 0 rfl) ?_
        refine va_get (D := D) (ci := 2) (v := .int (aWc g5)) (C := R_Model) (T := F_Model) (N := 14) hx hb hk i_Model hown hK hP 0 rfl rfl 11 (by decide) (hk _ kl_Model_41) (fun _ h9 => h9) rfl d_Model_initCircle_75 ?_
        refine lv_bipush (v := (30 : Int32)) hx hb d_Model_initCircle_78 (by decide) ?_
        refine va_iast hx hb hK hP hD hS 4 0 rfl rfl (okM_eq hg5 (okM_write (okM_eq hg2 (okM_begins (okM_eq hg1 (okM_begins ho)))))).1 d_Model_initCircle_80 (fun H locs hP hD hS => ?_)
        have hP : va_P D classes (M13 cI cZ o o1 o2 o3 o4 o5 o6 o7 o8 o9 o10 o11 o12 (uXx g5 (upd ((aXx g5)) (aWc g5).toNatClampNeg (30 : Int32)))) H := hP
        have hD : va_D A (M13 cI cZ o o1 o2 o3 o4 o5 o6 o7 o8 o9 o10 o11 o12 (uXx g5 (upd ((aXx g5)) (aWc g5).toNatClampNeg (30 : Int32)))) := hD
        refine lv_aload_n hx hb d_Model_initCircle_81 rfl (lv_at hl 0 rfl) ?_
        refine lv_iload_n hx hb d_Model_initCircle_82 rfl (lv_at hl 1 rfl) ?_
        refine lv_if_eq (tgt := 91) hx hb d_Model_initCircle_83 (by decide) (fun _ => ?_) (fun h9 => absurd c_2 h9)
        refine lv_bipush (v := (10 : Int32)) hx hb d_Model_initCircle_91 (by decide) ?_
        refine CMv.callV (wc := M13 cI cZ o o1 o2 o3 o4 o5 o6 o7 o8 o9 o10 o11 o12 (uXx g5 (upd ((aXx g5)) (aWc g5).toNatClampNeg (30 : Int32)))) (wr := []) (b := o) (av := [.int (10 : Int32)]) (rest := []) hx hb hml hown hk (c_M_ends l D cI cZ o o1 o2 o3 o4 o5 o6 o7 o8 o9 o10 o11 o12 (10 : Int32) (uXx g5 (upd ((aXx g5)) (aWc g5).toNatClampNeg (30 : Int32))) (by unfold vp_in; decide) (okM_mono (okM_uXx (okM_eq hg5 (okM_write (okM_eq hg2 (okM_begins (okM_eq hg1 (okM_begins ho))))))) (by decide)) _ rfl) hK hP hD hS hA hSt hl.1 (va_recv hK hP (ci := 2) (q0 := 0) rfl rfl) d_Model_initCircle_93 kc_Model_ends ki_Model kl_Model_66 kn_Model_ends kx_Model_ends (n := 1) rfl (by decide +kernel) ⟨Nat.le_of_ble_eq_true rfl, Nat.le_of_ble_eq_true rfl⟩ rfl rfl (Nat.le_of_ble_eq_true rfl) ⟨Nat.zero_le _, Nat.zero_le _⟩ (fun H locs hP hD hS => ?_)
        have hP : va_P D classes (M13 cI cZ o o1 o2 o3 o4 o5 o6 o7 o8 o9 o10 o11 o12 (m_M_ends (10 : Int32) (uXx g5 (upd ((aXx g5)) (aWc g5).toNatClampNeg (30 : Int32))))) H := hP
        have hD : va_D A (M13 cI cZ o o1 o2 o3 o4 o5 o6 o7 o8 o9 o10 o11 o12 (m_M_ends (10 : Int32) (uXx g5 (upd ((aXx g5)) (aWc g5).toNatClampNeg (30 : Int32))))) := hD
        obtain ⟨g6, hg6⟩ : ∃ z, (m_M_ends (10 : Int32) (uXx g5 (upd ((aXx g5)) (aWc g5).toNatClampNeg (30 : Int32)))) = z := ⟨_, rfl⟩
        rw [hg6] at hP hD
        refine lv_aload_n hx hb d_Model_initCircle_96 rfl (lv_at hl 0 rfl) ?_
        refine lv_iload_n hx hb d_Model_initCircle_97 rfl (lv_at hl 1 rfl) ?_
        refine lv_if_eq (tgt := 106) hx hb d_Model_initCircle_98 (by decide) (fun _ => ?_) (fun h9 => absurd c_2 h9)
        refine lv_bipush (v := (40 : Int32)) hx hb d_Model_initCircle_106 (by decide) ?_
        refine CMv.callV (wc := M13 cI cZ o o1 o2 o3 o4 o5 o6 o7 o8 o9 o10 o11 o12 g6) (wr := []) (b := o) (av := [.int (40 : Int32)]) (rest := []) hx hb hml hown hk (c_M_write l D cI cZ o o1 o2 o3 o4 o5 o6 o7 o8 o9 o10 o11 o12 (40 : Int32) g6 (okM_mono (okM_eq hg6 (okM_ends (okM_uXx (okM_eq hg5 (okM_write (okM_eq hg2 (okM_begins (okM_eq hg1 (okM_begins ho))))))))) (by decide)) _ rfl) hK hP hD hS hA hSt hl.1 (va_recv hK hP (ci := 2) (q0 := 0) rfl rfl) d_Model_initCircle_108 kc_Model_write ki_Model kl_Model_62 kn_Model_write kx_Model_write (n := 1) rfl (by decide +kernel) ⟨Nat.le_of_ble_eq_true rfl, Nat.le_of_ble_eq_true rfl⟩ rfl rfl (Nat.le_of_ble_eq_true rfl) ⟨Nat.zero_le _, Nat.zero_le _⟩ (fun H locs hP hD hS => ?_)
        have hP : va_P D classes (M13 cI cZ o o1 o2 o3 o4 o5 o6 o7 o8 o9 o10 o11 o12 (m_M_write (40 : Int32) g6)) H := hP
        have hD : va_D A (M13 cI cZ o o1 o2 o3 o4 o5 o6 o7 o8 o9 o10 o11 o12 (m_M_write (40 : Int32) g6)) := hD
        obtain ⟨g7, hg7⟩ : ∃ z, (m_M_write (40 : Int32) g6) = z := ⟨_, rfl⟩
        rw [hg7] at hP hD
        refine lv_iload_n hx hb d_Model_initCircle_111 rfl (lv_at hl 1 rfl) ?_
        refine lv_if_eq (tgt := 139) hx hb d_Model_initCircle_112 (by decide) (fun _ => ?_) (fun h9 => absurd c_2 h9)
        refine lv_aload_n hx hb d_Model_initCircle_139 rfl (lv_at hl 0 rfl) ?_
        refine va_get (D := D) (ci := 2) (v := .ref o5) (C := R_Model) (T := F_Model) (N := 14) hx hb hk i_Model hown hK hP 0 rfl rfl 4 (by decide) (hk _ kl_Model_22) (fun _ h9 => h9) rfl d_Model_initCircle_140 ?_
        refine lv_aload_n hx hb d_Model_initCircle_143 rfl (lv_at hl 0 rfl) ?_
        refine va_get (D := D) (ci := 2) (v := .int (aWc g7)) (C := R_Model) (T := F_Model) (N := 14) hx hb hk i_Model hown hK hP 0 rfl rfl 11 (by decide) (hk _ kl_Model_41) (fun _ h9 => h9) rfl d_Model_initCircle_144 ?_
        refine lv_aload_n hx hb d_Model_initCircle_147 rfl (lv_at hl 0 rfl) ?_
        refine va_get (D := D) (ci := 2) (v := .ref o4) (C := R_Model) (T := F_Model) (N := 14) hx hb hk i_Model hown hK hP 0 rfl rfl 3 (by decide) (hk _ kl_Model_19) (fun _ h9 => h9) rfl d_Model_initCircle_148 ?_
        refine lv_aload_n hx hb d_Model_initCircle_151 rfl (lv_at hl 0 rfl) ?_
        refine va_get (D := D) (ci := 2) (v := .int (aWc g7)) (C := R_Model) (T := F_Model) (N := 14) hx hb hk i_Model hown hK hP 0 rfl rfl 11 (by decide) (hk _ kl_Model_41) (fun _ h9 => h9) rfl d_Model_initCircle_152 ?_
        refine va_iald hx hb hK hP 4 0 rfl rfl (okM_eq hg7 (okM_write (okM_eq hg6 (okM_ends (okM_uXx (okM_eq hg5 (okM_write (okM_eq hg2 (okM_begins (okM_eq hg1 (okM_begins ho))))))))))).1 d_Model_initCircle_155 ?_
        refine lv_bipush (v := (40 : Int32)) hx hb d_Model_initCircle_156 (by decide) ?_
        refine lv_iadd hx hb d_Model_initCircle_158 ?_
        refine va_iast hx hb hK hP hD hS 5 0 rfl rfl (okM_eq hg7 (okM_write (okM_eq hg6 (okM_ends (okM_uXx (okM_eq hg5 (okM_write (okM_eq hg2 (okM_begins (okM_eq hg1 (okM_begins ho))))))))))).1 d_Model_initCircle_159 (fun H locs hP hD hS => ?_)
        have hP : va_P D classes (M13 cI cZ o o1 o2 o3 o4 o5 o6 o7 o8 o9 o10 o11 o12 (uYy g7 (upd ((aYy g7)) (aWc g7).toNatClampNeg (((aXx g7) (aWc g7).toNatClampNeg) + (40 : Int32))))) H := hP
        have hD : va_D A (M13 cI cZ o o1 o2 o3 o4 o5 o6 o7 o8 o9 o10 o11 o12 (uYy g7 (upd ((aYy g7)) (aWc g7).toNatClampNeg (((aXx g7) (aWc g7).toNatClampNeg) + (40 : Int32))))) := hD
        refine lv_aload_n hx hb d_Model_initCircle_160 rfl (lv_at hl 0 rfl) ?_
        refine lv_iload_n hx hb d_Model_initCircle_161 rfl (lv_at hl 1 rfl) ?_
        refine lv_if_eq (tgt := 170) hx hb d_Model_initCircle_162 (by decide) (fun _ => ?_) (fun h9 => absurd c_2 h9)
        refine lv_bipush (v := (11 : Int32)) hx hb d_Model_initCircle_170 (by decide) ?_
        refine CMv.callV (wc := M13 cI cZ o o1 o2 o3 o4 o5 o6 o7 o8 o9 o10 o11 o12 (uYy g7 (upd ((aYy g7)) (aWc g7).toNatClampNeg (((aXx g7) (aWc g7).toNatClampNeg) + (40 : Int32))))) (wr := []) (b := o) (av := [.int (11 : Int32)]) (rest := []) hx hb hml hown hk (c_M_ends l D cI cZ o o1 o2 o3 o4 o5 o6 o7 o8 o9 o10 o11 o12 (11 : Int32) (uYy g7 (upd ((aYy g7)) (aWc g7).toNatClampNeg (((aXx g7) (aWc g7).toNatClampNeg) + (40 : Int32)))) (by unfold vp_in; decide) (okM_mono (okM_uYy (okM_eq hg7 (okM_write (okM_eq hg6 (okM_ends (okM_uXx (okM_eq hg5 (okM_write (okM_eq hg2 (okM_begins (okM_eq hg1 (okM_begins ho)))))))))))) (by decide)) _ rfl) hK hP hD hS hA hSt hl.1 (va_recv hK hP (ci := 2) (q0 := 0) rfl rfl) d_Model_initCircle_172 kc_Model_ends ki_Model kl_Model_66 kn_Model_ends kx_Model_ends (n := 1) rfl (by decide +kernel) ⟨Nat.le_of_ble_eq_true rfl, Nat.le_of_ble_eq_true rfl⟩ rfl rfl (Nat.le_of_ble_eq_true rfl) ⟨Nat.zero_le _, Nat.zero_le _⟩ (fun H locs hP hD hS => ?_)
        have hP : va_P D classes (M13 cI cZ o o1 o2 o3 o4 o5 o6 o7 o8 o9 o10 o11 o12 (m_M_ends (11 : Int32) (uYy g7 (upd ((aYy g7)) (aWc g7).toNatClampNeg (((aXx g7) (aWc g7).toNatClampNeg) + (40 : Int32)))))) H := hP
        have hD : va_D A (M13 cI cZ o o1 o2 o3 o4 o5 o6 o7 o8 o9 o10 o11 o12 (m_M_ends (11 : Int32) (uYy g7 (upd ((aYy g7)) (aWc g7).toNatClampNeg (((aXx g7) (aWc g7).toNatClampNeg) + (40 : Int32)))))) := hD
        obtain ⟨g8, hg8⟩ : ∃ z, (m_M_ends (11 : Int32) (uYy g7 (upd ((aYy g7)) (aWc g7).toNatClampNeg (((aXx g7) (aWc g7).toNatClampNeg) + (40 : Int32))))) = z := ⟨_, rfl⟩
        rw [hg8] at hP hD
        subst hg8
        subst hg7
        subst hg6
        subst hg5
        subst hg2
        subst hg1
        obtain rfl : (m_M_ends (11 : Int32) (uYy (m_M_write (40 : Int32) (m_M_ends (10 : Int32) (uXx (m_M_write (30 : Int32) ((m_M_begins (10 : Int32) ((m_M_begins (11 : Int32) md).1)).1)) (upd ((aXx (m_M_write (30 : Int32) ((m_M_begins (10 : Int32) ((m_M_begins (11 : Int32) md).1)).1)))) (aWc (m_M_write (30 : Int32) ((m_M_begins (10 : Int32) ((m_M_begins (11 : Int32) md).1)).1))).toNatClampNeg (30 : Int32))))) (upd ((aYy (m_M_write (40 : Int32) (m_M_ends (10 : Int32) (uXx (m_M_write (30 : Int32) ((m_M_begins (10 : Int32) ((m_M_begins (11 : Int32) md).1)).1)) (upd ((aXx (m_M_write (30 : Int32) ((m_M_begins (10 : Int32) ((m_M_begins (11 : Int32) md).1)).1)))) (aWc (m_M_write (30 : Int32) ((m_M_begins (10 : Int32) ((m_M_begins (11 : Int32) md).1)).1))).toNatClampNeg (30 : Int32))))))) (aWc (m_M_write (40 : Int32) (m_M_ends (10 : Int32) (uXx (m_M_write (30 : Int32) ((m_M_begins (10 : Int32) ((m_M_begins (11 : Int32) md).1)).1)) (upd ((aXx (m_M_write (30 : Int32) ((m_M_begins (10 : Int32) ((m_M_begins (11 : Int32) md).1)).1)))) (aWc (m_M_write (30 : Int32) ((m_M_begins (10 : Int32) ((m_M_begins (11 : Int32) md).1)).1))).toNatClampNeg (30 : Int32)))))).toNatClampNeg (((aXx (m_M_write (40 : Int32) (m_M_ends (10 : Int32) (uXx (m_M_write (30 : Int32) ((m_M_begins (10 : Int32) ((m_M_begins (11 : Int32) md).1)).1)) (upd ((aXx (m_M_write (30 : Int32) ((m_M_begins (10 : Int32) ((m_M_begins (11 : Int32) md).1)).1)))) (aWc (m_M_write (30 : Int32) ((m_M_begins (10 : Int32) ((m_M_begins (11 : Int32) md).1)).1))).toNatClampNeg (30 : Int32)))))) (aWc (m_M_write (40 : Int32) (m_M_ends (10 : Int32) (uXx (m_M_write (30 : Int32) ((m_M_begins (10 : Int32) ((m_M_begins (11 : Int32) md).1)).1)) (upd ((aXx (m_M_write (30 : Int32) ((m_M_begins (10 : Int32) ((m_M_begins (11 : Int32) md).1)).1)))) (aWc (m_M_write (30 : Int32) ((m_M_begins (10 : Int32) ((m_M_begins (11 : Int32) md).1)).1))).toNatClampNeg (30 : Int32)))))).toNatClampNeg) + (40 : Int32))))) = res := (Eq.symm ((if_pos c_2).trans ((if_neg c_15).trans ((if_neg c_34).trans rfl)))).trans hres
        exact CMv_ret hx hb hr hlocks hP hK hD hS d_Model_initCircle_175
    · subst hg1
      obtain rfl : ((m_M_begins (11 : Int32) md).1) = res := (Eq.symm ((if_pos c_2).trans ((if_pos c_15).trans rfl))).trans hres
      exact CMv_ret hx hb hr hlocks hP hK hD hS d_Model_initCircle_18
  · refine lv_bipush (v := (10 : Int32)) hx hb d_Model_initCircle_5 (by decide) ?_
    refine lv_goto (tgt := 12) hx hb d_Model_initCircle_7 (by decide) ?_
    refine CM.callV (wc := M13 cI cZ o o1 o2 o3 o4 o5 o6 o7 o8 o9 o10 o11 o12 md) (wr := []) (b := o) (av := [.int (10 : Int32)]) (rest := []) hx hb hml hown hk (c_M_begins l D cI cZ o o1 o2 o3 o4 o5 o6 o7 o8 o9 o10 o11 o12 (10 : Int32) md (by unfold vp_in; decide) (okM_mono ho (by decide)) _ _ (pe2 _)) hK hP hD hS hA hSt hl.1 (va_recv hK hP (ci := 2) (q0 := 0) rfl rfl) d_Model_initCircle_12 kc_Model_begins ki_Model kl_Model_58 kn_Model_begins kx_Model_begins (n := 1) rfl (by decide +kernel) ⟨Nat.le_of_ble_eq_true rfl, Nat.le_of_ble_eq_true rfl⟩ rfl rfl (Nat.le_of_ble_eq_true rfl) ⟨Nat.zero_le _, Nat.zero_le _⟩ (fun H locs hP hD hS => ?_)
    have hP : va_P D classes (M13 cI cZ o o1 o2 o3 o4 o5 o6 o7 o8 o9 o10 o11 o12 ((m_M_begins (10 : Int32) md).1)) H := hP
    have hD : va_D A (M13 cI cZ o o1 o2 o3 o4 o5 o6 o7 o8 o9 o10 o11 o12 ((m_M_begins (10 : Int32) md).1)) := hD
    obtain ⟨g9, hg9⟩ : ∃ z, (m_M_begins (10 : Int32) md).1 = z := ⟨_, rfl⟩
    rw [hg9] at hP hD
    refine lv_if_ne (tgt := 19) hx hb d_Model_initCircle_15 (by decide) (fun c_15 => ?_) (fun c_15 => ?_)
    · refine lv_aload_n hx hb d_Model_initCircle_19 rfl (lv_at hl 0 rfl) ?_
      refine lv_iload_n hx hb d_Model_initCircle_20 rfl (lv_at hl 1 rfl) ?_
      refine lv_if_eq (tgt := 29) hx hb d_Model_initCircle_21 (by decide) (fun h9 => absurd h9 c_2) (fun _ => ?_)
      refine lv_bipush (v := (11 : Int32)) hx hb d_Model_initCircle_24 (by decide) ?_
      refine lv_goto (tgt := 31) hx hb d_Model_initCircle_26 (by decide) ?_
      refine CM.callV (wc := M13 cI cZ o o1 o2 o3 o4 o5 o6 o7 o8 o9 o10 o11 o12 g9) (wr := []) (b := o) (av := [.int (11 : Int32)]) (rest := []) hx hb hml hown hk (c_M_begins l D cI cZ o o1 o2 o3 o4 o5 o6 o7 o8 o9 o10 o11 o12 (11 : Int32) g9 (by unfold vp_in; decide) (okM_mono (okM_eq hg9 (okM_begins ho)) (by decide)) _ _ (pe2 _)) hK hP hD hS hA hSt hl.1 (va_recv hK hP (ci := 2) (q0 := 0) rfl rfl) d_Model_initCircle_31 kc_Model_begins ki_Model kl_Model_58 kn_Model_begins kx_Model_begins (n := 1) rfl (by decide +kernel) ⟨Nat.le_of_ble_eq_true rfl, Nat.le_of_ble_eq_true rfl⟩ rfl rfl (Nat.le_of_ble_eq_true rfl) ⟨Nat.zero_le _, Nat.zero_le _⟩ (fun H locs hP hD hS => ?_)
      have hP : va_P D classes (M13 cI cZ o o1 o2 o3 o4 o5 o6 o7 o8 o9 o10 o11 o12 ((m_M_begins (11 : Int32) g9).1)) H := hP
      have hD : va_D A (M13 cI cZ o o1 o2 o3 o4 o5 o6 o7 o8 o9 o10 o11 o12 ((m_M_begins (11 : Int32) g9).1)) := hD
      obtain ⟨g10, hg10⟩ : ∃ z, (m_M_begins (11 : Int32) g9).1 = z := ⟨_, rfl⟩
      rw [hg10] at hP hD
      refine lv_if_eq (tgt := 96) hx hb d_Model_initCircle_34 (by decide) (fun c_34 => ?_) (fun c_34 => ?_)
      · refine lv_aload_n hx hb d_Model_initCircle_96 rfl (lv_at hl 0 rfl) ?_
        refine lv_iload_n hx hb d_Model_initCircle_97 rfl (lv_at hl 1 rfl) ?_
        refine lv_if_eq (tgt := 106) hx hb d_Model_initCircle_98 (by decide) (fun h9 => absurd h9 c_2) (fun _ => ?_)
        refine lv_bipush (v := (30 : Int32)) hx hb d_Model_initCircle_101 (by decide) ?_
        refine lv_goto (tgt := 108) hx hb d_Model_initCircle_103 (by decide) ?_
        refine CMv.callV (wc := M13 cI cZ o o1 o2 o3 o4 o5 o6 o7 o8 o9 o10 o11 o12 g10) (wr := []) (b := o) (av := [.int (30 : Int32)]) (rest := []) hx hb hml hown hk (c_M_write l D cI cZ o o1 o2 o3 o4 o5 o6 o7 o8 o9 o10 o11 o12 (30 : Int32) g10 (okM_mono (okM_eq hg10 (okM_begins (okM_eq hg9 (okM_begins ho)))) (by decide)) _ rfl) hK hP hD hS hA hSt hl.1 (va_recv hK hP (ci := 2) (q0 := 0) rfl rfl) d_Model_initCircle_108 kc_Model_write ki_Model kl_Model_62 kn_Model_write kx_Model_write (n := 1) rfl (by decide +kernel) ⟨Nat.le_of_ble_eq_true rfl, Nat.le_of_ble_eq_true rfl⟩ rfl rfl (Nat.le_of_ble_eq_true rfl) ⟨Nat.zero_le _, Nat.zero_le _⟩ (fun H locs hP hD hS => ?_)
        have hP : va_P D classes (M13 cI cZ o o1 o2 o3 o4 o5 o6 o7 o8 o9 o10 o11 o12 (m_M_write (30 : Int32) g10)) H := hP
        have hD : va_D A (M13 cI cZ o o1 o2 o3 o4 o5 o6 o7 o8 o9 o10 o11 o12 (m_M_write (30 : Int32) g10)) := hD
        obtain ⟨g11, hg11⟩ : ∃ z, (m_M_write (30 : Int32) g10) = z := ⟨_, rfl⟩
        rw [hg11] at hP hD
        refine lv_iload_n hx hb d_Model_initCircle_111 rfl (lv_at hl 1 rfl) ?_
        refine lv_if_eq (tgt := 139) hx hb d_Model_initCircle_112 (by decide) (fun h9 => absurd h9 c_2) (fun _ => ?_)
        refine lv_aload_n hx hb d_Model_initCircle_115 rfl (lv_at hl 0 rfl) ?_
        refine va_get (D := D) (ci := 2) (v := .ref o4) (C := R_Model) (T := F_Model) (N := 14) hx hb hk i_Model hown hK hP 0 rfl rfl 3 (by decide) (hk _ kl_Model_19) (fun _ h9 => h9) rfl d_Model_initCircle_116 ?_
        refine lv_aload_n hx hb d_Model_initCircle_119 rfl (lv_at hl 0 rfl) ?_
        refine va_get (D := D) (ci := 2) (v := .int (aWc g11)) (C := R_Model) (T := F_Model) (N := 14) hx hb hk i_Model hown hK hP 0 rfl rfl 11 (by decide) (hk _ kl_Model_41) (fun _ h9 => h9) rfl d_Model_initCircle_120 ?_
        refine lv_aload_n hx hb d_Model_initCircle_123 rfl (lv_at hl 0 rfl) ?_
        refine va_get (D := D) (ci := 2) (v := .ref o5) (C := R_Model) (T := F_Model) (N := 14) hx hb hk i_Model hown hK hP 0 rfl rfl 4 (by decide) (hk _ kl_Model_22) (fun _ h9 => h9) rfl d_Model_initCircle_124 ?_
        refine lv_aload_n hx hb d_Model_initCircle_127 rfl (lv_at hl 0 rfl) ?_
        refine va_get (D := D) (ci := 2) (v := .int (aWc g11)) (C := R_Model) (T := F_Model) (N := 14) hx hb hk i_Model hown hK hP 0 rfl rfl 11 (by decide) (hk _ kl_Model_41) (fun _ h9 => h9) rfl d_Model_initCircle_128 ?_
        refine va_iald hx hb hK hP 5 0 rfl rfl (okM_eq hg11 (okM_write (okM_eq hg10 (okM_begins (okM_eq hg9 (okM_begins ho)))))).1 d_Model_initCircle_131 ?_
        refine lv_bipush (v := (30 : Int32)) hx hb d_Model_initCircle_132 (by decide) ?_
        refine lv_iadd hx hb d_Model_initCircle_134 ?_
        refine va_iast hx hb hK hP hD hS 4 0 rfl rfl (okM_eq hg11 (okM_write (okM_eq hg10 (okM_begins (okM_eq hg9 (okM_begins ho)))))).1 d_Model_initCircle_135 (fun H locs hP hD hS => ?_)
        have hP : va_P D classes (M13 cI cZ o o1 o2 o3 o4 o5 o6 o7 o8 o9 o10 o11 o12 (uXx g11 (upd ((aXx g11)) (aWc g11).toNatClampNeg (((aYy g11) (aWc g11).toNatClampNeg) + (30 : Int32))))) H := hP
        have hD : va_D A (M13 cI cZ o o1 o2 o3 o4 o5 o6 o7 o8 o9 o10 o11 o12 (uXx g11 (upd ((aXx g11)) (aWc g11).toNatClampNeg (((aYy g11) (aWc g11).toNatClampNeg) + (30 : Int32))))) := hD
        refine lv_goto (tgt := 160) hx hb d_Model_initCircle_136 (by decide) ?_
        refine lv_aload_n hx hb d_Model_initCircle_160 rfl (lv_at hl 0 rfl) ?_
        refine lv_iload_n hx hb d_Model_initCircle_161 rfl (lv_at hl 1 rfl) ?_
        refine lv_if_eq (tgt := 170) hx hb d_Model_initCircle_162 (by decide) (fun h9 => absurd h9 c_2) (fun _ => ?_)
        refine lv_bipush (v := (10 : Int32)) hx hb d_Model_initCircle_165 (by decide) ?_
        refine lv_goto (tgt := 172) hx hb d_Model_initCircle_167 (by decide) ?_
        refine CMv.callV (wc := M13 cI cZ o o1 o2 o3 o4 o5 o6 o7 o8 o9 o10 o11 o12 (uXx g11 (upd ((aXx g11)) (aWc g11).toNatClampNeg (((aYy g11) (aWc g11).toNatClampNeg) + (30 : Int32))))) (wr := []) (b := o) (av := [.int (10 : Int32)]) (rest := []) hx hb hml hown hk (c_M_ends l D cI cZ o o1 o2 o3 o4 o5 o6 o7 o8 o9 o10 o11 o12 (10 : Int32) (uXx g11 (upd ((aXx g11)) (aWc g11).toNatClampNeg (((aYy g11) (aWc g11).toNatClampNeg) + (30 : Int32)))) (by unfold vp_in; decide) (okM_mono (okM_uXx (okM_eq hg11 (okM_write (okM_eq hg10 (okM_begins (okM_eq hg9 (okM_begins ho))))))) (by decide)) _ rfl) hK hP hD hS hA hSt hl.1 (va_recv hK hP (ci := 2) (q0 := 0) rfl rfl) d_Model_initCircle_172 kc_Model_ends ki_Model kl_Model_66 kn_Model_ends kx_Model_ends (n := 1) rfl (by decide +kernel) ⟨Nat.le_of_ble_eq_true rfl, Nat.le_of_ble_eq_true rfl⟩ rfl rfl (Nat.le_of_ble_eq_true rfl) ⟨Nat.zero_le _, Nat.zero_le _⟩ (fun H locs hP hD hS => ?_)
        have hP : va_P D classes (M13 cI cZ o o1 o2 o3 o4 o5 o6 o7 o8 o9 o10 o11 o12 (m_M_ends (10 : Int32) (uXx g11 (upd ((aXx g11)) (aWc g11).toNatClampNeg (((aYy g11) (aWc g11).toNatClampNeg) + (30 : Int32)))))) H := hP
        have hD : va_D A (M13 cI cZ o o1 o2 o3 o4 o5 o6 o7 o8 o9 o10 o11 o12 (m_M_ends (10 : Int32) (uXx g11 (upd ((aXx g11)) (aWc g11).toNatClampNeg (((aYy g11) (aWc g11).toNatClampNeg) + (30 : Int32)))))) := hD
        obtain ⟨g12, hg12⟩ : ∃ z, (m_M_ends (10 : Int32) (uXx g11 (upd ((aXx g11)) (aWc g11).toNatClampNeg (((aYy g11) (aWc g11).toNatClampNeg) + (30 : Int32))))) = z := ⟨_, rfl⟩
        rw [hg12] at hP hD
        subst hg12
        subst hg11
        subst hg10
        subst hg9
        obtain rfl : (m_M_ends (10 : Int32) (uXx (m_M_write (30 : Int32) ((m_M_begins (11 : Int32) ((m_M_begins (10 : Int32) md).1)).1)) (upd ((aXx (m_M_write (30 : Int32) ((m_M_begins (11 : Int32) ((m_M_begins (10 : Int32) md).1)).1)))) (aWc (m_M_write (30 : Int32) ((m_M_begins (11 : Int32) ((m_M_begins (10 : Int32) md).1)).1))).toNatClampNeg (((aYy (m_M_write (30 : Int32) ((m_M_begins (11 : Int32) ((m_M_begins (10 : Int32) md).1)).1))) (aWc (m_M_write (30 : Int32) ((m_M_begins (11 : Int32) ((m_M_begins (10 : Int32) md).1)).1))).toNatClampNeg) + (30 : Int32))))) = res := (Eq.symm ((if_neg c_2).trans ((if_neg c_15).trans ((if_pos c_34).trans rfl)))).trans hres
        exact CMv_ret hx hb hr hlocks hP hK hD hS d_Model_initCircle_175
      · refine lv_aload_n hx hb d_Model_initCircle_37 rfl (lv_at hl 0 rfl) ?_
        refine lv_iload_n hx hb d_Model_initCircle_38 rfl (lv_at hl 1 rfl) ?_
        refine lv_if_eq (tgt := 47) hx hb d_Model_initCircle_39 (by decide) (fun h9 => absurd h9 c_2) (fun _ => ?_)
        refine lv_bipush (v := (40 : Int32)) hx hb d_Model_initCircle_42 (by decide) ?_
        refine lv_goto (tgt := 49) hx hb d_Model_initCircle_44 (by decide) ?_
        refine CMv.callV (wc := M13 cI cZ o o1 o2 o3 o4 o5 o6 o7 o8 o9 o10 o11 o12 g10) (wr := []) (b := o) (av := [.int (40 : Int32)]) (rest := []) hx hb hml hown hk (c_M_write l D cI cZ o o1 o2 o3 o4 o5 o6 o7 o8 o9 o10 o11 o12 (40 : Int32) g10 (okM_mono (okM_eq hg10 (okM_begins (okM_eq hg9 (okM_begins ho)))) (by decide)) _ rfl) hK hP hD hS hA hSt hl.1 (va_recv hK hP (ci := 2) (q0 := 0) rfl rfl) d_Model_initCircle_49 kc_Model_write ki_Model kl_Model_62 kn_Model_write kx_Model_write (n := 1) rfl (by decide +kernel) ⟨Nat.le_of_ble_eq_true rfl, Nat.le_of_ble_eq_true rfl⟩ rfl rfl (Nat.le_of_ble_eq_true rfl) ⟨Nat.zero_le _, Nat.zero_le _⟩ (fun H locs hP hD hS => ?_)
        have hP : va_P D classes (M13 cI cZ o o1 o2 o3 o4 o5 o6 o7 o8 o9 o10 o11 o12 (m_M_write (40 : Int32) g10)) H := hP
        have hD : va_D A (M13 cI cZ o o1 o2 o3 o4 o5 o6 o7 o8 o9 o10 o11 o12 (m_M_write (40 : Int32) g10)) := hD
        obtain ⟨g13, hg13⟩ : ∃ z, (m_M_write (40 : Int32) g10) = z := ⟨_, rfl⟩
        rw [hg13] at hP hD
        refine lv_iload_n hx hb d_Model_initCircle_52 rfl (lv_at hl 1 rfl) ?_
        refine lv_if_eq (tgt := 70) hx hb d_Model_initCircle_53 (by decide) (fun h9 => absurd h9 c_2) (fun _ => ?_)
        refine lv_aload_n hx hb d_Model_initCircle_56 rfl (lv_at hl 0 rfl) ?_
        refine va_get (D := D) (ci := 2) (v := .ref o5) (C := R_Model) (T := F_Model) (N := 14) hx hb hk i_Model hown hK hP 0 rfl rfl 4 (by decide) (hk _ kl_Model_22) (fun _ h9 => h9) rfl d_Model_initCircle_57 ?_
        refine lv_aload_n hx hb d_Model_initCircle_60 rfl (lv_at hl 0 rfl) ?_
        refine va_get (D := D) (ci := 2) (v := .int (aWc g13)) (C := R_Model) (T := F_Model) (N := 14) hx hb hk i_Model hown hK hP 0 rfl rfl 11 (by decide) (hk _ kl_Model_41) (fun _ h9 => h9) rfl d_Model_initCircle_61 ?_
        refine lv_bipush (v := (40 : Int32)) hx hb d_Model_initCircle_64 (by decide) ?_
        refine va_iast hx hb hK hP hD hS 5 0 rfl rfl (okM_eq hg13 (okM_write (okM_eq hg10 (okM_begins (okM_eq hg9 (okM_begins ho)))))).1 d_Model_initCircle_66 (fun H locs hP hD hS => ?_)
        have hP : va_P D classes (M13 cI cZ o o1 o2 o3 o4 o5 o6 o7 o8 o9 o10 o11 o12 (uYy g13 (upd ((aYy g13)) (aWc g13).toNatClampNeg (40 : Int32)))) H := hP
        have hD : va_D A (M13 cI cZ o o1 o2 o3 o4 o5 o6 o7 o8 o9 o10 o11 o12 (uYy g13 (upd ((aYy g13)) (aWc g13).toNatClampNeg (40 : Int32)))) := hD
        refine lv_goto (tgt := 81) hx hb d_Model_initCircle_67 (by decide) ?_
        refine lv_aload_n hx hb d_Model_initCircle_81 rfl (lv_at hl 0 rfl) ?_
        refine lv_iload_n hx hb d_Model_initCircle_82 rfl (lv_at hl 1 rfl) ?_
        refine lv_if_eq (tgt := 91) hx hb d_Model_initCircle_83 (by decide) (fun h9 => absurd h9 c_2) (fun _ => ?_)
        refine lv_bipush (v := (11 : Int32)) hx hb d_Model_initCircle_86 (by decide) ?_
        refine lv_goto (tgt := 93) hx hb d_Model_initCircle_88 (by decide) ?_
        refine CMv.callV (wc := M13 cI cZ o o1 o2 o3 o4 o5 o6 o7 o8 o9 o10 o11 o12 (uYy g13 (upd ((aYy g13)) (aWc g13).toNatClampNeg (40 : Int32)))) (wr := []) (b := o) (av := [.int (11 : Int32)]) (rest := []) hx hb hml hown hk (c_M_ends l D cI cZ o o1 o2 o3 o4 o5 o6 o7 o8 o9 o10 o11 o12 (11 : Int32) (uYy g13 (upd ((aYy g13)) (aWc g13).toNatClampNeg (40 : Int32))) (by unfold vp_in; decide) (okM_mono (okM_uYy (okM_eq hg13 (okM_write (okM_eq hg10 (okM_begins (okM_eq hg9 (okM_begins ho))))))) (by decide)) _ rfl) hK hP hD hS hA hSt hl.1 (va_recv hK hP (ci := 2) (q0 := 0) rfl rfl) d_Model_initCircle_93 kc_Model_ends ki_Model kl_Model_66 kn_Model_ends kx_Model_ends (n := 1) rfl (by decide +kernel) ⟨Nat.le_of_ble_eq_true rfl, Nat.le_of_ble_eq_true rfl⟩ rfl rfl (Nat.le_of_ble_eq_true rfl) ⟨Nat.zero_le _, Nat.zero_le _⟩ (fun H locs hP hD hS => ?_)
        have hP : va_P D classes (M13 cI cZ o o1 o2 o3 o4 o5 o6 o7 o8 o9 o10 o11 o12 (m_M_ends (11 : Int32) (uYy g13 (upd ((aYy g13)) (aWc g13).toNatClampNeg (40 : Int32))))) H := hP
        have hD : va_D A (M13 cI cZ o o1 o2 o3 o4 o5 o6 o7 o8 o9 o10 o11 o12 (m_M_ends (11 : Int32) (uYy g13 (upd ((aYy g13)) (aWc g13).toNatClampNeg (40 : Int32))))) := hD
        obtain ⟨g14, hg14⟩ : ∃ z, (m_M_ends (11 : Int32) (uYy g13 (upd ((aYy g13)) (aWc g13).toNatClampNeg (40 : Int32)))) = z := ⟨_, rfl⟩
        rw [hg14] at hP hD
        refine lv_aload_n hx hb d_Model_initCircle_96 rfl (lv_at hl 0 rfl) ?_
        refine lv_iload_n hx hb d_Model_initCircle_97 rfl (lv_at hl 1 rfl) ?_
        refine lv_if_eq (tgt := 106) hx hb d_Model_initCircle_98 (by decide) (fun h9 => absurd h9 c_2) (fun _ => ?_)
        refine lv_bipush (v := (30 : Int32)) hx hb d_Model_initCircle_101 (by decide) ?_
        refine lv_goto (tgt := 108) hx hb d_Model_initCircle_103 (by decide) ?_
        refine CMv.callV (wc := M13 cI cZ o o1 o2 o3 o4 o5 o6 o7 o8 o9 o10 o11 o12 g14) (wr := []) (b := o) (av := [.int (30 : Int32)]) (rest := []) hx hb hml hown hk (c_M_write l D cI cZ o o1 o2 o3 o4 o5 o6 o7 o8 o9 o10 o11 o12 (30 : Int32) g14 (okM_mono (okM_eq hg14 (okM_ends (okM_uYy (okM_eq hg13 (okM_write (okM_eq hg10 (okM_begins (okM_eq hg9 (okM_begins ho))))))))) (by decide)) _ rfl) hK hP hD hS hA hSt hl.1 (va_recv hK hP (ci := 2) (q0 := 0) rfl rfl) d_Model_initCircle_108 kc_Model_write ki_Model kl_Model_62 kn_Model_write kx_Model_write (n := 1) rfl (by decide +kernel) ⟨Nat.le_of_ble_eq_true rfl, Nat.le_of_ble_eq_true rfl⟩ rfl rfl (Nat.le_of_ble_eq_true rfl) ⟨Nat.zero_le _, Nat.zero_le _⟩ (fun H locs hP hD hS => ?_)
        have hP : va_P D classes (M13 cI cZ o o1 o2 o3 o4 o5 o6 o7 o8 o9 o10 o11 o12 (m_M_write (30 : Int32) g14)) H := hP
        have hD : va_D A (M13 cI cZ o o1 o2 o3 o4 o5 o6 o7 o8 o9 o10 o11 o12 (m_M_write (30 : Int32) g14)) := hD
        obtain ⟨g15, hg15⟩ : ∃ z, (m_M_write (30 : Int32) g14) = z := ⟨_, rfl⟩
        rw [hg15] at hP hD
        refine lv_iload_n hx hb d_Model_initCircle_111 rfl (lv_at hl 1 rfl) ?_
        refine lv_if_eq (tgt := 139) hx hb d_Model_initCircle_112 (by decide) (fun h9 => absurd h9 c_2) (fun _ => ?_)
        refine lv_aload_n hx hb d_Model_initCircle_115 rfl (lv_at hl 0 rfl) ?_
        refine va_get (D := D) (ci := 2) (v := .ref o4) (C := R_Model) (T := F_Model) (N := 14) hx hb hk i_Model hown hK hP 0 rfl rfl 3 (by decide) (hk _ kl_Model_19) (fun _ h9 => h9) rfl d_Model_initCircle_116 ?_
        refine lv_aload_n hx hb d_Model_initCircle_119 rfl (lv_at hl 0 rfl) ?_
        refine va_get (D := D) (ci := 2) (v := .int (aWc g15)) (C := R_Model) (T := F_Model) (N := 14) hx hb hk i_Model hown hK hP 0 rfl rfl 11 (by decide) (hk _ kl_Model_41) (fun _ h9 => h9) rfl d_Model_initCircle_120 ?_
        refine lv_aload_n hx hb d_Model_initCircle_123 rfl (lv_at hl 0 rfl) ?_
        refine va_get (D := D) (ci := 2) (v := .ref o5) (C := R_Model) (T := F_Model) (N := 14) hx hb hk i_Model hown hK hP 0 rfl rfl 4 (by decide) (hk _ kl_Model_22) (fun _ h9 => h9) rfl d_Model_initCircle_124 ?_
        refine lv_aload_n hx hb d_Model_initCircle_127 rfl (lv_at hl 0 rfl) ?_
        refine va_get (D := D) (ci := 2) (v := .int (aWc g15)) (C := R_Model) (T := F_Model) (N := 14) hx hb hk i_Model hown hK hP 0 rfl rfl 11 (by decide) (hk _ kl_Model_41) (fun _ h9 => h9) rfl d_Model_initCircle_128 ?_
        refine va_iald hx hb hK hP 5 0 rfl rfl (okM_eq hg15 (okM_write (okM_eq hg14 (okM_ends (okM_uYy (okM_eq hg13 (okM_write (okM_eq hg10 (okM_begins (okM_eq hg9 (okM_begins ho))))))))))).1 d_Model_initCircle_131 ?_
        refine lv_bipush (v := (30 : Int32)) hx hb d_Model_initCircle_132 (by decide) ?_
        refine lv_iadd hx hb d_Model_initCircle_134 ?_
        refine va_iast hx hb hK hP hD hS 4 0 rfl rfl (okM_eq hg15 (okM_write (okM_eq hg14 (okM_ends (okM_uYy (okM_eq hg13 (okM_write (okM_eq hg10 (okM_begins (okM_eq hg9 (okM_begins ho))))))))))).1 d_Model_initCircle_135 (fun H locs hP hD hS => ?_)
        have hP : va_P D classes (M13 cI cZ o o1 o2 o3 o4 o5 o6 o7 o8 o9 o10 o11 o12 (uXx g15 (upd ((aXx g15)) (aWc g15).toNatClampNeg (((aYy g15) (aWc g15).toNatClampNeg) + (30 : Int32))))) H := hP
        have hD : va_D A (M13 cI cZ o o1 o2 o3 o4 o5 o6 o7 o8 o9 o10 o11 o12 (uXx g15 (upd ((aXx g15)) (aWc g15).toNatClampNeg (((aYy g15) (aWc g15).toNatClampNeg) + (30 : Int32))))) := hD
        refine lv_goto (tgt := 160) hx hb d_Model_initCircle_136 (by decide) ?_
        refine lv_aload_n hx hb d_Model_initCircle_160 rfl (lv_at hl 0 rfl) ?_
        refine lv_iload_n hx hb d_Model_initCircle_161 rfl (lv_at hl 1 rfl) ?_
        refine lv_if_eq (tgt := 170) hx hb d_Model_initCircle_162 (by decide) (fun h9 => absurd h9 c_2) (fun _ => ?_)
        refine lv_bipush (v := (10 : Int32)) hx hb d_Model_initCircle_165 (by decide) ?_
        refine lv_goto (tgt := 172) hx hb d_Model_initCircle_167 (by decide) ?_
        refine CMv.callV (wc := M13 cI cZ o o1 o2 o3 o4 o5 o6 o7 o8 o9 o10 o11 o12 (uXx g15 (upd ((aXx g15)) (aWc g15).toNatClampNeg (((aYy g15) (aWc g15).toNatClampNeg) + (30 : Int32))))) (wr := []) (b := o) (av := [.int (10 : Int32)]) (rest := []) hx hb hml hown hk (c_M_ends l D cI cZ o o1 o2 o3 o4 o5 o6 o7 o8 o9 o10 o11 o12 (10 : Int32) (uXx g15 (upd ((aXx g15)) (aWc g15).toNatClampNeg (((aYy g15) (aWc g15).toNatClampNeg) + (30 : Int32)))) (by unfold vp_in; decide) (okM_mono (okM_uXx (okM_eq hg15 (okM_write (okM_eq hg14 (okM_ends (okM_uYy (okM_eq hg13 (okM_write (okM_eq hg10 (okM_begins (okM_eq hg9 (okM_begins ho)))))))))))) (by decide)) _ rfl) hK hP hD hS hA hSt hl.1 (va_recv hK hP (ci := 2) (q0 := 0) rfl rfl) d_Model_initCircle_172 kc_Model_ends ki_Model kl_Model_66 kn_Model_ends kx_Model_ends (n := 1) rfl (by decide +kernel) ⟨Nat.le_of_ble_eq_true rfl, Nat.le_of_ble_eq_true rfl⟩ rfl rfl (Nat.le_of_ble_eq_true rfl) ⟨Nat.zero_le _, Nat.zero_le _⟩ (fun H locs hP hD hS => ?_)
        have hP : va_P D classes (M13 cI cZ o o1 o2 o3 o4 o5 o6 o7 o8 o9 o10 o11 o12 (m_M_ends (10 : Int32) (uXx g15 (upd ((aXx g15)) (aWc g15).toNatClampNeg (((aYy g15) (aWc g15).toNatClampNeg) + (30 : Int32)))))) H := hP
        have hD : va_D A (M13 cI cZ o o1 o2 o3 o4 o5 o6 o7 o8 o9 o10 o11 o12 (m_M_ends (10 : Int32) (uXx g15 (upd ((aXx g15)) (aWc g15).toNatClampNeg (((aYy g15) (aWc g15).toNatClampNeg) + (30 : Int32)))))) := hD
        obtain ⟨g16, hg16⟩ : ∃ z, (m_M_ends (10 : Int32) (uXx g15 (upd ((aXx g15)) (aWc g15).toNatClampNeg (((aYy g15) (aWc g15).toNatClampNeg) + (30 : Int32))))) = z := ⟨_, rfl⟩
        rw [hg16] at hP hD
        subst hg16
        subst hg15
        subst hg14
        subst hg13
        subst hg10
        subst hg9
        obtain rfl : (m_M_ends (10 : Int32) (uXx (m_M_write (30 : Int32) (m_M_ends (11 : Int32) (uYy (m_M_write (40 : Int32) ((m_M_begins (11 : Int32) ((m_M_begins (10 : Int32) md).1)).1)) (upd ((aYy (m_M_write (40 : Int32) ((m_M_begins (11 : Int32) ((m_M_begins (10 : Int32) md).1)).1)))) (aWc (m_M_write (40 : Int32) ((m_M_begins (11 : Int32) ((m_M_begins (10 : Int32) md).1)).1))).toNatClampNeg (40 : Int32))))) (upd ((aXx (m_M_write (30 : Int32) (m_M_ends (11 : Int32) (uYy (m_M_write (40 : Int32) ((m_M_begins (11 : Int32) ((m_M_begins (10 : Int32) md).1)).1)) (upd ((aYy (m_M_write (40 : Int32) ((m_M_begins (11 : Int32) ((m_M_begins (10 : Int32) md).1)).1)))) (aWc (m_M_write (40 : Int32) ((m_M_begins (11 : Int32) ((m_M_begins (10 : Int32) md).1)).1))).toNatClampNeg (40 : Int32))))))) (aWc (m_M_write (30 : Int32) (m_M_ends (11 : Int32) (uYy (m_M_write (40 : Int32) ((m_M_begins (11 : Int32) ((m_M_begins (10 : Int32) md).1)).1)) (upd ((aYy (m_M_write (40 : Int32) ((m_M_begins (11 : Int32) ((m_M_begins (10 : Int32) md).1)).1)))) (aWc (m_M_write (40 : Int32) ((m_M_begins (11 : Int32) ((m_M_begins (10 : Int32) md).1)).1))).toNatClampNeg (40 : Int32)))))).toNatClampNeg (((aYy (m_M_write (30 : Int32) (m_M_ends (11 : Int32) (uYy (m_M_write (40 : Int32) ((m_M_begins (11 : Int32) ((m_M_begins (10 : Int32) md).1)).1)) (upd ((aYy (m_M_write (40 : Int32) ((m_M_begins (11 : Int32) ((m_M_begins (10 : Int32) md).1)).1)))) (aWc (m_M_write (40 : Int32) ((m_M_begins (11 : Int32) ((m_M_begins (10 : Int32) md).1)).1))).toNatClampNeg (40 : Int32)))))) (aWc (m_M_write (30 : Int32) (m_M_ends (11 : Int32) (uYy (m_M_write (40 : Int32) ((m_M_begins (11 : Int32) ((m_M_begins (10 : Int32) md).1)).1)) (upd ((aYy (m_M_write (40 : Int32) ((m_M_begins (11 : Int32) ((m_M_begins (10 : Int32) md).1)).1)))) (aWc (m_M_write (40 : Int32) ((m_M_begins (11 : Int32) ((m_M_begins (10 : Int32) md).1)).1))).toNatClampNeg (40 : Int32)))))).toNatClampNeg) + (30 : Int32))))) = res := (Eq.symm ((if_neg c_2).trans ((if_neg c_15).trans ((if_neg c_34).trans rfl)))).trans hres
        exact CMv_ret hx hb hr hlocks hP hK hD hS d_Model_initCircle_175
    · subst hg9
      obtain rfl : ((m_M_begins (10 : Int32) md).1) = res := (Eq.symm ((if_neg c_2).trans ((if_pos c_15).trans rfl))).trans hres
      exact CMv_ret hx hb hr hlocks hP hK hD hS d_Model_initCircle_18

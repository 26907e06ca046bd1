set_option maxHeartbeats 4000000 in
set_option maxRecDepth 100000 in
theorem c_M_initBase (l : Launch) (D : va_G) (cI cZ : ClassId) (o o1 o2 o3 o4 o5 o6 o7 o8 o9 o10 o11 o12 : Nat)   (md : MM) (ho : okM 2 md) (res : MM) (hres : m_M_initBase md = res) : CMv l y_Model_initBase b_Model_initBase 1 ({ frames := 1, cells := 0, slots := 0, locals := 21 }) D (tyZ cI cZ) [.ref o] (M13 cI cZ o o1 o2 o3 o4 o5 o6 o7 o8 o9 o10 o11 o12 md) (M13 cI cZ o o1 o2 o3 o4 o5 o6 o7 o8 o9 o10 o11 o12 res) := by
  refine CMv_mk (by decide) (Nat.le_of_ble_eq_true rfl) ?_
  intro p e s m args below meth c A ls hx hb hr hml hown hk hlocks hA hSt hK hP hD hS hl
  have hown : s.vm.findClass R_Model = some m.cls := hown
  have hl : lv_has ls 1 [(0, .ref o)] := hl
  refine lv_aload_n hx hb d_Model_initBase_0 rfl (lv_at hl 0 rfl) ?_
  refine lv_iconst (v := (0 : Int32)) hx hb d_Model_initBase_1 (by decide) ?_
  refine CM.callV (wc := M13 cI cZ o o1 o2 o3 o4 o5 o6 o7 o8 o9 o10 o11 o12 md) (wr := []) (b := o) (av := [.int (0 : Int32)]) (rest := []) hx hb hml hown hk (c_M_begins l D cI cZ o o1 o2 o3 o4 o5 o6 o7 o8 o9 o10 o11 o12 (0 : Int32) md (by unfold vp_in; decide) (okM_mono ho (by decide)) _ _ (pe2 _)) hK hP hD hS hA hSt hl.1 (va_recv hK hP (ci := 2) (q0 := 0) rfl rfl) d_Model_initBase_2 kc_Model_begins ki_Model kl_Model_58 kn_Model_begins kx_Model_begins (n := 1) rfl (by decide +kernel) ⟨Nat.le_of_ble_eq_true rfl, Nat.le_of_ble_eq_true rfl⟩ rfl rfl (Nat.le_of_ble_eq_true rfl) ⟨Nat.zero_le _, Nat.zero_le _⟩ (fun H locs hP hD hS => ?_)
  have hP : va_P D classes (M13 cI cZ o o1 o2 o3 o4 o5 o6 o7 o8 o9 o10 o11 o12 ((m_M_begins (0 : Int32) md).1)) H := hP
  have hD : va_D A (M13 cI cZ o o1 o2 o3 o4 o5 o6 o7 o8 o9 o10 o11 o12 ((m_M_begins (0 : Int32) md).1)) := hD
  obtain ⟨g1, hg1⟩ : ∃ z, (m_M_begins (0 : Int32) md).1 = z := ⟨_, rfl⟩
  rw [hg1] at hP hD
  refine lv_if_ne (tgt := 9) hx hb d_Model_initBase_5 (by decide) (fun c_5 => ?_) (fun c_5 => ?_)
  · refine lv_aload_n hx hb d_Model_initBase_9 rfl (lv_at hl 0 rfl) ?_
    refine lv_bipush (v := (10 : Int32)) hx hb d_Model_initBase_10 (by decide) ?_
    refine CMv.callV (wc := M13 cI cZ o o1 o2 o3 o4 o5 o6 o7 o8 o9 o10 o11 o12 g1) (wr := []) (b := o) (av := [.int (10 : Int32)]) (rest := []) hx hb hml hown hk (c_M_write l D cI cZ o o1 o2 o3 o4 o5 o6 o7 o8 o9 o10 o11 o12 (10 : Int32) g1 (okM_mono (okM_eq hg1 (okM_begins ho)) (by decide)) _ rfl) hK hP hD hS hA hSt hl.1 (va_recv hK hP (ci := 2) (q0 := 0) rfl rfl) d_Model_initBase_12 kc_Model_write ki_Model kl_Model_62 kn_Model_write kx_Model_write (n := 1) rfl (by decide +kernel) ⟨Nat.le_of_ble_eq_true rfl, Nat.le_of_ble_eq_true rfl⟩ rfl rfl (Nat.le_of_ble_eq_true rfl) ⟨Nat.zero_le _, Nat.zero_le _⟩ (fun H locs hP hD hS => ?_)
    have hP : va_P D classes (M13 cI cZ o o1 o2 o3 o4 o5 o6 o7 o8 o9 o10 o11 o12 (m_M_write (10 : Int32) g1)) H := hP
    have hD : va_D A (M13 cI cZ o o1 o2 o3 o4 o5 o6 o7 o8 o9 o10 o11 o12 (m_M_write (10 : Int32) g1)) := hD
    obtain ⟨g2, hg2⟩ : ∃ z, (m_M_write (10 : Int32) g1) = z := ⟨_, rfl⟩
    rw [hg2] at hP hD
    refine lv_aload_n hx hb d_Model_initBase_15 rfl (lv_at hl 0 rfl) ?_
    refine va_get (D := D) (ci := 2) (v := .ref o2) (C := R_Model) (T := F_Model) (N := 14) hx hb hk i_Model hown hK hP 0 rfl rfl 1 (by decide) (hk _ kl_Model_13) (fun _ h9 => h9) rfl d_Model_initBase_16 ?_
    refine lv_aload_n hx hb d_Model_initBase_19 rfl (lv_at hl 0 rfl) ?_
    refine va_get (D := D) (ci := 2) (v := .int (aWc g2)) (C := R_Model) (T := F_Model) (N := 14) hx hb hk i_Model hown hK hP 0 rfl rfl 11 (by decide) (hk _ kl_Model_41) (fun _ h9 => h9) rfl d_Model_initBase_20 ?_
    refine lv_bipush (v := (10 : Int32)) hx hb d_Model_initBase_23 (by decide) ?_
    refine va_iast hx hb hK hP hD hS 2 0 rfl rfl (okM_eq hg2 (okM_write (okM_eq hg1 (okM_begins ho)))).1 d_Model_initBase_25 (fun H locs hP hD hS => ?_)
    have hP : va_P D classes (M13 cI cZ o o1 o2 o3 o4 o5 o6 o7 o8 o9 o10 o11 o12 (uBa g2 (upd ((aBa g2)) (aWc g2).toNatClampNeg (10 : Int32)))) H := hP
    have hD : va_D A (M13 cI cZ o o1 o2 o3 o4 o5 o6 o7 o8 o9 o10 o11 o12 (uBa g2 (upd ((aBa g2)) (aWc g2).toNatClampNeg (10 : Int32)))) := hD
    refine lv_aload_n hx hb d_Model_initBase_26 rfl (lv_at hl 0 rfl) ?_
    refine lv_iconst (v := (1 : Int32)) hx hb d_Model_initBase_27 (by decide) ?_
    refine CMv.callV (wc := M13 cI cZ o o1 o2 o3 o4 o5 o6 o7 o8 o9 o10 o11 o12 (uBa g2 (upd ((aBa g2)) (aWc g2).toNatClampNeg (10 : Int32)))) (wr := []) (b := o) (av := [.int (1 : Int32)]) (rest := []) hx hb hml hown hk (c_M_write l D cI cZ o o1 o2 o3 o4 o5 o6 o7 o8 o9 o10 o11 o12 (1 : Int32) (uBa g2 (upd ((aBa g2)) (aWc g2).toNatClampNeg (10 : Int32))) (okM_mono (okM_uBa (okM_eq hg2 (okM_write (okM_eq hg1 (okM_begins ho))))) (by decide)) _ rfl) hK hP hD hS hA hSt hl.1 (va_recv hK hP (ci := 2) (q0 := 0) rfl rfl) d_Model_initBase_28 kc_Model_write ki_Model kl_Model_62 kn_Model_write kx_Model_write (n := 1) rfl (by decide +kernel) ⟨Nat.le_of_ble_eq_true rfl, Nat.le_of_ble_eq_true rfl⟩ rfl rfl (Nat.le_of_ble_eq_true rfl) ⟨Nat.zero_le _, Nat.zero_le _⟩ (fun H locs hP hD hS => ?_)
    have hP : va_P D classes (M13 cI cZ o o1 o2 o3 o4 o5 o6 o7 o8 o9 o10 o11 o12 (m_M_write (1 : Int32) (uBa g2 (upd ((aBa g2)) (aWc g2).toNatClampNeg (10 : Int32))))) H := hP
    have hD : va_D A (M13 cI cZ o o1 o2 o3 o4 o5 o6 o7 o8 o9 o10 o11 o12 (m_M_write (1 : Int32) (uBa g2 (upd ((aBa g2)) (aWc g2).toNatClampNeg (10 : Int32))))) := hD
    obtain ⟨g3, hg3⟩ : ∃ z, (m_M_write (1 : Int32) (uBa g2 (upd ((aBa g2)) (aWc g2).toNatClampNeg (10 : Int32)))) = z := ⟨_, rfl⟩
    rw [hg3] at hP hD
    refine lv_aload_n hx hb d_Model_initBase_31 rfl (lv_at hl 0 rfl) ?_
    refine lv_iconst (v := (0 : Int32)) hx hb d_Model_initBase_32 (by decide) ?_
    refine CMv.callV (wc := M13 cI cZ o o1 o2 o3 o4 o5 o6 o7 o8 o9 o10 o11 o12 g3) (wr := []) (b := o) (av := [.int (0 : Int32)]) (rest := []) hx hb hml hown hk (c_M_ends l D cI cZ o o1 o2 o3 o4 o5 o6 o7 o8 o9 o10 o11 o12 (0 : Int32) g3 (by unfold vp_in; decide) (okM_mono (okM_eq hg3 (okM_write (okM_uBa (okM_eq hg2 (okM_write (okM_eq hg1 (okM_begins ho))))))) (by decide)) _ rfl) hK hP hD hS hA hSt hl.1 (va_recv hK hP (ci := 2) (q0 := 0) rfl rfl) d_Model_initBase_33 kc_Model_ends ki_Model kl_Model_66 kn_Model_ends kx_Model_ends (n := 1) rfl (by decide +kernel) ⟨Nat.le_of_ble_eq_true rfl, Nat.le_of_ble_eq_true rfl⟩ rfl rfl (Nat.le_of_ble_eq_true rfl) ⟨Nat.zero_le _, Nat.zero_le _⟩ (fun H locs hP hD hS => ?_)
    have hP : va_P D classes (M13 cI cZ o o1 o2 o3 o4 o5 o6 o7 o8 o9 o10 o11 o12 (m_M_ends (0 : Int32) g3)) H := hP
    have hD : va_D A (M13 cI cZ o o1 o2 o3 o4 o5 o6 o7 o8 o9 o10 o11 o12 (m_M_ends (0 : Int32) g3)) := hD
    obtain ⟨g4, hg4⟩ : ∃ z, (m_M_ends (0 : Int32) g3) = z := ⟨_, rfl⟩
    rw [hg4] at hP hD
    subst hg4
    subst hg3
    subst hg2
    subst hg1
    obtain rfl : (m_M_ends (0 : Int32) (m_M_write (1 : Int32) (uBa (m_M_write (10 : Int32) ((m_M_begins (0 : Int32) md).1)) (upd ((aBa (m_M_write (10 : Int32) ((m_M_begins (0 : Int32) md).1)))) (aWc (m_M_write (10 : Int32) ((m_M_begins (0 : Int32) md).1))).toNatClampNeg (10 : Int32))))) = res := (Eq.symm ((if_neg c_5).trans rfl)).trans hres
    exact CMv_ret hx hb hr hlocks hP hK hD hS d_Model_initBase_36
  · subst hg1
    obtain rfl : ((m_M_begins (0 : Int32) md).1) = res := (Eq.symm ((if_pos c_5).trans rfl)).trans hres
    exact CMv_ret hx hb hr hlocks hP hK hD hS d_Model_initBase_8
set_option maxHeartbeats 4000000 in
set_option maxRecDepth 100000 in
theorem c_M_initAlone (l : Launch) (D : va_G) (cI cZ : ClassId) (o o1 o2 o3 o4 o5 o6 o7 o8 o9 o10 o11 o12 : Nat)   (k : Int32) (n : Int32) (md : MM) (hk17 : vp_in k 17) (ho : okM 1 md) (res : MM) (hres : m_M_initAlone k n md = res) : CMv l y_Model_initAlone b_Model_initAlone 3 ({ frames := 1, cells := 0, slots := 0, locals := 21 }) D (tyZ cI cZ) [.ref o, .int k, .int n] (M13 cI cZ o o1 o2 o3 o4 o5 o6 o7 o8 o9 o10 o11 o12 md) (M13 cI cZ o o1 o2 o3 o4 o5 o6 o7 o8 o9 o10 o11 o12 res) := by
  refine CMv_mk (by decide) (Nat.le_of_ble_eq_true rfl) ?_
  intro p e s m args below meth c A ls hx hb hr hml hown hk hlocks hA hSt hK hP hD hS hl
  have hown : s.vm.findClass R_Model = some m.cls := hown
  have hl : lv_has ls 3 [(0, .ref o), (1, .int k), (2, .int n)] := hl
  refine lv_aload_n hx hb d_Model_initAlone_0 rfl (lv_at hl 0 rfl) ?_
  refine lv_iload_n hx hb d_Model_initAlone_1 rfl (lv_at hl 1 rfl) ?_
  refine CM.callV (wc := M13 cI cZ o o1 o2 o3 o4 o5 o6 o7 o8 o9 o10 o11 o12 md) (wr := []) (b := o) (av := [.int k]) (rest := []) hx hb hml hown hk (c_M_begins l D cI cZ o o1 o2 o3 o4 o5 o6 o7 o8 o9 o10 o11 o12 k md hk17 (okM_mono ho (by decide)) _ _ (pe2 _)) hK hP hD hS hA hSt hl.1 (va_recv hK hP (ci := 2) (q0 := 0) rfl rfl) d_Model_initAlone_2 kc_Model_begins ki_Model kl_Model_58 kn_Model_begins kx_Model_begins (n := 1) rfl (by decide +kernel) ⟨Nat.le_of_ble_eq_true rfl, Nat.le_of_ble_eq_true rfl⟩ rfl rfl (Nat.le_of_ble_eq_true rfl) ⟨Nat.zero_le _, Nat.zero_le _⟩ (fun H locs hP hD hS => ?_)
  have hP : va_P D classes (M13 cI cZ o o1 o2 o3 o4 o5 o6 o7 o8 o9 o10 o11 o12 ((m_M_begins k md).1)) H := hP
  have hD : va_D A (M13 cI cZ o o1 o2 o3 o4 o5 o6 o7 o8 o9 o10 o11 o12 ((m_M_begins k md).1)) := hD
  obtain ⟨g1, hg1⟩ : ∃ z, (m_M_begins k md).1 = z := ⟨_, rfl⟩
  rw [hg1] at hP hD
  refine lv_if_ne (tgt := 9) hx hb d_Model_initAlone_5 (by decide) (fun c_5 => ?_) (fun c_5 => ?_)
  · refine lv_aload_n hx hb d_Model_initAlone_9 rfl (lv_at hl 0 rfl) ?_
    refine lv_iload_n hx hb d_Model_initAlone_10 rfl (lv_at hl 2 rfl) ?_
    refine CMv.callV (wc := M13 cI cZ o o1 o2 o3 o4 o5 o6 o7 o8 o9 o10 o11 o12 g1) (wr := []) (b := o) (av := [.int n]) (rest := []) hx hb hml hown hk (c_M_write l D cI cZ o o1 o2 o3 o4 o5 o6 o7 o8 o9 o10 o11 o12 n g1 (okM_mono (okM_eq hg1 (okM_begins ho)) (by decide)) _ rfl) hK hP hD hS hA hSt hl.1 (va_recv hK hP (ci := 2) (q0 := 0) rfl rfl) d_Model_initAlone_11 kc_Model_write ki_Model kl_Model_62 kn_Model_write kx_Model_write (n := 1) rfl (by decide +kernel) ⟨Nat.le_of_ble_eq_true rfl, Nat.le_of_ble_eq_true rfl⟩ rfl rfl (Nat.le_of_ble_eq_true rfl) ⟨Nat.zero_le _, Nat.zero_le _⟩ (fun H locs hP hD hS => ?_)
    have hP : va_P D classes (M13 cI cZ o o1 o2 o3 o4 o5 o6 o7 o8 o9 o10 o11 o12 (m_M_write n g1)) H := hP
    have hD : va_D A (M13 cI cZ o o1 o2 o3 o4 o5 o6 o7 o8 o9 o10 o11 o12 (m_M_write n g1)) := hD
    obtain ⟨g2, hg2⟩ : ∃ z, (m_M_write n g1) = z := ⟨_, rfl⟩
    rw [hg2] at hP hD
    refine lv_aload_n hx hb d_Model_initAlone_14 rfl (lv_at hl 0 rfl) ?_
    refine lv_iload_n hx hb d_Model_initAlone_15 rfl (lv_at hl 1 rfl) ?_
    refine CMv.callV (wc := M13 cI cZ o o1 o2 o3 o4 o5 o6 o7 o8 o9 o10 o11 o12 g2) (wr := []) (b := o) (av := [.int k]) (rest := []) hx hb hml hown hk (c_M_ends l D cI cZ o o1 o2 o3 o4 o5 o6 o7 o8 o9 o10 o11 o12 k g2 hk17 (okM_mono (okM_eq hg2 (okM_write (okM_eq hg1 (okM_begins ho)))) (by decide)) _ rfl) hK hP hD hS hA hSt hl.1 (va_recv hK hP (ci := 2) (q0 := 0) rfl rfl) d_Model_initAlone_16 kc_Model_ends ki_Model kl_Model_66 kn_Model_ends kx_Model_ends (n := 1) rfl (by decide +kernel) ⟨Nat.le_of_ble_eq_true rfl, Nat.le_of_ble_eq_true rfl⟩ rfl rfl (Nat.le_of_ble_eq_true rfl) ⟨Nat.zero_le _, Nat.zero_le _⟩ (fun H locs hP hD hS => ?_)
    have hP : va_P D classes (M13 cI cZ o o1 o2 o3 o4 o5 o6 o7 o8 o9 o10 o11 o12 (m_M_ends k g2)) H := hP
    have hD : va_D A (M13 cI cZ o o1 o2 o3 o4 o5 o6 o7 o8 o9 o10 o11 o12 (m_M_ends k g2)) := hD
    obtain ⟨g3, hg3⟩ : ∃ z, (m_M_ends k g2) = z := ⟨_, rfl⟩
    rw [hg3] at hP hD
    subst hg3
    subst hg2
    subst hg1
    obtain rfl : (m_M_ends k (m_M_write n ((m_M_begins k md).1))) = res := (Eq.symm ((if_neg c_5).trans rfl)).trans hres
    exact CMv_ret hx hb hr hlocks hP hK hD hS d_Model_initAlone_19
  · subst hg1
    obtain rfl : ((m_M_begins k md).1) = res := (Eq.symm ((if_pos c_5).trans rfl)).trans hres
    exact CMv_ret hx hb hr hlocks hP hK hD hS d_Model_initAlone_8
set_option maxHeartbeats 4000000 in
set_option maxRecDepth 100000 in
theorem c_M_initMiddle (l : Launch) (D : va_G) (cI cZ : ClassId) (o o1 o2 o3 o4 o5 o6 o7 o8 o9 o10 o11 o12 : Nat)   (md : MM) (ho : okM 4 md) (res : MM) (hres : m_M_initMiddle md = res) : CMv l y_Model_initMiddle b_Model_initMiddle 1 ({ frames := 2, cells := 0, slots := 0, locals := 43 }) D (tyZ cI cZ) [.ref o] (M13 cI cZ o o1 o2 o3 o4 o5 o6 o7 o8 o9 o10 o11 o12 md) (M13 cI cZ o o1 o2 o3 o4 o5 o6 o7 o8 o9 o10 o11 o12 res) := by
  refine CMv_mk (by decide) (Nat.le_of_ble_eq_true rfl) ?_
  intro p e s m args below meth c A ls hx hb hr hml hown hk hlocks hA hSt hK hP hD hS hl
  have hown : s.vm.findClass R_Model = some m.cls := hown
  have hl : lv_has ls 1 [(0, .ref o)] := hl
  refine lv_aload_n hx hb d_Model_initMiddle_0 rfl (lv_at hl 0 rfl) ?_
  refine lv_iconst (v := (1 : Int32)) hx hb d_Model_initMiddle_1 (by decide) ?_
  refine CM.callV (wc := M13 cI cZ o o1 o2 o3 o4 o5 o6 o7 o8 o9 o10 o11 o12 md) (wr := []) (b := o) (av := [.int (1 : Int32)]) (rest := []) hx hb hml hown hk (c_M_begins l D cI cZ o o1 o2 o3 o4 o5 o6 o7 o8 o9 o10 o11 o12 (1 : Int32) md (by unfold vp_in; decide) (okM_mono ho (by decide)) _ _ (pe2 _)) hK hP hD hS hA hSt hl.1 (va_recv hK hP (ci := 2) (q0 := 0) rfl rfl) d_Model_initMiddle_2 kc_Model_begins ki_Model kl_Model_58 kn_Model_begins kx_Model_begins (n := 1) rfl (by decide +kernel) ⟨Nat.le_of_ble_eq_true rfl, Nat.le_of_ble_eq_true rfl⟩ rfl rfl (Nat.le_of_ble_eq_true rfl) ⟨Nat.zero_le _, Nat.zero_le _⟩ (fun H locs hP hD hS => ?_)
  have hP : va_P D classes (M13 cI cZ o o1 o2 o3 o4 o5 o6 o7 o8 o9 o10 o11 o12 ((m_M_begins (1 : Int32) md).1)) H := hP
  have hD : va_D A (M13 cI cZ o o1 o2 o3 o4 o5 o6 o7 o8 o9 o10 o11 o12 ((m_M_begins (1 : Int32) md).1)) := hD
  obtain ⟨g1, hg1⟩ : ∃ z, (m_M_begins (1 : Int32) md).1 = z := ⟨_, rfl⟩
  rw [hg1] at hP hD
  refine lv_if_ne (tgt := 9) hx hb d_Model_initMiddle_5 (by decide) (fun c_5 => ?_) (fun c_5 => ?_)
  · refine lv_aload_n hx hb d_Model_initMiddle_9 rfl (lv_at hl 0 rfl) ?_
    refine CMv.callV (wc := M13 cI cZ o o1 o2 o3 o4 o5 o6 o7 o8 o9 o10 o11 o12 g1) (wr := []) (b := o) (av := []) (rest := []) hx hb hml hown hk (c_M_initBase l D cI cZ o o1 o2 o3 o4 o5 o6 o7 o8 o9 o10 o11 o12 g1 (okM_mono (okM_eq hg1 (okM_begins ho)) (by decide)) _ rfl) hK hP hD hS hA hSt hl.1 (va_recv hK hP (ci := 2) (q0 := 0) rfl rfl) d_Model_initMiddle_10 kc_Model_initBase ki_Model kl_Model_69 kn_Model_initBase kx_Model_initBase (n := 0) rfl (by decide +kernel) ⟨Nat.le_of_ble_eq_true rfl, Nat.le_of_ble_eq_true rfl⟩ rfl rfl (Nat.le_of_ble_eq_true rfl) ⟨Nat.zero_le _, Nat.zero_le _⟩ (fun H locs hP hD hS => ?_)
    have hP : va_P D classes (M13 cI cZ o o1 o2 o3 o4 o5 o6 o7 o8 o9 o10 o11 o12 (m_M_initBase g1)) H := hP
    have hD : va_D A (M13 cI cZ o o1 o2 o3 o4 o5 o6 o7 o8 o9 o10 o11 o12 (m_M_initBase g1)) := hD
    obtain ⟨g2, hg2⟩ : ∃ z, (m_M_initBase g1) = z := ⟨_, rfl⟩
    rw [hg2] at hP hD
    refine lv_aload_n hx hb d_Model_initMiddle_13 rfl (lv_at hl 0 rfl) ?_
    refine lv_iconst (v := (5 : Int32)) hx hb d_Model_initMiddle_14 (by decide) ?_
    refine lv_iconst (v := (5 : Int32)) hx hb d_Model_initMiddle_15 (by decide) ?_
    refine CMv.callV (wc := M13 cI cZ o o1 o2 o3 o4 o5 o6 o7 o8 o9 o10 o11 o12 g2) (wr := []) (b := o) (av := [.int (5 : Int32), .int (5 : Int32)]) (rest := []) hx hb hml hown hk (c_M_initAlone l D cI cZ o o1 o2 o3 o4 o5 o6 o7 o8 o9 o10 o11 o12 (5 : Int32) (5 : Int32) g2 (by unfold vp_in; decide) (okM_mono (okM_eq hg2 (okM_initBase (okM_eq hg1 (okM_begins ho)))) (by decide)) _ rfl) hK hP hD hS hA hSt hl.1 (va_recv hK hP (ci := 2) (q0 := 0) rfl rfl) d_Model_initMiddle_16 kc_Model_initAlone ki_Model kl_Model_72 kn_Model_initAlone kx_Model_initAlone (n := 2) rfl (by decide +kernel) ⟨Nat.le_of_ble_eq_true rfl, Nat.le_of_ble_eq_true rfl⟩ rfl rfl (Nat.le_of_ble_eq_true rfl) ⟨Nat.zero_le _, Nat.zero_le _⟩ (fun H locs hP hD hS => ?_)
    have hP : va_P D classes (M13 cI cZ o o1 o2 o3 o4 o5 o6 o7 o8 o9 o10 o11 o12 (m_M_initAlone (5 : Int32) (5 : Int32) g2)) H := hP
    have hD : va_D A (M13 cI cZ o o1 o2 o3 o4 o5 o6 o7 o8 o9 o10 o11 o12 (m_M_initAlone (5 : Int32) (5 : Int32) g2)) := hD
    obtain ⟨g3, hg3⟩ : ∃ z, (m_M_initAlone (5 : Int32) (5 : Int32) g2) = z := ⟨_, rfl⟩
    rw [hg3] at hP hD
    refine lv_aload_n hx hb d_Model_initMiddle_19 rfl (lv_at hl 0 rfl) ?_
    refine lv_iconst (v := (2 : Int32)) hx hb d_Model_initMiddle_20 (by decide) ?_
    refine CMv.callV (wc := M13 cI cZ o o1 o2 o3 o4 o5 o6 o7 o8 o9 o10 o11 o12 g3) (wr := []) (b := o) (av := [.int (2 : Int32)]) (rest := []) hx hb hml hown hk (c_M_write l D cI cZ o o1 o2 o3 o4 o5 o6 o7 o8 o9 o10 o11 o12 (2 : Int32) g3 (okM_mono (okM_eq hg3 (okM_initAlone (okM_eq hg2 (okM_initBase (okM_eq hg1 (okM_begins ho)))))) (by decide)) _ rfl) hK hP hD hS hA hSt hl.1 (va_recv hK hP (ci := 2) (q0 := 0) rfl rfl) d_Model_initMiddle_21 kc_Model_write ki_Model kl_Model_62 kn_Model_write kx_Model_write (n := 1) rfl (by decide +kernel) ⟨Nat.le_of_ble_eq_true rfl, Nat.le_of_ble_eq_true rfl⟩ rfl rfl (Nat.le_of_ble_eq_true rfl) ⟨Nat.zero_le _, Nat.zero_le _⟩ (fun H locs hP hD hS => ?_)
    have hP : va_P D classes (M13 cI cZ o o1 o2 o3 o4 o5 o6 o7 o8 o9 o10 o11 o12 (m_M_write (2 : Int32) g3)) H := hP
    have hD : va_D A (M13 cI cZ o o1 o2 o3 o4 o5 o6 o7 o8 o9 o10 o11 o12 (m_M_write (2 : Int32) g3)) := hD
    obtain ⟨g4, hg4⟩ : ∃ z, (m_M_write (2 : Int32) g3) = z := ⟨_, rfl⟩
    rw [hg4] at hP hD
    refine lv_aload_n hx hb d_Model_initMiddle_24 rfl (lv_at hl 0 rfl) ?_
    refine va_get (D := D) (ci := 2) (v := .ref o3) (C := R_Model) (T := F_Model) (N := 14) hx hb hk i_Model hown hK hP 0 rfl rfl 2 (by decide) (hk _ kl_Model_16) (fun _ h9 => h9) rfl d_Model_initMiddle_25 ?_
    refine lv_aload_n hx hb d_Model_initMiddle_28 rfl (lv_at hl 0 rfl) ?_
    refine va_get (D := D) (ci := 2) (v := .int (aWc g4)) (C := R_Model) (T := F_Model) (N := 14) hx hb hk i_Model hown hK hP 0 rfl rfl 11 (by decide) (hk _ kl_Model_41) (fun _ h9 => h9) rfl d_Model_initMiddle_29 ?_
    refine lv_iconst (v := (2 : Int32)) hx hb d_Model_initMiddle_32 (by decide) ?_
    refine lv_aload_n hx hb d_Model_initMiddle_33 rfl (lv_at hl 0 rfl) ?_
    refine va_get (D := D) (ci := 2) (v := .ref o2) (C := R_Model) (T := F_Model) (N := 14) hx hb hk i_Model hown hK hP 0 rfl rfl 1 (by decide) (hk _ kl_Model_13) (fun _ h9 => h9) rfl d_Model_initMiddle_34 ?_
    refine lv_aload_n hx hb d_Model_initMiddle_37 rfl (lv_at hl 0 rfl) ?_
    refine va_get (D := D) (ci := 2) (v := .int (aWc g4)) (C := R_Model) (T := F_Model) (N := 14) hx hb hk i_Model hown hK hP 0 rfl rfl 11 (by decide) (hk _ kl_Model_41) (fun _ h9 => h9) rfl d_Model_initMiddle_38 ?_
    refine va_iald hx hb hK hP 2 0 rfl rfl (okM_eq hg4 (okM_write (okM_eq hg3 (okM_initAlone (okM_eq hg2 (okM_initBase (okM_eq hg1 (okM_begins ho)))))))).1 d_Model_initMiddle_41 ?_
    refine lv_iadd hx hb d_Model_initMiddle_42 ?_
    refine va_iast hx hb hK hP hD hS 3 0 rfl rfl (okM_eq hg4 (okM_write (okM_eq hg3 (okM_initAlone (okM_eq hg2 (okM_initBase (okM_eq hg1 (okM_begins ho)))))))).1 d_Model_initMiddle_43 (fun H locs hP hD hS => ?_)
    have hP : va_P D classes (M13 cI cZ o o1 o2 o3 o4 o5 o6 o7 o8 o9 o10 o11 o12 (uMi g4 (upd ((aMi g4)) (aWc g4).toNatClampNeg ((2 : Int32) + ((aBa g4) (aWc g4).toNatClampNeg))))) H := hP
    have hD : va_D A (M13 cI cZ o o1 o2 o3 o4 o5 o6 o7 o8 o9 o10 o11 o12 (uMi g4 (upd ((aMi g4)) (aWc g4).toNatClampNeg ((2 : Int32) + ((aBa g4) (aWc g4).toNatClampNeg))))) := hD
    refine lv_aload_n hx hb d_Model_initMiddle_44 rfl (lv_at hl 0 rfl) ?_
    refine lv_iconst (v := (1 : Int32)) hx hb d_Model_initMiddle_45 (by decide) ?_
    refine CMv.callV (wc := M13 cI cZ o o1 o2 o3 o4 o5 o6 o7 o8 o9 o10 o11 o12 (uMi g4 (upd ((aMi g4)) (aWc g4).toNatClampNeg ((2 : Int32) + ((aBa g4) (aWc g4).toNatClampNeg))))) (wr := []) (b := o) (av := [.int (1 : Int32)]) (rest := []) hx hb hml hown hk (c_M_ends l D cI cZ o o1 o2 o3 o4 o5 o6 o7 o8 o9 o10 o11 o12 (1 : Int32) (uMi g4 (upd ((aMi g4)) (aWc g4).toNatClampNeg ((2 : Int32) + ((aBa g4) (aWc g4).toNatClampNeg)))) (by unfold vp_in; decide) (okM_mono (okM_uMi (okM_eq hg4 (okM_write (okM_eq hg3 (okM_initAlone (okM_eq hg2 (okM_initBase (okM_eq hg1 (okM_begins ho))))))))) (by decide)) _ rfl) hK hP hD hS hA hSt hl.1 (va_recv hK hP (ci := 2) (q0 := 0) rfl rfl) d_Model_initMiddle_46 kc_Model_ends ki_Model kl_Model_66 kn_Model_ends kx_Model_ends (n := 1) rfl (by decide +kernel) ⟨Nat.le_of_ble_eq_true rfl, Nat.le_of_ble_eq_true rfl⟩ rfl rfl (Nat.le_of_ble_eq_true rfl) ⟨Nat.zero_le _, Nat.zero_le _⟩ (fun H locs hP hD hS => ?_)
    have hP : va_P D classes (M13 cI cZ o o1 o2 o3 o4 o5 o6 o7 o8 o9 o10 o11 o12 (m_M_ends (1 : Int32) (uMi g4 (upd ((aMi g4)) (aWc g4).toNatClampNeg ((2 : Int32) + ((aBa g4) (aWc g4).toNatClampNeg)))))) H := hP
    have hD : va_D A (M13 cI cZ o o1 o2 o3 o4 o5 o6 o7 o8 o9 o10 o11 o12 (m_M_ends (1 : Int32) (uMi g4 (upd ((aMi g4)) (aWc g4).toNatClampNeg ((2 : Int32) + ((aBa g4) (aWc g4).toNatClampNeg)))))) := hD
    obtain ⟨g5, hg5⟩ : ∃ z, (m_M_ends (1 : Int32) (uMi g4 (upd ((aMi g4)) (aWc g4).toNatClampNeg ((2 : Int32) + ((aBa g4) (aWc g4).toNatClampNeg))))) = z := ⟨_, rfl⟩
    rw [hg5] at hP hD
    subst hg5
    subst hg4
    subst hg3
    subst hg2
    subst hg1
    obtain rfl : (m_M_ends (1 : Int32) (uMi (m_M_write (2 : Int32) (m_M_initAlone (5 : Int32) (5 : Int32) (m_M_initBase ((m_M_begins (1 : Int32) md).1)))) (upd ((aMi (m_M_write (2 : Int32) (m_M_initAlone (5 : Int32) (5 : Int32) (m_M_initBase ((m_M_begins (1 : Int32) md).1)))))) (aWc (m_M_write (2 : Int32) (m_M_initAlone (5 : Int32) (5 : Int32) (m_M_initBase ((m_M_begins (1 : Int32) md).1))))).toNatClampNeg ((2 : Int32) + ((aBa (m_M_write (2 : Int32) (m_M_initAlone (5 : Int32) (5 : Int32) (m_M_initBase ((m_M_begins (1 : Int32) md).1))))) (aWc (m_M_write (2 : Int32) (m_M_initAlone (5 : Int32) (5 : Int32) (m_M_initBase ((m_M_begins (1 : Int32) md).1))))).toNatClampNeg))))) = res := (Eq.symm ((if_neg c_5).trans rfl)).trans hres
    exact CMv_ret hx hb hr hlocks hP hK hD hS d_Model_initMiddle_49
  · subst hg1
    obtain rfl : ((m_M_begins (1 : Int32) md).1) = res := (Eq.symm ((if_pos c_5).trans rfl)).trans hres
    exact CMv_ret hx hb hr hlocks hP hK hD hS d_Model_initMiddle_8
set_option maxHeartbeats 4000000 in
set_option maxRecDepth 100000 in
theorem c_M_initLeaf (l : Launch) (D : va_G) (cI cZ : ClassId) (o o1 o2 o3 o4 o5 o6 o7 o8 o9 o10 o11 o12 : Nat)   (md : MM) (ho : okM 6 md) (res : MM) (hres : m_M_initLeaf md = res) : CMv l y_Model_initLeaf b_Model_initLeaf 1 ({ frames := 3, cells := 0, slots := 0, locals := 63 }) D (tyZ cI cZ) [.ref o] (M13 cI cZ o o1 o2 o3 o4 o5 o6 o7 o8 o9 o10 o11 o12 md) (M13 cI cZ o o1 o2 o3 o4 o5 o6 o7 o8 o9 o10 o11 o12 res) := by
  refine CMv_mk (by decide) (Nat.le_of_ble_eq_true rfl) ?_
  intro p e s m args below meth c A ls hx hb hr hml hown hk hlocks hA hSt hK hP hD hS hl
  have hown : s.vm.findClass R_Model = some m.cls := hown
  have hl : lv_has ls 1 [(0, .ref o)] := hl
  refine lv_aload_n hx hb d_Model_initLeaf_0 rfl (lv_at hl 0 rfl) ?_
  refine lv_iconst (v := (2 : Int32)) hx hb d_Model_initLeaf_1 (by decide) ?_
  refine CM.callV (wc := M13 cI cZ o o1 o2 o3 o4 o5 o6 o7 o8 o9 o10 o11 o12 md) (wr := []) (b := o) (av := [.int (2 : Int32)]) (rest := []) hx hb hml hown hk (c_M_begins l D cI cZ o o1 o2 o3 o4 o5 o6 o7 o8 o9 o10 o11 o12 (2 : Int32) md (by unfold vp_in; decide) (okM_mono ho (by decide)) _ _ (pe2 _)) hK hP hD hS hA hSt hl.1 (va_recv hK hP (ci := 2) (q0 := 0) rfl rfl) d_Model_initLeaf_2 kc_Model_begins ki_Model kl_Model_58 kn_Model_begins kx_Model_begins (n := 1) rfl (by decide +kernel) ⟨Nat.le_of_ble_eq_true rfl, Nat.le_of_ble_eq_true rfl⟩ rfl rfl (Nat.le_of_ble_eq_true rfl) ⟨Nat.zero_le _, Nat.zero_le _⟩ (fun H locs hP hD hS => ?_)
  have hP : va_P D classes (M13 cI cZ o o1 o2 o3 o4 o5 o6 o7 o8 o9 o10 o11 o12 ((m_M_begins (2 : Int32) md).1)) H := hP
  have hD : va_D A (M13 cI cZ o o1 o2 o3 o4 o5 o6 o7 o8 o9 o10 o11 o12 ((m_M_begins (2 : Int32) md).1)) := hD
  obtain ⟨g1, hg1⟩ : ∃ z, (m_M_begins (2 : Int32) md).1 = z := ⟨_, rfl⟩
  rw [hg1] at hP hD
  refine lv_if_ne (tgt := 9) hx hb d_Model_initLeaf_5 (by decide) (fun c_5 => ?_) (fun c_5 => ?_)
  · refine lv_aload_n hx hb d_Model_initLeaf_9 rfl (lv_at hl 0 rfl) ?_
    refine CMv.callV (wc := M13 cI cZ o o1 o2 o3 o4 o5 o6 o7 o8 o9 o10 o11 o12 g1) (wr := []) (b := o) (av := []) (rest := []) hx hb hml hown hk (c_M_initMiddle l D cI cZ o o1 o2 o3 o4 o5 o6 o7 o8 o9 o10 o11 o12 g1 (okM_mono (okM_eq hg1 (okM_begins ho)) (by decide)) _ rfl) hK hP hD hS hA hSt hl.1 (va_recv hK hP (ci := 2) (q0 := 0) rfl rfl) d_Model_initLeaf_10 kc_Model_initMiddle ki_Model kl_Model_76 kn_Model_initMiddle kx_Model_initMiddle (n := 0) rfl (by decide +kernel) ⟨Nat.le_of_ble_eq_true rfl, Nat.le_of_ble_eq_true rfl⟩ rfl rfl (Nat.le_of_ble_eq_true rfl) ⟨Nat.zero_le _, Nat.zero_le _⟩ (fun H locs hP hD hS => ?_)
    have hP : va_P D classes (M13 cI cZ o o1 o2 o3 o4 o5 o6 o7 o8 o9 o10 o11 o12 (m_M_initMiddle g1)) H := hP
    have hD : va_D A (M13 cI cZ o o1 o2 o3 o4 o5 o6 o7 o8 o9 o10 o11 o12 (m_M_initMiddle g1)) := hD
    obtain ⟨g2, hg2⟩ : ∃ z, (m_M_initMiddle g1) = z := ⟨_, rfl⟩
    rw [hg2] at hP hD
    refine lv_aload_n hx hb d_Model_initLeaf_13 rfl (lv_at hl 0 rfl) ?_
    refine lv_bipush (v := (6 : Int32)) hx hb d_Model_initLeaf_14 (by decide) ?_
    refine CMv.callV (wc := M13 cI cZ o o1 o2 o3 o4 o5 o6 o7 o8 o9 o10 o11 o12 g2) (wr := []) (b := o) (av := [.int (6 : Int32)]) (rest := []) hx hb hml hown hk (c_M_write l D cI cZ o o1 o2 o3 o4 o5 o6 o7 o8 o9 o10 o11 o12 (6 : Int32) g2 (okM_mono (okM_eq hg2 (okM_initMiddle (okM_eq hg1 (okM_begins ho)))) (by decide)) _ rfl) hK hP hD hS hA hSt hl.1 (va_recv hK hP (ci := 2) (q0 := 0) rfl rfl) d_Model_initLeaf_16 kc_Model_write ki_Model kl_Model_62 kn_Model_write kx_Model_write (n := 1) rfl (by decide +kernel) ⟨Nat.le_of_ble_eq_true rfl, Nat.le_of_ble_eq_true rfl⟩ rfl rfl (Nat.le_of_ble_eq_true rfl) ⟨Nat.zero_le _, Nat.zero_le _⟩ (fun H locs hP hD hS => ?_)
    have hP : va_P D classes (M13 cI cZ o o1 o2 o3 o4 o5 o6 o7 o8 o9 o10 o11 o12 (m_M_write (6 : Int32) g2)) H := hP
    have hD : va_D A (M13 cI cZ o o1 o2 o3 o4 o5 o6 o7 o8 o9 o10 o11 o12 (m_M_write (6 : Int32) g2)) := hD
    obtain ⟨g3, hg3⟩ : ∃ z, (m_M_write (6 : Int32) g2) = z := ⟨_, rfl⟩
    rw [hg3] at hP hD
    refine lv_aload_n hx hb d_Model_initLeaf_19 rfl (lv_at hl 0 rfl) ?_
    refine lv_iconst (v := (3 : Int32)) hx hb d_Model_initLeaf_20 (by decide) ?_
    refine CMv.callV (wc := M13 cI cZ o o1 o2 o3 o4 o5 o6 o7 o8 o9 o10 o11 o12 g3) (wr := []) (b := o) (av := [.int (3 : Int32)]) (rest := []) hx hb hml hown hk (c_M_write l D cI cZ o o1 o2 o3 o4 o5 o6 o7 o8 o9 o10 o11 o12 (3 : Int32) g3 (okM_mono (okM_eq hg3 (okM_write (okM_eq hg2 (okM_initMiddle (okM_eq hg1 (okM_begins ho)))))) (by decide)) _ rfl) hK hP hD hS hA hSt hl.1 (va_recv hK hP (ci := 2) (q0 := 0) rfl rfl) d_Model_initLeaf_21 kc_Model_write ki_Model kl_Model_62 kn_Model_write kx_Model_write (n := 1) rfl (by decide +kernel) ⟨Nat.le_of_ble_eq_true rfl, Nat.le_of_ble_eq_true rfl⟩ rfl rfl (Nat.le_of_ble_eq_true rfl) ⟨Nat.zero_le _, Nat.zero_le _⟩ (fun H locs hP hD hS => ?_)
    have hP : va_P D classes (M13 cI cZ o o1 o2 o3 o4 o5 o6 o7 o8 o9 o10 o11 o12 (m_M_write (3 : Int32) g3)) H := hP
    have hD : va_D A (M13 cI cZ o o1 o2 o3 o4 o5 o6 o7 o8 o9 o10 o11 o12 (m_M_write (3 : Int32) g3)) := hD
    obtain ⟨g4, hg4⟩ : ∃ z, (m_M_write (3 : Int32) g3) = z := ⟨_, rfl⟩
    rw [hg4] at hP hD
    refine lv_aload_n hx hb d_Model_initLeaf_24 rfl (lv_at hl 0 rfl) ?_
    refine lv_iconst (v := (2 : Int32)) hx hb d_Model_initLeaf_25 (by decide) ?_
    refine CMv.callV (wc := M13 cI cZ o o1 o2 o3 o4 o5 o6 o7 o8 o9 o10 o11 o12 g4) (wr := []) (b := o) (av := [.int (2 : Int32)]) (rest := []) hx hb hml hown hk (c_M_ends l D cI cZ o o1 o2 o3 o4 o5 o6 o7 o8 o9 o10 o11 o12 (2 : Int32) g4 (by unfold vp_in; decide) (okM_mono (okM_eq hg4 (okM_write (okM_eq hg3 (okM_write (okM_eq hg2 (okM_initMiddle (okM_eq hg1 (okM_begins ho)))))))) (by decide)) _ rfl) hK hP hD hS hA hSt hl.1 (va_recv hK hP (ci := 2) (q0 := 0) rfl rfl) d_Model_initLeaf_26 kc_Model_ends ki_Model kl_Model_66 kn_Model_ends kx_Model_ends (n := 1) rfl (by decide +kernel) ⟨Nat.le_of_ble_eq_true rfl, Nat.le_of_ble_eq_true rfl⟩ rfl rfl (Nat.le_of_ble_eq_true rfl) ⟨Nat.zero_le _, Nat.zero_le _⟩ (fun H locs hP hD hS => ?_)
    have hP : va_P D classes (M13 cI cZ o o1 o2 o3 o4 o5 o6 o7 o8 o9 o10 o11 o12 (m_M_ends (2 : Int32) g4)) H := hP
    have hD : va_D A (M13 cI cZ o o1 o2 o3 o4 o5 o6 o7 o8 o9 o10 o11 o12 (m_M_ends (2 : Int32) g4)) := hD
    obtain ⟨g5, hg5⟩ : ∃ z, (m_M_ends (2 : Int32) g4) = z := ⟨_, rfl⟩
    rw [hg5] at hP hD
    subst hg5
    subst hg4
    subst hg3
    subst hg2
    subst hg1
    obtain rfl : (m_M_ends (2 : Int32) (m_M_write (3 : Int32) (m_M_write (6 : Int32) (m_M_initMiddle ((m_M_begins (2 : Int32) md).1))))) = res := (Eq.symm ((if_neg c_5).trans rfl)).trans hres
    exact CMv_ret hx hb hr hlocks hP hK hD hS d_Model_initLeaf_29
  · subst hg1
    obtain rfl : ((m_M_begins (2 : Int32) md).1) = res := (Eq.symm ((if_pos c_5).trans rfl)).trans hres
    exact CMv_ret hx hb hr hlocks hP hK hD hS d_Model_initLeaf_8
set_option maxHeartbeats 4000000 in
set_option maxRecDepth 100000 in
theorem c_M_initLoud (l : Launch) (D : va_G) (cI cZ : ClassId) (o o1 o2 o3 o4 o5 o6 o7 o8 o9 o10 o11 o12 : Nat)   (md : MM) (ho : okM 2 md) (res : MM) (hres : m_M_initLoud md = res) : CMv l y_Model_initLoud b_Model_initLoud 1 ({ frames := 2, cells := 0, slots := 0, locals := 43 }) D (tyZ cI cZ) [.ref o] (M13 cI cZ o o1 o2 o3 o4 o5 o6 o7 o8 o9 o10 o11 o12 md) (M13 cI cZ o o1 o2 o3 o4 o5 o6 o7 o8 o9 o10 o11 o12 res) := by
  refine CMv_mk (by decide) (Nat.le_of_ble_eq_true rfl) ?_
  intro p e s m args below meth c A ls hx hb hr hml hown hk hlocks hA hSt hK hP hD hS hl
  have hown : s.vm.findClass R_Model = some m.cls := hown
  have hl : lv_has ls 1 [(0, .ref o)] := hl
  refine lv_aload_n hx hb d_Model_initLoud_0 rfl (lv_at hl 0 rfl) ?_
  refine lv_bipush (v := (7 : Int32)) hx hb d_Model_initLoud_1 (by decide) ?_
  refine CM.callV (wc := M13 cI cZ o o1 o2 o3 o4 o5 o6 o7 o8 o9 o10 o11 o12 md) (wr := []) (b := o) (av := [.int (7 : Int32)]) (rest := []) hx hb hml hown hk (c_M_begins l D cI cZ o o1 o2 o3 o4 o5 o6 o7 o8 o9 o10 o11 o12 (7 : Int32) md (by unfold vp_in; decide) (okM_mono ho (by decide)) _ _ (pe2 _)) hK hP hD hS hA hSt hl.1 (va_recv hK hP (ci := 2) (q0 := 0) rfl rfl) d_Model_initLoud_3 kc_Model_begins ki_Model kl_Model_58 kn_Model_begins kx_Model_begins (n := 1) rfl (by decide +kernel) ⟨Nat.le_of_ble_eq_true rfl, Nat.le_of_ble_eq_true rfl⟩ rfl rfl (Nat.le_of_ble_eq_true rfl) ⟨Nat.zero_le _, Nat.zero_le _⟩ (fun H locs hP hD hS => ?_)
  have hP : va_P D classes (M13 cI cZ o o1 o2 o3 o4 o5 o6 o7 o8 o9 o10 o11 o12 ((m_M_begins (7 : Int32) md).1)) H := hP
  have hD : va_D A (M13 cI cZ o o1 o2 o3 o4 o5 o6 o7 o8 o9 o10 o11 o12 ((m_M_begins (7 : Int32) md).1)) := hD
  obtain ⟨g1, hg1⟩ : ∃ z, (m_M_begins (7 : Int32) md).1 = z := ⟨_, rfl⟩
  rw [hg1] at hP hD
  refine lv_if_ne (tgt := 10) hx hb d_Model_initLoud_6 (by decide) (fun c_6 => ?_) (fun c_6 => ?_)
  · refine lv_aload_n hx hb d_Model_initLoud_10 rfl (lv_at hl 0 rfl) ?_
    refine lv_iconst (v := (4 : Int32)) hx hb d_Model_initLoud_11 (by decide) ?_
    refine lv_bipush (v := (15 : Int32)) hx hb d_Model_initLoud_12 (by decide) ?_
    refine CMv.callV (wc := M13 cI cZ o o1 o2 o3 o4 o5 o6 o7 o8 o9 o10 o11 o12 g1) (wr := []) (b := o) (av := [.int (4 : Int32), .int (15 : Int32)]) (rest := []) hx hb hml hown hk (c_M_initAlone l D cI cZ o o1 o2 o3 o4 o5 o6 o7 o8 o9 o10 o11 o12 (4 : Int32) (15 : Int32) g1 (by unfold vp_in; decide) (okM_mono (okM_eq hg1 (okM_begins ho)) (by decide)) _ rfl) hK hP hD hS hA hSt hl.1 (va_recv hK hP (ci := 2) (q0 := 0) rfl rfl) d_Model_initLoud_14 kc_Model_initAlone ki_Model kl_Model_72 kn_Model_initAlone kx_Model_initAlone (n := 2) rfl (by decide +kernel) ⟨Nat.le_of_ble_eq_true rfl, Nat.le_of_ble_eq_true rfl⟩ rfl rfl (Nat.le_of_ble_eq_true rfl) ⟨Nat.zero_le _, Nat.zero_le _⟩ (fun H locs hP hD hS => ?_)
    have hP : va_P D classes (M13 cI cZ o o1 o2 o3 o4 o5 o6 o7 o8 o9 o10 o11 o12 (m_M_initAlone (4 : Int32) (15 : Int32) g1)) H := hP
    have hD : va_D A (M13 cI cZ o o1 o2 o3 o4 o5 o6 o7 o8 o9 o10 o11 o12 (m_M_initAlone (4 : Int32) (15 : Int32) g1)) := hD
    obtain ⟨g2, hg2⟩ : ∃ z, (m_M_initAlone (4 : Int32) (15 : Int32) g1) = z := ⟨_, rfl⟩
    rw [hg2] at hP hD
    refine lv_aload_n hx hb d_Model_initLoud_17 rfl (lv_at hl 0 rfl) ?_
    refine lv_bipush (v := (12 : Int32)) hx hb d_Model_initLoud_18 (by decide) ?_
    refine CMv.callV (wc := M13 cI cZ o o1 o2 o3 o4 o5 o6 o7 o8 o9 o10 o11 o12 g2) (wr := []) (b := o) (av := [.int (12 : Int32)]) (rest := []) hx hb hml hown hk (c_M_write l D cI cZ o o1 o2 o3 o4 o5 o6 o7 o8 o9 o10 o11 o12 (12 : Int32) g2 (okM_mono (okM_eq hg2 (okM_initAlone (okM_eq hg1 (okM_begins ho)))) (by decide)) _ rfl) hK hP hD hS hA hSt hl.1 (va_recv hK hP (ci := 2) (q0 := 0) rfl rfl) d_Model_initLoud_20 kc_Model_write ki_Model kl_Model_62 kn_Model_write kx_Model_write (n := 1) rfl (by decide +kernel) ⟨Nat.le_of_ble_eq_true rfl, Nat.le_of_ble_eq_true rfl⟩ rfl rfl (Nat.le_of_ble_eq_true rfl) ⟨Nat.zero_le _, Nat.zero_le _⟩ (fun H locs hP hD hS => ?_)
    have hP : va_P D classes (M13 cI cZ o o1 o2 o3 o4 o5 o6 o7 o8 o9 o10 o11 o12 (m_M_write (12 : Int32) g2)) H := hP
    have hD : va_D A (M13 cI cZ o o1 o2 o3 o4 o5 o6 o7 o8 o9 o10 o11 o12 (m_M_write (12 : Int32) g2)) := hD
    obtain ⟨g3, hg3⟩ : ∃ z, (m_M_write (12 : Int32) g2) = z := ⟨_, rfl⟩
    rw [hg3] at hP hD
    refine lv_aload_n hx hb d_Model_initLoud_23 rfl (lv_at hl 0 rfl) ?_
    refine lv_bipush (v := (7 : Int32)) hx hb d_Model_initLoud_24 (by decide) ?_
    refine CMv.callV (wc := M13 cI cZ o o1 o2 o3 o4 o5 o6 o7 o8 o9 o10 o11 o12 g3) (wr := []) (b := o) (av := [.int (7 : Int32)]) (rest := []) hx hb hml hown hk (c_M_ends l D cI cZ o o1 o2 o3 o4 o5 o6 o7 o8 o9 o10 o11 o12 (7 : Int32) g3 (by unfold vp_in; decide) (okM_mono (okM_eq hg3 (okM_write (okM_eq hg2 (okM_initAlone (okM_eq hg1 (okM_begins ho)))))) (by decide)) _ rfl) hK hP hD hS hA hSt hl.1 (va_recv hK hP (ci := 2) (q0 := 0) rfl rfl) d_Model_initLoud_26 kc_Model_ends ki_Model kl_Model_66 kn_Model_ends kx_Model_ends (n := 1) rfl (by decide +kernel) ⟨Nat.le_of_ble_eq_true rfl, Nat.le_of_ble_eq_true rfl⟩ rfl rfl (Nat.le_of_ble_eq_true rfl) ⟨Nat.zero_le _, Nat.zero_le _⟩ (fun H locs hP hD hS => ?_)
    have hP : va_P D classes (M13 cI cZ o o1 o2 o3 o4 o5 o6 o7 o8 o9 o10 o11 o12 (m_M_ends (7 : Int32) g3)) H := hP
    have hD : va_D A (M13 cI cZ o o1 o2 o3 o4 o5 o6 o7 o8 o9 o10 o11 o12 (m_M_ends (7 : Int32) g3)) := hD
    obtain ⟨g4, hg4⟩ : ∃ z, (m_M_ends (7 : Int32) g3) = z := ⟨_, rfl⟩
    rw [hg4] at hP hD
    subst hg4
    subst hg3
    subst hg2
    subst hg1
    obtain rfl : (m_M_ends (7 : Int32) (m_M_write (12 : Int32) (m_M_initAlone (4 : Int32) (15 : Int32) ((m_M_begins (7 : Int32) md).1)))) = res := (Eq.symm ((if_neg c_6).trans rfl)).trans hres
    exact CMv_ret hx hb hr hlocks hP hK hD hS d_Model_initLoud_29
  · subst hg1
    obtain rfl : ((m_M_begins (7 : Int32) md).1) = res := (Eq.symm ((if_pos c_6).trans rfl)).trans hres
    exact CMv_ret hx hb hr hlocks hP hK hD hS d_Model_initLoud_9

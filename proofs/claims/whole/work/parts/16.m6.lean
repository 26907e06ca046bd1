set_option maxHeartbeats 4000000 in
set_option maxRecDepth 100000 in
theorem c_M_initLazy (l : Launch) (D : va_G) (cI cZ : ClassId) (o o1 o2 o3 o4 o5 o6 o7 o8 o9 o10 o11 o12 : Nat)   (md : MM) (ho : okM 4 md) (res : MM) (hres : m_M_initLazy md = res) : CMv l y_Model_initLazy b_Model_initLazy 1 ({ frames := 2, cells := 0, slots := 0, locals := 41 }) D (tyZ cI cZ) [.ref o] (M13 cI cZ o o1 o2 o3 o4 o5 o6 o7 o8 o9 o10 o11 o12 md) (M13 cI cZ o o1 o2 o3 o4 o5 o6 o7 o8 o9 o10 o11 o12 res) := by
  refine CMv_mk (by decide) (Nat.le_of_ble_eq_true rfl) ?_
  intro p e s m args below meth c A ls hx hb hr hml hown hk hlocks hA hSt hK hP hD hS hl
  have hown : s.vm.findClass R_Model = some m.cls := hown
  have hl : lv_has ls 1 [(0, .ref o)] := hl
  refine lv_aload_n hx hb d_Model_initLazy_0 rfl (lv_at hl 0 rfl) ?_
  refine lv_bipush (v := (13 : Int32)) hx hb d_Model_initLazy_1 (by decide) ?_
  refine CM.callV (wc := M13 cI cZ o o1 o2 o3 o4 o5 o6 o7 o8 o9 o10 o11 o12 md) (wr := []) (b := o) (av := [.int (13 : Int32)]) (rest := []) hx hb hml hown hk (c_M_begins l D cI cZ o o1 o2 o3 o4 o5 o6 o7 o8 o9 o10 o11 o12 (13 : Int32) md (by unfold vp_in; decide) (okM_mono ho (by decide)) _ _ (pe2 _)) hK hP hD hS hA hSt hl.1 (va_recv hK hP (ci := 2) (q0 := 0) rfl rfl) d_Model_initLazy_3 kc_Model_begins ki_Model kl_Model_58 kn_Model_begins kx_Model_begins (n := 1) rfl (by decide +kernel) ⟨Nat.le_of_ble_eq_true rfl, Nat.le_of_ble_eq_true rfl⟩ rfl rfl (Nat.le_of_ble_eq_true rfl) ⟨Nat.zero_le _, Nat.zero_le _⟩ (fun H locs hP hD hS => ?_)
  have hP : va_P D classes (M13 cI cZ o o1 o2 o3 o4 o5 o6 o7 o8 o9 o10 o11 o12 ((m_M_begins (13 : Int32) md).1)) H := hP
  have hD : va_D A (M13 cI cZ o o1 o2 o3 o4 o5 o6 o7 o8 o9 o10 o11 o12 ((m_M_begins (13 : Int32) md).1)) := hD
  obtain ⟨g1, hg1⟩ : ∃ z, (m_M_begins (13 : Int32) md).1 = z := ⟨_, rfl⟩
  rw [hg1] at hP hD
  refine lv_if_ne (tgt := 10) hx hb d_Model_initLazy_6 (by decide) (fun c_6 => ?_) (fun c_6 => ?_)
  · refine lv_aload_n hx hb d_Model_initLazy_10 rfl (lv_at hl 0 rfl) ?_
    refine CMv.callV (wc := M13 cI cZ o o1 o2 o3 o4 o5 o6 o7 o8 o9 o10 o11 o12 g1) (wr := []) (b := o) (av := []) (rest := []) hx hb hml hown hk (c_M_initBase l D cI cZ o o1 o2 o3 o4 o5 o6 o7 o8 o9 o10 o11 o12 g1 (okM_mono (okM_eq hg1 (okM_begins ho)) (by decide)) _ rfl) hK hP hD hS hA hSt hl.1 (va_recv hK hP (ci := 2) (q0 := 0) rfl rfl) d_Model_initLazy_11 kc_Model_initBase ki_Model kl_Model_69 kn_Model_initBase kx_Model_initBase (n := 0) rfl (by decide +kernel) ⟨Nat.le_of_ble_eq_true rfl, Nat.le_of_ble_eq_true rfl⟩ rfl rfl (Nat.le_of_ble_eq_true rfl) ⟨Nat.zero_le _, Nat.zero_le _⟩ (fun H locs hP hD hS => ?_)
    have hP : va_P D classes (M13 cI cZ o o1 o2 o3 o4 o5 o6 o7 o8 o9 o10 o11 o12 (m_M_initBase g1)) H := hP
    have hD : va_D A (M13 cI cZ o o1 o2 o3 o4 o5 o6 o7 o8 o9 o10 o11 o12 (m_M_initBase g1)) := hD
    obtain ⟨g2, hg2⟩ : ∃ z, (m_M_initBase g1) = z := ⟨_, rfl⟩
    rw [hg2] at hP hD
    refine lv_aload_n hx hb d_Model_initLazy_14 rfl (lv_at hl 0 rfl) ?_
    refine lv_bipush (v := (20 : Int32)) hx hb d_Model_initLazy_15 (by decide) ?_
    refine CMv.callV (wc := M13 cI cZ o o1 o2 o3 o4 o5 o6 o7 o8 o9 o10 o11 o12 g2) (wr := []) (b := o) (av := [.int (20 : Int32)]) (rest := []) hx hb hml hown hk (c_M_write l D cI cZ o o1 o2 o3 o4 o5 o6 o7 o8 o9 o10 o11 o12 (20 : Int32) g2 (okM_mono (okM_eq hg2 (okM_initBase (okM_eq hg1 (okM_begins ho)))) (by decide)) _ rfl) hK hP hD hS hA hSt hl.1 (va_recv hK hP (ci := 2) (q0 := 0) rfl rfl) d_Model_initLazy_17 kc_Model_write ki_Model kl_Model_62 kn_Model_write kx_Model_write (n := 1) rfl (by decide +kernel) ⟨Nat.le_of_ble_eq_true rfl, Nat.le_of_ble_eq_true rfl⟩ rfl rfl (Nat.le_of_ble_eq_true rfl) ⟨Nat.zero_le _, Nat.zero_le _⟩ (fun H locs hP hD hS => ?_)
    have hP : va_P D classes (M13 cI cZ o o1 o2 o3 o4 o5 o6 o7 o8 o9 o10 o11 o12 (m_M_write (20 : Int32) g2)) H := hP
    have hD : va_D A (M13 cI cZ o o1 o2 o3 o4 o5 o6 o7 o8 o9 o10 o11 o12 (m_M_write (20 : Int32) g2)) := hD
    obtain ⟨g3, hg3⟩ : ∃ z, (m_M_write (20 : Int32) g2) = z := ⟨_, rfl⟩
    rw [hg3] at hP hD
    refine lv_aload_n hx hb d_Model_initLazy_20 rfl (lv_at hl 0 rfl) ?_
    refine lv_bipush (v := (14 : Int32)) hx hb d_Model_initLazy_21 (by decide) ?_
    refine CMv.callV (wc := M13 cI cZ o o1 o2 o3 o4 o5 o6 o7 o8 o9 o10 o11 o12 g3) (wr := []) (b := o) (av := [.int (14 : Int32)]) (rest := []) hx hb hml hown hk (c_M_write l D cI cZ o o1 o2 o3 o4 o5 o6 o7 o8 o9 o10 o11 o12 (14 : Int32) g3 (okM_mono (okM_eq hg3 (okM_write (okM_eq hg2 (okM_initBase (okM_eq hg1 (okM_begins ho)))))) (by decide)) _ rfl) hK hP hD hS hA hSt hl.1 (va_recv hK hP (ci := 2) (q0 := 0) rfl rfl) d_Model_initLazy_23 kc_Model_write ki_Model kl_Model_62 kn_Model_write kx_Model_write (n := 1) rfl (by decide +kernel) ⟨Nat.le_of_ble_eq_true rfl, Nat.le_of_ble_eq_true rfl⟩ rfl rfl (Nat.le_of_ble_eq_true rfl) ⟨Nat.zero_le _, Nat.zero_le _⟩ (fun H locs hP hD hS => ?_)
    have hP : va_P D classes (M13 cI cZ o o1 o2 o3 o4 o5 o6 o7 o8 o9 o10 o11 o12 (m_M_write (14 : Int32) g3)) H := hP
    have hD : va_D A (M13 cI cZ o o1 o2 o3 o4 o5 o6 o7 o8 o9 o10 o11 o12 (m_M_write (14 : Int32) g3)) := hD
    obtain ⟨g4, hg4⟩ : ∃ z, (m_M_write (14 : Int32) g3) = z := ⟨_, rfl⟩
    rw [hg4] at hP hD
    refine lv_aload_n hx hb d_Model_initLazy_26 rfl (lv_at hl 0 rfl) ?_
    refine lv_bipush (v := (13 : Int32)) hx hb d_Model_initLazy_27 (by decide) ?_
    refine CMv.callV (wc := M13 cI cZ o o1 o2 o3 o4 o5 o6 o7 o8 o9 o10 o11 o12 g4) (wr := []) (b := o) (av := [.int (13 : Int32)]) (rest := []) hx hb hml hown hk (c_M_ends l D cI cZ o o1 o2 o3 o4 o5 o6 o7 o8 o9 o10 o11 o12 (13 : Int32) g4 (by unfold vp_in; decide) (okM_mono (okM_eq hg4 (okM_write (okM_eq hg3 (okM_write (okM_eq hg2 (okM_initBase (okM_eq hg1 (okM_begins ho)))))))) (by decide)) _ rfl) hK hP hD hS hA hSt hl.1 (va_recv hK hP (ci := 2) (q0 := 0) rfl rfl) d_Model_initLazy_29 kc_Model_ends ki_Model kl_Model_66 kn_Model_ends kx_Model_ends (n := 1) rfl (by decide +kernel) ⟨Nat.le_of_ble_eq_true rfl, Nat.le_of_ble_eq_true rfl⟩ rfl rfl (Nat.le_of_ble_eq_true rfl) ⟨Nat.zero_le _, Nat.zero_le _⟩ (fun H locs hP hD hS => ?_)
    have hP : va_P D classes (M13 cI cZ o o1 o2 o3 o4 o5 o6 o7 o8 o9 o10 o11 o12 (m_M_ends (13 : Int32) g4)) H := hP
    have hD : va_D A (M13 cI cZ o o1 o2 o3 o4 o5 o6 o7 o8 o9 o10 o11 o12 (m_M_ends (13 : Int32) g4)) := hD
    obtain ⟨g5, hg5⟩ : ∃ z, (m_M_ends (13 : Int32) g4) = z := ⟨_, rfl⟩
    rw [hg5] at hP hD
    subst hg5
    subst hg4
    subst hg3
    subst hg2
    subst hg1
    obtain rfl : (m_M_ends (13 : Int32) (m_M_write (14 : Int32) (m_M_write (20 : Int32) (m_M_initBase ((m_M_begins (13 : Int32) md).1))))) = res := (Eq.symm ((if_neg c_6).trans rfl)).trans hres
    exact CMv_ret hx hb hr hlocks hP hK hD hS d_Model_initLazy_32
  · subst hg1
    obtain rfl : ((m_M_begins (13 : Int32) md).1) = res := (Eq.symm ((if_pos c_6).trans rfl)).trans hres
    exact CMv_ret hx hb hr hlocks hP hK hD hS d_Model_initLazy_9
set_option maxHeartbeats 4000000 in
set_option maxRecDepth 100000 in
theorem c_M_initGrade (l : Launch) (D : va_G) (cI cZ : ClassId) (o o1 o2 o3 o4 o5 o6 o7 o8 o9 o10 o11 o12 : Nat)   (md : MM) (ho : okM 3 md) (res : MM) (hres : m_M_initGrade md = res) : CMv l y_Model_initGrade b_Model_initGrade 1 ({ frames := 1, cells := 0, slots := 0, locals := 21 }) D (tyZ cI cZ) [.ref o] (M13 cI cZ o o1 o2 o3 o4 o5 o6 o7 o8 o9 o10 o11 o12 md) (M13 cI cZ o o1 o2 o3 o4 o5 o6 o7 o8 o9 o10 o11 o12 res) := by
  refine CMv_mk (by decide) (Nat.le_of_ble_eq_true rfl) ?_
  intro p e s m args below meth c A ls hx hb hr hml hown hk hlocks hA hSt hK hP hD hS hl
  have hown : s.vm.findClass R_Model = some m.cls := hown
  have hl : lv_has ls 1 [(0, .ref o)] := hl
  refine lv_aload_n hx hb d_Model_initGrade_0 rfl (lv_at hl 0 rfl) ?_
  refine lv_bipush (v := (14 : Int32)) hx hb d_Model_initGrade_1 (by decide) ?_
  refine CM.callV (wc := M13 cI cZ o o1 o2 o3 o4 o5 o6 o7 o8 o9 o10 o11 o12 md) (wr := []) (b := o) (av := [.int (14 : Int32)]) (rest := []) hx hb hml hown hk (c_M_begins l D cI cZ o o1 o2 o3 o4 o5 o6 o7 o8 o9 o10 o11 o12 (14 : Int32) md (by unfold vp_in; decide) (okM_mono ho (by decide)) _ _ (pe2 _)) hK hP hD hS hA hSt hl.1 (va_recv hK hP (ci := 2) (q0 := 0) rfl rfl) d_Model_initGrade_3 kc_Model_begins ki_Model kl_Model_58 kn_Model_begins kx_Model_begins (n := 1) rfl (by decide +kernel) ⟨Nat.le_of_ble_eq_true rfl, Nat.le_of_ble_eq_true rfl⟩ rfl rfl (Nat.le_of_ble_eq_true rfl) ⟨Nat.zero_le _, Nat.zero_le _⟩ (fun H locs hP hD hS => ?_)
  have hP : va_P D classes (M13 cI cZ o o1 o2 o3 o4 o5 o6 o7 o8 o9 o10 o11 o12 ((m_M_begins (14 : Int32) md).1)) H := hP
  have hD : va_D A (M13 cI cZ o o1 o2 o3 o4 o5 o6 o7 o8 o9 o10 o11 o12 ((m_M_begins (14 : Int32) md).1)) := hD
  obtain ⟨g1, hg1⟩ : ∃ z, (m_M_begins (14 : Int32) md).1 = z := ⟨_, rfl⟩
  rw [hg1] at hP hD
  refine lv_if_ne (tgt := 10) hx hb d_Model_initGrade_6 (by decide) (fun c_6 => ?_) (fun c_6 => ?_)
  · refine lv_aload_n hx hb d_Model_initGrade_10 rfl (lv_at hl 0 rfl) ?_
    refine lv_bipush (v := (16 : Int32)) hx hb d_Model_initGrade_11 (by decide) ?_
    refine CMv.callV (wc := M13 cI cZ o o1 o2 o3 o4 o5 o6 o7 o8 o9 o10 o11 o12 g1) (wr := []) (b := o) (av := [.int (16 : Int32)]) (rest := []) hx hb hml hown hk (c_M_write l D cI cZ o o1 o2 o3 o4 o5 o6 o7 o8 o9 o10 o11 o12 (16 : Int32) g1 (okM_mono (okM_eq hg1 (okM_begins ho)) (by decide)) _ rfl) hK hP hD hS hA hSt hl.1 (va_recv hK hP (ci := 2) (q0 := 0) rfl rfl) d_Model_initGrade_13 kc_Model_write ki_Model kl_Model_62 kn_Model_write kx_Model_write (n := 1) rfl (by decide +kernel) ⟨Nat.le_of_ble_eq_true rfl, Nat.le_of_ble_eq_true rfl⟩ rfl rfl (Nat.le_of_ble_eq_true rfl) ⟨Nat.zero_le _, Nat.zero_le _⟩ (fun H locs hP hD hS => ?_)
    have hP : va_P D classes (M13 cI cZ o o1 o2 o3 o4 o5 o6 o7 o8 o9 o10 o11 o12 (m_M_write (16 : Int32) g1)) H := hP
    have hD : va_D A (M13 cI cZ o o1 o2 o3 o4 o5 o6 o7 o8 o9 o10 o11 o12 (m_M_write (16 : Int32) g1)) := hD
    obtain ⟨g2, hg2⟩ : ∃ z, (m_M_write (16 : Int32) g1) = z := ⟨_, rfl⟩
    rw [hg2] at hP hD
    refine lv_aload_n hx hb d_Model_initGrade_16 rfl (lv_at hl 0 rfl) ?_
    refine lv_bipush (v := (16 : Int32)) hx hb d_Model_initGrade_17 (by decide) ?_
    refine CMv.callV (wc := M13 cI cZ o o1 o2 o3 o4 o5 o6 o7 o8 o9 o10 o11 o12 g2) (wr := []) (b := o) (av := [.int (16 : Int32)]) (rest := []) hx hb hml hown hk (c_M_write l D cI cZ o o1 o2 o3 o4 o5 o6 o7 o8 o9 o10 o11 o12 (16 : Int32) g2 (okM_mono (okM_eq hg2 (okM_write (okM_eq hg1 (okM_begins ho)))) (by decide)) _ rfl) hK hP hD hS hA hSt hl.1 (va_recv hK hP (ci := 2) (q0 := 0) rfl rfl) d_Model_initGrade_19 kc_Model_write ki_Model kl_Model_62 kn_Model_write kx_Model_write (n := 1) rfl (by decide +kernel) ⟨Nat.le_of_ble_eq_true rfl, Nat.le_of_ble_eq_true rfl⟩ rfl rfl (Nat.le_of_ble_eq_true rfl) ⟨Nat.zero_le _, Nat.zero_le _⟩ (fun H locs hP hD hS => ?_)
    have hP : va_P D classes (M13 cI cZ o o1 o2 o3 o4 o5 o6 o7 o8 o9 o10 o11 o12 (m_M_write (16 : Int32) g2)) H := hP
    have hD : va_D A (M13 cI cZ o o1 o2 o3 o4 o5 o6 o7 o8 o9 o10 o11 o12 (m_M_write (16 : Int32) g2)) := hD
    obtain ⟨g3, hg3⟩ : ∃ z, (m_M_write (16 : Int32) g2) = z := ⟨_, rfl⟩
    rw [hg3] at hP hD
    refine lv_aload_n hx hb d_Model_initGrade_22 rfl (lv_at hl 0 rfl) ?_
    refine lv_bipush (v := (17 : Int32)) hx hb d_Model_initGrade_23 (by decide) ?_
    refine CMv.callV (wc := M13 cI cZ o o1 o2 o3 o4 o5 o6 o7 o8 o9 o10 o11 o12 g3) (wr := []) (b := o) (av := [.int (17 : Int32)]) (rest := []) hx hb hml hown hk (c_M_write l D cI cZ o o1 o2 o3 o4 o5 o6 o7 o8 o9 o10 o11 o12 (17 : Int32) g3 (okM_mono (okM_eq hg3 (okM_write (okM_eq hg2 (okM_write (okM_eq hg1 (okM_begins ho)))))) (by decide)) _ rfl) hK hP hD hS hA hSt hl.1 (va_recv hK hP (ci := 2) (q0 := 0) rfl rfl) d_Model_initGrade_25 kc_Model_write ki_Model kl_Model_62 kn_Model_write kx_Model_write (n := 1) rfl (by decide +kernel) ⟨Nat.le_of_ble_eq_true rfl, Nat.le_of_ble_eq_true rfl⟩ rfl rfl (Nat.le_of_ble_eq_true rfl) ⟨Nat.zero_le _, Nat.zero_le _⟩ (fun H locs hP hD hS => ?_)
    have hP : va_P D classes (M13 cI cZ o o1 o2 o3 o4 o5 o6 o7 o8 o9 o10 o11 o12 (m_M_write (17 : Int32) g3)) H := hP
    have hD : va_D A (M13 cI cZ o o1 o2 o3 o4 o5 o6 o7 o8 o9 o10 o11 o12 (m_M_write (17 : Int32) g3)) := hD
    obtain ⟨g4, hg4⟩ : ∃ z, (m_M_write (17 : Int32) g3) = z := ⟨_, rfl⟩
    rw [hg4] at hP hD
    refine lv_aload_n hx hb d_Model_initGrade_28 rfl (lv_at hl 0 rfl) ?_
    refine lv_bipush (v := (14 : Int32)) hx hb d_Model_initGrade_29 (by decide) ?_
    refine CMv.callV (wc := M13 cI cZ o o1 o2 o3 o4 o5 o6 o7 o8 o9 o10 o11 o12 g4) (wr := []) (b := o) (av := [.int (14 : Int32)]) (rest := []) hx hb hml hown hk (c_M_ends l D cI cZ o o1 o2 o3 o4 o5 o6 o7 o8 o9 o10 o11 o12 (14 : Int32) g4 (by unfold vp_in; decide) (okM_mono (okM_eq hg4 (okM_write (okM_eq hg3 (okM_write (okM_eq hg2 (okM_write (okM_eq hg1 (okM_begins ho)))))))) (by decide)) _ rfl) hK hP hD hS hA hSt hl.1 (va_recv hK hP (ci := 2) (q0 := 0) rfl rfl) d_Model_initGrade_31 kc_Model_ends ki_Model kl_Model_66 kn_Model_ends kx_Model_ends (n := 1) rfl (by decide +kernel) ⟨Nat.le_of_ble_eq_true rfl, Nat.le_of_ble_eq_true rfl⟩ rfl rfl (Nat.le_of_ble_eq_true rfl) ⟨Nat.zero_le _, Nat.zero_le _⟩ (fun H locs hP hD hS => ?_)
    have hP : va_P D classes (M13 cI cZ o o1 o2 o3 o4 o5 o6 o7 o8 o9 o10 o11 o12 (m_M_ends (14 : Int32) g4)) H := hP
    have hD : va_D A (M13 cI cZ o o1 o2 o3 o4 o5 o6 o7 o8 o9 o10 o11 o12 (m_M_ends (14 : Int32) g4)) := hD
    obtain ⟨g5, hg5⟩ : ∃ z, (m_M_ends (14 : Int32) g4) = z := ⟨_, rfl⟩
    rw [hg5] at hP hD
    subst hg5
    subst hg4
    subst hg3
    subst hg2
    subst hg1
    obtain rfl : (m_M_ends (14 : Int32) (m_M_write (17 : Int32) (m_M_write (16 : Int32) (m_M_write (16 : Int32) ((m_M_begins (14 : Int32) md).1))))) = res := (Eq.symm ((if_neg c_6).trans rfl)).trans hres
    exact CMv_ret hx hb hr hlocks hP hK hD hS d_Model_initGrade_34
  · subst hg1
    obtain rfl : ((m_M_begins (14 : Int32) md).1) = res := (Eq.symm ((if_pos c_6).trans rfl)).trans hres
    exact CMv_ret hx hb hr hlocks hP hK hD hS d_Model_initGrade_9
set_option maxHeartbeats 4000000 in
set_option maxRecDepth 100000 in
theorem c_M_initChecked (l : Launch) (D : va_G) (cI cZ : ClassId) (o o1 o2 o3 o4 o5 o6 o7 o8 o9 o10 o11 o12 : Nat)   (md : MM) (ho : okM 1 md) (res : MM) (hres : m_M_initChecked md = res) : CMv l y_Model_initChecked b_Model_initChecked 1 ({ frames := 1, cells := 0, slots := 0, locals := 21 }) D (tyZ cI cZ) [.ref o] (M13 cI cZ o o1 o2 o3 o4 o5 o6 o7 o8 o9 o10 o11 o12 md) (M13 cI cZ o o1 o2 o3 o4 o5 o6 o7 o8 o9 o10 o11 o12 res) := by
  refine CMv_mk (by decide) (Nat.le_of_ble_eq_true rfl) ?_
  intro p e s m args below meth c A ls hx hb hr hml hown hk hlocks hA hSt hK hP hD hS hl
  have hown : s.vm.findClass R_Model = some m.cls := hown
  have hl : lv_has ls 1 [(0, .ref o)] := hl
  refine lv_aload_n hx hb d_Model_initChecked_0 rfl (lv_at hl 0 rfl) ?_
  refine lv_bipush (v := (15 : Int32)) hx hb d_Model_initChecked_1 (by decide) ?_
  refine CM.callV (wc := M13 cI cZ o o1 o2 o3 o4 o5 o6 o7 o8 o9 o10 o11 o12 md) (wr := []) (b := o) (av := [.int (15 : Int32)]) (rest := []) hx hb hml hown hk (c_M_begins l D cI cZ o o1 o2 o3 o4 o5 o6 o7 o8 o9 o10 o11 o12 (15 : Int32) md (by unfold vp_in; decide) (okM_mono ho (by decide)) _ _ (pe2 _)) hK hP hD hS hA hSt hl.1 (va_recv hK hP (ci := 2) (q0 := 0) rfl rfl) d_Model_initChecked_3 kc_Model_begins ki_Model kl_Model_58 kn_Model_begins kx_Model_begins (n := 1) rfl (by decide +kernel) ⟨Nat.le_of_ble_eq_true rfl, Nat.le_of_ble_eq_true rfl⟩ rfl rfl (Nat.le_of_ble_eq_true rfl) ⟨Nat.zero_le _, Nat.zero_le _⟩ (fun H locs hP hD hS => ?_)
  have hP : va_P D classes (M13 cI cZ o o1 o2 o3 o4 o5 o6 o7 o8 o9 o10 o11 o12 ((m_M_begins (15 : Int32) md).1)) H := hP
  have hD : va_D A (M13 cI cZ o o1 o2 o3 o4 o5 o6 o7 o8 o9 o10 o11 o12 ((m_M_begins (15 : Int32) md).1)) := hD
  obtain ⟨g1, hg1⟩ : ∃ z, (m_M_begins (15 : Int32) md).1 = z := ⟨_, rfl⟩
  rw [hg1] at hP hD
  refine lv_if_ne (tgt := 10) hx hb d_Model_initChecked_6 (by decide) (fun c_6 => ?_) (fun c_6 => ?_)
  · refine lv_aload_n hx hb d_Model_initChecked_10 rfl (lv_at hl 0 rfl) ?_
    refine va_get (D := D) (ci := 2) (v := .ref o10) (C := R_Model) (T := F_Model) (N := 14) hx hb hk i_Model hown hK hP 0 rfl rfl 9 (by decide) (hk _ kl_Model_38) (fun _ h9 => h9) rfl d_Model_initChecked_11 ?_
    refine lv_aload_n hx hb d_Model_initChecked_14 rfl (lv_at hl 0 rfl) ?_
    refine va_get (D := D) (ci := 2) (v := .int (aWc g1)) (C := R_Model) (T := F_Model) (N := 14) hx hb hk i_Model hown hK hP 0 rfl rfl 11 (by decide) (hk _ kl_Model_41) (fun _ h9 => h9) rfl d_Model_initChecked_15 ?_
    refine lv_aload_n hx hb d_Model_initChecked_18 rfl (lv_at hl 0 rfl) ?_
    refine va_get (D := D) (ci := 2) (v := .ref o9) (C := R_Model) (T := F_Model) (N := 14) hx hb hk i_Model hown hK hP 0 rfl rfl 8 (by decide) (hk _ kl_Model_34) (fun _ h9 => h9) rfl d_Model_initChecked_19 ?_
    refine lv_aload_n hx hb d_Model_initChecked_22 rfl (lv_at hl 0 rfl) ?_
    refine va_get (D := D) (ci := 2) (v := .int (aWc g1)) (C := R_Model) (T := F_Model) (N := 14) hx hb hk i_Model hown hK hP 0 rfl rfl 11 (by decide) (hk _ kl_Model_41) (fun _ h9 => h9) rfl d_Model_initChecked_23 ?_
    refine va_zald hx hb hK hP 9 1 rfl rfl (okM_eq hg1 (okM_begins ho)).1 d_Model_initChecked_26 ?_
    refine va_zast hx hb hK hP hD hS 10 1 rfl rfl (okM_eq hg1 (okM_begins ho)).1 d_Model_initChecked_27 (fun H locs hP hD hS => ?_)
    have hP : va_P D classes (M13 cI cZ o o1 o2 o3 o4 o5 o6 o7 o8 o9 o10 o11 o12 (uSe g1 (upd ((aSe g1)) (aWc g1).toNatClampNeg (vp_nar .boolean ((aSw g1) (aWc g1).toNatClampNeg))))) H := hP
    have hD : va_D A (M13 cI cZ o o1 o2 o3 o4 o5 o6 o7 o8 o9 o10 o11 o12 (uSe g1 (upd ((aSe g1)) (aWc g1).toNatClampNeg (vp_nar .boolean ((aSw g1) (aWc g1).toNatClampNeg))))) := hD
    refine lv_aload_n hx hb d_Model_initChecked_28 rfl (lv_at hl 0 rfl) ?_
    refine lv_bipush (v := (18 : Int32)) hx hb d_Model_initChecked_29 (by decide) ?_
    refine CMv.callV (wc := M13 cI cZ o o1 o2 o3 o4 o5 o6 o7 o8 o9 o10 o11 o12 (uSe g1 (upd ((aSe g1)) (aWc g1).toNatClampNeg (vp_nar .boolean ((aSw g1) (aWc g1).toNatClampNeg))))) (wr := []) (b := o) (av := [.int (18 : Int32)]) (rest := []) hx hb hml hown hk (c_M_write l D cI cZ o o1 o2 o3 o4 o5 o6 o7 o8 o9 o10 o11 o12 (18 : Int32) (uSe g1 (upd ((aSe g1)) (aWc g1).toNatClampNeg (vp_nar .boolean ((aSw g1) (aWc g1).toNatClampNeg)))) (okM_mono (okM_uSe (okM_eq hg1 (okM_begins ho))) (by decide)) _ rfl) hK hP hD hS hA hSt hl.1 (va_recv hK hP (ci := 2) (q0 := 0) rfl rfl) d_Model_initChecked_31 kc_Model_write ki_Model kl_Model_62 kn_Model_write kx_Model_write (n := 1) rfl (by decide +kernel) ⟨Nat.le_of_ble_eq_true rfl, Nat.le_of_ble_eq_true rfl⟩ rfl rfl (Nat.le_of_ble_eq_true rfl) ⟨Nat.zero_le _, Nat.zero_le _⟩ (fun H locs hP hD hS => ?_)
    have hP : va_P D classes (M13 cI cZ o o1 o2 o3 o4 o5 o6 o7 o8 o9 o10 o11 o12 (m_M_write (18 : Int32) (uSe g1 (upd ((aSe g1)) (aWc g1).toNatClampNeg (vp_nar .boolean ((aSw g1) (aWc g1).toNatClampNeg)))))) H := hP
    have hD : va_D A (M13 cI cZ o o1 o2 o3 o4 o5 o6 o7 o8 o9 o10 o11 o12 (m_M_write (18 : Int32) (uSe g1 (upd ((aSe g1)) (aWc g1).toNatClampNeg (vp_nar .boolean ((aSw g1) (aWc g1).toNatClampNeg)))))) := hD
    obtain ⟨g2, hg2⟩ : ∃ z, (m_M_write (18 : Int32) (uSe g1 (upd ((aSe g1)) (aWc g1).toNatClampNeg (vp_nar .boolean ((aSw g1) (aWc g1).toNatClampNeg))))) = z := ⟨_, rfl⟩
    rw [hg2] at hP hD
    refine lv_aload_n hx hb d_Model_initChecked_34 rfl (lv_at hl 0 rfl) ?_
    refine lv_bipush (v := (15 : Int32)) hx hb d_Model_initChecked_35 (by decide) ?_
    refine CMv.callV (wc := M13 cI cZ o o1 o2 o3 o4 o5 o6 o7 o8 o9 o10 o11 o12 g2) (wr := []) (b := o) (av := [.int (15 : Int32)]) (rest := []) hx hb hml hown hk (c_M_ends l D cI cZ o o1 o2 o3 o4 o5 o6 o7 o8 o9 o10 o11 o12 (15 : Int32) g2 (by unfold vp_in; decide) (okM_mono (okM_eq hg2 (okM_write (okM_uSe (okM_eq hg1 (okM_begins ho))))) (by decide)) _ rfl) hK hP hD hS hA hSt hl.1 (va_recv hK hP (ci := 2) (q0 := 0) rfl rfl) d_Model_initChecked_37 kc_Model_ends ki_Model kl_Model_66 kn_Model_ends kx_Model_ends (n := 1) rfl (by decide +kernel) ⟨Nat.le_of_ble_eq_true rfl, Nat.le_of_ble_eq_true rfl⟩ rfl rfl (Nat.le_of_ble_eq_true rfl) ⟨Nat.zero_le _, Nat.zero_le _⟩ (fun H locs hP hD hS => ?_)
    have hP : va_P D classes (M13 cI cZ o o1 o2 o3 o4 o5 o6 o7 o8 o9 o10 o11 o12 (m_M_ends (15 : Int32) g2)) H := hP
    have hD : va_D A (M13 cI cZ o o1 o2 o3 o4 o5 o6 o7 o8 o9 o10 o11 o12 (m_M_ends (15 : Int32) g2)) := hD
    obtain ⟨g3, hg3⟩ : ∃ z, (m_M_ends (15 : Int32) g2) = z := ⟨_, rfl⟩
    rw [hg3] at hP hD
    subst hg3
    subst hg2
    subst hg1
    obtain rfl : (m_M_ends (15 : Int32) (m_M_write (18 : Int32) (uSe ((m_M_begins (15 : Int32) md).1) (upd ((aSe ((m_M_begins (15 : Int32) md).1))) (aWc ((m_M_begins (15 : Int32) md).1)).toNatClampNeg (vp_nar .boolean ((aSw ((m_M_begins (15 : Int32) md).1)) (aWc ((m_M_begins (15 : Int32) md).1)).toNatClampNeg)))))) = res := (Eq.symm ((if_neg c_6).trans rfl)).trans hres
    exact CMv_ret hx hb hr hlocks hP hK hD hS d_Model_initChecked_40
  · subst hg1
    obtain rfl : ((m_M_begins (15 : Int32) md).1) = res := (Eq.symm ((if_pos c_6).trans rfl)).trans hres
    exact CMv_ret hx hb hr hlocks hP hK hD hS d_Model_initChecked_9
set_option maxHeartbeats 4000000 in
set_option maxRecDepth 100000 in
theorem c_M_initSlow (l : Launch) (D : va_G) (cI cZ : ClassId) (o o1 o2 o3 o4 o5 o6 o7 o8 o9 o10 o11 o12 : Nat)   (md : MM) (ho : okM 1 md) (res : MM) (hres : m_M_initSlow md = res) : CMv l y_Model_initSlow b_Model_initSlow 1 ({ frames := 1, cells := 0, slots := 0, locals := 21 }) D (tyZ cI cZ) [.ref o] (M13 cI cZ o o1 o2 o3 o4 o5 o6 o7 o8 o9 o10 o11 o12 md) (M13 cI cZ o o1 o2 o3 o4 o5 o6 o7 o8 o9 o10 o11 o12 res) := by
  refine CMv_mk (by decide) (Nat.le_of_ble_eq_true rfl) ?_
  intro p e s m args below meth c A ls hx hb hr hml hown hk hlocks hA hSt hK hP hD hS hl
  have hown : s.vm.findClass R_Model = some m.cls := hown
  have hl : lv_has ls 1 [(0, .ref o)] := hl
  refine lv_aload_n hx hb d_Model_initSlow_0 rfl (lv_at hl 0 rfl) ?_
  refine lv_bipush (v := (16 : Int32)) hx hb d_Model_initSlow_1 (by decide) ?_
  refine CM.callV (wc := M13 cI cZ o o1 o2 o3 o4 o5 o6 o7 o8 o9 o10 o11 o12 md) (wr := []) (b := o) (av := [.int (16 : Int32)]) (rest := []) hx hb hml hown hk (c_M_begins l D cI cZ o o1 o2 o3 o4 o5 o6 o7 o8 o9 o10 o11 o12 (16 : Int32) md (by unfold vp_in; decide) (okM_mono ho (by decide)) _ _ (pe2 _)) hK hP hD hS hA hSt hl.1 (va_recv hK hP (ci := 2) (q0 := 0) rfl rfl) d_Model_initSlow_3 kc_Model_begins ki_Model kl_Model_58 kn_Model_begins kx_Model_begins (n := 1) rfl (by decide +kernel) ⟨Nat.le_of_ble_eq_true rfl, Nat.le_of_ble_eq_true rfl⟩ rfl rfl (Nat.le_of_ble_eq_true rfl) ⟨Nat.zero_le _, Nat.zero_le _⟩ (fun H locs hP hD hS => ?_)
  have hP : va_P D classes (M13 cI cZ o o1 o2 o3 o4 o5 o6 o7 o8 o9 o10 o11 o12 ((m_M_begins (16 : Int32) md).1)) H := hP
  have hD : va_D A (M13 cI cZ o o1 o2 o3 o4 o5 o6 o7 o8 o9 o10 o11 o12 ((m_M_begins (16 : Int32) md).1)) := hD
  obtain ⟨g1, hg1⟩ : ∃ z, (m_M_begins (16 : Int32) md).1 = z := ⟨_, rfl⟩
  rw [hg1] at hP hD
  refine lv_if_ne (tgt := 10) hx hb d_Model_initSlow_6 (by decide) (fun c_6 => ?_) (fun c_6 => ?_)
  · refine lv_aload_n hx hb d_Model_initSlow_10 rfl (lv_at hl 0 rfl) ?_
    refine lv_bipush (v := (19 : Int32)) hx hb d_Model_initSlow_11 (by decide) ?_
    refine CMv.callV (wc := M13 cI cZ o o1 o2 o3 o4 o5 o6 o7 o8 o9 o10 o11 o12 g1) (wr := []) (b := o) (av := [.int (19 : Int32)]) (rest := []) hx hb hml hown hk (c_M_write l D cI cZ o o1 o2 o3 o4 o5 o6 o7 o8 o9 o10 o11 o12 (19 : Int32) g1 (okM_mono (okM_eq hg1 (okM_begins ho)) (by decide)) _ rfl) hK hP hD hS hA hSt hl.1 (va_recv hK hP (ci := 2) (q0 := 0) rfl rfl) d_Model_initSlow_13 kc_Model_write ki_Model kl_Model_62 kn_Model_write kx_Model_write (n := 1) rfl (by decide +kernel) ⟨Nat.le_of_ble_eq_true rfl, Nat.le_of_ble_eq_true rfl⟩ rfl rfl (Nat.le_of_ble_eq_true rfl) ⟨Nat.zero_le _, Nat.zero_le _⟩ (fun H locs hP hD hS => ?_)
    have hP : va_P D classes (M13 cI cZ o o1 o2 o3 o4 o5 o6 o7 o8 o9 o10 o11 o12 (m_M_write (19 : Int32) g1)) H := hP
    have hD : va_D A (M13 cI cZ o o1 o2 o3 o4 o5 o6 o7 o8 o9 o10 o11 o12 (m_M_write (19 : Int32) g1)) := hD
    obtain ⟨g2, hg2⟩ : ∃ z, (m_M_write (19 : Int32) g1) = z := ⟨_, rfl⟩
    rw [hg2] at hP hD
    refine lv_aload_n hx hb d_Model_initSlow_16 rfl (lv_at hl 0 rfl) ?_
    refine va_get (D := D) (ci := 2) (v := .ref o6) (C := R_Model) (T := F_Model) (N := 14) hx hb hk i_Model hown hK hP 0 rfl rfl 5 (by decide) (hk _ kl_Model_25) (fun _ h9 => h9) rfl d_Model_initSlow_17 ?_
    refine lv_aload_n hx hb d_Model_initSlow_20 rfl (lv_at hl 0 rfl) ?_
    refine va_get (D := D) (ci := 2) (v := .int (aWc g2)) (C := R_Model) (T := F_Model) (N := 14) hx hb hk i_Model hown hK hP 0 rfl rfl 11 (by decide) (hk _ kl_Model_41) (fun _ h9 => h9) rfl d_Model_initSlow_21 ?_
    refine lv_bipush (v := (19 : Int32)) hx hb d_Model_initSlow_24 (by decide) ?_
    refine va_iast hx hb hK hP hD hS 6 0 rfl rfl (okM_eq hg2 (okM_write (okM_eq hg1 (okM_begins ho)))).1 d_Model_initSlow_26 (fun H locs hP hD hS => ?_)
    have hP : va_P D classes (M13 cI cZ o o1 o2 o3 o4 o5 o6 o7 o8 o9 o10 o11 o12 (uMa g2 (upd ((aMa g2)) (aWc g2).toNatClampNeg (19 : Int32)))) H := hP
    have hD : va_D A (M13 cI cZ o o1 o2 o3 o4 o5 o6 o7 o8 o9 o10 o11 o12 (uMa g2 (upd ((aMa g2)) (aWc g2).toNatClampNeg (19 : Int32)))) := hD
    refine lv_aload_n hx hb d_Model_initSlow_27 rfl (lv_at hl 0 rfl) ?_
    refine lv_bipush (v := (16 : Int32)) hx hb d_Model_initSlow_28 (by decide) ?_
    refine CMv.callV (wc := M13 cI cZ o o1 o2 o3 o4 o5 o6 o7 o8 o9 o10 o11 o12 (uMa g2 (upd ((aMa g2)) (aWc g2).toNatClampNeg (19 : Int32)))) (wr := []) (b := o) (av := [.int (16 : Int32)]) (rest := []) hx hb hml hown hk (c_M_ends l D cI cZ o o1 o2 o3 o4 o5 o6 o7 o8 o9 o10 o11 o12 (16 : Int32) (uMa g2 (upd ((aMa g2)) (aWc g2).toNatClampNeg (19 : Int32))) (by unfold vp_in; decide) (okM_mono (okM_uMa (okM_eq hg2 (okM_write (okM_eq hg1 (okM_begins ho))))) (by decide)) _ rfl) hK hP hD hS hA hSt hl.1 (va_recv hK hP (ci := 2) (q0 := 0) rfl rfl) d_Model_initSlow_30 kc_Model_ends ki_Model kl_Model_66 kn_Model_ends kx_Model_ends (n := 1) rfl (by decide +kernel) ⟨Nat.le_of_ble_eq_true rfl, Nat.le_of_ble_eq_true rfl⟩ rfl rfl (Nat.le_of_ble_eq_true rfl) ⟨Nat.zero_le _, Nat.zero_le _⟩ (fun H locs hP hD hS => ?_)
    have hP : va_P D classes (M13 cI cZ o o1 o2 o3 o4 o5 o6 o7 o8 o9 o10 o11 o12 (m_M_ends (16 : Int32) (uMa g2 (upd ((aMa g2)) (aWc g2).toNatClampNeg (19 : Int32))))) H := hP
    have hD : va_D A (M13 cI cZ o o1 o2 o3 o4 o5 o6 o7 o8 o9 o10 o11 o12 (m_M_ends (16 : Int32) (uMa g2 (upd ((aMa g2)) (aWc g2).toNatClampNeg (19 : Int32))))) := hD
    obtain ⟨g3, hg3⟩ : ∃ z, (m_M_ends (16 : Int32) (uMa g2 (upd ((aMa g2)) (aWc g2).toNatClampNeg (19 : Int32)))) = z := ⟨_, rfl⟩
    rw [hg3] at hP hD
    subst hg3
    subst hg2
    subst hg1
    obtain rfl : (m_M_ends (16 : Int32) (uMa (m_M_write (19 : Int32) ((m_M_begins (16 : Int32) md).1)) (upd ((aMa (m_M_write (19 : Int32) ((m_M_begins (16 : Int32) md).1)))) (aWc (m_M_write (19 : Int32) ((m_M_begins (16 : Int32) md).1))).toNatClampNeg (19 : Int32)))) = res := (Eq.symm ((if_neg c_6).trans rfl)).trans hres
    exact CMv_ret hx hb hr hlocks hP hK hD hS d_Model_initSlow_33
  · subst hg1
    obtain rfl : ((m_M_begins (16 : Int32) md).1) = res := (Eq.symm ((if_pos c_6).trans rfl)).trans hres
    exact CMv_ret hx hb hr hlocks hP hK hD hS d_Model_initSlow_9

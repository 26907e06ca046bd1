set_option maxHeartbeats 4000000 in
set_option maxRecDepth 100000 in
theorem c_M_init (l : Launch) (D : va_G) (cI cZ : ClassId) (o o1 o2 o3 o4 o5 o6 o7 o8 o9 o10 o11 o12 : Nat)   (k : Int32) (md : MM) (ho : okM 6 md) (z1 : MM) (z2 : Int32) (hres : m_M_init k md = (z1, z2)) : CM l y_Model_initk b_Model_initk 2 .int ({ frames := 4, cells := 0, slots := 0, locals := 83 }) D (tyZ cI cZ) [.ref o, .int k] (M13 cI cZ o o1 o2 o3 o4 o5 o6 o7 o8 o9 o10 o11 o12 md) z2 (M13 cI cZ o o1 o2 o3 o4 o5 o6 o7 o8 o9 o10 o11 o12 z1) := by
  refine CM_mk (by decide) (Nat.le_of_ble_eq_true rfl) ?_
  intro p e s m args below meth c A ls hx hb hr hml hown hk hlocks hA hSt hK hP hD hS hl
  have hown : s.vm.findClass R_Model = some m.cls := hown
  have hl : lv_has ls 2 [(0, .ref o), (1, .int k)] := hl
  refine lv_iload_n hx hb d_Model_initk_0 rfl (lv_at hl 1 rfl) ?_
  rcases Decidable.em (k = 0) with e_1_0 | e_1_0
  · subst e_1_0
    refine lv_tableIn (tgt := 80) hx hb d_Model_initk_1 (by decide) (by decide) rfl (by decide) ?_
    refine lv_aload_n hx hb d_Model_initk_80 rfl (lv_at hl 0 rfl) ?_
    refine CMv.callV (wc := M13 cI cZ o o1 o2 o3 o4 o5 o6 o7 o8 o9 o10 o11 o12 md) (wr := []) (b := o) (av := []) (rest := []) hx hb hml hown hk (c_M_initBase l D cI cZ o o1 o2 o3 o4 o5 o6 o7 o8 o9 o10 o11 o12 md (okM_mono ho (by decide)) _ rfl) hK hP hD hS hA hSt hl.1 (va_recv hK hP (ci := 2) (q0 := 0) rfl rfl) d_Model_initk_81 kc_Model_initBase ki_Model kl_Model_69 kn_Model_initBase kx_Model_initBase (n := 0) rfl (by decide +kernel) ⟨Nat.le_of_ble_eq_true rfl, Nat.le_of_ble_eq_true rfl⟩ rfl rfl (Nat.le_of_ble_eq_true rfl) ⟨Nat.zero_le _, Nat.zero_le _⟩ (fun H locs hP hD hS => ?_)
    have hP : va_P D classes (M13 cI cZ o o1 o2 o3 o4 o5 o6 o7 o8 o9 o10 o11 o12 (m_M_initBase md)) H := hP
    have hD : va_D A (M13 cI cZ o o1 o2 o3 o4 o5 o6 o7 o8 o9 o10 o11 o12 (m_M_initBase md)) := hD
    obtain ⟨g1, hg1⟩ : ∃ z, (m_M_initBase md) = z := ⟨_, rfl⟩
    rw [hg1] at hP hD
    refine lv_goto (tgt := 209) hx hb d_Model_initk_84 (by decide) ?_
    refine lv_iconst (v := (0 : Int32)) hx hb d_Model_initk_209 (by decide) ?_
    subst hg1
    obtain ⟨rfl, rfl⟩ : (m_M_initBase md) = z1 ∧ (0 : Int32) = z2 := Prod.mk.inj ((Eq.symm ((if_pos (by rfl)).trans rfl)).trans hres)
    exact CM_iret hx hb hr hlocks hP hK hD hS d_Model_initk_210
  rcases Decidable.em (k = 1) with e_1_1 | e_1_1
  · subst e_1_1
    refine lv_tableIn (tgt := 87) hx hb d_Model_initk_1 (by decide) (by decide) rfl (by decide) ?_
    refine lv_aload_n hx hb d_Model_initk_87 rfl (lv_at hl 0 rfl) ?_
    refine CMv.callV (wc := M13 cI cZ o o1 o2 o3 o4 o5 o6 o7 o8 o9 o10 o11 o12 md) (wr := []) (b := o) (av := []) (rest := []) hx hb hml hown hk (c_M_initMiddle l D cI cZ o o1 o2 o3 o4 o5 o6 o7 o8 o9 o10 o11 o12 md (okM_mono ho (by decide)) _ rfl) hK hP hD hS hA hSt hl.1 (va_recv hK hP (ci := 2) (q0 := 0) rfl rfl) d_Model_initk_88 kc_Model_initMiddle ki_Model kl_Model_76 kn_Model_initMiddle kx_Model_initMiddle (n := 0) rfl (by decide +kernel) ⟨Nat.le_of_ble_eq_true rfl, Nat.le_of_ble_eq_true rfl⟩ rfl rfl (Nat.le_of_ble_eq_true rfl) ⟨Nat.zero_le _, Nat.zero_le _⟩ (fun H locs hP hD hS => ?_)
    have hP : va_P D classes (M13 cI cZ o o1 o2 o3 o4 o5 o6 o7 o8 o9 o10 o11 o12 (m_M_initMiddle md)) H := hP
    have hD : va_D A (M13 cI cZ o o1 o2 o3 o4 o5 o6 o7 o8 o9 o10 o11 o12 (m_M_initMiddle md)) := hD
    obtain ⟨g2, hg2⟩ : ∃ z, (m_M_initMiddle md) = z := ⟨_, rfl⟩
    rw [hg2] at hP hD
    refine lv_goto (tgt := 209) hx hb d_Model_initk_91 (by decide) ?_
    refine lv_iconst (v := (0 : Int32)) hx hb d_Model_initk_209 (by decide) ?_
    subst hg2
    obtain ⟨rfl, rfl⟩ : (m_M_initMiddle md) = z1 ∧ (0 : Int32) = z2 := Prod.mk.inj ((Eq.symm ((if_neg e_1_0).trans ((if_pos (by rfl)).trans rfl))).trans hres)
    exact CM_iret hx hb hr hlocks hP hK hD hS d_Model_initk_210
  rcases Decidable.em (k = 2) with e_1_2 | e_1_2
  · subst e_1_2
    refine lv_tableIn (tgt := 94) hx hb d_Model_initk_1 (by decide) (by decide) rfl (by decide) ?_
    refine lv_aload_n hx hb d_Model_initk_94 rfl (lv_at hl 0 rfl) ?_
    refine CMv.callV (wc := M13 cI cZ o o1 o2 o3 o4 o5 o6 o7 o8 o9 o10 o11 o12 md) (wr := []) (b := o) (av := []) (rest := []) hx hb hml hown hk (c_M_initLeaf l D cI cZ o o1 o2 o3 o4 o5 o6 o7 o8 o9 o10 o11 o12 md (okM_mono ho (by decide)) _ rfl) hK hP hD hS hA hSt hl.1 (va_recv hK hP (ci := 2) (q0 := 0) rfl rfl) d_Model_initk_95 kc_Model_initLeaf ki_Model kl_Model_83 kn_Model_initLeaf kx_Model_initLeaf (n := 0) rfl (by decide +kernel) ⟨Nat.le_of_ble_eq_true rfl, Nat.le_of_ble_eq_true rfl⟩ rfl rfl (Nat.le_of_ble_eq_true rfl) ⟨Nat.zero_le _, Nat.zero_le _⟩ (fun H locs hP hD hS => ?_)
    have hP : va_P D classes (M13 cI cZ o o1 o2 o3 o4 o5 o6 o7 o8 o9 o10 o11 o12 (m_M_initLeaf md)) H := hP
    have hD : va_D A (M13 cI cZ o o1 o2 o3 o4 o5 o6 o7 o8 o9 o10 o11 o12 (m_M_initLeaf md)) := hD
    obtain ⟨g3, hg3⟩ : ∃ z, (m_M_initLeaf md) = z := ⟨_, rfl⟩
    rw [hg3] at hP hD
    refine lv_goto (tgt := 209) hx hb d_Model_initk_98 (by decide) ?_
    refine lv_iconst (v := (0 : Int32)) hx hb d_Model_initk_209 (by decide) ?_
    subst hg3
    obtain ⟨rfl, rfl⟩ : (m_M_initLeaf md) = z1 ∧ (0 : Int32) = z2 := Prod.mk.inj ((Eq.symm ((if_neg e_1_0).trans ((if_neg e_1_1).trans ((if_pos (by rfl)).trans rfl)))).trans hres)
    exact CM_iret hx hb hr hlocks hP hK hD hS d_Model_initk_210
  rcases Decidable.em (k = 3) with e_1_3 | e_1_3
  · subst e_1_3
    refine lv_tableIn (tgt := 101) hx hb d_Model_initk_1 (by decide) (by decide) rfl (by decide) ?_
    refine lv_aload_n hx hb d_Model_initk_101 rfl (lv_at hl 0 rfl) ?_
    refine lv_iconst (v := (3 : Int32)) hx hb d_Model_initk_102 (by decide) ?_
    refine lv_iconst (v := (4 : Int32)) hx hb d_Model_initk_103 (by decide) ?_
    refine CMv.callV (wc := M13 cI cZ o o1 o2 o3 o4 o5 o6 o7 o8 o9 o10 o11 o12 md) (wr := []) (b := o) (av := [.int (3 : Int32), .int (4 : Int32)]) (rest := []) hx hb hml hown hk (c_M_initAlone l D cI cZ o o1 o2 o3 o4 o5 o6 o7 o8 o9 o10 o11 o12 (3 : Int32) (4 : Int32) md (by unfold vp_in; decide) (okM_mono ho (by decide)) _ rfl) hK hP hD hS hA hSt hl.1 (va_recv hK hP (ci := 2) (q0 := 0) rfl rfl) d_Model_initk_104 kc_Model_initAlone ki_Model kl_Model_72 kn_Model_initAlone kx_Model_initAlone (n := 2) rfl (by decide +kernel) ⟨Nat.le_of_ble_eq_true rfl, Nat.le_of_ble_eq_true rfl⟩ rfl rfl (Nat.le_of_ble_eq_true rfl) ⟨Nat.zero_le _, Nat.zero_le _⟩ (fun H locs hP hD hS => ?_)
    have hP : va_P D classes (M13 cI cZ o o1 o2 o3 o4 o5 o6 o7 o8 o9 o10 o11 o12 (m_M_initAlone (3 : Int32) (4 : Int32) md)) H := hP
    have hD : va_D A (M13 cI cZ o o1 o2 o3 o4 o5 o6 o7 o8 o9 o10 o11 o12 (m_M_initAlone (3 : Int32) (4 : Int32) md)) := hD
    obtain ⟨g4, hg4⟩ : ∃ z, (m_M_initAlone (3 : Int32) (4 : Int32) md) = z := ⟨_, rfl⟩
    rw [hg4] at hP hD
    refine lv_goto (tgt := 209) hx hb d_Model_initk_107 (by decide) ?_
    refine lv_iconst (v := (0 : Int32)) hx hb d_Model_initk_209 (by decide) ?_
    subst hg4
    obtain ⟨rfl, rfl⟩ : (m_M_initAlone (3 : Int32) (4 : Int32) md) = z1 ∧ (0 : Int32) = z2 := Prod.mk.inj ((Eq.symm ((if_neg e_1_0).trans ((if_neg e_1_1).trans ((if_neg e_1_2).trans ((if_pos (by rfl)).trans rfl))))).trans hres)
    exact CM_iret hx hb hr hlocks hP hK hD hS d_Model_initk_210
  rcases Decidable.em (k = 4) with e_1_4 | e_1_4
  · subst e_1_4
    refine lv_tableIn (tgt := 110) hx hb d_Model_initk_1 (by decide) (by decide) rfl (by decide) ?_
    refine lv_aload_n hx hb d_Model_initk_110 rfl (lv_at hl 0 rfl) ?_
    refine lv_iconst (v := (4 : Int32)) hx hb d_Model_initk_111 (by decide) ?_
    refine lv_bipush (v := (15 : Int32)) hx hb d_Model_initk_112 (by decide) ?_
    refine CMv.callV (wc := M13 cI cZ o o1 o2 o3 o4 o5 o6 o7 o8 o9 o10 o11 o12 md) (wr := []) (b := o) (av := [.int (4 : Int32), .int (15 : Int32)]) (rest := []) hx hb hml hown hk (c_M_initAlone l D cI cZ o o1 o2 o3 o4 o5 o6 o7 o8 o9 o10 o11 o12 (4 : Int32) (15 : Int32) md (by unfold vp_in; decide) (okM_mono ho (by decide)) _ rfl) hK hP hD hS hA hSt hl.1 (va_recv hK hP (ci := 2) (q0 := 0) rfl rfl) d_Model_initk_114 kc_Model_initAlone ki_Model kl_Model_72 kn_Model_initAlone kx_Model_initAlone (n := 2) rfl (by decide +kernel) ⟨Nat.le_of_ble_eq_true rfl, Nat.le_of_ble_eq_true rfl⟩ rfl rfl (Nat.le_of_ble_eq_true rfl) ⟨Nat.zero_le _, Nat.zero_le _⟩ (fun H locs hP hD hS => ?_)
    have hP : va_P D classes (M13 cI cZ o o1 o2 o3 o4 o5 o6 o7 o8 o9 o10 o11 o12 (m_M_initAlone (4 : Int32) (15 : Int32) md)) H := hP
    have hD : va_D A (M13 cI cZ o o1 o2 o3 o4 o5 o6 o7 o8 o9 o10 o11 o12 (m_M_initAlone (4 : Int32) (15 : Int32) md)) := hD
    obtain ⟨g5, hg5⟩ : ∃ z, (m_M_initAlone (4 : Int32) (15 : Int32) md) = z := ⟨_, rfl⟩
    rw [hg5] at hP hD
    refine lv_goto (tgt := 209) hx hb d_Model_initk_117 (by decide) ?_
    refine lv_iconst (v := (0 : Int32)) hx hb d_Model_initk_209 (by decide) ?_
    subst hg5
    obtain ⟨rfl, rfl⟩ : (m_M_initAlone (4 : Int32) (15 : Int32) md) = z1 ∧ (0 : Int32) = z2 := Prod.mk.inj ((Eq.symm ((if_neg e_1_0).trans ((if_neg e_1_1).trans ((if_neg e_1_2).trans ((if_neg e_1_3).trans ((if_pos (by rfl)).trans rfl)))))).trans hres)
    exact CM_iret hx hb hr hlocks hP hK hD hS d_Model_initk_210
  rcases Decidable.em (k = 5) with e_1_5 | e_1_5
  · subst e_1_5
    refine lv_tableIn (tgt := 120) hx hb d_Model_initk_1 (by decide) (by decide) rfl (by decide) ?_
    refine lv_aload_n hx hb d_Model_initk_120 rfl (lv_at hl 0 rfl) ?_
    refine lv_iconst (v := (5 : Int32)) hx hb d_Model_initk_121 (by decide) ?_
    refine lv_iconst (v := (5 : Int32)) hx hb d_Model_initk_122 (by decide) ?_
    refine CMv.callV (wc := M13 cI cZ o o1 o2 o3 o4 o5 o6 o7 o8 o9 o10 o11 o12 md) (wr := []) (b := o) (av := [.int (5 : Int32), .int (5 : Int32)]) (rest := []) hx hb hml hown hk (c_M_initAlone l D cI cZ o o1 o2 o3 o4 o5 o6 o7 o8 o9 o10 o11 o12 (5 : Int32) (5 : Int32) md (by unfold vp_in; decide) (okM_mono ho (by decide)) _ rfl) hK hP hD hS hA hSt hl.1 (va_recv hK hP (ci := 2) (q0 := 0) rfl rfl) d_Model_initk_123 kc_Model_initAlone ki_Model kl_Model_72 kn_Model_initAlone kx_Model_initAlone (n := 2) rfl (by decide +kernel) ⟨Nat.le_of_ble_eq_true rfl, Nat.le_of_ble_eq_true rfl⟩ rfl rfl (Nat.le_of_ble_eq_true rfl) ⟨Nat.zero_le _, Nat.zero_le _⟩ (fun H locs hP hD hS => ?_)
    have hP : va_P D classes (M13 cI cZ o o1 o2 o3 o4 o5 o6 o7 o8 o9 o10 o11 o12 (m_M_initAlone (5 : Int32) (5 : Int32) md)) H := hP
    have hD : va_D A (M13 cI cZ o o1 o2 o3 o4 o5 o6 o7 o8 o9 o10 o11 o12 (m_M_initAlone (5 : Int32) (5 : Int32) md)) := hD
    obtain ⟨g6, hg6⟩ : ∃ z, (m_M_initAlone (5 : Int32) (5 : Int32) md) = z := ⟨_, rfl⟩
    rw [hg6] at hP hD
    refine lv_goto (tgt := 209) hx hb d_Model_initk_126 (by decide) ?_
    refine lv_iconst (v := (0 : Int32)) hx hb d_Model_initk_209 (by decide) ?_
    subst hg6
    obtain ⟨rfl, rfl⟩ : (m_M_initAlone (5 : Int32) (5 : Int32) md) = z1 ∧ (0 : Int32) = z2 := Prod.mk.inj ((Eq.symm ((if_neg e_1_0).trans ((if_neg e_1_1).trans ((if_neg e_1_2).trans ((if_neg e_1_3).trans ((if_neg e_1_4).trans ((if_pos (by rfl)).trans rfl))))))).trans hres)
    exact CM_iret hx hb hr hlocks hP hK hD hS d_Model_initk_210
  rcases Decidable.em (k = 6) with e_1_6 | e_1_6
  · subst e_1_6
    refine lv_tableIn (tgt := 129) hx hb d_Model_initk_1 (by decide) (by decide) rfl (by decide) ?_
    refine lv_aload_n hx hb d_Model_initk_129 rfl (lv_at hl 0 rfl) ?_
    refine lv_bipush (v := (6 : Int32)) hx hb d_Model_initk_130 (by decide) ?_
    refine lv_bipush (v := (11 : Int32)) hx hb d_Model_initk_132 (by decide) ?_
    refine CMv.callV (wc := M13 cI cZ o o1 o2 o3 o4 o5 o6 o7 o8 o9 o10 o11 o12 md) (wr := []) (b := o) (av := [.int (6 : Int32), .int (11 : Int32)]) (rest := []) hx hb hml hown hk (c_M_initAlone l D cI cZ o o1 o2 o3 o4 o5 o6 o7 o8 o9 o10 o11 o12 (6 : Int32) (11 : Int32) md (by unfold vp_in; decide) (okM_mono ho (by decide)) _ rfl) hK hP hD hS hA hSt hl.1 (va_recv hK hP (ci := 2) (q0 := 0) rfl rfl) d_Model_initk_134 kc_Model_initAlone ki_Model kl_Model_72 kn_Model_initAlone kx_Model_initAlone (n := 2) rfl (by decide +kernel) ⟨Nat.le_of_ble_eq_true rfl, Nat.le_of_ble_eq_true rfl⟩ rfl rfl (Nat.le_of_ble_eq_true rfl) ⟨Nat.zero_le _, Nat.zero_le _⟩ (fun H locs hP hD hS => ?_)
    have hP : va_P D classes (M13 cI cZ o o1 o2 o3 o4 o5 o6 o7 o8 o9 o10 o11 o12 (m_M_initAlone (6 : Int32) (11 : Int32) md)) H := hP
    have hD : va_D A (M13 cI cZ o o1 o2 o3 o4 o5 o6 o7 o8 o9 o10 o11 o12 (m_M_initAlone (6 : Int32) (11 : Int32) md)) := hD
    obtain ⟨g7, hg7⟩ : ∃ z, (m_M_initAlone (6 : Int32) (11 : Int32) md) = z := ⟨_, rfl⟩
    rw [hg7] at hP hD
    refine lv_goto (tgt := 209) hx hb d_Model_initk_137 (by decide) ?_
    refine lv_iconst (v := (0 : Int32)) hx hb d_Model_initk_209 (by decide) ?_
    subst hg7
    obtain ⟨rfl, rfl⟩ : (m_M_initAlone (6 : Int32) (11 : Int32) md) = z1 ∧ (0 : Int32) = z2 := Prod.mk.inj ((Eq.symm ((if_neg e_1_0).trans ((if_neg e_1_1).trans ((if_neg e_1_2).trans ((if_neg e_1_3).trans ((if_neg e_1_4).trans ((if_neg e_1_5).trans ((if_pos (by rfl)).trans rfl)))))))).trans hres)
    exact CM_iret hx hb hr hlocks hP hK hD hS d_Model_initk_210
  rcases Decidable.em (k = 7) with e_1_7 | e_1_7
  · subst e_1_7
    refine lv_tableIn (tgt := 140) hx hb d_Model_initk_1 (by decide) (by decide) rfl (by decide) ?_
    refine lv_aload_n hx hb d_Model_initk_140 rfl (lv_at hl 0 rfl) ?_
    refine CMv.callV (wc := M13 cI cZ o o1 o2 o3 o4 o5 o6 o7 o8 o9 o10 o11 o12 md) (wr := []) (b := o) (av := []) (rest := []) hx hb hml hown hk (c_M_initLoud l D cI cZ o o1 o2 o3 o4 o5 o6 o7 o8 o9 o10 o11 o12 md (okM_mono ho (by decide)) _ rfl) hK hP hD hS hA hSt hl.1 (va_recv hK hP (ci := 2) (q0 := 0) rfl rfl) d_Model_initk_141 kc_Model_initLoud ki_Model kl_Model_86 kn_Model_initLoud kx_Model_initLoud (n := 0) rfl (by decide +kernel) ⟨Nat.le_of_ble_eq_true rfl, Nat.le_of_ble_eq_true rfl⟩ rfl rfl (Nat.le_of_ble_eq_true rfl) ⟨Nat.zero_le _, Nat.zero_le _⟩ (fun H locs hP hD hS => ?_)
    have hP : va_P D classes (M13 cI cZ o o1 o2 o3 o4 o5 o6 o7 o8 o9 o10 o11 o12 (m_M_initLoud md)) H := hP
    have hD : va_D A (M13 cI cZ o o1 o2 o3 o4 o5 o6 o7 o8 o9 o10 o11 o12 (m_M_initLoud md)) := hD
    obtain ⟨g8, hg8⟩ : ∃ z, (m_M_initLoud md) = z := ⟨_, rfl⟩
    rw [hg8] at hP hD
    refine lv_goto (tgt := 209) hx hb d_Model_initk_144 (by decide) ?_
    refine lv_iconst (v := (0 : Int32)) hx hb d_Model_initk_209 (by decide) ?_
    subst hg8
    obtain ⟨rfl, rfl⟩ : (m_M_initLoud md) = z1 ∧ (0 : Int32) = z2 := Prod.mk.inj ((Eq.symm ((if_neg e_1_0).trans ((if_neg e_1_1).trans ((if_neg e_1_2).trans ((if_neg e_1_3).trans ((if_neg e_1_4).trans ((if_neg e_1_5).trans ((if_neg e_1_6).trans ((if_pos (by rfl)).trans rfl))))))))).trans hres)
    exact CM_iret hx hb hr hlocks hP hK hD hS d_Model_initk_210
  rcases Decidable.em (k = 8) with e_1_8 | e_1_8
  · subst e_1_8
    refine lv_tableIn (tgt := 147) hx hb d_Model_initk_1 (by decide) (by decide) rfl (by decide) ?_
    refine lv_aload_n hx hb d_Model_initk_147 rfl (lv_at hl 0 rfl) ?_
    refine CM.callV (wc := M13 cI cZ o o1 o2 o3 o4 o5 o6 o7 o8 o9 o10 o11 o12 md) (wr := []) (b := o) (av := []) (rest := []) hx hb hml hown hk (c_M_initBad l D cI cZ o o1 o2 o3 o4 o5 o6 o7 o8 o9 o10 o11 o12 md (okM_mono ho (by decide)) _ _ (pe2 _)) hK hP hD hS hA hSt hl.1 (va_recv hK hP (ci := 2) (q0 := 0) rfl rfl) d_Model_initk_148 kc_Model_initBad ki_Model kl_Model_79 kn_Model_initBad kx_Model_initBad (n := 0) rfl (by decide +kernel) ⟨Nat.le_of_ble_eq_true rfl, Nat.le_of_ble_eq_true rfl⟩ rfl rfl (Nat.le_of_ble_eq_true rfl) ⟨Nat.zero_le _, Nat.zero_le _⟩ (fun H locs hP hD hS => ?_)
    have hP : va_P D classes (M13 cI cZ o o1 o2 o3 o4 o5 o6 o7 o8 o9 o10 o11 o12 ((m_M_initBad md).1)) H := hP
    have hD : va_D A (M13 cI cZ o o1 o2 o3 o4 o5 o6 o7 o8 o9 o10 o11 o12 ((m_M_initBad md).1)) := hD
    obtain ⟨g9, hg9⟩ : ∃ z, (m_M_initBad md).1 = z := ⟨_, rfl⟩
    rw [hg9] at hP hD
    subst hg9
    obtain ⟨rfl, rfl⟩ : ((m_M_initBad md).1) = z1 ∧ (m_M_initBad md).2 = z2 := Prod.mk.inj ((Eq.symm ((if_neg e_1_0).trans ((if_neg e_1_1).trans ((if_neg e_1_2).trans ((if_neg e_1_3).trans ((if_neg e_1_4).trans ((if_neg e_1_5).trans ((if_neg e_1_6).trans ((if_neg e_1_7).trans ((if_pos (by rfl)).trans rfl)))))))))).trans hres)
    exact CM_iret hx hb hr hlocks hP hK hD hS d_Model_initk_151
  rcases Decidable.em (k = 9) with e_1_9 | e_1_9
  · subst e_1_9
    refine lv_tableIn (tgt := 152) hx hb d_Model_initk_1 (by decide) (by decide) rfl (by decide) ?_
    refine lv_aload_n hx hb d_Model_initk_152 rfl (lv_at hl 0 rfl) ?_
    refine CM.callV (wc := M13 cI cZ o o1 o2 o3 o4 o5 o6 o7 o8 o9 o10 o11 o12 md) (wr := []) (b := o) (av := []) (rest := []) hx hb hml hown hk (c_M_initWorse l D cI cZ o o1 o2 o3 o4 o5 o6 o7 o8 o9 o10 o11 o12 md (okM_mono ho (by decide)) _ _ (pe2 _)) hK hP hD hS hA hSt hl.1 (va_recv hK hP (ci := 2) (q0 := 0) rfl rfl) d_Model_initk_153 kc_Model_initWorse ki_Model kl_Model_89 kn_Model_initWorse kx_Model_initWorse (n := 0) rfl (by decide +kernel) ⟨Nat.le_of_ble_eq_true rfl, Nat.le_of_ble_eq_true rfl⟩ rfl rfl (Nat.le_of_ble_eq_true rfl) ⟨Nat.zero_le _, Nat.zero_le _⟩ (fun H locs hP hD hS => ?_)
    have hP : va_P D classes (M13 cI cZ o o1 o2 o3 o4 o5 o6 o7 o8 o9 o10 o11 o12 ((m_M_initWorse md).1)) H := hP
    have hD : va_D A (M13 cI cZ o o1 o2 o3 o4 o5 o6 o7 o8 o9 o10 o11 o12 ((m_M_initWorse md).1)) := hD
    obtain ⟨g10, hg10⟩ : ∃ z, (m_M_initWorse md).1 = z := ⟨_, rfl⟩
    rw [hg10] at hP hD
    subst hg10
    obtain ⟨rfl, rfl⟩ : ((m_M_initWorse md).1) = z1 ∧ (m_M_initWorse md).2 = z2 := Prod.mk.inj ((Eq.symm ((if_neg e_1_0).trans ((if_neg e_1_1).trans ((if_neg e_1_2).trans ((if_neg e_1_3).trans ((if_neg e_1_4).trans ((if_neg e_1_5).trans ((if_neg e_1_6).trans ((if_neg e_1_7).trans ((if_neg e_1_8).trans ((if_pos (by rfl)).trans rfl))))))))))).trans hres)
    exact CM_iret hx hb hr hlocks hP hK hD hS d_Model_initk_156
  rcases Decidable.em (k = 10) with e_1_10 | e_1_10
  · subst e_1_10
    refine lv_tableIn (tgt := 157) hx hb d_Model_initk_1 (by decide) (by decide) rfl (by decide) ?_
    refine lv_aload_n hx hb d_Model_initk_157 rfl (lv_at hl 0 rfl) ?_
    refine lv_iconst (v := (1 : Int32)) hx hb d_Model_initk_158 (by decide) ?_
    refine CMv.callV (wc := M13 cI cZ o o1 o2 o3 o4 o5 o6 o7 o8 o9 o10 o11 o12 md) (wr := []) (b := o) (av := [.int (1 : Int32)]) (rest := []) hx hb hml hown hk (c_M_initCircle l D cI cZ o o1 o2 o3 o4 o5 o6 o7 o8 o9 o10 o11 o12 true md (okM_mono ho (by decide)) _ rfl) hK hP hD hS hA hSt hl.1 (va_recv hK hP (ci := 2) (q0 := 0) rfl rfl) d_Model_initk_159 kc_Model_initCircle ki_Model kl_Model_92 kn_Model_initCircle kx_Model_initCircle (n := 1) rfl (by decide +kernel) ⟨Nat.le_of_ble_eq_true rfl, Nat.le_of_ble_eq_true rfl⟩ rfl rfl (Nat.le_of_ble_eq_true rfl) ⟨Nat.zero_le _, Nat.zero_le _⟩ (fun H locs hP hD hS => ?_)
    have hP : va_P D classes (M13 cI cZ o o1 o2 o3 o4 o5 o6 o7 o8 o9 o10 o11 o12 (m_M_initCircle true md)) H := hP
    have hD : va_D A (M13 cI cZ o o1 o2 o3 o4 o5 o6 o7 o8 o9 o10 o11 o12 (m_M_initCircle true md)) := hD
    obtain ⟨g11, hg11⟩ : ∃ z, (m_M_initCircle true md) = z := ⟨_, rfl⟩
    rw [hg11] at hP hD
    refine lv_goto (tgt := 209) hx hb d_Model_initk_162 (by decide) ?_
    refine lv_iconst (v := (0 : Int32)) hx hb d_Model_initk_209 (by decide) ?_
    subst hg11
    obtain ⟨rfl, rfl⟩ : (m_M_initCircle true md) = z1 ∧ (0 : Int32) = z2 := Prod.mk.inj ((Eq.symm ((if_neg e_1_0).trans ((if_neg e_1_1).trans ((if_neg e_1_2).trans ((if_neg e_1_3).trans ((if_neg e_1_4).trans ((if_neg e_1_5).trans ((if_neg e_1_6).trans ((if_neg e_1_7).trans ((if_neg e_1_8).trans ((if_neg e_1_9).trans ((if_pos (by rfl)).trans rfl)))))))))))).trans hres)
    exact CM_iret hx hb hr hlocks hP hK hD hS d_Model_initk_210
  rcases Decidable.em (k = 11) with e_1_11 | e_1_11
  · subst e_1_11
    refine lv_tableIn (tgt := 165) hx hb d_Model_initk_1 (by decide) (by decide) rfl (by decide) ?_
    refine lv_aload_n hx hb d_Model_initk_165 rfl (lv_at hl 0 rfl) ?_
    refine lv_iconst (v := (0 : Int32)) hx hb d_Model_initk_166 (by decide) ?_
    refine CMv.callV (wc := M13 cI cZ o o1 o2 o3 o4 o5 o6 o7 o8 o9 o10 o11 o12 md) (wr := []) (b := o) (av := [.int (0 : Int32)]) (rest := []) hx hb hml hown hk (c_M_initCircle l D cI cZ o o1 o2 o3 o4 o5 o6 o7 o8 o9 o10 o11 o12 false md (okM_mono ho (by decide)) _ rfl) hK hP hD hS hA hSt hl.1 (va_recv hK hP (ci := 2) (q0 := 0) rfl rfl) d_Model_initk_167 kc_Model_initCircle ki_Model kl_Model_92 kn_Model_initCircle kx_Model_initCircle (n := 1) rfl (by decide +kernel) ⟨Nat.le_of_ble_eq_true rfl, Nat.le_of_ble_eq_true rfl⟩ rfl rfl (Nat.le_of_ble_eq_true rfl) ⟨Nat.zero_le _, Nat.zero_le _⟩ (fun H locs hP hD hS => ?_)
    have hP : va_P D classes (M13 cI cZ o o1 o2 o3 o4 o5 o6 o7 o8 o9 o10 o11 o12 (m_M_initCircle false md)) H := hP
    have hD : va_D A (M13 cI cZ o o1 o2 o3 o4 o5 o6 o7 o8 o9 o10 o11 o12 (m_M_initCircle false md)) := hD
    obtain ⟨g12, hg12⟩ : ∃ z, (m_M_initCircle false md) = z := ⟨_, rfl⟩
    rw [hg12] at hP hD
    refine lv_goto (tgt := 209) hx hb d_Model_initk_170 (by decide) ?_
    refine lv_iconst (v := (0 : Int32)) hx hb d_Model_initk_209 (by decide) ?_
    subst hg12
    obtain ⟨rfl, rfl⟩ : (m_M_initCircle false md) = z1 ∧ (0 : Int32) = z2 := Prod.mk.inj ((Eq.symm ((if_neg e_1_0).trans ((if_neg e_1_1).trans ((if_neg e_1_2).trans ((if_neg e_1_3).trans ((if_neg e_1_4).trans ((if_neg e_1_5).trans ((if_neg e_1_6).trans ((if_neg e_1_7).trans ((if_neg e_1_8).trans ((if_neg e_1_9).trans ((if_neg e_1_10).trans ((if_pos (by rfl)).trans rfl))))))))))))).trans hres)
    exact CM_iret hx hb hr hlocks hP hK hD hS d_Model_initk_210
  rcases Decidable.em (k = 12) with e_1_12 | e_1_12
  · subst e_1_12
    refine lv_tableIn (tgt := 173) hx hb d_Model_initk_1 (by decide) (by decide) rfl (by decide) ?_
    refine lv_aload_n hx hb d_Model_initk_173 rfl (lv_at hl 0 rfl) ?_
    refine lv_bipush (v := (12 : Int32)) hx hb d_Model_initk_174 (by decide) ?_
    refine lv_bipush (v := (13 : Int32)) hx hb d_Model_initk_176 (by decide) ?_
    refine CMv.callV (wc := M13 cI cZ o o1 o2 o3 o4 o5 o6 o7 o8 o9 o10 o11 o12 md) (wr := []) (b := o) (av := [.int (12 : Int32), .int (13 : Int32)]) (rest := []) hx hb hml hown hk (c_M_initAlone l D cI cZ o o1 o2 o3 o4 o5 o6 o7 o8 o9 o10 o11 o12 (12 : Int32) (13 : Int32) md (by unfold vp_in; decide) (okM_mono ho (by decide)) _ rfl) hK hP hD hS hA hSt hl.1 (va_recv hK hP (ci := 2) (q0 := 0) rfl rfl) d_Model_initk_178 kc_Model_initAlone ki_Model kl_Model_72 kn_Model_initAlone kx_Model_initAlone (n := 2) rfl (by decide +kernel) ⟨Nat.le_of_ble_eq_true rfl, Nat.le_of_ble_eq_true rfl⟩ rfl rfl (Nat.le_of_ble_eq_true rfl) ⟨Nat.zero_le _, Nat.zero_le _⟩ (fun H locs hP hD hS => ?_)
    have hP : va_P D classes (M13 cI cZ o o1 o2 o3 o4 o5 o6 o7 o8 o9 o10 o11 o12 (m_M_initAlone (12 : Int32) (13 : Int32) md)) H := hP
    have hD : va_D A (M13 cI cZ o o1 o2 o3 o4 o5 o6 o7 o8 o9 o10 o11 o12 (m_M_initAlone (12 : Int32) (13 : Int32) md)) := hD
    obtain ⟨g13, hg13⟩ : ∃ z, (m_M_initAlone (12 : Int32) (13 : Int32) md) = z := ⟨_, rfl⟩
    rw [hg13] at hP hD
    refine lv_goto (tgt := 209) hx hb d_Model_initk_181 (by decide) ?_
    refine lv_iconst (v := (0 : Int32)) hx hb d_Model_initk_209 (by decide) ?_
    subst hg13
    obtain ⟨rfl, rfl⟩ : (m_M_initAlone (12 : Int32) (13 : Int32) md) = z1 ∧ (0 : Int32) = z2 := Prod.mk.inj ((Eq.symm ((if_neg e_1_0).trans ((if_neg e_1_1).trans ((if_neg e_1_2).trans ((if_neg e_1_3).trans ((if_neg e_1_4).trans ((if_neg e_1_5).trans ((if_neg e_1_6).trans ((if_neg e_1_7).trans ((if_neg e_1_8).trans ((if_neg e_1_9).trans ((if_neg e_1_10).trans ((if_neg e_1_11).trans ((if_pos (by rfl)).trans rfl)))))))))))))).trans hres)
    exact CM_iret hx hb hr hlocks hP hK hD hS d_Model_initk_210
  rcases Decidable.em (k = 13) with e_1_13 | e_1_13
  · subst e_1_13
    refine lv_tableIn (tgt := 184) hx hb d_Model_initk_1 (by decide) (by decide) rfl (by decide) ?_
    refine lv_aload_n hx hb d_Model_initk_184 rfl (lv_at hl 0 rfl) ?_
    refine CMv.callV (wc := M13 cI cZ o o1 o2 o3 o4 o5 o6 o7 o8 o9 o10 o11 o12 md) (wr := []) (b := o) (av := []) (rest := []) hx hb hml hown hk (c_M_initLazy l D cI cZ o o1 o2 o3 o4 o5 o6 o7 o8 o9 o10 o11 o12 md (okM_mono ho (by decide)) _ rfl) hK hP hD hS hA hSt hl.1 (va_recv hK hP (ci := 2) (q0 := 0) rfl rfl) d_Model_initk_185 kc_Model_initLazy ki_Model kl_Model_96 kn_Model_initLazy kx_Model_initLazy (n := 0) rfl (by decide +kernel) ⟨Nat.le_of_ble_eq_true rfl, Nat.le_of_ble_eq_true rfl⟩ rfl rfl (Nat.le_of_ble_eq_true rfl) ⟨Nat.zero_le _, Nat.zero_le _⟩ (fun H locs hP hD hS => ?_)
    have hP : va_P D classes (M13 cI cZ o o1 o2 o3 o4 o5 o6 o7 o8 o9 o10 o11 o12 (m_M_initLazy md)) H := hP
    have hD : va_D A (M13 cI cZ o o1 o2 o3 o4 o5 o6 o7 o8 o9 o10 o11 o12 (m_M_initLazy md)) := hD
    obtain ⟨g14, hg14⟩ : ∃ z, (m_M_initLazy md) = z := ⟨_, rfl⟩
    rw [hg14] at hP hD
    refine lv_goto (tgt := 209) hx hb d_Model_initk_188 (by decide) ?_
    refine lv_iconst (v := (0 : Int32)) hx hb d_Model_initk_209 (by decide) ?_
    subst hg14
    obtain ⟨rfl, rfl⟩ : (m_M_initLazy md) = z1 ∧ (0 : Int32) = z2 := Prod.mk.inj ((Eq.symm ((if_neg e_1_0).trans ((if_neg e_1_1).trans ((if_neg e_1_2).trans ((if_neg e_1_3).trans ((if_neg e_1_4).trans ((if_neg e_1_5).trans ((if_neg e_1_6).trans ((if_neg e_1_7).trans ((if_neg e_1_8).trans ((if_neg e_1_9).trans ((if_neg e_1_10).trans ((if_neg e_1_11).trans ((if_neg e_1_12).trans ((if_pos (by rfl)).trans rfl))))))))))))))).trans hres)
    exact CM_iret hx hb hr hlocks hP hK hD hS d_Model_initk_210
  rcases Decidable.em (k = 14) with e_1_14 | e_1_14
  · subst e_1_14
    refine lv_tableIn (tgt := 191) hx hb d_Model_initk_1 (by decide) (by decide) rfl (by decide) ?_
    refine lv_aload_n hx hb d_Model_initk_191 rfl (lv_at hl 0 rfl) ?_
    refine CMv.callV (wc := M13 cI cZ o o1 o2 o3 o4 o5 o6 o7 o8 o9 o10 o11 o12 md) (wr := []) (b := o) (av := []) (rest := []) hx hb hml hown hk (c_M_initGrade l D cI cZ o o1 o2 o3 o4 o5 o6 o7 o8 o9 o10 o11 o12 md (okM_mono ho (by decide)) _ rfl) hK hP hD hS hA hSt hl.1 (va_recv hK hP (ci := 2) (q0 := 0) rfl rfl) d_Model_initk_192 kc_Model_initGrade ki_Model kl_Model_99 kn_Model_initGrade kx_Model_initGrade (n := 0) rfl (by decide +kernel) ⟨Nat.le_of_ble_eq_true rfl, Nat.le_of_ble_eq_true rfl⟩ rfl rfl (Nat.le_of_ble_eq_true rfl) ⟨Nat.zero_le _, Nat.zero_le _⟩ (fun H locs hP hD hS => ?_)
    have hP : va_P D classes (M13 cI cZ o o1 o2 o3 o4 o5 o6 o7 o8 o9 o10 o11 o12 (m_M_initGrade md)) H := hP
    have hD : va_D A (M13 cI cZ o o1 o2 o3 o4 o5 o6 o7 o8 o9 o10 o11 o12 (m_M_initGrade md)) := hD
    obtain ⟨g15, hg15⟩ : ∃ z, (m_M_initGrade md) = z := ⟨_, rfl⟩
    rw [hg15] at hP hD
    refine lv_goto (tgt := 209) hx hb d_Model_initk_195 (by decide) ?_
    refine lv_iconst (v := (0 : Int32)) hx hb d_Model_initk_209 (by decide) ?_
    subst hg15
    obtain ⟨rfl, rfl⟩ : (m_M_initGrade md) = z1 ∧ (0 : Int32) = z2 := Prod.mk.inj ((Eq.symm ((if_neg e_1_0).trans ((if_neg e_1_1).trans ((if_neg e_1_2).trans ((if_neg e_1_3).trans ((if_neg e_1_4).trans ((if_neg e_1_5).trans ((if_neg e_1_6).trans ((if_neg e_1_7).trans ((if_neg e_1_8).trans ((if_neg e_1_9).trans ((if_neg e_1_10).trans ((if_neg e_1_11).trans ((if_neg e_1_12).trans ((if_neg e_1_13).trans ((if_pos (by rfl)).trans rfl)))))))))))))))).trans hres)
    exact CM_iret hx hb hr hlocks hP hK hD hS d_Model_initk_210
  rcases Decidable.em (k = 15) with e_1_15 | e_1_15
  · subst e_1_15
    refine lv_tableIn (tgt := 198) hx hb d_Model_initk_1 (by decide) (by decide) rfl (by decide) ?_
    refine lv_aload_n hx hb d_Model_initk_198 rfl (lv_at hl 0 rfl) ?_
    refine CMv.callV (wc := M13 cI cZ o o1 o2 o3 o4 o5 o6 o7 o8 o9 o10 o11 o12 md) (wr := []) (b := o) (av := []) (rest := []) hx hb hml hown hk (c_M_initChecked l D cI cZ o o1 o2 o3 o4 o5 o6 o7 o8 o9 o10 o11 o12 md (okM_mono ho (by decide)) _ rfl) hK hP hD hS hA hSt hl.1 (va_recv hK hP (ci := 2) (q0 := 0) rfl rfl) d_Model_initk_199 kc_Model_initChecked ki_Model kl_Model_102 kn_Model_initChecked kx_Model_initChecked (n := 0) rfl (by decide +kernel) ⟨Nat.le_of_ble_eq_true rfl, Nat.le_of_ble_eq_true rfl⟩ rfl rfl (Nat.le_of_ble_eq_true rfl) ⟨Nat.zero_le _, Nat.zero_le _⟩ (fun H locs hP hD hS => ?_)
    have hP : va_P D classes (M13 cI cZ o o1 o2 o3 o4 o5 o6 o7 o8 o9 o10 o11 o12 (m_M_initChecked md)) H := hP
    have hD : va_D A (M13 cI cZ o o1 o2 o3 o4 o5 o6 o7 o8 o9 o10 o11 o12 (m_M_initChecked md)) := hD
    obtain ⟨g16, hg16⟩ : ∃ z, (m_M_initChecked md) = z := ⟨_, rfl⟩
    rw [hg16] at hP hD
    refine lv_goto (tgt := 209) hx hb d_Model_initk_202 (by decide) ?_
    refine lv_iconst (v := (0 : Int32)) hx hb d_Model_initk_209 (by decide) ?_
    subst hg16
    obtain ⟨rfl, rfl⟩ : (m_M_initChecked md) = z1 ∧ (0 : Int32) = z2 := Prod.mk.inj ((Eq.symm ((if_neg e_1_0).trans ((if_neg e_1_1).trans ((if_neg e_1_2).trans ((if_neg e_1_3).trans ((if_neg e_1_4).trans ((if_neg e_1_5).trans ((if_neg e_1_6).trans ((if_neg e_1_7).trans ((if_neg e_1_8).trans ((if_neg e_1_9).trans ((if_neg e_1_10).trans ((if_neg e_1_11).trans ((if_neg e_1_12).trans ((if_neg e_1_13).trans ((if_neg e_1_14).trans ((if_pos (by rfl)).trans rfl))))))))))))))))).trans hres)
    exact CM_iret hx hb hr hlocks hP hK hD hS d_Model_initk_210
  have ne_1_0 := lv_neT e_1_0 (a := 0) (by decide)
  have ne_1_1 := lv_neT e_1_1 (a := 1) (by decide)
  have ne_1_2 := lv_neT e_1_2 (a := 2) (by decide)
  have ne_1_3 := lv_neT e_1_3 (a := 3) (by decide)
  have ne_1_4 := lv_neT e_1_4 (a := 4) (by decide)
  have ne_1_5 := lv_neT e_1_5 (a := 5) (by decide)
  have ne_1_6 := lv_neT e_1_6 (a := 6) (by decide)
  have ne_1_7 := lv_neT e_1_7 (a := 7) (by decide)
  have ne_1_8 := lv_neT e_1_8 (a := 8) (by decide)
  have ne_1_9 := lv_neT e_1_9 (a := 9) (by decide)
  have ne_1_10 := lv_neT e_1_10 (a := 10) (by decide)
  have ne_1_11 := lv_neT e_1_11 (a := 11) (by decide)
  have ne_1_12 := lv_neT e_1_12 (a := 12) (by decide)
  have ne_1_13 := lv_neT e_1_13 (a := 13) (by decide)
  have ne_1_14 := lv_neT e_1_14 (a := 14) (by decide)
  have ne_1_15 := lv_neT e_1_15 (a := 15) (by decide)
  refine lv_tableOut (tgt := 205) hx hb d_Model_initk_1 (by omega) (by decide) ?_
  refine lv_aload_n hx hb d_Model_initk_205 rfl (lv_at hl 0 rfl) ?_
  refine CMv.callV (wc := M13 cI cZ o o1 o2 o3 o4 o5 o6 o7 o8 o9 o10 o11 o12 md) (wr := []) (b := o) (av := []) (rest := []) hx hb hml hown hk (c_M_initSlow l D cI cZ o o1 o2 o3 o4 o5 o6 o7 o8 o9 o10 o11 o12 md (okM_mono ho (by decide)) _ rfl) hK hP hD hS hA hSt hl.1 (va_recv hK hP (ci := 2) (q0 := 0) rfl rfl) d_Model_initk_206 kc_Model_initSlow ki_Model kl_Model_105 kn_Model_initSlow kx_Model_initSlow (n := 0) rfl (by decide +kernel) ⟨Nat.le_of_ble_eq_true rfl, Nat.le_of_ble_eq_true rfl⟩ rfl rfl (Nat.le_of_ble_eq_true rfl) ⟨Nat.zero_le _, Nat.zero_le _⟩ (fun H locs hP hD hS => ?_)
  have hP : va_P D classes (M13 cI cZ o o1 o2 o3 o4 o5 o6 o7 o8 o9 o10 o11 o12 (m_M_initSlow md)) H := hP
  have hD : va_D A (M13 cI cZ o o1 o2 o3 o4 o5 o6 o7 o8 o9 o10 o11 o12 (m_M_initSlow md)) := hD
  obtain ⟨g17, hg17⟩ : ∃ z, (m_M_initSlow md) = z := ⟨_, rfl⟩
  rw [hg17] at hP hD
  refine lv_iconst (v := (0 : Int32)) hx hb d_Model_initk_209 (by decide) ?_
  subst hg17
  obtain ⟨rfl, rfl⟩ : (m_M_initSlow md) = z1 ∧ (0 : Int32) = z2 := Prod.mk.inj ((Eq.symm ((if_neg e_1_0).trans ((if_neg e_1_1).trans ((if_neg e_1_2).trans ((if_neg e_1_3).trans ((if_neg e_1_4).trans ((if_neg e_1_5).trans ((if_neg e_1_6).trans ((if_neg e_1_7).trans ((if_neg e_1_8).trans ((if_neg e_1_9).trans ((if_neg e_1_10).trans ((if_neg e_1_11).trans ((if_neg e_1_12).trans ((if_neg e_1_13).trans ((if_neg e_1_14).trans ((if_neg e_1_15).trans rfl))))))))))))))))).trans hres)
  exact CM_iret hx hb hr hlocks hP hK hD hS d_Model_initk_210
set_option maxHeartbeats 4000000 in
set_option maxRecDepth 100000 in
theorem c_M_create (l : Launch) (D : va_G) (cI cZ : ClassId) (o o1 o2 o3 o4 o5 o6 o7 o8 o9 o10 o11 o12 : Nat)   (k : Int32) (md : MM) (ho : okM 10 md) (res : MM) (hres : m_M_create k md = res) : CMv l y_Model_create b_Model_create 3 ({ frames := 5, cells := 0, slots := 0, locals := 104 }) D (tyZ cI cZ) [.ref o, .int k] (M13 cI cZ o o1 o2 o3 o4 o5 o6 o7 o8 o9 o10 o11 o12 md) (M13 cI cZ o o1 o2 o3 o4 o5 o6 o7 o8 o9 o10 o11 o12 res) := by
  refine CMv_mk (by decide) (Nat.le_of_ble_eq_true rfl) ?_
  intro p e s m args below meth c A ls hx hb hr hml hown hk hlocks hA hSt hK hP hD hS hl
  have hown : s.vm.findClass R_Model = some m.cls := hown
  have hl : lv_has ls 3 [(0, .ref o), (1, .int k)] := hl
  refine lv_aload_n hx hb d_Model_create_0 rfl (lv_at hl 0 rfl) ?_
  refine lv_iload_n hx hb d_Model_create_1 rfl (lv_at hl 1 rfl) ?_
  refine CM.callV (wc := M13 cI cZ o o1 o2 o3 o4 o5 o6 o7 o8 o9 o10 o11 o12 md) (wr := []) (b := o) (av := [.int k]) (rest := []) hx hb hml hown hk (c_M_init l D cI cZ o o1 o2 o3 o4 o5 o6 o7 o8 o9 o10 o11 o12 k md (okM_mono ho (by decide)) _ _ (pe2 _)) hK hP hD hS hA hSt hl.1 (va_recv hK hP (ci := 2) (q0 := 0) rfl rfl) d_Model_create_2 kc_Model_initk ki_Model kl_Model_108 kn_Model_initk kx_Model_initk (n := 1) rfl (by decide +kernel) ⟨Nat.le_of_ble_eq_true rfl, Nat.le_of_ble_eq_true rfl⟩ rfl rfl (Nat.le_of_ble_eq_true rfl) ⟨Nat.zero_le _, Nat.zero_le _⟩ (fun H locs hP hD hS => ?_)
  have hP : va_P D classes (M13 cI cZ o o1 o2 o3 o4 o5 o6 o7 o8 o9 o10 o11 o12 ((m_M_init k md).1)) H := hP
  have hD : va_D A (M13 cI cZ o o1 o2 o3 o4 o5 o6 o7 o8 o9 o10 o11 o12 ((m_M_init k md).1)) := hD
  obtain ⟨g1, hg1⟩ : ∃ z, (m_M_init k md).1 = z := ⟨_, rfl⟩
  rw [hg1] at hP hD
  refine lv_istore_n (lv' := [(2, .int (m_M_init k md).2), (0, .ref o), (1, .int k)]) hx hb d_Model_create_5 rfl hl (by decide) rfl (fun ls hl => ?_)
  refine lv_aload_n hx hb d_Model_create_6 rfl (lv_at hl 1 rfl) ?_
  refine lv_bipush (v := (20 : Int32)) hx hb d_Model_create_7 (by decide) ?_
  refine CMv.callV (wc := M13 cI cZ o o1 o2 o3 o4 o5 o6 o7 o8 o9 o10 o11 o12 g1) (wr := []) (b := o) (av := [.int (20 : Int32)]) (rest := []) hx hb hml hown hk (c_M_write l D cI cZ o o1 o2 o3 o4 o5 o6 o7 o8 o9 o10 o11 o12 (20 : Int32) g1 (okM_mono (okM_eq hg1 (okM_init ho)) (by decide)) _ rfl) hK hP hD hS hA hSt hl.1 (va_recv hK hP (ci := 2) (q0 := 0) rfl rfl) d_Model_create_9 kc_Model_write ki_Model kl_Model_62 kn_Model_write kx_Model_write (n := 1) rfl (by decide +kernel) ⟨Nat.le_of_ble_eq_true rfl, Nat.le_of_ble_eq_true rfl⟩ rfl rfl (Nat.le_of_ble_eq_true rfl) ⟨Nat.zero_le _, Nat.zero_le _⟩ (fun H locs hP hD hS => ?_)
  have hP : va_P D classes (M13 cI cZ o o1 o2 o3 o4 o5 o6 o7 o8 o9 o10 o11 o12 (m_M_write (20 : Int32) g1)) H := hP
  have hD : va_D A (M13 cI cZ o o1 o2 o3 o4 o5 o6 o7 o8 o9 o10 o11 o12 (m_M_write (20 : Int32) g1)) := hD
  obtain ⟨g2, hg2⟩ : ∃ z, (m_M_write (20 : Int32) g1) = z := ⟨_, rfl⟩
  rw [hg2] at hP hD
  refine lv_iload_n hx hb d_Model_create_12 rfl (lv_at hl 2 rfl) ?_
  refine lv_if_ne (tgt := 17) hx hb d_Model_create_13 (by decide) (fun c_13 => ?_) (fun c_13 => ?_)
  · refine lv_aload_n hx hb d_Model_create_17 rfl (lv_at hl 1 rfl) ?_
    refine lv_bipush (v := (21 : Int32)) hx hb d_Model_create_18 (by decide) ?_
    refine CMv.callV (wc := M13 cI cZ o o1 o2 o3 o4 o5 o6 o7 o8 o9 o10 o11 o12 g2) (wr := []) (b := o) (av := [.int (21 : Int32)]) (rest := []) hx hb hml hown hk (c_M_write l D cI cZ o o1 o2 o3 o4 o5 o6 o7 o8 o9 o10 o11 o12 (21 : Int32) g2 (okM_mono (okM_eq hg2 (okM_write (okM_eq hg1 (okM_init ho)))) (by decide)) _ rfl) hK hP hD hS hA hSt hl.1 (va_recv hK hP (ci := 2) (q0 := 0) rfl rfl) d_Model_create_20 kc_Model_write ki_Model kl_Model_62 kn_Model_write kx_Model_write (n := 1) rfl (by decide +kernel) ⟨Nat.le_of_ble_eq_true rfl, Nat.le_of_ble_eq_true rfl⟩ rfl rfl (Nat.le_of_ble_eq_true rfl) ⟨Nat.zero_le _, Nat.zero_le _⟩ (fun H locs hP hD hS => ?_)
    have hP : va_P D classes (M13 cI cZ o o1 o2 o3 o4 o5 o6 o7 o8 o9 o10 o11 o12 (m_M_write (21 : Int32) g2)) H := hP
    have hD : va_D A (M13 cI cZ o o1 o2 o3 o4 o5 o6 o7 o8 o9 o10 o11 o12 (m_M_write (21 : Int32) g2)) := hD
    obtain ⟨g3, hg3⟩ : ∃ z, (m_M_write (21 : Int32) g2) = z := ⟨_, rfl⟩
    rw [hg3] at hP hD
    refine lv_aload_n hx hb d_Model_create_23 rfl (lv_at hl 1 rfl) ?_
    refine lv_bipush (v := (22 : Int32)) hx hb d_Model_create_24 (by decide) ?_
    refine CMv.callV (wc := M13 cI cZ o o1 o2 o3 o4 o5 o6 o7 o8 o9 o10 o11 o12 g3) (wr := []) (b := o) (av := [.int (22 : Int32)]) (rest := []) hx hb hml hown hk (c_M_write l D cI cZ o o1 o2 o3 o4 o5 o6 o7 o8 o9 o10 o11 o12 (22 : Int32) g3 (okM_mono (okM_eq hg3 (okM_write (okM_eq hg2 (okM_write (okM_eq hg1 (okM_init ho)))))) (by decide)) _ rfl) hK hP hD hS hA hSt hl.1 (va_recv hK hP (ci := 2) (q0 := 0) rfl rfl) d_Model_create_26 kc_Model_write ki_Model kl_Model_62 kn_Model_write kx_Model_write (n := 1) rfl (by decide +kernel) ⟨Nat.le_of_ble_eq_true rfl, Nat.le_of_ble_eq_true rfl⟩ rfl rfl (Nat.le_of_ble_eq_true rfl) ⟨Nat.zero_le _, Nat.zero_le _⟩ (fun H locs hP hD hS => ?_)
    have hP : va_P D classes (M13 cI cZ o o1 o2 o3 o4 o5 o6 o7 o8 o9 o10 o11 o12 (m_M_write (22 : Int32) g3)) H := hP
    have hD : va_D A (M13 cI cZ o o1 o2 o3 o4 o5 o6 o7 o8 o9 o10 o11 o12 (m_M_write (22 : Int32) g3)) := hD
    obtain ⟨g4, hg4⟩ : ∃ z, (m_M_write (22 : Int32) g3) = z := ⟨_, rfl⟩
    rw [hg4] at hP hD
    refine lv_aload_n hx hb d_Model_create_29 rfl (lv_at hl 1 rfl) ?_
    refine lv_bipush (v := (23 : Int32)) hx hb d_Model_create_30 (by decide) ?_
    refine CMv.callV (wc := M13 cI cZ o o1 o2 o3 o4 o5 o6 o7 o8 o9 o10 o11 o12 g4) (wr := []) (b := o) (av := [.int (23 : Int32)]) (rest := []) hx hb hml hown hk (c_M_write l D cI cZ o o1 o2 o3 o4 o5 o6 o7 o8 o9 o10 o11 o12 (23 : Int32) g4 (okM_mono (okM_eq hg4 (okM_write (okM_eq hg3 (okM_write (okM_eq hg2 (okM_write (okM_eq hg1 (okM_init ho)))))))) (by decide)) _ rfl) hK hP hD hS hA hSt hl.1 (va_recv hK hP (ci := 2) (q0 := 0) rfl rfl) d_Model_create_32 kc_Model_write ki_Model kl_Model_62 kn_Model_write kx_Model_write (n := 1) rfl (by decide +kernel) ⟨Nat.le_of_ble_eq_true rfl, Nat.le_of_ble_eq_true rfl⟩ rfl rfl (Nat.le_of_ble_eq_true rfl) ⟨Nat.zero_le _, Nat.zero_le _⟩ (fun H locs hP hD hS => ?_)
    have hP : va_P D classes (M13 cI cZ o o1 o2 o3 o4 o5 o6 o7 o8 o9 o10 o11 o12 (m_M_write (23 : Int32) g4)) H := hP
    have hD : va_D A (M13 cI cZ o o1 o2 o3 o4 o5 o6 o7 o8 o9 o10 o11 o12 (m_M_write (23 : Int32) g4)) := hD
    obtain ⟨g5, hg5⟩ : ∃ z, (m_M_write (23 : Int32) g4) = z := ⟨_, rfl⟩
    rw [hg5] at hP hD
    subst hg5
    subst hg4
    subst hg3
    subst hg2
    subst hg1
    obtain rfl : (m_M_write (23 : Int32) (m_M_write (22 : Int32) (m_M_write (21 : Int32) (m_M_write (20 : Int32) ((m_M_init k md).1))))) = res := (Eq.symm ((if_neg c_13).trans rfl)).trans hres
    exact CMv_ret hx hb hr hlocks hP hK hD hS d_Model_create_35
  · subst hg2
    subst hg1
    obtain rfl : (m_M_write (20 : Int32) ((m_M_init k md).1)) = res := (Eq.symm ((if_pos c_13).trans rfl)).trans hres
    exact CMv_ret hx hb hr hlocks hP hK hD hS d_Model_create_16

-- INITIALISING AS A WHOLE
/-- a class's world at rest -/
def CR (w : MW) : Prop := (∀ k : Nat, k < 17 → k ≠ 8 → k ≠ 9 → gSt w k = 0 ∨ gSt w k = 2) ∧ (gSt w 8 = 0 ∨ gSt w 8 = 3) ∧ (gSt w 9 = 0 ∨ gSt w 9 = 3) ∧ (gSt w 2 = 2 → gVa w 2 = 6) ∧ (gSt w 3 = 2 → gVa w 3 = 4) ∧ (gSt w 4 = 2 → gVa w 4 = 15) ∧ (gSt w 5 = 2 → gVa w 5 = 5) ∧ (gSt w 6 = 2 → gVa w 6 = 11) ∧ (gSt w 14 = 2 → gVa w 14 = 17) ∧ (gSt w 10 = 0 → gVa w 10 = 0) ∧ (gSt w 11 = 0 → gVa w 11 = 0)
theorem CR_n3 {w : MW} (h : CR w) (k : Nat) (h1 : k < 17) (h8 : k ≠ 8) (h9 : k ≠ 9) : ¬ gSt w k = 3 := by
  rcases h.1 k h1 h8 h9 with e | e
  · rw [e]; decide
  · rw [e]; decide
theorem dlt0 (d : Nat) (h : d ≤ 34) : dlt 0 d := ⟨by decide, by rw [show (0 : Int32).toInt = 0 from by decide]; omega⟩

theorem A_0 {w : MW} (hr : CR w) : mAt 0 w = (xBase w, 0) := GA_0 (n := 126) (dlt0 2 (by decide)) (CR_n3 hr 0 (by decide) (by decide) (by decide))
theorem A_1 {w : MW} (hr : CR w) : mAt 1 w = (xMiddle w, 0) := GA_1 (n := 123) (dlt0 5 (by decide)) (CR_n3 hr 0 (by decide) (by decide) (by decide)) (CR_n3 hr 1 (by decide) (by decide) (by decide)) (CR_n3 hr 5 (by decide) (by decide) (by decide))
theorem A_2 {w : MW} (hr : CR w) : mAt 2 w = (xLeaf w, 0) := GA_2 (n := 121) (dlt0 6 (by decide)) (CR_n3 hr 0 (by decide) (by decide) (by decide)) (CR_n3 hr 1 (by decide) (by decide) (by decide)) (CR_n3 hr 2 (by decide) (by decide) (by decide)) (CR_n3 hr 5 (by decide) (by decide) (by decide))
theorem A_3 {w : MW} (hr : CR w) : mAt 3 w = (xAlone 3 4 w, 0) := GA_3 (n := 126) (dlt0 2 (by decide)) (CR_n3 hr 3 (by decide) (by decide) (by decide))
theorem A_4 {w : MW} (hr : CR w) : mAt 4 w = (xAlone 4 15 w, 0) := GA_4 (n := 126) (dlt0 2 (by decide)) (CR_n3 hr 4 (by decide) (by decide) (by decide))
theorem A_5 {w : MW} (hr : CR w) : mAt 5 w = (xAlone 5 5 w, 0) := GA_5 (n := 126) (dlt0 2 (by decide)) (CR_n3 hr 5 (by decide) (by decide) (by decide))
theorem A_6 {w : MW} (hr : CR w) : mAt 6 w = (xAlone 6 11 w, 0) := GA_6 (n := 126) (dlt0 2 (by decide)) (CR_n3 hr 6 (by decide) (by decide) (by decide))
theorem A_7 {w : MW} (hr : CR w) : mAt 7 w = (xLoud w, 0) := GA_7 (n := 123) (dlt0 5 (by decide)) (CR_n3 hr 4 (by decide) (by decide) (by decide)) (CR_n3 hr 7 (by decide) (by decide) (by decide))
theorem A_8 {w : MW} (hr : CR w) : mAt 8 w = xBad w := GA_8 (n := 126) (dlt0 2 (by decide)) hr.2.1
theorem A_9 {w : MW} (hr : CR w) : mAt 9 w = xWorse w := GA_9 (n := 124) (dlt0 4 (by decide)) hr.2.1 hr.2.2.1
theorem A_10 {w : MW} (hr : CR w) : mAt 10 w = (xFirst w, 0) := GA_10 (n := 123) (dlt0 4 (by decide)) (CR_n3 hr 10 (by decide) (by decide) (by decide)) (CR_n3 hr 11 (by decide) (by decide) (by decide))
theorem A_11 {w : MW} (hr : CR w) : mAt 11 w = (xSecond w, 0) := GA_11 (n := 123) (dlt0 4 (by decide)) (CR_n3 hr 11 (by decide) (by decide) (by decide)) (CR_n3 hr 10 (by decide) (by decide) (by decide))
theorem A_12 {w : MW} (hr : CR w) : mAt 12 w = (xAlone 12 13 w, 0) := GA_12 (n := 126) (dlt0 2 (by decide)) (CR_n3 hr 12 (by decide) (by decide) (by decide))
theorem A_13 {w : MW} (hr : CR w) : mAt 13 w = (xLazy w, 0) := GA_13 (n := 123) (dlt0 5 (by decide)) (CR_n3 hr 0 (by decide) (by decide) (by decide)) (CR_n3 hr 13 (by decide) (by decide) (by decide))
theorem A_14 {w : MW} (hr : CR w) : mAt 14 w = (xGrade w, 0) := GA_14 (n := 126) (dlt0 2 (by decide)) (CR_n3 hr 14 (by decide) (by decide) (by decide))
theorem A_15 {w : MW} (hr : CR w) : mAt 15 w = (xChecked w, 0) := GA_15 (n := 126) (dlt0 2 (by decide)) (CR_n3 hr 15 (by decide) (by decide) (by decide))
theorem A_16 {w : MW} (hr : CR w) : mAt 16 w = (xAlone 16 19 w, 0) := GA_16 (n := 126) (dlt0 2 (by decide)) (CR_n3 hr 16 (by decide) (by decide) (by decide))
theorem Mi_0 {md : MM} : m_M_init 0 md = ((m_M_initBase md), (0 : Int32)) := ((if_pos (by decide)).trans rfl)
theorem Mi_1 {md : MM} : m_M_init 1 md = ((m_M_initMiddle md), (0 : Int32)) := ((if_neg (by decide)).trans ((if_pos (by decide)).trans rfl))
theorem Mi_2 {md : MM} : m_M_init 2 md = ((m_M_initLeaf md), (0 : Int32)) := ((if_neg (by decide)).trans ((if_neg (by decide)).trans ((if_pos (by decide)).trans rfl)))
theorem Mi_3 {md : MM} : m_M_init 3 md = ((m_M_initAlone (3 : Int32) (4 : Int32) md), (0 : Int32)) := ((if_neg (by decide)).trans ((if_neg (by decide)).trans ((if_neg (by decide)).trans ((if_pos (by decide)).trans rfl))))
theorem Mi_4 {md : MM} : m_M_init 4 md = ((m_M_initAlone (4 : Int32) (15 : Int32) md), (0 : Int32)) := ((if_neg (by decide)).trans ((if_neg (by decide)).trans ((if_neg (by decide)).trans ((if_neg (by decide)).trans ((if_pos (by decide)).trans rfl)))))
theorem Mi_5 {md : MM} : m_M_init 5 md = ((m_M_initAlone (5 : Int32) (5 : Int32) md), (0 : Int32)) := ((if_neg (by decide)).trans ((if_neg (by decide)).trans ((if_neg (by decide)).trans ((if_neg (by decide)).trans ((if_neg (by decide)).trans ((if_pos (by decide)).trans rfl))))))
theorem Mi_6 {md : MM} : m_M_init 6 md = ((m_M_initAlone (6 : Int32) (11 : Int32) md), (0 : Int32)) := ((if_neg (by decide)).trans ((if_neg (by decide)).trans ((if_neg (by decide)).trans ((if_neg (by decide)).trans ((if_neg (by decide)).trans ((if_neg (by decide)).trans ((if_pos (by decide)).trans rfl)))))))
theorem Mi_7 {md : MM} : m_M_init 7 md = ((m_M_initLoud md), (0 : Int32)) := ((if_neg (by decide)).trans ((if_neg (by decide)).trans ((if_neg (by decide)).trans ((if_neg (by decide)).trans ((if_neg (by decide)).trans ((if_neg (by decide)).trans ((if_neg (by decide)).trans ((if_pos (by decide)).trans rfl))))))))
theorem Mi_8 {md : MM} : m_M_init 8 md = (((m_M_initBad md).1), (m_M_initBad md).2) := ((if_neg (by decide)).trans ((if_neg (by decide)).trans ((if_neg (by decide)).trans ((if_neg (by decide)).trans ((if_neg (by decide)).trans ((if_neg (by decide)).trans ((if_neg (by decide)).trans ((if_neg (by decide)).trans ((if_pos (by decide)).trans rfl)))))))))
theorem Mi_9 {md : MM} : m_M_init 9 md = (((m_M_initWorse md).1), (m_M_initWorse md).2) := ((if_neg (by decide)).trans ((if_neg (by decide)).trans ((if_neg (by decide)).trans ((if_neg (by decide)).trans ((if_neg (by decide)).trans ((if_neg (by decide)).trans ((if_neg (by decide)).trans ((if_neg (by decide)).trans ((if_neg (by decide)).trans ((if_pos (by decide)).trans rfl))))))))))
theorem Mi_10 {md : MM} : m_M_init 10 md = ((m_M_initCircle true md), (0 : Int32)) := ((if_neg (by decide)).trans ((if_neg (by decide)).trans ((if_neg (by decide)).trans ((if_neg (by decide)).trans ((if_neg (by decide)).trans ((if_neg (by decide)).trans ((if_neg (by decide)).trans ((if_neg (by decide)).trans ((if_neg (by decide)).trans ((if_neg (by decide)).trans ((if_pos (by decide)).trans rfl)))))))))))
theorem Mi_11 {md : MM} : m_M_init 11 md = ((m_M_initCircle false md), (0 : Int32)) := ((if_neg (by decide)).trans ((if_neg (by decide)).trans ((if_neg (by decide)).trans ((if_neg (by decide)).trans ((if_neg (by decide)).trans ((if_neg (by decide)).trans ((if_neg (by decide)).trans ((if_neg (by decide)).trans ((if_neg (by decide)).trans ((if_neg (by decide)).trans ((if_neg (by decide)).trans ((if_pos (by decide)).trans rfl))))))))))))
theorem Mi_12 {md : MM} : m_M_init 12 md = ((m_M_initAlone (12 : Int32) (13 : Int32) md), (0 : Int32)) := ((if_neg (by decide)).trans ((if_neg (by decide)).trans ((if_neg (by decide)).trans ((if_neg (by decide)).trans ((if_neg (by decide)).trans ((if_neg (by decide)).trans ((if_neg (by decide)).trans ((if_neg (by decide)).trans ((if_neg (by decide)).trans ((if_neg (by decide)).trans ((if_neg (by decide)).trans ((if_neg (by decide)).trans ((if_pos (by decide)).trans rfl)))))))))))))
theorem Mi_13 {md : MM} : m_M_init 13 md = ((m_M_initLazy md), (0 : Int32)) := ((if_neg (by decide)).trans ((if_neg (by decide)).trans ((if_neg (by decide)).trans ((if_neg (by decide)).trans ((if_neg (by decide)).trans ((if_neg (by decide)).trans ((if_neg (by decide)).trans ((if_neg (by decide)).trans ((if_neg (by decide)).trans ((if_neg (by decide)).trans ((if_neg (by decide)).trans ((if_neg (by decide)).trans ((if_neg (by decide)).trans ((if_pos (by decide)).trans rfl))))))))))))))
theorem Mi_14 {md : MM} : m_M_init 14 md = ((m_M_initGrade md), (0 : Int32)) := ((if_neg (by decide)).trans ((if_neg (by decide)).trans ((if_neg (by decide)).trans ((if_neg (by decide)).trans ((if_neg (by decide)).trans ((if_neg (by decide)).trans ((if_neg (by decide)).trans ((if_neg (by decide)).trans ((if_neg (by decide)).trans ((if_neg (by decide)).trans ((if_neg (by decide)).trans ((if_neg (by decide)).trans ((if_neg (by decide)).trans ((if_neg (by decide)).trans ((if_pos (by decide)).trans rfl)))))))))))))))
theorem Mi_15 {md : MM} : m_M_init 15 md = ((m_M_initChecked md), (0 : Int32)) := ((if_neg (by decide)).trans ((if_neg (by decide)).trans ((if_neg (by decide)).trans ((if_neg (by decide)).trans ((if_neg (by decide)).trans ((if_neg (by decide)).trans ((if_neg (by decide)).trans ((if_neg (by decide)).trans ((if_neg (by decide)).trans ((if_neg (by decide)).trans ((if_neg (by decide)).trans ((if_neg (by decide)).trans ((if_neg (by decide)).trans ((if_neg (by decide)).trans ((if_neg (by decide)).trans ((if_pos (by decide)).trans rfl))))))))))))))))
theorem Mi_16 {md : MM} : m_M_init 16 md = ((m_M_initSlow md), (0 : Int32)) := ((if_neg (by decide)).trans ((if_neg (by decide)).trans ((if_neg (by decide)).trans ((if_neg (by decide)).trans ((if_neg (by decide)).trans ((if_neg (by decide)).trans ((if_neg (by decide)).trans ((if_neg (by decide)).trans ((if_neg (by decide)).trans ((if_neg (by decide)).trans ((if_neg (by decide)).trans ((if_neg (by decide)).trans ((if_neg (by decide)).trans ((if_neg (by decide)).trans ((if_neg (by decide)).trans ((if_neg (by decide)).trans rfl))))))))))))))))
theorem R_init {w : MW} {md m1 : MM} {j c : Nat} {k : Int32} (kk : Nat) (hk : kk < 17) (ek : k = nI kk) (h : WF w md m1 j) (ho : ok c w) (hr : CR w) : (mAt k w).2 = (m_M_init k md).2 ∧ WF (mAt k w).1 (m_M_init k md).1 m1 j ∧ ok c (mAt k w).1 := by
  subst ek
  rcases (show kk = 0 ∨ kk = 1 ∨ kk = 2 ∨ kk = 3 ∨ kk = 4 ∨ kk = 5 ∨ kk = 6 ∨ kk = 7 ∨ kk = 8 ∨ kk = 9 ∨ kk = 10 ∨ kk = 11 ∨ kk = 12 ∨ kk = 13 ∨ kk = 14 ∨ kk = 15 ∨ kk = 16 by omega) with rfl | rfl | rfl | rfl | rfl | rfl | rfl | rfl | rfl | rfl | rfl | rfl | rfl | rfl | rfl | rfl | rfl
  · rw [show nI 0 = (0 : Int32) from rfl, A_0 hr, Mi_0]
    exact ⟨rfl, RBase h ho⟩
  · rw [show nI 1 = (1 : Int32) from rfl, A_1 hr, Mi_1]
    exact ⟨rfl, RMiddle h ho⟩
  · rw [show nI 2 = (2 : Int32) from rfl, A_2 hr, Mi_2]
    exact ⟨rfl, RLeaf h ho⟩
  · rw [show nI 3 = (3 : Int32) from rfl, A_3 hr, Mi_3]
    exact ⟨rfl, RAlone 3 (by decide) rfl (by decide) (by decide) (by decide) (by decide) (by decide) h ho⟩
  · rw [show nI 4 = (4 : Int32) from rfl, A_4 hr, Mi_4]
    exact ⟨rfl, RAlone 4 (by decide) rfl (by decide) (by decide) (by decide) (by decide) (by decide) h ho⟩
  · rw [show nI 5 = (5 : Int32) from rfl, A_5 hr, Mi_5]
    exact ⟨rfl, RAlone 5 (by decide) rfl (by decide) (by decide) (by decide) (by decide) (by decide) h ho⟩
  · rw [show nI 6 = (6 : Int32) from rfl, A_6 hr, Mi_6]
    exact ⟨rfl, RAlone 6 (by decide) rfl (by decide) (by decide) (by decide) (by decide) (by decide) h ho⟩
  · rw [show nI 7 = (7 : Int32) from rfl, A_7 hr, Mi_7]
    exact ⟨rfl, RLoud h ho⟩
  · rw [show nI 8 = (8 : Int32) from rfl, A_8 hr, Mi_8]
    exact RBad h ho hr.2.1
  · rw [show nI 9 = (9 : Int32) from rfl, A_9 hr, Mi_9]
    exact RWorse h ho hr.2.1
  · rw [show nI 10 = (10 : Int32) from rfl, A_10 hr, Mi_10]
    exact ⟨rfl, RFirst h ho hr.2.2.2.2.2.2.2.2.2.1⟩
  · rw [show nI 11 = (11 : Int32) from rfl, A_11 hr, Mi_11]
    exact ⟨rfl, RSecond h ho hr.2.2.2.2.2.2.2.2.2.2⟩
  · rw [show nI 12 = (12 : Int32) from rfl, A_12 hr, Mi_12]
    exact ⟨rfl, RAlone 12 (by decide) rfl (by decide) (by decide) (by decide) (by decide) (by decide) h ho⟩
  · rw [show nI 13 = (13 : Int32) from rfl, A_13 hr, Mi_13]
    exact ⟨rfl, RLazy h ho⟩
  · rw [show nI 14 = (14 : Int32) from rfl, A_14 hr, Mi_14]
    exact ⟨rfl, RGrade h ho⟩
  · rw [show nI 15 = (15 : Int32) from rfl, A_15 hr, Mi_15]
    exact ⟨rfl, RChecked h ho⟩
  · rw [show nI 16 = (16 : Int32) from rfl, A_16 hr, Mi_16]
    exact ⟨rfl, RSlow h ho⟩

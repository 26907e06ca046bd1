-- THE ACTS THAT FAIL
theorem xBad_neg (w : MW) : ¬ 0 ≤ (xBad w).2 := by
  unfold xBad
  split
  · show ¬ (0 : Int32) ≤ -102
    decide
  · show ¬ (0 : Int32) ≤ -101
    decide
theorem xWorse_neg (w : MW) : ¬ 0 ≤ (xWorse w).2 := by
  unfold xWorse
  split
  · show ¬ (0 : Int32) ≤ -102
    decide
  · exact xBad_neg _
theorem xWorse_ne (w : MW) : ¬ (xWorse w).2 = 0 := by
  unfold xWorse
  split
  · show ¬ (-102 : Int32) = 0
    decide
  · exact xBad_ne _
theorem R_act_12 {w : MW} {md m1 : MM} {j c : Nat} {a : Int32} (h : WF w md m1 j) (ho : ok c w) (hr : CR w) : SA c j m1 (m_Acts_outcome 12 a w) (m_M_act 12 a md) := by
  obtain ⟨he, hw, ho2, hc⟩ := R_at (k := 8) (by unfold vp_in; decide) h ho hr
  have hn : ¬ (mAt 8 w).2 = 0 := by rw [A_8 hr]; exact xBad_ne w
  have oc : m_Acts_outcome 12 a w = ((mAt 8 w).1, (mAt 8 w).2) := out_fail (by rw [Af_12]) hn
  have hq : ¬ 0 ≤ (m_M_init (m_M_asked 12) md).2 := by rw [Mk_12, ← he, A_8 hr]; exact xBad_neg w
  rw [oc, Ma_12n (WF_pos h) hq, Mk_12]
  exact ⟨he, hw, ho2, hc⟩
theorem R_act_14 {w : MW} {md m1 : MM} {j c : Nat} {a : Int32} (h : WF w md m1 j) (ho : ok c w) (hr : CR w) : SA c j m1 (m_Acts_outcome 14 a w) (m_M_act 14 a md) := by
  obtain ⟨he, hw, ho2, hc⟩ := R_at (k := 9) (by unfold vp_in; decide) h ho hr
  have hn : ¬ (mAt 9 w).2 = 0 := by rw [A_9 hr]; exact xWorse_ne w
  have oc : m_Acts_outcome 14 a w = ((mAt 9 w).1, (mAt 9 w).2) := out_fail (by rw [Af_14]) hn
  have hq : ¬ 0 ≤ (m_M_init (m_M_asked 14) md).2 := by rw [Mk_14, ← he, A_9 hr]; exact xWorse_neg w
  rw [oc, Ma_14n (WF_pos h) hq, Mk_14]
  exact ⟨he, hw, ho2, hc⟩
theorem R_act_15 {w : MW} {md m1 : MM} {j c : Nat} {a : Int32} (h : WF w md m1 j) (ho : ok c w) (hr : CR w) : SA c j m1 (m_Acts_outcome 15 a w) (m_M_act 15 a md) := by
  obtain ⟨he, hw, ho2, hc⟩ := R_at (k := 9) (by unfold vp_in; decide) h ho hr
  have hn : ¬ (mAt 9 w).2 = 0 := by rw [A_9 hr]; exact xWorse_ne w
  have oc : m_Acts_outcome 15 a w = ((mAt 9 w).1, (mAt 9 w).2) := out_fail (by rw [Af_15]) hn
  have hq : ¬ 0 ≤ (m_M_init (m_M_asked 15) md).2 := by rw [Mk_15, ← he, A_9 hr]; exact xWorse_neg w
  rw [oc, Ma_15n (WF_pos h) hq, Mk_15]
  exact ⟨he, hw, ho2, hc⟩

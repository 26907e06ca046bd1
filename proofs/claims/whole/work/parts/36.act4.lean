-- ODD AND EVEN
theorem odd_e {a : Int32} (hp : (a &&& (1 : Int32)) = 0) : m_Acts_isOdd a = 0 := if_neg (by rw [hp]; decide)
theorem odd_o {a : Int32} (hp : ¬ (a &&& (1 : Int32)) = 0) : m_Acts_isOdd a = 1 := by
  obtain ⟨i, hi, e⟩ := pk_andE a (m := 1) 1 (by decide)
  refine if_pos ?_
  rcases (show i = 0 ∨ i = 1 by omega) with rfl | rfl
  · exact absurd e hp
  · exact e
theorem R_act_20 {w : MW} {md m1 : MM} {j c : Nat} {a : Int32} (h : WF w md m1 j) (ho : ok c w) (hr : CR w) : SA c j m1 (m_Acts_outcome 20 a w) (m_M_act 20 a md) := by
  obtain ⟨-, hw, ho2, hc⟩ := R_at (k := 14) (by unfold vp_in; decide) h ho hr
  have z : (m_M_init 14 md).2 = 0 := by rw [Mi_14]
  have z2 : mAt 14 w = ((mAt 14 w).1, 0) := by rw [A_14 hr]
  have oc : m_Acts_outcome 20 a w = m_Acts_told 20 a (mAt 14 w).1 := out_ok (by rw [Af_20]; exact z2) (by rw [At_20]; exact mAt_none)
  have hq : 0 ≤ (m_M_init (m_M_asked 20) md).2 := by rw [Mk_20, z]; decide
  rw [oc, To_20]
  by_cases hp : (a &&& (1 : Int32)) = 0
  · rw [Ma_20e (WF_pos h) hp hq, Mk_20, if_pos (odd_e hp)]
    exact ⟨rfl, hw, ho2, hc⟩
  · rw [Ma_20o (WF_pos h) hp hq, Mk_20, if_neg (by rw [odd_o hp]; decide)]
    exact ⟨rfl, hw, ho2, hc⟩

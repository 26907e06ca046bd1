-- FIND, AND WHAT THE ACTS SHARE
def SA (c j : Nat) (m1 : MM) (p : MW × Int32) (q : MM × Int32) : Prop := p.2 = q.2 ∧ WF p.1 q.1 m1 j ∧ ok c p.1 ∧ CR p.1
theorem mAt_none {w : MW} : mAt (-1) w = (w, 0) := GA_none (n := 129) (dlt0 0 (by decide))
theorem out_fail {k a r : Int32} {w w1 : MW} (hA : mAt (m_Acts_askedFirst k a) w = (w1, r)) (hr : ¬ r = 0) : m_Acts_outcome k a w = (w1, r) := by
  unfold m_Acts_outcome m_World_initialise
  rw [hA]
  exact if_neg hr
theorem out_ok {k a : Int32} {w w1 w2 : MW} (hA : mAt (m_Acts_askedFirst k a) w = (w1, 0)) (hB : mAt (m_Acts_askedThen k) w1 = (w2, 0)) : m_Acts_outcome k a w = m_Acts_told k a w2 := by
  unfold m_Acts_outcome m_World_initialise
  rw [hA]
  refine (if_pos rfl).trans ?_
  rw [hB]
  exact if_pos rfl
theorem there_in (k : Int32) : m_Kinds_isThere k = m_M_in k 17 := rfl
theorem WF_pos {w : MW} {md m1 : MM} {j : Nat} (h : WF w md m1 j) : 0 ≤ aWc md := by
  rw [h.2.1]; exact nI_pos' (by have := h.1; omega)
theorem R_at {w : MW} {md m1 : MM} {j c : Nat} {k : Int32} (hk : vp_in k 17) (h : WF w md m1 j) (ho : ok c w) (hr : CR w) : SA c j m1 (mAt k w) (m_M_init k md) := by
  obtain ⟨kk, hkk, ek⟩ := vp_in_of hk (by decide)
  obtain ⟨a1, a2, a3⟩ := R_init kk hkk ek h ho hr
  exact ⟨a1, a2, a3, CR_mAt kk hkk ek hr⟩
theorem R_find {w : MW} {md m1 : MM} {j c : Nat} {k : Int32} {b : Bool} (h : WF w md m1 j) (ho : ok c w) (hr : CR w) : SA c j m1 (m_find_1 k b w) (m_M_find k b md) := by
  unfold m_find_1 m_M_find
  rw [there_in]
  by_cases g : m_M_in k 17 = 0
  · rw [if_pos g, if_pos g]
    exact ⟨rfl, h, ho, hr⟩
  · rw [if_neg g, if_neg g, if_pos (WF_pos h)]
    by_cases g2 : bI b = 0
    · rw [if_pos g2, if_pos g2]
      exact ⟨rfl, h, ho, hr⟩
    · rw [if_neg g2, if_neg g2]
      exact R_at (mIn_in (by decide) g) h ho hr
theorem R_asserting {w : MW} {md m1 : MM} {j c : Nat} {b : Bool} (h : WF w md m1 j) (ho : ok c w) (hr : CR w) : SA c j m1 (m_asserting_1 b w) (m_M_asserting b md) := by
  unfold m_asserting_1 m_M_asserting
  rw [if_pos (WF_pos h)]
  exact ⟨rfl, WF_sw h, ok_sw ho, hr⟩

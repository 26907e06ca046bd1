-- NOTE AND COUNT
theorem R_note {w : MW} {md m1 : MM} {j : Nat} {i : Int32} (h : WF w md m1 j) : m_note_1 i w = m_M_note i md := by
  have e8 : aNd md (aWc md).toNatClampNeg = gWr w := by rw [WF_c h]; exact h.2.2.1.2.2.2.2.2.2.2.1
  unfold m_M_note
  rw [if_pos (WF_pos h), e8]
  unfold m_note_1
  by_cases a : i < 0
  · have k1 : m_World_isKept i w = 0 := if_pos a
    have k2 : m_M_in i 64 = 0 := if_pos a
    rw [if_pos k1, if_pos k2]
  · by_cases d : (64 : Int32) ≤ i
    · have k2 : m_M_in i 64 = 0 := (if_neg a).trans (if_pos d)
      have k1 : m_World_isKept i w = 0 := by
        refine (if_neg a).trans ?_
        by_cases b : gWr w ≤ i
        · exact if_pos b
        · exact (if_neg b).trans (if_pos d)
      rw [if_pos k1, if_pos k2]
    · have k2 : m_M_in i 64 = 1 := (if_neg a).trans (if_neg d)
      rw [if_neg (show ¬ m_M_in i 64 = 0 by rw [k2]; decide)]
      by_cases b : gWr w ≤ i
      · have k1 : m_World_isKept i w = 0 := (if_neg a).trans (if_pos b)
        rw [if_pos k1, if_pos b]
      · have k1 : m_World_isKept i w = 1 := (if_neg a).trans ((if_neg b).trans (if_neg d))
        rw [if_neg (show ¬ m_World_isKept i w = 0 by rw [k1]; decide), if_neg b]
        obtain ⟨ii, hii, ei⟩ := vp_in_of (in_r (n := 64) (by decide) a d) (by decide)
        have e1 : i.toNatClampNeg = ii := by rw [ei]; exact nI_clamp (by omega)
        have e2 : (aWc md * 64 + i).toNatClampNeg = j * 64 + ii := by rw [h.2.1, ei]; exact ix64 h.1 hii
        rw [e1, e2]
        exact (h.2.2.1.2.1 ii hii).symm
theorem in3 {i : Int32} (h0 : ¬ i = 0) (h1 : ¬ i = 1) (h2 : ¬ i = 2) : m_M_in i 3 = 0 := by
  by_cases a : i < 0
  · exact if_pos a
  · by_cases b : (3 : Int32) ≤ i
    · exact (if_neg a).trans (if_pos b)
    · have hv := vp_in_iff.mp (in_r (n := 3) (by decide) a b)
      have n0 := lv_neT h0 (a := 0) (by decide)
      have n1 := lv_neT h1 (a := 1) (by decide)
      have n2 := lv_neT h2 (a := 2) (by decide)
      omega
theorem R_count {w : MW} {md m1 : MM} {j : Nat} {i be : Int32} (h : WF w md m1 j) (hn : gNu w = nI j) (hb : aWn md = be) : m_count_1 i be w = m_M_count i md := by
  have e8 : aNd md (aWc md).toNatClampNeg = gWr w := by rw [WF_c h]; exact h.2.2.1.2.2.2.2.2.2.2.1
  unfold m_count_1 m_M_count
  rw [if_pos (WF_pos h), e8, hb, h.2.1, hn]
  by_cases h0 : i = 0
  · subst h0
    rw [if_pos rfl, if_neg (by decide), if_pos rfl]
  · by_cases h1 : i = 1
    · subst h1
      rw [if_neg h0, if_pos rfl, if_neg (by decide), if_neg h0, if_pos rfl]
    · by_cases h2 : i = 2
      · subst h2
        rw [if_neg h0, if_neg h1, if_pos rfl, if_neg (by decide), if_neg h0, if_neg h1]
      · rw [if_neg h0, if_neg h1, if_neg h2, if_pos (in3 h0 h1 h2)]

-- EACH INITIALISER OF THE REFERENCE DOES WHAT THE CLASS'S DOES
theorem ok_vv {c : Nat} {w : MW} {k x : Int32} (h : ok c w) : ok c (vv k x w) := h
theorem ok_se {c : Nat} {w : MW} {b : Bool} (h : ok c w) : ok c (sSe w b) := h
theorem ok_sw {c : Nat} {w : MW} {b : Bool} (h : ok c w) : ok c (sSw w b) := h
theorem in17 {k : Int32} {kk : Nat} (hk : kk < 17) (ek : k = nI kk) : vp_in k 17 := by rw [ek]; exact vp_in_nI hk (by decide)
theorem alone_y {k n : Int32} {md mb : MM} (eb : m_M_begins k md = (mb, 1)) : m_M_initAlone k n md = m_M_ends k (m_M_write n mb) := by
  unfold m_M_initAlone
  rw [eb]
  exact if_neg (by show ¬ (1 : Int32) = 0; decide)
theorem alone_n {k n : Int32} {md : MM} (eb : m_M_begins k md = (md, 0)) : m_M_initAlone k n md = md := by
  unfold m_M_initAlone
  rw [eb]
  exact if_pos rfl
theorem RAlone {w : MW} {md m1 : MM} {j c : Nat} {k n : Int32} (kk : Nat) (hk : kk < 17) (ek : k = nI kk) (h0 : k.toNatClampNeg ≠ 0) (h1 : k.toNatClampNeg ≠ 1) (h10 : k.toNatClampNeg ≠ 10) (h11 : k.toNatClampNeg ≠ 11) (h16 : k.toNatClampNeg ≠ 16) (h : WF w md m1 j) (ho : ok c w) : WF (xAlone k n w) (m_M_initAlone k n md) m1 j ∧ ok c (xAlone k n w) := by
  unfold xAlone
  by_cases g : stt w k = 0
  · obtain ⟨mb, eb, hb⟩ := WF_begin_y kk hk ek h g
    rw [if_pos g, alone_y eb]
    have o1 := ok_st1 ho (in17 hk ek) g
    have o2 := ok_write (n := n) o1
    exact ⟨WF_ends kk hk ek (WF_vaO (WF_write hb o1) h0 h1 h10 h11 h16), ok_st2 (ok_vv (ok_mono o2 (by omega))) (by decide)⟩
  · rw [if_neg g, alone_n (WF_begin_n kk hk ek h g)]
    exact ⟨h, ho⟩
theorem RSlow {w : MW} {md m1 : MM} {j c : Nat} (h : WF w md m1 j) (ho : ok c w) : WF (xAlone 16 19 w) (m_M_initSlow md) m1 j ∧ ok c (xAlone 16 19 w) := by
  unfold xAlone m_M_initSlow
  by_cases g : stt w 16 = 0
  · obtain ⟨mb, eb, hb⟩ := WF_begin_y (k := 16) 16 (by decide) rfl h g
    rw [if_pos g, eb, if_neg (show ¬ (mb, (1 : Int32)).2 = 0 by show ¬ (1 : Int32) = 0; decide)]
    have o1 := ok_st1 ho (in17 (k := 16) (kk := 16) (by decide) rfl) g
    have o2 := ok_write (n := 19) o1
    exact ⟨WF_ends (k := 16) 16 (by decide) rfl (WF_va16 (WF_write hb o1)), ok_st2 (ok_vv (ok_mono o2 (by omega))) (by decide)⟩
  · rw [if_neg g, WF_begin_n (k := 16) 16 (by decide) rfl h g, if_pos rfl]
    exact ⟨h, ho⟩
theorem RBase {w : MW} {md m1 : MM} {j c : Nat} (h : WF w md m1 j) (ho : ok c w) : WF (xBase w) (m_M_initBase md) m1 j ∧ ok c (xBase w) := by
  unfold xBase m_M_initBase
  by_cases g : stt w 0 = 0
  · obtain ⟨mb, eb, hb⟩ := WF_begin_y (k := 0) 0 (by decide) rfl h g
    rw [if_pos g, eb, if_neg (show ¬ (mb, (1 : Int32)).2 = 0 by show ¬ (1 : Int32) = 0; decide)]
    have o1 := ok_st1 ho (in17 (k := 0) (kk := 0) (by decide) rfl) g
    have o2 : ok (c + 7) (vv 0 10 (wr 10 (s1 0 w))) := ok_vv (ok_write (n := 10) o1)
    have o3 : ok (c + 6) (wr 1 (vv 0 10 (wr 10 (s1 0 w)))) := ok_write (n := 1) o2
    exact ⟨WF_ends (k := 0) 0 (by decide) rfl (WF_write (WF_va0 (WF_write hb o1)) o2), ok_st2 (ok_mono o3 (by omega)) (by decide)⟩
  · rw [if_neg g, WF_begin_n (k := 0) 0 (by decide) rfl h g, if_pos rfl]
    exact ⟨h, ho⟩
theorem RMiddle {w : MW} {md m1 : MM} {j c : Nat} (h : WF w md m1 j) (ho : ok c w) : WF (xMiddle w) (m_M_initMiddle md) m1 j ∧ ok c (xMiddle w) := by
  unfold xMiddle m_M_initMiddle
  by_cases g : stt w 1 = 0
  · obtain ⟨mb, eb, hb⟩ := WF_begin_y (k := 1) 1 (by decide) rfl h g
    rw [if_pos g, eb, if_neg (show ¬ (mb, (1 : Int32)).2 = 0 by show ¬ (1 : Int32) = 0; decide)]
    have o1 := ok_st1 ho (in17 (k := 1) (kk := 1) (by decide) rfl) g
    obtain ⟨h2, o2⟩ := RBase hb o1
    obtain ⟨h3, o3⟩ := RAlone (k := 5) (n := 5) 5 (by decide) rfl (by decide) (by decide) (by decide) (by decide) (by decide) h2 o2
    have h4 := WF_write (n := 2) h3 o3
    have o4 : ok (c + 7) (wr 2 (xAlone 5 5 (xBase (s1 1 w)))) := ok_write (n := 2) o3
    have e : aBa (m_M_write 2 (m_M_initAlone 5 5 (m_M_initBase mb))) (aWc (m_M_write 2 (m_M_initAlone 5 5 (m_M_initBase mb)))).toNatClampNeg = vat (wr 2 (xAlone 5 5 (xBase (s1 1 w)))) 0 := by
      rw [WF_c h4]; exact h4.2.2.1.2.2.1
    rw [e]
    exact ⟨WF_ends (k := 1) 1 (by decide) rfl (WF_va1 h4), ok_st2 (ok_vv (ok_mono o4 (by omega))) (by decide)⟩
  · rw [if_neg g, WF_begin_n (k := 1) 1 (by decide) rfl h g, if_pos rfl]
    exact ⟨h, ho⟩
theorem RLeaf {w : MW} {md m1 : MM} {j c : Nat} (h : WF w md m1 j) (ho : ok c w) : WF (xLeaf w) (m_M_initLeaf md) m1 j ∧ ok c (xLeaf w) := by
  unfold xLeaf m_M_initLeaf
  by_cases g : stt w 2 = 0
  · obtain ⟨mb, eb, hb⟩ := WF_begin_y (k := 2) 2 (by decide) rfl h g
    rw [if_pos g, eb, if_neg (show ¬ (mb, (1 : Int32)).2 = 0 by show ¬ (1 : Int32) = 0; decide)]
    have o1 := ok_st1 ho (in17 (k := 2) (kk := 2) (by decide) rfl) g
    obtain ⟨h2, o2⟩ := RMiddle hb o1
    have h3 := WF_write (n := 6) h2 o2
    have o3 : ok (c + 7) (vv 2 6 (wr 6 (xMiddle (s1 2 w)))) := ok_vv (ok_write (n := 6) o2)
    have h4 := WF_write (n := 3) (WF_vaO (k := 2) (x := 6) h3 (by decide) (by decide) (by decide) (by decide) (by decide)) o3
    have o4 : ok (c + 6) (wr 3 (vv 2 6 (wr 6 (xMiddle (s1 2 w))))) := ok_write (n := 3) o3
    exact ⟨WF_ends (k := 2) 2 (by decide) rfl h4, ok_st2 (ok_mono o4 (by omega)) (by decide)⟩
  · rw [if_neg g, WF_begin_n (k := 2) 2 (by decide) rfl h g, if_pos rfl]
    exact ⟨h, ho⟩
theorem RLoud {w : MW} {md m1 : MM} {j c : Nat} (h : WF w md m1 j) (ho : ok c w) : WF (xLoud w) (m_M_initLoud md) m1 j ∧ ok c (xLoud w) := by
  unfold xLoud m_M_initLoud
  by_cases g : stt w 7 = 0
  · obtain ⟨mb, eb, hb⟩ := WF_begin_y (k := 7) 7 (by decide) rfl h g
    rw [if_pos g, eb, if_neg (show ¬ (mb, (1 : Int32)).2 = 0 by show ¬ (1 : Int32) = 0; decide)]
    have o1 := ok_st1 ho (in17 (k := 7) (kk := 7) (by decide) rfl) g
    obtain ⟨h2, o2⟩ := RAlone (k := 4) (n := 15) 4 (by decide) rfl (by decide) (by decide) (by decide) (by decide) (by decide) hb o1
    have h3 := WF_write (n := 12) h2 o2
    have o3 : ok (c + 7) (vv 7 12 (wr 12 (xAlone 4 15 (s1 7 w)))) := ok_vv (ok_write (n := 12) o2)
    exact ⟨WF_ends (k := 7) 7 (by decide) rfl (WF_vaO (k := 7) (x := 12) h3 (by decide) (by decide) (by decide) (by decide) (by decide)), ok_st2 (ok_mono o3 (by omega)) (by decide)⟩
  · rw [if_neg g, WF_begin_n (k := 7) 7 (by decide) rfl h g, if_pos rfl]
    exact ⟨h, ho⟩
theorem RLazy {w : MW} {md m1 : MM} {j c : Nat} (h : WF w md m1 j) (ho : ok c w) : WF (xLazy w) (m_M_initLazy md) m1 j ∧ ok c (xLazy w) := by
  unfold xLazy m_M_initLazy
  by_cases g : stt w 13 = 0
  · obtain ⟨mb, eb, hb⟩ := WF_begin_y (k := 13) 13 (by decide) rfl h g
    rw [if_pos g, eb, if_neg (show ¬ (mb, (1 : Int32)).2 = 0 by show ¬ (1 : Int32) = 0; decide)]
    have o1 := ok_st1 ho (in17 (k := 13) (kk := 13) (by decide) rfl) g
    obtain ⟨h2, o2⟩ := RBase hb o1
    have h3 := WF_write (n := 20) h2 o2
    have o3 : ok (c + 7) (wr 20 (xBase (s1 13 w))) := ok_write (n := 20) o2
    have h4 := WF_write (n := 14) h3 o3
    have o4 : ok (c + 6) (wr 14 (wr 20 (xBase (s1 13 w)))) := ok_write (n := 14) o3
    exact ⟨WF_ends (k := 13) 13 (by decide) rfl h4, ok_st2 (ok_mono o4 (by omega)) (by decide)⟩
  · rw [if_neg g, WF_begin_n (k := 13) 13 (by decide) rfl h g, if_pos rfl]
    exact ⟨h, ho⟩
theorem RGrade {w : MW} {md m1 : MM} {j c : Nat} (h : WF w md m1 j) (ho : ok c w) : WF (xGrade w) (m_M_initGrade md) m1 j ∧ ok c (xGrade w) := by
  unfold xGrade m_M_initGrade
  by_cases g : stt w 14 = 0
  · obtain ⟨mb, eb, hb⟩ := WF_begin_y (k := 14) 14 (by decide) rfl h g
    rw [if_pos g, eb, if_neg (show ¬ (mb, (1 : Int32)).2 = 0 by show ¬ (1 : Int32) = 0; decide)]
    have o1 := ok_st1 ho (in17 (k := 14) (kk := 14) (by decide) rfl) g
    have h2 := WF_write (n := 16) hb o1
    have o2 : ok (c + 7) (wr 16 (s1 14 w)) := ok_write (n := 16) o1
    have h3 := WF_write (n := 16) h2 o2
    have o3 : ok (c + 6) (wr 16 (wr 16 (s1 14 w))) := ok_write (n := 16) o2
    have h4 := WF_write (n := 17) h3 o3
    have o4 : ok (c + 5) (vv 14 17 (wr 17 (wr 16 (wr 16 (s1 14 w))))) := ok_vv (ok_write (n := 17) o3)
    exact ⟨WF_ends (k := 14) 14 (by decide) rfl (WF_vaO (k := 14) (x := 17) h4 (by decide) (by decide) (by decide) (by decide) (by decide)), ok_st2 (ok_mono o4 (by omega)) (by decide)⟩
  · rw [if_neg g, WF_begin_n (k := 14) 14 (by decide) rfl h g, if_pos rfl]
    exact ⟨h, ho⟩
theorem RChecked {w : MW} {md m1 : MM} {j c : Nat} (h : WF w md m1 j) (ho : ok c w) : WF (xChecked w) (m_M_initChecked md) m1 j ∧ ok c (xChecked w) := by
  unfold xChecked m_M_initChecked
  by_cases g : stt w 15 = 0
  · obtain ⟨mb, eb, hb⟩ := WF_begin_y (k := 15) 15 (by decide) rfl h g
    rw [if_pos g, eb, if_neg (show ¬ (mb, (1 : Int32)).2 = 0 by show ¬ (1 : Int32) = 0; decide)]
    have o1 : ok (c + 8) (sSe (s1 15 w) (gSw (s1 15 w))) := ok_se (ok_st1 ho (in17 (k := 15) (kk := 15) (by decide) rfl) g)
    have h2 := WF_write (n := 18) (WF_se hb) o1
    have o2 : ok (c + 7) (wr 18 (sSe (s1 15 w) (gSw (s1 15 w)))) := ok_write (n := 18) o1
    exact ⟨WF_ends (k := 15) 15 (by decide) rfl h2, ok_st2 (ok_mono o2 (by omega)) (by decide)⟩
  · rw [if_neg g, WF_begin_n (k := 15) 15 (by decide) rfl h g, if_pos rfl]
    exact ⟨h, ho⟩

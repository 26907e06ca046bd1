theorem con_0 {w : MW} : m_World_construct 0 w = (m_World_write (20 : Int32) w).1 := ((if_neg (by decide)).trans ((if_neg (by decide)).trans ((if_pos (by decide)).trans rfl)))
theorem con_1 {w : MW} : m_World_construct 1 w = (m_World_write (23 : Int32) ((m_World_write (22 : Int32) ((m_World_write (21 : Int32) ((m_World_write (20 : Int32) w).1)).1)).1)).1 := ((if_pos (by decide)).trans rfl)
theorem con_2 {w : MW} : m_World_construct 2 w = (m_World_write (23 : Int32) ((m_World_write (22 : Int32) ((m_World_write (21 : Int32) ((m_World_write (20 : Int32) w).1)).1)).1)).1 := ((if_neg (by decide)).trans ((if_pos (by decide)).trans rfl))
theorem con_6 {w : MW} : m_World_construct 6 w = w := ((if_neg (by decide)).trans ((if_neg (by decide)).trans ((if_neg (by decide)).trans ((if_neg (by decide)).trans rfl))))
theorem con_7 {w : MW} : m_World_construct 7 w = w := ((if_neg (by decide)).trans ((if_neg (by decide)).trans ((if_neg (by decide)).trans ((if_neg (by decide)).trans rfl))))
theorem con_13 {w : MW} : m_World_construct 13 w = (m_World_write (20 : Int32) w).1 := ((if_neg (by decide)).trans ((if_neg (by decide)).trans ((if_neg (by decide)).trans ((if_pos (by decide)).trans rfl))))
theorem con_14 {w : MW} : m_World_construct 14 w = w := ((if_neg (by decide)).trans ((if_neg (by decide)).trans ((if_neg (by decide)).trans ((if_neg (by decide)).trans rfl))))

theorem st_xBase (w : MW) (k : Int32) (h : k.toNatClampNeg ≠ (0 : Int32).toNatClampNeg) : stt (xBase w) k = stt w k := by
  unfold xBase
  split
  · show upd (gSt (wr 1 (vv 0 10 (wr 10 (s1 0 w))))) (0 : Int32).toNatClampNeg 2 k.toNatClampNeg = _
    rw [pk_un h, wr_st]
    show gSt (wr 10 (s1 0 w)) k.toNatClampNeg = _
    rw [wr_st]
    exact pk_un h
  · rfl
theorem st_xBase0 (w : MW) (h3 : ¬ stt w 0 = 3) : ¬ stt (xBase w) 0 = 0 ∧ ¬ stt (xBase w) 0 = 3 := by
  unfold xBase
  split
  · have e : stt (s2 0 (wr 1 (vv 0 10 (wr 10 (s1 0 w))))) 0 = 2 := by
      show upd (gSt (wr 1 (vv 0 10 (wr 10 (s1 0 w))))) (0 : Int32).toNatClampNeg 2 (0 : Int32).toNatClampNeg = 2
      exact pk_us
    rw [e]
    exact ⟨by decide, by decide⟩
  · rename_i h
    exact ⟨h, h3⟩
theorem st_xAlone (a n : Int32) (w : MW) (k : Int32) (h : k.toNatClampNeg ≠ a.toNatClampNeg) : stt (xAlone a n w) k = stt w k := by
  unfold xAlone
  split
  · show upd (gSt (wr n (s1 a w))) a.toNatClampNeg 2 k.toNatClampNeg = _
    rw [pk_un h, wr_st]
    exact pk_un h
  · rfl
theorem st_s1 (a : Int32) (w : MW) (k : Int32) (h : k.toNatClampNeg ≠ a.toNatClampNeg) : stt (s1 a w) k = stt w k := pk_un h
theorem st_s1e (a : Int32) (w : MW) : stt (s1 a w) a = 1 := pk_us
theorem GB_1 {n : Nat} {dp : Int32} {w : MW} (h : dlt dp 4) (h0 : ¬ stt w 0 = 3) (h5 : ¬ stt w 5 = 3) : (mG (n + 6)).2.1 1 dp w = (xAlone 5 5 (xBase w), 0) := by
  refine (tAb_ok (k := 1) (gT := (mG (n + 5)).1) (gI := (mG (n + 5)).2.2.1) (by decide) (by decide) (GA_0 (n := n + 1) (dlt_m h (by decide)) h0)).trans ?_
  have e : (mG (n + 5)).2.2.1 1 dp (xBase w) = xAlone 5 5 (xBase w) := by
    refine (tIf_1 (gI := (mG (n + 4)).2.2.1) (gT := (mG (n + 4)).1) (dlt_le h)).trans ?_
    rw [GI_3 (n := n + 3) (dlt_m (dlt_s h) (by decide)), GI_5 (n := n + 3) (dlt_m (dlt_s h) (by decide)), GA_5 (n := n) (dlt_m (dlt_s h) (by decide)) (by rw [st_xBase w 5 (by decide)]; exact h5)]
  rw [e]
theorem GA_1 {n : Nat} {dp : Int32} {w : MW} (h : dlt dp 5) (h0 : ¬ stt w 0 = 3) (h1 : ¬ stt w 1 = 3) (h5 : ¬ stt w 5 = 3) : (mG (n + 7)).1 1 dp w = (xMiddle w, 0) := by
  unfold xMiddle
  by_cases g : stt w 1 = 0
  · rw [if_pos g]
    have a0 : ¬ stt (s1 1 w) 0 = 3 := by rw [st_s1 1 w 0 (by decide)]; exact h0
    have a5 : ¬ stt (s1 1 w) 5 = 3 := by rw [st_s1 1 w 5 (by decide)]; exact h5
    have b0 := st_xBase0 (s1 1 w) a0
    refine tAt_run (dlt_le h) (by decide) g (GB_1 (dlt_s h) a0 a5) ?_
    refine (tDe_1 (gS := (mG (n + 5)).2.2.2.2) (dp := dp + 1)).trans ?_
    have c : stt (wr 2 (xAlone 5 5 (xBase (s1 1 w)))) 0 = stt (xBase (s1 1 w)) 0 := by
      show gSt (wr 2 (xAlone 5 5 (xBase (s1 1 w)))) (0 : Int32).toNatClampNeg = _
      rw [wr_st]
      exact st_xAlone 5 5 _ 0 (by decide)
    rw [GS_done (n := n + 3) (k := 0) (dlt_m (dlt_s h) (by decide)) (by decide) (by rw [c]; exact b0.2) (by rw [c]; exact b0.1), write_2]
    rfl
  · rw [if_neg g]
    exact tAt_done (dlt_le h) (by decide) h1 g
theorem GA_2 {n : Nat} {dp : Int32} {w : MW} (h : dlt dp 6) (h0 : ¬ stt w 0 = 3) (h1 : ¬ stt w 1 = 3) (h2 : ¬ stt w 2 = 3) (h5 : ¬ stt w 5 = 3) : (mG (n + 9)).1 2 dp w = (xLeaf w, 0) := by
  unfold xLeaf
  by_cases g : stt w 2 = 0
  · rw [if_pos g]
    have a0 : ¬ stt (s1 2 w) 0 = 3 := by rw [st_s1 2 w 0 (by decide)]; exact h0
    have a1 : ¬ stt (s1 2 w) 1 = 3 := by rw [st_s1 2 w 1 (by decide)]; exact h1
    have a5 : ¬ stt (s1 2 w) 5 = 3 := by rw [st_s1 2 w 5 (by decide)]; exact h5
    have e : (mG (n + 8)).2.1 2 (dp + 1) (s1 2 w) = (xMiddle (s1 2 w), 0) := by
      refine (tAb_ok (k := 2) (gT := (mG (n + 7)).1) (gI := (mG (n + 7)).2.2.1) (by decide) (by decide) (GA_1 (n := n) (dlt_s h) a0 a1 a5)).trans ?_
      rw [GI_2 (n := n + 6) (dlt_m (dlt_s h) (by decide))]
    refine tAt_run (dlt_le h) (by decide) g e ?_
    refine (tDe_2 (gS := (mG (n + 7)).2.2.2.2) (dp := dp + 1)).trans ?_
    rw [write_2]
  · rw [if_neg g]
    exact tAt_done (dlt_le h) (by decide) h2 g
theorem GA_7 {n : Nat} {dp : Int32} {w : MW} (h : dlt dp 5) (h4 : ¬ stt w 4 = 3) (h7 : ¬ stt w 7 = 3) : (mG (n + 7)).1 7 dp w = (xLoud w, 0) := by
  unfold xLoud
  by_cases g : stt w 7 = 0
  · rw [if_pos g]
    have a4 : ¬ stt (s1 7 w) 4 = 3 := by rw [st_s1 7 w 4 (by decide)]; exact h4
    have e : (mG (n + 6)).2.1 7 (dp + 1) (s1 7 w) = (xAlone 4 15 (s1 7 w), 0) := by
      refine (GB_top (n := n + 4) (by decide) (by decide) (dlt_m (dlt_s h) (by decide))).trans ?_
      have e2 : (mG (n + 5)).2.2.1 7 (dp + 1) (s1 7 w) = xAlone 4 15 (s1 7 w) := by
        refine (tIf_7 (gI := (mG (n + 4)).2.2.1) (gT := (mG (n + 4)).1) (dlt_le (dlt_s h))).trans ?_
        rw [GI_4 (n := n + 2) (dlt_m (dlt_s (dlt_s h)) (by decide)), GA_4 (n := n) (dlt_m (dlt_s (dlt_s h)) (by decide)) a4]
      rw [e2]
    exact tAt_run (dlt_le h) (by decide) g e (De_7 (gS := (mG (n + 5)).2.2.2.2) (dp := dp + 1))
  · rw [if_neg g]
    exact tAt_done (dlt_le h) (by decide) h7 g
theorem xBad_ne (w : MW) : ¬ (xBad w).2 = 0 := by
  unfold xBad
  split
  · show ¬ (-102 : Int32) = 0
    decide
  · show ¬ (-101 : Int32) = 0
    decide
theorem GA_9 {n : Nat} {dp : Int32} {w : MW} (h : dlt dp 4) (h8 : stt w 8 = 0 ∨ stt w 8 = 3) (h9 : stt w 9 = 0 ∨ stt w 9 = 3) : (mG (n + 6)).1 9 dp w = xWorse w := by
  unfold xWorse
  rcases h9 with g | g
  · rw [if_neg (by rw [g]; decide)]
    have a8 : stt (s1 9 w) 8 = 0 ∨ stt (s1 9 w) 8 = 3 := by rw [st_s1 9 w 8 (by decide)]; exact h8
    have e : (mG (n + 5)).2.1 9 (dp + 1) (s1 9 w) = ((xBad (s1 9 w)).1, (xBad (s1 9 w)).2) := tAb_no (k := 9) (gT := (mG (n + 4)).1) (gI := (mG (n + 4)).2.2.1) (by decide) (by decide) (GA_8 (n := n) (dlt_m (dlt_s h) (by decide)) a8) (xBad_ne _)
    exact tAt_runA (dlt_le h) (by decide) g e (xBad_ne _)
  · rw [if_pos g]
    exact tAt_gone (dlt_le h) (by decide) g
theorem GA_13 {n : Nat} {dp : Int32} {w : MW} (h : dlt dp 5) (h0 : ¬ stt w 0 = 3) (h3 : ¬ stt w 13 = 3) : (mG (n + 7)).1 13 dp w = (xLazy w, 0) := by
  unfold xLazy
  by_cases g : stt w 13 = 0
  · rw [if_pos g]
    have a0 : ¬ stt (s1 13 w) 0 = 3 := by rw [st_s1 13 w 0 (by decide)]; exact h0
    have e : (mG (n + 6)).2.1 13 (dp + 1) (s1 13 w) = (xBase (s1 13 w), 0) := by
      refine (tAb_ok (k := 13) (gT := (mG (n + 5)).1) (gI := (mG (n + 5)).2.2.1) (by decide) (by decide) (GA_0 (n := n + 1) (dlt_m (dlt_s h) (by decide)) a0)).trans ?_
      rw [GI_13 (n := n + 4) (dlt_m (dlt_s h) (by decide))]
    refine tAt_run (dlt_le h) (by decide) g e ?_
    refine (tDe_13 (gS := (mG (n + 5)).2.2.2.2) (dp := dp + 1)).trans ?_
    rw [con_13]
  · rw [if_neg g]
    exact tAt_done (dlt_le h) (by decide) h3 g
theorem GA_11in {n : Nat} {dp : Int32} {w : MW} (h : dlt dp 2) (ha : ¬ stt w 10 = 0) (ha3 : ¬ stt w 10 = 3) (hb : ¬ stt w 11 = 3) : (mG (n + 4)).1 11 dp w = (xSecondIn w, 0) := by
  unfold xSecondIn
  by_cases g : stt w 11 = 0
  · rw [if_pos g]
    refine tAt_run (dlt_le h) (by decide) g (GB_11 (dlt_s h)) ?_
    refine (tDe_11 (gS := (mG (n + 2)).2.2.2.2) (dp := dp + 1)).trans ?_
    rw [GS_done (n := n) (k := 10) (dlt_m (dlt_s h) (by decide)) (by decide) (by rw [st_s1 11 w 10 (by decide)]; exact ha3) (by rw [st_s1 11 w 10 (by decide)]; exact ha), write_2]
  · rw [if_neg g]
    exact tAt_done (dlt_le h) (by decide) hb g
theorem GA_10in {n : Nat} {dp : Int32} {w : MW} (h : dlt dp 2) (ha : ¬ stt w 11 = 0) (ha3 : ¬ stt w 11 = 3) (hb : ¬ stt w 10 = 3) : (mG (n + 4)).1 10 dp w = (xFirstIn w, 0) := by
  unfold xFirstIn
  by_cases g : stt w 10 = 0
  · rw [if_pos g]
    refine tAt_run (dlt_le h) (by decide) g (GB_10 (dlt_s h)) ?_
    refine (tDe_10 (gS := (mG (n + 2)).2.2.2.2) (dp := dp + 1)).trans ?_
    rw [GS_done (n := n) (k := 11) (dlt_m (dlt_s h) (by decide)) (by decide) (by rw [st_s1 10 w 11 (by decide)]; exact ha3) (by rw [st_s1 10 w 11 (by decide)]; exact ha), write_2]
  · rw [if_neg g]
    exact tAt_done (dlt_le h) (by decide) hb g
theorem GA_10 {n : Nat} {dp : Int32} {w : MW} (h : dlt dp 4) (ha : ¬ stt w 10 = 3) (hb : ¬ stt w 11 = 3) : (mG (n + 7)).1 10 dp w = (xFirst w, 0) := by
  unfold xFirst
  by_cases g : stt w 10 = 0
  · rw [if_pos g]
    refine tAt_run (dlt_le h) (by decide) g (GB_10 (n := n + 3) (dlt_m (dlt_s h) (by decide))) ?_
    refine (tDe_10 (gS := (mG (n + 5)).2.2.2.2) (dp := dp + 1)).trans ?_
    have e : (mG (n + 5)).2.2.2.2 11 (dp + 1) (s1 10 w) = (xSecondIn (s1 10 w), vat (xSecondIn (s1 10 w)) 11) := by
      show m_tAs (mG (n + 4)).1 11 (dp + 1) (s1 10 w) = _
      unfold m_tAs
      rw [GA_11in (n := n) (dlt_m (dlt_s h) (by decide)) (by rw [st_s1e]; decide) (by rw [st_s1e]; decide) (by rw [st_s1 10 w 11 (by decide)]; exact hb)]
    rw [e, write_2]
  · rw [if_neg g]
    exact tAt_done (dlt_le h) (by decide) ha g
theorem GA_11 {n : Nat} {dp : Int32} {w : MW} (h : dlt dp 4) (ha : ¬ stt w 11 = 3) (hb : ¬ stt w 10 = 3) : (mG (n + 7)).1 11 dp w = (xSecond w, 0) := by
  unfold xSecond
  by_cases g : stt w 11 = 0
  · rw [if_pos g]
    refine tAt_run (dlt_le h) (by decide) g (GB_11 (n := n + 3) (dlt_m (dlt_s h) (by decide))) ?_
    refine (tDe_11 (gS := (mG (n + 5)).2.2.2.2) (dp := dp + 1)).trans ?_
    have e : (mG (n + 5)).2.2.2.2 10 (dp + 1) (s1 11 w) = (xFirstIn (s1 11 w), vat (xFirstIn (s1 11 w)) 10) := by
      show m_tAs (mG (n + 4)).1 10 (dp + 1) (s1 11 w) = _
      unfold m_tAs
      rw [GA_10in (n := n) (dlt_m (dlt_s h) (by decide)) (by rw [st_s1e]; decide) (by rw [st_s1e]; decide) (by rw [st_s1 11 w 10 (by decide)]; exact hb)]
    rw [e, write_2]
  · rw [if_neg g]
    exact tAt_done (dlt_le h) (by decide) ha g

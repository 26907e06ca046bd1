-- EXPLICIT FORMS
def dlt (dp : Int32) (d : Nat) : Prop := 0 ≤ dp.toInt ∧ dp.toInt + d ≤ 34
theorem dlt_le {dp : Int32} {d : Nat} (h : dlt dp d) : dp ≤ 34 := by
  rw [Int32.le_iff_toInt_le, show (34 : Int32).toInt = 34 from by decide]
  have := h.2
  omega
theorem dlt_s {dp : Int32} {d : Nat} (h : dlt dp (d + 1)) : dlt (dp + 1) d := by
  have h1 := h.1
  have h2 := h.2
  have e := inc_toInt h1 (by omega)
  exact ⟨by omega, by omega⟩
theorem dlt_m {dp : Int32} {d e : Nat} (h : dlt dp d) (he : e ≤ d) : dlt dp e := ⟨h.1, by have := h.2; omega⟩
theorem wr_st (n : Int32) (w : MW) : gSt (wr n w) = gSt w := by
  show gSt (m_World_write n w).1 = gSt w
  unfold m_World_write
  split <;> rfl
theorem wr_va (n : Int32) (w : MW) : gVa (wr n w) = gVa w := by
  show gVa (m_World_write n w).1 = gVa w
  unfold m_World_write
  split <;> rfl
theorem wr_sw (n : Int32) (w : MW) : gSw (wr n w) = gSw w := by
  show gSw (m_World_write n w).1 = gSw w
  unfold m_World_write
  split <;> rfl
theorem wr_se (n : Int32) (w : MW) : gSe (wr n w) = gSe w := by
  show gSe (m_World_write n w).1 = gSe w
  unfold m_World_write
  split <;> rfl
theorem wr_nu (n : Int32) (w : MW) : gNu (wr n w) = gNu w := by
  show gNu (m_World_write n w).1 = gNu w
  unfold m_World_write
  split <;> rfl
def xBase (w : MW) : MW := if stt w 0 = 0 then s2 0 (wr 1 (vv 0 10 (wr 10 (s1 0 w)))) else w
def xAlone (k n : Int32) (w : MW) : MW := if stt w k = 0 then s2 k (vv k n (wr n (s1 k w))) else w
def xMid (w : MW) : MW := vv 1 (2 + vat w 0) w
def xMiddle (w : MW) : MW := if stt w 1 = 0 then s2 1 (xMid (wr 2 (xAlone 5 5 (xBase (s1 1 w))))) else w
def xLeaf (w : MW) : MW := if stt w 2 = 0 then s2 2 (wr 3 (vv 2 6 (wr 6 (xMiddle (s1 2 w))))) else w
def xLoud (w : MW) : MW := if stt w 7 = 0 then s2 7 (vv 7 12 (wr 12 (xAlone 4 15 (s1 7 w)))) else w
def xBad (w : MW) : MW × Int32 := if stt w 8 = 3 then (w, -102) else (s3 8 (vv 8 7 (wr 7 (s1 8 w))), -101)
def xWorse (w : MW) : MW × Int32 := if stt w 9 = 3 then (w, -102) else (s3 9 (xBad (s1 9 w)).1, (xBad (s1 9 w)).2)
def xSecondIn (w : MW) : MW := if stt w 11 = 0 then s2 11 (vv 11 (vat w 10 + 40) (wr 40 (s1 11 w))) else w
def xFirstIn (w : MW) : MW := if stt w 10 = 0 then s2 10 (vv 10 (vat w 11 + 30) (wr 30 (s1 10 w))) else w
def xFirst (w : MW) : MW := if stt w 10 = 0 then s2 10 (vv 10 (vat (xSecondIn (s1 10 w)) 11 + 30) (wr 30 (xSecondIn (s1 10 w)))) else w
def xSecond (w : MW) : MW := if stt w 11 = 0 then s2 11 (vv 11 (vat (xFirstIn (s1 11 w)) 10 + 40) (wr 40 (xFirstIn (s1 11 w)))) else w
def xLazy (w : MW) : MW := if stt w 13 = 0 then s2 13 (wr 14 (wr 20 (xBase (s1 13 w)))) else w
def xGrade (w : MW) : MW := if stt w 14 = 0 then s2 14 (vv 14 17 (wr 17 (wr 16 (wr 16 (s1 14 w))))) else w
def xChecked (w : MW) : MW := if stt w 15 = 0 then s2 15 (wr 18 (sSe (s1 15 w) (gSw (s1 15 w)))) else w
-- what is above
theorem GA_none {n : Nat} {dp : Int32} {w : MW} (h : dlt dp 0) : (mG (n + 1)).1 (-1) dp w = (w, 0) := tAt_none (dlt_le h)
theorem GI_w {n : Nat} {k dp : Int32} {w : MW} (hI : ∀ (gI : FTv) (gT : FT) (dp : Int32) (w : MW), dp ≤ 34 → m_tIf gI gT k dp w = w) (h : dlt dp 0) : (mG (n + 1)).2.2.1 k dp w = w := hI _ _ _ _ (dlt_le h)
theorem GB_top {n : Nat} {k dp : Int32} {w : MW} (hi : m_Kinds_isInterface k = 0) (hu : m_Kinds_up k = -1) (h : dlt dp 0) : (mG (n + 2)).2.1 k dp w = ((mG (n + 1)).2.2.1 k dp w, 0) := tAb_ok hi hu (GA_none h)
theorem GB_face {n : Nat} {k dp : Int32} {w : MW} (hi : ¬ m_Kinds_isInterface k = 0) : (mG (n + 1)).2.1 k dp w = (w, 0) := tAb_if hi

theorem GI_0 {n : Nat} {dp : Int32} {w : MW} (h : dlt dp 0) : (mG (n + 1)).2.2.1 0 dp w = w := tIf_0 (dlt_le h)
theorem GI_2 {n : Nat} {dp : Int32} {w : MW} (h : dlt dp 0) : (mG (n + 1)).2.2.1 2 dp w = w := tIf_2 (dlt_le h)
theorem GI_3 {n : Nat} {dp : Int32} {w : MW} (h : dlt dp 0) : (mG (n + 1)).2.2.1 3 dp w = w := tIf_3 (dlt_le h)
theorem GI_5 {n : Nat} {dp : Int32} {w : MW} (h : dlt dp 0) : (mG (n + 1)).2.2.1 5 dp w = w := tIf_5 (dlt_le h)
theorem GI_8 {n : Nat} {dp : Int32} {w : MW} (h : dlt dp 0) : (mG (n + 1)).2.2.1 8 dp w = w := tIf_8 (dlt_le h)
theorem GI_9 {n : Nat} {dp : Int32} {w : MW} (h : dlt dp 0) : (mG (n + 1)).2.2.1 9 dp w = w := tIf_9 (dlt_le h)
theorem GI_10 {n : Nat} {dp : Int32} {w : MW} (h : dlt dp 0) : (mG (n + 1)).2.2.1 10 dp w = w := tIf_10 (dlt_le h)
theorem GI_11 {n : Nat} {dp : Int32} {w : MW} (h : dlt dp 0) : (mG (n + 1)).2.2.1 11 dp w = w := tIf_11 (dlt_le h)
theorem GI_12 {n : Nat} {dp : Int32} {w : MW} (h : dlt dp 0) : (mG (n + 1)).2.2.1 12 dp w = w := tIf_12 (dlt_le h)
theorem GI_13 {n : Nat} {dp : Int32} {w : MW} (h : dlt dp 0) : (mG (n + 1)).2.2.1 13 dp w = w := tIf_13 (dlt_le h)
theorem GI_14 {n : Nat} {dp : Int32} {w : MW} (h : dlt dp 0) : (mG (n + 1)).2.2.1 14 dp w = w := tIf_14 (dlt_le h)
theorem GI_15 {n : Nat} {dp : Int32} {w : MW} (h : dlt dp 0) : (mG (n + 1)).2.2.1 15 dp w = w := tIf_15 (dlt_le h)
theorem GI_16 {n : Nat} {dp : Int32} {w : MW} (h : dlt dp 0) : (mG (n + 1)).2.2.1 16 dp w = w := tIf_16 (dlt_le h)
theorem GI_4 {n : Nat} {dp : Int32} {w : MW} (h : dlt dp 1) : (mG (n + 2)).2.2.1 4 dp w = w := (tIf_4 (dlt_le h)).trans (GI_3 (dlt_s h))
theorem GI_6 {n : Nat} {dp : Int32} {w : MW} (h : dlt dp 1) : (mG (n + 2)).2.2.1 6 dp w = w := (tIf_6 (dlt_le h)).trans (GI_3 (dlt_s h))
theorem GB_0 {n : Nat} {dp : Int32} {w : MW} (h : dlt dp 1) : (mG (n + 3)).2.1 0 dp w = (w, 0) := (GB_top (by decide) (by decide) (dlt_m h (by decide))).trans (by rw [GI_0 (dlt_m h (by decide))])
theorem GB_8 {n : Nat} {dp : Int32} {w : MW} (h : dlt dp 1) : (mG (n + 3)).2.1 8 dp w = (w, 0) := (GB_top (by decide) (by decide) (dlt_m h (by decide))).trans (by rw [GI_8 (dlt_m h (by decide))])
theorem GB_10 {n : Nat} {dp : Int32} {w : MW} (h : dlt dp 1) : (mG (n + 3)).2.1 10 dp w = (w, 0) := (GB_top (by decide) (by decide) (dlt_m h (by decide))).trans (by rw [GI_10 (dlt_m h (by decide))])
theorem GB_11 {n : Nat} {dp : Int32} {w : MW} (h : dlt dp 1) : (mG (n + 3)).2.1 11 dp w = (w, 0) := (GB_top (by decide) (by decide) (dlt_m h (by decide))).trans (by rw [GI_11 (dlt_m h (by decide))])
theorem GB_12 {n : Nat} {dp : Int32} {w : MW} (h : dlt dp 1) : (mG (n + 3)).2.1 12 dp w = (w, 0) := (GB_top (by decide) (by decide) (dlt_m h (by decide))).trans (by rw [GI_12 (dlt_m h (by decide))])
theorem GB_14 {n : Nat} {dp : Int32} {w : MW} (h : dlt dp 1) : (mG (n + 3)).2.1 14 dp w = (w, 0) := (GB_top (by decide) (by decide) (dlt_m h (by decide))).trans (by rw [GI_14 (dlt_m h (by decide))])
theorem GB_15 {n : Nat} {dp : Int32} {w : MW} (h : dlt dp 1) : (mG (n + 3)).2.1 15 dp w = (w, 0) := (GB_top (by decide) (by decide) (dlt_m h (by decide))).trans (by rw [GI_15 (dlt_m h (by decide))])
theorem GB_16 {n : Nat} {dp : Int32} {w : MW} (h : dlt dp 1) : (mG (n + 3)).2.1 16 dp w = (w, 0) := (GB_top (by decide) (by decide) (dlt_m h (by decide))).trans (by rw [GI_16 (dlt_m h (by decide))])
theorem GB_6 {n : Nat} {dp : Int32} {w : MW} (h : dlt dp 1) : (mG (n + 3)).2.1 6 dp w = (w, 0) := (GB_top (by decide) (by decide) (dlt_m h (by decide))).trans (by rw [GI_6 h])
theorem GB_3 {n : Nat} {dp : Int32} {w : MW} (h : dlt dp 1) : (mG (n + 3)).2.1 3 dp w = (w, 0) := GB_face (by decide)
theorem GB_4 {n : Nat} {dp : Int32} {w : MW} (h : dlt dp 1) : (mG (n + 3)).2.1 4 dp w = (w, 0) := GB_face (by decide)
theorem GB_5 {n : Nat} {dp : Int32} {w : MW} (h : dlt dp 1) : (mG (n + 3)).2.1 5 dp w = (w, 0) := GB_face (by decide)
theorem De_3 {gS : FT} {dp : Int32} {w : MW} : m_tDe gS 3 dp w = (vv 3 4 (wr 4 w), 0) := by
  rw [tDe_3, write_2, show m_World_onlyNote 3 = 4 from by decide]
theorem De_4 {gS : FT} {dp : Int32} {w : MW} : m_tDe gS 4 dp w = (vv 4 15 (wr 15 w), 0) := by
  rw [tDe_4, write_2, show m_World_onlyNote 4 = 15 from by decide]
theorem De_5 {gS : FT} {dp : Int32} {w : MW} : m_tDe gS 5 dp w = (vv 5 5 (wr 5 w), 0) := by
  rw [tDe_5, write_2, show m_World_onlyNote 5 = 5 from by decide]
theorem De_6 {gS : FT} {dp : Int32} {w : MW} : m_tDe gS 6 dp w = (vv 6 11 (wr 11 w), 0) := by
  rw [tDe_6, write_2, show m_World_onlyNote 6 = 11 from by decide]
theorem De_12 {gS : FT} {dp : Int32} {w : MW} : m_tDe gS 12 dp w = (vv 12 13 (wr 13 w), 0) := by
  rw [tDe_12, write_2, show m_World_onlyNote 12 = 13 from by decide]
theorem De_16 {gS : FT} {dp : Int32} {w : MW} : m_tDe gS 16 dp w = (vv 16 19 (wr 19 w), 0) := by
  rw [tDe_16, write_2, show m_World_onlyNote 16 = 19 from by decide]
theorem De_7 {gS : FT} {dp : Int32} {w : MW} : m_tDe gS 7 dp w = (vv 7 12 (wr 12 w), 0) := by
  rw [tDe_7, write_2, show m_World_onlyNote 7 = 12 from by decide]
theorem De_9 {gS : FT} {dp : Int32} {w : MW} : m_tDe gS 9 dp w = (vv 9 8 (wr 8 w), 0) := by
  rw [tDe_9, write_2, show m_World_onlyNote 9 = 8 from by decide]
theorem GA_3 {n : Nat} {dp : Int32} {w : MW} (h : dlt dp 2) (h3 : ¬ stt w 3 = 3) : (mG (n + 4)).1 3 dp w = (xAlone 3 4 w, 0) := by
  unfold xAlone
  by_cases h0 : stt w 3 = 0
  · rw [if_pos h0]
    exact tAt_run (dlt_le h) (by decide) h0 (GB_3 (dlt_s h)) (De_3 (gS := (mG (n + 2)).2.2.2.2) (dp := dp + 1))
  · rw [if_neg h0]
    exact tAt_done (dlt_le h) (by decide) h3 h0
theorem GA_4 {n : Nat} {dp : Int32} {w : MW} (h : dlt dp 2) (h3 : ¬ stt w 4 = 3) : (mG (n + 4)).1 4 dp w = (xAlone 4 15 w, 0) := by
  unfold xAlone
  by_cases h0 : stt w 4 = 0
  · rw [if_pos h0]
    exact tAt_run (dlt_le h) (by decide) h0 (GB_4 (dlt_s h)) (De_4 (gS := (mG (n + 2)).2.2.2.2) (dp := dp + 1))
  · rw [if_neg h0]
    exact tAt_done (dlt_le h) (by decide) h3 h0
theorem GA_5 {n : Nat} {dp : Int32} {w : MW} (h : dlt dp 2) (h3 : ¬ stt w 5 = 3) : (mG (n + 4)).1 5 dp w = (xAlone 5 5 w, 0) := by
  unfold xAlone
  by_cases h0 : stt w 5 = 0
  · rw [if_pos h0]
    exact tAt_run (dlt_le h) (by decide) h0 (GB_5 (dlt_s h)) (De_5 (gS := (mG (n + 2)).2.2.2.2) (dp := dp + 1))
  · rw [if_neg h0]
    exact tAt_done (dlt_le h) (by decide) h3 h0
theorem GA_6 {n : Nat} {dp : Int32} {w : MW} (h : dlt dp 2) (h3 : ¬ stt w 6 = 3) : (mG (n + 4)).1 6 dp w = (xAlone 6 11 w, 0) := by
  unfold xAlone
  by_cases h0 : stt w 6 = 0
  · rw [if_pos h0]
    exact tAt_run (dlt_le h) (by decide) h0 (GB_6 (dlt_s h)) (De_6 (gS := (mG (n + 2)).2.2.2.2) (dp := dp + 1))
  · rw [if_neg h0]
    exact tAt_done (dlt_le h) (by decide) h3 h0
theorem GA_12 {n : Nat} {dp : Int32} {w : MW} (h : dlt dp 2) (h3 : ¬ stt w 12 = 3) : (mG (n + 4)).1 12 dp w = (xAlone 12 13 w, 0) := by
  unfold xAlone
  by_cases h0 : stt w 12 = 0
  · rw [if_pos h0]
    exact tAt_run (dlt_le h) (by decide) h0 (GB_12 (dlt_s h)) (De_12 (gS := (mG (n + 2)).2.2.2.2) (dp := dp + 1))
  · rw [if_neg h0]
    exact tAt_done (dlt_le h) (by decide) h3 h0
theorem GA_16 {n : Nat} {dp : Int32} {w : MW} (h : dlt dp 2) (h3 : ¬ stt w 16 = 3) : (mG (n + 4)).1 16 dp w = (xAlone 16 19 w, 0) := by
  unfold xAlone
  by_cases h0 : stt w 16 = 0
  · rw [if_pos h0]
    exact tAt_run (dlt_le h) (by decide) h0 (GB_16 (dlt_s h)) (De_16 (gS := (mG (n + 2)).2.2.2.2) (dp := dp + 1))
  · rw [if_neg h0]
    exact tAt_done (dlt_le h) (by decide) h3 h0
theorem De_0 {gS : FT} {dp : Int32} {w : MW} : m_tDe gS 0 dp w = (wr 1 (vv 0 10 (wr 10 w)), 0) := by
  rw [tDe_0, write_2]
theorem GA_0 {n : Nat} {dp : Int32} {w : MW} (h : dlt dp 2) (h3 : ¬ stt w 0 = 3) : (mG (n + 4)).1 0 dp w = (xBase w, 0) := by
  unfold xBase
  by_cases h0 : stt w 0 = 0
  · rw [if_pos h0]
    exact tAt_run (dlt_le h) (by decide) h0 (GB_0 (dlt_s h)) (De_0 (gS := (mG (n + 2)).2.2.2.2) (dp := dp + 1))
  · rw [if_neg h0]
    exact tAt_done (dlt_le h) (by decide) h3 h0
theorem GS_done {n : Nat} {k dp : Int32} {w : MW} (h : dlt dp 0) (ht : ¬ m_Kinds_isThere k = 0) (h3 : ¬ stt w k = 3) (h0 : ¬ stt w k = 0) : (mG (n + 2)).2.2.2.2 k dp w = (w, vat w k) := by
  show m_tAs (mG (n + 1)).1 k dp w = (w, vat w k)
  unfold m_tAs
  rw [show (mG (n + 1)).1 k dp w = (w, 0) from tAt_done (dlt_le h) ht h3 h0]
theorem GA_14 {n : Nat} {dp : Int32} {w : MW} (h : dlt dp 2) (h3 : ¬ stt w 14 = 3) : (mG (n + 4)).1 14 dp w = (xGrade w, 0) := by
  unfold xGrade
  by_cases h0 : stt w 14 = 0
  · rw [if_pos h0]
    exact tAt_run (dlt_le h) (by decide) h0 (GB_14 (dlt_s h)) ((tDe_14 (gS := (mG (n + 2)).2.2.2.2) (dp := dp + 1)).trans (by rw [write_2]))
  · rw [if_neg h0]
    exact tAt_done (dlt_le h) (by decide) h3 h0
theorem GA_15 {n : Nat} {dp : Int32} {w : MW} (h : dlt dp 2) (h3 : ¬ stt w 15 = 3) : (mG (n + 4)).1 15 dp w = (xChecked w, 0) := by
  unfold xChecked
  by_cases h0 : stt w 15 = 0
  · rw [if_pos h0]
    exact tAt_run (dlt_le h) (by decide) h0 (GB_15 (dlt_s h)) (tDe_15 (gS := (mG (n + 2)).2.2.2.2) (dp := dp + 1))
  · rw [if_neg h0]
    exact tAt_done (dlt_le h) (by decide) h3 h0
theorem GA_8 {n : Nat} {dp : Int32} {w : MW} (h : dlt dp 2) (h3 : stt w 8 = 0 ∨ stt w 8 = 3) : (mG (n + 4)).1 8 dp w = xBad w := by
  unfold xBad
  rcases h3 with h0 | h0
  · rw [if_neg (by rw [h0]; decide)]
    exact tAt_runF (dlt_le h) (by decide) h0 (GB_8 (dlt_s h)) ((tDe_8 (gS := (mG (n + 2)).2.2.2.2) (dp := dp + 1)).trans (by rw [write_2])) (by decide)
  · rw [if_pos h0]
    exact tAt_gone (dlt_le h) (by decide) h0

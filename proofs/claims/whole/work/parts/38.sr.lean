-- THE LAW'S INVARIANT
def upW (ws : Nat → MW) (j : Nat) (w : MW) : Nat → MW := fun i => if i = j then w else ws i
theorem upW_s {ws : Nat → MW} {j : Nat} {w : MW} : upW ws j w j = w := if_pos rfl
theorem upW_n {ws : Nat → MW} {j i : Nat} {w : MW} (h : i ≠ j) : upW ws j w i = ws i := if_neg h
/-- the reference's world j is as if it had not begun -/
def ZR (md : MM) (j : Nat) : Prop := (∀ k, k < 17 → aSt md (j * 17 + k) = 0) ∧ (∀ i, i < 64 → aNo md (j * 64 + i) = 0) ∧ aBa md j = 0 ∧ aMi md j = 0 ∧ aXx md j = 0 ∧ aYy md j = 0 ∧ aMa md j = 0 ∧ aNd md j = 0 ∧ aSe md j = 0
def K6 (v : Int32) : Prop := v = 0 ∨ v = 1 ∨ v = 2 ∨ v = 6 ∨ v = 7 ∨ v = 14
def SL (n : Nat) (sk sl : Nat → Int32) (md : MM) : Prop := ∀ i, i < 6 → aHe md i = sk i ∧ (sk i = -1 ∨ (K6 (sk i) ∧ aHi md i = sl i ∧ ∃ t, t < n ∧ sl i = nI t))
def cuI : Option Nat → Int32
  | none => -1
  | some j => nI j
def SR (c n : Nat) (cur : Option Nat) (ws : Nat → MW) (sk sl : Nat → Int32) (md : MM) : Prop :=
  n ≤ 8 ∧ aWn md = nI n ∧ aWc md = cuI cur ∧ (∀ j, cur = some j → j < n) ∧ (∀ j, j < n → WR (ws j) md j ∧ CR (ws j) ∧ gNu (ws j) = nI j ∧ ok c (ws j)) ∧ (∀ j, n ≤ j → j < 8 → ZR md j) ∧ SL n sk sl md
theorem SR_mono {c d n : Nat} {cur : Option Nat} {ws : Nat → MW} {sk sl : Nat → Int32} {md : MM} (h : SR c n cur ws sk sl md) (hd : d ≤ c) : SR d n cur ws sk sl md := by
  obtain ⟨a1, a2, a3, a4, a5, a6, a7⟩ := h
  refine ⟨a1, a2, a3, a4, fun j hj => ?_, a6, a7⟩
  obtain ⟨b1, b2, b3, b4⟩ := a5 j hj
  exact ⟨b1, b2, b3, ok_mono b4 hd⟩
theorem SR_WF {c n j : Nat} {ws : Nat → MW} {sk sl : Nat → Int32} {md : MM} (h : SR c n (some j) ws sk sl md) : WF (ws j) md md j := by
  have hj := h.2.2.2.1 j rfl
  exact ⟨by have := h.1; omega, h.2.2.1, (h.2.2.2.2.1 j hj).1, FR_refl md j⟩
theorem SR_j {c n j : Nat} {ws : Nat → MW} {sk sl : Nat → Int32} {md : MM} (h : SR c n (some j) ws sk sl md) : j < n ∧ CR (ws j) ∧ gNu (ws j) = nI j ∧ ok c (ws j) := by
  have hj := h.2.2.2.1 j rfl
  exact ⟨hj, (h.2.2.2.2.1 j hj).2⟩
theorem WR_fr {w : MW} {md md' : MM} {i j : Nat} (hF : FR md md' j) (hi : i < 8) (hij : i ≠ j) (h : WR w md i) : WR w md' i := by
  obtain ⟨f1, f2, f3, f4, f5, f6, f7, f8, f9, f10⟩ := hF.1 i hi hij
  obtain ⟨a1, a2, a3, a4, a5, a6, a7, a8, a9, a10⟩ := h
  exact ⟨fun k hk => (f1 k hk).trans (a1 k hk), fun k hk => (f2 k hk).trans (a2 k hk), f3.trans a3, f4.trans a4, f5.trans a5, f6.trans a6, f7.trans a7, f8.trans a8, f9.trans a9, f10.trans a10⟩
theorem ZR_fr {md md' : MM} {i j : Nat} (hF : FR md md' j) (hi : i < 8) (hij : i ≠ j) (h : ZR md i) : ZR md' i := by
  obtain ⟨f1, f2, f3, f4, f5, f6, f7, f8, f9, f10⟩ := hF.1 i hi hij
  obtain ⟨a1, a2, a3, a4, a5, a6, a7, a8, a10⟩ := h
  exact ⟨fun k hk => (f1 k hk).trans (a1 k hk), fun k hk => (f2 k hk).trans (a2 k hk), f3.trans a3, f4.trans a4, f5.trans a5, f6.trans a6, f7.trans a7, f8.trans a8, f10.trans a10⟩
theorem SR_step {c d n j : Nat} {ws : Nat → MW} {sk sl : Nat → Int32} {md md' : MM} {w' : MW} (h : SR d n (some j) ws sk sl md) (hcd : c ≤ d) (hw : WF w' md' md j) (ho : ok c w') (hc : CR w') (hn : gNu w' = gNu (ws j)) : SR c n (some j) (upW ws j w') sk sl md' := by
  obtain ⟨a1, a2, a3, a4, a5, a6, a7⟩ := h
  have hj : j < n := a4 j rfl
  obtain ⟨w1, w2, w3, w4⟩ := hw
  refine ⟨a1, w4.2.1.trans a2, w2, a4, fun i hi => ?_, fun i h1 h2 => ZR_fr w4 h2 (by omega) (a6 i h1 h2), fun i hi => ?_⟩
  · by_cases e : i = j
    · subst e
      rw [upW_s]
      exact ⟨w3, hc, hn.trans (a5 i hi).2.2.1, ho⟩
    · rw [upW_n e]
      obtain ⟨b1, b2, b3, b4⟩ := a5 i hi
      exact ⟨WR_fr w4 (by omega) e b1, b2, b3, ok_mono b4 hcd⟩
  · rw [w4.2.2.1, w4.2.2.2]
    exact a7 i hi
theorem SR_okM {c n : Nat} {cur : Option Nat} {ws : Nat → MW} {sk sl : Nat → Int32} {md : MM} (h : SR c n cur ws sk sl md) (hc : 20 ≤ c) : 0 ≤ aWc md → okM 20 md := by
  intro h0
  cases cur with
  | none =>
    have e : aWc md = -1 := h.2.2.1
    rw [e] at h0
    exact absurd h0 (by decide)
  | some j =>
    have hW := SR_WF h
    obtain ⟨hj, -, -, ho⟩ := SR_j h
    have e : aWc md = nI j := h.2.2.1
    have hj8 : j < 8 := hW.1
    have en : aNd md j = gWr (ws j) := hW.2.2.1.2.2.2.2.2.2.2.1
    have hu := untN_0 (gSt (ws j)) 17
    unfold okM
    rw [WF_c hW, e, en]
    have h1 := ho.1
    have h2 := ho.2
    unfold unt at h2
    exact ⟨vp_in_nI hj8 (by decide), h1, by omega⟩
-- the number of a world stays
theorem nu_s1 (k : Int32) (w : MW) : gNu (s1 k w) = gNu w := rfl
theorem nu_s2 (k : Int32) (w : MW) : gNu (s2 k w) = gNu w := rfl
theorem nu_s3 (k : Int32) (w : MW) : gNu (s3 k w) = gNu w := rfl
theorem nu_vv (k x : Int32) (w : MW) : gNu (vv k x w) = gNu w := rfl
theorem nu_se (b : Bool) (w : MW) : gNu (sSe w b) = gNu w := rfl
theorem nu_xMid (w : MW) : gNu (xMid w) = gNu w := rfl
theorem nu_xBase (w : MW) : gNu (xBase w) = gNu w := by
  unfold xBase
  split
  · rw [nu_s2, wr_nu, nu_vv, wr_nu, nu_s1]
  · rfl
theorem nu_xAlone (k n : Int32) (w : MW) : gNu (xAlone k n w) = gNu w := by
  unfold xAlone
  split
  · rw [nu_s2, nu_vv, wr_nu, nu_s1]
  · rfl
theorem nu_xMiddle (w : MW) : gNu (xMiddle w) = gNu w := by
  unfold xMiddle
  split
  · rw [nu_s2, nu_xMid, wr_nu, nu_xAlone, nu_xBase, nu_s1]
  · rfl
theorem nu_xLeaf (w : MW) : gNu (xLeaf w) = gNu w := by
  unfold xLeaf
  split
  · rw [nu_s2, wr_nu, nu_vv, wr_nu, nu_xMiddle, nu_s1]
  · rfl
theorem nu_xLoud (w : MW) : gNu (xLoud w) = gNu w := by
  unfold xLoud
  split
  · rw [nu_s2, nu_vv, wr_nu, nu_xAlone, nu_s1]
  · rfl
theorem nu_xBad (w : MW) : gNu (xBad w).1 = gNu w := by
  unfold xBad
  split
  · rfl
  · show gNu (s3 8 (vv 8 7 (wr 7 (s1 8 w)))) = gNu w
    rw [nu_s3, nu_vv, wr_nu, nu_s1]
theorem nu_xWorse (w : MW) : gNu (xWorse w).1 = gNu w := by
  unfold xWorse
  split
  · rfl
  · show gNu (s3 9 (xBad (s1 9 w)).1) = gNu w
    rw [nu_s3, nu_xBad, nu_s1]
theorem nu_xSecondIn (w : MW) : gNu (xSecondIn w) = gNu w := by
  unfold xSecondIn
  split
  · rw [nu_s2, nu_vv, wr_nu, nu_s1]
  · rfl
theorem nu_xFirstIn (w : MW) : gNu (xFirstIn w) = gNu w := by
  unfold xFirstIn
  split
  · rw [nu_s2, nu_vv, wr_nu, nu_s1]
  · rfl
theorem nu_xFirst (w : MW) : gNu (xFirst w) = gNu w := by
  unfold xFirst
  split
  · rw [nu_s2, nu_vv, wr_nu, nu_xSecondIn, nu_s1]
  · rfl
theorem nu_xSecond (w : MW) : gNu (xSecond w) = gNu w := by
  unfold xSecond
  split
  · rw [nu_s2, nu_vv, wr_nu, nu_xFirstIn, nu_s1]
  · rfl
theorem nu_xLazy (w : MW) : gNu (xLazy w) = gNu w := by
  unfold xLazy
  split
  · rw [nu_s2, wr_nu, wr_nu, nu_xBase, nu_s1]
  · rfl
theorem nu_xGrade (w : MW) : gNu (xGrade w) = gNu w := by
  unfold xGrade
  split
  · rw [nu_s2, nu_vv, wr_nu, wr_nu, wr_nu, nu_s1]
  · rfl
theorem nu_xChecked (w : MW) : gNu (xChecked w) = gNu w := by
  unfold xChecked
  split
  · rw [nu_s2, wr_nu, nu_se, nu_s1]
  · rfl
theorem nu_mAt {w : MW} {k : Int32} (hk : vp_in k 17) (hr : CR w) : gNu (mAt k w).1 = gNu w := by
  rcases lit17 hk with rfl | rfl | rfl | rfl | rfl | rfl | rfl | rfl | rfl | rfl | rfl | rfl | rfl | rfl | rfl | rfl | rfl
  · rw [A_0 hr]; exact nu_xBase w
  · rw [A_1 hr]; exact nu_xMiddle w
  · rw [A_2 hr]; exact nu_xLeaf w
  · rw [A_3 hr]; exact nu_xAlone 3 4 w
  · rw [A_4 hr]; exact nu_xAlone 4 15 w
  · rw [A_5 hr]; exact nu_xAlone 5 5 w
  · rw [A_6 hr]; exact nu_xAlone 6 11 w
  · rw [A_7 hr]; exact nu_xLoud w
  · rw [A_8 hr]; exact nu_xBad w
  · rw [A_9 hr]; exact nu_xWorse w
  · rw [A_10 hr]; exact nu_xFirst w
  · rw [A_11 hr]; exact nu_xSecond w
  · rw [A_12 hr]; exact nu_xAlone 12 13 w
  · rw [A_13 hr]; exact nu_xLazy w
  · rw [A_14 hr]; exact nu_xGrade w
  · rw [A_15 hr]; exact nu_xChecked w
  · rw [A_16 hr]; exact nu_xAlone 16 19 w
theorem nu_mAt1 {w : MW} {k : Int32} (hk : k = -1 ∨ vp_in k 17) (hr : CR w) : gNu (mAt k w).1 = gNu w := by
  rcases hk with rfl | hk
  · rw [mAt_none]
  · exact nu_mAt hk hr
theorem nu_write (n : Int32) (w : MW) : gNu (m_World_write n w).1 = gNu w := wr_nu n w
theorem nu_con (k : Int32) (w : MW) : gNu (m_World_construct k w) = gNu w := by
  unfold m_World_construct
  split
  · rw [nu_write, nu_write, nu_write, nu_write]
  · split
    · rw [nu_write, nu_write, nu_write, nu_write]
    · split
      · rw [nu_write]
      · split
        · rw [nu_write]
        · rfl
theorem CR_mAt1 {w : MW} {k : Int32} (hk : k = -1 ∨ vp_in k 17) (hr : CR w) : CR (mAt k w).1 := by
  rcases hk with rfl | hk
  · rw [mAt_none]; exact hr
  · obtain ⟨kk, h1, h2⟩ := vp_in_of hk (by decide)
    exact CR_mAt kk h1 h2 hr
theorem nu_told {k a : Int32} {w : MW} (hk : vp_in k 30) : gNu (m_Acts_told k a w).1 = gNu w := by
  rcases lit30 hk with rfl | rfl | rfl | rfl | rfl | rfl | rfl | rfl | rfl | rfl | rfl | rfl | rfl | rfl | rfl | rfl | rfl | rfl | rfl | rfl | rfl | rfl | rfl | rfl | rfl | rfl | rfl | rfl | rfl | rfl
  · rw [To_0]
  · rw [To_1]
  · rw [To_2]
  · rw [To_3]
  · rw [To_4]
  · rw [To_5]
  · rw [To_6]
  · rw [To_7]
  · rw [To_8]
  · rw [To_9]
  · rw [To_10]
  · rw [To_11]
  · rw [To_12]
  · rw [To_13]
  · rw [To_14]
  · rw [To_15]
  · rw [To_16]
  · rw [To_17]
  · rw [To_18]
  · rw [To_19]; split <;> rfl
  · rw [To_20]; split <;> rfl
  · rw [To_21]; split
    · rfl
    · split <;> rfl
  · rw [To_22]; split <;> rfl
  · rw [To_23]
  · rw [To_24]
  · rw [To_25]
  · rw [To_26]; exact nu_con 2 w
  · rw [To_27]
  · rw [To_28]
  · rw [To_29]
theorem asF {k a : Int32} (hk : vp_in k 30) : m_Acts_askedFirst k a = -1 ∨ vp_in (m_Acts_askedFirst k a) 17 := by
  rcases lit30 hk with rfl | rfl | rfl | rfl | rfl | rfl | rfl | rfl | rfl | rfl | rfl | rfl | rfl | rfl | rfl | rfl | rfl | rfl | rfl | rfl | rfl | rfl | rfl | rfl | rfl | rfl | rfl | rfl | rfl | rfl
  · rw [Af_0]; exact Or.inr (by unfold vp_in; decide)
  · rw [Af_1]; exact Or.inr (by unfold vp_in; decide)
  · rw [Af_2]; exact Or.inr (by unfold vp_in; decide)
  · rw [Af_3]; exact Or.inl rfl
  · rw [Af_4]; exact Or.inr (by unfold vp_in; decide)
  · rw [Af_5]; exact Or.inl rfl
  · rw [Af_6]; exact Or.inl rfl
  · rw [Af_7]; exact Or.inr (by unfold vp_in; decide)
  · rw [Af_8]; exact Or.inr (by unfold vp_in; decide)
  · rw [Af_9]; exact Or.inr (by unfold vp_in; decide)
  · rw [Af_10]; exact Or.inr (by unfold vp_in; decide)
  · rw [Af_11]; exact Or.inr (by unfold vp_in; decide)
  · rw [Af_12]; exact Or.inr (by unfold vp_in; decide)
  · rw [Af_13]; exact Or.inl rfl
  · rw [Af_14]; exact Or.inr (by unfold vp_in; decide)
  · rw [Af_15]; exact Or.inr (by unfold vp_in; decide)
  · rw [Af_16]; exact Or.inr (by unfold vp_in; decide)
  · rw [Af_17]; exact Or.inr (by unfold vp_in; decide)
  · rw [Af_18]; exact Or.inr (by unfold vp_in; decide)
  · rw [Af_19]; exact Or.inr (by unfold vp_in; decide)
  · rw [Af_20]; exact Or.inr (by unfold vp_in; decide)
  · rw [Af_21]; exact Or.inr (by unfold vp_in; decide)
  · rw [Af_22]; exact Or.inr (by unfold vp_in; decide)
  · rw [Af_23]; exact Or.inl rfl
  · rw [Af_24]; exact Or.inr (by unfold vp_in; decide)
  · have e : m_Acts_askedFirst 25 a = if m_Acts_isOdd a = 0 then -1 else 11 := if_pos rfl
    rw [e]
    split
    · exact Or.inl rfl
    · exact Or.inr (by unfold vp_in; decide)
  · rw [Af_26]; exact Or.inr (by unfold vp_in; decide)
  · rw [Af_27]; exact Or.inr (by unfold vp_in; decide)
  · rw [Af_28]; exact Or.inr (by unfold vp_in; decide)
  · rw [Af_29]; exact Or.inr (by unfold vp_in; decide)
theorem asT {k : Int32} : m_Acts_askedThen k = -1 ∨ vp_in (m_Acts_askedThen k) 17 := by
  unfold m_Acts_askedThen
  split
  · exact Or.inr (by unfold vp_in; decide)
  · split
    · exact Or.inr (by unfold vp_in; decide)
    · exact Or.inl rfl
theorem nu_outcome {k a : Int32} {w : MW} (hk : vp_in k 30) (hr : CR w) : gNu (m_Acts_outcome k a w).1 = gNu w := by
  have h1 : gNu (mAt (m_Acts_askedFirst k a) w).1 = gNu w := nu_mAt1 (asF hk) hr
  have h2 : gNu (mAt (m_Acts_askedThen k) (mAt (m_Acts_askedFirst k a) w).1).1 = gNu w := (nu_mAt1 (asT) (CR_mAt1 (asF hk) hr)).trans h1
  have h3 : gNu (m_Acts_told k a (mAt (m_Acts_askedThen k) (mAt (m_Acts_askedFirst k a) w).1).1).1 = gNu w := (nu_told hk).trans h2
  unfold m_Acts_outcome m_World_initialise
  split
  · split
    · exact h3
    · exact h2
  · exact h1
theorem nu_act {k a : Int32} {w : MW} (hr : CR w) : gNu (m_act_1 k a w).1 = gNu w := by
  unfold m_act_1
  split
  · rfl
  · rename_i g
    exact nu_outcome (mIn_in (n := 30) (N := 30) (by decide) g) hr
theorem nu_find {k : Int32} {b : Bool} {w : MW} (hr : CR w) : gNu (m_find_1 k b w).1 = gNu w := by
  unfold m_find_1
  split
  · rfl
  · rename_i g
    split
    · rfl
    · exact nu_mAt (mIn_in (n := 17) (N := 17) (by decide) g) hr

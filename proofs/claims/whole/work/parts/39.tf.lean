-- EACH CALL OF THE FACE KEEPS THE INVARIANT AND ANSWERS ALIKE
theorem T_SA {c n j : Nat} {ws : Nat → MW} {sk sl : Nat → Int32} {md : MM} {p : MW × Int32} {q : MM × Int32} (h : SR (c + 4) n (some j) ws sk sl md) (hs : SA c j md p q) (hn : gNu p.1 = gNu (ws j)) : p.2 = q.2 ∧ SR c n (some j) (upW ws j p.1) sk sl q.1 :=
  ⟨hs.1, SR_step h (by omega) hs.2.1 hs.2.2.1 hs.2.2.2 hn⟩
theorem T_asserting_1 {c n j : Nat} {ws : Nat → MW} {sk sl : Nat → Int32} {md : MM} {b : Bool} (h : SR (c + 4) n (some j) ws sk sl md) : (m_asserting_1 b (ws j)).2 = (m_M_asserting b md).2 ∧ SR c n (some j) (upW ws j (m_asserting_1 b (ws j)).1) sk sl (m_M_asserting b md).1 :=
  T_SA h (R_asserting (SR_WF h) (ok_mono (SR_j h).2.2.2 (by omega)) (SR_j h).2.1) rfl
theorem T_find_1 {c n j : Nat} {ws : Nat → MW} {sk sl : Nat → Int32} {md : MM} {k : Int32} {b : Bool} (h : SR (c + 4) n (some j) ws sk sl md) : (m_find_1 k b (ws j)).2 = (m_M_find k b md).2 ∧ SR c n (some j) (upW ws j (m_find_1 k b (ws j)).1) sk sl (m_M_find k b md).1 :=
  T_SA h (R_find (SR_WF h) (ok_mono (SR_j h).2.2.2 (by omega)) (SR_j h).2.1) (nu_find (SR_j h).2.1)
theorem T_act_1 {c n j : Nat} {ws : Nat → MW} {sk sl : Nat → Int32} {md : MM} {k a : Int32} (h : SR (c + 4) n (some j) ws sk sl md) : (m_act_1 k a (ws j)).2 = (m_M_act k a md).2 ∧ SR c n (some j) (upW ws j (m_act_1 k a (ws j)).1) sk sl (m_M_act k a md).1 :=
  T_SA h (R_act (SR_WF h) (SR_j h).2.2.2 (SR_j h).2.1) (nu_act (SR_j h).2.1)
theorem T_note_1 {c n j : Nat} {ws : Nat → MW} {sk sl : Nat → Int32} {md : MM} {i : Int32} (h : SR c n (some j) ws sk sl md) : m_note_1 i (ws j) = m_M_note i md := R_note (SR_WF h)
theorem T_count_1 {c n j : Nat} {ws : Nat → MW} {sk sl : Nat → Int32} {md : MM} {i : Int32} (h : SR c n (some j) ws sk sl md) : m_count_1 i (nI n) (ws j) = m_M_count i md := R_count (SR_WF h) (SR_j h).2.2.1 h.2.1
theorem SR_neg {c n : Nat} {ws : Nat → MW} {sk sl : Nat → Int32} {md : MM} (h : SR c n none ws sk sl md) : ¬ 0 ≤ aWc md := by
  have e : aWc md = -1 := h.2.2.1
  rw [e]; decide
theorem T_asserting_0 {c n : Nat} {ws : Nat → MW} {sk sl : Nat → Int32} {md : MM} {b : Bool} (h : SR c n none ws sk sl md) : m_M_asserting b md = (md, m_asserting_0 b) := if_neg (SR_neg h)
theorem T_find_0 {c n : Nat} {ws : Nat → MW} {sk sl : Nat → Int32} {md : MM} {k : Int32} {b : Bool} (h : SR c n none ws sk sl md) : m_M_find k b md = (md, m_find_0 k b) := by
  unfold m_M_find m_find_0
  rw [there_in]
  by_cases g : m_M_in k 17 = 0
  · rw [if_pos g, if_pos g]
  · rw [if_neg g, if_neg g, if_neg (SR_neg h)]
theorem T_act_0 {c n : Nat} {ws : Nat → MW} {sk sl : Nat → Int32} {md : MM} {k a : Int32} (h : SR c n none ws sk sl md) : m_M_act k a md = (md, m_act_0 k a) := by
  have e : m_Acts_isThere k = m_M_in k 30 := rfl
  unfold m_M_act m_act_0
  rw [e]
  by_cases g : m_M_in k 30 = 0
  · rw [if_pos g, if_pos g]
  · rw [if_neg g, if_neg g, if_neg (SR_neg h)]
theorem T_note_0 {c n : Nat} {ws : Nat → MW} {sk sl : Nat → Int32} {md : MM} {i : Int32} (h : SR c n none ws sk sl md) : m_note_0 i = m_M_note i md := (if_neg (SR_neg h)).symm
theorem T_count_0 {c n : Nat} {ws : Nat → MW} {sk sl : Nat → Int32} {md : MM} {i : Int32} (h : SR c n none ws sk sl md) : m_count_0 i (nI n) = m_M_count i md := by
  unfold m_count_0 m_M_count
  by_cases g0 : i = 0
  · subst g0
    rw [if_pos rfl, if_neg (by decide), if_pos rfl]
    exact h.2.1.symm
  · rw [if_neg g0]
    by_cases g1 : i = 1
    · subst g1
      rw [if_pos rfl, if_neg (by decide), if_neg (by decide), if_neg (SR_neg h)]
    · rw [if_neg g1]
      by_cases g2 : i = 2
      · subst g2
        rw [if_pos rfl, if_neg (by decide), if_neg (by decide), if_neg (SR_neg h)]
      · rw [if_neg g2, if_pos (in3 g0 g1 g2)]
theorem T_keep_0 {c n : Nat} {ws : Nat → MW} {sk sl : Nat → Int32} {md : MM} {i k : Int32} (h : SR c n none ws sk sl md) : m_M_keep i k md = (md, m_keep_0 i k) := by
  have e : m_Suite_isSlot i = m_M_in i 6 := rfl
  unfold m_M_keep m_keep_0
  rw [e]
  by_cases g : m_M_in i 6 = 0
  · rw [if_pos g, if_pos g]
  · rw [if_neg g, if_neg g]
    by_cases g0 : k < 0
    · have : m_M_in k 6 = 0 := if_pos g0
      rw [if_pos this, if_pos g0]
    · rw [if_neg g0]
      by_cases g6 : k < 6
      · have : ¬ m_M_in k 6 = 0 := by
          unfold m_M_in
          rw [if_neg g0, if_neg (Int32.not_le.mpr g6)]
          decide
        rw [if_neg this, if_pos g6, if_neg (SR_neg h)]
      · have : m_M_in k 6 = 0 := by
          unfold m_M_in
          rw [if_neg g0, if_pos (Int32.not_lt.mp g6)]
        rw [if_pos this, if_neg g6]
-- keep
theorem Mc_k {k : Int32} {md : MM} (h0 : ¬ k = 0) : m_M_create k md = m_M_write 23 (m_M_write 22 (m_M_write 21 (m_M_write 20 (m_M_init k md).1))) := if_neg h0
theorem Mc_0 {md : MM} : m_M_create 0 md = m_M_write 20 (m_M_init 0 md).1 := if_pos rfl
theorem KW_0 {w : MW} {md m1 : MM} {j c : Nat} (h : WF w md m1 j) (ho : ok (c + 4) w) (hr : CR w) : WF (m_World_construct 0 w) (m_M_write 20 md) m1 j ∧ ok c (m_World_construct 0 w) ∧ CR (m_World_construct 0 w) := by
  rw [con_0]
  exact ⟨WF_write h ho, ok_mono (ok_write (c := c + 3) ho) (by omega), CR_wr hr⟩
theorem KW_4 {w : MW} {md m1 : MM} {j c : Nat} {k : Int32} (hk : m_World_construct k w = (m_World_write (23 : Int32) ((m_World_write (22 : Int32) ((m_World_write (21 : Int32) ((m_World_write (20 : Int32) w).1)).1)).1)).1) (h : WF w md m1 j) (ho : ok (c + 4) w) (hr : CR w) : WF (m_World_construct k w) (m_M_write 23 (m_M_write 22 (m_M_write 21 (m_M_write 20 md)))) m1 j ∧ ok c (m_World_construct k w) ∧ CR (m_World_construct k w) := by
  rw [hk]
  exact R_con4 h ho hr
theorem KW_n {w : MW} {md m1 : MM} {j c : Nat} {k : Int32} (hk : m_World_construct k w = w) (h : WF w md m1 j) (ho : ok (c + 4) w) (hr : CR w) : WF (m_World_construct k w) md m1 j ∧ ok c (m_World_construct k w) ∧ CR (m_World_construct k w) := by
  rw [hk]
  exact ⟨h, ok_mono ho (by omega), hr⟩
def keM (i v : Int32) (md : MM) : MM := uHi (uHe md (upd (aHe md) i.toNatClampNeg v)) (upd (aHi (uHe md (upd (aHe md) i.toNatClampNeg v))) i.toNatClampNeg (aWc (uHe md (upd (aHe md) i.toNatClampNeg v))))
theorem Mke_c {i k : Int32} {md : MM} (hi : ¬ m_M_in i 6 = 0) (hk : ¬ m_M_in k 6 = 0) (hw : 0 ≤ aWc md) (h3 : ¬ (3 : Int32) ≤ k) : m_M_keep i k md = (keM i k (m_M_create k md), 0) := by
  unfold m_M_keep keM
  rw [if_neg hi, if_neg hk, if_pos hw, if_neg h3]
theorem Mke_5 {i k : Int32} {md : MM} (hi : ¬ m_M_in i 6 = 0) (hk : ¬ m_M_in k 6 = 0) (hw : 0 ≤ aWc md) (h3 : (3 : Int32) ≤ k) (h5 : k = 5) : m_M_keep i k md = (keM i 14 (m_M_initGrade md), 0) := by
  unfold m_M_keep keM
  rw [if_neg hi, if_neg hk, if_pos hw, if_pos h3, if_pos h5]
theorem Mke_4 {i k : Int32} {md : MM} (hi : ¬ m_M_in i 6 = 0) (hk : ¬ m_M_in k 6 = 0) (hw : 0 ≤ aWc md) (h3 : (3 : Int32) ≤ k) (h5 : ¬ k = 5) (h4 : k = 4) : m_M_keep i k md = (keM i (k + 3) (m_M_initLoud md), 0) := by
  unfold m_M_keep keM
  rw [if_neg hi, if_neg hk, if_pos hw, if_pos h3, if_neg h5, if_pos h4]
theorem Mke_3 {i k : Int32} {md : MM} (hi : ¬ m_M_in i 6 = 0) (hk : ¬ m_M_in k 6 = 0) (hw : 0 ≤ aWc md) (h3 : (3 : Int32) ≤ k) (h5 : ¬ k = 5) (h4 : ¬ k = 4) : m_M_keep i k md = (keM i (k + 3) (m_M_initAlone 6 11 md), 0) := by
  unfold m_M_keep keM
  rw [if_neg hi, if_neg hk, if_pos hw, if_pos h3, if_neg h5, if_neg h4]
def KS (c j : Nat) (m1 : MM) (w' : MW) (md' : MM) : Prop := WF w' md' m1 j ∧ ok c w' ∧ CR w'
theorem R_keep {w : MW} {md m1 : MM} {j c : Nat} {i k : Int32} (hi : ¬ m_M_in i 6 = 0) (hk : vp_in k 6) (h : WF w md m1 j) (ho : ok (c + 4) w) (hr : CR w) : ∃ md' : MM, m_M_keep i k md = (keM i (fKEPT k.toNatClampNeg) md', 0) ∧ KS c j m1 (m_World_construct (fKEPT k.toNatClampNeg) (mAt (fKEPT k.toNatClampNeg) w).1) md' := by
  have hw := WF_pos h
  rcases lit6 hk with rfl | rfl | rfl | rfl | rfl | rfl
  · have ef : fKEPT (0 : Int32).toNatClampNeg = 0 := by decide
    rw [ef]
    obtain ⟨-, h2, o2, c2⟩ := R_at (k := 0) (by unfold vp_in; decide) h ho hr
    have q := KW_0 h2 o2 c2
    rw [← Mc_0] at q
    exact ⟨m_M_create 0 md, Mke_c hi (by decide) hw (by decide), q⟩
  · have ef : fKEPT (1 : Int32).toNatClampNeg = 1 := by decide
    rw [ef]
    obtain ⟨-, h2, o2, c2⟩ := R_at (k := 1) (by unfold vp_in; decide) h ho hr
    have q := KW_4 con_1 h2 o2 c2
    rw [← Mc_k (by decide)] at q
    exact ⟨m_M_create 1 md, Mke_c hi (by decide) hw (by decide), q⟩
  · have ef : fKEPT (2 : Int32).toNatClampNeg = 2 := by decide
    rw [ef]
    obtain ⟨-, h2, o2, c2⟩ := R_at (k := 2) (by unfold vp_in; decide) h ho hr
    have q := KW_4 con_2 h2 o2 c2
    rw [← Mc_k (by decide)] at q
    exact ⟨m_M_create 2 md, Mke_c hi (by decide) hw (by decide), q⟩
  · have ef : fKEPT (3 : Int32).toNatClampNeg = 6 := by decide
    rw [ef]
    obtain ⟨-, h2, o2, c2⟩ := R_at (k := 6) (by unfold vp_in; decide) h ho hr
    have q := KW_n con_6 h2 o2 c2
    rw [Mi_6] at q
    exact ⟨m_M_initAlone 6 11 md, Mke_3 hi (by decide) hw (by decide) (by decide) (by decide), q⟩
  · have ef : fKEPT (4 : Int32).toNatClampNeg = 7 := by decide
    rw [ef]
    obtain ⟨-, h2, o2, c2⟩ := R_at (k := 7) (by unfold vp_in; decide) h ho hr
    have q := KW_n con_7 h2 o2 c2
    rw [Mi_7] at q
    exact ⟨m_M_initLoud md, Mke_4 hi (by decide) hw (by decide) (by decide) rfl, q⟩
  · have ef : fKEPT (5 : Int32).toNatClampNeg = 14 := by decide
    rw [ef]
    obtain ⟨-, h2, o2, c2⟩ := R_at (k := 14) (by unfold vp_in; decide) h ho hr
    have q := KW_n con_14 h2 o2 c2
    rw [Mi_14] at q
    exact ⟨m_M_initGrade md, Mke_5 hi (by decide) hw (by decide) rfl, q⟩
theorem K6_kept {k : Int32} (hk : vp_in k 6) : K6 (fKEPT k.toNatClampNeg) := by
  unfold K6
  rcases lit6 hk with rfl | rfl | rfl | rfl | rfl | rfl <;> decide
theorem kep_in {k : Int32} (hk : vp_in k 6) : vp_in (fKEPT k.toNatClampNeg) 17 := by
  unfold vp_in
  rcases lit6 hk with rfl | rfl | rfl | rfl | rfl | rfl <;> decide
theorem SR_keep {c d n j : Nat} {ws : Nat → MW} {sk sl : Nat → Int32} {md md' : MM} {w' : MW} {i v : Int32} (h : SR d n (some j) ws sk sl md) (hcd : c ≤ d) (hw : WF w' md' md j) (ho : ok c w') (hc : CR w') (hn : gNu w' = gNu (ws j)) (hv : K6 v) : SR c n (some j) (upW ws j w') (upd sk i.toNatClampNeg v) (upd sl i.toNatClampNeg (gNu w')) (keM i v md') := by
  have hS := SR_step h hcd hw ho hc hn
  obtain ⟨a1, a2, a3, a4, a5, a6, a7⟩ := hS
  have hj : j < n := a4 j rfl
  have hnu : gNu w' = nI j := hn.trans (h.2.2.2.2.1 j hj).2.2.1
  refine ⟨a1, a2, a3, a4, a5, a6, fun q hq => ?_⟩
  show upd (aHe md') i.toNatClampNeg v q = upd sk i.toNatClampNeg v q ∧ (upd sk i.toNatClampNeg v q = -1 ∨ (K6 (upd sk i.toNatClampNeg v q) ∧ upd (aHi md') i.toNatClampNeg (aWc md') q = upd sl i.toNatClampNeg (gNu w') q ∧ ∃ t, t < n ∧ upd sl i.toNatClampNeg (gNu w') q = nI t))
  by_cases e : q = i.toNatClampNeg
  · subst e
    rw [pk_us, pk_us, pk_us, pk_us]
    exact ⟨rfl, Or.inr ⟨hv, hw.2.1.trans hnu.symm, j, hj, hnu⟩⟩
  · rw [pk_un e, pk_un e, pk_un e, pk_un e]
    exact a7 q hq
theorem T_keep_1 {c n j : Nat} {ws : Nat → MW} {sk sl : Nat → Int32} {md : MM} {i k : Int32} (h : SR (c + 4) n (some j) ws sk sl md) : (m_keep_1 i k (ws j) sk sl).2.2.2 = (m_M_keep i k md).2 ∧ SR c n (some j) (upW ws j (m_keep_1 i k (ws j) sk sl).1) (m_keep_1 i k (ws j) sk sl).2.1 (m_keep_1 i k (ws j) sk sl).2.2.1 (m_M_keep i k md).1 := by
  have same : SR c n (some j) (upW ws j (ws j)) sk sl md := SR_step h (by omega) (SR_WF h) (ok_mono (SR_j h).2.2.2 (by omega)) (SR_j h).2.1 rfl
  have e : m_Suite_isSlot i = m_M_in i 6 := rfl
  by_cases g : m_M_in i 6 = 0
  · have e1 : m_keep_1 i k (ws j) sk sl = (ws j, sk, sl, -1) := if_pos g
    have e2 : m_M_keep i k md = (md, -1) := if_pos g
    rw [e1, e2]
    exact ⟨rfl, same⟩
  · by_cases g0 : k < 0
    · have e1 : m_keep_1 i k (ws j) sk sl = (ws j, sk, sl, -1) := (if_neg g).trans (if_pos g0)
      have g6 : m_M_in k 6 = 0 := if_pos g0
      have e2 : m_M_keep i k md = (md, -1) := (if_neg g).trans (if_pos g6)
      rw [e1, e2]
      exact ⟨rfl, same⟩
    · by_cases g6 : k < 6
      · have g7 : ¬ m_M_in k 6 = 0 := by
          unfold m_M_in
          rw [if_neg g0, if_neg (Int32.not_le.mpr g6)]
          decide
        have hk : vp_in k 6 := mIn_in (n := 6) (N := 6) (by decide) g7
        obtain ⟨md', m1, m2, m3, m4⟩ := R_keep g hk (SR_WF h) (SR_j h).2.2.2 (SR_j h).2.1
        have e1 : m_keep_1 i k (ws j) sk sl = (m_World_construct (fKEPT k.toNatClampNeg) (mAt (fKEPT k.toNatClampNeg) (ws j)).1, upd sk i.toNatClampNeg (fKEPT k.toNatClampNeg), upd sl i.toNatClampNeg (gNu (m_World_construct (fKEPT k.toNatClampNeg) (mAt (fKEPT k.toNatClampNeg) (ws j)).1)), 0) := (if_neg g).trans ((if_neg g0).trans (if_pos g6))
        rw [e1, m1]
        exact ⟨rfl, SR_keep h (by omega) m2 m3 m4 ((nu_con _ _).trans (nu_mAt (kep_in hk) (SR_j h).2.1)) (K6_kept hk)⟩
      · have e1 : m_keep_1 i k (ws j) sk sl = (ws j, sk, sl, -1) := (if_neg g).trans ((if_neg g0).trans (if_neg g6))
        have g7 : m_M_in k 6 = 0 := by
          unfold m_M_in
          rw [if_neg g0, if_pos (Int32.not_lt.mp g6)]
        have e2 : m_M_keep i k md = (md, -1) := (if_neg g).trans (if_pos g7)
        rw [e1, e2]
        exact ⟨rfl, same⟩

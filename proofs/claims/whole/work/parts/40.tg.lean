-- isOf, alike, enter, begin
def rT (h k : Int32) : Int32 := (if h = k then (1 : Int32) else (if h = (1 : Int32) then (if k = 0 then (1 : Int32) else (if k = (1 : Int32) then (1 : Int32) else (if k = (3 : Int32) then (1 : Int32) else (if k = (5 : Int32) then (1 : Int32) else (0 : Int32))))) else (if h = (2 : Int32) then (if k = 0 then (1 : Int32) else (if k = (1 : Int32) then (1 : Int32) else (if k = (3 : Int32) then (1 : Int32) else (if k = (5 : Int32) then (1 : Int32) else (0 : Int32))))) else (if h = (6 : Int32) then (if k = (3 : Int32) then (1 : Int32) else (if h = (7 : Int32) then (if k = (4 : Int32) then (1 : Int32) else (0 : Int32)) else (0 : Int32))) else (if h = (7 : Int32) then (if k = (3 : Int32) then (1 : Int32) else (if k = (4 : Int32) then (1 : Int32) else (0 : Int32))) else (0 : Int32))))))
theorem Mis_rT {i k : Int32} {md : MM} : m_M_isOf i k md = (if (m_M_in i (6 : Int32)) = 0 then (0 : Int32) else (if (m_M_in k (17 : Int32)) = 0 then (0 : Int32) else (if ((aHe md) i.toNatClampNeg) < 0 then (0 : Int32) else (if ((aHi md) i.toNatClampNeg) = (aWc md) then rT (aHe md i.toNatClampNeg) k else (0 : Int32))))) := rfl
def wk17 (h : Int32) : Bool := (List.range 17).all (fun i => m_Kinds_isWithin h (nI i) == rT h (nI i))
theorem w17_0 : wk17 0 = true := by decide +kernel
theorem w17_1 : wk17 1 = true := by decide +kernel
theorem w17_2 : wk17 2 = true := by decide +kernel
theorem w17_6 : wk17 6 = true := by decide +kernel
theorem w17_7 : wk17 7 = true := by decide +kernel
theorem w17_14 : wk17 14 = true := by decide +kernel
theorem within_rT {h k : Int32} (hh : K6 h) (hk : vp_in k 17) : m_Kinds_isWithin h k = rT h k := by
  obtain ⟨i, hi, rfl⟩ := vp_in_of hk (by decide)
  have a : wk17 h = true := by
    rcases hh with rfl | rfl | rfl | rfl | rfl | rfl
    · exact w17_0
    · exact w17_1
    · exact w17_2
    · exact w17_6
    · exact w17_7
    · exact w17_14
  have b := List.all_eq_true.mp a i (List.mem_range.mpr hi)
  exact eq_of_beq b
theorem K6_pos {v : Int32} (h : K6 v) : ¬ v < 0 ∧ ¬ v = -1 := by
  rcases h with rfl | rfl | rfl | rfl | rfl | rfl <;> exact ⟨by decide, by decide⟩
theorem wi_01 {k d : Int32} : (if m_Kinds_isWithin k d = 0 then (0 : Int32) else 1) = m_Kinds_isWithin k d := by
  unfold m_Kinds_isWithin
  rcases mRe_01 40 k d 0 with e | e
  · rw [e]; rfl
  · rw [e]; rfl
theorem T_isOf_1 {c n j : Nat} {ws : Nat → MW} {sk sl : Nat → Int32} {md : MM} {i k : Int32} (h : SR c n (some j) ws sk sl md) : m_isOf_1 i k sk sl (ws j) = m_M_isOf i k md := by
  rw [Mis_rT]
  unfold m_isOf_1
  have ei : m_Suite_isSlot i = m_M_in i 6 := rfl
  by_cases g : m_M_in i 6 = 0
  · have f : m_Suite_isFilled i sk = 0 := if_pos g
    rw [if_pos f, if_pos g]
  · obtain ⟨q, hq, e⟩ := vp_in_of (mIn_in (n := 6) (N := 6) (by decide) g) (by decide)
    have eq : i.toNatClampNeg = q := by rw [e]; exact nI_clamp (by omega)
    obtain ⟨s1, s2⟩ := h.2.2.2.2.2.2 q hq
    rw [if_neg g, there_in]
    rcases s2 with s2 | ⟨s2, s3, s4⟩
    · have f : m_Suite_isFilled i sk = 0 := (if_neg g).trans (if_pos (by rw [eq]; exact s2))
      have l : aHe md i.toNatClampNeg < 0 := by rw [eq, s1, s2]; decide
      rw [if_pos f, if_pos l]
      exact (ite_self _).symm
    · have f : ¬ m_Suite_isFilled i sk = 0 := by
        rw [show m_Suite_isFilled i sk = 1 from (if_neg g).trans (if_neg (by rw [eq]; exact (K6_pos s2).2))]
        decide
      rw [if_neg f]
      by_cases g2 : m_M_in k 17 = 0
      · rw [if_pos g2, if_pos g2]
      · rw [if_neg g2, if_neg g2]
        have l : ¬ aHe md i.toNatClampNeg < 0 := by rw [eq, s1]; exact (K6_pos s2).1
        rw [if_neg l, eq, s1, s3, (SR_j h).2.2.1, show aWc md = nI j from h.2.2.1]
        by_cases g3 : sl q = nI j
        · rw [if_pos g3, if_pos g3, wi_01]
          exact within_rT s2 (mIn_in (n := 17) (N := 17) (by decide) g2)
        · rw [if_neg g3, if_neg g3]
theorem T_isOf_0 {c n : Nat} {ws : Nat → MW} {sk sl : Nat → Int32} {md : MM} {i k : Int32} (h : SR c n none ws sk sl md) : m_isOf_0 i k sk = m_M_isOf i k md := by
  have z : m_isOf_0 i k sk = 0 := by
    unfold m_isOf_0
    split
    · rfl
    · split <;> rfl
  rw [z, Mis_rT]
  by_cases g : m_M_in i 6 = 0
  · rw [if_pos g]
  · obtain ⟨q, hq, e⟩ := vp_in_of (mIn_in (n := 6) (N := 6) (by decide) g) (by decide)
    have eq : i.toNatClampNeg = q := by rw [e]; exact nI_clamp (by omega)
    obtain ⟨s1, s2⟩ := h.2.2.2.2.2.2 q hq
    rw [if_neg g]
    by_cases g2 : m_M_in k 17 = 0
    · rw [if_pos g2]
    · rw [if_neg g2, eq, s1]
      rcases s2 with s2 | ⟨s2, s3, t, ht, s4⟩
      · rw [if_pos (by rw [s2]; decide)]
      · rw [if_neg (K6_pos s2).1, s3, s4, show aWc md = -1 from h.2.2.1]
        have hn := h.1
        have ne : ¬ nI t = -1 := fun e => by
          have := nI_pos' (n := t) (by omega)
          rw [e] at this
          exact absurd this (by decide)
        rw [if_neg ne]
theorem T_alike {c n : Nat} {cur : Option Nat} {ws : Nat → MW} {sk sl : Nat → Int32} {md : MM} {i k : Int32} (h : SR c n cur ws sk sl md) : m_alike i k sk sl = m_M_alike i k md := by
  unfold m_alike m_M_alike
  by_cases g : m_M_in i 6 = 0
  · have f : m_Suite_isFilled i sk = 0 := if_pos g
    rw [if_pos f, if_pos g]
  · obtain ⟨q, hq, e⟩ := vp_in_of (mIn_in (n := 6) (N := 6) (by decide) g) (by decide)
    have eq : i.toNatClampNeg = q := by rw [e]; exact nI_clamp (by omega)
    obtain ⟨s1, s2⟩ := h.2.2.2.2.2.2 q hq
    rw [if_neg g]
    by_cases g2 : m_M_in k 6 = 0
    · have f : m_Suite_isFilled k sk = 0 := if_pos g2
      rw [if_pos f, if_pos g2]
      exact ite_self _
    · obtain ⟨r, hr, e'⟩ := vp_in_of (mIn_in (n := 6) (N := 6) (by decide) g2) (by decide)
      have er : k.toNatClampNeg = r := by rw [e']; exact nI_clamp (by omega)
      obtain ⟨t1, t2⟩ := h.2.2.2.2.2.2 r hr
      rw [if_neg g2]
      rcases s2 with s2 | ⟨s2, s3, s4⟩
      · have f : m_Suite_isFilled i sk = 0 := (if_neg g).trans (if_pos (by rw [eq]; exact s2))
        have l : aHe md i.toNatClampNeg < 0 := by rw [eq, s1, s2]; decide
        rw [if_pos f, if_pos l]
      · have f : ¬ m_Suite_isFilled i sk = 0 := by
          rw [show m_Suite_isFilled i sk = 1 from (if_neg g).trans (if_neg (by rw [eq]; exact (K6_pos s2).2))]
          decide
        have l : ¬ aHe md i.toNatClampNeg < 0 := by rw [eq, s1]; exact (K6_pos s2).1
        rw [if_neg f, if_neg l]
        rcases t2 with t2 | ⟨t2, t3, t4⟩
        · have f2 : m_Suite_isFilled k sk = 0 := (if_neg g2).trans (if_pos (by rw [er]; exact t2))
          have ne : ¬ aHe md i.toNatClampNeg = aHe md k.toNatClampNeg := by
            rw [eq, er, s1, t1, t2]; exact (K6_pos s2).2
          rw [if_pos f2, if_neg ne]
        · have f2 : ¬ m_Suite_isFilled k sk = 0 := by
            rw [show m_Suite_isFilled k sk = 1 from (if_neg g2).trans (if_neg (by rw [er]; exact (K6_pos t2).2))]
            decide
          rw [if_neg f2, eq, er, s1, t1, s3, t3]
-- enter
theorem T_enter_ok {c n : Nat} {cur : Option Nat} {ws : Nat → MW} {sk sl : Nat → Int32} {md : MM} {i : Nat} (h : SR c n cur ws sk sl md) (hi : i < n) : (m_M_enter (nI i) md).2 = 0 ∧ SR c n (some i) ws sk sl (m_M_enter (nI i) md).1 := by
  have hn := h.1
  have g : ¬ m_M_in (nI i) (aWn md) = 0 := by
    rw [h.2.1]
    unfold m_M_in
    rw [if_neg (nI_pos (by omega)), if_neg (nI_ge hi (by omega))]
    decide
  have e : m_M_enter (nI i) md = (uWc md (nI i), 0) := if_neg g
  rw [e]
  obtain ⟨a1, a2, a3, a4, a5, a6, a7⟩ := h
  exact ⟨rfl, a1, a2, rfl, fun j hj => by cases hj; exact hi, a5, a6, a7⟩
theorem T_enter_no {c n : Nat} {cur : Option Nat} {ws : Nat → MW} {sk sl : Nat → Int32} {md : MM} {i : Int32} (h : SR c n cur ws sk sl md) (hi : i < 0 ∨ ¬ i < nI n) : m_M_enter i md = (md, m_enter_no i (nI n)) := by
  have g : m_M_in i (aWn md) = 0 := by
    rw [h.2.1]
    unfold m_M_in
    rcases hi with hi | hi
    · rw [if_pos hi]
    · rw [if_pos (Int32.not_lt.mp hi)]
      exact ite_self _
  have e : m_M_enter i md = (md, -1) := if_pos g
  rw [e]
  unfold m_enter_no
  rcases hi with hi | hi
  · rw [if_pos hi]
  · rw [if_neg hi, ite_self]
-- begin
theorem unt_0 : unt (fun _ => 0) = 17 := by decide
theorem CR_nw {nu : Int32} {b : Bool} : CR (nw nu b) := by
  refine ⟨fun _ _ _ _ => Or.inl rfl, Or.inl rfl, Or.inl rfl, ?_, ?_, ?_, ?_, ?_, ?_, fun _ => rfl, fun _ => rfl⟩ <;> exact fun e => absurd e (by show ¬ (0 : Int32) = 2; decide)
theorem ok_nw {c : Nat} {nu : Int32} {b : Bool} (hc : c ≤ 1000000) : ok c (nw nu b) := by
  have e : unt (gSt (nw nu b)) = 17 := unt_0
  unfold ok
  rw [e, show gWr (nw nu b) = 0 from rfl, show (0 : Int32).toInt = 0 by decide]
  omega
theorem T_begin_no {c : Nat} {cur : Option Nat} {ws : Nat → MW} {sk sl : Nat → Int32} {md : MM} {b : Bool} (h : SR c 8 cur ws sk sl md) : m_M_begin b md = (md, m_begin_no (nI 8) b) := if_pos h.2.1
theorem WR_ze {md : MM} {n : Nat} {b : Bool} {nu : Int32} (h : ZR md n) (hs : aSw md n = bI b) : WR (nw nu b) md n := by
  obtain ⟨a1, a2, a3, a4, a5, a6, a7, a8, a9⟩ := h
  exact ⟨a1, a2, a3, a4, a5, a6, a7, a8, hs, a9⟩
theorem T_begin_new {c n : Nat} {cur : Option Nat} {ws : Nat → MW} {sk sl : Nat → Int32} {md : MM} {b : Bool} (h : SR c n cur ws sk sl md) (hn : n < 8) (hc : c ≤ 1000000) : (m_M_begin b md).2 = nI n ∧ SR c (n + 1) (some n) (upW ws n (nw (nI n) b)) sk sl (m_M_begin b md).1 := by
  obtain ⟨a1, a2, a3, a4, a5, a6, a7⟩ := h
  have ne : ¬ aWn md = 8 := by
    rw [a2]
    intro e
    have := (nI_eq (a := n) (b := 8) (by omega) (by decide)).mp e
    omega
  have ec : (nI n).toNatClampNeg = n := nI_clamp (by omega)
  have e : m_M_begin b md = (uWn (uSw (uWc md (nI n)) (upd (aSw md) n (bI b))) (nI (n + 1)), nI n) := by
    refine (if_neg ne).trans ?_
    rw [a2]
    show (uWn (uSw (uWc md (nI n)) (upd (aSw md) (nI n).toNatClampNeg (bI b))) (nI n + 1), nI n) = _
    rw [ec, nI_1]
  rw [e]
  refine ⟨rfl, by omega, rfl, rfl, fun j hj => by cases hj; omega, fun j hj => ?_, fun j h1 h2 => ?_, fun i hi => ?_⟩
  · by_cases g : j = n
    · subst g
      rw [upW_s]
      exact ⟨WR_ze (md := uWn (uSw (uWc md (nI j)) (upd (aSw md) j (bI b))) (nI (j + 1))) (a6 j (by omega) hn) pk_us, CR_nw, rfl, ok_nw hc⟩
    · rw [upW_n g]
      obtain ⟨b1, b2, b3, b4⟩ := a5 j (by omega)
      obtain ⟨c1, c2, c3, c4, c5, c6, c7, c8, c9, c10⟩ := b1
      exact ⟨⟨c1, c2, c3, c4, c5, c6, c7, c8, (pk_un (f := aSw md) (k := n) (j := j) (x := bI b) g).trans c9, c10⟩, b2, b3, b4⟩
  · exact a6 j (by omega) h2
  · obtain ⟨d1, d2⟩ := a7 i hi
    refine ⟨d1, ?_⟩
    rcases d2 with d2 | ⟨d2, d3, t, ht, d4⟩
    · exact Or.inl d2
    · exact Or.inr ⟨d2, d3, t, by omega, d4⟩
theorem SR_0 {c : Nat} {ws : Nat → MW} {sk sl : Nat → Int32} (hs : ∀ i, i < 6 → sk i = -1) : SR c 0 none ws sk sl m0 := by
  refine ⟨by omega, rfl, rfl, fun j hj => (by cases hj), fun j hj => absurd hj (by omega), fun j _ _ => ⟨fun _ _ => rfl, fun _ _ => rfl, rfl, rfl, rfl, rfl, rfl, rfl, rfl⟩, fun i hi => ?_⟩
  rw [hs i hi]
  refine ⟨?_, Or.inl rfl⟩
  rcases (show i = 0 ∨ i = 1 ∨ i = 2 ∨ i = 3 ∨ i = 4 ∨ i = 5 by omega) with rfl | rfl | rfl | rfl | rfl | rfl <;> decide

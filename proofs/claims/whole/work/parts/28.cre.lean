-- AT REST AGAIN
def okc (k : Nat) (s v : Int32) : Prop := (k = 8 ∨ k = 9 → s = 0 ∨ s = 3) ∧ (k ≠ 8 → k ≠ 9 → s = 0 ∨ s = 2) ∧ (k = 2 → s = 2 → v = 6) ∧ (k = 3 → s = 2 → v = 4) ∧ (k = 4 → s = 2 → v = 15) ∧ (k = 5 → s = 2 → v = 5) ∧ (k = 6 → s = 2 → v = 11) ∧ (k = 14 → s = 2 → v = 17) ∧ (k = 10 → s = 0 → v = 0) ∧ (k = 11 → s = 0 → v = 0)
def CRE (E : Nat → Prop) (w : MW) : Prop := ∀ k, k < 17 → ¬ E k → okc k (gSt w k) (gVa w k)
theorem CRE_of {w : MW} (h : CR w) : CRE (fun _ => False) w := by
  obtain ⟨h1, h2, h3, h4, h5, h6, h7, h8, h9, h10, h11⟩ := h
  intro k hk _
  refine ⟨fun e => ?_, fun e1 e2 => h1 k hk e1 e2, fun e => ?_, fun e => ?_, fun e => ?_, fun e => ?_, fun e => ?_, fun e => ?_, fun e => ?_, fun e => ?_⟩
  · rcases e with rfl | rfl
    · exact h2
    · exact h3
  all_goals (subst e; assumption)
theorem CRE_to {w : MW} (h : CRE (fun _ => False) w) : CR w :=
  ⟨fun k hk h8 h9 => (h k hk id).2.1 h8 h9, (h 8 (by decide) id).1 (Or.inl rfl), (h 9 (by decide) id).1 (Or.inr rfl), (h 2 (by decide) id).2.2.1 rfl, (h 3 (by decide) id).2.2.2.1 rfl, (h 4 (by decide) id).2.2.2.2.1 rfl, (h 5 (by decide) id).2.2.2.2.2.1 rfl, (h 6 (by decide) id).2.2.2.2.2.2.1 rfl, (h 14 (by decide) id).2.2.2.2.2.2.2.1 rfl, (h 10 (by decide) id).2.2.2.2.2.2.2.2.1 rfl, (h 11 (by decide) id).2.2.2.2.2.2.2.2.2 rfl⟩
theorem CRE_wr {E : Nat → Prop} {n : Int32} {w : MW} (h : CRE E w) : CRE E (wr n w) := by
  intro k h1 h2
  rw [wr_st, wr_va]
  exact h k h1 h2
theorem CRE_s1 {E : Nat → Prop} {a : Int32} {w : MW} (h : CRE E w) : CRE (fun k => E k ∨ k = a.toNatClampNeg) (s1 a w) := by
  intro k h1 h2
  show okc k (upd (gSt w) a.toNatClampNeg 1 k) (gVa w k)
  rw [pk_un (fun e => h2 (Or.inr e))]
  exact h k h1 (fun e => h2 (Or.inl e))
theorem CRE_vv {E : Nat → Prop} {a x : Int32} {w : MW} (h : CRE E w) (ha : E a.toNatClampNeg) : CRE E (vv a x w) := by
  intro k h1 h2
  show okc k (gSt w k) (upd (gVa w) a.toNatClampNeg x k)
  rw [pk_un (fun e => h2 (by rw [e]; exact ha))]
  exact h k h1 h2
theorem CRE_set {E : Nat → Prop} {a s : Int32} {w : MW} (h : CRE (fun k => E k ∨ k = a.toNatClampNeg) w) (ha : okc a.toNatClampNeg s (gVa w a.toNatClampNeg)) : CRE E (sSt w (upd (gSt w) a.toNatClampNeg s)) := by
  intro k h1 h2
  show okc k (upd (gSt w) a.toNatClampNeg s k) (gVa w k)
  by_cases e : k = a.toNatClampNeg
  · rw [e, pk_us]; exact ha
  · rw [pk_un e]; exact h k h1 (fun q => q.elim h2 e)
theorem CRE_se {E : Nat → Prop} {b : Bool} {w : MW} (h : CRE E w) : CRE E (sSe w b) := h
theorem CRE_xAlone {E : Nat → Prop} {a n : Int32} {w : MW} (h : CRE E w) (hc : okc a.toNatClampNeg 2 n) : CRE E (xAlone a n w) := by
  unfold xAlone
  by_cases g : stt w a = 0
  · rw [if_pos g]
    refine CRE_set (CRE_vv (CRE_wr (CRE_s1 h)) (Or.inr rfl)) ?_
    show okc a.toNatClampNeg 2 (upd (gVa (wr n (s1 a w))) a.toNatClampNeg n a.toNatClampNeg)
    rw [pk_us]; exact hc
  · rw [if_neg g]; exact h
theorem CRE_xBase {E : Nat → Prop} {w : MW} (h : CRE E w) : CRE E (xBase w) := by
  unfold xBase
  by_cases g : stt w 0 = 0
  · rw [if_pos g]
    refine CRE_set (a := 0) (s := 2) (CRE_wr (CRE_vv (CRE_wr (CRE_s1 h)) (Or.inr rfl))) ?_
    exact ⟨fun h9 => absurd h9 (by decide), fun h8 h9 => Or.inr rfl, fun h9 => absurd h9 (by decide), fun h9 => absurd h9 (by decide), fun h9 => absurd h9 (by decide), fun h9 => absurd h9 (by decide), fun h9 => absurd h9 (by decide), fun h9 => absurd h9 (by decide), fun _ h9 => absurd h9 (by decide), fun _ h9 => absurd h9 (by decide)⟩
  · rw [if_neg g]; exact h
theorem CRE_xMiddle {E : Nat → Prop} {w : MW} (h : CRE E w) : CRE E (xMiddle w) := by
  unfold xMiddle
  by_cases g : stt w 1 = 0
  · rw [if_pos g]
    refine CRE_set (a := 1) (s := 2) (CRE_vv (CRE_wr (CRE_xAlone (CRE_xBase (CRE_s1 h)) ⟨fun h9 => absurd h9 (by decide), fun _ _ => Or.inr rfl, fun h9 => absurd h9 (by decide), fun h9 => absurd h9 (by decide), fun h9 => absurd h9 (by decide), fun _ _ => rfl, fun h9 => absurd h9 (by decide), fun h9 => absurd h9 (by decide), fun _ h9 => absurd h9 (by decide), fun _ h9 => absurd h9 (by decide)⟩)) (Or.inr rfl)) ?_
    exact ⟨fun h9 => absurd h9 (by decide), fun h8 h9 => Or.inr rfl, fun h9 => absurd h9 (by decide), fun h9 => absurd h9 (by decide), fun h9 => absurd h9 (by decide), fun h9 => absurd h9 (by decide), fun h9 => absurd h9 (by decide), fun h9 => absurd h9 (by decide), fun _ h9 => absurd h9 (by decide), fun _ h9 => absurd h9 (by decide)⟩
  · rw [if_neg g]; exact h
theorem CRE_xLeaf {E : Nat → Prop} {w : MW} (h : CRE E w) : CRE E (xLeaf w) := by
  unfold xLeaf
  by_cases g : stt w 2 = 0
  · rw [if_pos g]
    refine CRE_set (a := 2) (s := 2) (CRE_wr (CRE_vv (CRE_wr (CRE_xMiddle (CRE_s1 h))) (Or.inr rfl))) ?_
    show okc _ 2 (gVa (wr 3 (vv 2 6 (wr 6 (xMiddle (s1 2 w))))) _)
    rw [wr_va]
    show okc _ 2 (upd (gVa (wr 6 (xMiddle (s1 2 w)))) (2 : Int32).toNatClampNeg 6 (2 : Int32).toNatClampNeg)
    rw [pk_us]
    exact ⟨fun h9 => absurd h9 (by decide), fun _ _ => Or.inr rfl, fun _ _ => rfl, fun h9 => absurd h9 (by decide), fun h9 => absurd h9 (by decide), fun h9 => absurd h9 (by decide), fun h9 => absurd h9 (by decide), fun h9 => absurd h9 (by decide), fun _ h9 => absurd h9 (by decide), fun _ h9 => absurd h9 (by decide)⟩
  · rw [if_neg g]; exact h
theorem CRE_xLoud {E : Nat → Prop} {w : MW} (h : CRE E w) : CRE E (xLoud w) := by
  unfold xLoud
  by_cases g : stt w 7 = 0
  · rw [if_pos g]
    refine CRE_set (a := 7) (s := 2) (CRE_vv (CRE_wr (CRE_xAlone (CRE_s1 h) ⟨fun h9 => absurd h9 (by decide), fun _ _ => Or.inr rfl, fun h9 => absurd h9 (by decide), fun h9 => absurd h9 (by decide), fun _ _ => rfl, fun h9 => absurd h9 (by decide), fun h9 => absurd h9 (by decide), fun h9 => absurd h9 (by decide), fun _ h9 => absurd h9 (by decide), fun _ h9 => absurd h9 (by decide)⟩)) (Or.inr rfl)) ?_
    exact ⟨fun h9 => absurd h9 (by decide), fun h8 h9 => Or.inr rfl, fun h9 => absurd h9 (by decide), fun h9 => absurd h9 (by decide), fun h9 => absurd h9 (by decide), fun h9 => absurd h9 (by decide), fun h9 => absurd h9 (by decide), fun h9 => absurd h9 (by decide), fun _ h9 => absurd h9 (by decide), fun _ h9 => absurd h9 (by decide)⟩
  · rw [if_neg g]; exact h
theorem CRE_xSecondIn {E : Nat → Prop} {w : MW} (h : CRE E w) : CRE E (xSecondIn w) := by
  unfold xSecondIn
  by_cases g : stt w 11 = 0
  · rw [if_pos g]
    refine CRE_set (a := 11) (s := 2) (CRE_vv (CRE_wr (CRE_s1 h)) (Or.inr rfl)) ?_
    exact ⟨fun h9 => absurd h9 (by decide), fun h8 h9 => Or.inr rfl, fun h9 => absurd h9 (by decide), fun h9 => absurd h9 (by decide), fun h9 => absurd h9 (by decide), fun h9 => absurd h9 (by decide), fun h9 => absurd h9 (by decide), fun h9 => absurd h9 (by decide), fun _ h9 => absurd h9 (by decide), fun _ h9 => absurd h9 (by decide)⟩
  · rw [if_neg g]; exact h
theorem CRE_xFirstIn {E : Nat → Prop} {w : MW} (h : CRE E w) : CRE E (xFirstIn w) := by
  unfold xFirstIn
  by_cases g : stt w 10 = 0
  · rw [if_pos g]
    refine CRE_set (a := 10) (s := 2) (CRE_vv (CRE_wr (CRE_s1 h)) (Or.inr rfl)) ?_
    exact ⟨fun h9 => absurd h9 (by decide), fun h8 h9 => Or.inr rfl, fun h9 => absurd h9 (by decide), fun h9 => absurd h9 (by decide), fun h9 => absurd h9 (by decide), fun h9 => absurd h9 (by decide), fun h9 => absurd h9 (by decide), fun h9 => absurd h9 (by decide), fun _ h9 => absurd h9 (by decide), fun _ h9 => absurd h9 (by decide)⟩
  · rw [if_neg g]; exact h
theorem CRE_xFirst {E : Nat → Prop} {w : MW} (h : CRE E w) : CRE E (xFirst w) := by
  unfold xFirst
  by_cases g : stt w 10 = 0
  · rw [if_pos g]
    refine CRE_set (a := 10) (s := 2) (CRE_vv (CRE_wr (CRE_xSecondIn (CRE_s1 h))) (Or.inr rfl)) ?_
    exact ⟨fun h9 => absurd h9 (by decide), fun h8 h9 => Or.inr rfl, fun h9 => absurd h9 (by decide), fun h9 => absurd h9 (by decide), fun h9 => absurd h9 (by decide), fun h9 => absurd h9 (by decide), fun h9 => absurd h9 (by decide), fun h9 => absurd h9 (by decide), fun _ h9 => absurd h9 (by decide), fun _ h9 => absurd h9 (by decide)⟩
  · rw [if_neg g]; exact h
theorem CRE_xSecond {E : Nat → Prop} {w : MW} (h : CRE E w) : CRE E (xSecond w) := by
  unfold xSecond
  by_cases g : stt w 11 = 0
  · rw [if_pos g]
    refine CRE_set (a := 11) (s := 2) (CRE_vv (CRE_wr (CRE_xFirstIn (CRE_s1 h))) (Or.inr rfl)) ?_
    exact ⟨fun h9 => absurd h9 (by decide), fun h8 h9 => Or.inr rfl, fun h9 => absurd h9 (by decide), fun h9 => absurd h9 (by decide), fun h9 => absurd h9 (by decide), fun h9 => absurd h9 (by decide), fun h9 => absurd h9 (by decide), fun h9 => absurd h9 (by decide), fun _ h9 => absurd h9 (by decide), fun _ h9 => absurd h9 (by decide)⟩
  · rw [if_neg g]; exact h
theorem CRE_xLazy {E : Nat → Prop} {w : MW} (h : CRE E w) : CRE E (xLazy w) := by
  unfold xLazy
  by_cases g : stt w 13 = 0
  · rw [if_pos g]
    refine CRE_set (a := 13) (s := 2) (CRE_wr (CRE_wr (CRE_xBase (CRE_s1 h)))) ?_
    exact ⟨fun h9 => absurd h9 (by decide), fun h8 h9 => Or.inr rfl, fun h9 => absurd h9 (by decide), fun h9 => absurd h9 (by decide), fun h9 => absurd h9 (by decide), fun h9 => absurd h9 (by decide), fun h9 => absurd h9 (by decide), fun h9 => absurd h9 (by decide), fun _ h9 => absurd h9 (by decide), fun _ h9 => absurd h9 (by decide)⟩
  · rw [if_neg g]; exact h
theorem CRE_xGrade {E : Nat → Prop} {w : MW} (h : CRE E w) : CRE E (xGrade w) := by
  unfold xGrade
  by_cases g : stt w 14 = 0
  · rw [if_pos g]
    refine CRE_set (a := 14) (s := 2) (CRE_vv (CRE_wr (CRE_wr (CRE_wr (CRE_s1 h)))) (Or.inr rfl)) ?_
    show okc _ 2 (upd (gVa (wr 17 (wr 16 (wr 16 (s1 14 w))))) (14 : Int32).toNatClampNeg 17 (14 : Int32).toNatClampNeg)
    rw [pk_us]
    exact ⟨fun h9 => absurd h9 (by decide), fun _ _ => Or.inr rfl, fun h9 => absurd h9 (by decide), fun h9 => absurd h9 (by decide), fun h9 => absurd h9 (by decide), fun h9 => absurd h9 (by decide), fun h9 => absurd h9 (by decide), fun _ _ => rfl, fun _ h9 => absurd h9 (by decide), fun _ h9 => absurd h9 (by decide)⟩
  · rw [if_neg g]; exact h
theorem CRE_xChecked {E : Nat → Prop} {w : MW} (h : CRE E w) : CRE E (xChecked w) := by
  unfold xChecked
  by_cases g : stt w 15 = 0
  · rw [if_pos g]
    refine CRE_set (a := 15) (s := 2) (CRE_wr (CRE_se (CRE_s1 h))) ?_
    exact ⟨fun h9 => absurd h9 (by decide), fun h8 h9 => Or.inr rfl, fun h9 => absurd h9 (by decide), fun h9 => absurd h9 (by decide), fun h9 => absurd h9 (by decide), fun h9 => absurd h9 (by decide), fun h9 => absurd h9 (by decide), fun h9 => absurd h9 (by decide), fun _ h9 => absurd h9 (by decide), fun _ h9 => absurd h9 (by decide)⟩
  · rw [if_neg g]; exact h
theorem CRE_xBad {E : Nat → Prop} {w : MW} (h : CRE E w) : CRE E (xBad w).1 := by
  unfold xBad
  by_cases g : stt w 8 = 3
  · rw [if_pos g]; exact h
  · rw [if_neg g]
    refine CRE_set (a := 8) (s := 3) (CRE_vv (CRE_wr (CRE_s1 h)) (Or.inr rfl)) ?_
    exact ⟨fun h9 => Or.inr rfl, fun h8 h9 => absurd rfl h8, fun h9 => absurd h9 (by decide), fun h9 => absurd h9 (by decide), fun h9 => absurd h9 (by decide), fun h9 => absurd h9 (by decide), fun h9 => absurd h9 (by decide), fun h9 => absurd h9 (by decide), fun _ h9 => absurd h9 (by decide), fun _ h9 => absurd h9 (by decide)⟩
theorem CRE_xWorse {E : Nat → Prop} {w : MW} (h : CRE E w) : CRE E (xWorse w).1 := by
  unfold xWorse
  by_cases g : stt w 9 = 3
  · rw [if_pos g]; exact h
  · rw [if_neg g]
    refine CRE_set (a := 9) (s := 3) (CRE_xBad (CRE_s1 h)) ?_
    exact ⟨fun h9 => Or.inr rfl, fun h8 h9 => absurd rfl h9, fun h9 => absurd h9 (by decide), fun h9 => absurd h9 (by decide), fun h9 => absurd h9 (by decide), fun h9 => absurd h9 (by decide), fun h9 => absurd h9 (by decide), fun h9 => absurd h9 (by decide), fun _ h9 => absurd h9 (by decide), fun _ h9 => absurd h9 (by decide)⟩
theorem CR_mAt {w : MW} {k : Int32} (kk : Nat) (hk : kk < 17) (ek : k = nI kk) (hr : CR w) : CR (mAt k w).1 := by
  subst ek
  have h := CRE_of hr
  rcases (show kk = 0 ∨ kk = 1 ∨ kk = 2 ∨ kk = 3 ∨ kk = 4 ∨ kk = 5 ∨ kk = 6 ∨ kk = 7 ∨ kk = 8 ∨ kk = 9 ∨ kk = 10 ∨ kk = 11 ∨ kk = 12 ∨ kk = 13 ∨ kk = 14 ∨ kk = 15 ∨ kk = 16 by omega) with rfl | rfl | rfl | rfl | rfl | rfl | rfl | rfl | rfl | rfl | rfl | rfl | rfl | rfl | rfl | rfl | rfl
  · rw [show nI 0 = (0 : Int32) from rfl, A_0 hr]
    exact CRE_to (CRE_xBase h)
  · rw [show nI 1 = (1 : Int32) from rfl, A_1 hr]
    exact CRE_to (CRE_xMiddle h)
  · rw [show nI 2 = (2 : Int32) from rfl, A_2 hr]
    exact CRE_to (CRE_xLeaf h)
  · rw [show nI 3 = (3 : Int32) from rfl, A_3 hr]
    exact CRE_to (CRE_xAlone h ⟨fun h9 => absurd h9 (by decide), fun _ _ => Or.inr rfl, fun h9 => absurd h9 (by decide), fun _ _ => rfl, fun h9 => absurd h9 (by decide), fun h9 => absurd h9 (by decide), fun h9 => absurd h9 (by decide), fun h9 => absurd h9 (by decide), fun _ h9 => absurd h9 (by decide), fun _ h9 => absurd h9 (by decide)⟩)
  · rw [show nI 4 = (4 : Int32) from rfl, A_4 hr]
    exact CRE_to (CRE_xAlone h ⟨fun h9 => absurd h9 (by decide), fun _ _ => Or.inr rfl, fun h9 => absurd h9 (by decide), fun h9 => absurd h9 (by decide), fun _ _ => rfl, fun h9 => absurd h9 (by decide), fun h9 => absurd h9 (by decide), fun h9 => absurd h9 (by decide), fun _ h9 => absurd h9 (by decide), fun _ h9 => absurd h9 (by decide)⟩)
  · rw [show nI 5 = (5 : Int32) from rfl, A_5 hr]
    exact CRE_to (CRE_xAlone h ⟨fun h9 => absurd h9 (by decide), fun _ _ => Or.inr rfl, fun h9 => absurd h9 (by decide), fun h9 => absurd h9 (by decide), fun h9 => absurd h9 (by decide), fun _ _ => rfl, fun h9 => absurd h9 (by decide), fun h9 => absurd h9 (by decide), fun _ h9 => absurd h9 (by decide), fun _ h9 => absurd h9 (by decide)⟩)
  · rw [show nI 6 = (6 : Int32) from rfl, A_6 hr]
    exact CRE_to (CRE_xAlone h ⟨fun h9 => absurd h9 (by decide), fun _ _ => Or.inr rfl, fun h9 => absurd h9 (by decide), fun h9 => absurd h9 (by decide), fun h9 => absurd h9 (by decide), fun h9 => absurd h9 (by decide), fun _ _ => rfl, fun h9 => absurd h9 (by decide), fun _ h9 => absurd h9 (by decide), fun _ h9 => absurd h9 (by decide)⟩)
  · rw [show nI 7 = (7 : Int32) from rfl, A_7 hr]
    exact CRE_to (CRE_xLoud h)
  · rw [show nI 8 = (8 : Int32) from rfl, A_8 hr]
    exact CRE_to (CRE_xBad h)
  · rw [show nI 9 = (9 : Int32) from rfl, A_9 hr]
    exact CRE_to (CRE_xWorse h)
  · rw [show nI 10 = (10 : Int32) from rfl, A_10 hr]
    exact CRE_to (CRE_xFirst h)
  · rw [show nI 11 = (11 : Int32) from rfl, A_11 hr]
    exact CRE_to (CRE_xSecond h)
  · rw [show nI 12 = (12 : Int32) from rfl, A_12 hr]
    exact CRE_to (CRE_xAlone h ⟨fun h9 => absurd h9 (by decide), fun h8 h9 => Or.inr rfl, fun h9 => absurd h9 (by decide), fun h9 => absurd h9 (by decide), fun h9 => absurd h9 (by decide), fun h9 => absurd h9 (by decide), fun h9 => absurd h9 (by decide), fun h9 => absurd h9 (by decide), fun _ h9 => absurd h9 (by decide), fun _ h9 => absurd h9 (by decide)⟩)
  · rw [show nI 13 = (13 : Int32) from rfl, A_13 hr]
    exact CRE_to (CRE_xLazy h)
  · rw [show nI 14 = (14 : Int32) from rfl, A_14 hr]
    exact CRE_to (CRE_xGrade h)
  · rw [show nI 15 = (15 : Int32) from rfl, A_15 hr]
    exact CRE_to (CRE_xChecked h)
  · rw [show nI 16 = (16 : Int32) from rfl, A_16 hr]
    exact CRE_to (CRE_xAlone h ⟨fun h9 => absurd h9 (by decide), fun h8 h9 => Or.inr rfl, fun h9 => absurd h9 (by decide), fun h9 => absurd h9 (by decide), fun h9 => absurd h9 (by decide), fun h9 => absurd h9 (by decide), fun h9 => absurd h9 (by decide), fun h9 => absurd h9 (by decide), fun _ h9 => absurd h9 (by decide), fun _ h9 => absurd h9 (by decide)⟩)

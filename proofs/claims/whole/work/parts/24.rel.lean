-- THE REFERENCE'S WORLD j SHOWS THE CLASS'S WORLD w
def WR (w : MW) (md : MM) (j : Nat) : Prop :=
  (∀ k, k < 17 → aSt md (j * 17 + k) = gSt w k) ∧ (∀ i, i < 64 → aNo md (j * 64 + i) = gNo w i) ∧ aBa md j = gVa w 0 ∧ aMi md j = gVa w 1 ∧ aXx md j = gVa w 10 ∧ aYy md j = gVa w 11 ∧ aMa md j = gVa w 16 ∧ aNd md j = gWr w ∧ aSw md j = bI (gSw w) ∧ aSe md j = bI (gSe w)
/-- of the reference's other worlds nothing has changed -/
def FR (m1 md : MM) (j : Nat) : Prop :=
  (∀ i, i < 8 → i ≠ j → (∀ k, k < 17 → aSt md (i * 17 + k) = aSt m1 (i * 17 + k)) ∧ (∀ k, k < 64 → aNo md (i * 64 + k) = aNo m1 (i * 64 + k)) ∧ aBa md i = aBa m1 i ∧ aMi md i = aMi m1 i ∧ aXx md i = aXx m1 i ∧ aYy md i = aYy m1 i ∧ aMa md i = aMa m1 i ∧ aNd md i = aNd m1 i ∧ aSw md i = aSw m1 i ∧ aSe md i = aSe m1 i) ∧ aWn md = aWn m1 ∧ aHe md = aHe m1 ∧ aHi md = aHi m1
def WF (w : MW) (md m1 : MM) (j : Nat) : Prop := j < 8 ∧ aWc md = nI j ∧ WR w md j ∧ FR m1 md j
theorem FR_refl (m : MM) (j : Nat) : FR m m j := ⟨fun _ _ _ => ⟨fun _ _ => rfl, fun _ _ => rfl, rfl, rfl, rfl, rfl, rfl, rfl, rfl, rfl⟩, rfl, rfl, rfl⟩
theorem WF_c {w : MW} {md m1 : MM} {j : Nat} (h : WF w md m1 j) : (aWc md).toNatClampNeg = j := by
  rw [h.2.1]; exact nI_clamp (by have := h.1; omega)
theorem ix17 {j k : Nat} (hj : j < 8) (hk : k < 17) : (nI j * 17 + nI k).toNatClampNeg = j * 17 + k := by
  rw [show (17 : Int32) = nI 17 from rfl, pk_mul, nI_add]; exact nI_clamp (by omega)
theorem ix64 {j k : Nat} (hj : j < 8) (hk : k < 64) : (nI j * 64 + nI k).toNatClampNeg = j * 64 + k := by
  rw [show (64 : Int32) = nI 64 from rfl, pk_mul, nI_add]; exact nI_clamp (by omega)
theorem WF_st {w : MW} {md m1 : MM} {j kk : Nat} {v : Int32} (h : WF w md m1 j) (hk : kk < 17) : WF (sSt w (upd (gSt w) kk v)) (uSt md (upd (aSt md) (j * 17 + kk) v)) m1 j := by
  obtain ⟨hj, hc, ⟨w1, w2⟩, f1, f2⟩ := h
  refine ⟨hj, hc, ⟨fun k h2 => ?_, w2⟩, fun i hi hn => ?_, f2⟩
  · show upd (aSt md) (j * 17 + kk) v (j * 17 + k) = upd (gSt w) kk v k
    by_cases e : k = kk
    · subst e; rw [pk_us, pk_us]
    · rw [pk_un (by omega), pk_un e]; exact w1 k h2
  · obtain ⟨g1, g2⟩ := f1 i hi hn
    refine ⟨fun k h2 => ?_, g2⟩
    show upd (aSt md) (j * 17 + kk) v (i * 17 + k) = _
    rw [pk_un (by omega)]; exact g1 k h2
theorem WF_begin_y {w : MW} {md m1 : MM} {j : Nat} {k : Int32} (kk : Nat) (hk : kk < 17) (ek : k = nI kk) (h : WF w md m1 j) (g : stt w k = 0) : ∃ mb : MM, m_M_begins k md = (mb, 1) ∧ WF (s1 k w) mb m1 j := by
  have ec : k.toNatClampNeg = kk := by rw [ek]; exact nI_clamp (by omega)
  have ei : (aWc md * 17 + k).toNatClampNeg = j * 17 + kk := by rw [h.2.1, ek]; exact ix17 h.1 hk
  refine ⟨_, (if_pos ?_).trans rfl, ?_⟩
  · rw [ei, h.2.2.1.1 kk hk, ← ec]; exact g
  · show WF (sSt w (upd (gSt w) k.toNatClampNeg 1)) (uSt md (upd (aSt md) (aWc md * 17 + k).toNatClampNeg 1)) m1 j
    rw [ei, ec]; exact WF_st h hk
theorem WF_begin_n {w : MW} {md m1 : MM} {j : Nat} {k : Int32} (kk : Nat) (hk : kk < 17) (ek : k = nI kk) (h : WF w md m1 j) (g : ¬ stt w k = 0) : m_M_begins k md = (md, 0) := by
  have ec : k.toNatClampNeg = kk := by rw [ek]; exact nI_clamp (by omega)
  have ei : (aWc md * 17 + k).toNatClampNeg = j * 17 + kk := by rw [h.2.1, ek]; exact ix17 h.1 hk
  refine (if_neg ?_).trans rfl
  rw [ei, h.2.2.1.1 kk hk, ← ec]; exact g
theorem WF_ends {w : MW} {md m1 : MM} {j : Nat} {k : Int32} (kk : Nat) (hk : kk < 17) (ek : k = nI kk) (h : WF w md m1 j) : WF (s2 k w) (m_M_ends k md) m1 j := by
  have ec : k.toNatClampNeg = kk := by rw [ek]; exact nI_clamp (by omega)
  have ei : (aWc md * 17 + k).toNatClampNeg = j * 17 + kk := by rw [h.2.1, ek]; exact ix17 h.1 hk
  show WF (sSt w (upd (gSt w) k.toNatClampNeg 2)) (uSt md (upd (aSt md) (aWc md * 17 + k).toNatClampNeg 2)) m1 j
  rw [ei, ec]; exact WF_st h hk
theorem WF_set3 {w : MW} {md m1 : MM} {j : Nat} {k : Int32} (kk : Nat) (hk : kk < 17) (ek : k = nI kk) (h : WF w md m1 j) : WF (s3 k w) (uSt md (upd (aSt md) (aWc md * 17 + k).toNatClampNeg 3)) m1 j := by
  have ec : k.toNatClampNeg = kk := by rw [ek]; exact nI_clamp (by omega)
  have ei : (aWc md * 17 + k).toNatClampNeg = j * 17 + kk := by rw [h.2.1, ek]; exact ix17 h.1 hk
  show WF (sSt w (upd (gSt w) k.toNatClampNeg 3)) _ m1 j
  rw [ei, ec]; exact WF_st h hk
theorem WF_write {w : MW} {md m1 : MM} {j c : Nat} {n : Int32} (h : WF w md m1 j) (ho : ok c w) : WF (wr n w) (m_M_write n md) m1 j := by
  have ec := WF_c h
  obtain ⟨hj, hc, ⟨w1, w2, w3, w4, w5, w6, w7, w8, w9⟩, f1, f2⟩ := h
  show WF (m_World_write n w).1 (m_M_write n md) m1 j
  unfold m_World_write m_M_write
  rw [ec, w8]
  by_cases g : (64 : Int32) ≤ gWr w
  · rw [if_pos g, if_pos g]
    refine ⟨hj, hc, ⟨w1, w2, w3, w4, w5, w6, w7, ?_, w9⟩, fun i hi hn => ?_, f2⟩
    · show upd (aNd md) j (gWr w + 1) j = gWr w + 1
      exact pk_us
    · obtain ⟨g1, g2, g3, g4, g5, g6, g7, g8, g9⟩ := f1 i hi hn
      exact ⟨g1, g2, g3, g4, g5, g6, g7, (pk_un hn).trans g8, g9⟩
  · rw [if_neg g, if_neg g]
    obtain ⟨i0, hi0, ei0⟩ := vp_in_of (ok_in ho g) (by decide)
    have e1 : (gWr w).toNatClampNeg = i0 := by rw [ei0]; exact nI_clamp (by omega)
    have e2 : (aWc md * 64 + gWr w).toNatClampNeg = j * 64 + i0 := by rw [hc, ei0]; exact ix64 hj hi0
    rw [e1, e2]
    refine ⟨hj, hc, ⟨w1, fun i hi => ?_, w3, w4, w5, w6, w7, ?_, w9⟩, fun i hi hn => ?_, f2⟩
    · show upd (aNo md) (j * 64 + i0) n (j * 64 + i) = upd (gNo w) i0 n i
      by_cases e : i = i0
      · subst e; rw [pk_us, pk_us]
      · rw [pk_un (by omega), pk_un e]; exact w2 i hi
    · show upd (aNd md) j (gWr w + 1) j = gWr w + 1
      exact pk_us
    · obtain ⟨g1, g2, g3, g4, g5, g6, g7, g8, g9⟩ := f1 i hi hn
      refine ⟨g1, fun k h2 => ?_, g3, g4, g5, g6, g7, (pk_un hn).trans g8, g9⟩
      show upd (aNo md) (j * 64 + i0) n (i * 64 + k) = _
      rw [pk_un (by omega)]; exact g2 k h2
theorem WF_va0 {w : MW} {md m1 : MM} {j : Nat} {x : Int32} (h : WF w md m1 j) : WF (vv 0 x w) (uBa md (upd (aBa md) (aWc md).toNatClampNeg x)) m1 j := by
  have ec := WF_c h
  obtain ⟨hj, hc, ⟨w1, w2, w3, w4, w5, w6, w7, w8, w9⟩, f1, f2⟩ := h
  rw [ec]
  refine ⟨hj, hc, ⟨w1, w2, (pk_us (x := x) (f := aBa md) (k := j)).trans (pk_us (x := x) (f := gVa w) (k := 0)).symm, w4.trans (pk_un (x := x) (f := gVa w) (k := (0 : Int32).toNatClampNeg) (j := 1) (by decide)).symm, w5.trans (pk_un (x := x) (f := gVa w) (k := (0 : Int32).toNatClampNeg) (j := 10) (by decide)).symm, w6.trans (pk_un (x := x) (f := gVa w) (k := (0 : Int32).toNatClampNeg) (j := 11) (by decide)).symm, w7.trans (pk_un (x := x) (f := gVa w) (k := (0 : Int32).toNatClampNeg) (j := 16) (by decide)).symm, w8, w9⟩, fun i hi hn => ?_, f2⟩
  obtain ⟨g1, g2, g3, g4, g5, g6, g7, g8, g9, g10⟩ := f1 i hi hn
  exact ⟨g1, g2, (pk_un hn).trans g3, g4, g5, g6, g7, g8, g9, g10⟩
theorem WF_va1 {w : MW} {md m1 : MM} {j : Nat} {x : Int32} (h : WF w md m1 j) : WF (vv 1 x w) (uMi md (upd (aMi md) (aWc md).toNatClampNeg x)) m1 j := by
  have ec := WF_c h
  obtain ⟨hj, hc, ⟨w1, w2, w3, w4, w5, w6, w7, w8, w9⟩, f1, f2⟩ := h
  rw [ec]
  refine ⟨hj, hc, ⟨w1, w2, w3.trans (pk_un (x := x) (f := gVa w) (k := (1 : Int32).toNatClampNeg) (j := 0) (by decide)).symm, (pk_us (x := x) (f := aMi md) (k := j)).trans (pk_us (x := x) (f := gVa w) (k := 1)).symm, w5.trans (pk_un (x := x) (f := gVa w) (k := (1 : Int32).toNatClampNeg) (j := 10) (by decide)).symm, w6.trans (pk_un (x := x) (f := gVa w) (k := (1 : Int32).toNatClampNeg) (j := 11) (by decide)).symm, w7.trans (pk_un (x := x) (f := gVa w) (k := (1 : Int32).toNatClampNeg) (j := 16) (by decide)).symm, w8, w9⟩, fun i hi hn => ?_, f2⟩
  obtain ⟨g1, g2, g3, g4, g5, g6, g7, g8, g9, g10⟩ := f1 i hi hn
  exact ⟨g1, g2, g3, (pk_un hn).trans g4, g5, g6, g7, g8, g9, g10⟩
theorem WF_va10 {w : MW} {md m1 : MM} {j : Nat} {x : Int32} (h : WF w md m1 j) : WF (vv 10 x w) (uXx md (upd (aXx md) (aWc md).toNatClampNeg x)) m1 j := by
  have ec := WF_c h
  obtain ⟨hj, hc, ⟨w1, w2, w3, w4, w5, w6, w7, w8, w9⟩, f1, f2⟩ := h
  rw [ec]
  refine ⟨hj, hc, ⟨w1, w2, w3.trans (pk_un (x := x) (f := gVa w) (k := (10 : Int32).toNatClampNeg) (j := 0) (by decide)).symm, w4.trans (pk_un (x := x) (f := gVa w) (k := (10 : Int32).toNatClampNeg) (j := 1) (by decide)).symm, (pk_us (x := x) (f := aXx md) (k := j)).trans (pk_us (x := x) (f := gVa w) (k := 10)).symm, w6.trans (pk_un (x := x) (f := gVa w) (k := (10 : Int32).toNatClampNeg) (j := 11) (by decide)).symm, w7.trans (pk_un (x := x) (f := gVa w) (k := (10 : Int32).toNatClampNeg) (j := 16) (by decide)).symm, w8, w9⟩, fun i hi hn => ?_, f2⟩
  obtain ⟨g1, g2, g3, g4, g5, g6, g7, g8, g9, g10⟩ := f1 i hi hn
  exact ⟨g1, g2, g3, g4, (pk_un hn).trans g5, g6, g7, g8, g9, g10⟩
theorem WF_va11 {w : MW} {md m1 : MM} {j : Nat} {x : Int32} (h : WF w md m1 j) : WF (vv 11 x w) (uYy md (upd (aYy md) (aWc md).toNatClampNeg x)) m1 j := by
  have ec := WF_c h
  obtain ⟨hj, hc, ⟨w1, w2, w3, w4, w5, w6, w7, w8, w9⟩, f1, f2⟩ := h
  rw [ec]
  refine ⟨hj, hc, ⟨w1, w2, w3.trans (pk_un (x := x) (f := gVa w) (k := (11 : Int32).toNatClampNeg) (j := 0) (by decide)).symm, w4.trans (pk_un (x := x) (f := gVa w) (k := (11 : Int32).toNatClampNeg) (j := 1) (by decide)).symm, w5.trans (pk_un (x := x) (f := gVa w) (k := (11 : Int32).toNatClampNeg) (j := 10) (by decide)).symm, (pk_us (x := x) (f := aYy md) (k := j)).trans (pk_us (x := x) (f := gVa w) (k := 11)).symm, w7.trans (pk_un (x := x) (f := gVa w) (k := (11 : Int32).toNatClampNeg) (j := 16) (by decide)).symm, w8, w9⟩, fun i hi hn => ?_, f2⟩
  obtain ⟨g1, g2, g3, g4, g5, g6, g7, g8, g9, g10⟩ := f1 i hi hn
  exact ⟨g1, g2, g3, g4, g5, (pk_un hn).trans g6, g7, g8, g9, g10⟩
theorem WF_va16 {w : MW} {md m1 : MM} {j : Nat} {x : Int32} (h : WF w md m1 j) : WF (vv 16 x w) (uMa md (upd (aMa md) (aWc md).toNatClampNeg x)) m1 j := by
  have ec := WF_c h
  obtain ⟨hj, hc, ⟨w1, w2, w3, w4, w5, w6, w7, w8, w9⟩, f1, f2⟩ := h
  rw [ec]
  refine ⟨hj, hc, ⟨w1, w2, w3.trans (pk_un (x := x) (f := gVa w) (k := (16 : Int32).toNatClampNeg) (j := 0) (by decide)).symm, w4.trans (pk_un (x := x) (f := gVa w) (k := (16 : Int32).toNatClampNeg) (j := 1) (by decide)).symm, w5.trans (pk_un (x := x) (f := gVa w) (k := (16 : Int32).toNatClampNeg) (j := 10) (by decide)).symm, w6.trans (pk_un (x := x) (f := gVa w) (k := (16 : Int32).toNatClampNeg) (j := 11) (by decide)).symm, (pk_us (x := x) (f := aMa md) (k := j)).trans (pk_us (x := x) (f := gVa w) (k := 16)).symm, w8, w9⟩, fun i hi hn => ?_, f2⟩
  obtain ⟨g1, g2, g3, g4, g5, g6, g7, g8, g9, g10⟩ := f1 i hi hn
  exact ⟨g1, g2, g3, g4, g5, g6, (pk_un hn).trans g7, g8, g9, g10⟩
theorem WF_vaO {w : MW} {md m1 : MM} {j : Nat} {k x : Int32} (h : WF w md m1 j) (h0 : k.toNatClampNeg ≠ 0) (h1 : k.toNatClampNeg ≠ 1) (h10 : k.toNatClampNeg ≠ 10) (h11 : k.toNatClampNeg ≠ 11) (h16 : k.toNatClampNeg ≠ 16) : WF (vv k x w) md m1 j := by
  obtain ⟨hj, hc, ⟨w1, w2, w3, w4, w5, w6, w7, w8, w9⟩, f⟩ := h
  exact ⟨hj, hc, ⟨w1, w2, w3.trans (pk_un (Ne.symm h0)).symm, w4.trans (pk_un (Ne.symm h1)).symm, w5.trans (pk_un (Ne.symm h10)).symm, w6.trans (pk_un (Ne.symm h11)).symm, w7.trans (pk_un (Ne.symm h16)).symm, w8, w9⟩, f⟩
theorem WF_sw {w : MW} {md m1 : MM} {j : Nat} {b : Bool} (h : WF w md m1 j) : WF (sSw w b) (uSw md (upd (aSw md) (aWc md).toNatClampNeg (bI b))) m1 j := by
  have ec := WF_c h
  obtain ⟨hj, hc, ⟨w1, w2, w3, w4, w5, w6, w7, w8, w9, w10⟩, f1, f2⟩ := h
  rw [ec]
  refine ⟨hj, hc, ⟨w1, w2, w3, w4, w5, w6, w7, w8, pk_us, w10⟩, fun i hi hn => ?_, f2⟩
  obtain ⟨g1, g2, g3, g4, g5, g6, g7, g8, g9, g10⟩ := f1 i hi hn
  exact ⟨g1, g2, g3, g4, g5, g6, g7, g8, (pk_un hn).trans g9, g10⟩
theorem WF_se {w : MW} {md m1 : MM} {j : Nat} (h : WF w md m1 j) : WF (sSe w (gSw w)) (uSe md (upd (aSe md) (aWc md).toNatClampNeg (vp_nar .boolean (aSw md (aWc md).toNatClampNeg)))) m1 j := by
  have ec := WF_c h
  obtain ⟨hj, hc, ⟨w1, w2, w3, w4, w5, w6, w7, w8, w9, w10⟩, f1, f2⟩ := h
  rw [ec]
  refine ⟨hj, hc, ⟨w1, w2, w3, w4, w5, w6, w7, w8, w9, ?_⟩, fun i hi hn => ?_, f2⟩
  · show upd (aSe md) j (vp_nar .boolean (aSw md j)) j = bI (gSw w)
    rw [pk_us, w9]; exact zn_bI
  · obtain ⟨g1, g2, g3, g4, g5, g6, g7, g8, g9, g10⟩ := f1 i hi hn
    exact ⟨g1, g2, g3, g4, g5, g6, g7, g8, g9, (pk_un hn).trans g10⟩

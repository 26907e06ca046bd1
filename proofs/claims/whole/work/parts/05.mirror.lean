
theorem inc_toInt {x : Int32} (h0 : 0 ≤ x.toInt) (h1 : x.toInt ≤ 1073741824) : (x + 1).toInt = x.toInt + 1 := by
  rw [Int32.toInt_add, show (1 : Int32).toInt = 1 from by decide]
  exact Int.bmod_eq_of_le (by omega) (by omega)
def untN (st : Nat → Int32) : Nat → Int
  | 0 => 0
  | n + 1 => untN st n + (if st n = 0 then 1 else 0)
theorem untN_0 (st : Nat → Int32) (n : Nat) : 0 ≤ untN st n := by
  induction n with
  | zero => exact Int.le_refl _
  | succ n ih => unfold untN; split <;> omega
theorem untN_out {st : Nat → Int32} {k : Nat} {v : Int32} (n : Nat) (h : n ≤ k) : untN (upd st k v) n = untN st n := by
  induction n with
  | zero => rfl
  | succ n ih => unfold untN; rw [ih (by omega), pk_un (by omega)]
theorem untN_in {st : Nat → Int32} {k : Nat} {v : Int32} (hv : ¬ v = 0) (hk : st k = 0) (n : Nat) (h : k < n) : untN (upd st k v) n = untN st n - 1 := by
  induction n with
  | zero => omega
  | succ n ih =>
    unfold untN
    rcases Nat.lt_or_ge k n with q | q
    · rw [ih q, pk_un (by omega)]; omega
    · have e : k = n := by omega
      subst e
      rw [untN_out _ (Nat.le_refl _), pk_us, if_neg hv, if_pos hk]; omega
theorem untN_le {st : Nat → Int32} {k : Nat} {v : Int32} (hv : ¬ v = 0) (n : Nat) : untN (upd st k v) n ≤ untN st n := by
  induction n with
  | zero => exact Int.le_refl _
  | succ n ih =>
    unfold untN
    by_cases e : n = k
    · subst e
      rw [pk_us, if_neg hv]
      split <;> omega
    · rw [pk_un e]; omega
abbrev unt (st : Nat → Int32) : Int := untN st 17
/-- room for c more notes, and eight for each class that is untouched -/
def ok (c : Nat) (w : MW) : Prop := 0 ≤ (gWr w).toInt ∧ (gWr w).toInt + 8 * unt (gSt w) + c ≤ 1073741824
theorem ok_mono {c d : Nat} {w : MW} (h : ok c w) (hd : d ≤ c) : ok d w := ⟨h.1, by have := h.2; omega⟩
theorem ok_in {c : Nat} {w : MW} (h : ok c w) (h2 : ¬ (64 : Int32) ≤ gWr w) : vp_in (gWr w) 64 := by
  rw [vp_in_iff]
  have b := (not_congr Int32.le_iff_toInt_le).mp h2
  rw [show (64 : Int32).toInt = 64 from by decide] at b
  have := h.1
  omega
theorem ok_st1 {c : Nat} {w : MW} {k : Int32} (h : ok c w) (hk : vp_in k 17) (h0 : gSt w k.toNatClampNeg = 0) : ok (c + 8) (sSt w (upd (gSt w) k.toNatClampNeg 1)) := by
  obtain ⟨j, hj, rfl⟩ := vp_in_of hk (by decide)
  have e : (nI j).toNatClampNeg = j := nI_clamp (by omega)
  refine ⟨h.1, ?_⟩
  have h2 := h.2
  have := untN_in (st := gSt w) (k := (nI j).toNatClampNeg) (v := 1) (by decide) h0 17 (by omega)
  show (gWr w).toInt + 8 * untN (upd (gSt w) (nI j).toNatClampNeg 1) 17 + ((c + 8 : Nat) : Int) ≤ 1073741824
  unfold unt at h2
  omega
theorem ok_st2 {c : Nat} {w : MW} {k : Nat} {v : Int32} (h : ok c w) (hv : ¬ v = 0) : ok c (sSt w (upd (gSt w) k v)) := by
  refine ⟨h.1, ?_⟩
  have h2 := h.2
  have := untN_le (st := gSt w) (k := k) (v := v) hv 17
  show (gWr w).toInt + 8 * untN (upd (gSt w) k v) 17 + (c : Int) ≤ 1073741824
  unfold unt at h2
  omega
def rmN (n : Nat) : Room := { frames := n, cells := 0, slots := 0, locals := 40 * n }

def m_Kinds_isThere (k : Int32) : Int32 := (if k < 0 then (0 : Int32) else (if (17 : Int32) ≤ k then (0 : Int32) else (1 : Int32)))
def m_Kinds_up (k : Int32) : Int32 := (if (m_Kinds_isThere k) = 0 then (-1 : Int32) else (fUP k.toNatClampNeg))
def m_Kinds_isInterface (k : Int32) : Int32 := (if k = (3 : Int32) then (1 : Int32) else (if k = (4 : Int32) then (1 : Int32) else (if k = (5 : Int32) then (1 : Int32) else (0 : Int32))))
def m_Kinds_hasBody (k : Int32) : Int32 := (if k = (4 : Int32) then (1 : Int32) else (if k = (5 : Int32) then (1 : Int32) else (0 : Int32)))
def m_Kinds_reaches (g : Int32 → Int32 → Int32 → Int32) (k : Int32) (wd : Int32) (dp : Int32) : Int32 := (if k = (-1 : Int32) then (0 : Int32) else (if dp ≤ (34 : Int32) then (if k = wd then (1 : Int32) else (if (g (m_Kinds_up k) wd (dp + (1 : Int32))) = 0 then (if (1 : Int32) = k then (if (g (3 : Int32) wd (dp + (1 : Int32))) = 0 then (if (g (5 : Int32) wd (dp + (1 : Int32))) = 0 then (0 : Int32) else (1 : Int32)) else (1 : Int32)) else (if (4 : Int32) = k then (if (g (3 : Int32) wd (dp + (1 : Int32))) = 0 then (0 : Int32) else (1 : Int32)) else (if (6 : Int32) = k then (if (g (3 : Int32) wd (dp + (1 : Int32))) = 0 then (0 : Int32) else (1 : Int32)) else (if (7 : Int32) = k then (if (g (4 : Int32) wd (dp + (1 : Int32))) = 0 then (0 : Int32) else (1 : Int32)) else (0 : Int32))))) else (1 : Int32))) else (0 : Int32)))
def m_World_write (n : Int32) (w : MW) : MW × Int32 := (if (64 : Int32) ≤ (gWr w) then ((sWr w ((gWr w) + (1 : Int32))), n) else ((sWr (sNo w (upd ((gNo w)) (gWr w).toNatClampNeg n)) ((gWr (sNo w (upd ((gNo w)) (gWr w).toNatClampNeg n))) + (1 : Int32))), n))
def m_World_isKept (i : Int32) (w : MW) : Int32 := (if i < 0 then (0 : Int32) else (if (gWr w) ≤ i then (0 : Int32) else (if (64 : Int32) ≤ i then (0 : Int32) else (1 : Int32))))
def m_World_construct (k : Int32) (w : MW) : MW := (if k = (1 : Int32) then (m_World_write (23 : Int32) ((m_World_write (22 : Int32) ((m_World_write (21 : Int32) ((m_World_write (20 : Int32) w).1)).1)).1)).1 else (if k = (2 : Int32) then (m_World_write (23 : Int32) ((m_World_write (22 : Int32) ((m_World_write (21 : Int32) ((m_World_write (20 : Int32) w).1)).1)).1)).1 else (if k = 0 then (m_World_write (20 : Int32) w).1 else (if k = (13 : Int32) then (m_World_write (20 : Int32) w).1 else w))))
def m_World_onlyNote (k : Int32) : Int32 := (if k = 3 then (4 : Int32) else (if k = 4 then (15 : Int32) else (if k = 5 then (5 : Int32) else (if k = 6 then (11 : Int32) else (if k = 7 then (12 : Int32) else (if k = 8 then (19 : Int32) else (if k = 9 then (8 : Int32) else (if k = 10 then (19 : Int32) else (if k = 11 then (19 : Int32) else (if k = 12 then (13 : Int32) else (19 : Int32)))))))))))
def m_tAt (gA : Int32 → Int32 → MW → MW × Int32) (gD : Int32 → Int32 → MW → MW × Int32) (k : Int32) (dp : Int32) (w : MW) : MW × Int32 := (if dp ≤ (34 : Int32) then (if (m_Kinds_isThere k) = 0 then (w, (0 : Int32)) else (if ((gSt w) k.toNatClampNeg) = (3 : Int32) then (w, (-102 : Int32)) else (if ((gSt w) k.toNatClampNeg) = 0 then (if (gA k (dp + (1 : Int32)) (sSt w (upd ((gSt w)) k.toNatClampNeg (1 : Int32)))).2 = 0 then (if (gD k (dp + (1 : Int32)) ((gA k (dp + (1 : Int32)) (sSt w (upd ((gSt w)) k.toNatClampNeg (1 : Int32)))).1)).2 = 0 then ((sSt ((gD k (dp + (1 : Int32)) ((gA k (dp + (1 : Int32)) (sSt w (upd ((gSt w)) k.toNatClampNeg (1 : Int32)))).1)).1) (upd ((gSt ((gD k (dp + (1 : Int32)) ((gA k (dp + (1 : Int32)) (sSt w (upd ((gSt w)) k.toNatClampNeg (1 : Int32)))).1)).1))) k.toNatClampNeg (2 : Int32))), (gD k (dp + (1 : Int32)) ((gA k (dp + (1 : Int32)) (sSt w (upd ((gSt w)) k.toNatClampNeg (1 : Int32)))).1)).2) else ((sSt ((gD k (dp + (1 : Int32)) ((gA k (dp + (1 : Int32)) (sSt w (upd ((gSt w)) k.toNatClampNeg (1 : Int32)))).1)).1) (upd ((gSt ((gD k (dp + (1 : Int32)) ((gA k (dp + (1 : Int32)) (sSt w (upd ((gSt w)) k.toNatClampNeg (1 : Int32)))).1)).1))) k.toNatClampNeg (3 : Int32))), (gD k (dp + (1 : Int32)) ((gA k (dp + (1 : Int32)) (sSt w (upd ((gSt w)) k.toNatClampNeg (1 : Int32)))).1)).2)) else ((sSt ((gA k (dp + (1 : Int32)) (sSt w (upd ((gSt w)) k.toNatClampNeg (1 : Int32)))).1) (upd ((gSt ((gA k (dp + (1 : Int32)) (sSt w (upd ((gSt w)) k.toNatClampNeg (1 : Int32)))).1))) k.toNatClampNeg (3 : Int32))), (gA k (dp + (1 : Int32)) (sSt w (upd ((gSt w)) k.toNatClampNeg (1 : Int32)))).2)) else (w, (0 : Int32))))) else (w, (-1 : Int32)))
def m_tAb (gT : Int32 → Int32 → MW → MW × Int32) (gI : Int32 → Int32 → MW → MW) (k : Int32) (dp : Int32) (w : MW) : MW × Int32 := (if (m_Kinds_isInterface k) = 0 then (if (gT (m_Kinds_up k) dp w).2 = 0 then ((gI k dp ((gT (m_Kinds_up k) dp w).1)), (gT (m_Kinds_up k) dp w).2) else ((gT (m_Kinds_up k) dp w).1, (gT (m_Kinds_up k) dp w).2)) else (w, (0 : Int32)))
def m_tIf (gI : Int32 → Int32 → MW → MW) (gT : Int32 → Int32 → MW → MW × Int32) (k : Int32) (dp : Int32) (w : MW) : MW := (if dp ≤ (34 : Int32) then (if (1 : Int32) = k then (if (m_Kinds_hasBody (3 : Int32)) = 0 then (if (m_Kinds_hasBody (5 : Int32)) = 0 then (gI (5 : Int32) (dp + (1 : Int32)) (gI (3 : Int32) (dp + (1 : Int32)) w)) else (gT (5 : Int32) (dp + (1 : Int32)) (gI (5 : Int32) (dp + (1 : Int32)) (gI (3 : Int32) (dp + (1 : Int32)) w))).1) else (if (m_Kinds_hasBody (5 : Int32)) = 0 then (gI (5 : Int32) (dp + (1 : Int32)) ((gT (3 : Int32) (dp + (1 : Int32)) (gI (3 : Int32) (dp + (1 : Int32)) w)).1)) else (gT (5 : Int32) (dp + (1 : Int32)) (gI (5 : Int32) (dp + (1 : Int32)) ((gT (3 : Int32) (dp + (1 : Int32)) (gI (3 : Int32) (dp + (1 : Int32)) w)).1))).1)) else (if (4 : Int32) = k then (if (m_Kinds_hasBody (3 : Int32)) = 0 then (gI (3 : Int32) (dp + (1 : Int32)) w) else (gT (3 : Int32) (dp + (1 : Int32)) (gI (3 : Int32) (dp + (1 : Int32)) w)).1) else (if (6 : Int32) = k then (if (m_Kinds_hasBody (3 : Int32)) = 0 then (gI (3 : Int32) (dp + (1 : Int32)) w) else (gT (3 : Int32) (dp + (1 : Int32)) (gI (3 : Int32) (dp + (1 : Int32)) w)).1) else (if (7 : Int32) = k then (if (m_Kinds_hasBody (4 : Int32)) = 0 then (gI (4 : Int32) (dp + (1 : Int32)) w) else (gT (4 : Int32) (dp + (1 : Int32)) (gI (4 : Int32) (dp + (1 : Int32)) w)).1) else w)))) else w)
def m_tDe (gS : Int32 → Int32 → MW → MW × Int32) (k : Int32) (dp : Int32) (w : MW) : MW × Int32 := (if k = 0 then ((m_World_write (1 : Int32) (sVa ((m_World_write (10 : Int32) w).1) (upd ((gVa ((m_World_write (10 : Int32) w).1))) (0 : Int32).toNatClampNeg (m_World_write (10 : Int32) w).2))).1, (0 : Int32)) else (if k = 1 then ((sVa ((gS (0 : Int32) dp ((m_World_write (2 : Int32) w).1)).1) (upd ((gVa ((gS (0 : Int32) dp ((m_World_write (2 : Int32) w).1)).1))) (1 : Int32).toNatClampNeg ((m_World_write (2 : Int32) w).2 + (gS (0 : Int32) dp ((m_World_write (2 : Int32) w).1)).2))), (0 : Int32)) else (if k = 2 then ((m_World_write (3 : Int32) (sVa ((m_World_write (6 : Int32) w).1) (upd ((gVa ((m_World_write (6 : Int32) w).1))) (2 : Int32).toNatClampNeg (m_World_write (6 : Int32) w).2))).1, (0 : Int32)) else (if k = 3 then ((sVa ((m_World_write (m_World_onlyNote (3 : Int32)) w).1) (upd ((gVa ((m_World_write (m_World_onlyNote (3 : Int32)) w).1))) (3 : Int32).toNatClampNeg (m_World_write (m_World_onlyNote (3 : Int32)) w).2)), (0 : Int32)) else (if k = 4 then ((sVa ((m_World_write (m_World_onlyNote (4 : Int32)) w).1) (upd ((gVa ((m_World_write (m_World_onlyNote (4 : Int32)) w).1))) (4 : Int32).toNatClampNeg (m_World_write (m_World_onlyNote (4 : Int32)) w).2)), (0 : Int32)) else (if k = 5 then ((sVa ((m_World_write (m_World_onlyNote (5 : Int32)) w).1) (upd ((gVa ((m_World_write (m_World_onlyNote (5 : Int32)) w).1))) (5 : Int32).toNatClampNeg (m_World_write (m_World_onlyNote (5 : Int32)) w).2)), (0 : Int32)) else (if k = 6 then ((sVa ((m_World_write (m_World_onlyNote (6 : Int32)) w).1) (upd ((gVa ((m_World_write (m_World_onlyNote (6 : Int32)) w).1))) (6 : Int32).toNatClampNeg (m_World_write (m_World_onlyNote (6 : Int32)) w).2)), (0 : Int32)) else (if k = 7 then ((sVa ((m_World_write (m_World_onlyNote (7 : Int32)) w).1) (upd ((gVa ((m_World_write (m_World_onlyNote (7 : Int32)) w).1))) (7 : Int32).toNatClampNeg (m_World_write (m_World_onlyNote (7 : Int32)) w).2)), (0 : Int32)) else (if k = 8 then ((sVa ((m_World_write (7 : Int32) w).1) (upd ((gVa ((m_World_write (7 : Int32) w).1))) (8 : Int32).toNatClampNeg (m_World_write (7 : Int32) w).2)), (-101 : Int32)) else (if k = 9 then ((sVa ((m_World_write (m_World_onlyNote (9 : Int32)) w).1) (upd ((gVa ((m_World_write (m_World_onlyNote (9 : Int32)) w).1))) (9 : Int32).toNatClampNeg (m_World_write (m_World_onlyNote (9 : Int32)) w).2)), (0 : Int32)) else (if k = 10 then ((sVa ((m_World_write (30 : Int32) ((gS (11 : Int32) dp w).1)).1) (upd ((gVa ((m_World_write (30 : Int32) ((gS (11 : Int32) dp w).1)).1))) (10 : Int32).toNatClampNeg ((gS (11 : Int32) dp w).2 + (m_World_write (30 : Int32) ((gS (11 : Int32) dp w).1)).2))), (0 : Int32)) else (if k = 11 then ((sVa ((m_World_write (40 : Int32) ((gS (10 : Int32) dp w).1)).1) (upd ((gVa ((m_World_write (40 : Int32) ((gS (10 : Int32) dp w).1)).1))) (11 : Int32).toNatClampNeg ((gS (10 : Int32) dp w).2 + (m_World_write (40 : Int32) ((gS (10 : Int32) dp w).1)).2))), (0 : Int32)) else (if k = 12 then ((sVa ((m_World_write (m_World_onlyNote (12 : Int32)) w).1) (upd ((gVa ((m_World_write (m_World_onlyNote (12 : Int32)) w).1))) (12 : Int32).toNatClampNeg (m_World_write (m_World_onlyNote (12 : Int32)) w).2)), (0 : Int32)) else (if k = 13 then ((m_World_write (14 : Int32) (m_World_construct (13 : Int32) w)).1, (0 : Int32)) else (if k = 14 then ((sVa ((m_World_write (17 : Int32) ((m_World_write (16 : Int32) ((m_World_write (16 : Int32) w).1)).1)).1) (upd ((gVa ((m_World_write (17 : Int32) ((m_World_write (16 : Int32) ((m_World_write (16 : Int32) w).1)).1)).1))) (14 : Int32).toNatClampNeg (m_World_write (17 : Int32) ((m_World_write (16 : Int32) ((m_World_write (16 : Int32) w).1)).1)).2)), (0 : Int32)) else (if k = 15 then ((m_World_write (18 : Int32) (sSe w (gSw w))).1, (0 : Int32)) else (if k = 16 then ((sVa ((m_World_write (m_World_onlyNote (16 : Int32)) w).1) (upd ((gVa ((m_World_write (m_World_onlyNote (16 : Int32)) w).1))) (16 : Int32).toNatClampNeg (m_World_write (m_World_onlyNote (16 : Int32)) w).2)), (0 : Int32)) else (w, 0))))))))))))))))))
def m_tAs (gT : Int32 → Int32 → MW → MW × Int32) (k : Int32) (dp : Int32) (w : MW) : MW × Int32 := ((gT k dp w).1, ((gVa ((gT k dp w).1)) k.toNatClampNeg))
def m_Acts_isThere (k : Int32) : Int32 := (if k < 0 then (0 : Int32) else (if (30 : Int32) ≤ k then (0 : Int32) else (1 : Int32)))
def m_Acts_isOdd (k : Int32) : Int32 := (if (k &&& (1 : Int32)) = (1 : Int32) then (1 : Int32) else (0 : Int32))
def m_Acts_askedFirst (k : Int32) (a : Int32) : Int32 := (if k = (25 : Int32) then (if (m_Acts_isOdd a) = 0 then (-1 : Int32) else (11 : Int32)) else (fASKED k.toNatClampNeg))
def m_Acts_askedThen (k : Int32) : Int32 := (if k = 9 then (3 : Int32) else (if k = 18 then (13 : Int32) else (-1 : Int32)))
def m_Acts_told (k : Int32) (a : Int32) (w : MW) : MW × Int32 := (if k = 0 then ((sVa w (upd ((gVa w)) (0 : Int32).toNatClampNeg (((gVa w) (0 : Int32).toNatClampNeg) + a))), ((gVa (sVa w (upd ((gVa w)) (0 : Int32).toNatClampNeg (((gVa w) (0 : Int32).toNatClampNeg) + a)))) (0 : Int32).toNatClampNeg)) else (if k = 1 then (w, ((gVa w) (0 : Int32).toNatClampNeg)) else (if k = 2 then ((sVa w (upd ((gVa w)) (1 : Int32).toNatClampNeg a)), a) else (if k = 3 then (w, (70 : Int32)) else (if k = 4 then (w, ((gVa w) (2 : Int32).toNatClampNeg)) else (if k = 5 then (w, (5 : Int32)) else (if k = 6 then (w, (2 : Int32)) else (if k = 7 then (w, ((gVa w) (3 : Int32).toNatClampNeg)) else (if k = 8 then (w, ((gVa w) (3 : Int32).toNatClampNeg)) else (if k = 9 then (w, (((gVa w) (4 : Int32).toNatClampNeg) + ((gVa w) (3 : Int32).toNatClampNeg))) else (if k = 10 then (w, (1 : Int32)) else (if k = 11 then (w, ((gVa w) (6 : Int32).toNatClampNeg)) else (if k = 12 then (w, ((gVa w) (8 : Int32).toNatClampNeg)) else (if k = 13 then (w, (71 : Int32)) else (if k = 14 then (w, ((gVa w) (9 : Int32).toNatClampNeg)) else (if k = 15 then (w, (0 : Int32)) else (if k = 16 then (w, ((gVa w) (10 : Int32).toNatClampNeg)) else (if k = 17 then (w, ((gVa w) (11 : Int32).toNatClampNeg)) else (if k = 18 then (w, (20 : Int32)) else (if k = 19 then (if (m_Acts_isOdd a) = 0 then (w, ((3 : Int32) + ((gVa w) (14 : Int32).toNatClampNeg))) else (w, ((18 : Int32) + ((gVa w) (14 : Int32).toNatClampNeg)))) else (if k = 20 then (if (m_Acts_isOdd a) = 0 then (w, (0 : Int32)) else (w, (1 : Int32))) else (if k = 21 then (if (bI (gSe w)) = 0 then (w, (a + (1000 : Int32))) else (if 0 < a then (w, (a + (1000 : Int32))) else (w, (-103 : Int32)))) else (if k = 22 then (if (m_Acts_isOdd a) = 0 then ((sVa w (upd ((gVa w)) (16 : Int32).toNatClampNeg (((gVa w) (16 : Int32).toNatClampNeg) + (2 : Int32)))), ((gVa (sVa w (upd ((gVa w)) (16 : Int32).toNatClampNeg (((gVa w) (16 : Int32).toNatClampNeg) + (2 : Int32))))) (16 : Int32).toNatClampNeg)) else ((sVa w (upd ((gVa w)) (16 : Int32).toNatClampNeg (((gVa w) (16 : Int32).toNatClampNeg) + (3 : Int32)))), ((gVa (sVa w (upd ((gVa w)) (16 : Int32).toNatClampNeg (((gVa w) (16 : Int32).toNatClampNeg) + (3 : Int32))))) (16 : Int32).toNatClampNeg))) else (if k = 23 then (w, (20 : Int32)) else (if k = 24 then (w, ((gVa w) (1 : Int32).toNatClampNeg)) else (if k = 25 then (w, (18 : Int32)) else (if k = 26 then ((m_World_construct (2 : Int32) w), (1 : Int32)) else (if k = 27 then (w, ((gVa w) (1 : Int32).toNatClampNeg)) else (if k = 28 then (w, ((gVa w) (5 : Int32).toNatClampNeg)) else (if k = 29 then (w, (-104 : Int32)) else (w, 0)))))))))))))))))))))))))))))))
def m_Suite_isSlot (i : Int32) : Int32 := (if i < 0 then (0 : Int32) else (if (6 : Int32) ≤ i then (0 : Int32) else (1 : Int32)))
def m_Suite_isFilled (i : Int32) (sk : (Nat → Int32)) : Int32 := (if (m_Suite_isSlot i) = 0 then (0 : Int32) else (if (sk i.toNatClampNeg) = (-1 : Int32) then (0 : Int32) else (1 : Int32)))
def m_asserting_0 (b : Bool) : Int32 := (-2 : Int32)
def m_asserting_1 (b : Bool) (w : MW) : MW × Int32 := ((sSw w b), (0 : Int32))
def m_act_0 (k : Int32) (a : Int32) : Int32 := (if (m_Acts_isThere k) = 0 then (-1 : Int32) else (-2 : Int32))
def m_find_0 (k : Int32) (b : Bool) : Int32 := (if (m_Kinds_isThere k) = 0 then (-1 : Int32) else (-2 : Int32))
def m_keep_0 (i : Int32) (k : Int32) : Int32 := (if (m_Suite_isSlot i) = 0 then (-1 : Int32) else (if k < 0 then (-1 : Int32) else (if k < (6 : Int32) then (-2 : Int32) else (-1 : Int32))))
def m_isOf_0 (i : Int32) (k : Int32) (sk : (Nat → Int32)) : Int32 := (if (m_Suite_isFilled i sk) = 0 then (0 : Int32) else (if (m_Kinds_isThere k) = 0 then (0 : Int32) else (0 : Int32)))
def m_alike (i : Int32) (j : Int32) (sk : (Nat → Int32)) (sl : (Nat → Int32)) : Int32 := (if (m_Suite_isFilled i sk) = 0 then (0 : Int32) else (if (m_Suite_isFilled j sk) = 0 then (0 : Int32) else (if (sk i.toNatClampNeg) = (sk j.toNatClampNeg) then (if (sl i.toNatClampNeg) = (sl j.toNatClampNeg) then (1 : Int32) else (0 : Int32)) else (0 : Int32))))
def m_note_0 (i : Int32) : Int32 := (-2 : Int32)
def m_note_1 (i : Int32) (w : MW) : Int32 := (if (m_World_isKept i w) = 0 then (-1 : Int32) else ((gNo w) i.toNatClampNeg))
def m_count_0 (i : Int32) (be : Int32) : Int32 := (if i = 0 then be else (if i = (1 : Int32) then (-2 : Int32) else (if i = (2 : Int32) then (-2 : Int32) else (-1 : Int32))))
def m_count_1 (i : Int32) (be : Int32) (w : MW) : Int32 := (if i = 0 then be else (if i = (1 : Int32) then (gNu w) else (if i = (2 : Int32) then (gWr w) else (-1 : Int32))))
def m_begin_no (be : Int32) (b : Bool) : Int32 := (-1 : Int32)
def m_enter_no (i : Int32) (be : Int32) : Int32 := (if i < 0 then (-1 : Int32) else (if i < be then (0 : Int32) else (-1 : Int32)))
def m_enter_ok (i : Int32) (be : Int32) (f : (Nat → Option Nat)) (a : Nat) : Value × Int32 := ((.ref a), (0 : Int32))
theorem kThere_in {k : Int32} (h : ¬ m_Kinds_isThere k = 0) : vp_in k 17 := by
  unfold m_Kinds_isThere at h
  by_cases a : k < 0
  · exact absurd (if_pos a) h
  · by_cases b : (17 : Int32) ≤ k
    · exact absurd ((if_neg a).trans (if_pos b)) h
    · exact in_r (by decide) a b
theorem aThere_in {k : Int32} (h : ¬ m_Acts_isThere k = 0) : vp_in k 30 := by
  unfold m_Acts_isThere at h
  by_cases a : k < 0
  · exact absurd (if_pos a) h
  · by_cases b : (30 : Int32) ≤ k
    · exact absurd ((if_neg a).trans (if_pos b)) h
    · exact in_r (by decide) a b
theorem slot_in {k : Int32} (h : ¬ m_Suite_isSlot k = 0) : vp_in k 6 := by
  unfold m_Suite_isSlot at h
  by_cases a : k < 0
  · exact absurd (if_pos a) h
  · by_cases b : (6 : Int32) ≤ k
    · exact absurd ((if_neg a).trans (if_pos b)) h
    · exact in_r (by decide) a b
theorem ite_okv {c : Nat} {p : Prop} {inst : Decidable p} {a b : MW} (ha : p → ok c a) (hb : ¬ p → ok c b) : ok c (@ite _ p inst a b) := by
  by_cases h : p
  · rw [if_pos h]; exact ha h
  · rw [if_neg h]; exact hb h
theorem ok_write {c : Nat} {w : MW} {n : Int32} (h : ok (c + 1) w) : ok c (m_World_write n w).1 := by
  have z := untN_0 (gSt w) 17
  have h1 := h.1
  have h2 := h.2
  unfold unt at h2
  have e := inc_toInt h1 (by omega)
  unfold m_World_write
  split
  · refine ⟨?_, ?_⟩
    · show 0 ≤ (gWr w + 1).toInt
      omega
    · show (gWr w + 1).toInt + 8 * untN (gSt w) 17 + (c : Int) ≤ 1073741824
      omega
  · refine ⟨?_, ?_⟩
    · show 0 ≤ (gWr w + 1).toInt
      omega
    · show (gWr w + 1).toInt + 8 * untN (gSt w) 17 + (c : Int) ≤ 1073741824
      omega
theorem ok_construct {c : Nat} {w : MW} {k : Int32} (h : ok (c + 4) w) : ok c (m_World_construct k w) := (ite_okv (fun _ => (ok_mono (ok_write (ok_write (ok_write (ok_write h)))) (by omega))) (fun _ => (ite_okv (fun _ => (ok_mono (ok_write (ok_write (ok_write (ok_write h)))) (by omega))) (fun _ => (ite_okv (fun _ => (ok_mono (ok_write h) (by omega))) (fun _ => (ite_okv (fun _ => (ok_mono (ok_write h) (by omega))) (fun _ => (ok_mono h (by omega))))))))))

theorem fill_in {i : Int32} {sk : Nat → Int32} (h : ¬ m_Suite_isFilled i sk = 0) : vp_in i 6 := by
  unfold m_Suite_isFilled at h
  by_cases a : m_Suite_isSlot i = 0
  · exact absurd (if_pos a) h
  · exact slot_in a
theorem kept_in {i : Int32} {w : MW} (h : ¬ m_World_isKept i w = 0) : vp_in i 64 := by
  unfold m_World_isKept at h
  by_cases a : i < 0
  · exact absurd (if_pos a) h
  · by_cases b : gWr w ≤ i
    · exact absurd ((if_neg a).trans (if_pos b)) h
    · by_cases d : (64 : Int32) ≤ i
      · exact absurd ((if_neg a).trans ((if_neg b).trans (if_pos d))) h
      · exact in_r (by decide) a d
theorem dom17 {k : Int32} (h : vp_in k 17) (h0 : ¬ k = 0) (h1 : ¬ k = 1) (h2 : ¬ k = 2) (h3 : ¬ k = 3) (h4 : ¬ k = 4) (h5 : ¬ k = 5) (h6 : ¬ k = 6) (h7 : ¬ k = 7) (h8 : ¬ k = 8) (h9 : ¬ k = 9) (h10 : ¬ k = 10) (h11 : ¬ k = 11) (h12 : ¬ k = 12) (h13 : ¬ k = 13) (h14 : ¬ k = 14) (h15 : ¬ k = 15) (h16 : ¬ k = 16) : False := by
  rw [vp_in_iff] at h
  have n0 := lv_neT h0 (a := 0) (by decide)
  have n1 := lv_neT h1 (a := 1) (by decide)
  have n2 := lv_neT h2 (a := 2) (by decide)
  have n3 := lv_neT h3 (a := 3) (by decide)
  have n4 := lv_neT h4 (a := 4) (by decide)
  have n5 := lv_neT h5 (a := 5) (by decide)
  have n6 := lv_neT h6 (a := 6) (by decide)
  have n7 := lv_neT h7 (a := 7) (by decide)
  have n8 := lv_neT h8 (a := 8) (by decide)
  have n9 := lv_neT h9 (a := 9) (by decide)
  have n10 := lv_neT h10 (a := 10) (by decide)
  have n11 := lv_neT h11 (a := 11) (by decide)
  have n12 := lv_neT h12 (a := 12) (by decide)
  have n13 := lv_neT h13 (a := 13) (by decide)
  have n14 := lv_neT h14 (a := 14) (by decide)
  have n15 := lv_neT h15 (a := 15) (by decide)
  have n16 := lv_neT h16 (a := 16) (by decide)
  omega
theorem dom30 {k : Int32} (h : vp_in k 30) (h0 : ¬ k = 0) (h1 : ¬ k = 1) (h2 : ¬ k = 2) (h3 : ¬ k = 3) (h4 : ¬ k = 4) (h5 : ¬ k = 5) (h6 : ¬ k = 6) (h7 : ¬ k = 7) (h8 : ¬ k = 8) (h9 : ¬ k = 9) (h10 : ¬ k = 10) (h11 : ¬ k = 11) (h12 : ¬ k = 12) (h13 : ¬ k = 13) (h14 : ¬ k = 14) (h15 : ¬ k = 15) (h16 : ¬ k = 16) (h17 : ¬ k = 17) (h18 : ¬ k = 18) (h19 : ¬ k = 19) (h20 : ¬ k = 20) (h21 : ¬ k = 21) (h22 : ¬ k = 22) (h23 : ¬ k = 23) (h24 : ¬ k = 24) (h25 : ¬ k = 25) (h26 : ¬ k = 26) (h27 : ¬ k = 27) (h28 : ¬ k = 28) (h29 : ¬ k = 29) : False := by
  rw [vp_in_iff] at h
  have n0 := lv_neT h0 (a := 0) (by decide)
  have n1 := lv_neT h1 (a := 1) (by decide)
  have n2 := lv_neT h2 (a := 2) (by decide)
  have n3 := lv_neT h3 (a := 3) (by decide)
  have n4 := lv_neT h4 (a := 4) (by decide)
  have n5 := lv_neT h5 (a := 5) (by decide)
  have n6 := lv_neT h6 (a := 6) (by decide)
  have n7 := lv_neT h7 (a := 7) (by decide)
  have n8 := lv_neT h8 (a := 8) (by decide)
  have n9 := lv_neT h9 (a := 9) (by decide)
  have n10 := lv_neT h10 (a := 10) (by decide)
  have n11 := lv_neT h11 (a := 11) (by decide)
  have n12 := lv_neT h12 (a := 12) (by decide)
  have n13 := lv_neT h13 (a := 13) (by decide)
  have n14 := lv_neT h14 (a := 14) (by decide)
  have n15 := lv_neT h15 (a := 15) (by decide)
  have n16 := lv_neT h16 (a := 16) (by decide)
  have n17 := lv_neT h17 (a := 17) (by decide)
  have n18 := lv_neT h18 (a := 18) (by decide)
  have n19 := lv_neT h19 (a := 19) (by decide)
  have n20 := lv_neT h20 (a := 20) (by decide)
  have n21 := lv_neT h21 (a := 21) (by decide)
  have n22 := lv_neT h22 (a := 22) (by decide)
  have n23 := lv_neT h23 (a := 23) (by decide)
  have n24 := lv_neT h24 (a := 24) (by decide)
  have n25 := lv_neT h25 (a := 25) (by decide)
  have n26 := lv_neT h26 (a := 26) (by decide)
  have n27 := lv_neT h27 (a := 27) (by decide)
  have n28 := lv_neT h28 (a := 28) (by decide)
  have n29 := lv_neT h29 (a := 29) (by decide)
  omega

theorem ite_ok {c : Nat} {p : Prop} {inst : Decidable p} {a b : MW × Int32} (ha : p → ok c a.1) (hb : ¬ p → ok c b.1) : ok c (@ite _ p inst a b).1 := by
  by_cases h : p
  · rw [if_pos h]; exact ha h
  · rw [if_neg h]; exact hb h
theorem le34 {x : Int32} (h : x ≤ 34) : x.toInt ≤ 34 := by
  have := Int32.le_iff_toInt_le.mp h
  rw [show (34 : Int32).toInt = 34 from by decide] at this
  exact this
def pRe (n : Nat) (dp : Int32) : Prop := 0 ≤ dp.toInt ∧ dp.toInt ≤ 35 ∧ 38 ≤ (n : Int) + dp.toInt
theorem pRe_step {n : Nat} {dp : Int32} (h : pRe (n + 1) dp) (h2 : dp ≤ 34) : pRe n (dp + 1) := by
  obtain ⟨a, b, d⟩ := h
  have e := inc_toInt a (by omega)
  have f := le34 h2
  exact ⟨by omega, by omega, by omega⟩
theorem pRe_top : pRe 40 0 := ⟨by decide, by decide, by decide⟩
def pAt (n : Nat) (dp : Int32) (w : MW) : Prop := 0 ≤ dp.toInt ∧ dp.toInt ≤ 35 ∧ 125 ≤ (n : Int) + 3 * dp.toInt ∧ ok 0 w
def pAb (n : Nat) (dp : Int32) (w : MW) : Prop := 0 ≤ dp.toInt ∧ dp.toInt ≤ 35 ∧ 127 ≤ (n : Int) + 3 * dp.toInt ∧ ok 0 w
def pIf (n : Nat) (dp : Int32) (w : MW) : Prop := 0 ≤ dp.toInt ∧ dp.toInt ≤ 35 ∧ 126 ≤ (n : Int) + 3 * dp.toInt ∧ ok 0 w
def pDe (n : Nat) (k dp : Int32) (w : MW) : Prop := 0 ≤ dp.toInt ∧ dp.toInt ≤ 35 ∧ 127 ≤ (n : Int) + 3 * dp.toInt ∧ vp_in k 17 ∧ ok 8 w
def pAs (n : Nat) (k dp : Int32) (w : MW) : Prop := 0 ≤ dp.toInt ∧ dp.toInt ≤ 35 ∧ 126 ≤ (n : Int) + 3 * dp.toInt ∧ vp_in k 17 ∧ ok 0 w
theorem pG_Ab {n : Nat} {dp : Int32} {w w2 : MW} (h : pAt (n + 1) dp w) (h2 : dp ≤ 34) (h3 : ok 0 w2) : pAb n (dp + 1) w2 := by
  obtain ⟨a, b, d, -⟩ := h
  have e := inc_toInt a (by omega)
  have f := le34 h2
  exact ⟨by omega, by omega, by omega, h3⟩
theorem pG_De {n : Nat} {k dp : Int32} {w w2 : MW} (h : pAt (n + 1) dp w) (h2 : dp ≤ 34) (hk : vp_in k 17) (h3 : ok 8 w2) : pDe n k (dp + 1) w2 := by
  obtain ⟨a, b, d, -⟩ := h
  have e := inc_toInt a (by omega)
  have f := le34 h2
  exact ⟨by omega, by omega, by omega, hk, h3⟩
theorem pG_At {n : Nat} {dp : Int32} {w w2 : MW} (h : pAb (n + 1) dp w) (h3 : ok 0 w2) : pAt n dp w2 := by
  obtain ⟨a, b, d, -⟩ := h
  exact ⟨by omega, by omega, by omega, h3⟩
theorem pG_If {n : Nat} {dp : Int32} {w w2 : MW} (h : pAb (n + 1) dp w) (h3 : ok 0 w2) : pIf n dp w2 := by
  obtain ⟨a, b, d, -⟩ := h
  exact ⟨by omega, by omega, by omega, h3⟩
theorem pG_At2 {n : Nat} {dp : Int32} {w w2 : MW} (h : pIf (n + 1) dp w) (h2 : dp ≤ 34) (h3 : ok 0 w2) : pAt n (dp + 1) w2 := by
  obtain ⟨a, b, d, -⟩ := h
  have e := inc_toInt a (by omega)
  have f := le34 h2
  exact ⟨by omega, by omega, by omega, h3⟩
theorem pG_If2 {n : Nat} {dp : Int32} {w w2 : MW} (h : pIf (n + 1) dp w) (h2 : dp ≤ 34) (h3 : ok 0 w2) : pIf n (dp + 1) w2 := by
  obtain ⟨a, b, d, -⟩ := h
  have e := inc_toInt a (by omega)
  have f := le34 h2
  exact ⟨by omega, by omega, by omega, h3⟩
theorem pG_As {n : Nat} {k j dp : Int32} {w w2 : MW} (h : pDe (n + 1) j dp w) (hk : vp_in k 17) (h3 : ok 0 w2) : pAs n k dp w2 := by
  obtain ⟨a, b, d, -, -⟩ := h
  exact ⟨by omega, by omega, by omega, hk, h3⟩
theorem pG_At3 {n : Nat} {j dp : Int32} {w w2 : MW} (h : pAs (n + 1) j dp w) (h3 : ok 0 w2) : pAt n dp w2 := by
  obtain ⟨a, b, d, -, -⟩ := h
  exact ⟨by omega, by omega, by omega, h3⟩
abbrev FT : Type := Int32 → Int32 → MW → MW × Int32
abbrev FTv : Type := Int32 → Int32 → MW → MW
def okF (f : FT) : Prop := ∀ (k dp : Int32) (w : MW) (c : Nat), ok c w → ok c (f k dp w).1
def okF8 (f : FT) : Prop := ∀ (k dp : Int32) (w : MW) (c : Nat), ok (c + 8) w → ok c (f k dp w).1
def okFv (f : FTv) : Prop := ∀ (k dp : Int32) (w : MW) (c : Nat), ok c w → ok c (f k dp w)
def KRe (l : Launch) (D : va_G) (cI cW : ClassId) (n : Nat) (g : Int32 → Int32 → Int32 → Int32) : Prop := ∀ (k wd dp : Int32), pRe n dp → CM l y_Kinds_reaches b_Kinds_reaches 4 .boolean (rmN n) D (tyC cI cW) [.int k, .int wd, .int dp] [] (g k wd dp) []
def KAt (l : Launch) (D : va_G) (cI cW : ClassId) (q qn qv qs n : Nat) (f : FT) : Prop := ∀ (k dp : Int32) (w : MW), pAt n dp w → CM l y_World_initialiseAt b_World_initialiseAt 4 .int (rmN n) D (tyC cI cW) [.ref q, .int k, .int dp] (W4 cI q qn qv qs w) (f k dp w).2 (W4 cI q qn qv qs (f k dp w).1)
def KAb (l : Launch) (D : va_G) (cI cW : ClassId) (q qn qv qs n : Nat) (f : FT) : Prop := ∀ (k dp : Int32) (w : MW), pAb n dp w → CM l y_World_initialiseAbove b_World_initialiseAbove 4 .int (rmN n) D (tyC cI cW) [.ref q, .int k, .int dp] (W4 cI q qn qv qs w) (f k dp w).2 (W4 cI q qn qv qs (f k dp w).1)
def KIf (l : Launch) (D : va_G) (cI cW : ClassId) (q qn qv qs n : Nat) (f : FTv) : Prop := ∀ (k dp : Int32) (w : MW), pIf n dp w → CMv l y_World_initialiseInterfaces b_World_initialiseInterfaces 4 (rmN n) D (tyC cI cW) [.ref q, .int k, .int dp] (W4 cI q qn qv qs w) (W4 cI q qn qv qs (f k dp w))
def KDe (l : Launch) (D : va_G) (cI cW : ClassId) (q qn qv qs n : Nat) (f : FT) : Prop := ∀ (k dp : Int32) (w : MW), pDe n k dp w → CM l y_World_runDeeds b_World_runDeeds 3 .int (rmN n) D (tyC cI cW) [.ref q, .int k, .int dp] (W4 cI q qn qv qs w) (f k dp w).2 (W4 cI q qn qv qs (f k dp w).1)
def KAs (l : Launch) (D : va_G) (cI cW : ClassId) (q qn qv qs n : Nat) (f : FT) : Prop := ∀ (k dp : Int32) (w : MW), pAs n k dp w → CM l y_World_ask b_World_ask 3 .int (rmN n) D (tyC cI cW) [.ref q, .int k, .int dp] (W4 cI q qn qv qs w) (f k dp w).2 (W4 cI q qn qv qs (f k dp w).1)
def mRe : Nat → Int32 → Int32 → Int32 → Int32
  | 0 => fun _ _ _ => 0
  | n + 1 => m_Kinds_reaches (mRe n)
abbrev GF : Type := FT × FT × FTv × FT × FT
def mG : Nat → GF
  | 0 => (fun _ _ w => (w, 0), fun _ _ w => (w, 0), fun _ _ w => w, fun _ _ w => (w, 0), fun _ _ w => (w, 0))
  | n + 1 => (m_tAt (mG n).2.1 (mG n).2.2.2.1, m_tAb (mG n).1 (mG n).2.2.1, m_tIf (mG n).2.2.1 (mG n).1, m_tDe (mG n).2.2.2.2, m_tAs (mG n).1)
def mAt (k : Int32) (w : MW) : MW × Int32 := (mG 130).1 k 0 w
theorem mRe_01 : ∀ (n : Nat) (k wd dp : Int32), mRe n k wd dp = 0 ∨ mRe n k wd dp = 1 := by
  intro n
  cases n with
  | zero => exact fun _ _ _ => Or.inl rfl
  | succ n =>
    intro k wd dp
    show m_Kinds_reaches (mRe n) k wd dp = 0 ∨ m_Kinds_reaches (mRe n) k wd dp = 1
    unfold m_Kinds_reaches
    repeat' (first | exact Or.inl rfl | exact Or.inr rfl | split)
theorem okAt {gA gD : FT} (hA : okF gA) (hD : okF8 gD) : okF (m_tAt gA gD) := by
  intro k dp w c h
  unfold m_tAt
  by_cases c1 : dp ≤ (34 : Int32)
  · rw [if_pos c1]
    by_cases c2 : m_Kinds_isThere k = 0
    · rw [if_pos c2]; exact h
    · rw [if_neg c2]
      by_cases c3 : gSt w k.toNatClampNeg = 3
      · rw [if_pos c3]; exact h
      · rw [if_neg c3]
        by_cases c4 : gSt w k.toNatClampNeg = 0
        · rw [if_pos c4]
          have g1 := ok_st1 h (kThere_in c2) c4
          have g2 := hA k (dp + 1) _ _ g1
          have g3 := hD k (dp + 1) _ _ g2
          split
          · split
            · exact ok_st2 g3 (by decide)
            · exact ok_st2 g3 (by decide)
          · exact ok_st2 (ok_mono g2 (by omega)) (by decide)
        · rw [if_neg c4]; exact h
  · rw [if_neg c1]; exact h
set_option maxHeartbeats 4000000 in
theorem okAb {gT : FT} {gI : FTv} (okT : okF gT) (okI : okFv gI) : okF (m_tAb gT gI) := fun k dp w c h => (ite_ok (fun _ => (ite_ok (fun _ => (ok_mono (okI k dp ((gT (m_Kinds_up k) dp w).1) _ (okT (m_Kinds_up k) dp w _ h)) (by omega))) (fun _ => (ok_mono (okT (m_Kinds_up k) dp w _ h) (by omega))))) (fun _ => (ok_mono h (by omega))))
set_option maxHeartbeats 4000000 in
theorem okIf {gI : FTv} {gT : FT} (okI : okFv gI) (okT : okF gT) : okFv (m_tIf gI gT) := fun k dp w c h => (ite_okv (fun _ => (ite_okv (fun _ => (ite_okv (fun _ => (ite_okv (fun _ => (ok_mono (okI (5 : Int32) (dp + (1 : Int32)) (gI (3 : Int32) (dp + (1 : Int32)) w) _ (okI (3 : Int32) (dp + (1 : Int32)) w _ h)) (by omega))) (fun _ => (ok_mono (okT (5 : Int32) (dp + (1 : Int32)) (gI (5 : Int32) (dp + (1 : Int32)) (gI (3 : Int32) (dp + (1 : Int32)) w)) _ (okI (5 : Int32) (dp + (1 : Int32)) (gI (3 : Int32) (dp + (1 : Int32)) w) _ (okI (3 : Int32) (dp + (1 : Int32)) w _ h))) (by omega))))) (fun _ => (ite_okv (fun _ => (ok_mono (okI (5 : Int32) (dp + (1 : Int32)) ((gT (3 : Int32) (dp + (1 : Int32)) (gI (3 : Int32) (dp + (1 : Int32)) w)).1) _ (okT (3 : Int32) (dp + (1 : Int32)) (gI (3 : Int32) (dp + (1 : Int32)) w) _ (okI (3 : Int32) (dp + (1 : Int32)) w _ h))) (by omega))) (fun _ => (ok_mono (okT (5 : Int32) (dp + (1 : Int32)) (gI (5 : Int32) (dp + (1 : Int32)) ((gT (3 : Int32) (dp + (1 : Int32)) (gI (3 : Int32) (dp + (1 : Int32)) w)).1)) _ (okI (5 : Int32) (dp + (1 : Int32)) ((gT (3 : Int32) (dp + (1 : Int32)) (gI (3 : Int32) (dp + (1 : Int32)) w)).1) _ (okT (3 : Int32) (dp + (1 : Int32)) (gI (3 : Int32) (dp + (1 : Int32)) w) _ (okI (3 : Int32) (dp + (1 : Int32)) w _ h)))) (by omega))))))) (fun _ => (ite_okv (fun _ => (ite_okv (fun _ => (ok_mono (okI (3 : Int32) (dp + (1 : Int32)) w _ h) (by omega))) (fun _ => (ok_mono (okT (3 : Int32) (dp + (1 : Int32)) (gI (3 : Int32) (dp + (1 : Int32)) w) _ (okI (3 : Int32) (dp + (1 : Int32)) w _ h)) (by omega))))) (fun _ => (ite_okv (fun _ => (ite_okv (fun _ => (ok_mono (okI (3 : Int32) (dp + (1 : Int32)) w _ h) (by omega))) (fun _ => (ok_mono (okT (3 : Int32) (dp + (1 : Int32)) (gI (3 : Int32) (dp + (1 : Int32)) w) _ (okI (3 : Int32) (dp + (1 : Int32)) w _ h)) (by omega))))) (fun _ => (ite_okv (fun _ => (ite_okv (fun _ => (ok_mono (okI (4 : Int32) (dp + (1 : Int32)) w _ h) (by omega))) (fun _ => (ok_mono (okT (4 : Int32) (dp + (1 : Int32)) (gI (4 : Int32) (dp + (1 : Int32)) w) _ (okI (4 : Int32) (dp + (1 : Int32)) w _ h)) (by omega))))) (fun _ => (ok_mono h (by omega))))))))))) (fun _ => (ok_mono h (by omega))))
set_option maxHeartbeats 4000000 in
theorem okDe {gS : FT} (okS : okF gS) : okF8 (m_tDe gS) := fun k dp w c h => (ite_ok (fun _ => (ok_mono (ok_write (ok_write h)) (by omega))) (fun _ => (ite_ok (fun _ => (ok_mono (okS (0 : Int32) dp ((m_World_write (2 : Int32) w).1) _ (ok_write h)) (by omega))) (fun _ => (ite_ok (fun _ => (ok_mono (ok_write (ok_write h)) (by omega))) (fun _ => (ite_ok (fun _ => (ok_mono (ok_write h) (by omega))) (fun _ => (ite_ok (fun _ => (ok_mono (ok_write h) (by omega))) (fun _ => (ite_ok (fun _ => (ok_mono (ok_write h) (by omega))) (fun _ => (ite_ok (fun _ => (ok_mono (ok_write h) (by omega))) (fun _ => (ite_ok (fun _ => (ok_mono (ok_write h) (by omega))) (fun _ => (ite_ok (fun _ => (ok_mono (ok_write h) (by omega))) (fun _ => (ite_ok (fun _ => (ok_mono (ok_write h) (by omega))) (fun _ => (ite_ok (fun _ => (ok_mono (ok_write (okS (11 : Int32) dp w _ h)) (by omega))) (fun _ => (ite_ok (fun _ => (ok_mono (ok_write (okS (10 : Int32) dp w _ h)) (by omega))) (fun _ => (ite_ok (fun _ => (ok_mono (ok_write h) (by omega))) (fun _ => (ite_ok (fun _ => (ok_mono (ok_write (ok_construct h)) (by omega))) (fun _ => (ite_ok (fun _ => (ok_mono (ok_write (ok_write (ok_write h))) (by omega))) (fun _ => (ite_ok (fun _ => (ok_mono (ok_write h) (by omega))) (fun _ => (ite_ok (fun _ => (ok_mono (ok_write h) (by omega))) (fun _ => (ok_mono h (by omega))))))))))))))))))))))))))))))))))))
theorem okAs {gT : FT} (hT : okF gT) : okF (m_tAs gT) := fun k dp w c h => hT k dp w c h
theorem okG : ∀ n : Nat, okF (mG n).1 ∧ okF (mG n).2.1 ∧ okFv (mG n).2.2.1 ∧ okF8 (mG n).2.2.2.1 ∧ okF (mG n).2.2.2.2 := by
  intro n
  induction n with
  | zero => exact ⟨fun _ _ _ _ h => h, fun _ _ _ _ h => h, fun _ _ _ _ h => h, fun _ _ _ _ h => ok_mono h (by omega), fun _ _ _ _ h => h⟩
  | succ n ih => exact ⟨okAt ih.2.1 ih.2.2.2.1, okAb ih.1 ih.2.2.1, okIf ih.2.2.1 ih.1, okDe ih.2.2.2.2, okAs ih.1⟩
theorem ok_mAt {c : Nat} {k : Int32} {w : MW} (h : ok c w) : ok c (mAt k w).1 := (okG 130).1 k 0 w c h

def m_Kinds_isWithin (k : Int32) (wd : Int32) : Int32 := (mRe 40 k wd 0)
def m_World_initialise (k : Int32) (w : MW) : MW × Int32 := ((mAt k w).1, (mAt k w).2)
def m_Acts_outcome (k : Int32) (a : Int32) (w : MW) : MW × Int32 := (if (m_World_initialise (m_Acts_askedFirst k a) w).2 = 0 then (if (m_World_initialise (m_Acts_askedThen k) ((m_World_initialise (m_Acts_askedFirst k a) w).1)).2 = 0 then ((m_Acts_told k a ((m_World_initialise (m_Acts_askedThen k) ((m_World_initialise (m_Acts_askedFirst k a) w).1)).1)).1, (m_Acts_told k a ((m_World_initialise (m_Acts_askedThen k) ((m_World_initialise (m_Acts_askedFirst k a) w).1)).1)).2) else ((m_World_initialise (m_Acts_askedThen k) ((m_World_initialise (m_Acts_askedFirst k a) w).1)).1, (m_World_initialise (m_Acts_askedThen k) ((m_World_initialise (m_Acts_askedFirst k a) w).1)).2)) else ((m_World_initialise (m_Acts_askedFirst k a) w).1, (m_World_initialise (m_Acts_askedFirst k a) w).2))
def m_act_1 (k : Int32) (a : Int32) (w : MW) : MW × Int32 := (if (m_Acts_isThere k) = 0 then (w, (-1 : Int32)) else ((m_Acts_outcome k a w).1, (m_Acts_outcome k a w).2))
def m_find_1 (k : Int32) (b : Bool) (w : MW) : MW × Int32 := (if (m_Kinds_isThere k) = 0 then (w, (-1 : Int32)) else (if (bI b) = 0 then (w, (0 : Int32)) else ((m_World_initialise k w).1, (m_World_initialise k w).2)))
def m_keep_1 (i : Int32) (k : Int32) (w : MW) (sk : (Nat → Int32)) (sl : (Nat → Int32)) : MW × (Nat → Int32) × (Nat → Int32) × Int32 := (if (m_Suite_isSlot i) = 0 then (w, sk, sl, (-1 : Int32)) else (if k < 0 then (w, sk, sl, (-1 : Int32)) else (if k < (6 : Int32) then ((m_World_construct (fKEPT k.toNatClampNeg) ((m_World_initialise (fKEPT k.toNatClampNeg) w).1)), (upd (sk) i.toNatClampNeg (fKEPT k.toNatClampNeg)), (upd (sl) i.toNatClampNeg (gNu (m_World_construct (fKEPT k.toNatClampNeg) ((m_World_initialise (fKEPT k.toNatClampNeg) w).1)))), (0 : Int32)) else (w, sk, sl, (-1 : Int32)))))
def m_isOf_1 (i : Int32) (k : Int32) (sk : (Nat → Int32)) (sl : (Nat → Int32)) (w : MW) : Int32 := (if (m_Suite_isFilled i sk) = 0 then (0 : Int32) else (if (m_Kinds_isThere k) = 0 then (0 : Int32) else (if (sl i.toNatClampNeg) = (gNu w) then (if (m_Kinds_isWithin (sk i.toNatClampNeg) k) = 0 then (0 : Int32) else (1 : Int32)) else (0 : Int32))))
theorem ok_ini {c : Nat} {k : Int32} {w : MW} (h : ok c w) : ok c (m_World_initialise k w).1 := ok_mAt h

-- WORLDS IN ANY ORDER
theorem P_perm {D : va_G} {cl : List vw_C} {ws ws' : va_W} {H : Heap} (h : List.Perm ws ws') (hP : va_P D cl ws H) : va_P D cl ws' H := fun k q hq => by
  have hm : q ∈ ws := h.mem_iff.mpr (List.mem_of_getElem? hq)
  obtain ⟨i, hi⟩ := List.getElem?_of_mem hm
  exact hP i q hi
theorem D_pw {A : Nat → Prop} {ws : va_W} : va_D A ws ↔ ws.Pairwise (fun p q => p.1 ≠ q.1) ∧ ∀ q ∈ ws, A q.1 := by
  constructor
  · intro h
    refine ⟨List.pairwise_iff_getElem.mpr (fun i j hi hj hij e => ?_), fun q hq => ?_⟩
    · have := h.1 i j _ _ (List.getElem?_eq_getElem hi) (List.getElem?_eq_getElem hj) e
      omega
    · obtain ⟨i, hi⟩ := List.getElem?_of_mem hq
      exact h.2 i q hi
  · intro h
    refine ⟨fun i j p q hp hq e => ?_, fun k q hk => h.2 q (List.mem_of_getElem? hk)⟩
    obtain ⟨hi, rfl⟩ := List.getElem?_eq_some_iff.mp hp
    obtain ⟨hj, rfl⟩ := List.getElem?_eq_some_iff.mp hq
    rcases Nat.lt_trichotomy i j with g | g | g
    · exact absurd e (List.pairwise_iff_getElem.mp h.1 i j hi hj g)
    · exact g
    · exact absurd e.symm (List.pairwise_iff_getElem.mp h.1 j i hj hi g)
theorem D_perm {A : Nat → Prop} {ws ws' : va_W} (h : List.Perm ws ws') (hD : va_D A ws) : va_D A ws' := by
  rw [D_pw] at hD ⊢
  exact ⟨h.pairwise hD.1 (fun h => h.symm), fun q hq => hD.2 q (h.mem_iff.mpr hq)⟩
abbrev AD : Type := Nat → Nat × Nat × Nat × Nat
abbrev Wj (cI : ClassId) (ad : AD) (ws : Nat → MW) (j : Nat) : va_W := W4 cI (ad j).1 (ad j).2.1 (ad j).2.2.1 (ad j).2.2.2 (ws j)
/-- the worlds 0 .. n - 1 -/
def WS (cI : ClassId) (ad : AD) (ws : Nat → MW) : Nat → va_W
  | 0 => []
  | n + 1 => Wj cI ad ws n ++ WS cI ad ws n
/-- all but world j -/
def WX (cI : ClassId) (ad : AD) (ws : Nat → MW) (j : Nat) : Nat → va_W
  | 0 => []
  | n + 1 => (if n = j then [] else Wj cI ad ws n) ++ WX cI ad ws j n
theorem WS_out {cI : ClassId} {ad ad' : AD} {ws ws' : Nat → MW} {n : Nat} (h : ∀ j, j < n → ad' j = ad j ∧ ws' j = ws j) : WS cI ad' ws' n = WS cI ad ws n := by
  induction n with
  | zero => rfl
  | succ n ih =>
    show Wj cI ad' ws' n ++ WS cI ad' ws' n = Wj cI ad ws n ++ WS cI ad ws n
    rw [ih (fun j hj => h j (by omega))]
    unfold Wj
    rw [(h n (by omega)).1, (h n (by omega)).2]
theorem WX_same {cI : ClassId} {ad : AD} {ws ws' : Nat → MW} {j : Nat} (n : Nat) (h : ∀ i, i ≠ j → ws' i = ws i) : WX cI ad ws' j n = WX cI ad ws j n := by
  induction n with
  | zero => rfl
  | succ n ih =>
    show (if n = j then [] else Wj cI ad ws' n) ++ WX cI ad ws' j n = (if n = j then [] else Wj cI ad ws n) ++ WX cI ad ws j n
    rw [ih]
    by_cases e : n = j
    · rw [if_pos e, if_pos e]
    · rw [if_neg e, if_neg e]
      unfold Wj
      rw [h n e]
theorem WX_out {cI : ClassId} {ad : AD} {ws : Nat → MW} {j : Nat} (n : Nat) (h : n ≤ j) : WX cI ad ws j n = WS cI ad ws n := by
  induction n with
  | zero => rfl
  | succ n ih =>
    show (if n = j then [] else Wj cI ad ws n) ++ WX cI ad ws j n = Wj cI ad ws n ++ WS cI ad ws n
    rw [ih (by omega), if_neg (by omega)]
theorem WS_cut {cI : ClassId} {ad : AD} {ws : Nat → MW} {j : Nat} (n : Nat) (h : j < n) : List.Perm (WS cI ad ws n) (Wj cI ad ws j ++ WX cI ad ws j n) := by
  induction n with
  | zero => omega
  | succ n ih =>
    show List.Perm (Wj cI ad ws n ++ WS cI ad ws n) (Wj cI ad ws j ++ ((if n = j then [] else Wj cI ad ws n) ++ WX cI ad ws j n))
    by_cases e : n = j
    · subst e
      rw [if_pos rfl, WX_out n (Nat.le_refl _)]
      exact List.Perm.refl _
    · rw [if_neg e]
      refine ((ih (by omega)).append_left (Wj cI ad ws n)).trans ?_
      rw [← List.append_assoc, ← List.append_assoc]
      exact List.Perm.append_right _ List.perm_append_comm

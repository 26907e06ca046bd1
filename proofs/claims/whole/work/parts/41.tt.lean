-- THE CLASS'S STEP, WITH A WORLD AT WORK OR NONE
def Xw (cur : Option Nat) (ws : Nat → MW) (g : MW → MW) : Nat → MW :=
  match cur with
  | none => ws
  | some j => upW ws j (g (ws j))
def Xr (cur : Option Nat) (ws : Nat → MW) (r0 : Int32) (g : MW → Int32) : Int32 :=
  match cur with
  | none => r0
  | some j => g (ws j)
def Xk (cur : Option Nat) (ws : Nat → MW) (sk : Nat → Int32) (g : MW → Nat → Int32) : Nat → Int32 :=
  match cur with
  | none => sk
  | some j => g (ws j)
theorem upW_id {ws : Nat → MW} {j : Nat} : upW ws j (ws j) = ws := by
  funext i
  unfold upW
  split
  · rename_i e
    rw [e]
  · rfl
theorem TT_asserting {c n : Nat} {cur : Option Nat} {ws : Nat → MW} {sk sl : Nat → Int32} {md : MM} {b : Bool} (h : SR (c + 4) n cur ws sk sl md) : Xr cur ws (m_asserting_0 b) (fun w => (m_asserting_1 b w).2) = (m_M_asserting b md).2 ∧ SR c n cur (Xw cur ws (fun w => (m_asserting_1 b w).1)) sk sl (m_M_asserting b md).1 := by
  cases cur with
  | none => rw [T_asserting_0 h]; exact ⟨rfl, SR_mono h (by omega)⟩
  | some j => exact T_asserting_1 h
theorem TT_act {c n : Nat} {cur : Option Nat} {ws : Nat → MW} {sk sl : Nat → Int32} {md : MM} {k a : Int32} (h : SR (c + 4) n cur ws sk sl md) : Xr cur ws (m_act_0 k a) (fun w => (m_act_1 k a w).2) = (m_M_act k a md).2 ∧ SR c n cur (Xw cur ws (fun w => (m_act_1 k a w).1)) sk sl (m_M_act k a md).1 := by
  cases cur with
  | none => rw [T_act_0 h]; exact ⟨rfl, SR_mono h (by omega)⟩
  | some j => exact T_act_1 h
theorem TT_find {c n : Nat} {cur : Option Nat} {ws : Nat → MW} {sk sl : Nat → Int32} {md : MM} {k : Int32} {b : Bool} (h : SR (c + 4) n cur ws sk sl md) : Xr cur ws (m_find_0 k b) (fun w => (m_find_1 k b w).2) = (m_M_find k b md).2 ∧ SR c n cur (Xw cur ws (fun w => (m_find_1 k b w).1)) sk sl (m_M_find k b md).1 := by
  cases cur with
  | none => rw [T_find_0 h]; exact ⟨rfl, SR_mono h (by omega)⟩
  | some j => exact T_find_1 h
theorem TT_keep {c n : Nat} {cur : Option Nat} {ws : Nat → MW} {sk sl : Nat → Int32} {md : MM} {i k : Int32} (h : SR (c + 4) n cur ws sk sl md) : Xr cur ws (m_keep_0 i k) (fun w => (m_keep_1 i k w sk sl).2.2.2) = (m_M_keep i k md).2 ∧ SR c n cur (Xw cur ws (fun w => (m_keep_1 i k w sk sl).1)) (Xk cur ws sk (fun w => (m_keep_1 i k w sk sl).2.1)) (Xk cur ws sl (fun w => (m_keep_1 i k w sk sl).2.2.1)) (m_M_keep i k md).1 := by
  cases cur with
  | none => rw [T_keep_0 h]; exact ⟨rfl, SR_mono h (by omega)⟩
  | some j => exact T_keep_1 h
theorem TT_isOf {c n : Nat} {cur : Option Nat} {ws : Nat → MW} {sk sl : Nat → Int32} {md : MM} {i k : Int32} (h : SR c n cur ws sk sl md) : Xr cur ws (m_isOf_0 i k sk) (fun w => m_isOf_1 i k sk sl w) = m_M_isOf i k md := by
  cases cur with
  | none => exact T_isOf_0 h
  | some j => exact T_isOf_1 h
theorem TT_note {c n : Nat} {cur : Option Nat} {ws : Nat → MW} {sk sl : Nat → Int32} {md : MM} {i : Int32} (h : SR c n cur ws sk sl md) : Xr cur ws (m_note_0 i) (fun w => m_note_1 i w) = m_M_note i md := by
  cases cur with
  | none => exact T_note_0 h
  | some j => exact T_note_1 h
theorem TT_count {c n : Nat} {cur : Option Nat} {ws : Nat → MW} {sk sl : Nat → Int32} {md : MM} {i : Int32} (h : SR c n cur ws sk sl md) : Xr cur ws (m_count_0 i (nI n)) (fun w => m_count_1 i (nI n) w) = m_M_count i md := by
  cases cur with
  | none => exact T_count_0 h
  | some j => exact T_count_1 h
theorem Xw_id {cur : Option Nat} {ws : Nat → MW} : Xw cur ws (fun w => w) = ws := by
  cases cur with
  | none => rfl
  | some j => exact upW_id
/-- room for four notes in the world at work -/
theorem SR_ok4 {c n j : Nat} {ws : Nat → MW} {sk sl : Nat → Int32} {md : MM} (h : SR c n (some j) ws sk sl md) (hc : 4 ≤ c) : ok 4 (ws j) := ok_mono (SR_j h).2.2.2 hc
theorem SR_b8 {c n : Nat} {cur : Option Nat} {ws : Nat → MW} {sk sl : Nat → Int32} {md : MM} (h : SR c n cur ws sk sl md) : ¬ (aWn md) = 8 → vp_in (aWn md) 8 := by
  intro g
  have hn := h.1
  rw [h.2.1] at g ⊢
  refine vp_in_nI ?_ (by decide)
  rcases Nat.lt_or_ge n 8 with q | q
  · exact q
  · exact absurd (by rw [show n = 8 by omega]; rfl) g

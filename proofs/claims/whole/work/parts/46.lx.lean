-- THE LAW: THE CLASS'S OTHER CALLS
section LawCalls2
variable {p : Program} {l : Launch} {e : Env} {R : Room} {s : State} {m : MethodId} {args : Array Value} {below : List Frame} {meth : Method} {c : Code} {H : Heap} {locs : List Loc} {cells slots : Nat} {Q : State → Prop}
variable {bytes : ByteArray} {pc maxL nL index : Nat} {ls : Array Slot} {rest av : List Value} {A : Nat → Prop} {D : va_G} {tys : List (ClassId × FieldType)} {wc wr wc' w0 w1 : va_W} {rm : Room} {y : MethodName} {rt : FieldType} {r : Int32} {own : String} {b : Nat}
variable {cI cW cZ : ClassId}
theorem Xk_id {cur : Option Nat} {ws : Nat → MW} {sk : Nat → Int32} : Xk cur ws sk (fun _ => sk) = sk := by
  cases cur <;> rfl
def upA (ad : AD) (n : Nat) (u : Nat × Nat × Nat × Nat) : AD := fun j => if j = n then u else ad j
theorem upA_s {ad : AD} {n : Nat} {u : Nat × Nat × Nat × Nat} : upA ad n u n = u := if_pos rfl
theorem upA_n {ad : AD} {n j : Nat} {u : Nat × Nat × Nat × Nat} (h : j ≠ n) : upA ad n u j = ad j := if_neg h
theorem rm_c {a b : Nat} (h : a ≤ 600000) (g : b ≤ 7302250) : a ≤ room_1.cells ∧ b ≤ room_1.slots := ⟨h, g⟩
theorem x_isOf {x xa xk xw n : Nat} {cur : Option Nat} {ad : AD} {f : Nat → Option Nat} {ws : Nat → MW} {sk sl : Nat → Int32} {M : va_W} {i k : Int32} (hX : LX p s m args c D cI cW cZ) (hls : ls.size = 4) (hj : ∀ j, cur = some j → j < n) (hP : va_P D classes (CWd cI cW x xa xk xw n cur ad f ws sk sl ++ M) H) (hD : va_D (LA s) (CWd cI cW x xa xk xw n cur ad f ws sk sl ++ M)) (hS : va_S (LA s) s.heap H locs) (hdg : decode code pc = .ok (.invokevirtual 41, 3)) (hf : cells ≤ 600000) (hg : slots ≤ 7302250)
    (kk : ∀ (H1 : Heap) (locs1 : List Loc), va_P D classes (CWd cI cW x xa xk xw n cur ad f ws sk sl ++ M) H1 → va_D (LA s) (CWd cI cW x xa xk xw n cur ad f ws sk sl ++ M) → va_S (LA s) s.heap H1 locs1 → W p l e room_1 s m args below meth c H1 locs1 cells slots Q (F0 m (pc + 3) ls [.int (Xr cur ws (m_isOf_0 i k sk) (fun w => m_isOf_1 i k sk sl w))])) : W p l e room_1 s m args below meth c H locs cells slots Q (F0 m pc ls [.int k, .int i, .ref x]) := by
  obtain ⟨hx, hb, hml, hown, hk, hSt, hK, -⟩ := hX
  cases cur with
  | none =>
    refine CM.callP (wr := WS cI ad ws n ++ M) (w1 := CWd cI cW x xa xk xw n none ad f ws sk sl ++ M) (av := [.int i, .int k]) (rest := []) pm_sa pm_as hx hb hml hown hk (c_isOf_0 l D cI cW x xa xk xw (nI n) f sl i k sk _ rfl) hK hP hD hS (fun _ h => h) hSt hls (fun hP => va_recv hK hP (ci := 1) (q0 := 0) rfl rfl) hdg kc_Suite_isOf ki_Suite kl_law_41 kn_Suite_isOf kx_Suite_isOf (n := 2) rfl (by decide +kernel) ⟨Nat.le_of_ble_eq_true rfl, Nat.le_of_ble_eq_true rfl⟩ rfl rfl (Nat.le_of_ble_eq_true rfl) (rm_c hf hg) ?_
    exact kk
  | some j =>
    refine CM.callP (wr := WX cI ad ws j n ++ M) (w1 := CWd cI cW x xa xk xw n (some j) ad f ws sk sl ++ M) (av := [.int i, .int k]) (rest := []) (pm_in2 (WS_cut n (hj j rfl)).symm) (pm_out2 (WS_cut n (hj j rfl))) hx hb hml hown hk (c_isOf_1 l D cI cW x xa xk xw (ad j).1 (ad j).2.1 (ad j).2.2.1 (ad j).2.2.2 (nI n) f i k sk sl (ws j) _ rfl) hK hP hD hS (fun _ h => h) hSt hls (fun hP => va_recv hK hP (ci := 1) (q0 := 0) rfl rfl) hdg kc_Suite_isOf ki_Suite kl_law_41 kn_Suite_isOf kx_Suite_isOf (n := 2) rfl (by decide +kernel) ⟨Nat.le_of_ble_eq_true rfl, Nat.le_of_ble_eq_true rfl⟩ rfl rfl (Nat.le_of_ble_eq_true rfl) (rm_c hf hg) ?_
    exact kk
theorem x_alike {x xa xk xw n : Nat} {cur : Option Nat} {ad : AD} {f : Nat → Option Nat} {ws : Nat → MW} {sk sl : Nat → Int32} {M : va_W} {i k : Int32} (hX : LX p s m args c D cI cW cZ) (hls : ls.size = 4) (hP : va_P D classes (CWd cI cW x xa xk xw n cur ad f ws sk sl ++ M) H) (hD : va_D (LA s) (CWd cI cW x xa xk xw n cur ad f ws sk sl ++ M)) (hS : va_S (LA s) s.heap H locs) (hdg : decode code pc = .ok (.invokevirtual 46, 3)) (hf : cells ≤ 600000) (hg : slots ≤ 7302250)
    (kk : ∀ (H1 : Heap) (locs1 : List Loc), va_P D classes (CWd cI cW x xa xk xw n cur ad f ws sk sl ++ M) H1 → va_D (LA s) (CWd cI cW x xa xk xw n cur ad f ws sk sl ++ M) → va_S (LA s) s.heap H1 locs1 → W p l e room_1 s m args below meth c H1 locs1 cells slots Q (F0 m (pc + 3) ls [.int (m_alike i k sk sl)])) : W p l e room_1 s m args below meth c H locs cells slots Q (F0 m pc ls [.int k, .int i, .ref x]) := by
  obtain ⟨hx, hb, hml, hown, hk, hSt, hK, -⟩ := hX
  refine CM.callP (wr := WS cI ad ws n ++ M) (w1 := CWd cI cW x xa xk xw n cur ad f ws sk sl ++ M) (av := [.int i, .int k]) (rest := []) pm_sa pm_as hx hb hml hown hk (c_alike l D cI cW x xa xk xw (nI n) (cuV ad cur) f i k sk sl _ rfl) hK hP hD hS (fun _ h => h) hSt hls (fun hP => va_recv hK hP (ci := 1) (q0 := 0) rfl rfl) hdg kc_Suite_alike ki_Suite kl_law_46 kn_Suite_alike kx_Suite_alike (n := 2) rfl (by decide +kernel) ⟨Nat.le_of_ble_eq_true rfl, Nat.le_of_ble_eq_true rfl⟩ rfl rfl (Nat.le_of_ble_eq_true rfl) (rm_c hf hg) ?_
  exact kk
theorem pm_begin {cI cW : ClassId} {x xa xk xw n : Nat} {ad : AD} {f : Nat → Option Nat} {ws : Nat → MW} {sk sl : Nat → Int32} {M : va_W} {w : MW} (hn : n < 8) (u : Nat × Nat × Nat × Nat) : List.Perm ((S4 cI cW x xa xk xw (nI n + 1) (.ref u.1) (va_up f (nI n).toNatClampNeg (some u.1)) sk sl ++ W4 cI u.1 u.2.1 u.2.2.1 u.2.2.2 w) ++ (WS cI ad ws n ++ M)) (CWd cI cW x xa xk xw (n + 1) (some n) (upA ad n u) (va_up f n (some u.1)) (upW ws n w) sk sl ++ M) := by
  have e3 : WS cI (upA ad n u) (upW ws n w) (n + 1) = W4 cI u.1 u.2.1 u.2.2.1 u.2.2.2 w ++ WS cI ad ws n := by
    show Wj cI (upA ad n u) (upW ws n w) n ++ WS cI (upA ad n u) (upW ws n w) n = _
    rw [WS_out (ad' := upA ad n u) (ws' := upW ws n w) (ad := ad) (ws := ws) (fun j hj => ⟨upA_n (by omega), upW_n (by omega)⟩)]
    unfold Wj
    rw [upA_s, upW_s]
  have e4 : cuV (upA ad n u) (some n) = .ref u.1 := by
    show Value.ref (upA ad n u n).1 = _
    rw [upA_s]
  unfold CWd
  rw [nI_1, nI_clamp (show n < 2 ^ 31 by omega), e3, e4]
  exact pm_new
theorem x_begin {x xa xk xw n : Nat} {cur : Option Nat} {ad : AD} {f : Nat → Option Nat} {ws : Nat → MW} {sk sl : Nat → Int32} {md : MM} {M : va_W} {b : Bool} {cc : Nat} (hX : LX p s m args c D cI cW cZ) (hls : ls.size = 4) (hsr : SR cc n cur ws sk sl md) (hcc : cc ≤ 1000000) (hfa : ∀ j, j < n → f j = some (ad j).1) (hP : va_P D classes (CWd cI cW x xa xk xw n cur ad f ws sk sl ++ M) H) (hD : va_D (LA s) (CWd cI cW x xa xk xw n cur ad f ws sk sl ++ M)) (hS : va_S (LA s) s.heap H locs) (hdg : decode code pc = .ok (.invokevirtual 13, 3)) (hf : cells + 5 ≤ 600000) (hg : slots + 140 ≤ 7302250)
    (kk : ∀ (n' : Nat) (cur' : Option Nat) (ad' : AD) (f' : Nat → Option Nat) (ws' : Nat → MW) (r : Int32) (H1 : Heap) (locs1 : List Loc), r = (m_M_begin b md).2 → SR cc n' cur' ws' sk sl (m_M_begin b md).1 → (∀ j, j < n' → f' j = some (ad' j).1) → va_P D classes (CWd cI cW x xa xk xw n' cur' ad' f' ws' sk sl ++ M) H1 → va_D (LA s) (CWd cI cW x xa xk xw n' cur' ad' f' ws' sk sl ++ M) → va_S (LA s) s.heap H1 locs1 → W p l e room_1 s m args below meth c H1 locs1 (cells + 4) (slots + 105) Q (F0 m (pc + 3) ls [.int r])) : W p l e room_1 s m args below meth c H locs cells slots Q (F0 m pc ls [.int (bI b), .ref x]) := by
  obtain ⟨hx, hb, hml, hown, hk, hSt, hK, -⟩ := hX
  have hn8 := hsr.1
  rcases Nat.lt_or_ge n 8 with hn | hn
  · refine CMa.callP (w1 := fun u => CWd cI cW x xa xk xw (n + 1) (some n) (upA ad n u) (va_up f n (some u.1)) (upW ws n (nw (nI n) b)) sk sl ++ M) (wr := WS cI ad ws n ++ M) (av := [.int (bI b)]) (rest := []) (fun u => pm_begin hn u) pm_as hx hb hml hown hk (c_begin_new l D cI cW x xa xk xw (nI n) (cuV ad cur) f sk sl b (vp_in_nI hn (by decide)) (nI_lt hn (by decide))) hK hP hD hS (fun _ h => h) hSt hls (fun hP => va_recv hK hP (ci := 1) (q0 := 0) rfl rfl) hdg kc_Suite_begin ki_Suite kl_law_13 kn_Suite_begin kx_Suite_begin (n := 1) rfl (by decide +kernel) ⟨Nat.le_of_ble_eq_true rfl, Nat.le_of_ble_eq_true rfl⟩ rfl rfl (Nat.le_of_ble_eq_true rfl) (rm_c (by omega) (by omega)) (fun u H1 locs1 hP hD hS => ?_)
    obtain ⟨t1, t2⟩ := T_begin_new (b := b) hsr hn hcc
    refine kk (n + 1) (some n) _ _ _ _ H1 locs1 t1.symm t2 (fun j hj => ?_) hP hD hS
    by_cases g : j = n
    · subst g
      rw [upA_s]
      exact if_pos rfl
    · rw [upA_n g]
      exact (if_neg g).trans (hfa j (by omega))
  · have e8 : n = 8 := by omega
    subst e8
    refine CM.callP (w1 := CWd cI cW x xa xk xw 8 cur ad f ws sk sl ++ M) (wr := WS cI ad ws 8 ++ M) (av := [.int (bI b)]) (rest := []) pm_sa pm_as hx hb hml hown hk (c_begin_no l D cI cW x xa xk xw (cuV ad cur) f sk sl (nI 8) b (by decide) _ rfl) hK hP hD hS (fun _ h => h) hSt hls (fun hP => va_recv hK hP (ci := 1) (q0 := 0) rfl rfl) hdg kc_Suite_begin ki_Suite kl_law_13 kn_Suite_begin kx_Suite_begin (n := 1) rfl (by decide +kernel) ⟨Nat.le_of_ble_eq_true rfl, Nat.le_of_ble_eq_true rfl⟩ rfl rfl (Nat.le_of_ble_eq_true rfl) (rm_c (by omega) (by omega)) (fun H1 locs1 hP hD hS => ?_)
    have e := T_begin_no (b := b) hsr
    refine W.widen (k := cells + 4) (n := slots + 105) (by omega) (by omega) ?_
    exact kk 8 cur ad f ws _ H1 locs1 (by rw [e]) (by rw [e]; exact hsr) hfa hP hD hS
theorem x_enter {x xa xk xw n : Nat} {cur : Option Nat} {ad : AD} {f : Nat → Option Nat} {ws : Nat → MW} {sk sl : Nat → Int32} {md : MM} {M : va_W} {i : Int32} {cc : Nat} (hX : LX p s m args c D cI cW cZ) (hls : ls.size = 4) (hsr : SR cc n cur ws sk sl md) (hfa : ∀ j, j < n → f j = some (ad j).1) (hP : va_P D classes (CWd cI cW x xa xk xw n cur ad f ws sk sl ++ M) H) (hD : va_D (LA s) (CWd cI cW x xa xk xw n cur ad f ws sk sl ++ M)) (hS : va_S (LA s) s.heap H locs) (hdg : decode code pc = .ok (.invokevirtual 18, 3)) (hf : cells ≤ 600000) (hg : slots ≤ 7302250)
    (kk : ∀ (cur' : Option Nat) (r : Int32) (H1 : Heap) (locs1 : List Loc), r = (m_M_enter i md).2 → SR cc n cur' ws sk sl (m_M_enter i md).1 → va_P D classes (CWd cI cW x xa xk xw n cur' ad f ws sk sl ++ M) H1 → va_D (LA s) (CWd cI cW x xa xk xw n cur' ad f ws sk sl ++ M) → va_S (LA s) s.heap H1 locs1 → W p l e room_1 s m args below meth c H1 locs1 cells slots Q (F0 m (pc + 3) ls [.int r])) : W p l e room_1 s m args below meth c H locs cells slots Q (F0 m pc ls [.int i, .ref x]) := by
  obtain ⟨hx, hb, hml, hown, hk, hSt, hK, -⟩ := hX
  have hn8 := hsr.1
  by_cases hno : i < 0 ∨ ¬ i < nI n
  · refine CM.callP (w1 := CWd cI cW x xa xk xw n cur ad f ws sk sl ++ M) (wr := WS cI ad ws n ++ M) (av := [.int i]) (rest := []) pm_sa pm_as hx hb hml hown hk (c_enter_no l D cI cW x xa xk xw (cuV ad cur) f sk sl i (nI n) hno _ rfl) hK hP hD hS (fun _ h => h) hSt hls (fun hP => va_recv hK hP (ci := 1) (q0 := 0) rfl rfl) hdg kc_Suite_enter ki_Suite kl_law_18 kn_Suite_enter kx_Suite_enter (n := 1) rfl (by decide +kernel) ⟨Nat.le_of_ble_eq_true rfl, Nat.le_of_ble_eq_true rfl⟩ rfl rfl (Nat.le_of_ble_eq_true rfl) (rm_c hf hg) (fun H1 locs1 hP hD hS => ?_)
    have e := T_enter_no hsr hno
    exact kk cur _ H1 locs1 (by rw [e]) (by rw [e]; exact hsr) hP hD hS
  · have h0 : ¬ i < 0 := fun h => hno (Or.inl h)
    have h1 : i < nI n := Decidable.not_not.mp (fun h => hno (Or.inr h))
    obtain ⟨t, ht, e⟩ := nI_of h0
    subst e
    have htn : t < n := (nI_ltI ht (by omega)).mp h1
    have hc8 : (nI t).toNatClampNeg = t := nI_clamp ht
    refine CM.callP (w1 := CWd cI cW x xa xk xw n (some t) ad f ws sk sl ++ M) (wr := WS cI ad ws n ++ M) (av := [.int (nI t)]) (rest := []) pm_sa pm_as hx hb hml hown hk (c_enter_ok l D cI cW x xa xk xw (cuV ad cur) sk sl (nI t) (nI n) f (ad t).1 h0 h1 (vp_in_nI (by omega) (by decide)) (by rw [hc8]; exact hfa t htn) _ _ rfl) hK hP hD hS (fun _ h => h) hSt hls (fun hP => va_recv hK hP (ci := 1) (q0 := 0) rfl rfl) hdg kc_Suite_enter ki_Suite kl_law_18 kn_Suite_enter kx_Suite_enter (n := 1) rfl (by decide +kernel) ⟨Nat.le_of_ble_eq_true rfl, Nat.le_of_ble_eq_true rfl⟩ rfl rfl (Nat.le_of_ble_eq_true rfl) (rm_c hf hg) (fun H1 locs1 hP hD hS => ?_)
    obtain ⟨t1, t2⟩ := T_enter_ok hsr htn
    exact kk (some t) _ H1 locs1 t1.symm t2 hP hD hS
/-- the law's invariant: class and reference stand alike -/
def LInv (D : va_G) (cI cW cZ : ClassId) (x xa xk xw o o1 o2 o3 o4 o5 o6 o7 o8 o9 o10 o11 o12 : Nat) (s : State) (cc : Nat) (H : Heap) (locs : List Loc) : Prop := ∃ (n : Nat) (cur : Option Nat) (ad : AD) (f : Nat → Option Nat) (ws : Nat → MW) (sk sl : Nat → Int32) (md : MM), SR cc n cur ws sk sl md ∧ (∀ j, j < n → f j = some (ad j).1) ∧ va_P D classes (CWd cI cW x xa xk xw n cur ad f ws sk sl ++ M13 cI cZ o o1 o2 o3 o4 o5 o6 o7 o8 o9 o10 o11 o12 md) H ∧ va_D (LA s) (CWd cI cW x xa xk xw n cur ad f ws sk sl ++ M13 cI cZ o o1 o2 o3 o4 o5 o6 o7 o8 o9 o10 o11 o12 md) ∧ va_S (LA s) s.heap H locs
end LawCalls2

-- THE LAW: THE CLASS'S CALLS AND THE REFERENCE'S
section LawCalls
variable {p : Program} {l : Launch} {e : Env} {R : Room} {s : State} {m : MethodId} {args : Array Value} {below : List Frame} {meth : Method} {c : Code} {H : Heap} {locs : List Loc} {cells slots : Nat} {Q : State → Prop}
variable {bytes : ByteArray} {pc maxL nL index : Nat} {ls : Array Slot} {rest av : List Value} {A : Nat → Prop} {D : va_G} {tys : List (ClassId × FieldType)} {wc wr wc' w0 w1 : va_W} {rm : Room} {y : MethodName} {rt : FieldType} {r : Int32} {own : String} {b : Nat}
variable {cI cW cZ : ClassId}
/-- a call of the class, a world at work or none -/
theorem x_call {x xa xk xw n : Nat} {cur : Option Nat} {ad : AD} {f : Nat → Option Nat} {ws : Nat → MW} {sk sl : Nat → Int32} {M : va_W} {rm0 rm1 : Room} {r0 : Int32} {g : MW → MW} {gr : MW → Int32} {gk gl : MW → Nat → Int32} (hX : LX p s m args c D cI cW cZ) (hls : ls.size = 4)
    (c0 : cur = none → CM l y bytes maxL rt rm0 D (tyC cI cW) (.ref x :: av) (S4 cI cW x xa xk xw (nI n) .null f sk sl) r0 (S4 cI cW x xa xk xw (nI n) .null f sk sl))
    (c1 : ∀ j, cur = some j → CM l y bytes maxL rt rm1 D (tyC cI cW) (.ref x :: av) (W4j cI ad j (ws j) ++ S4 cI cW x xa xk xw (nI n) (.ref (ad j).1) f sk sl) (gr (ws j)) (W4j cI ad j (g (ws j)) ++ S4 cI cW x xa xk xw (nI n) (.ref (ad j).1) f (gk (ws j)) (gl (ws j))))
    (hj : ∀ j, cur = some j → j < n) (hP : va_P D classes (CWd cI cW x xa xk xw n cur ad f ws sk sl ++ M) H) (hD : va_D (LA s) (CWd cI cW x xa xk xw n cur ad f ws sk sl ++ M)) (hS : va_S (LA s) s.heap H locs)
    (hdg : decode code pc = .ok (.invokevirtual index, 3)) (hy : y.cls = R_Suite) (hc : Cond.code y bytes maxL (some rt) ∈ wk) (hl : Cond.methodLink R_law index y ∈ wk) (hn : Cond.instanceMethod y ∈ wk) (hsel : Cond.selects y.cls y y ∈ wk) {na : Nat} (hn0 : av.length = na) (hd : okY y na) (hR0 : rm0.frames + 1 ≤ R.frames ∧ 8 + (maxL + 11) + rm0.locals ≤ R.locals) (hR1 : rm1.frames + 1 ≤ R.frames ∧ 8 + (maxL + 11) + rm1.locals ≤ R.locals) (hz0 : rm0.cells = 0 ∧ rm0.slots = 0) (hz1 : rm1.cells = 0 ∧ rm1.slots = 0) (hcat : (rest.map fun v => v.category).sum ≤ 8) (hf : cells ≤ R.cells ∧ slots ≤ R.slots)
    (kk : ∀ (H1 : Heap) (locs1 : List Loc), va_P D classes (CWd cI cW x xa xk xw n cur ad f (Xw cur ws g) (Xk cur ws sk gk) (Xk cur ws sl gl) ++ M) H1 → va_D (LA s) (CWd cI cW x xa xk xw n cur ad f (Xw cur ws g) (Xk cur ws sk gk) (Xk cur ws sl gl) ++ M) → va_S (LA s) s.heap H1 locs1 → W p l e R s m args below meth c H1 locs1 cells slots Q (F0 m (pc + 3) ls (.int (Xr cur ws r0 gr) :: rest))) : W p l e R s m args below meth c H locs cells slots Q (F0 m pc ls (av.reverse ++ .ref x :: rest)) := by
  obtain ⟨hx, hb, hml, hown, hk, hSt, hK, -⟩ := hX
  have hi : Cond.initialized y.cls ∈ wk := by rw [hy]; exact ki_Suite
  cases cur with
  | none =>
    refine CM.callP (wr := WS cI ad ws n ++ M) (w1 := CWd cI cW x xa xk xw n none ad f ws sk sl ++ M) pm_sa pm_as hx hb hml hown hk (c0 rfl) hK hP hD hS (fun _ h => h) hSt hls (fun hP => by rw [hy]; exact va_recv hK hP (ci := 1) (q0 := 0) rfl rfl) hdg hc hi hl hn hsel hn0 hd hR0 hz0.1 hz0.2 hcat hf ?_
    exact kk
  | some j =>
    refine CM.callP (wr := WX cI ad ws j n ++ M) (w1 := CWd cI cW x xa xk xw n (some j) ad f (upW ws j (g (ws j))) (gk (ws j)) (gl (ws j)) ++ M) (pm_in (WS_cutN n (hj j rfl))) (pm_out (WS_cut n (hj j rfl))) hx hb hml hown hk (c1 j rfl) hK hP hD hS (fun _ h => h) hSt hls (fun hP => by rw [hy]; exact va_recv hK hP (ci := 1) (q0 := 4) rfl rfl) hdg hc hi hl hn hsel hn0 hd hR1 hz1.1 hz1.2 hcat hf ?_
    exact kk
/-- a call of the reference -/
theorem m_call {C : va_W} {o o1 o2 o3 o4 o5 o6 o7 o8 o9 o10 o11 o12 : Nat} {md md1 : MM} (hX : LX p s m args c D cI cW cZ) (hls : ls.size = 4) (hM : CM l y bytes maxL rt rm D (tyZ cI cZ) (.ref o :: av) (M13 cI cZ o o1 o2 o3 o4 o5 o6 o7 o8 o9 o10 o11 o12 md) r (M13 cI cZ o o1 o2 o3 o4 o5 o6 o7 o8 o9 o10 o11 o12 md1))
    (hP : va_P D classes (C ++ M13 cI cZ o o1 o2 o3 o4 o5 o6 o7 o8 o9 o10 o11 o12 md) H) (hD : va_D (LA s) (C ++ M13 cI cZ o o1 o2 o3 o4 o5 o6 o7 o8 o9 o10 o11 o12 md)) (hS : va_S (LA s) s.heap H locs)
    (hdg : decode code pc = .ok (.invokevirtual index, 3)) (hy : y.cls = R_Model) (hc : Cond.code y bytes maxL (some rt) ∈ wk) (hl : Cond.methodLink R_law index y ∈ wk) (hn : Cond.instanceMethod y ∈ wk) (hsel : Cond.selects y.cls y y ∈ wk) {na : Nat} (hn0 : av.length = na) (hd : okY y na) (hR : rm.frames + 1 ≤ R.frames ∧ 8 + (maxL + 11) + rm.locals ≤ R.locals) (hz : rm.cells = 0 ∧ rm.slots = 0) (hcat : (rest.map fun v => v.category).sum ≤ 8) (hf : cells ≤ R.cells ∧ slots ≤ R.slots)
    (kk : ∀ (H1 : Heap) (locs1 : List Loc), va_P D classes (C ++ M13 cI cZ o o1 o2 o3 o4 o5 o6 o7 o8 o9 o10 o11 o12 md1) H1 → va_D (LA s) (C ++ M13 cI cZ o o1 o2 o3 o4 o5 o6 o7 o8 o9 o10 o11 o12 md1) → va_S (LA s) s.heap H1 locs1 → W p l e R s m args below meth c H1 locs1 cells slots Q (F0 m (pc + 3) ls (.int r :: rest))) : W p l e R s m args below meth c H locs cells slots Q (F0 m pc ls (av.reverse ++ .ref o :: rest)) := by
  obtain ⟨hx, hb, hml, hown, hk, hSt, -, hK⟩ := hX
  have hi : Cond.initialized y.cls ∈ wk := by rw [hy]; exact ki_Model
  refine CM.callP (w1 := C ++ M13 cI cZ o o1 o2 o3 o4 o5 o6 o7 o8 o9 o10 o11 o12 md1) List.perm_append_comm List.perm_append_comm hx hb hml hown hk hM hK hP hD hS (fun _ h => h) hSt hls (fun hP => by rw [hy]; exact va_recv hK hP (ci := 2) (q0 := 0) rfl rfl) hdg hc hi hl hn hsel hn0 hd hR hz.1 hz.2 hcat hf ?_
  exact kk
/-- a call of the reference -/
theorem m_callA {C : va_W} {o o1 o2 o3 o4 o5 o6 o7 o8 o9 o10 o11 o12 : Nat} {md md1 : MM} (hX : LX p s m args c D cI cW cZ) (hls : ls.size = 4) (hM : CMa (S := Unit) l y bytes maxL rt rm D (tyZ cI cZ) (.ref o :: av) (M13 cI cZ o o1 o2 o3 o4 o5 o6 o7 o8 o9 o10 o11 o12 md) r (fun _ => M13 cI cZ o o1 o2 o3 o4 o5 o6 o7 o8 o9 o10 o11 o12 md1) 1 30)
    (hP : va_P D classes (C ++ M13 cI cZ o o1 o2 o3 o4 o5 o6 o7 o8 o9 o10 o11 o12 md) H) (hD : va_D (LA s) (C ++ M13 cI cZ o o1 o2 o3 o4 o5 o6 o7 o8 o9 o10 o11 o12 md)) (hS : va_S (LA s) s.heap H locs)
    (hdg : decode code pc = .ok (.invokevirtual index, 3)) (hy : y.cls = R_Model) (hc : Cond.code y bytes maxL (some rt) ∈ wk) (hl : Cond.methodLink R_law index y ∈ wk) (hn : Cond.instanceMethod y ∈ wk) (hsel : Cond.selects y.cls y y ∈ wk) {na : Nat} (hn0 : av.length = na) (hd : okY y na) (hR : rm.frames + 1 ≤ R.frames ∧ 8 + (maxL + 11) + rm.locals ≤ R.locals) (hz : rm.cells = 1 ∧ rm.slots = 30) (hcat : (rest.map fun v => v.category).sum ≤ 8) (hf : cells + 1 ≤ R.cells ∧ slots + 30 ≤ R.slots)
    (kk : ∀ (H1 : Heap) (locs1 : List Loc), va_P D classes (C ++ M13 cI cZ o o1 o2 o3 o4 o5 o6 o7 o8 o9 o10 o11 o12 md1) H1 → va_D (LA s) (C ++ M13 cI cZ o o1 o2 o3 o4 o5 o6 o7 o8 o9 o10 o11 o12 md1) → va_S (LA s) s.heap H1 locs1 → W p l e R s m args below meth c H1 locs1 (cells + 1) (slots + 30) Q (F0 m (pc + 3) ls (.int r :: rest))) : W p l e R s m args below meth c H locs cells slots Q (F0 m pc ls (av.reverse ++ .ref o :: rest)) := by
  obtain ⟨hx, hb, hml, hown, hk, hSt, -, hK⟩ := hX
  have hi : Cond.initialized y.cls ∈ wk := by rw [hy]; exact ki_Model
  refine CMa.callP (w1 := fun _ => C ++ M13 cI cZ o o1 o2 o3 o4 o5 o6 o7 o8 o9 o10 o11 o12 md1) (fun _ => List.perm_append_comm) List.perm_append_comm hx hb hml hown hk hM hK hP hD hS (fun _ h => h) hSt hls (fun hP => by rw [hy]; exact va_recv hK hP (ci := 2) (q0 := 0) rfl rfl) hdg hc hi hl hn hsel hn0 hd hR hz.1 hz.2 hcat hf ?_
  exact fun _ => kk
end LawCalls

-- THE LAW: ITS SEGMENTS
abbrev LA (s : State) : Nat → Prop := fun q : Nat => s.heap.size ≤ q
def cuV (ad : AD) : Option Nat → Value
  | none => .null
  | some j => .ref (ad j).1
/-- the class's cells: the suite loader and its worlds -/
abbrev CWd (cI cW : ClassId) (x xa xk xw n : Nat) (cur : Option Nat) (ad : AD) (f : Nat → Option Nat) (ws : Nat → MW) (sk sl : Nat → Int32) : va_W := S4 cI cW x xa xk xw (nI n) (cuV ad cur) f sk sl ++ WS cI ad ws n
abbrev W4j (cI : ClassId) (ad : AD) (j : Nat) (w : MW) : va_W := W4 cI (ad j).1 (ad j).2.1 (ad j).2.2.1 (ad j).2.2.2 w
theorem WS_cutN {cI : ClassId} {ad : AD} {ws : Nat → MW} {j : Nat} {w' : MW} (n : Nat) (h : j < n) : List.Perm (W4j cI ad j w' ++ WX cI ad ws j n) (WS cI ad (upW ws j w') n) := by
  have q := WS_cut (cI := cI) (ad := ad) (ws := upW ws j w') n h
  rw [WX_same n (fun i hi => upW_n hi)] at q
  have e : Wj cI ad (upW ws j w') j = W4j cI ad j w' := by
    unfold Wj W4j
    rw [upW_s]
  rw [e] at q
  exact q.symm
theorem pm_out {S T U V M : va_W} (h : List.Perm T (U ++ V)) : List.Perm ((S ++ T) ++ M) ((U ++ S) ++ (V ++ M)) := by
  rw [← List.append_assoc (U ++ S) V M]
  refine List.Perm.append_right M ?_
  refine (h.append_left S).trans ?_
  rw [← List.append_assoc S U V]
  exact List.Perm.append_right V List.perm_append_comm
theorem pm_in {S T U V M : va_W} (h : List.Perm (U ++ V) T) : List.Perm ((U ++ S) ++ (V ++ M)) ((S ++ T) ++ M) := (pm_out h.symm).symm
theorem pm_out2 {S T U V M : va_W} (h : List.Perm T (U ++ V)) : List.Perm ((S ++ T) ++ M) ((S ++ U) ++ (V ++ M)) := (pm_out h).trans (List.Perm.append_right _ List.perm_append_comm)
theorem pm_in2 {S T U V M : va_W} (h : List.Perm (U ++ V) T) : List.Perm ((S ++ U) ++ (V ++ M)) ((S ++ T) ++ M) := (pm_out2 h.symm).symm
theorem pm_as {S T M : va_W} : List.Perm ((S ++ T) ++ M) (S ++ (T ++ M)) := List.Perm.of_eq (List.append_assoc S T M)
theorem pm_sa {S T M : va_W} : List.Perm (S ++ (T ++ M)) ((S ++ T) ++ M) := List.Perm.of_eq (List.append_assoc S T M).symm
theorem pm_new {S U T M : va_W} : List.Perm ((S ++ U) ++ (T ++ M)) ((S ++ (U ++ T)) ++ M) := List.Perm.of_eq (by simp only [List.append_assoc])
def nz (v : Int32) : Bool := decide (¬ v = 0)
theorem nz_0 {v : Int32} (h : v = 0) : bI (nz v) = 0 := by
  subst h; decide
theorem nz_1 {v : Int32} (h : ¬ v = 0) : bI (nz v) = 1 := by
  unfold nz
  rw [decide_eq_true h]
  rfl
theorem ix_ok {i L : Nat} (hL : L ≤ 1536) (h : ¬ (Int32.ofNat L - 3) < nI i) (hi : i ≤ 100000) : i + 3 ≤ L := by
  have e : (Int32.ofNat L - 3).toInt = (L : Int) - 3 := pk_sub_toInt (a := L) (b := 3) (by omega) (by omega)
  have e2 : (nI i).toInt = (i : Int) := nI_toInt (by omega)
  have := (not_congr Int32.lt_iff_toInt_lt).mp h
  rw [e, e2] at this
  omega
section LawKit
variable {p : Program} {l : Launch} {e : Env} {R : Room} {s : State} {m : MethodId} {args : Array Value} {below : List Frame} {meth : Method} {c : Code} {H : Heap} {locs : List Loc} {cells slots : Nat} {Q : State → Prop}
variable {bytes : ByteArray} {pc maxL nL index : Nat} {ls : Array Slot} {rest av : List Value} {A : Nat → Prop} {D : va_G} {tys : List (ClassId × FieldType)} {wc wr wc' w0 w1 : va_W} {rm : Room} {y : MethodName} {rt : FieldType} {r : Int32} {own : String} {b : Nat}
theorem CM.callP {w1 : va_W} (hp1 : List.Perm (wc' ++ wr) w1) (hp : List.Perm w0 (wc ++ wr)) (hx : p.tables.exec = Jvm.exec) {cc : ByteArray} (hb : c.code = cc) (hml : c.maxLocals = nL) (hown : s.vm.findClass own = some m.cls) (hk : ∀ w ∈ wk, w.before args s = true) (hM : CM l y bytes maxL rt rm D tys (.ref b :: av) wc r wc') (hK : va_K D classes tys s) (hP : va_P D classes w0 H) (hD : va_D A w0) (hS : va_S A s.heap H locs) (hA : ∀ q : Nat, s.heap.size ≤ q → A q) (hSt : St A s s.heap) (hls : ls.size = nL) (hrec : va_P D classes (wc ++ wr) H → ∃ cell : Cell, H[b]? = some cell ∧ cell.vm.isStatics = false ∧ s.vm.findClass y.cls = some cell.cls)
    (hdg : decode cc pc = .ok (.invokevirtual index, 3)) (hc : Cond.code y bytes maxL (some rt) ∈ wk) (hi : Cond.initialized y.cls ∈ wk) (hl : Cond.methodLink own index y ∈ wk) (hn : Cond.instanceMethod y ∈ wk) (hsel : Cond.selects y.cls y y ∈ wk) {n : Nat} (hn0 : av.length = n) (hd : okY y n) (hR : rm.frames + 1 ≤ R.frames ∧ 8 + (maxL + 11) + rm.locals ≤ R.locals) (hrc : rm.cells = 0) (hrs : rm.slots = 0) (hcat : (rest.map fun v => v.category).sum ≤ 8) (hf : cells ≤ R.cells ∧ slots ≤ R.slots)
    (kk : ∀ (H1 : Heap) (locs1 : List Loc), va_P D classes w1 H1 → va_D A w1 → va_S A s.heap H1 locs1 → W p l e R s m args below meth c H1 locs1 cells slots Q (F0 m (pc + 3) ls (.int r :: rest))) : W p l e R s m args below meth c H locs cells slots Q (F0 m pc ls (av.reverse ++ .ref b :: rest)) :=
  CM.callV hx hb hml hown hk hM hK (P_perm hp hP) (D_perm hp hD) hS hA hSt hls (hrec (P_perm hp hP)) hdg hc hi hl hn hsel hn0 hd hR hrc hrs hcat hf (fun H1 locs1 h1 h2 h3 => kk H1 locs1 (P_perm hp1 h1) (D_perm hp1 h2) h3)
theorem CMa.callP {S : Type} {wsf : S → va_W} {mc ms : Nat} {w1 : S → va_W} (hp1 : ∀ u, List.Perm (wsf u ++ wr) (w1 u)) (hp : List.Perm w0 (wc ++ wr)) (hx : p.tables.exec = Jvm.exec) {cc : ByteArray} (hb : c.code = cc) (hml : c.maxLocals = nL) (hown : s.vm.findClass own = some m.cls) (hk : ∀ w ∈ wk, w.before args s = true) (hM : CMa l y bytes maxL rt rm D tys (.ref b :: av) wc r wsf mc ms) (hK : va_K D classes tys s) (hP : va_P D classes w0 H) (hD : va_D A w0) (hS : va_S A s.heap H locs) (hA : ∀ q : Nat, s.heap.size ≤ q → A q) (hSt : St A s s.heap) (hls : ls.size = nL) (hrec : va_P D classes (wc ++ wr) H → ∃ cell : Cell, H[b]? = some cell ∧ cell.vm.isStatics = false ∧ s.vm.findClass y.cls = some cell.cls)
    (hdg : decode cc pc = .ok (.invokevirtual index, 3)) (hc : Cond.code y bytes maxL (some rt) ∈ wk) (hi : Cond.initialized y.cls ∈ wk) (hl : Cond.methodLink own index y ∈ wk) (hn : Cond.instanceMethod y ∈ wk) (hsel : Cond.selects y.cls y y ∈ wk) {n : Nat} (hn0 : av.length = n) (hd : okY y n) (hR : rm.frames + 1 ≤ R.frames ∧ 8 + (maxL + 11) + rm.locals ≤ R.locals) (hrc : rm.cells = mc) (hrs : rm.slots = ms) (hcat : (rest.map fun v => v.category).sum ≤ 8) (hf : cells + mc ≤ R.cells ∧ slots + ms ≤ R.slots)
    (kk : ∀ (u : S) (H1 : Heap) (locs1 : List Loc), va_P D classes (w1 u) H1 → va_D A (w1 u) → va_S A s.heap H1 locs1 → W p l e R s m args below meth c H1 locs1 (cells + mc) (slots + ms) Q (F0 m (pc + 3) ls (.int r :: rest))) : W p l e R s m args below meth c H locs cells slots Q (F0 m pc ls (av.reverse ++ .ref b :: rest)) :=
  CMa.callV hx hb hml hown hk hM hK (P_perm hp hP) (D_perm hp hD) hS hA hSt hls (hrec (P_perm hp hP)) hdg hc hi hl hn hsel hn0 hd hR hrc hrs hcat hf (fun u H1 locs1 h1 h2 h3 => kk u H1 locs1 (P_perm (hp1 u) h1) (D_perm (hp1 u) h2) h3)
/-- what holds of the machine all through the law -/
def LX (p : Program) (s : State) (m : MethodId) (args : Array Value) (c : Code) (D : va_G) (cI cW cZ : ClassId) : Prop := p.tables.exec = Jvm.exec ∧ c.code = code ∧ c.maxLocals = 4 ∧ s.vm.findClass R_law = some m.cls ∧ (∀ w ∈ wk, w.before args s = true) ∧ St (LA s) s s.heap ∧ va_K D classes (tyC cI cW) s ∧ va_K D classes (tyZ cI cZ) s
variable {cI cW cZ : ClassId}
/-- an argument: script[i + k] -/
theorem pseg {x o b L i k : Nat} {kI : Int} {xs : Nat → Int32} (hX : LX p s m args c D cI cW cZ) (hsc : va_X b L xs s s.heap) (hbl : b < s.heap.size) (hS : va_S (LA s) s.heap H locs) (hl : lv_has ls 4 [(0, .ref b), (1, .ref x), (2, .ref o), (3, .int (nI i))]) (hi : i + k < L) (hL : L ≤ 1536) (hk : Int32.ofInt kI = nI k) (d0 : decode code pc = .ok (.aload_n 0, 1)) (d1 : decode code (pc + 1) = .ok (.iload_n 3, 1)) (d2 : decode code (pc + 1 + 1) = .ok (.iconst kI, 1)) (d3 : decode code (pc + 1 + 1 + 1) = .ok (.iadd, 1)) (d4 : decode code (pc + 1 + 1 + 1 + 1) = .ok (.iaload, 1))
    (kk : W p l e R s m args below meth c H locs cells slots Q (F0 m (pc + 5) ls (.int (xs (i + k)) :: rest))) : W p l e R s m args below meth c H locs cells slots Q (F0 m pc ls rest) := by
  obtain ⟨hx, hb, -⟩ := hX
  refine lv_aload_n hx hb d0 rfl (lv_at hl 0 rfl) ?_
  refine lv_iload_n hx hb d1 rfl (lv_at hl 3 rfl) ?_
  refine lv_iconst (v := nI k) hx hb d2 hk ?_
  refine lv_iadd hx hb d3 ?_
  rw [nI_add]
  refine va_sld (A := LA s) hx hb hsc hbl (Nat.not_le.mpr hbl) hS (vp_in_nI hi (by omega)) d4 ?_
  rw [nI_clamp (show i + k < 2 ^ 31 by omega)]
  exact kk
/-- a truth value: v != 0 -/
theorem bseg {v : Int32} (hX : LX p s m args c D cI cW cZ) (d0 : decode code pc = .ok (.ifCond .eq 7, 3)) (d1 : decode code (pc + 3) = .ok (.iconst 1, 1)) (d2 : decode code (pc + 3 + 1) = .ok (.goto 4, 3)) (d3 : decode code (pc + 7) = .ok (.iconst 0, 1))
    (kk : W p l e R s m args below meth c H locs cells slots Q (F0 m (pc + 8) ls (.int (bI (nz v)) :: rest))) : W p l e R s m args below meth c H locs cells slots Q (F0 m pc ls (.int v :: rest)) := by
  obtain ⟨hx, hb, -⟩ := hX
  refine lv_if_eq (tgt := pc + 7) hx hb d0 (by omega) (fun g => ?_) (fun g => ?_)
  · refine lv_iconst (v := 0) hx hb d3 (by decide) ?_
    rw [nz_0 g] at kk
    exact kk
  · refine lv_iconst (v := 1) hx hb d1 (by decide) ?_
    refine lv_goto (tgt := pc + 8) hx hb d2 (by omega) ?_
    rw [nz_1 g] at kk
    exact kk
end LawKit

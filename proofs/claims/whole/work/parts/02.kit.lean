-- THE CLASS'S STATE
abbrev MW : Type := Int32 × (Nat → Int32) × Int32 × (Nat → Int32) × (Nat → Int32) × Bool × Bool
abbrev gNu (w : MW) : Int32 := w.1
abbrev gNo (w : MW) : Nat → Int32 := w.2.1
abbrev gWr (w : MW) : Int32 := w.2.2.1
abbrev gVa (w : MW) : Nat → Int32 := w.2.2.2.1
abbrev gSt (w : MW) : Nat → Int32 := w.2.2.2.2.1
abbrev gSw (w : MW) : Bool := w.2.2.2.2.2.1
abbrev gSe (w : MW) : Bool := w.2.2.2.2.2.2
abbrev sNo (w : MW) (f : Nat → Int32) : MW := (w.1, f, w.2.2)
abbrev sWr (w : MW) (x : Int32) : MW := (w.1, w.2.1, x, w.2.2.2)
abbrev sVa (w : MW) (f : Nat → Int32) : MW := (w.1, w.2.1, w.2.2.1, f, w.2.2.2.2)
abbrev sSt (w : MW) (f : Nat → Int32) : MW := (w.1, w.2.1, w.2.2.1, w.2.2.2.1, f, w.2.2.2.2.2)
abbrev sSw (w : MW) (b : Bool) : MW := (w.1, w.2.1, w.2.2.1, w.2.2.2.1, w.2.2.2.2.1, b, w.2.2.2.2.2.2)
abbrev sSe (w : MW) (b : Bool) : MW := (w.1, w.2.1, w.2.2.1, w.2.2.2.1, w.2.2.2.2.1, w.2.2.2.2.2.1, b)
abbrev bI (b : Bool) : Int32 := if b then 1 else 0
abbrev W4 (cI : ClassId) (q qn qv qs : Nat) (w : MW) : va_W := [(q, .inr (0, [.int (gNu w), .ref qn, .int (gWr w), .ref qv, .ref qs, .int (bI (gSw w)), .int (bI (gSe w))])), (qn, .inl (cI, 64, .inl (gNo w))), (qv, .inl (cI, 17, .inl (gVa w))), (qs, .inl (cI, 17, .inl (gSt w)))]
abbrev S4 (cI cW : ClassId) (x xa xk xw : Nat) (be : Int32) (wv : Value) (f : Nat → Option Nat) (sk sl : Nat → Int32) : va_W := [(x, .inr (1, [.ref xa, .int be, wv, .ref xk, .ref xw])), (xa, .inl (cW, 8, .inr (.inr (.inr (.inr f))))), (xk, .inl (cI, 6, .inl sk)), (xw, .inl (cI, 6, .inl sl))]
abbrev tyC (cI cW : ClassId) : List (ClassId × FieldType) := [(cI, .int), (cW, .object "SuiteLoader$World")]
def fUP : Nat → Int32 := fun j => ([-1, 0, 1, -1, -1, -1, -1, -1, -1, 8, -1, -1, -1, 0, -1, -1, -1] : List Int32).getD j 0
def fOWNERS : Nat → Int32 := fun j => ([1, 1, 4, 6, 7] : List Int32).getD j 0
def fOWNED : Nat → Int32 := fun j => ([3, 5, 3, 3, 4] : List Int32).getD j 0
def fKEPT : Nat → Int32 := fun j => ([0, 1, 2, 6, 7, 14] : List Int32).getD j 0
def fASKED : Nat → Int32 := fun j => ([0, 0, 1, -1, 2, -1, -1, 3, 3, 4, 7, 6, 8, -1, 9, 9, 10, 11, 12, 14, 14, 15, 16, -1, 1, 11, 2, 1, 5, 14] : List Int32).getD j 0
def nw (nu : Int32) (b : Bool) : MW := (nu, fun _ => 0, 0, fun _ => 0, fun _ => 0, b, false)
-- MY KIT: one list of words for all methods, contracts as functions, calls in a row each
def wk : List Cond := lw_tbl.filter goodWord
theorem wk_in {w : Cond} (h : w ∈ lw_tbl) (g : goodWord w = true) : w ∈ wk := List.mem_filter.mpr ⟨h, g⟩
theorem wk_goodC {x : Cond} (hx : x ∈ wk) : GoodIn wk (x :: wk) := fun w hw => by
  have h : w ∈ wk := by
    rcases List.mem_cons.mp hw with h | h
    · rw [h]; exact hx
    · exact h
  exact ⟨h, good_of_word (List.mem_filter.mp h).2⟩
-- a static table of ints that nobody writes
def TB (C n : String) (N : Nat) (f : Nat → Int32) (A : Nat → Prop) (U : State) (H : Heap) : Prop := ∃ t : Nat, va_Z C n "[I" (.ref t) A U H ∧ va_T .int t N (fun j => .int (f j)) A U H
theorem TB.go {C n : String} {N : Nat} {f : Nat → Int32} {A B : Nat → Prop} {s U : State} {H : Heap} {locs : List Loc} (h : TB C n N f A s s.heap) (hS : va_S A s.heap H locs) (hB : ∀ q, B q → A q) (hvm : s.vm.Alike U.vm) (hU : U.heap = H) : TB C n N f B U U.heap := by
  obtain ⟨t, h1, h2⟩ := h
  rw [hU]
  exact ⟨t, ((h1.kept hS.2.1).narrow hB).moved hvm, ((h2.kept hS.2.1).narrow hB).moved hvm⟩
theorem TB.moved {C n : String} {N : Nat} {f : Nat → Int32} {A : Nat → Prop} {u U : State} {H : Heap} (hvm : u.vm.Alike U.vm) (h : TB C n N f A u H) : TB C n N f A U H := by
  obtain ⟨t, h1, h2⟩ := h
  exact ⟨t, h1.moved hvm, h2.moved hvm⟩
def St (A : Nat → Prop) (U : State) (H : Heap) : Prop := TB R_Kinds "UP" 17 fUP A U H ∧ TB R_Kinds "OWNERS" 5 fOWNERS A U H ∧ TB R_Kinds "OWNED" 5 fOWNED A U H ∧ TB R_Suite "KEPT" 6 fKEPT A U H ∧ TB R_Acts "ASKED" 30 fASKED A U H ∧ va_AO "SuiteLoader$World" U
theorem St.UP {A : Nat → Prop} {U : State} {H : Heap} (h : St A U H) : TB R_Kinds "UP" 17 fUP A U H := h.1
theorem St.OWNERS {A : Nat → Prop} {U : State} {H : Heap} (h : St A U H) : TB R_Kinds "OWNERS" 5 fOWNERS A U H := h.2.1
theorem St.OWNED {A : Nat → Prop} {U : State} {H : Heap} (h : St A U H) : TB R_Kinds "OWNED" 5 fOWNED A U H := h.2.2.1
theorem St.KEPT {A : Nat → Prop} {U : State} {H : Heap} (h : St A U H) : TB R_Suite "KEPT" 6 fKEPT A U H := h.2.2.2.1
theorem St.ASKED {A : Nat → Prop} {U : State} {H : Heap} (h : St A U H) : TB R_Acts "ASKED" 30 fASKED A U H := h.2.2.2.2.1
theorem St.over {A : Nat → Prop} {U : State} {H : Heap} (h : St A U H) : va_AO "SuiteLoader$World" U := h.2.2.2.2.2
theorem St.go {A B : Nat → Prop} {s U : State} {H : Heap} {locs : List Loc} (h : St A s s.heap) (hS : va_S A s.heap H locs) (hB : ∀ q, B q → A q) (hvm : s.vm.Alike U.vm) (hU : U.heap = H) : St B U U.heap :=
  ⟨h.1.go hS hB hvm hU, h.2.1.go hS hB hvm hU, h.2.2.1.go hS hB hvm hU, h.2.2.2.1.go hS hB hvm hU, h.2.2.2.2.1.go hS hB hvm hU, h.2.2.2.2.2.moved hvm⟩
theorem St.moved {A : Nat → Prop} {u U : State} {H : Heap} (hvm : u.vm.Alike U.vm) (h : St A u H) : St A U H :=
  ⟨h.1.moved hvm, h.2.1.moved hvm, h.2.2.1.moved hvm, h.2.2.2.1.moved hvm, h.2.2.2.2.1.moved hvm, h.2.2.2.2.2.moved hvm⟩

-- worlds side by side
theorem my_join {A0 : Nat → Prop} {D : va_G} {cl : List vw_C} {wc wr w1 : va_W} {H H1 : Heap} (hP : va_P D cl (wc ++ wr) H) (hD : va_D A0 (wc ++ wr)) (hk : ∀ q : Nat, q < H.size → ¬ va_A wc H.size q → H1[q]? = H[q]?) (hF : ∀ q, va_A wc H.size q → A0 q) (hP1 : va_P D cl w1 H1) (hD1 : va_D (va_A wc H.size) w1) : va_P D cl (w1 ++ wr) H1 ∧ va_D A0 (w1 ++ wr) := by
  have hr : ∀ (k : Nat) (q : Nat × va_E), wr[k]? = some q → (wc ++ wr)[wc.length + k]? = some q := fun k q h => by
    rw [List.getElem?_append_right (by omega), show wc.length + k - wc.length = k by omega]; exact h
  have hcI : ∀ (k : Nat) (q : Nat × va_E), wc[k]? = some q → (wc ++ wr)[k]? = some q ∧ k < wc.length := fun k q h => by
    have hl : k < wc.length := (List.getElem?_eq_some_iff.mp h).1
    exact ⟨by rw [List.getElem?_append_left hl]; exact h, hl⟩
  have apart : ∀ (k : Nat) (q : Nat × va_E), wr[k]? = some q → q.1 < H.size ∧ ¬ va_A wc H.size q.1 := by
    intro k q hq
    have h2 := hr k q hq
    have hlt := (hP _ q h2).lt
    refine ⟨hlt, fun h => ?_⟩
    rcases h with ⟨k2, e, h⟩ | h
    · obtain ⟨h4, h5⟩ := hcI k2 (q.1, e) h
      have hij := hD.1 _ _ q (q.1, e) h2 h4 rfl
      omega
    · omega
  refine ⟨va_P.app hP1 (fun k q hq => (hP _ q (hr k q hq)).kept (hk q.1 (apart k q hq).1 (apart k q hq).2)), va_D.app (hD1.weaken (fun k q _ h => hF q.1 h)) ⟨fun i j p q h1 h2 e => ?_, fun k q h => hD.2 _ q (hr k q h)⟩ (fun i j x y hx hy hxy => (apart j y hy).2 (by rw [← hxy]; exact hD1.2 i x hx))⟩
  have hij := hD.1 _ _ p q (hr i p h1) (hr j q h2) e
  omega
theorem my_left {D : va_G} {cl : List vw_C} {wc wr : va_W} {H : Heap} (hP : va_P D cl (wc ++ wr) H) : va_P D cl wc H := fun k q h => hP k q (by
  rw [List.getElem?_append_left (List.getElem?_eq_some_iff.mp h).1]; exact h)
theorem my_leftD {A : Nat → Prop} {wc wr : va_W} (hD : va_D A (wc ++ wr)) : va_D A wc := by
  have hc : ∀ (k : Nat) (q : Nat × va_E), wc[k]? = some q → (wc ++ wr)[k]? = some q := fun k q h => by
    rw [List.getElem?_append_left (List.getElem?_eq_some_iff.mp h).1]; exact h
  exact ⟨fun i j p q h1 h2 e => hD.1 i j p q (hc i p h1) (hc j q h2) e, fun k q h => hD.2 k q (hc k q h)⟩
theorem my_free {A : Nat → Prop} {wc wr : va_W} {H0 H : Heap} {locs : List Loc} (hD : va_D A (wc ++ wr)) (hS : va_S A H0 H locs) (hA : ∀ q : Nat, H0.size ≤ q → A q) : ∀ q, va_A wc H.size q → A q := fun q h => by
  rcases h with ⟨k, e, h⟩ | h
  · exact (my_leftD hD).2 k (q, e) h
  · exact hA q (Nat.le_trans hS.1 h)
-- a method's start
def Pre0 (D : va_G) (tys : List (ClassId × FieldType)) (ws : va_W) (sz : Nat) (U : State) : Prop := U.heap.size = sz ∧ va_P D classes ws U.heap ∧ va_K D classes tys U ∧ va_D (fun _ => True) ws ∧ St (va_A ws sz) U U.heap
theorem Pre0.blind {D : va_G} {tys : List (ClassId × FieldType)} {ws : va_W} {sz : Nat} {av : List Value} : FrameBlind (va_Pc av (Pre0 D tys ws sz)) := fun a U g mk q => by
  obtain ⟨q0, q1, qP, qK, qD, qS⟩ := q
  exact ⟨q0, q1, qP, va_K.moved (u := U) (U := U.calling g mk a) (Vm.Alike.refl U.vm) qK, qD, St.moved (u := U) (U := U.calling g mk a) (Vm.Alike.refl U.vm) qS⟩
def Bk (D : va_G) (tys : List (ClassId × FieldType)) (A : Nat → Prop) (ws' : va_W) (t : State) : Prop := va_P D classes ws' t.heap ∧ va_K D classes tys t ∧ va_D A ws'
def CM (l : Launch) (y : MethodName) (bytes : ByteArray) (maxL : Nat) (rt : FieldType) (rm : Room) (D : va_G) (tys : List (ClassId × FieldType)) (av : List Value) (ws : va_W) (r : Int32) (ws' : va_W) : Prop :=
  ∀ sz : Nat, Met l y (.code y bytes maxL (some rt) :: wk) rm (va_Pc av (Pre0 D tys ws sz)) (va_Qi (fun (x : Int32) (_ : Unit) => x = r) (fun _ => Bk D tys (va_A ws sz) ws') (va_A ws sz)) 0 0 (va_A ws sz)
def CMv (l : Launch) (y : MethodName) (bytes : ByteArray) (maxL : Nat) (rm : Room) (D : va_G) (tys : List (ClassId × FieldType)) (av : List Value) (ws : va_W) (ws' : va_W) : Prop :=
  ∀ sz : Nat, Met l y (.code y bytes maxL none :: wk) rm (va_Pc av (Pre0 D tys ws sz)) (va_Qv (fun (_ : Unit) => True) (fun _ => Bk D tys (va_A ws sz) ws') (va_A ws sz)) 0 0 (va_A ws sz)
def CMn {S : Type} (l : Launch) (y : MethodName) (bytes : ByteArray) (maxL : Nat) (rm : Room) (D : va_G) (tys : List (ClassId × FieldType)) (av : List Value) (ws : va_W) (wsf : S → va_W) (mc ms : Nat) : Prop :=
  ∀ sz : Nat, Met l y (.code y bytes maxL none :: wk) rm (va_Pc av (Pre0 D tys ws sz)) (va_Qv (fun (_ : S) => True) (fun u => Bk D tys (va_A ws sz) (wsf u)) (va_A ws sz)) mc ms (va_A ws sz)
def CMa {S : Type} (l : Launch) (y : MethodName) (bytes : ByteArray) (maxL : Nat) (rt : FieldType) (rm : Room) (D : va_G) (tys : List (ClassId × FieldType)) (av : List Value) (ws : va_W) (r : Int32) (wsf : S → va_W) (mc ms : Nat) : Prop :=
  ∀ sz : Nat, Met l y (.code y bytes maxL (some rt) :: wk) rm (va_Pc av (Pre0 D tys ws sz)) (va_Qi (fun (x : Int32) (_ : S) => x = r) (fun u => Bk D tys (va_A ws sz) (wsf u)) (va_A ws sz)) mc ms (va_A ws sz)
theorem arr_cls {D : va_G} {cl : List vw_C} {cI cW cA : ClassId} {s : State} (h : va_K D cl (tyC cI cW ++ [(cA, .int)]) s) : cI = cA := by
  have h1 := (h.2 0 (cI, .int) rfl).2
  have h2 := (h.2 2 (cA, .int) rfl).2
  exact Option.some.inj (h1.symm.trans h2)
theorem arr_clsW {D : va_G} {cl : List vw_C} {cI cW cA : ClassId} {s : State} (h : va_K D cl (tyC cI cW ++ [(cA, .object "SuiteLoader$World")]) s) : cW = cA := by
  obtain ⟨_, _, _, _, _, h1⟩ := (h.2 1 (cW, .object "SuiteLoader$World") rfl).2
  obtain ⟨_, _, _, _, _, h2⟩ := (h.2 2 (cA, .object "SuiteLoader$World") rfl).2
  exact Option.some.inj (h1.symm.trans h2)
section MyKit
variable {p : Program} {l : Launch} {e : Env} {R : Room} {s : State} {m : MethodId} {args : Array Value} {below : List Frame} {meth : Method} {c : Code} {H : Heap} {locs : List Loc} {cells slots : Nat} {Q : State → Prop}
variable {cc bytes : ByteArray} {pc maxL nL index : Nat} {ls : Array Slot} {rest av : List Value} {A : Nat → Prop} {D : va_G} {tys : List (ClassId × FieldType)} {ws ws' wc wr wc' : va_W} {rm : Room} {y : MethodName} {rt : FieldType} {r : Int32} {own : String} {b : Nat}
theorem CM_mk (hy : plainName y.cls = true) (hav : (lg_sl av).length ≤ maxL)
    (body : ∀ (p : Program) (e : Env) (s : State) (m : MethodId) (args : Array Value) (below : List Frame) (meth : Method) (c : Code) (A : Nat → Prop) (ls : Array Slot), p.tables.exec = Jvm.exec → c.code = bytes → meth.sig.returnType = some rt → c.maxLocals = maxL → s.vm.findClass y.cls = some m.cls → (∀ w ∈ wk, w.before args s = true) → meth.locks = false → (∀ q : Nat, s.heap.size ≤ q → A q) → St A s s.heap → va_K D classes tys s → va_P D classes ws s.heap → va_D A ws → va_S A s.heap s.heap [] → lv_has ls maxL (lv_args 0 av) →
      W p l e rm s m args below meth c s.heap [] 0 0 (MQ below (va_Qi (fun (x : Int32) (_ : Unit) => x = r) (fun _ => Bk D tys A ws') A) args s 0 0 A) (F0 m 0 ls [])) : CM l y bytes maxL rt rm D tys av ws r ws' := by
  intro sz
  refine Met.ofW (cc := bytes) (maxL := maxL) (ret := some rt) hy rfl ?_
  intro p e s m args below meth c s₁ B hml hv
  obtain ⟨rfl, hsz, hP, hK, hD0, hSt⟩ := hv
  have hts := atoms_spec (ws := .code y bytes maxL (some rt) :: wk) B.pre
  subst hsz
  have hl := lv_entry av (n := maxL) hav
  rw [lg_entry_eq]
  exact body p e s m _ below meth c _ _ B.exec B.bytes B.returns hml (findClass_of_methodNamed B.named) (fun w h => hts w (List.mem_cons_of_mem _ h)) B.notSynchronized (fun q h => Or.inr h) hSt hK hP hD0.self va_S.rf hl
theorem CMv_mk (hy : plainName y.cls = true) (hav : (lg_sl av).length ≤ maxL)
    (body : ∀ (p : Program) (e : Env) (s : State) (m : MethodId) (args : Array Value) (below : List Frame) (meth : Method) (c : Code) (A : Nat → Prop) (ls : Array Slot), p.tables.exec = Jvm.exec → c.code = bytes → meth.sig.returnType = none → c.maxLocals = maxL → s.vm.findClass y.cls = some m.cls → (∀ w ∈ wk, w.before args s = true) → meth.locks = false → (∀ q : Nat, s.heap.size ≤ q → A q) → St A s s.heap → va_K D classes tys s → va_P D classes ws s.heap → va_D A ws → va_S A s.heap s.heap [] → lv_has ls maxL (lv_args 0 av) →
      W p l e rm s m args below meth c s.heap [] 0 0 (MQ below (va_Qv (fun (_ : Unit) => True) (fun _ => Bk D tys A ws') A) args s 0 0 A) (F0 m 0 ls [])) : CMv l y bytes maxL rm D tys av ws ws' := by
  intro sz
  refine Met.ofW (cc := bytes) (maxL := maxL) (ret := none) hy rfl ?_
  intro p e s m args below meth c s₁ B hml hv
  obtain ⟨rfl, hsz, hP, hK, hD0, hSt⟩ := hv
  have hts := atoms_spec (ws := .code y bytes maxL none :: wk) B.pre
  subst hsz
  have hl := lv_entry av (n := maxL) hav
  rw [lg_entry_eq]
  exact body p e s m _ below meth c _ _ B.exec B.bytes B.returns hml (findClass_of_methodNamed B.named) (fun w h => hts w (List.mem_cons_of_mem _ h)) B.notSynchronized (fun q h => Or.inr h) hSt hK hP hD0.self va_S.rf hl
theorem CM_iret (hx : p.tables.exec = Jvm.exec) (hb : c.code = cc) (hr : meth.sig.returnType = some .int) (hlocks : meth.locks = false) (hP : va_P D classes ws' H) (hK : va_K D classes tys s) (hD : va_D A ws') (hS : va_S A s.heap H locs) (hdg : decode cc pc = .ok (.ireturn, 1)) : W p l e R s m args below meth c H locs cells slots (MQ below (va_Qi (fun (x : Int32) (_ : Unit) => x = r) (fun _ => Bk D tys A ws') A) args s cells slots A) (F0 m pc ls [.int r]) :=
  W.iret (v := r) hx hb hr (fun t ht hW => ⟨⟨r, (), rfl, rfl, by rw [ht]; exact hP, va_K.moved hW.alike hK, hD⟩, hS.F ht⟩) hS.2.2 hdg hlocks
theorem CM_zret (hx : p.tables.exec = Jvm.exec) (hb : c.code = cc) (hr : meth.sig.returnType = some .boolean) (hlocks : meth.locks = false) (hn : narrow .boolean (.int r) = .int r) (hP : va_P D classes ws' H) (hK : va_K D classes tys s) (hD : va_D A ws') (hS : va_S A s.heap H locs) (hdg : decode cc pc = .ok (.ireturn, 1)) : W p l e R s m args below meth c H locs cells slots (MQ below (va_Qi (fun (x : Int32) (_ : Unit) => x = r) (fun _ => Bk D tys A ws') A) args s cells slots A) (F0 m pc ls [.int r]) :=
  W.zret (v := r) hx hb hr hn (fun t ht hW => ⟨⟨r, (), rfl, rfl, by rw [ht]; exact hP, va_K.moved hW.alike hK, hD⟩, hS.F ht⟩) hS.2.2 hdg hlocks
theorem CMv_ret (hx : p.tables.exec = Jvm.exec) (hb : c.code = cc) (hr : meth.sig.returnType = none) (hlocks : meth.locks = false) (hP : va_P D classes ws' H) (hK : va_K D classes tys s) (hD : va_D A ws') (hS : va_S A s.heap H locs) (hdg : decode cc pc = .ok (.return_, 1)) : W p l e R s m args below meth c H locs cells slots (MQ below (va_Qv (fun (_ : Unit) => True) (fun _ => Bk D tys A ws') A) args s cells slots A) (F0 m pc ls []) :=
  W.vret hx hb hr (fun t ht hW => ⟨⟨(), rfl, trivial, by rw [ht]; exact hP, va_K.moved hW.alike hK, hD⟩, hS.F ht⟩) hS.2.2 hdg hlocks
abbrev okY (y : MethodName) (n : Nat) : Prop := y.cls ≠ "java/lang/invoke/MethodHandle" ∧ y.cls ≠ "java/lang/invoke/VarHandle" ∧ (parseMethodDescriptor y.desc).map (fun d => d.parameters.length) = some n
theorem CM.callS (hx : p.tables.exec = Jvm.exec) (hb : c.code = cc) (hml : c.maxLocals = nL) (hown : s.vm.findClass own = some m.cls) (hk : ∀ w ∈ wk, w.before args s = true) (hM : CM l y bytes maxL rt rm D tys av wc r wc') (hK : va_K D classes tys s) (hP : va_P D classes (wc ++ wr) H) (hD : va_D A (wc ++ wr)) (hS : va_S A s.heap H locs) (hA : ∀ q : Nat, s.heap.size ≤ q → A q) (hSt : St A s s.heap) (hls : ls.size = nL)
    (hdg : decode cc pc = .ok (.invokestatic index, 3)) (hc : Cond.code y bytes maxL (some rt) ∈ wk) (hi : Cond.initialized y.cls ∈ wk) (hl : Cond.methodLink own index y ∈ wk) (hs : Cond.static y ∈ wk) {n : Nat} (hn0 : av.length = n) (hd : okY y n) (hR : rm.frames + 1 ≤ R.frames ∧ 8 + (maxL + 11) + rm.locals ≤ R.locals) (hrc : rm.cells = 0) (hrs : rm.slots = 0) (hcat : (rest.map fun v => v.category).sum ≤ 8) (hf : cells ≤ R.cells ∧ slots ≤ R.slots)
    (kk : ∀ (H1 : Heap) (locs1 : List Loc), va_P D classes (wc' ++ wr) H1 → va_D A (wc' ++ wr) → va_S A s.heap H1 locs1 → W p l e R s m args below meth c H1 locs1 cells slots Q (F0 m (pc + 3) ls (.int r :: rest))) : W p l e R s m args below meth c H locs cells slots Q (F0 m pc ls (av.reverse ++ rest)) := by
  have hFc := my_free hD hS hA
  have hPc := my_left hP
  have hDc := my_leftD hD
  refine va_calli (va_runS (As := av) (rest := rest) ⟨hx, hb, hml, hown, hk⟩ (hM H.size) ⟨callB_of n hk (wk_goodC hc) rfl hrc hrs (hk _ hi) (hk _ hl) hd hR, hk _ hs⟩ ⟨Pre0.blind, fun U hU hW => ⟨rfl, by rw [hU], by rw [hU]; exact hPc, va_K.moved hW.alike hK, hDc.weaken (fun _ _ _ _ => trivial), hSt.go hS hFc hW.alike hU⟩⟩ rfl hn0 hls rfl (lv_room hcat) hdg hf) hS (fun q _ h => hFc q h) hFc (fun x u t H1 locs1 ht hvm hw hB hz1 hk1 hS1 => ?_)
  obtain ⟨hP1, hK1, hD1⟩ := hB
  rw [ht] at hP1
  obtain ⟨hP2, hD2⟩ := my_join hP hD hk1 hFc hP1 hD1
  subst hw
  exact kk H1 locs1 hP2 hD2 hS1
theorem CM.callV (hx : p.tables.exec = Jvm.exec) (hb : c.code = cc) (hml : c.maxLocals = nL) (hown : s.vm.findClass own = some m.cls) (hk : ∀ w ∈ wk, w.before args s = true) (hM : CM l y bytes maxL rt rm D tys (.ref b :: av) wc r wc') (hK : va_K D classes tys s) (hP : va_P D classes (wc ++ wr) H) (hD : va_D A (wc ++ wr)) (hS : va_S A s.heap H locs) (hA : ∀ q : Nat, s.heap.size ≤ q → A q) (hSt : St A s s.heap) (hls : ls.size = nL) (hrec : ∃ cell : Cell, H[b]? = some cell ∧ cell.vm.isStatics = false ∧ s.vm.findClass y.cls = some cell.cls)
    (hdg : decode cc pc = .ok (.invokevirtual index, 3)) (hc : Cond.code y bytes maxL (some rt) ∈ wk) (hi : Cond.initialized y.cls ∈ wk) (hl : Cond.methodLink own index y ∈ wk) (hn : Cond.instanceMethod y ∈ wk) (hsel : Cond.selects y.cls y y ∈ wk) {n : Nat} (hn0 : av.length = n) (hd : okY y n) (hR : rm.frames + 1 ≤ R.frames ∧ 8 + (maxL + 11) + rm.locals ≤ R.locals) (hrc : rm.cells = 0) (hrs : rm.slots = 0) (hcat : (rest.map fun v => v.category).sum ≤ 8) (hf : cells ≤ R.cells ∧ slots ≤ R.slots)
    (kk : ∀ (H1 : Heap) (locs1 : List Loc), va_P D classes (wc' ++ wr) H1 → va_D A (wc' ++ wr) → va_S A s.heap H1 locs1 → W p l e R s m args below meth c H1 locs1 cells slots Q (F0 m (pc + 3) ls (.int r :: rest))) : W p l e R s m args below meth c H locs cells slots Q (F0 m pc ls (av.reverse ++ .ref b :: rest)) := by
  have hFc := my_free hD hS hA
  have hPc := my_left hP
  have hDc := my_leftD hD
  refine va_calli (va_runV (As := av) (rest := rest) ⟨hx, hb, hml, hown, hk⟩ (hM H.size) ⟨callB_of n hk (wk_goodC hc) rfl hrc hrs (hk _ hi) (hk _ hl) hd hR, hk _ hn, hk _ hsel⟩ ⟨Pre0.blind, hrec, fun U hU hW => ⟨rfl, by rw [hU], by rw [hU]; exact hPc, va_K.moved hW.alike hK, hDc.weaken (fun _ _ _ _ => trivial), hSt.go hS hFc hW.alike hU⟩⟩ rfl hn0 hls rfl (lv_room hcat) hdg hf) hS (fun q _ h => hFc q h) hFc (fun x u t H1 locs1 ht hvm hw hB hz1 hk1 hS1 => ?_)
  obtain ⟨hP1, hK1, hD1⟩ := hB
  rw [ht] at hP1
  obtain ⟨hP2, hD2⟩ := my_join hP hD hk1 hFc hP1 hD1
  subst hw
  exact kk H1 locs1 hP2 hD2 hS1
theorem CMv.callV (hx : p.tables.exec = Jvm.exec) (hb : c.code = cc) (hml : c.maxLocals = nL) (hown : s.vm.findClass own = some m.cls) (hk : ∀ w ∈ wk, w.before args s = true) (hM : CMv l y bytes maxL rm D tys (.ref b :: av) wc wc') (hK : va_K D classes tys s) (hP : va_P D classes (wc ++ wr) H) (hD : va_D A (wc ++ wr)) (hS : va_S A s.heap H locs) (hA : ∀ q : Nat, s.heap.size ≤ q → A q) (hSt : St A s s.heap) (hls : ls.size = nL) (hrec : ∃ cell : Cell, H[b]? = some cell ∧ cell.vm.isStatics = false ∧ s.vm.findClass y.cls = some cell.cls)
    (hdg : decode cc pc = .ok (.invokevirtual index, 3)) (hc : Cond.code y bytes maxL none ∈ wk) (hi : Cond.initialized y.cls ∈ wk) (hl : Cond.methodLink own index y ∈ wk) (hn : Cond.instanceMethod y ∈ wk) (hsel : Cond.selects y.cls y y ∈ wk) {n : Nat} (hn0 : av.length = n) (hd : okY y n) (hR : rm.frames + 1 ≤ R.frames ∧ 8 + (maxL + 11) + rm.locals ≤ R.locals) (hrc : rm.cells = 0) (hrs : rm.slots = 0) (hcat : (rest.map fun v => v.category).sum ≤ 8) (hf : cells ≤ R.cells ∧ slots ≤ R.slots)
    (kk : ∀ (H1 : Heap) (locs1 : List Loc), va_P D classes (wc' ++ wr) H1 → va_D A (wc' ++ wr) → va_S A s.heap H1 locs1 → W p l e R s m args below meth c H1 locs1 cells slots Q (F0 m (pc + 3) ls rest)) : W p l e R s m args below meth c H locs cells slots Q (F0 m pc ls (av.reverse ++ .ref b :: rest)) := by
  have hFc := my_free hD hS hA
  have hPc := my_left hP
  have hDc := my_leftD hD
  refine va_callv (va_runV (As := av) (rest := rest) ⟨hx, hb, hml, hown, hk⟩ (hM H.size) ⟨callB_of n hk (wk_goodC hc) rfl hrc hrs (hk _ hi) (hk _ hl) hd hR, hk _ hn, hk _ hsel⟩ ⟨Pre0.blind, hrec, fun U hU hW => ⟨rfl, by rw [hU], by rw [hU]; exact hPc, va_K.moved hW.alike hK, hDc.weaken (fun _ _ _ _ => trivial), hSt.go hS hFc hW.alike hU⟩⟩ rfl hn0 hls rfl (lv_room hcat) hdg hf) hS (fun q _ h => hFc q h) hFc (fun u t H1 locs1 ht hvm hw hB hz1 hk1 hS1 => ?_)
  obtain ⟨hP1, hK1, hD1⟩ := hB
  rw [ht] at hP1
  obtain ⟨hP2, hD2⟩ := my_join hP hD hk1 hFc hP1 hD1
  exact kk H1 locs1 hP2 hD2 hS1
theorem CMn_mk {S : Type} {wsf : S → va_W} {mc ms : Nat} (hy : plainName y.cls = true) (hav : (lg_sl av).length ≤ maxL)
    (body : ∀ (p : Program) (e : Env) (s : State) (m : MethodId) (args : Array Value) (below : List Frame) (meth : Method) (c : Code) (A : Nat → Prop) (ls : Array Slot), p.tables.exec = Jvm.exec → c.code = bytes → meth.sig.returnType = none → c.maxLocals = maxL → s.vm.findClass y.cls = some m.cls → (∀ w ∈ wk, w.before args s = true) → meth.locks = false → (∀ q : Nat, s.heap.size ≤ q → A q) → St A s s.heap → va_K D classes tys s → va_P D classes ws s.heap → va_D A ws → va_S A s.heap s.heap [] → lv_has ls maxL (lv_args 0 av) → meth.name = y.name →
      W p l e rm s m args below meth c s.heap [] 0 0 (MQ below (va_Qv (fun (_ : S) => True) (fun u => Bk D tys A (wsf u)) A) args s mc ms A) (F0 m 0 ls [])) : CMn l y bytes maxL rm D tys av ws wsf mc ms := by
  intro sz
  refine Met.ofW (cc := bytes) (maxL := maxL) (ret := none) hy rfl ?_
  intro p e s m args below meth c s₁ B hml hv
  obtain ⟨rfl, hsz, hP, hK, hD0, hSt⟩ := hv
  have hts := atoms_spec (ws := .code y bytes maxL none :: wk) B.pre
  subst hsz
  have hl := lv_entry av (n := maxL) hav
  rw [lg_entry_eq]
  exact body p e s m _ below meth c _ _ B.exec B.bytes B.returns hml (findClass_of_methodNamed B.named) (fun w h => hts w (List.mem_cons_of_mem _ h)) B.notSynchronized (fun q h => Or.inr h) hSt hK hP hD0.self va_S.rf hl (name_of_methodNamed B.named B.method).1
theorem CMa_mk {S : Type} {wsf : S → va_W} {mc ms : Nat} (hy : plainName y.cls = true) (hav : (lg_sl av).length ≤ maxL)
    (body : ∀ (p : Program) (e : Env) (s : State) (m : MethodId) (args : Array Value) (below : List Frame) (meth : Method) (c : Code) (A : Nat → Prop) (ls : Array Slot), p.tables.exec = Jvm.exec → c.code = bytes → meth.sig.returnType = some rt → c.maxLocals = maxL → s.vm.findClass y.cls = some m.cls → (∀ w ∈ wk, w.before args s = true) → meth.locks = false → (∀ q : Nat, s.heap.size ≤ q → A q) → St A s s.heap → va_K D classes tys s → va_P D classes ws s.heap → va_D A ws → va_S A s.heap s.heap [] → lv_has ls maxL (lv_args 0 av) →
      W p l e rm s m args below meth c s.heap [] 0 0 (MQ below (va_Qi (fun (x : Int32) (_ : S) => x = r) (fun u => Bk D tys A (wsf u)) A) args s mc ms A) (F0 m 0 ls [])) : CMa l y bytes maxL rt rm D tys av ws r wsf mc ms := by
  intro sz
  refine Met.ofW (cc := bytes) (maxL := maxL) (ret := some rt) hy rfl ?_
  intro p e s m args below meth c s₁ B hml hv
  obtain ⟨rfl, hsz, hP, hK, hD0, hSt⟩ := hv
  have hts := atoms_spec (ws := .code y bytes maxL (some rt) :: wk) B.pre
  subst hsz
  have hl := lv_entry av (n := maxL) hav
  rw [lg_entry_eq]
  exact body p e s m _ below meth c _ _ B.exec B.bytes B.returns hml (findClass_of_methodNamed B.named) (fun w h => hts w (List.mem_cons_of_mem _ h)) B.notSynchronized (fun q h => Or.inr h) hSt hK hP hD0.self va_S.rf hl
theorem CMn_ret {S : Type} {wsf : S → va_W} (u : S) (hx : p.tables.exec = Jvm.exec) (hb : c.code = cc) (hr : meth.sig.returnType = none) (hlocks : meth.locks = false) (hP : va_P D classes (wsf u) H) (hK : va_K D classes tys s) (hD : va_D A (wsf u)) (hS : va_S A s.heap H locs) (hdg : decode cc pc = .ok (.return_, 1)) : W p l e R s m args below meth c H locs cells slots (MQ below (va_Qv (fun (_ : S) => True) (fun u => Bk D tys A (wsf u)) A) args s cells slots A) (F0 m pc ls []) :=
  W.vret hx hb hr (fun t ht hW => ⟨⟨u, rfl, trivial, by rw [ht]; exact hP, va_K.moved hW.alike hK, hD⟩, hS.F ht⟩) hS.2.2 hdg hlocks
theorem CMa_ret {S : Type} {wsf : S → va_W} (u : S) (hx : p.tables.exec = Jvm.exec) (hb : c.code = cc) (hr : meth.sig.returnType = some .int) (hlocks : meth.locks = false) (hP : va_P D classes (wsf u) H) (hK : va_K D classes tys s) (hD : va_D A (wsf u)) (hS : va_S A s.heap H locs) (hdg : decode cc pc = .ok (.ireturn, 1)) : W p l e R s m args below meth c H locs cells slots (MQ below (va_Qi (fun (x : Int32) (_ : S) => x = r) (fun u => Bk D tys A (wsf u)) A) args s cells slots A) (F0 m pc ls [.int r]) :=
  W.iret (v := r) hx hb hr (fun t ht hW => ⟨⟨r, u, rfl, rfl, by rw [ht]; exact hP, va_K.moved hW.alike hK, hD⟩, hS.F ht⟩) hS.2.2 hdg hlocks
theorem CMn.callI {S : Type} {wsf : S → va_W} {mc ms : Nat} (hx : p.tables.exec = Jvm.exec) (hb : c.code = cc) (hml : c.maxLocals = nL) (hown : s.vm.findClass own = some m.cls) (hk : ∀ w ∈ wk, w.before args s = true) (hM : CMn l y bytes maxL rm D tys (.ref b :: av) wc wsf mc ms) (hK : va_K D classes tys s) (hP : va_P D classes (wc ++ wr) H) (hD : va_D A (wc ++ wr)) (hS : va_S A s.heap H locs) (hA : ∀ q : Nat, s.heap.size ≤ q → A q) (hSt : St A s s.heap) (hls : ls.size = nL)
    (hdg : decode cc pc = .ok (.invokespecial index, 3)) (hc : Cond.code y bytes maxL none ∈ wk) (hi : Cond.initialized y.cls ∈ wk) (hl : Cond.methodLink own index y ∈ wk) (hn : Cond.instanceMethod y ∈ wk) (hy1 : y.name = "<init>") {n : Nat} (hn0 : av.length = n) (hd : okY y n) (hR : rm.frames + 1 ≤ R.frames ∧ 8 + (maxL + 11) + rm.locals ≤ R.locals) (hrc : rm.cells = mc) (hrs : rm.slots = ms) (hcat : (rest.map fun v => v.category).sum ≤ 8) (hf : cells + mc ≤ R.cells ∧ slots + ms ≤ R.slots)
    (kk : ∀ (u : S) (H1 : Heap) (locs1 : List Loc), va_P D classes (wsf u ++ wr) H1 → va_D A (wsf u ++ wr) → va_S A s.heap H1 locs1 → W p l e R s m args below meth c H1 locs1 (cells + mc) (slots + ms) Q (F0 m (pc + 3) ls rest)) : W p l e R s m args below meth c H locs cells slots Q (F0 m pc ls (av.reverse ++ .ref b :: rest)) := by
  have hFc := my_free hD hS hA
  have hPc := my_left hP
  have hDc := my_leftD hD
  refine va_callv (va_runI (As := av) (rest := rest) ⟨hx, hb, hml, hown, hk⟩ (hM H.size) ⟨callB_of n hk (wk_goodC hc) rfl hrc hrs (hk _ hi) (hk _ hl) hd hR, hy1, hk _ hn⟩ ⟨Pre0.blind, fun U hU hW => ⟨rfl, by rw [hU], by rw [hU]; exact hPc, va_K.moved hW.alike hK, hDc.weaken (fun _ _ _ _ => trivial), hSt.go hS hFc hW.alike hU⟩⟩ rfl hn0 hls rfl (lv_room hcat) hdg hf) hS (fun q _ h => hFc q h) hFc (fun u t H1 locs1 ht hvm hw hB hz1 hk1 hS1 => ?_)
  obtain ⟨hP1, hK1, hD1⟩ := hB
  rw [ht] at hP1
  obtain ⟨hP2, hD2⟩ := my_join hP hD hk1 hFc hP1 hD1
  exact kk u H1 locs1 hP2 hD2 hS1
theorem CMa.callV {S : Type} {wsf : S → va_W} {mc ms : Nat} (hx : p.tables.exec = Jvm.exec) (hb : c.code = cc) (hml : c.maxLocals = nL) (hown : s.vm.findClass own = some m.cls) (hk : ∀ w ∈ wk, w.before args s = true) (hM : CMa l y bytes maxL rt rm D tys (.ref b :: av) wc r wsf mc ms) (hK : va_K D classes tys s) (hP : va_P D classes (wc ++ wr) H) (hD : va_D A (wc ++ wr)) (hS : va_S A s.heap H locs) (hA : ∀ q : Nat, s.heap.size ≤ q → A q) (hSt : St A s s.heap) (hls : ls.size = nL) (hrec : ∃ cell : Cell, H[b]? = some cell ∧ cell.vm.isStatics = false ∧ s.vm.findClass y.cls = some cell.cls)
    (hdg : decode cc pc = .ok (.invokevirtual index, 3)) (hc : Cond.code y bytes maxL (some rt) ∈ wk) (hi : Cond.initialized y.cls ∈ wk) (hl : Cond.methodLink own index y ∈ wk) (hn : Cond.instanceMethod y ∈ wk) (hsel : Cond.selects y.cls y y ∈ wk) {n : Nat} (hn0 : av.length = n) (hd : okY y n) (hR : rm.frames + 1 ≤ R.frames ∧ 8 + (maxL + 11) + rm.locals ≤ R.locals) (hrc : rm.cells = mc) (hrs : rm.slots = ms) (hcat : (rest.map fun v => v.category).sum ≤ 8) (hf : cells + mc ≤ R.cells ∧ slots + ms ≤ R.slots)
    (kk : ∀ (u : S) (H1 : Heap) (locs1 : List Loc), va_P D classes (wsf u ++ wr) H1 → va_D A (wsf u ++ wr) → va_S A s.heap H1 locs1 → W p l e R s m args below meth c H1 locs1 (cells + mc) (slots + ms) Q (F0 m (pc + 3) ls (.int r :: rest))) : W p l e R s m args below meth c H locs cells slots Q (F0 m pc ls (av.reverse ++ .ref b :: rest)) := by
  have hFc := my_free hD hS hA
  have hPc := my_left hP
  have hDc := my_leftD hD
  refine va_calli (va_runV (As := av) (rest := rest) ⟨hx, hb, hml, hown, hk⟩ (hM H.size) ⟨callB_of n hk (wk_goodC hc) rfl hrc hrs (hk _ hi) (hk _ hl) hd hR, hk _ hn, hk _ hsel⟩ ⟨Pre0.blind, hrec, fun U hU hW => ⟨rfl, by rw [hU], by rw [hU]; exact hPc, va_K.moved hW.alike hK, hDc.weaken (fun _ _ _ _ => trivial), hSt.go hS hFc hW.alike hU⟩⟩ rfl hn0 hls rfl (lv_room hcat) hdg hf) hS (fun q _ h => hFc q h) hFc (fun x u t H1 locs1 ht hvm hw hB hz1 hk1 hS1 => ?_)
  obtain ⟨hP1, hK1, hD1⟩ := hB
  rw [ht] at hP1
  obtain ⟨hP2, hD2⟩ := my_join hP hD hk1 hFc hP1 hD1
  subst hw
  exact kk u H1 locs1 hP2 hD2 hS1
end MyKit
-- ranges
theorem in_r {x M : Int32} {n : Nat} (hM : M.toInt = n) (h0 : ¬ x < 0) (h1 : ¬ M ≤ x) : vp_in x n := by
  rw [vp_in_iff]
  have a := (not_congr Int32.lt_iff_toInt_lt).mp h0
  have b := (not_congr Int32.le_iff_toInt_le).mp h1
  rw [hM] at b
  have z : (0 : Int32).toInt = 0 := by decide
  omega
-- booleans
theorem bI_nar (b : Bool) : narrow .boolean (.int (bI b)) = .int (bI b) := by cases b <;> rfl
theorem bI_fit (b : Bool) : fits .boolean (.int (bI b)) = true := by cases b <;> rfl
theorem nar01 {x : Int32} (h : x = 0 ∨ x = 1) : narrow .boolean (.int x) = .int x := by rcases h with rfl | rfl <;> rfl

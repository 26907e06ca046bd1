-- THE LAW: ITS LOOP
section LawLoop
variable {p : Program} {l : Launch} {e : Env} {R : Room} {s : State} {m : MethodId} {args : Array Value} {below : List Frame} {meth : Method} {c : Code} {H : Heap} {locs : List Loc} {cells slots : Nat} {Q : State → Prop}
variable {bytes : ByteArray} {pc maxL nL index : Nat} {ls : Array Slot} {rest av : List Value} {A : Nat → Prop} {D : va_G} {tys : List (ClassId × FieldType)} {wc wr wc' w0 w1 : va_W} {rm : Room} {y : MethodName} {rt : FieldType} {r : Int32} {own : String} {b : Nat}
variable {cI cW cZ : ClassId}
set_option maxHeartbeats 4000000 in
set_option maxRecDepth 100000 in
theorem law_turn {v : Int32} {x xa xk xw b L i cc : Nat} {o o1 o2 o3 o4 o5 o6 o7 o8 o9 o10 o11 o12 : Nat} {xs : Nat → Int32} (hX : LX p s m args c D cI cW cZ) (hsc : va_X b L xs s s.heap) (hbl : b < s.heap.size) (hl : lv_has ls 4 [(0, .ref b), (1, .ref x), (2, .ref o), (3, .int (nI i))]) (hi : i + 2 < L) (hL : L ≤ 1536) (hcc : 20 ≤ cc) (hc9 : cc + 4 ≤ 1000000) (hf : cells + 5 ≤ 600000) (hg : slots + 140 ≤ 7302250) (hI : LInv D cI cW cZ x xa xk xw o o1 o2 o3 o4 o5 o6 o7 o8 o9 o10 o11 o12 s (cc + 4) H locs)
    (kk : ∀ (H1 : Heap) (locs1 : List Loc), LInv D cI cW cZ x xa xk xw o o1 o2 o3 o4 o5 o6 o7 o8 o9 o10 o11 o12 s cc H1 locs1 → W p l e room_1 s m args below meth c H1 locs1 (cells + 5) (slots + 140) Q (F0 m 416 ls [])) (hv : v = xs i &&& 15) : W p l e room_1 s m args below meth c H locs cells slots Q (F0 m 32 ls [.int v]) := by
  have hx := hX.1
  have hb := hX.2.1
  obtain ⟨j, hj, ej⟩ := pk_andE (xs i) (m := 15) 4 (by decide)
  have e : v = nI j := hv.trans ej
  subst e
  have out : W p l e room_1 s m args below meth c H locs cells slots Q (F0 m 416 ls []) := by
    refine W.widen (k := cells + 5) (n := slots + 140) (by omega) (by omega) ?_
    obtain ⟨n, cur, ad, f, ws, sk, sl, md, hsr, hfa, hP, hD, hS⟩ := hI
    exact kk _ _ ⟨n, cur, ad, f, ws, sk, sl, md, SR_mono hsr (by omega), hfa, hP, hD, hS⟩
  rcases (show j = 0 ∨ j = 1 ∨ j = 2 ∨ j = 3 ∨ j = 4 ∨ j = 5 ∨ j = 6 ∨ j = 7 ∨ j = 8 ∨ j = 9 ∨ j = 10 ∨ j = 11 ∨ j = 12 ∨ j = 13 ∨ j = 14 ∨ j = 15 by omega) with rfl | rfl | rfl | rfl | rfl | rfl | rfl | rfl | rfl | rfl | rfl | rfl | rfl | rfl | rfl | rfl
  · refine lv_tableIn (tgt := 88) hx hb d_law_32 (by decide) (by decide) rfl (by decide) ?_
    exact arm_begin hX hsc hbl hl hi hL hcc hc9 hf hg hI kk
  · refine lv_tableIn (tgt := 127) hx hb d_law_32 (by decide) (by decide) rfl (by decide) ?_
    exact arm_enter hX hsc hbl hl hi hL hcc hc9 hf hg hI kk
  · refine lv_tableIn (tgt := 150) hx hb d_law_32 (by decide) (by decide) rfl (by decide) ?_
    exact arm_asserting hX hsc hbl hl hi hL hcc hc9 hf hg hI kk
  · refine lv_tableIn (tgt := 189) hx hb d_law_32 (by decide) (by decide) rfl (by decide) ?_
    exact arm_act hX hsc hbl hl hi hL hcc hc9 hf hg hI kk
  · refine lv_tableIn (tgt := 222) hx hb d_law_32 (by decide) (by decide) rfl (by decide) ?_
    exact arm_find hX hsc hbl hl hi hL hcc hc9 hf hg hI kk
  · refine lv_tableIn (tgt := 271) hx hb d_law_32 (by decide) (by decide) rfl (by decide) ?_
    exact arm_keep hX hsc hbl hl hi hL hcc hc9 hf hg hI kk
  · refine lv_tableIn (tgt := 304) hx hb d_law_32 (by decide) (by decide) rfl (by decide) ?_
    exact arm_isOf hX hsc hbl hl hi hL hcc hc9 hf hg hI kk
  · refine lv_tableIn (tgt := 337) hx hb d_law_32 (by decide) (by decide) rfl (by decide) ?_
    exact arm_alike hX hsc hbl hl hi hL hcc hc9 hf hg hI kk
  · refine lv_tableIn (tgt := 370) hx hb d_law_32 (by decide) (by decide) rfl (by decide) ?_
    exact arm_note hX hsc hbl hl hi hL hcc hc9 hf hg hI kk
  · refine lv_tableIn (tgt := 393) hx hb d_law_32 (by decide) (by decide) rfl (by decide) ?_
    exact arm_count hX hsc hbl hl hi hL hcc hc9 hf hg hI kk
  · exact lv_tableOut (tgt := 416) hx hb d_law_32 (by decide) (by decide) out
  · exact lv_tableOut (tgt := 416) hx hb d_law_32 (by decide) (by decide) out
  · exact lv_tableOut (tgt := 416) hx hb d_law_32 (by decide) (by decide) out
  · exact lv_tableOut (tgt := 416) hx hb d_law_32 (by decide) (by decide) out
  · exact lv_tableOut (tgt := 416) hx hb d_law_32 (by decide) (by decide) out
  · exact lv_tableOut (tgt := 416) hx hb d_law_32 (by decide) (by decide) out
set_option maxHeartbeats 4000000 in
set_option maxRecDepth 100000 in
/-- the loop at its head: t rounds are done -/
theorem law_loop {x xa xk xw b L : Nat} {o o1 o2 o3 o4 o5 o6 o7 o8 o9 o10 o11 o12 : Nat} {xs : Nat → Int32} (hX : LX p s m #[Value.ref b] c D cI cW cZ) (hr : meth.sig.returnType = ret) (hlocks : meth.locks = false) (hsc : va_X b L xs s s.heap) (hbl : b < s.heap.size) (hL : L ≤ 1536) :
    ∀ (d t : Nat), L + 3 ≤ 3 * t + 3 * d → 3 * t ≤ L → ∀ (H : Heap) (locs : List Loc), LInv D cI cW cZ x xa xk xw o o1 o2 o3 o4 o5 o6 o7 o8 o9 o10 o11 o12 s (4 * (1000 - t) + 20) H locs → ∀ (ls : Array Slot), lv_has ls 4 [(0, .ref b), (1, .ref x), (2, .ref o), (3, .int (nI (3 * t)))] → W p l e room_1 s m #[Value.ref b] below meth c H locs (17 + 5 * t) (763 + 140 * t) (lw_Z below #[Value.ref b] s) (F0 m 18 ls []) := by
  have hx := hX.1
  have hb := hX.2.1
  intro d
  induction d with
  | zero =>
    intro t h1 h2 H locs hI ls hl
    exact absurd h1 (by omega)
  | succ d ih =>
    intro t h1 h2 H locs hI ls hl
    have hS : va_S (LA s) s.heap H locs := by
      obtain ⟨n, cur, ad, f, ws, sk, sl, md, hsr, hfa, hP, hD, hS⟩ := hI
      exact hS
    refine lv_iload_n hx hb d_law_18 rfl (lv_at hl 3 rfl) ?_
    refine lv_aload_n hx hb d_law_19 rfl (lv_at hl 0 rfl) ?_
    refine va_slen (A := LA s) hx hb hsc hbl (Nat.not_le.mpr hbl) hS d_law_20 ?_
    refine lv_iconst (v := 3) hx hb d_law_21 (by decide) ?_
    refine lv_isub hx hb d_law_22 ?_
    refine lv_icmp_gt (tgt := 422) hx hb d_law_23 (by decide) (fun g => ?_) (fun g => ?_)
    · refine lv_iconst (v := 1) hx hb d_law_422 (by decide) ?_
      refine va_forget (fun q hq => hS.2.2 q hq) ?_
      refine W.widen (k := 600000) (n := 7302250) (by omega) (by omega) ?_
      exact lw_ret hx hb hr hlocks d_law_423
    · have hi : 3 * t + 3 ≤ L := ix_ok hL g (by omega)
      refine lv_aload_n hx hb d_law_26 rfl (lv_at hl 0 rfl) ?_
      refine lv_iload_n hx hb d_law_27 rfl (lv_at hl 3 rfl) ?_
      refine va_sld (A := LA s) hx hb hsc hbl (Nat.not_le.mpr hbl) hS (vp_in_nI (show 3 * t < L by omega) (by omega)) d_law_28 ?_
      rw [nI_clamp (show 3 * t < 2 ^ 31 by omega)]
      refine lv_bipush (v := 15) hx hb d_law_29 (by decide) ?_
      refine lv_iand hx hb d_law_31 ?_
      refine law_turn (i := 3 * t) (cc := 4 * (1000 - (t + 1)) + 20) hX hsc hbl hl (by omega) hL (by omega) (by omega) (by omega) (by omega) (by rw [show 4 * (1000 - (t + 1)) + 20 + 4 = 4 * (1000 - t) + 20 by omega]; exact hI) (fun H1 locs1 hI1 => ?_) rfl
      refine lv_iinc (v := nI (3 * (t + 1))) (lv' := [(3, .int (nI (3 * (t + 1)))), (0, .ref b), (1, .ref x), (2, .ref o)]) hx hb d_law_416 hl (k := 3) rfl (by rw [show Int32.ofInt 3 = nI 3 from by decide, nI_add, show 3 * t + 3 = 3 * (t + 1) by omega]) (by decide) rfl (fun ls hl => ?_)
      refine lv_goto (tgt := 18) hx hb d_law_419 (by decide) ?_
      rw [show 17 + 5 * t + 5 = 17 + 5 * (t + 1) by omega, show 763 + 140 * t + 140 = 763 + 140 * (t + 1) by omega]
      exact ih (t + 1) (by omega) (by omega) H1 locs1 hI1 ls (lv_sub hl [1, 2, 3, 0] rfl)
end LawLoop

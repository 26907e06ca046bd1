-- THE LAW: ITS START
theorem ex_int {args : Array Value} {s : State} (h : (Cond.arrayClass .int).before args s = true) : ∃ cA : ClassId, ArrOfT s cA .int ∧ va_RA s cA .int := by
  obtain ⟨cA, kA, comp, h1, h2, h3⟩ := Cond.arrayClass_spec h
  exact ⟨cA, fun n z => ⟨fun k h => (by cases h), kA, h2, comp, h3⟩, h1⟩
theorem ex_bool {args : Array Value} {s : State} (h : (Cond.arrayClass .boolean).before args s = true) : ∃ cA : ClassId, ArrOfT s cA .boolean ∧ va_RA s cA .boolean := by
  obtain ⟨cA, kA, comp, h1, h2, h3⟩ := Cond.arrayClass_spec h
  exact ⟨cA, fun n z => ⟨fun k h => (by cases h), kA, h2, comp, h3⟩, h1⟩
theorem ex_W {C : String} {args : Array Value} {s : State} (h : (Cond.arrayOver (.object C)).before args s = true) : ∃ cA : ClassId, ArrOfT s cA (.object C) ∧ va_RA s cA (.object C) := by
  obtain ⟨comp, cA, kA, f1, -, f2, f3, f4⟩ := Cond.arrayOver_spec h
  exact ⟨cA, fun n z => ⟨fun k h => (by cases h), kA, f2, comp, f3⟩, kA, comp, f2, f3, f1, f4⟩
theorem TB_of {C n : String} {N : Nat} {f : Nat → Int32} {args : Array Value} {s : State} (hN : N < 2 ^ 31) (h1 : (Cond.laysStatic C n "[I").before args s = true) (h2 : (Cond.initialized C).before args s = true) (h3 : (Cond.arrayOf (.static C n "[I") .int).before args s = true) (h4 : (Cond.eq (.length (.static C n "[I")) (.int (Int32.ofNat N))).before args s = true) (h5 : ∀ j, j < N → (Cond.eq (.elem (.static C n "[I") (.int (Int32.ofNat j))) (.int (f j))).before args s = true) : TB C n N f (LA s) s s.heap := by
  obtain ⟨t, ht, hT⟩ := va_Tof (A := LA s) (f := fun j => .int (f j)) hN h3 (va_eqt h4) (fun j hj => va_eqt (h5 j hj)) (fun a ha h => absurd h (Nat.not_le.mpr ha))
  exact ⟨t, va_Zof h1 h2 ht (fun a ha h => absurd h (Nat.not_le.mpr ha)), hT⟩
theorem law_St {b : Nat} {s : State} (hts : ∀ w ∈ lw_tbl, w.before #[Value.ref b] s = true) (hgv : (Jvm.Cond.and given_1 narrow_1).before #[Value.ref b] s = true) : St (LA s) s s.heap := by
  have hs := flat_of_before _ hgv
  exact ⟨TB_of (by decide) (hts _ (by decide +kernel)) (hts _ (by decide +kernel)) (hs _ (by decide +kernel)) (hs _ (by decide +kernel)) (fun j hj => by rcases (show j = 0 ∨ j = 1 ∨ j = 2 ∨ j = 3 ∨ j = 4 ∨ j = 5 ∨ j = 6 ∨ j = 7 ∨ j = 8 ∨ j = 9 ∨ j = 10 ∨ j = 11 ∨ j = 12 ∨ j = 13 ∨ j = 14 ∨ j = 15 ∨ j = 16 by omega) with rfl | rfl | rfl | rfl | rfl | rfl | rfl | rfl | rfl | rfl | rfl | rfl | rfl | rfl | rfl | rfl | rfl <;> exact hs _ (by decide +kernel)), TB_of (by decide) (hts _ (by decide +kernel)) (hts _ (by decide +kernel)) (hs _ (by decide +kernel)) (hs _ (by decide +kernel)) (fun j hj => by rcases (show j = 0 ∨ j = 1 ∨ j = 2 ∨ j = 3 ∨ j = 4 by omega) with rfl | rfl | rfl | rfl | rfl <;> exact hs _ (by decide +kernel)), TB_of (by decide) (hts _ (by decide +kernel)) (hts _ (by decide +kernel)) (hs _ (by decide +kernel)) (hs _ (by decide +kernel)) (fun j hj => by rcases (show j = 0 ∨ j = 1 ∨ j = 2 ∨ j = 3 ∨ j = 4 by omega) with rfl | rfl | rfl | rfl | rfl <;> exact hs _ (by decide +kernel)), TB_of (by decide) (hts _ (by decide +kernel)) (hts _ (by decide +kernel)) (hs _ (by decide +kernel)) (hs _ (by decide +kernel)) (fun j hj => by rcases (show j = 0 ∨ j = 1 ∨ j = 2 ∨ j = 3 ∨ j = 4 ∨ j = 5 by omega) with rfl | rfl | rfl | rfl | rfl | rfl <;> exact hs _ (by decide +kernel)), TB_of (by decide) (hts _ (by decide +kernel)) (hts _ (by decide +kernel)) (hs _ (by decide +kernel)) (hs _ (by decide +kernel)) (fun j hj => by rcases (show j = 0 ∨ j = 1 ∨ j = 2 ∨ j = 3 ∨ j = 4 ∨ j = 5 ∨ j = 6 ∨ j = 7 ∨ j = 8 ∨ j = 9 ∨ j = 10 ∨ j = 11 ∨ j = 12 ∨ j = 13 ∨ j = 14 ∨ j = 15 ∨ j = 16 ∨ j = 17 ∨ j = 18 ∨ j = 19 ∨ j = 20 ∨ j = 21 ∨ j = 22 ∨ j = 23 ∨ j = 24 ∨ j = 25 ∨ j = 26 ∨ j = 27 ∨ j = 28 ∨ j = 29 by omega) with rfl | rfl | rfl | rfl | rfl | rfl | rfl | rfl | rfl | rfl | rfl | rfl | rfl | rfl | rfl | rfl | rfl | rfl | rfl | rfl | rfl | rfl | rfl | rfl | rfl | rfl | rfl | rfl | rfl | rfl <;> exact hs _ (by decide +kernel)), va_AO.of (A := #[Value.ref b]) (hts _ (by decide +kernel))⟩
set_option maxHeartbeats 4000000 in
set_option maxRecDepth 100000 in
/-- THE LAW, from its entry -/
theorem whole_start {p : Program} {e : Env} {s : State} {m : MethodId} {below : List Frame} {meth : Method} {c : Code} (l : Launch) {b L : Nat} {xs : Nat → Int32} (hL : L ≤ 1536) (C0 : lw_At p s m meth c b L xs) : W p l e room_1 s m #[Value.ref b] below meth c s.heap [] 0 0 (lw_Z below #[Value.ref b] s) (entryFrame m ([Value.ref b] : List Value).toArray 4) := by
  obtain ⟨hx, hb, hr, hml, hown, hts, hX, hbl, hlocks, hgv⟩ := id C0
  have hk : ∀ w ∈ wk, w.before #[Value.ref b] s = true := fun w h => hts w (List.mem_filter.mp h).1
  have hA : ∀ q : Nat, s.heap.size ≤ q → LA s q := fun _ h => h
  have hSt := law_St hts hgv
  obtain ⟨c0, iS0, hKn0⟩ := u_known (C := R_World) (T := F_World) (N := 7) (n := 7) hk i_World (hk _ k_instW)
  obtain ⟨c1, iS1, hKn1⟩ := u_known (C := R_Suite) (T := F_Suite) (N := 5) (n := 5) hk i_Suite (hk _ k_instS)
  obtain ⟨c2, iS2, hKn2⟩ := u_known (C := R_Model) (T := F_Model) (N := 14) (n := 14) hk i_Model (hk _ k_instM)
  obtain ⟨D, hKc⟩ : ∃ D : va_G, ∀ (k : Nat) (q : vw_C), classes[k]? = some q → u_Kn s q.1 q.2.1 q.2.2 (D.1 k) (D.2 k) := by
    refine ⟨(fun k => if k = 0 then c0 else if k = 1 then c1 else c2, fun k => if k = 0 then iS0 else if k = 1 then iS1 else iS2), ?_⟩
    intro k q hq
    match k, hq with
    | 0, hq => cases hq; exact hKn0
    | 1, hq => cases hq; exact hKn1
    | 2, hq => cases hq; exact hKn2
    | k + 3, hq => simp [classes] at hq
  obtain ⟨cI, aI, rI⟩ := ex_int (hk _ k_arrInt)
  obtain ⟨cZ, aZ, rZ⟩ := ex_bool (hk _ k_arrBool)
  obtain ⟨cW, aW, rW⟩ := ex_W (va_AO.use (A := #[Value.ref b]) hSt.over)
  have hK1 : va_K D classes (tyC cI cW) s := ⟨hKc, fun k q h => by
    match k, h with
    | 0, h => cases h; exact ⟨aI, rI⟩
    | 1, h => cases h; exact ⟨aW, rW⟩
    | k + 2, h => simp at h⟩
  have hK2 : va_K D classes (tyZ cI cZ) s := ⟨hKc, fun k q h => by
    match k, h with
    | 0, h => cases h; exact ⟨aI, rI⟩
    | 1, h => cases h; exact ⟨aZ, rZ⟩
    | k + 2, h => simp at h⟩
  have hLX : LX p s m #[Value.ref b] c D cI cW cZ := ⟨hx, hb, hml, hown, hk, hSt, hK1, hK2⟩
  have hS : va_S (LA s) s.heap s.heap [] := va_S.rf
  have hP : va_P D classes [] s.heap := fun k q h => by simp at h
  have hD : va_D (LA s) [] := ⟨fun i j p q h => by simp at h, fun k q h => by simp at h⟩
  have hl := lv_entry ([.ref b]) (n := 4) (Nat.le_of_ble_eq_true rfl)
  rw [lg_entry_eq]
  generalize (lg_sl ([.ref b]) ++ List.replicate (4 - (lg_sl ([.ref b])).length) Slot.unset).toArray = ls at hl ⊢
  have hl : lv_has ls 4 [(0, .ref b)] := hl
  refine va_new (ci := 1) (fs := [.null, .int 0, .null, .null, .null]) (C := R_Suite) (T := F_Suite) (N := 5) hx hb hk i_Suite t_Suite t_Suite_ok hown (hk _ kl_law_7) (hk _ k_instS) (hk _ ki_Suite) hK1 hP hD hS hA rfl (fun j hj => by rcases (show j = 0 ∨ j = 1 ∨ j = 2 ∨ j = 3 ∨ j = 4 by omega) with rfl | rfl | rfl | rfl | rfl <;> rfl) (Nat.le_of_ble_eq_true rfl) (Nat.le_of_ble_eq_true rfl) d_law_0 (fun x H hP hD hS => ?_)
  refine lv_dup hx hb d_law_3 rfl ?_
  refine CMn.callI (wc := [(x, .inr (1, [.null, .int 0, .null, .null, .null]))]) (wr := []) (b := x) (av := []) (rest := [.ref x]) hx hb hml hown hk (c_Suite_init l D cI cW x) hK1 hP hD hS hA hSt hl.1 d_law_4 kc_Suite_init ki_Suite kl_law_9 kn_Suite_init rfl (n := 0) rfl (by decide +kernel) ⟨Nat.le_of_ble_eq_true rfl, Nat.le_of_ble_eq_true rfl⟩ rfl rfl (Nat.le_of_ble_eq_true rfl) ⟨Nat.le_of_ble_eq_true rfl, Nat.le_of_ble_eq_true rfl⟩ (fun u H locs hP hD hS => ?_)
  obtain ⟨xa, xk, xw⟩ := u
  refine lv_astore_n (lv' := [(1, .ref x), (0, .ref b)]) hx hb d_law_7 rfl hl (by decide) rfl (fun ls hl => ?_)
  refine va_new (ci := 2) (fs := [.null, .null, .null, .null, .null, .null, .null, .null, .null, .null, .int 0, .int 0, .null, .null]) (C := R_Model) (T := F_Model) (N := 14) hx hb hk i_Model t_Model t_Model_ok hown (hk _ kl_law_10) (hk _ k_instM) (hk _ ki_Model) hK2 hP hD hS hA rfl (fun j hj => by rcases (show j = 0 ∨ j = 1 ∨ j = 2 ∨ j = 3 ∨ j = 4 ∨ j = 5 ∨ j = 6 ∨ j = 7 ∨ j = 8 ∨ j = 9 ∨ j = 10 ∨ j = 11 ∨ j = 12 ∨ j = 13 by omega) with rfl | rfl | rfl | rfl | rfl | rfl | rfl | rfl | rfl | rfl | rfl | rfl | rfl | rfl <;> rfl) (Nat.le_of_ble_eq_true rfl) (Nat.le_of_ble_eq_true rfl) d_law_8 (fun o H hP hD hS => ?_)
  refine lv_dup hx hb d_law_11 rfl ?_
  have hP := P_perm List.perm_append_comm hP
  have hD := D_perm List.perm_append_comm hD
  refine CMn.callI (wc := [(o, .inr (2, [.null, .null, .null, .null, .null, .null, .null, .null, .null, .null, .int 0, .int 0, .null, .null]))]) (b := o) (av := []) (rest := [.ref o]) hx hb hml hown hk (c_M_new l D cI cZ o) hK2 hP hD hS hA hSt hl.1 d_law_12 kc_Model_init ki_Model kl_law_12 kn_Model_init rfl (n := 0) rfl (by decide +kernel) ⟨Nat.le_of_ble_eq_true rfl, Nat.le_of_ble_eq_true rfl⟩ rfl rfl (Nat.le_of_ble_eq_true rfl) ⟨Nat.le_of_ble_eq_true rfl, Nat.le_of_ble_eq_true rfl⟩ (fun u H locs hP hD hS => ?_)
  refine lv_astore_n (lv' := [(2, .ref o), (1, .ref x), (0, .ref b)]) hx hb d_law_15 rfl hl (by decide) rfl (fun ls hl => ?_)
  refine lv_iconst (v := 0) hx hb d_law_16 (by decide) ?_
  refine lv_istore_n (lv' := [(3, .int 0), (2, .ref o), (1, .ref x), (0, .ref b)]) hx hb d_law_17 rfl hl (by decide) rfl (fun ls hl => ?_)
  have hP := P_perm List.perm_append_comm hP
  have hD := D_perm List.perm_append_comm hD
  refine W.widen (k := 17 + 5 * 0) (n := 763 + 140 * 0) (by omega) (by omega) ?_
  exact law_loop (xa := xa) (xk := xk) (xw := xw) (o1 := u.1) (o2 := u.2.1) (o3 := u.2.2.1) (o4 := u.2.2.2.1) (o5 := u.2.2.2.2.1) (o6 := u.2.2.2.2.2.1) (o7 := u.2.2.2.2.2.2.1) (o8 := u.2.2.2.2.2.2.2.1) (o9 := u.2.2.2.2.2.2.2.2.1) (o10 := u.2.2.2.2.2.2.2.2.2.1) (o11 := u.2.2.2.2.2.2.2.2.2.2.1) (o12 := u.2.2.2.2.2.2.2.2.2.2.2) hLX hr hlocks hX hbl hL (L + 1) 0 (by omega) (by omega) H locs ⟨0, none, fun _ => (0, 0, 0, 0), fun _ => none, fun _ => nw 0 false, _, _, m0, SR_0 (fun i hi => by rcases (show i = 0 ∨ i = 1 ∨ i = 2 ∨ i = 3 ∨ i = 4 ∨ i = 5 by omega) with rfl | rfl | rfl | rfl | rfl | rfl <;> decide), fun j hj => absurd hj (by omega), hP, hD, hS⟩ ls (lv_sub hl [3, 2, 1, 0] rfl)

set_option maxHeartbeats 4000000 in
set_option maxRecDepth 100000 in
theorem c_asserting_0 (l : Launch) (D : va_G) (cI cW : ClassId) (x xa xk xw : Nat) (be : Int32) (f : (Nat → Option Nat)) (sk : (Nat → Int32)) (sl : (Nat → Int32))  (b : Bool)  (res : Int32) (hres : m_asserting_0 b = res) : CM l y_Suite_asserting b_Suite_asserting 2 .int ({ frames := 0, cells := 0, slots := 0, locals := 0 }) D (tyC cI cW) [.ref x, .int (bI b)] (S4 cI cW x xa xk xw be .null f sk sl) res (S4 cI cW x xa xk xw be .null f sk sl) := by
  refine CM_mk (by decide) (Nat.le_of_ble_eq_true rfl) ?_
  intro p e s m args below meth c A ls hx hb hr hml hown hk hlocks hA hSt hK hP hD hS hl
  have hown : s.vm.findClass R_Suite = some m.cls := hown
  have hl : lv_has ls 2 [(0, .ref x), (1, .int (bI b))] := hl
  refine lv_aload_n hx hb d_Suite_asserting_0 rfl (lv_at hl 0 rfl) ?_
  refine va_get (D := D) (ci := 1) (v := .null) (C := R_Suite) (T := F_Suite) (N := 5) hx hb hk i_Suite hown hK hP 0 rfl rfl 2 (by decide) (hk _ kl_Suite_29) (fun _ h9 => h9) rfl d_Suite_asserting_1 ?_
  refine lv_ifnonnullN hx hb d_Suite_asserting_4 ?_
  refine lv_bipush (v := (-2 : Int32)) hx hb d_Suite_asserting_7 (by decide) ?_
  obtain rfl : res = (-2 : Int32) := hres.symm.trans rfl
  exact CM_iret hx hb hr hlocks hP hK hD hS d_Suite_asserting_9
set_option maxHeartbeats 4000000 in
set_option maxRecDepth 100000 in
theorem c_asserting_1 (l : Launch) (D : va_G) (cI cW : ClassId) (q qn qv qs x xa xk xw : Nat) (be : Int32) (f : (Nat → Option Nat)) (sk : (Nat → Int32)) (sl : (Nat → Int32))  (b : Bool) (w : MW)  (z1 : MW) (z2 : Int32) (hres : m_asserting_1 b w = (z1, z2)) : CM l y_Suite_asserting b_Suite_asserting 2 .int ({ frames := 0, cells := 0, slots := 0, locals := 0 }) D (tyC cI cW) [.ref x, .int (bI b)] (W4 cI q qn qv qs w ++ S4 cI cW x xa xk xw be (.ref q) f sk sl) z2 (W4 cI q qn qv qs z1 ++ S4 cI cW x xa xk xw be (.ref q) f sk sl) := by
  refine CM_mk (by decide) (Nat.le_of_ble_eq_true rfl) ?_
  intro p e s m args below meth c A ls hx hb hr hml hown hk hlocks hA hSt hK hP hD hS hl
  have hown : s.vm.findClass R_Suite = some m.cls := hown
  have hl : lv_has ls 2 [(0, .ref x), (1, .int (bI b))] := hl
  refine lv_aload_n hx hb d_Suite_asserting_0 rfl (lv_at hl 0 rfl) ?_
  refine va_get (D := D) (ci := 1) (v := .ref q) (C := R_Suite) (T := F_Suite) (N := 5) hx hb hk i_Suite hown hK hP 4 rfl rfl 2 (by decide) (hk _ kl_Suite_29) (fun _ h9 => h9) rfl d_Suite_asserting_1 ?_
  refine lv_ifnonnull (tgt := 10) hx hb d_Suite_asserting_4 (by decide) ?_
  refine lv_aload_n hx hb d_Suite_asserting_10 rfl (lv_at hl 0 rfl) ?_
  refine va_get (D := D) (ci := 1) (v := .ref q) (C := R_Suite) (T := F_Suite) (N := 5) hx hb hk i_Suite hown hK hP 4 rfl rfl 2 (by decide) (hk _ kl_Suite_29) (fun _ h9 => h9) rfl d_Suite_asserting_11 ?_
  refine lv_iload_n hx hb d_Suite_asserting_14 rfl (lv_at hl 1 rfl) ?_
  refine va_put (D := D) (ci := 0) (v := .int (bI b)) (ty := .boolean) (C := R_World) (T := F_World) (N := 7) hx hb hk i_World t_World t_World_ok n_World hown hK hP hD hS 0 rfl rfl 5 (by decide) (hk _ kl_Suite_36) (fun _ h9 => h9) rfl (by decide +kernel) (bI_nar _) (bI_fit _) (Nat.le_of_ble_eq_true rfl) d_Suite_asserting_15 (fun H locs hP hD hS => ?_)
  have hP : va_P D classes (W4 cI q qn qv qs (sSw w b) ++ S4 cI cW x xa xk xw be (.ref q) f sk sl) H := hP
  have hD : va_D A (W4 cI q qn qv qs (sSw w b) ++ S4 cI cW x xa xk xw be (.ref q) f sk sl) := hD
  refine lv_iconst (v := (0 : Int32)) hx hb d_Suite_asserting_18 (by decide) ?_
  obtain ⟨rfl, rfl⟩ : z1 = (sSw w b) ∧ z2 = (0 : Int32) := Prod.mk.inj (hres.symm.trans rfl)
  exact CM_iret hx hb hr hlocks hP hK hD hS d_Suite_asserting_19
set_option maxHeartbeats 4000000 in
set_option maxRecDepth 100000 in
theorem c_act_0 (l : Launch) (D : va_G) (cI cW : ClassId) (x xa xk xw : Nat) (be : Int32) (f : (Nat → Option Nat)) (sk : (Nat → Int32)) (sl : (Nat → Int32))  (k : Int32) (a : Int32)  (res : Int32) (hres : m_act_0 k a = res) : CM l y_Suite_act b_Suite_act 3 .int ({ frames := 1, cells := 0, slots := 0, locals := 20 }) D (tyC cI cW) [.ref x, .int k, .int a] (S4 cI cW x xa xk xw be .null f sk sl) res (S4 cI cW x xa xk xw be .null f sk sl) := by
  refine CM_mk (by decide) (Nat.le_of_ble_eq_true rfl) ?_
  intro p e s m args below meth c A ls hx hb hr hml hown hk hlocks hA hSt hK hP hD hS hl
  have hown : s.vm.findClass R_Suite = some m.cls := hown
  have hl : lv_has ls 3 [(0, .ref x), (1, .int k), (2, .int a)] := hl
  refine lv_iload_n hx hb d_Suite_act_0 rfl (lv_at hl 1 rfl) ?_
  refine CM.callS (wc := []) (wr := S4 cI cW x xa xk xw be .null f sk sl) (av := [.int k]) (rest := []) hx hb hml hown hk (c_Acts_isThere l D cI cW k _ rfl) hK hP hD hS hA hSt hl.1 d_Suite_act_1 kc_Acts_isThere ki_Acts kl_Suite_40 ks_Acts_isThere (n := 1) rfl (by decide +kernel) ⟨Nat.le_of_ble_eq_true rfl, Nat.le_of_ble_eq_true rfl⟩ rfl rfl (Nat.le_of_ble_eq_true rfl) ⟨Nat.zero_le _, Nat.zero_le _⟩ (fun H locs hP hD hS => ?_)
  have hP : va_P D classes (S4 cI cW x xa xk xw be .null f sk sl) H := hP
  have hD : va_D A (S4 cI cW x xa xk xw be .null f sk sl) := hD
  refine lv_if_ne (tgt := 9) hx hb d_Suite_act_4 (by decide) (fun c_4 => ?_) (fun c_4 => ?_)
  · refine lv_aload_n hx hb d_Suite_act_9 rfl (lv_at hl 0 rfl) ?_
    refine va_get (D := D) (ci := 1) (v := .null) (C := R_Suite) (T := F_Suite) (N := 5) hx hb hk i_Suite hown hK hP 0 rfl rfl 2 (by decide) (hk _ kl_Suite_29) (fun _ h9 => h9) rfl d_Suite_act_10 ?_
    refine lv_ifnonnullN hx hb d_Suite_act_13 ?_
    refine lv_bipush (v := (-2 : Int32)) hx hb d_Suite_act_16 (by decide) ?_
    obtain rfl : res = (-2 : Int32) := hres.symm.trans ((if_neg c_4).trans rfl)
    exact CM_iret hx hb hr hlocks hP hK hD hS d_Suite_act_18
  · refine lv_iconst (v := (-1 : Int32)) hx hb d_Suite_act_7 (by decide) ?_
    obtain rfl : res = (-1 : Int32) := hres.symm.trans ((if_pos c_4).trans rfl)
    exact CM_iret hx hb hr hlocks hP hK hD hS d_Suite_act_8
set_option maxHeartbeats 4000000 in
set_option maxRecDepth 100000 in
theorem c_act_1 (l : Launch) (D : va_G) (cI cW : ClassId) (q qn qv qs x xa xk xw : Nat) (be : Int32) (f : (Nat → Option Nat)) (sk : (Nat → Int32)) (sl : (Nat → Int32))  (k : Int32) (a : Int32) (w : MW) (ho : ok 4 w) (z1 : MW) (z2 : Int32) (hres : m_act_1 k a w = (z1, z2)) : CM l y_Suite_act b_Suite_act 3 .int ({ frames := 133, cells := 0, slots := 0, locals := 5267 }) D (tyC cI cW) [.ref x, .int k, .int a] (W4 cI q qn qv qs w ++ S4 cI cW x xa xk xw be (.ref q) f sk sl) z2 (W4 cI q qn qv qs z1 ++ S4 cI cW x xa xk xw be (.ref q) f sk sl) := by
  refine CM_mk (by decide) (Nat.le_of_ble_eq_true rfl) ?_
  intro p e s m args below meth c A ls hx hb hr hml hown hk hlocks hA hSt hK hP hD hS hl
  have hown : s.vm.findClass R_Suite = some m.cls := hown
  have hl : lv_has ls 3 [(0, .ref x), (1, .int k), (2, .int a)] := hl
  refine lv_iload_n hx hb d_Suite_act_0 rfl (lv_at hl 1 rfl) ?_
  refine CM.callS (wc := []) (wr := W4 cI q qn qv qs w ++ S4 cI cW x xa xk xw be (.ref q) f sk sl) (av := [.int k]) (rest := []) hx hb hml hown hk (c_Acts_isThere l D cI cW k _ rfl) hK hP hD hS hA hSt hl.1 d_Suite_act_1 kc_Acts_isThere ki_Acts kl_Suite_40 ks_Acts_isThere (n := 1) rfl (by decide +kernel) ⟨Nat.le_of_ble_eq_true rfl, Nat.le_of_ble_eq_true rfl⟩ rfl rfl (Nat.le_of_ble_eq_true rfl) ⟨Nat.zero_le _, Nat.zero_le _⟩ (fun H locs hP hD hS => ?_)
  have hP : va_P D classes (W4 cI q qn qv qs w ++ S4 cI cW x xa xk xw be (.ref q) f sk sl) H := hP
  have hD : va_D A (W4 cI q qn qv qs w ++ S4 cI cW x xa xk xw be (.ref q) f sk sl) := hD
  refine lv_if_ne (tgt := 9) hx hb d_Suite_act_4 (by decide) (fun c_4 => ?_) (fun c_4 => ?_)
  · refine lv_aload_n hx hb d_Suite_act_9 rfl (lv_at hl 0 rfl) ?_
    refine va_get (D := D) (ci := 1) (v := .ref q) (C := R_Suite) (T := F_Suite) (N := 5) hx hb hk i_Suite hown hK hP 4 rfl rfl 2 (by decide) (hk _ kl_Suite_29) (fun _ h9 => h9) rfl d_Suite_act_10 ?_
    refine lv_ifnonnull (tgt := 19) hx hb d_Suite_act_13 (by decide) ?_
    refine lv_aload_n hx hb d_Suite_act_19 rfl (lv_at hl 0 rfl) ?_
    refine va_get (D := D) (ci := 1) (v := .ref q) (C := R_Suite) (T := F_Suite) (N := 5) hx hb hk i_Suite hown hK hP 4 rfl rfl 2 (by decide) (hk _ kl_Suite_29) (fun _ h9 => h9) rfl d_Suite_act_20 ?_
    refine lv_iload_n hx hb d_Suite_act_23 rfl (lv_at hl 1 rfl) ?_
    refine lv_iload_n hx hb d_Suite_act_24 rfl (lv_at hl 2 rfl) ?_
    refine CM.callS (wc := W4 cI q qn qv qs w) (wr := S4 cI cW x xa xk xw be (.ref q) f sk sl) (av := [.ref q, .int k, .int a]) (rest := []) hx hb hml hown hk (c_Acts_outcome l D cI cW q qn qv qs k a w (aThere_in c_4) ho _ _ (pe2 _)) hK hP hD hS hA hSt hl.1 d_Suite_act_25 kc_Acts_outcome ki_Acts kl_Suite_46 ks_Acts_outcome (n := 3) rfl (by decide +kernel) ⟨Nat.le_of_ble_eq_true rfl, Nat.le_of_ble_eq_true rfl⟩ rfl rfl (Nat.le_of_ble_eq_true rfl) ⟨Nat.zero_le _, Nat.zero_le _⟩ (fun H locs hP hD hS => ?_)
    have hP : va_P D classes (W4 cI q qn qv qs ((m_Acts_outcome k a w).1) ++ S4 cI cW x xa xk xw be (.ref q) f sk sl) H := hP
    have hD : va_D A (W4 cI q qn qv qs ((m_Acts_outcome k a w).1) ++ S4 cI cW x xa xk xw be (.ref q) f sk sl) := hD
    obtain ⟨rfl, rfl⟩ : z1 = (m_Acts_outcome k a w).1 ∧ z2 = (m_Acts_outcome k a w).2 := Prod.mk.inj (hres.symm.trans ((if_neg c_4).trans rfl))
    exact CM_iret hx hb hr hlocks hP hK hD hS d_Suite_act_28
  · refine lv_iconst (v := (-1 : Int32)) hx hb d_Suite_act_7 (by decide) ?_
    obtain ⟨rfl, rfl⟩ : z1 = w ∧ z2 = (-1 : Int32) := Prod.mk.inj (hres.symm.trans ((if_pos c_4).trans rfl))
    exact CM_iret hx hb hr hlocks hP hK hD hS d_Suite_act_8
set_option maxHeartbeats 4000000 in
set_option maxRecDepth 100000 in
theorem c_find_0 (l : Launch) (D : va_G) (cI cW : ClassId) (x xa xk xw : Nat) (be : Int32) (f : (Nat → Option Nat)) (sk : (Nat → Int32)) (sl : (Nat → Int32))  (k : Int32) (b : Bool)  (res : Int32) (hres : m_find_0 k b = res) : CM l y_Suite_find b_Suite_find 3 .int ({ frames := 1, cells := 0, slots := 0, locals := 20 }) D (tyC cI cW) [.ref x, .int k, .int (bI b)] (S4 cI cW x xa xk xw be .null f sk sl) res (S4 cI cW x xa xk xw be .null f sk sl) := by
  refine CM_mk (by decide) (Nat.le_of_ble_eq_true rfl) ?_
  intro p e s m args below meth c A ls hx hb hr hml hown hk hlocks hA hSt hK hP hD hS hl
  have hown : s.vm.findClass R_Suite = some m.cls := hown
  have hl : lv_has ls 3 [(0, .ref x), (1, .int k), (2, .int (bI b))] := hl
  refine lv_iload_n hx hb d_Suite_find_0 rfl (lv_at hl 1 rfl) ?_
  refine CM.callS (wc := []) (wr := S4 cI cW x xa xk xw be .null f sk sl) (av := [.int k]) (rest := []) hx hb hml hown hk (c_Kinds_isThere l D cI cW k _ rfl) hK hP hD hS hA hSt hl.1 d_Suite_find_1 kc_Kinds_isThere ki_Kinds kl_Suite_50 ks_Kinds_isThere (n := 1) rfl (by decide +kernel) ⟨Nat.le_of_ble_eq_true rfl, Nat.le_of_ble_eq_true rfl⟩ rfl rfl (Nat.le_of_ble_eq_true rfl) ⟨Nat.zero_le _, Nat.zero_le _⟩ (fun H locs hP hD hS => ?_)
  have hP : va_P D classes (S4 cI cW x xa xk xw be .null f sk sl) H := hP
  have hD : va_D A (S4 cI cW x xa xk xw be .null f sk sl) := hD
  refine lv_if_ne (tgt := 9) hx hb d_Suite_find_4 (by decide) (fun c_4 => ?_) (fun c_4 => ?_)
  · refine lv_aload_n hx hb d_Suite_find_9 rfl (lv_at hl 0 rfl) ?_
    refine va_get (D := D) (ci := 1) (v := .null) (C := R_Suite) (T := F_Suite) (N := 5) hx hb hk i_Suite hown hK hP 0 rfl rfl 2 (by decide) (hk _ kl_Suite_29) (fun _ h9 => h9) rfl d_Suite_find_10 ?_
    refine lv_ifnonnullN hx hb d_Suite_find_13 ?_
    refine lv_bipush (v := (-2 : Int32)) hx hb d_Suite_find_16 (by decide) ?_
    obtain rfl : res = (-2 : Int32) := hres.symm.trans ((if_neg c_4).trans rfl)
    exact CM_iret hx hb hr hlocks hP hK hD hS d_Suite_find_18
  · refine lv_iconst (v := (-1 : Int32)) hx hb d_Suite_find_7 (by decide) ?_
    obtain rfl : res = (-1 : Int32) := hres.symm.trans ((if_pos c_4).trans rfl)
    exact CM_iret hx hb hr hlocks hP hK hD hS d_Suite_find_8
set_option maxHeartbeats 4000000 in
set_option maxRecDepth 100000 in
theorem c_find_1 (l : Launch) (D : va_G) (cI cW : ClassId) (q qn qv qs x xa xk xw : Nat) (be : Int32) (f : (Nat → Option Nat)) (sk : (Nat → Int32)) (sl : (Nat → Int32))  (k : Int32) (b : Bool) (w : MW) (ho : ok 4 w) (z1 : MW) (z2 : Int32) (hres : m_find_1 k b w = (z1, z2)) : CM l y_Suite_find b_Suite_find 3 .int ({ frames := 132, cells := 0, slots := 0, locals := 5244 }) D (tyC cI cW) [.ref x, .int k, .int (bI b)] (W4 cI q qn qv qs w ++ S4 cI cW x xa xk xw be (.ref q) f sk sl) z2 (W4 cI q qn qv qs z1 ++ S4 cI cW x xa xk xw be (.ref q) f sk sl) := by
  refine CM_mk (by decide) (Nat.le_of_ble_eq_true rfl) ?_
  intro p e s m args below meth c A ls hx hb hr hml hown hk hlocks hA hSt hK hP hD hS hl
  have hown : s.vm.findClass R_Suite = some m.cls := hown
  have hl : lv_has ls 3 [(0, .ref x), (1, .int k), (2, .int (bI b))] := hl
  refine lv_iload_n hx hb d_Suite_find_0 rfl (lv_at hl 1 rfl) ?_
  refine CM.callS (wc := []) (wr := W4 cI q qn qv qs w ++ S4 cI cW x xa xk xw be (.ref q) f sk sl) (av := [.int k]) (rest := []) hx hb hml hown hk (c_Kinds_isThere l D cI cW k _ rfl) hK hP hD hS hA hSt hl.1 d_Suite_find_1 kc_Kinds_isThere ki_Kinds kl_Suite_50 ks_Kinds_isThere (n := 1) rfl (by decide +kernel) ⟨Nat.le_of_ble_eq_true rfl, Nat.le_of_ble_eq_true rfl⟩ rfl rfl (Nat.le_of_ble_eq_true rfl) ⟨Nat.zero_le _, Nat.zero_le _⟩ (fun H locs hP hD hS => ?_)
  have hP : va_P D classes (W4 cI q qn qv qs w ++ S4 cI cW x xa xk xw be (.ref q) f sk sl) H := hP
  have hD : va_D A (W4 cI q qn qv qs w ++ S4 cI cW x xa xk xw be (.ref q) f sk sl) := hD
  refine lv_if_ne (tgt := 9) hx hb d_Suite_find_4 (by decide) (fun c_4 => ?_) (fun c_4 => ?_)
  · refine lv_aload_n hx hb d_Suite_find_9 rfl (lv_at hl 0 rfl) ?_
    refine va_get (D := D) (ci := 1) (v := .ref q) (C := R_Suite) (T := F_Suite) (N := 5) hx hb hk i_Suite hown hK hP 4 rfl rfl 2 (by decide) (hk _ kl_Suite_29) (fun _ h9 => h9) rfl d_Suite_find_10 ?_
    refine lv_ifnonnull (tgt := 19) hx hb d_Suite_find_13 (by decide) ?_
    refine lv_iload_n hx hb d_Suite_find_19 rfl (lv_at hl 2 rfl) ?_
    refine lv_if_eq (tgt := 34) hx hb d_Suite_find_20 (by decide) (fun c_20 => ?_) (fun c_20 => ?_)
    · refine lv_iconst (v := (0 : Int32)) hx hb d_Suite_find_34 (by decide) ?_
      obtain ⟨rfl, rfl⟩ : z1 = w ∧ z2 = (0 : Int32) := Prod.mk.inj (hres.symm.trans ((if_neg c_4).trans ((if_pos c_20).trans rfl)))
      exact CM_iret hx hb hr hlocks hP hK hD hS d_Suite_find_35
    · refine lv_aload_n hx hb d_Suite_find_23 rfl (lv_at hl 0 rfl) ?_
      refine va_get (D := D) (ci := 1) (v := .ref q) (C := R_Suite) (T := F_Suite) (N := 5) hx hb hk i_Suite hown hK hP 4 rfl rfl 2 (by decide) (hk _ kl_Suite_29) (fun _ h9 => h9) rfl d_Suite_find_24 ?_
      refine lv_iload_n hx hb d_Suite_find_27 rfl (lv_at hl 1 rfl) ?_
      refine CM.callV (wc := W4 cI q qn qv qs w) (wr := S4 cI cW x xa xk xw be (.ref q) f sk sl) (b := q) (av := [.int k]) (rest := []) hx hb hml hown hk (c_World_initialise l D cI cW q qn qv qs k w (ok_mono ho (by decide)) _ _ (pe2 _)) hK hP hD hS hA hSt hl.1 (va_recv hK hP (ci := 0) (q0 := 0) rfl rfl) d_Suite_find_28 kc_World_initialise ki_World kl_Suite_53 kn_World_initialise kx_World_initialise (n := 1) rfl (by decide +kernel) ⟨Nat.le_of_ble_eq_true rfl, Nat.le_of_ble_eq_true rfl⟩ rfl rfl (Nat.le_of_ble_eq_true rfl) ⟨Nat.zero_le _, Nat.zero_le _⟩ (fun H locs hP hD hS => ?_)
      have hP : va_P D classes (W4 cI q qn qv qs ((m_World_initialise k w).1) ++ S4 cI cW x xa xk xw be (.ref q) f sk sl) H := hP
      have hD : va_D A (W4 cI q qn qv qs ((m_World_initialise k w).1) ++ S4 cI cW x xa xk xw be (.ref q) f sk sl) := hD
      refine lv_goto (tgt := 35) hx hb d_Suite_find_31 (by decide) ?_
      obtain ⟨rfl, rfl⟩ : z1 = (m_World_initialise k w).1 ∧ z2 = (m_World_initialise k w).2 := Prod.mk.inj (hres.symm.trans ((if_neg c_4).trans ((if_neg c_20).trans rfl)))
      exact CM_iret hx hb hr hlocks hP hK hD hS d_Suite_find_35
  · refine lv_iconst (v := (-1 : Int32)) hx hb d_Suite_find_7 (by decide) ?_
    obtain ⟨rfl, rfl⟩ : z1 = w ∧ z2 = (-1 : Int32) := Prod.mk.inj (hres.symm.trans ((if_pos c_4).trans rfl))
    exact CM_iret hx hb hr hlocks hP hK hD hS d_Suite_find_8
set_option maxHeartbeats 4000000 in
set_option maxRecDepth 100000 in
theorem c_keep_0 (l : Launch) (D : va_G) (cI cW : ClassId) (x xa xk xw : Nat) (be : Int32) (f : (Nat → Option Nat)) (sk : (Nat → Int32)) (sl : (Nat → Int32))  (i : Int32) (k : Int32)  (res : Int32) (hres : m_keep_0 i k = res) : CM l y_Suite_keep b_Suite_keep 4 .int ({ frames := 1, cells := 0, slots := 0, locals := 20 }) D (tyC cI cW) [.ref x, .int i, .int k] (S4 cI cW x xa xk xw be .null f sk sl) res (S4 cI cW x xa xk xw be .null f sk sl) := by
  refine CM_mk (by decide) (Nat.le_of_ble_eq_true rfl) ?_
  intro p e s m args below meth c A ls hx hb hr hml hown hk hlocks hA hSt hK hP hD hS hl
  have hown : s.vm.findClass R_Suite = some m.cls := hown
  have hl : lv_has ls 4 [(0, .ref x), (1, .int i), (2, .int k)] := hl
  obtain ⟨t_KEPT, hZ_KEPT, hT_KEPT⟩ := hSt.KEPT
  refine lv_iload_n hx hb d_Suite_keep_0 rfl (lv_at hl 1 rfl) ?_
  refine CM.callS (wc := []) (wr := S4 cI cW x xa xk xw be .null f sk sl) (av := [.int i]) (rest := []) hx hb hml hown hk (c_Suite_isSlot l D cI cW i _ rfl) hK hP hD hS hA hSt hl.1 d_Suite_keep_1 kc_Suite_isSlot ki_Suite kl_Suite_57 ks_Suite_isSlot (n := 1) rfl (by decide +kernel) ⟨Nat.le_of_ble_eq_true rfl, Nat.le_of_ble_eq_true rfl⟩ rfl rfl (Nat.le_of_ble_eq_true rfl) ⟨Nat.zero_le _, Nat.zero_le _⟩ (fun H locs hP hD hS => ?_)
  have hP : va_P D classes (S4 cI cW x xa xk xw be .null f sk sl) H := hP
  have hD : va_D A (S4 cI cW x xa xk xw be .null f sk sl) := hD
  refine lv_if_eq (tgt := 19) hx hb d_Suite_keep_4 (by decide) (fun c_4 => ?_) (fun c_4 => ?_)
  · refine lv_iconst (v := (-1 : Int32)) hx hb d_Suite_keep_19 (by decide) ?_
    obtain rfl : res = (-1 : Int32) := hres.symm.trans ((if_pos c_4).trans rfl)
    exact CM_iret hx hb hr hlocks hP hK hD hS d_Suite_keep_20
  · refine lv_iload_n hx hb d_Suite_keep_7 rfl (lv_at hl 2 rfl) ?_
    refine lv_if_lt (tgt := 19) hx hb d_Suite_keep_8 (by decide) (fun c_8 => ?_) (fun c_8 => ?_)
    · refine lv_iconst (v := (-1 : Int32)) hx hb d_Suite_keep_19 (by decide) ?_
      obtain rfl : res = (-1 : Int32) := hres.symm.trans ((if_neg c_4).trans ((if_pos c_8).trans rfl))
      exact CM_iret hx hb hr hlocks hP hK hD hS d_Suite_keep_20
    · refine lv_iload_n hx hb d_Suite_keep_11 rfl (lv_at hl 2 rfl) ?_
      refine va_gets hx hb hZ_KEPT hS hown (hk _ kl_Suite_60) (fun _ h9 => h9) d_Suite_keep_12 ?_
      refine va_tlen hx hb hT_KEPT hS (v := (6 : Int32)) (by decide) d_Suite_keep_15 ?_
      refine lv_icmp_lt (tgt := 21) hx hb d_Suite_keep_16 (by decide) (fun c_16 => ?_) (fun c_16 => ?_)
      · refine lv_aload_n hx hb d_Suite_keep_21 rfl (lv_at hl 0 rfl) ?_
        refine va_get (D := D) (ci := 1) (v := .null) (C := R_Suite) (T := F_Suite) (N := 5) hx hb hk i_Suite hown hK hP 0 rfl rfl 2 (by decide) (hk _ kl_Suite_29) (fun _ h9 => h9) rfl d_Suite_keep_22 ?_
        refine lv_ifnonnullN hx hb d_Suite_keep_25 ?_
        refine lv_bipush (v := (-2 : Int32)) hx hb d_Suite_keep_28 (by decide) ?_
        obtain rfl : res = (-2 : Int32) := hres.symm.trans ((if_neg c_4).trans ((if_neg c_8).trans ((if_pos c_16).trans rfl)))
        exact CM_iret hx hb hr hlocks hP hK hD hS d_Suite_keep_30
      · refine lv_iconst (v := (-1 : Int32)) hx hb d_Suite_keep_19 (by decide) ?_
        obtain rfl : res = (-1 : Int32) := hres.symm.trans ((if_neg c_4).trans ((if_neg c_8).trans ((if_neg c_16).trans rfl)))
        exact CM_iret hx hb hr hlocks hP hK hD hS d_Suite_keep_20
set_option maxHeartbeats 4000000 in
set_option maxRecDepth 100000 in
theorem c_keep_1 (l : Launch) (D : va_G) (cI cW : ClassId) (q qn qv qs x xa xk xw : Nat) (be : Int32) (f : (Nat → Option Nat))  (i : Int32) (k : Int32) (w : MW) (sk : (Nat → Int32)) (sl : (Nat → Int32)) (ho : ok 4 w) (z1 : MW) (z2 : (Nat → Int32)) (z3 : (Nat → Int32)) (z4 : Int32) (hres : m_keep_1 i k w sk sl = (z1, z2, z3, z4)) : CM l y_Suite_keep b_Suite_keep 4 .int ({ frames := 132, cells := 0, slots := 0, locals := 5244 }) D (tyC cI cW) [.ref x, .int i, .int k] (W4 cI q qn qv qs w ++ S4 cI cW x xa xk xw be (.ref q) f sk sl) z4 (W4 cI q qn qv qs z1 ++ S4 cI cW x xa xk xw be (.ref q) f z2 z3) := by
  refine CM_mk (by decide) (Nat.le_of_ble_eq_true rfl) ?_
  intro p e s m args below meth c A ls hx hb hr hml hown hk hlocks hA hSt hK hP hD hS hl
  have hown : s.vm.findClass R_Suite = some m.cls := hown
  have hl : lv_has ls 4 [(0, .ref x), (1, .int i), (2, .int k)] := hl
  obtain ⟨t_KEPT, hZ_KEPT, hT_KEPT⟩ := hSt.KEPT
  refine lv_iload_n hx hb d_Suite_keep_0 rfl (lv_at hl 1 rfl) ?_
  refine CM.callS (wc := []) (wr := W4 cI q qn qv qs w ++ S4 cI cW x xa xk xw be (.ref q) f sk sl) (av := [.int i]) (rest := []) hx hb hml hown hk (c_Suite_isSlot l D cI cW i _ rfl) hK hP hD hS hA hSt hl.1 d_Suite_keep_1 kc_Suite_isSlot ki_Suite kl_Suite_57 ks_Suite_isSlot (n := 1) rfl (by decide +kernel) ⟨Nat.le_of_ble_eq_true rfl, Nat.le_of_ble_eq_true rfl⟩ rfl rfl (Nat.le_of_ble_eq_true rfl) ⟨Nat.zero_le _, Nat.zero_le _⟩ (fun H locs hP hD hS => ?_)
  have hP : va_P D classes (W4 cI q qn qv qs w ++ S4 cI cW x xa xk xw be (.ref q) f sk sl) H := hP
  have hD : va_D A (W4 cI q qn qv qs w ++ S4 cI cW x xa xk xw be (.ref q) f sk sl) := hD
  refine lv_if_eq (tgt := 19) hx hb d_Suite_keep_4 (by decide) (fun c_4 => ?_) (fun c_4 => ?_)
  · refine lv_iconst (v := (-1 : Int32)) hx hb d_Suite_keep_19 (by decide) ?_
    obtain ⟨rfl, rfl, rfl, rfl⟩ : z1 = w ∧ z2 = sk ∧ z3 = sl ∧ z4 = (-1 : Int32) := inj4 (hres.symm.trans ((if_pos c_4).trans rfl))
    exact CM_iret hx hb hr hlocks hP hK hD hS d_Suite_keep_20
  · refine lv_iload_n hx hb d_Suite_keep_7 rfl (lv_at hl 2 rfl) ?_
    refine lv_if_lt (tgt := 19) hx hb d_Suite_keep_8 (by decide) (fun c_8 => ?_) (fun c_8 => ?_)
    · refine lv_iconst (v := (-1 : Int32)) hx hb d_Suite_keep_19 (by decide) ?_
      obtain ⟨rfl, rfl, rfl, rfl⟩ : z1 = w ∧ z2 = sk ∧ z3 = sl ∧ z4 = (-1 : Int32) := inj4 (hres.symm.trans ((if_neg c_4).trans ((if_pos c_8).trans rfl)))
      exact CM_iret hx hb hr hlocks hP hK hD hS d_Suite_keep_20
    · refine lv_iload_n hx hb d_Suite_keep_11 rfl (lv_at hl 2 rfl) ?_
      refine va_gets hx hb hZ_KEPT hS hown (hk _ kl_Suite_60) (fun _ h9 => h9) d_Suite_keep_12 ?_
      refine va_tlen hx hb hT_KEPT hS (v := (6 : Int32)) (by decide) d_Suite_keep_15 ?_
      refine lv_icmp_lt (tgt := 21) hx hb d_Suite_keep_16 (by decide) (fun c_16 => ?_) (fun c_16 => ?_)
      · refine lv_aload_n hx hb d_Suite_keep_21 rfl (lv_at hl 0 rfl) ?_
        refine va_get (D := D) (ci := 1) (v := .ref q) (C := R_Suite) (T := F_Suite) (N := 5) hx hb hk i_Suite hown hK hP 4 rfl rfl 2 (by decide) (hk _ kl_Suite_29) (fun _ h9 => h9) rfl d_Suite_keep_22 ?_
        refine lv_ifnonnull (tgt := 31) hx hb d_Suite_keep_25 (by decide) ?_
        refine va_gets hx hb hZ_KEPT hS hown (hk _ kl_Suite_60) (fun _ h9 => h9) d_Suite_keep_31 ?_
        refine lv_iload_n hx hb d_Suite_keep_34 rfl (lv_at hl 2 rfl) ?_
        refine va_ti (v := .int (fKEPT k.toNatClampNeg)) hx hb hT_KEPT hS (in_r (n := 6) (by decide) c_8 (Int32.not_le.mpr c_16)) rfl d_Suite_keep_35 ?_
        refine lv_istore_n (lv' := [(3, .int (fKEPT k.toNatClampNeg)), (0, .ref x), (1, .int i), (2, .int k)]) hx hb d_Suite_keep_36 rfl hl (by decide) rfl (fun ls hl => ?_)
        refine lv_aload_n hx hb d_Suite_keep_37 rfl (lv_at hl 1 rfl) ?_
        refine va_get (D := D) (ci := 1) (v := .ref q) (C := R_Suite) (T := F_Suite) (N := 5) hx hb hk i_Suite hown hK hP 4 rfl rfl 2 (by decide) (hk _ kl_Suite_29) (fun _ h9 => h9) rfl d_Suite_keep_38 ?_
        refine lv_iload_n hx hb d_Suite_keep_41 rfl (lv_at hl 0 rfl) ?_
        refine CM.callV (wc := W4 cI q qn qv qs w) (wr := S4 cI cW x xa xk xw be (.ref q) f sk sl) (b := q) (av := [.int (fKEPT k.toNatClampNeg)]) (rest := []) hx hb hml hown hk (c_World_initialise l D cI cW q qn qv qs (fKEPT k.toNatClampNeg) w (ok_mono ho (by decide)) _ _ (pe2 _)) hK hP hD hS hA hSt hl.1 (va_recv hK hP (ci := 0) (q0 := 0) rfl rfl) d_Suite_keep_42 kc_World_initialise ki_World kl_Suite_53 kn_World_initialise kx_World_initialise (n := 1) rfl (by decide +kernel) ⟨Nat.le_of_ble_eq_true rfl, Nat.le_of_ble_eq_true rfl⟩ rfl rfl (Nat.le_of_ble_eq_true rfl) ⟨Nat.zero_le _, Nat.zero_le _⟩ (fun H locs hP hD hS => ?_)
        have hP : va_P D classes (W4 cI q qn qv qs ((m_World_initialise (fKEPT k.toNatClampNeg) w).1) ++ S4 cI cW x xa xk xw be (.ref q) f sk sl) H := hP
        have hD : va_D A (W4 cI q qn qv qs ((m_World_initialise (fKEPT k.toNatClampNeg) w).1) ++ S4 cI cW x xa xk xw be (.ref q) f sk sl) := hD
        refine lv_pop hx hb d_Suite_keep_45 rfl ?_
        refine lv_aload_n hx hb d_Suite_keep_46 rfl (lv_at hl 1 rfl) ?_
        refine va_get (D := D) (ci := 1) (v := .ref q) (C := R_Suite) (T := F_Suite) (N := 5) hx hb hk i_Suite hown hK hP 4 rfl rfl 2 (by decide) (hk _ kl_Suite_29) (fun _ h9 => h9) rfl d_Suite_keep_47 ?_
        refine lv_iload_n hx hb d_Suite_keep_50 rfl (lv_at hl 0 rfl) ?_
        refine CMv.callV (wc := W4 cI q qn qv qs ((m_World_initialise (fKEPT k.toNatClampNeg) w).1)) (wr := S4 cI cW x xa xk xw be (.ref q) f sk sl) (b := q) (av := [.int (fKEPT k.toNatClampNeg)]) (rest := []) hx hb hml hown hk (c_World_construct l D cI cW q qn qv qs (fKEPT k.toNatClampNeg) ((m_World_initialise (fKEPT k.toNatClampNeg) w).1) (ok_mono (ok_ini ho) (by decide)) _ rfl) hK hP hD hS hA hSt hl.1 (va_recv hK hP (ci := 0) (q0 := 0) rfl rfl) d_Suite_keep_51 kc_World_construct ki_World kl_Suite_63 kn_World_construct kx_World_construct (n := 1) rfl (by decide +kernel) ⟨Nat.le_of_ble_eq_true rfl, Nat.le_of_ble_eq_true rfl⟩ rfl rfl (Nat.le_of_ble_eq_true rfl) ⟨Nat.zero_le _, Nat.zero_le _⟩ (fun H locs hP hD hS => ?_)
        have hP : va_P D classes (W4 cI q qn qv qs (m_World_construct (fKEPT k.toNatClampNeg) ((m_World_initialise (fKEPT k.toNatClampNeg) w).1)) ++ S4 cI cW x xa xk xw be (.ref q) f sk sl) H := hP
        have hD : va_D A (W4 cI q qn qv qs (m_World_construct (fKEPT k.toNatClampNeg) ((m_World_initialise (fKEPT k.toNatClampNeg) w).1)) ++ S4 cI cW x xa xk xw be (.ref q) f sk sl) := hD
        refine lv_aload_n hx hb d_Suite_keep_54 rfl (lv_at hl 1 rfl) ?_
        refine va_get (D := D) (ci := 1) (v := .ref xk) (C := R_Suite) (T := F_Suite) (N := 5) hx hb hk i_Suite hown hK hP 4 rfl rfl 3 (by decide) (hk _ kl_Suite_15) (fun _ h9 => h9) rfl d_Suite_keep_55 ?_
        refine lv_iload_n hx hb d_Suite_keep_58 rfl (lv_at hl 2 rfl) ?_
        refine lv_iload_n hx hb d_Suite_keep_59 rfl (lv_at hl 0 rfl) ?_
        refine va_iast hx hb hK hP hD hS 6 0 rfl rfl (slot_in c_4) d_Suite_keep_60 (fun H locs hP hD hS => ?_)
        have hP : va_P D classes (W4 cI q qn qv qs (m_World_construct (fKEPT k.toNatClampNeg) ((m_World_initialise (fKEPT k.toNatClampNeg) w).1)) ++ S4 cI cW x xa xk xw be (.ref q) f (upd (sk) i.toNatClampNeg (fKEPT k.toNatClampNeg)) sl) H := hP
        have hD : va_D A (W4 cI q qn qv qs (m_World_construct (fKEPT k.toNatClampNeg) ((m_World_initialise (fKEPT k.toNatClampNeg) w).1)) ++ S4 cI cW x xa xk xw be (.ref q) f (upd (sk) i.toNatClampNeg (fKEPT k.toNatClampNeg)) sl) := hD
        refine lv_aload_n hx hb d_Suite_keep_61 rfl (lv_at hl 1 rfl) ?_
        refine va_get (D := D) (ci := 1) (v := .ref xw) (C := R_Suite) (T := F_Suite) (N := 5) hx hb hk i_Suite hown hK hP 4 rfl rfl 4 (by decide) (hk _ kl_Suite_19) (fun _ h9 => h9) rfl d_Suite_keep_62 ?_
        refine lv_iload_n hx hb d_Suite_keep_65 rfl (lv_at hl 2 rfl) ?_
        refine lv_aload_n hx hb d_Suite_keep_66 rfl (lv_at hl 1 rfl) ?_
        refine va_get (D := D) (ci := 1) (v := .ref q) (C := R_Suite) (T := F_Suite) (N := 5) hx hb hk i_Suite hown hK hP 4 rfl rfl 2 (by decide) (hk _ kl_Suite_29) (fun _ h9 => h9) rfl d_Suite_keep_67 ?_
        refine va_get (D := D) (ci := 0) (v := .int (gNu (m_World_construct (fKEPT k.toNatClampNeg) ((m_World_initialise (fKEPT k.toNatClampNeg) w).1)))) (C := R_World) (T := F_World) (N := 7) hx hb hk i_World hown hK hP 0 rfl rfl 0 (by decide) (hk _ kl_Suite_33) (fun _ h9 => h9) rfl d_Suite_keep_70 ?_
        refine va_iast hx hb hK hP hD hS 7 0 rfl rfl (slot_in c_4) d_Suite_keep_73 (fun H locs hP hD hS => ?_)
        have hP : va_P D classes (W4 cI q qn qv qs (m_World_construct (fKEPT k.toNatClampNeg) ((m_World_initialise (fKEPT k.toNatClampNeg) w).1)) ++ S4 cI cW x xa xk xw be (.ref q) f (upd (sk) i.toNatClampNeg (fKEPT k.toNatClampNeg)) (upd (sl) i.toNatClampNeg (gNu (m_World_construct (fKEPT k.toNatClampNeg) ((m_World_initialise (fKEPT k.toNatClampNeg) w).1))))) H := hP
        have hD : va_D A (W4 cI q qn qv qs (m_World_construct (fKEPT k.toNatClampNeg) ((m_World_initialise (fKEPT k.toNatClampNeg) w).1)) ++ S4 cI cW x xa xk xw be (.ref q) f (upd (sk) i.toNatClampNeg (fKEPT k.toNatClampNeg)) (upd (sl) i.toNatClampNeg (gNu (m_World_construct (fKEPT k.toNatClampNeg) ((m_World_initialise (fKEPT k.toNatClampNeg) w).1))))) := hD
        refine lv_iconst (v := (0 : Int32)) hx hb d_Suite_keep_74 (by decide) ?_
        obtain ⟨rfl, rfl, rfl, rfl⟩ : z1 = (m_World_construct (fKEPT k.toNatClampNeg) ((m_World_initialise (fKEPT k.toNatClampNeg) w).1)) ∧ z2 = (upd (sk) i.toNatClampNeg (fKEPT k.toNatClampNeg)) ∧ z3 = (upd (sl) i.toNatClampNeg (gNu (m_World_construct (fKEPT k.toNatClampNeg) ((m_World_initialise (fKEPT k.toNatClampNeg) w).1)))) ∧ z4 = (0 : Int32) := inj4 (hres.symm.trans ((if_neg c_4).trans ((if_neg c_8).trans ((if_pos c_16).trans rfl))))
        exact CM_iret hx hb hr hlocks hP hK hD hS d_Suite_keep_75
      · refine lv_iconst (v := (-1 : Int32)) hx hb d_Suite_keep_19 (by decide) ?_
        obtain ⟨rfl, rfl, rfl, rfl⟩ : z1 = w ∧ z2 = sk ∧ z3 = sl ∧ z4 = (-1 : Int32) := inj4 (hres.symm.trans ((if_neg c_4).trans ((if_neg c_8).trans ((if_neg c_16).trans rfl))))
        exact CM_iret hx hb hr hlocks hP hK hD hS d_Suite_keep_20
set_option maxHeartbeats 4000000 in
set_option maxRecDepth 100000 in
theorem c_isOf_0 (l : Launch) (D : va_G) (cI cW : ClassId) (x xa xk xw : Nat) (be : Int32) (f : (Nat → Option Nat)) (sl : (Nat → Int32))  (i : Int32) (k : Int32) (sk : (Nat → Int32))  (res : Int32) (hres : m_isOf_0 i k sk = res) : CM l y_Suite_isOf b_Suite_isOf 3 .boolean ({ frames := 2, cells := 0, slots := 0, locals := 41 }) D (tyC cI cW) [.ref x, .int i, .int k] (S4 cI cW x xa xk xw be .null f sk sl) res (S4 cI cW x xa xk xw be .null f sk sl) := by
  refine CM_mk (by decide) (Nat.le_of_ble_eq_true rfl) ?_
  intro p e s m args below meth c A ls hx hb hr hml hown hk hlocks hA hSt hK hP hD hS hl
  have hown : s.vm.findClass R_Suite = some m.cls := hown
  have hl : lv_has ls 3 [(0, .ref x), (1, .int i), (2, .int k)] := hl
  refine lv_aload_n hx hb d_Suite_isOf_0 rfl (lv_at hl 0 rfl) ?_
  refine lv_iload_n hx hb d_Suite_isOf_1 rfl (lv_at hl 1 rfl) ?_
  refine CM.callV (wc := S4 cI cW x xa xk xw be .null f sk sl) (wr := []) (b := x) (av := [.int i]) (rest := []) hx hb hml hown hk (c_Suite_isFilled l D cI cW x xa xk xw be .null f sl i sk _ rfl) hK hP hD hS hA hSt hl.1 (va_recv hK hP (ci := 1) (q0 := 0) rfl rfl) d_Suite_isOf_2 kc_Suite_isFilled ki_Suite kl_Suite_67 kn_Suite_isFilled kx_Suite_isFilled (n := 1) rfl (by decide +kernel) ⟨Nat.le_of_ble_eq_true rfl, Nat.le_of_ble_eq_true rfl⟩ rfl rfl (Nat.le_of_ble_eq_true rfl) ⟨Nat.zero_le _, Nat.zero_le _⟩ (fun H locs hP hD hS => ?_)
  have hP : va_P D classes (S4 cI cW x xa xk xw be .null f sk sl) H := hP
  have hD : va_D A (S4 cI cW x xa xk xw be .null f sk sl) := hD
  refine lv_if_eq (tgt := 22) hx hb d_Suite_isOf_5 (by decide) (fun c_5 => ?_) (fun c_5 => ?_)
  · refine lv_iconst (v := (0 : Int32)) hx hb d_Suite_isOf_22 (by decide) ?_
    obtain rfl : res = (0 : Int32) := hres.symm.trans ((if_pos c_5).trans rfl)
    exact CM_zret hx hb hr hlocks rfl hP hK hD hS d_Suite_isOf_23
  · refine lv_iload_n hx hb d_Suite_isOf_8 rfl (lv_at hl 2 rfl) ?_
    refine CM.callS (wc := []) (wr := S4 cI cW x xa xk xw be .null f sk sl) (av := [.int k]) (rest := []) hx hb hml hown hk (c_Kinds_isThere l D cI cW k _ rfl) hK hP hD hS hA hSt hl.1 d_Suite_isOf_9 kc_Kinds_isThere ki_Kinds kl_Suite_50 ks_Kinds_isThere (n := 1) rfl (by decide +kernel) ⟨Nat.le_of_ble_eq_true rfl, Nat.le_of_ble_eq_true rfl⟩ rfl rfl (Nat.le_of_ble_eq_true rfl) ⟨Nat.zero_le _, Nat.zero_le _⟩ (fun H locs hP hD hS => ?_)
    have hP : va_P D classes (S4 cI cW x xa xk xw be .null f sk sl) H := hP
    have hD : va_D A (S4 cI cW x xa xk xw be .null f sk sl) := hD
    refine lv_if_eq (tgt := 22) hx hb d_Suite_isOf_12 (by decide) (fun c_12 => ?_) (fun c_12 => ?_)
    · refine lv_iconst (v := (0 : Int32)) hx hb d_Suite_isOf_22 (by decide) ?_
      obtain rfl : res = (0 : Int32) := hres.symm.trans ((if_neg c_5).trans ((if_pos c_12).trans rfl))
      exact CM_zret hx hb hr hlocks rfl hP hK hD hS d_Suite_isOf_23
    · refine lv_aload_n hx hb d_Suite_isOf_15 rfl (lv_at hl 0 rfl) ?_
      refine va_get (D := D) (ci := 1) (v := .null) (C := R_Suite) (T := F_Suite) (N := 5) hx hb hk i_Suite hown hK hP 0 rfl rfl 2 (by decide) (hk _ kl_Suite_29) (fun _ h9 => h9) rfl d_Suite_isOf_16 ?_
      refine lv_ifnonnullN hx hb d_Suite_isOf_19 ?_
      refine lv_iconst (v := (0 : Int32)) hx hb d_Suite_isOf_22 (by decide) ?_
      obtain rfl : res = (0 : Int32) := hres.symm.trans ((if_neg c_5).trans ((if_neg c_12).trans rfl))
      exact CM_zret hx hb hr hlocks rfl hP hK hD hS d_Suite_isOf_23
set_option maxHeartbeats 4000000 in
set_option maxRecDepth 100000 in
theorem c_isOf_1 (l : Launch) (D : va_G) (cI cW : ClassId) (x xa xk xw q qn qv qs : Nat) (be : Int32) (f : (Nat → Option Nat))  (i : Int32) (k : Int32) (sk : (Nat → Int32)) (sl : (Nat → Int32)) (w : MW)  (res : Int32) (hres : m_isOf_1 i k sk sl w = res) : CM l y_Suite_isOf b_Suite_isOf 3 .boolean ({ frames := 42, cells := 0, slots := 0, locals := 1644 }) D (tyC cI cW) [.ref x, .int i, .int k] (S4 cI cW x xa xk xw be (.ref q) f sk sl ++ W4 cI q qn qv qs w) res (S4 cI cW x xa xk xw be (.ref q) f sk sl ++ W4 cI q qn qv qs w) := by
  refine CM_mk (by decide) (Nat.le_of_ble_eq_true rfl) ?_
  intro p e s m args below meth c A ls hx hb hr hml hown hk hlocks hA hSt hK hP hD hS hl
  have hown : s.vm.findClass R_Suite = some m.cls := hown
  have hl : lv_has ls 3 [(0, .ref x), (1, .int i), (2, .int k)] := hl
  refine lv_aload_n hx hb d_Suite_isOf_0 rfl (lv_at hl 0 rfl) ?_
  refine lv_iload_n hx hb d_Suite_isOf_1 rfl (lv_at hl 1 rfl) ?_
  refine CM.callV (wc := S4 cI cW x xa xk xw be (.ref q) f sk sl) (wr := W4 cI q qn qv qs w) (b := x) (av := [.int i]) (rest := []) hx hb hml hown hk (c_Suite_isFilled l D cI cW x xa xk xw be (.ref q) f sl i sk _ rfl) hK hP hD hS hA hSt hl.1 (va_recv hK hP (ci := 1) (q0 := 0) rfl rfl) d_Suite_isOf_2 kc_Suite_isFilled ki_Suite kl_Suite_67 kn_Suite_isFilled kx_Suite_isFilled (n := 1) rfl (by decide +kernel) ⟨Nat.le_of_ble_eq_true rfl, Nat.le_of_ble_eq_true rfl⟩ rfl rfl (Nat.le_of_ble_eq_true rfl) ⟨Nat.zero_le _, Nat.zero_le _⟩ (fun H locs hP hD hS => ?_)
  have hP : va_P D classes (S4 cI cW x xa xk xw be (.ref q) f sk sl ++ W4 cI q qn qv qs w) H := hP
  have hD : va_D A (S4 cI cW x xa xk xw be (.ref q) f sk sl ++ W4 cI q qn qv qs w) := hD
  refine lv_if_eq (tgt := 22) hx hb d_Suite_isOf_5 (by decide) (fun c_5 => ?_) (fun c_5 => ?_)
  · refine lv_iconst (v := (0 : Int32)) hx hb d_Suite_isOf_22 (by decide) ?_
    obtain rfl : res = (0 : Int32) := hres.symm.trans ((if_pos c_5).trans rfl)
    exact CM_zret hx hb hr hlocks rfl hP hK hD hS d_Suite_isOf_23
  · refine lv_iload_n hx hb d_Suite_isOf_8 rfl (lv_at hl 2 rfl) ?_
    refine CM.callS (wc := []) (wr := S4 cI cW x xa xk xw be (.ref q) f sk sl ++ W4 cI q qn qv qs w) (av := [.int k]) (rest := []) hx hb hml hown hk (c_Kinds_isThere l D cI cW k _ rfl) hK hP hD hS hA hSt hl.1 d_Suite_isOf_9 kc_Kinds_isThere ki_Kinds kl_Suite_50 ks_Kinds_isThere (n := 1) rfl (by decide +kernel) ⟨Nat.le_of_ble_eq_true rfl, Nat.le_of_ble_eq_true rfl⟩ rfl rfl (Nat.le_of_ble_eq_true rfl) ⟨Nat.zero_le _, Nat.zero_le _⟩ (fun H locs hP hD hS => ?_)
    have hP : va_P D classes (S4 cI cW x xa xk xw be (.ref q) f sk sl ++ W4 cI q qn qv qs w) H := hP
    have hD : va_D A (S4 cI cW x xa xk xw be (.ref q) f sk sl ++ W4 cI q qn qv qs w) := hD
    refine lv_if_eq (tgt := 22) hx hb d_Suite_isOf_12 (by decide) (fun c_12 => ?_) (fun c_12 => ?_)
    · refine lv_iconst (v := (0 : Int32)) hx hb d_Suite_isOf_22 (by decide) ?_
      obtain rfl : res = (0 : Int32) := hres.symm.trans ((if_neg c_5).trans ((if_pos c_12).trans rfl))
      exact CM_zret hx hb hr hlocks rfl hP hK hD hS d_Suite_isOf_23
    · refine lv_aload_n hx hb d_Suite_isOf_15 rfl (lv_at hl 0 rfl) ?_
      refine va_get (D := D) (ci := 1) (v := .ref q) (C := R_Suite) (T := F_Suite) (N := 5) hx hb hk i_Suite hown hK hP 0 rfl rfl 2 (by decide) (hk _ kl_Suite_29) (fun _ h9 => h9) rfl d_Suite_isOf_16 ?_
      refine lv_ifnonnull (tgt := 24) hx hb d_Suite_isOf_19 (by decide) ?_
      refine lv_aload_n hx hb d_Suite_isOf_24 rfl (lv_at hl 0 rfl) ?_
      refine va_get (D := D) (ci := 1) (v := .ref xw) (C := R_Suite) (T := F_Suite) (N := 5) hx hb hk i_Suite hown hK hP 0 rfl rfl 4 (by decide) (hk _ kl_Suite_19) (fun _ h9 => h9) rfl d_Suite_isOf_25 ?_
      refine lv_iload_n hx hb d_Suite_isOf_28 rfl (lv_at hl 1 rfl) ?_
      refine va_iald hx hb hK hP 3 0 rfl rfl (fill_in c_5) d_Suite_isOf_29 ?_
      refine lv_aload_n hx hb d_Suite_isOf_30 rfl (lv_at hl 0 rfl) ?_
      refine va_get (D := D) (ci := 1) (v := .ref q) (C := R_Suite) (T := F_Suite) (N := 5) hx hb hk i_Suite hown hK hP 0 rfl rfl 2 (by decide) (hk _ kl_Suite_29) (fun _ h9 => h9) rfl d_Suite_isOf_31 ?_
      refine va_get (D := D) (ci := 0) (v := .int (gNu w)) (C := R_World) (T := F_World) (N := 7) hx hb hk i_World hown hK hP 4 rfl rfl 0 (by decide) (hk _ kl_Suite_33) (fun _ h9 => h9) rfl d_Suite_isOf_34 ?_
      refine lv_icmp_ne (tgt := 57) hx hb d_Suite_isOf_37 (by decide) (fun c_37 => ?_) (fun c_37 => ?_)
      · refine lv_iconst (v := (0 : Int32)) hx hb d_Suite_isOf_57 (by decide) ?_
        obtain rfl : res = (0 : Int32) := hres.symm.trans ((if_neg c_5).trans ((if_neg c_12).trans ((if_neg c_37).trans rfl)))
        exact CM_zret hx hb hr hlocks rfl hP hK hD hS d_Suite_isOf_58
      · refine lv_aload_n hx hb d_Suite_isOf_40 rfl (lv_at hl 0 rfl) ?_
        refine va_get (D := D) (ci := 1) (v := .ref xk) (C := R_Suite) (T := F_Suite) (N := 5) hx hb hk i_Suite hown hK hP 0 rfl rfl 3 (by decide) (hk _ kl_Suite_15) (fun _ h9 => h9) rfl d_Suite_isOf_41 ?_
        refine lv_iload_n hx hb d_Suite_isOf_44 rfl (lv_at hl 1 rfl) ?_
        refine va_iald hx hb hK hP 2 0 rfl rfl (fill_in c_5) d_Suite_isOf_45 ?_
        refine lv_iload_n hx hb d_Suite_isOf_46 rfl (lv_at hl 2 rfl) ?_
        refine CM.callS (wc := []) (wr := S4 cI cW x xa xk xw be (.ref q) f sk sl ++ W4 cI q qn qv qs w) (av := [.int (sk i.toNatClampNeg), .int k]) (rest := []) hx hb hml hown hk (c_Kinds_isWithin l D cI cW (sk i.toNatClampNeg) k _ rfl) hK hP hD hS hA hSt hl.1 d_Suite_isOf_47 kc_Kinds_isWithin ki_Kinds kl_Suite_70 ks_Kinds_isWithin (n := 2) rfl (by decide +kernel) ⟨Nat.le_of_ble_eq_true rfl, Nat.le_of_ble_eq_true rfl⟩ rfl rfl (Nat.le_of_ble_eq_true rfl) ⟨Nat.zero_le _, Nat.zero_le _⟩ (fun H locs hP hD hS => ?_)
        have hP : va_P D classes (S4 cI cW x xa xk xw be (.ref q) f sk sl ++ W4 cI q qn qv qs w) H := hP
        have hD : va_D A (S4 cI cW x xa xk xw be (.ref q) f sk sl ++ W4 cI q qn qv qs w) := hD
        refine lv_if_eq (tgt := 57) hx hb d_Suite_isOf_50 (by decide) (fun c_50 => ?_) (fun c_50 => ?_)
        · refine lv_iconst (v := (0 : Int32)) hx hb d_Suite_isOf_57 (by decide) ?_
          obtain rfl : res = (0 : Int32) := hres.symm.trans ((if_neg c_5).trans ((if_neg c_12).trans ((if_pos c_37).trans ((if_pos c_50).trans rfl))))
          exact CM_zret hx hb hr hlocks rfl hP hK hD hS d_Suite_isOf_58
        · refine lv_iconst (v := (1 : Int32)) hx hb d_Suite_isOf_53 (by decide) ?_
          refine lv_goto (tgt := 58) hx hb d_Suite_isOf_54 (by decide) ?_
          obtain rfl : res = (1 : Int32) := hres.symm.trans ((if_neg c_5).trans ((if_neg c_12).trans ((if_pos c_37).trans ((if_neg c_50).trans rfl))))
          exact CM_zret hx hb hr hlocks rfl hP hK hD hS d_Suite_isOf_58
set_option maxHeartbeats 4000000 in
set_option maxRecDepth 100000 in
theorem c_alike (l : Launch) (D : va_G) (cI cW : ClassId) (x xa xk xw : Nat) (be : Int32) (wv : Value) (f : (Nat → Option Nat))  (i : Int32) (j : Int32) (sk : (Nat → Int32)) (sl : (Nat → Int32))  (res : Int32) (hres : m_alike i j sk sl = res) : CM l y_Suite_alike b_Suite_alike 3 .boolean ({ frames := 2, cells := 0, slots := 0, locals := 41 }) D (tyC cI cW) [.ref x, .int i, .int j] (S4 cI cW x xa xk xw be wv f sk sl) res (S4 cI cW x xa xk xw be wv f sk sl) := by
  refine CM_mk (by decide) (Nat.le_of_ble_eq_true rfl) ?_
  intro p e s m args below meth c A ls hx hb hr hml hown hk hlocks hA hSt hK hP hD hS hl
  have hown : s.vm.findClass R_Suite = some m.cls := hown
  have hl : lv_has ls 3 [(0, .ref x), (1, .int i), (2, .int j)] := hl
  refine lv_aload_n hx hb d_Suite_alike_0 rfl (lv_at hl 0 rfl) ?_
  refine lv_iload_n hx hb d_Suite_alike_1 rfl (lv_at hl 1 rfl) ?_
  refine CM.callV (wc := S4 cI cW x xa xk xw be wv f sk sl) (wr := []) (b := x) (av := [.int i]) (rest := []) hx hb hml hown hk (c_Suite_isFilled l D cI cW x xa xk xw be wv f sl i sk _ rfl) hK hP hD hS hA hSt hl.1 (va_recv hK hP (ci := 1) (q0 := 0) rfl rfl) d_Suite_alike_2 kc_Suite_isFilled ki_Suite kl_Suite_67 kn_Suite_isFilled kx_Suite_isFilled (n := 1) rfl (by decide +kernel) ⟨Nat.le_of_ble_eq_true rfl, Nat.le_of_ble_eq_true rfl⟩ rfl rfl (Nat.le_of_ble_eq_true rfl) ⟨Nat.zero_le _, Nat.zero_le _⟩ (fun H locs hP hD hS => ?_)
  have hP : va_P D classes (S4 cI cW x xa xk xw be wv f sk sl) H := hP
  have hD : va_D A (S4 cI cW x xa xk xw be wv f sk sl) := hD
  refine lv_if_eq (tgt := 16) hx hb d_Suite_alike_5 (by decide) (fun c_5 => ?_) (fun c_5 => ?_)
  · refine lv_iconst (v := (0 : Int32)) hx hb d_Suite_alike_16 (by decide) ?_
    obtain rfl : res = (0 : Int32) := hres.symm.trans ((if_pos c_5).trans rfl)
    exact CM_zret hx hb hr hlocks rfl hP hK hD hS d_Suite_alike_17
  · refine lv_aload_n hx hb d_Suite_alike_8 rfl (lv_at hl 0 rfl) ?_
    refine lv_iload_n hx hb d_Suite_alike_9 rfl (lv_at hl 2 rfl) ?_
    refine CM.callV (wc := S4 cI cW x xa xk xw be wv f sk sl) (wr := []) (b := x) (av := [.int j]) (rest := []) hx hb hml hown hk (c_Suite_isFilled l D cI cW x xa xk xw be wv f sl j sk _ rfl) hK hP hD hS hA hSt hl.1 (va_recv hK hP (ci := 1) (q0 := 0) rfl rfl) d_Suite_alike_10 kc_Suite_isFilled ki_Suite kl_Suite_67 kn_Suite_isFilled kx_Suite_isFilled (n := 1) rfl (by decide +kernel) ⟨Nat.le_of_ble_eq_true rfl, Nat.le_of_ble_eq_true rfl⟩ rfl rfl (Nat.le_of_ble_eq_true rfl) ⟨Nat.zero_le _, Nat.zero_le _⟩ (fun H locs hP hD hS => ?_)
    have hP : va_P D classes (S4 cI cW x xa xk xw be wv f sk sl) H := hP
    have hD : va_D A (S4 cI cW x xa xk xw be wv f sk sl) := hD
    refine lv_if_ne (tgt := 18) hx hb d_Suite_alike_13 (by decide) (fun c_13 => ?_) (fun c_13 => ?_)
    · refine lv_aload_n hx hb d_Suite_alike_18 rfl (lv_at hl 0 rfl) ?_
      refine va_get (D := D) (ci := 1) (v := .ref xk) (C := R_Suite) (T := F_Suite) (N := 5) hx hb hk i_Suite hown hK hP 0 rfl rfl 3 (by decide) (hk _ kl_Suite_15) (fun _ h9 => h9) rfl d_Suite_alike_19 ?_
      refine lv_iload_n hx hb d_Suite_alike_22 rfl (lv_at hl 1 rfl) ?_
      refine va_iald hx hb hK hP 2 0 rfl rfl (fill_in c_5) d_Suite_alike_23 ?_
      refine lv_aload_n hx hb d_Suite_alike_24 rfl (lv_at hl 0 rfl) ?_
      refine va_get (D := D) (ci := 1) (v := .ref xk) (C := R_Suite) (T := F_Suite) (N := 5) hx hb hk i_Suite hown hK hP 0 rfl rfl 3 (by decide) (hk _ kl_Suite_15) (fun _ h9 => h9) rfl d_Suite_alike_25 ?_
      refine lv_iload_n hx hb d_Suite_alike_28 rfl (lv_at hl 2 rfl) ?_
      refine va_iald hx hb hK hP 2 0 rfl rfl (fill_in c_13) d_Suite_alike_29 ?_
      refine lv_icmp_ne (tgt := 52) hx hb d_Suite_alike_30 (by decide) (fun c_30 => ?_) (fun c_30 => ?_)
      · refine lv_iconst (v := (0 : Int32)) hx hb d_Suite_alike_52 (by decide) ?_
        obtain rfl : res = (0 : Int32) := hres.symm.trans ((if_neg c_5).trans ((if_neg c_13).trans ((if_neg c_30).trans rfl)))
        exact CM_zret hx hb hr hlocks rfl hP hK hD hS d_Suite_alike_53
      · refine lv_aload_n hx hb d_Suite_alike_33 rfl (lv_at hl 0 rfl) ?_
        refine va_get (D := D) (ci := 1) (v := .ref xw) (C := R_Suite) (T := F_Suite) (N := 5) hx hb hk i_Suite hown hK hP 0 rfl rfl 4 (by decide) (hk _ kl_Suite_19) (fun _ h9 => h9) rfl d_Suite_alike_34 ?_
        refine lv_iload_n hx hb d_Suite_alike_37 rfl (lv_at hl 1 rfl) ?_
        refine va_iald hx hb hK hP 3 0 rfl rfl (fill_in c_5) d_Suite_alike_38 ?_
        refine lv_aload_n hx hb d_Suite_alike_39 rfl (lv_at hl 0 rfl) ?_
        refine va_get (D := D) (ci := 1) (v := .ref xw) (C := R_Suite) (T := F_Suite) (N := 5) hx hb hk i_Suite hown hK hP 0 rfl rfl 4 (by decide) (hk _ kl_Suite_19) (fun _ h9 => h9) rfl d_Suite_alike_40 ?_
        refine lv_iload_n hx hb d_Suite_alike_43 rfl (lv_at hl 2 rfl) ?_
        refine va_iald hx hb hK hP 3 0 rfl rfl (fill_in c_13) d_Suite_alike_44 ?_
        refine lv_icmp_ne (tgt := 52) hx hb d_Suite_alike_45 (by decide) (fun c_45 => ?_) (fun c_45 => ?_)
        · refine lv_iconst (v := (0 : Int32)) hx hb d_Suite_alike_52 (by decide) ?_
          obtain rfl : res = (0 : Int32) := hres.symm.trans ((if_neg c_5).trans ((if_neg c_13).trans ((if_pos c_30).trans ((if_neg c_45).trans rfl))))
          exact CM_zret hx hb hr hlocks rfl hP hK hD hS d_Suite_alike_53
        · refine lv_iconst (v := (1 : Int32)) hx hb d_Suite_alike_48 (by decide) ?_
          refine lv_goto (tgt := 53) hx hb d_Suite_alike_49 (by decide) ?_
          obtain rfl : res = (1 : Int32) := hres.symm.trans ((if_neg c_5).trans ((if_neg c_13).trans ((if_pos c_30).trans ((if_pos c_45).trans rfl))))
          exact CM_zret hx hb hr hlocks rfl hP hK hD hS d_Suite_alike_53
    · refine lv_iconst (v := (0 : Int32)) hx hb d_Suite_alike_16 (by decide) ?_
      obtain rfl : res = (0 : Int32) := hres.symm.trans ((if_neg c_5).trans ((if_pos c_13).trans rfl))
      exact CM_zret hx hb hr hlocks rfl hP hK hD hS d_Suite_alike_17
set_option maxHeartbeats 4000000 in
set_option maxRecDepth 100000 in
theorem c_note_0 (l : Launch) (D : va_G) (cI cW : ClassId) (x xa xk xw : Nat) (be : Int32) (f : (Nat → Option Nat)) (sk : (Nat → Int32)) (sl : (Nat → Int32))  (i : Int32)  (res : Int32) (hres : m_note_0 i = res) : CM l y_Suite_note b_Suite_note 2 .int ({ frames := 0, cells := 0, slots := 0, locals := 0 }) D (tyC cI cW) [.ref x, .int i] (S4 cI cW x xa xk xw be .null f sk sl) res (S4 cI cW x xa xk xw be .null f sk sl) := by
  refine CM_mk (by decide) (Nat.le_of_ble_eq_true rfl) ?_
  intro p e s m args below meth c A ls hx hb hr hml hown hk hlocks hA hSt hK hP hD hS hl
  have hown : s.vm.findClass R_Suite = some m.cls := hown
  have hl : lv_has ls 2 [(0, .ref x), (1, .int i)] := hl
  refine lv_aload_n hx hb d_Suite_note_0 rfl (lv_at hl 0 rfl) ?_
  refine va_get (D := D) (ci := 1) (v := .null) (C := R_Suite) (T := F_Suite) (N := 5) hx hb hk i_Suite hown hK hP 0 rfl rfl 2 (by decide) (hk _ kl_Suite_29) (fun _ h9 => h9) rfl d_Suite_note_1 ?_
  refine lv_ifnonnullN hx hb d_Suite_note_4 ?_
  refine lv_bipush (v := (-2 : Int32)) hx hb d_Suite_note_7 (by decide) ?_
  obtain rfl : res = (-2 : Int32) := hres.symm.trans rfl
  exact CM_iret hx hb hr hlocks hP hK hD hS d_Suite_note_9
set_option maxHeartbeats 4000000 in
set_option maxRecDepth 100000 in
theorem c_note_1 (l : Launch) (D : va_G) (cI cW : ClassId) (q qn qv qs x xa xk xw : Nat) (be : Int32) (f : (Nat → Option Nat)) (sk : (Nat → Int32)) (sl : (Nat → Int32))  (i : Int32) (w : MW)  (res : Int32) (hres : m_note_1 i w = res) : CM l y_Suite_note b_Suite_note 2 .int ({ frames := 1, cells := 0, slots := 0, locals := 21 }) D (tyC cI cW) [.ref x, .int i] (W4 cI q qn qv qs w ++ S4 cI cW x xa xk xw be (.ref q) f sk sl) res (W4 cI q qn qv qs w ++ S4 cI cW x xa xk xw be (.ref q) f sk sl) := by
  refine CM_mk (by decide) (Nat.le_of_ble_eq_true rfl) ?_
  intro p e s m args below meth c A ls hx hb hr hml hown hk hlocks hA hSt hK hP hD hS hl
  have hown : s.vm.findClass R_Suite = some m.cls := hown
  have hl : lv_has ls 2 [(0, .ref x), (1, .int i)] := hl
  refine lv_aload_n hx hb d_Suite_note_0 rfl (lv_at hl 0 rfl) ?_
  refine va_get (D := D) (ci := 1) (v := .ref q) (C := R_Suite) (T := F_Suite) (N := 5) hx hb hk i_Suite hown hK hP 4 rfl rfl 2 (by decide) (hk _ kl_Suite_29) (fun _ h9 => h9) rfl d_Suite_note_1 ?_
  refine lv_ifnonnull (tgt := 10) hx hb d_Suite_note_4 (by decide) ?_
  refine lv_aload_n hx hb d_Suite_note_10 rfl (lv_at hl 0 rfl) ?_
  refine va_get (D := D) (ci := 1) (v := .ref q) (C := R_Suite) (T := F_Suite) (N := 5) hx hb hk i_Suite hown hK hP 4 rfl rfl 2 (by decide) (hk _ kl_Suite_29) (fun _ h9 => h9) rfl d_Suite_note_11 ?_
  refine lv_iload_n hx hb d_Suite_note_14 rfl (lv_at hl 1 rfl) ?_
  refine CM.callV (wc := W4 cI q qn qv qs w) (wr := S4 cI cW x xa xk xw be (.ref q) f sk sl) (b := q) (av := [.int i]) (rest := []) hx hb hml hown hk (c_World_isKept l D cI cW q qn qv qs i w _ rfl) hK hP hD hS hA hSt hl.1 (va_recv hK hP (ci := 0) (q0 := 0) rfl rfl) d_Suite_note_15 kc_World_isKept ki_World kl_Suite_74 kn_World_isKept kx_World_isKept (n := 1) rfl (by decide +kernel) ⟨Nat.le_of_ble_eq_true rfl, Nat.le_of_ble_eq_true rfl⟩ rfl rfl (Nat.le_of_ble_eq_true rfl) ⟨Nat.zero_le _, Nat.zero_le _⟩ (fun H locs hP hD hS => ?_)
  have hP : va_P D classes (W4 cI q qn qv qs w ++ S4 cI cW x xa xk xw be (.ref q) f sk sl) H := hP
  have hD : va_D A (W4 cI q qn qv qs w ++ S4 cI cW x xa xk xw be (.ref q) f sk sl) := hD
  refine lv_if_eq (tgt := 33) hx hb d_Suite_note_18 (by decide) (fun c_18 => ?_) (fun c_18 => ?_)
  · refine lv_iconst (v := (-1 : Int32)) hx hb d_Suite_note_33 (by decide) ?_
    obtain rfl : res = (-1 : Int32) := hres.symm.trans ((if_pos c_18).trans rfl)
    exact CM_iret hx hb hr hlocks hP hK hD hS d_Suite_note_34
  · refine lv_aload_n hx hb d_Suite_note_21 rfl (lv_at hl 0 rfl) ?_
    refine va_get (D := D) (ci := 1) (v := .ref q) (C := R_Suite) (T := F_Suite) (N := 5) hx hb hk i_Suite hown hK hP 4 rfl rfl 2 (by decide) (hk _ kl_Suite_29) (fun _ h9 => h9) rfl d_Suite_note_22 ?_
    refine va_get (D := D) (ci := 0) (v := .ref qn) (C := R_World) (T := F_World) (N := 7) hx hb hk i_World hown hK hP 0 rfl rfl 1 (by decide) (hk _ kl_Suite_77) (fun _ h9 => h9) rfl d_Suite_note_25 ?_
    refine lv_iload_n hx hb d_Suite_note_28 rfl (lv_at hl 1 rfl) ?_
    refine va_iald hx hb hK hP 1 0 rfl rfl (kept_in c_18) d_Suite_note_29 ?_
    refine lv_goto (tgt := 34) hx hb d_Suite_note_30 (by decide) ?_
    obtain rfl : res = ((gNo w) i.toNatClampNeg) := hres.symm.trans ((if_neg c_18).trans rfl)
    exact CM_iret hx hb hr hlocks hP hK hD hS d_Suite_note_34
set_option maxHeartbeats 4000000 in
set_option maxRecDepth 100000 in
theorem c_count_0 (l : Launch) (D : va_G) (cI cW : ClassId) (x xa xk xw : Nat) (f : (Nat → Option Nat)) (sk : (Nat → Int32)) (sl : (Nat → Int32))  (i : Int32) (be : Int32)  (res : Int32) (hres : m_count_0 i be = res) : CM l y_Suite_count b_Suite_count 2 .int ({ frames := 0, cells := 0, slots := 0, locals := 0 }) D (tyC cI cW) [.ref x, .int i] (S4 cI cW x xa xk xw be .null f sk sl) res (S4 cI cW x xa xk xw be .null f sk sl) := by
  refine CM_mk (by decide) (Nat.le_of_ble_eq_true rfl) ?_
  intro p e s m args below meth c A ls hx hb hr hml hown hk hlocks hA hSt hK hP hD hS hl
  have hown : s.vm.findClass R_Suite = some m.cls := hown
  have hl : lv_has ls 2 [(0, .ref x), (1, .int i)] := hl
  refine lv_iload_n hx hb d_Suite_count_0 rfl (lv_at hl 1 rfl) ?_
  refine lv_if_ne (tgt := 9) hx hb d_Suite_count_1 (by decide) (fun c_1 => ?_) (fun c_1 => ?_)
  · refine lv_iload_n hx hb d_Suite_count_9 rfl (lv_at hl 1 rfl) ?_
    refine lv_iconst (v := (1 : Int32)) hx hb d_Suite_count_10 (by decide) ?_
    refine lv_icmp_eq (tgt := 21) hx hb d_Suite_count_11 (by decide) (fun c_11 => ?_) (fun c_11 => ?_)
    · subst c_11
      refine lv_aload_n hx hb d_Suite_count_21 rfl (lv_at hl 0 rfl) ?_
      refine va_get (D := D) (ci := 1) (v := .null) (C := R_Suite) (T := F_Suite) (N := 5) hx hb hk i_Suite hown hK hP 0 rfl rfl 2 (by decide) (hk _ kl_Suite_29) (fun _ h9 => h9) rfl d_Suite_count_22 ?_
      refine lv_ifnonnullN hx hb d_Suite_count_25 ?_
      refine lv_bipush (v := (-2 : Int32)) hx hb d_Suite_count_28 (by decide) ?_
      obtain rfl : res = (-2 : Int32) := hres.symm.trans ((if_neg c_1).trans ((if_pos (by rfl)).trans rfl))
      exact CM_iret hx hb hr hlocks hP hK hD hS d_Suite_count_30
    · refine lv_iload_n hx hb d_Suite_count_14 rfl (lv_at hl 1 rfl) ?_
      refine lv_iconst (v := (2 : Int32)) hx hb d_Suite_count_15 (by decide) ?_
      refine lv_icmp_eq (tgt := 21) hx hb d_Suite_count_16 (by decide) (fun c_16 => ?_) (fun c_16 => ?_)
      · subst c_16
        refine lv_aload_n hx hb d_Suite_count_21 rfl (lv_at hl 0 rfl) ?_
        refine va_get (D := D) (ci := 1) (v := .null) (C := R_Suite) (T := F_Suite) (N := 5) hx hb hk i_Suite hown hK hP 0 rfl rfl 2 (by decide) (hk _ kl_Suite_29) (fun _ h9 => h9) rfl d_Suite_count_22 ?_
        refine lv_ifnonnullN hx hb d_Suite_count_25 ?_
        refine lv_bipush (v := (-2 : Int32)) hx hb d_Suite_count_28 (by decide) ?_
        obtain rfl : res = (-2 : Int32) := hres.symm.trans ((if_neg c_1).trans ((if_neg c_11).trans ((if_pos (by rfl)).trans rfl)))
        exact CM_iret hx hb hr hlocks hP hK hD hS d_Suite_count_30
      · refine lv_iconst (v := (-1 : Int32)) hx hb d_Suite_count_19 (by decide) ?_
        obtain rfl : res = (-1 : Int32) := hres.symm.trans ((if_neg c_1).trans ((if_neg c_11).trans ((if_neg c_16).trans rfl)))
        exact CM_iret hx hb hr hlocks hP hK hD hS d_Suite_count_20
  · subst c_1
    refine lv_aload_n hx hb d_Suite_count_4 rfl (lv_at hl 0 rfl) ?_
    refine va_get (D := D) (ci := 1) (v := .int be) (C := R_Suite) (T := F_Suite) (N := 5) hx hb hk i_Suite hown hK hP 0 rfl rfl 1 (by decide) (hk _ kl_Suite_22) (fun _ h9 => h9) rfl d_Suite_count_5 ?_
    obtain rfl : res = be := hres.symm.trans ((if_pos (by rfl)).trans rfl)
    exact CM_iret hx hb hr hlocks hP hK hD hS d_Suite_count_8
set_option maxHeartbeats 4000000 in
set_option maxRecDepth 100000 in
theorem c_count_1 (l : Launch) (D : va_G) (cI cW : ClassId) (q qn qv qs x xa xk xw : Nat) (f : (Nat → Option Nat)) (sk : (Nat → Int32)) (sl : (Nat → Int32))  (i : Int32) (be : Int32) (w : MW)  (res : Int32) (hres : m_count_1 i be w = res) : CM l y_Suite_count b_Suite_count 2 .int ({ frames := 0, cells := 0, slots := 0, locals := 0 }) D (tyC cI cW) [.ref x, .int i] (W4 cI q qn qv qs w ++ S4 cI cW x xa xk xw be (.ref q) f sk sl) res (W4 cI q qn qv qs w ++ S4 cI cW x xa xk xw be (.ref q) f sk sl) := by
  refine CM_mk (by decide) (Nat.le_of_ble_eq_true rfl) ?_
  intro p e s m args below meth c A ls hx hb hr hml hown hk hlocks hA hSt hK hP hD hS hl
  have hown : s.vm.findClass R_Suite = some m.cls := hown
  have hl : lv_has ls 2 [(0, .ref x), (1, .int i)] := hl
  refine lv_iload_n hx hb d_Suite_count_0 rfl (lv_at hl 1 rfl) ?_
  refine lv_if_ne (tgt := 9) hx hb d_Suite_count_1 (by decide) (fun c_1 => ?_) (fun c_1 => ?_)
  · refine lv_iload_n hx hb d_Suite_count_9 rfl (lv_at hl 1 rfl) ?_
    refine lv_iconst (v := (1 : Int32)) hx hb d_Suite_count_10 (by decide) ?_
    refine lv_icmp_eq (tgt := 21) hx hb d_Suite_count_11 (by decide) (fun c_11 => ?_) (fun c_11 => ?_)
    · subst c_11
      refine lv_aload_n hx hb d_Suite_count_21 rfl (lv_at hl 0 rfl) ?_
      refine va_get (D := D) (ci := 1) (v := .ref q) (C := R_Suite) (T := F_Suite) (N := 5) hx hb hk i_Suite hown hK hP 4 rfl rfl 2 (by decide) (hk _ kl_Suite_29) (fun _ h9 => h9) rfl d_Suite_count_22 ?_
      refine lv_ifnonnull (tgt := 31) hx hb d_Suite_count_25 (by decide) ?_
      refine lv_iload_n hx hb d_Suite_count_31 rfl (lv_at hl 1 rfl) ?_
      refine lv_iconst (v := (1 : Int32)) hx hb d_Suite_count_32 (by decide) ?_
      refine lv_icmp_ne (tgt := 46) hx hb d_Suite_count_33 (by decide) (fun h9 => absurd (by decide) h9) (fun _ => ?_)
      refine lv_aload_n hx hb d_Suite_count_36 rfl (lv_at hl 0 rfl) ?_
      refine va_get (D := D) (ci := 1) (v := .ref q) (C := R_Suite) (T := F_Suite) (N := 5) hx hb hk i_Suite hown hK hP 4 rfl rfl 2 (by decide) (hk _ kl_Suite_29) (fun _ h9 => h9) rfl d_Suite_count_37 ?_
      refine va_get (D := D) (ci := 0) (v := .int (gNu w)) (C := R_World) (T := F_World) (N := 7) hx hb hk i_World hown hK hP 0 rfl rfl 0 (by decide) (hk _ kl_Suite_33) (fun _ h9 => h9) rfl d_Suite_count_40 ?_
      refine lv_goto (tgt := 53) hx hb d_Suite_count_43 (by decide) ?_
      obtain rfl : res = (gNu w) := hres.symm.trans ((if_neg c_1).trans ((if_pos (by rfl)).trans rfl))
      exact CM_iret hx hb hr hlocks hP hK hD hS d_Suite_count_53
    · refine lv_iload_n hx hb d_Suite_count_14 rfl (lv_at hl 1 rfl) ?_
      refine lv_iconst (v := (2 : Int32)) hx hb d_Suite_count_15 (by decide) ?_
      refine lv_icmp_eq (tgt := 21) hx hb d_Suite_count_16 (by decide) (fun c_16 => ?_) (fun c_16 => ?_)
      · subst c_16
        refine lv_aload_n hx hb d_Suite_count_21 rfl (lv_at hl 0 rfl) ?_
        refine va_get (D := D) (ci := 1) (v := .ref q) (C := R_Suite) (T := F_Suite) (N := 5) hx hb hk i_Suite hown hK hP 4 rfl rfl 2 (by decide) (hk _ kl_Suite_29) (fun _ h9 => h9) rfl d_Suite_count_22 ?_
        refine lv_ifnonnull (tgt := 31) hx hb d_Suite_count_25 (by decide) ?_
        refine lv_iload_n hx hb d_Suite_count_31 rfl (lv_at hl 1 rfl) ?_
        refine lv_iconst (v := (1 : Int32)) hx hb d_Suite_count_32 (by decide) ?_
        refine lv_icmp_ne (tgt := 46) hx hb d_Suite_count_33 (by decide) (fun _ => ?_) (fun h9 => absurd h9 (by decide))
        refine lv_aload_n hx hb d_Suite_count_46 rfl (lv_at hl 0 rfl) ?_
        refine va_get (D := D) (ci := 1) (v := .ref q) (C := R_Suite) (T := F_Suite) (N := 5) hx hb hk i_Suite hown hK hP 4 rfl rfl 2 (by decide) (hk _ kl_Suite_29) (fun _ h9 => h9) rfl d_Suite_count_47 ?_
        refine va_get (D := D) (ci := 0) (v := .int (gWr w)) (C := R_World) (T := F_World) (N := 7) hx hb hk i_World hown hK hP 0 rfl rfl 2 (by decide) (hk _ kl_Suite_80) (fun _ h9 => h9) rfl d_Suite_count_50 ?_
        obtain rfl : res = (gWr w) := hres.symm.trans ((if_neg c_1).trans ((if_neg c_11).trans ((if_pos (by rfl)).trans rfl)))
        exact CM_iret hx hb hr hlocks hP hK hD hS d_Suite_count_53
      · refine lv_iconst (v := (-1 : Int32)) hx hb d_Suite_count_19 (by decide) ?_
        obtain rfl : res = (-1 : Int32) := hres.symm.trans ((if_neg c_1).trans ((if_neg c_11).trans ((if_neg c_16).trans rfl)))
        exact CM_iret hx hb hr hlocks hP hK hD hS d_Suite_count_20
  · subst c_1
    refine lv_aload_n hx hb d_Suite_count_4 rfl (lv_at hl 0 rfl) ?_
    refine va_get (D := D) (ci := 1) (v := .int be) (C := R_Suite) (T := F_Suite) (N := 5) hx hb hk i_Suite hown hK hP 4 rfl rfl 1 (by decide) (hk _ kl_Suite_22) (fun _ h9 => h9) rfl d_Suite_count_5 ?_
    obtain rfl : res = be := hres.symm.trans ((if_pos (by rfl)).trans rfl)
    exact CM_iret hx hb hr hlocks hP hK hD hS d_Suite_count_8
set_option maxHeartbeats 4000000 in
set_option maxRecDepth 100000 in
theorem c_World_init (l : Launch) (D : va_G) (cI cW : ClassId) (q : Nat) (nu : Int32) (b : Bool) : CMn (S := Nat × Nat × Nat) l y_World_init b_World_init 3 ({ frames := 1, cells := 3, slots := 98, locals := 12 }) D (tyC cI cW) [.ref q, .int nu, .int (bI b)] [(q, .inr (0, [.int 0, .null, .int 0, .null, .null, .int 0, .int 0]))] (fun u => W4 cI q u.1 u.2.1 u.2.2 (nw nu b)) 3 98 := by
  refine CMn_mk (by decide) (Nat.le_of_ble_eq_true rfl) ?_
  intro p e s m args below meth c A ls hx hb hr hml hown hk hlocks hA hSt hK hP hD hS hl hin
  have hown : s.vm.findClass R_World = some m.cls := hown
  have hl : lv_has ls 3 [(0, .ref q), (1, .int nu), (2, .int (bI b))] := hl
  refine lv_aload_n hx hb d_World_init_0 rfl (lv_at hl 0 rfl) ?_
  refine W.objInit hx hb hown (hk _ kl_World_3) (hk _ kn_objInit) (hk _ kc_objInit) rfl (by rw [hml]; exact hl.1) rfl d_World_init_1 (Nat.le_of_ble_eq_true rfl) (Nat.le_of_ble_eq_true rfl) ?_
  refine W.eq (g2 := F0 m 4 ls []) rfl ?_
  refine lv_aload_n hx hb d_World_init_4 rfl (lv_at hl 0 rfl) ?_
  refine lv_bipush (v := (64 : Int32)) hx hb d_World_init_5 (by decide) ?_
  refine va_newa (atype := .int) (ty := .int) (a0 := (64, .inl (fun _ => 0))) (N' := 64) hx hb (hk _ k_arrInt) rfl hK hP hD hS hA (fun cA => rfl) (by decide) (by decide) (by decide) (Nat.le_of_ble_eq_true rfl) (Nat.le_of_ble_eq_true rfl) d_World_init_7 (fun qn cA H hK1 hP hD hS => ?_)
  obtain rfl := arr_cls hK1
  clear hK1
  refine va_putF (D := D) (ci := 0) (v := .ref qn) (ty := .array .int) (C := R_World) (T := F_World) (N := 7) hx hb hk i_World t_World t_World_ok n_World hown hK hP hD hS 0 rfl rfl 1 (by decide) (hk _ kl_World_11) (fun _ h9 => h9) rfl hin rfl (by decide +kernel) rfl rfl (Nat.le_of_ble_eq_true rfl) d_World_init_9 (fun H locs hP hD hS => ?_)
  have hP : va_P D classes [(q, .inr (0, [.int 0, .ref qn, .int 0, .null, .null, .int 0, .int 0])), (qn, .inl (cI, 64, .inl (fun _ => 0)))] H := hP
  have hD : va_D A [(q, .inr (0, [.int 0, .ref qn, .int 0, .null, .null, .int 0, .int 0])), (qn, .inl (cI, 64, .inl (fun _ => 0)))] := hD
  refine lv_aload_n hx hb d_World_init_12 rfl (lv_at hl 0 rfl) ?_
  refine lv_bipush (v := (17 : Int32)) hx hb d_World_init_13 (by decide) ?_
  refine va_newa (atype := .int) (ty := .int) (a0 := (17, .inl (fun _ => 0))) (N' := 17) hx hb (hk _ k_arrInt) rfl hK hP hD hS hA (fun cA => rfl) (by decide) (by decide) (by decide) (Nat.le_of_ble_eq_true rfl) (Nat.le_of_ble_eq_true rfl) d_World_init_15 (fun qv cA H hK1 hP hD hS => ?_)
  obtain rfl := arr_cls hK1
  clear hK1
  refine va_putF (D := D) (ci := 0) (v := .ref qv) (ty := .array .int) (C := R_World) (T := F_World) (N := 7) hx hb hk i_World t_World t_World_ok n_World hown hK hP hD hS 0 rfl rfl 3 (by decide) (hk _ kl_World_17) (fun _ h9 => h9) rfl hin rfl (by decide +kernel) rfl rfl (Nat.le_of_ble_eq_true rfl) d_World_init_17 (fun H locs hP hD hS => ?_)
  have hP : va_P D classes [(q, .inr (0, [.int 0, .ref qn, .int 0, .ref qv, .null, .int 0, .int 0])), (qn, .inl (cI, 64, .inl (fun _ => 0))), (qv, .inl (cI, 17, .inl (fun _ => 0)))] H := hP
  have hD : va_D A [(q, .inr (0, [.int 0, .ref qn, .int 0, .ref qv, .null, .int 0, .int 0])), (qn, .inl (cI, 64, .inl (fun _ => 0))), (qv, .inl (cI, 17, .inl (fun _ => 0)))] := hD
  refine lv_aload_n hx hb d_World_init_20 rfl (lv_at hl 0 rfl) ?_
  refine lv_bipush (v := (17 : Int32)) hx hb d_World_init_21 (by decide) ?_
  refine va_newa (atype := .int) (ty := .int) (a0 := (17, .inl (fun _ => 0))) (N' := 17) hx hb (hk _ k_arrInt) rfl hK hP hD hS hA (fun cA => rfl) (by decide) (by decide) (by decide) (Nat.le_of_ble_eq_true rfl) (Nat.le_of_ble_eq_true rfl) d_World_init_23 (fun qs cA H hK1 hP hD hS => ?_)
  obtain rfl := arr_cls hK1
  clear hK1
  refine va_putF (D := D) (ci := 0) (v := .ref qs) (ty := .array .int) (C := R_World) (T := F_World) (N := 7) hx hb hk i_World t_World t_World_ok n_World hown hK hP hD hS 0 rfl rfl 4 (by decide) (hk _ kl_World_20) (fun _ h9 => h9) rfl hin rfl (by decide +kernel) rfl rfl (Nat.le_of_ble_eq_true rfl) d_World_init_25 (fun H locs hP hD hS => ?_)
  have hP : va_P D classes [(q, .inr (0, [.int 0, .ref qn, .int 0, .ref qv, .ref qs, .int 0, .int 0])), (qn, .inl (cI, 64, .inl (fun _ => 0))), (qv, .inl (cI, 17, .inl (fun _ => 0))), (qs, .inl (cI, 17, .inl (fun _ => 0)))] H := hP
  have hD : va_D A [(q, .inr (0, [.int 0, .ref qn, .int 0, .ref qv, .ref qs, .int 0, .int 0])), (qn, .inl (cI, 64, .inl (fun _ => 0))), (qv, .inl (cI, 17, .inl (fun _ => 0))), (qs, .inl (cI, 17, .inl (fun _ => 0)))] := hD
  refine lv_aload_n hx hb d_World_init_28 rfl (lv_at hl 0 rfl) ?_
  refine lv_iload_n hx hb d_World_init_29 rfl (lv_at hl 1 rfl) ?_
  refine va_putF (D := D) (ci := 0) (v := .int nu) (ty := .int) (C := R_World) (T := F_World) (N := 7) hx hb hk i_World t_World t_World_ok n_World hown hK hP hD hS 0 rfl rfl 0 (by decide) (hk _ kl_World_23) (fun _ h9 => h9) rfl hin rfl (by decide +kernel) rfl rfl (Nat.le_of_ble_eq_true rfl) d_World_init_30 (fun H locs hP hD hS => ?_)
  have hP : va_P D classes [(q, .inr (0, [.int nu, .ref qn, .int 0, .ref qv, .ref qs, .int 0, .int 0])), (qn, .inl (cI, 64, .inl (fun _ => 0))), (qv, .inl (cI, 17, .inl (fun _ => 0))), (qs, .inl (cI, 17, .inl (fun _ => 0)))] H := hP
  have hD : va_D A [(q, .inr (0, [.int nu, .ref qn, .int 0, .ref qv, .ref qs, .int 0, .int 0])), (qn, .inl (cI, 64, .inl (fun _ => 0))), (qv, .inl (cI, 17, .inl (fun _ => 0))), (qs, .inl (cI, 17, .inl (fun _ => 0)))] := hD
  refine lv_aload_n hx hb d_World_init_33 rfl (lv_at hl 0 rfl) ?_
  refine lv_iload_n hx hb d_World_init_34 rfl (lv_at hl 2 rfl) ?_
  refine va_put (D := D) (ci := 0) (v := .int (bI b)) (ty := .boolean) (C := R_World) (T := F_World) (N := 7) hx hb hk i_World t_World t_World_ok n_World hown hK hP hD hS 0 rfl rfl 5 (by decide) (hk _ kl_World_27) (fun _ h9 => h9) rfl (by decide +kernel) (bI_nar _) (bI_fit _) (Nat.le_of_ble_eq_true rfl) d_World_init_35 (fun H locs hP hD hS => ?_)
  have hP : va_P D classes [(q, .inr (0, [.int nu, .ref qn, .int 0, .ref qv, .ref qs, .int (bI b), .int 0])), (qn, .inl (cI, 64, .inl (fun _ => 0))), (qv, .inl (cI, 17, .inl (fun _ => 0))), (qs, .inl (cI, 17, .inl (fun _ => 0)))] H := hP
  have hD : va_D A [(q, .inr (0, [.int nu, .ref qn, .int 0, .ref qv, .ref qs, .int (bI b), .int 0])), (qn, .inl (cI, 64, .inl (fun _ => 0))), (qv, .inl (cI, 17, .inl (fun _ => 0))), (qs, .inl (cI, 17, .inl (fun _ => 0)))] := hD
  exact CMn_ret (S := Nat × Nat × Nat) (wsf := fun u => W4 cI q u.1 u.2.1 u.2.2 (nw nu b)) (qn, qv, qs) hx hb hr hlocks hP hK hD hS d_World_init_38
set_option maxHeartbeats 4000000 in
set_option maxRecDepth 100000 in
theorem c_Suite_init (l : Launch) (D : va_G) (cI cW : ClassId) (x : Nat) : CMn (S := Nat × Nat × Nat) l y_Suite_init b_Suite_init 2 ({ frames := 1, cells := 3, slots := 20, locals := 12 }) D (tyC cI cW) [.ref x] [(x, .inr (1, [.null, .int 0, .null, .null, .null]))] (fun u => S4 cI cW x u.1 u.2.1 u.2.2 0 .null (fun _ => none) (upd ((upd ((upd ((upd ((upd ((upd ((fun _ => (0 : Int32))) (0 : Int32).toNatClampNeg (-1 : Int32))) (1 : Int32).toNatClampNeg (-1 : Int32))) (2 : Int32).toNatClampNeg (-1 : Int32))) (3 : Int32).toNatClampNeg (-1 : Int32))) (4 : Int32).toNatClampNeg (-1 : Int32))) (5 : Int32).toNatClampNeg (-1 : Int32)) (upd ((upd ((upd ((upd ((upd ((upd ((fun _ => (0 : Int32))) (0 : Int32).toNatClampNeg (-1 : Int32))) (1 : Int32).toNatClampNeg (-1 : Int32))) (2 : Int32).toNatClampNeg (-1 : Int32))) (3 : Int32).toNatClampNeg (-1 : Int32))) (4 : Int32).toNatClampNeg (-1 : Int32))) (5 : Int32).toNatClampNeg (-1 : Int32))) 3 20 := by
  refine CMn_mk (by decide) (Nat.le_of_ble_eq_true rfl) ?_
  intro p e s m args below meth c A ls hx hb hr hml hown hk hlocks hA hSt hK hP hD hS hl hin
  have hown : s.vm.findClass R_Suite = some m.cls := hown
  have hl : lv_has ls 2 [(0, .ref x)] := hl
  refine lv_aload_n hx hb d_Suite_init_0 rfl (lv_at hl 0 rfl) ?_
  refine W.objInit hx hb hown (hk _ kl_Suite_1) (hk _ kn_objInit) (hk _ kc_objInit) rfl (by rw [hml]; exact hl.1) rfl d_Suite_init_1 (Nat.le_of_ble_eq_true rfl) (Nat.le_of_ble_eq_true rfl) ?_
  refine W.eq (g2 := F0 m 4 ls []) rfl ?_
  refine lv_aload_n hx hb d_Suite_init_4 rfl (lv_at hl 0 rfl) ?_
  refine lv_bipush (v := (8 : Int32)) hx hb d_Suite_init_5 (by decide) ?_
  refine va_newq (C := "SuiteLoader$World") (N' := 8) hx hb hown (hk _ kl_Suite_9) hSt.over hK hP hD hS hA (by decide) (by decide) (by decide) (Nat.le_of_ble_eq_true rfl) (Nat.le_of_ble_eq_true rfl) d_Suite_init_7 (fun xa cA H hK1 hP hD hS => ?_)
  obtain rfl := arr_clsW hK1
  clear hK1
  refine va_putF (D := D) (ci := 1) (v := .ref xa) (ty := .array (.object "SuiteLoader$World")) (C := R_Suite) (T := F_Suite) (N := 5) hx hb hk i_Suite t_Suite t_Suite_ok n_Suite hown hK hP hD hS 0 rfl rfl 0 (by decide) (hk _ kl_Suite_11) (fun _ h9 => h9) rfl hin rfl (by decide +kernel) rfl rfl (Nat.le_of_ble_eq_true rfl) d_Suite_init_10 (fun H locs hP hD hS => ?_)
  have hP : va_P D classes [(x, .inr (1, [.ref xa, .int 0, .null, .null, .null])), (xa, .inl (cW, 8, .inr (.inr (.inr (.inr (fun _ => none))))))] H := hP
  have hD : va_D A [(x, .inr (1, [.ref xa, .int 0, .null, .null, .null])), (xa, .inl (cW, 8, .inr (.inr (.inr (.inr (fun _ => none))))))] := hD
  refine lv_aload_n hx hb d_Suite_init_13 rfl (lv_at hl 0 rfl) ?_
  refine lv_bipush (v := (6 : Int32)) hx hb d_Suite_init_14 (by decide) ?_
  refine va_newa (atype := .int) (ty := .int) (a0 := (6, .inl (fun _ => 0))) (N' := 6) hx hb (hk _ k_arrInt) rfl hK hP hD hS hA (fun cA => rfl) (by decide) (by decide) (by decide) (Nat.le_of_ble_eq_true rfl) (Nat.le_of_ble_eq_true rfl) d_Suite_init_16 (fun xk cA H hK1 hP hD hS => ?_)
  obtain rfl := arr_cls hK1
  clear hK1
  refine va_putF (D := D) (ci := 1) (v := .ref xk) (ty := .array .int) (C := R_Suite) (T := F_Suite) (N := 5) hx hb hk i_Suite t_Suite t_Suite_ok n_Suite hown hK hP hD hS 0 rfl rfl 3 (by decide) (hk _ kl_Suite_15) (fun _ h9 => h9) rfl hin rfl (by decide +kernel) rfl rfl (Nat.le_of_ble_eq_true rfl) d_Suite_init_18 (fun H locs hP hD hS => ?_)
  have hP : va_P D classes [(x, .inr (1, [.ref xa, .int 0, .null, .ref xk, .null])), (xa, .inl (cW, 8, .inr (.inr (.inr (.inr (fun _ => none)))))), (xk, .inl (cI, 6, .inl (fun _ => 0)))] H := hP
  have hD : va_D A [(x, .inr (1, [.ref xa, .int 0, .null, .ref xk, .null])), (xa, .inl (cW, 8, .inr (.inr (.inr (.inr (fun _ => none)))))), (xk, .inl (cI, 6, .inl (fun _ => 0)))] := hD
  refine lv_aload_n hx hb d_Suite_init_21 rfl (lv_at hl 0 rfl) ?_
  refine lv_bipush (v := (6 : Int32)) hx hb d_Suite_init_22 (by decide) ?_
  refine va_newa (atype := .int) (ty := .int) (a0 := (6, .inl (fun _ => 0))) (N' := 6) hx hb (hk _ k_arrInt) rfl hK hP hD hS hA (fun cA => rfl) (by decide) (by decide) (by decide) (Nat.le_of_ble_eq_true rfl) (Nat.le_of_ble_eq_true rfl) d_Suite_init_24 (fun xw cA H hK1 hP hD hS => ?_)
  obtain rfl := arr_cls hK1
  clear hK1
  refine va_putF (D := D) (ci := 1) (v := .ref xw) (ty := .array .int) (C := R_Suite) (T := F_Suite) (N := 5) hx hb hk i_Suite t_Suite t_Suite_ok n_Suite hown hK hP hD hS 0 rfl rfl 4 (by decide) (hk _ kl_Suite_19) (fun _ h9 => h9) rfl hin rfl (by decide +kernel) rfl rfl (Nat.le_of_ble_eq_true rfl) d_Suite_init_26 (fun H locs hP hD hS => ?_)
  have hP : va_P D classes [(x, .inr (1, [.ref xa, .int 0, .null, .ref xk, .ref xw])), (xa, .inl (cW, 8, .inr (.inr (.inr (.inr (fun _ => none)))))), (xk, .inl (cI, 6, .inl (fun _ => 0))), (xw, .inl (cI, 6, .inl (fun _ => 0)))] H := hP
  have hD : va_D A [(x, .inr (1, [.ref xa, .int 0, .null, .ref xk, .ref xw])), (xa, .inl (cW, 8, .inr (.inr (.inr (.inr (fun _ => none)))))), (xk, .inl (cI, 6, .inl (fun _ => 0))), (xw, .inl (cI, 6, .inl (fun _ => 0)))] := hD
  have hP : va_P D classes (S4 cI cW x xa xk xw 0 .null (fun _ => none) (fun _ => (0 : Int32)) (fun _ => (0 : Int32))) H := hP
  have hD : va_D A (S4 cI cW x xa xk xw 0 .null (fun _ => none) (fun _ => (0 : Int32)) (fun _ => (0 : Int32))) := hD
  refine lv_iconst (v := (0 : Int32)) hx hb d_Suite_init_29 (by decide) ?_
  refine lv_istore_n (lv' := [(1, .int (0 : Int32)), (0, .ref x)]) hx hb d_Suite_init_30 rfl hl (by decide) rfl (fun ls hl => ?_)
  refine lv_iload_n hx hb d_Suite_init_31 rfl (lv_at hl 0 rfl) ?_
  refine lv_bipush (v := (6 : Int32)) hx hb d_Suite_init_32 (by decide) ?_
  refine lv_icmp_ge (tgt := 57) hx hb d_Suite_init_34 (by decide) (fun h9 => absurd h9 (by decide)) (fun _ => ?_)
  refine lv_aload_n hx hb d_Suite_init_37 rfl (lv_at hl 1 rfl) ?_
  refine va_get (D := D) (ci := 1) (v := .ref xk) (C := R_Suite) (T := F_Suite) (N := 5) hx hb hk i_Suite hown hK hP 0 rfl rfl 3 (by decide) (hk _ kl_Suite_15) (fun _ h9 => h9) rfl d_Suite_init_38 ?_
  refine lv_iload_n hx hb d_Suite_init_41 rfl (lv_at hl 0 rfl) ?_
  refine lv_iconst (v := (-1 : Int32)) hx hb d_Suite_init_42 (by decide) ?_
  refine va_iast hx hb hK hP hD hS 2 0 rfl rfl (by unfold vp_in; decide) d_Suite_init_43 (fun H locs hP hD hS => ?_)
  have hP : va_P D classes (S4 cI cW x xa xk xw 0 .null (fun _ => none) (upd ((fun _ => (0 : Int32))) (0 : Int32).toNatClampNeg (-1 : Int32)) (fun _ => (0 : Int32))) H := hP
  have hD : va_D A (S4 cI cW x xa xk xw 0 .null (fun _ => none) (upd ((fun _ => (0 : Int32))) (0 : Int32).toNatClampNeg (-1 : Int32)) (fun _ => (0 : Int32))) := hD
  refine lv_aload_n hx hb d_Suite_init_44 rfl (lv_at hl 1 rfl) ?_
  refine va_get (D := D) (ci := 1) (v := .ref xw) (C := R_Suite) (T := F_Suite) (N := 5) hx hb hk i_Suite hown hK hP 0 rfl rfl 4 (by decide) (hk _ kl_Suite_19) (fun _ h9 => h9) rfl d_Suite_init_45 ?_
  refine lv_iload_n hx hb d_Suite_init_48 rfl (lv_at hl 0 rfl) ?_
  refine lv_iconst (v := (-1 : Int32)) hx hb d_Suite_init_49 (by decide) ?_
  refine va_iast hx hb hK hP hD hS 3 0 rfl rfl (by unfold vp_in; decide) d_Suite_init_50 (fun H locs hP hD hS => ?_)
  have hP : va_P D classes (S4 cI cW x xa xk xw 0 .null (fun _ => none) (upd ((fun _ => (0 : Int32))) (0 : Int32).toNatClampNeg (-1 : Int32)) (upd ((fun _ => (0 : Int32))) (0 : Int32).toNatClampNeg (-1 : Int32))) H := hP
  have hD : va_D A (S4 cI cW x xa xk xw 0 .null (fun _ => none) (upd ((fun _ => (0 : Int32))) (0 : Int32).toNatClampNeg (-1 : Int32)) (upd ((fun _ => (0 : Int32))) (0 : Int32).toNatClampNeg (-1 : Int32))) := hD
  refine lv_iinc (v := (1 : Int32)) (lv' := [(1, .int (1 : Int32)), (0, .ref x)]) hx hb d_Suite_init_51 hl (k := 0) rfl (by decide) (by decide) rfl (fun ls hl => ?_)
  refine lv_goto (tgt := 31) hx hb d_Suite_init_54 (by decide) ?_
  refine lv_iload_n hx hb d_Suite_init_31 rfl (lv_at hl 0 rfl) ?_
  refine lv_bipush (v := (6 : Int32)) hx hb d_Suite_init_32 (by decide) ?_
  refine lv_icmp_ge (tgt := 57) hx hb d_Suite_init_34 (by decide) (fun h9 => absurd h9 (by decide)) (fun _ => ?_)
  refine lv_aload_n hx hb d_Suite_init_37 rfl (lv_at hl 1 rfl) ?_
  refine va_get (D := D) (ci := 1) (v := .ref xk) (C := R_Suite) (T := F_Suite) (N := 5) hx hb hk i_Suite hown hK hP 0 rfl rfl 3 (by decide) (hk _ kl_Suite_15) (fun _ h9 => h9) rfl d_Suite_init_38 ?_
  refine lv_iload_n hx hb d_Suite_init_41 rfl (lv_at hl 0 rfl) ?_
  refine lv_iconst (v := (-1 : Int32)) hx hb d_Suite_init_42 (by decide) ?_
  refine va_iast hx hb hK hP hD hS 2 0 rfl rfl (by unfold vp_in; decide) d_Suite_init_43 (fun H locs hP hD hS => ?_)
  have hP : va_P D classes (S4 cI cW x xa xk xw 0 .null (fun _ => none) (upd ((upd ((fun _ => (0 : Int32))) (0 : Int32).toNatClampNeg (-1 : Int32))) (1 : Int32).toNatClampNeg (-1 : Int32)) (upd ((fun _ => (0 : Int32))) (0 : Int32).toNatClampNeg (-1 : Int32))) H := hP
  have hD : va_D A (S4 cI cW x xa xk xw 0 .null (fun _ => none) (upd ((upd ((fun _ => (0 : Int32))) (0 : Int32).toNatClampNeg (-1 : Int32))) (1 : Int32).toNatClampNeg (-1 : Int32)) (upd ((fun _ => (0 : Int32))) (0 : Int32).toNatClampNeg (-1 : Int32))) := hD
  refine lv_aload_n hx hb d_Suite_init_44 rfl (lv_at hl 1 rfl) ?_
  refine va_get (D := D) (ci := 1) (v := .ref xw) (C := R_Suite) (T := F_Suite) (N := 5) hx hb hk i_Suite hown hK hP 0 rfl rfl 4 (by decide) (hk _ kl_Suite_19) (fun _ h9 => h9) rfl d_Suite_init_45 ?_
  refine lv_iload_n hx hb d_Suite_init_48 rfl (lv_at hl 0 rfl) ?_
  refine lv_iconst (v := (-1 : Int32)) hx hb d_Suite_init_49 (by decide) ?_
  refine va_iast hx hb hK hP hD hS 3 0 rfl rfl (by unfold vp_in; decide) d_Suite_init_50 (fun H locs hP hD hS => ?_)
  have hP : va_P D classes (S4 cI cW x xa xk xw 0 .null (fun _ => none) (upd ((upd ((fun _ => (0 : Int32))) (0 : Int32).toNatClampNeg (-1 : Int32))) (1 : Int32).toNatClampNeg (-1 : Int32)) (upd ((upd ((fun _ => (0 : Int32))) (0 : Int32).toNatClampNeg (-1 : Int32))) (1 : Int32).toNatClampNeg (-1 : Int32))) H := hP
  have hD : va_D A (S4 cI cW x xa xk xw 0 .null (fun _ => none) (upd ((upd ((fun _ => (0 : Int32))) (0 : Int32).toNatClampNeg (-1 : Int32))) (1 : Int32).toNatClampNeg (-1 : Int32)) (upd ((upd ((fun _ => (0 : Int32))) (0 : Int32).toNatClampNeg (-1 : Int32))) (1 : Int32).toNatClampNeg (-1 : Int32))) := hD
  refine lv_iinc (v := (2 : Int32)) (lv' := [(1, .int (2 : Int32)), (0, .ref x)]) hx hb d_Suite_init_51 hl (k := 0) rfl (by decide) (by decide) rfl (fun ls hl => ?_)
  refine lv_goto (tgt := 31) hx hb d_Suite_init_54 (by decide) ?_
  refine lv_iload_n hx hb d_Suite_init_31 rfl (lv_at hl 0 rfl) ?_
  refine lv_bipush (v := (6 : Int32)) hx hb d_Suite_init_32 (by decide) ?_
  refine lv_icmp_ge (tgt := 57) hx hb d_Suite_init_34 (by decide) (fun h9 => absurd h9 (by decide)) (fun _ => ?_)
  refine lv_aload_n hx hb d_Suite_init_37 rfl (lv_at hl 1 rfl) ?_
  refine va_get (D := D) (ci := 1) (v := .ref xk) (C := R_Suite) (T := F_Suite) (N := 5) hx hb hk i_Suite hown hK hP 0 rfl rfl 3 (by decide) (hk _ kl_Suite_15) (fun _ h9 => h9) rfl d_Suite_init_38 ?_
  refine lv_iload_n hx hb d_Suite_init_41 rfl (lv_at hl 0 rfl) ?_
  refine lv_iconst (v := (-1 : Int32)) hx hb d_Suite_init_42 (by decide) ?_
  refine va_iast hx hb hK hP hD hS 2 0 rfl rfl (by unfold vp_in; decide) d_Suite_init_43 (fun H locs hP hD hS => ?_)
  have hP : va_P D classes (S4 cI cW x xa xk xw 0 .null (fun _ => none) (upd ((upd ((upd ((fun _ => (0 : Int32))) (0 : Int32).toNatClampNeg (-1 : Int32))) (1 : Int32).toNatClampNeg (-1 : Int32))) (2 : Int32).toNatClampNeg (-1 : Int32)) (upd ((upd ((fun _ => (0 : Int32))) (0 : Int32).toNatClampNeg (-1 : Int32))) (1 : Int32).toNatClampNeg (-1 : Int32))) H := hP
  have hD : va_D A (S4 cI cW x xa xk xw 0 .null (fun _ => none) (upd ((upd ((upd ((fun _ => (0 : Int32))) (0 : Int32).toNatClampNeg (-1 : Int32))) (1 : Int32).toNatClampNeg (-1 : Int32))) (2 : Int32).toNatClampNeg (-1 : Int32)) (upd ((upd ((fun _ => (0 : Int32))) (0 : Int32).toNatClampNeg (-1 : Int32))) (1 : Int32).toNatClampNeg (-1 : Int32))) := hD
  refine lv_aload_n hx hb d_Suite_init_44 rfl (lv_at hl 1 rfl) ?_
  refine va_get (D := D) (ci := 1) (v := .ref xw) (C := R_Suite) (T := F_Suite) (N := 5) hx hb hk i_Suite hown hK hP 0 rfl rfl 4 (by decide) (hk _ kl_Suite_19) (fun _ h9 => h9) rfl d_Suite_init_45 ?_
  refine lv_iload_n hx hb d_Suite_init_48 rfl (lv_at hl 0 rfl) ?_
  refine lv_iconst (v := (-1 : Int32)) hx hb d_Suite_init_49 (by decide) ?_
  refine va_iast hx hb hK hP hD hS 3 0 rfl rfl (by unfold vp_in; decide) d_Suite_init_50 (fun H locs hP hD hS => ?_)
  have hP : va_P D classes (S4 cI cW x xa xk xw 0 .null (fun _ => none) (upd ((upd ((upd ((fun _ => (0 : Int32))) (0 : Int32).toNatClampNeg (-1 : Int32))) (1 : Int32).toNatClampNeg (-1 : Int32))) (2 : Int32).toNatClampNeg (-1 : Int32)) (upd ((upd ((upd ((fun _ => (0 : Int32))) (0 : Int32).toNatClampNeg (-1 : Int32))) (1 : Int32).toNatClampNeg (-1 : Int32))) (2 : Int32).toNatClampNeg (-1 : Int32))) H := hP
  have hD : va_D A (S4 cI cW x xa xk xw 0 .null (fun _ => none) (upd ((upd ((upd ((fun _ => (0 : Int32))) (0 : Int32).toNatClampNeg (-1 : Int32))) (1 : Int32).toNatClampNeg (-1 : Int32))) (2 : Int32).toNatClampNeg (-1 : Int32)) (upd ((upd ((upd ((fun _ => (0 : Int32))) (0 : Int32).toNatClampNeg (-1 : Int32))) (1 : Int32).toNatClampNeg (-1 : Int32))) (2 : Int32).toNatClampNeg (-1 : Int32))) := hD
  refine lv_iinc (v := (3 : Int32)) (lv' := [(1, .int (3 : Int32)), (0, .ref x)]) hx hb d_Suite_init_51 hl (k := 0) rfl (by decide) (by decide) rfl (fun ls hl => ?_)
  refine lv_goto (tgt := 31) hx hb d_Suite_init_54 (by decide) ?_
  refine lv_iload_n hx hb d_Suite_init_31 rfl (lv_at hl 0 rfl) ?_
  refine lv_bipush (v := (6 : Int32)) hx hb d_Suite_init_32 (by decide) ?_
  refine lv_icmp_ge (tgt := 57) hx hb d_Suite_init_34 (by decide) (fun h9 => absurd h9 (by decide)) (fun _ => ?_)
  refine lv_aload_n hx hb d_Suite_init_37 rfl (lv_at hl 1 rfl) ?_
  refine va_get (D := D) (ci := 1) (v := .ref xk) (C := R_Suite) (T := F_Suite) (N := 5) hx hb hk i_Suite hown hK hP 0 rfl rfl 3 (by decide) (hk _ kl_Suite_15) (fun _ h9 => h9) rfl d_Suite_init_38 ?_
  refine lv_iload_n hx hb d_Suite_init_41 rfl (lv_at hl 0 rfl) ?_
  refine lv_iconst (v := (-1 : Int32)) hx hb d_Suite_init_42 (by decide) ?_
  refine va_iast hx hb hK hP hD hS 2 0 rfl rfl (by unfold vp_in; decide) d_Suite_init_43 (fun H locs hP hD hS => ?_)
  have hP : va_P D classes (S4 cI cW x xa xk xw 0 .null (fun _ => none) (upd ((upd ((upd ((upd ((fun _ => (0 : Int32))) (0 : Int32).toNatClampNeg (-1 : Int32))) (1 : Int32).toNatClampNeg (-1 : Int32))) (2 : Int32).toNatClampNeg (-1 : Int32))) (3 : Int32).toNatClampNeg (-1 : Int32)) (upd ((upd ((upd ((fun _ => (0 : Int32))) (0 : Int32).toNatClampNeg (-1 : Int32))) (1 : Int32).toNatClampNeg (-1 : Int32))) (2 : Int32).toNatClampNeg (-1 : Int32))) H := hP
  have hD : va_D A (S4 cI cW x xa xk xw 0 .null (fun _ => none) (upd ((upd ((upd ((upd ((fun _ => (0 : Int32))) (0 : Int32).toNatClampNeg (-1 : Int32))) (1 : Int32).toNatClampNeg (-1 : Int32))) (2 : Int32).toNatClampNeg (-1 : Int32))) (3 : Int32).toNatClampNeg (-1 : Int32)) (upd ((upd ((upd ((fun _ => (0 : Int32))) (0 : Int32).toNatClampNeg (-1 : Int32))) (1 : Int32).toNatClampNeg (-1 : Int32))) (2 : Int32).toNatClampNeg (-1 : Int32))) := hD
  refine lv_aload_n hx hb d_Suite_init_44 rfl (lv_at hl 1 rfl) ?_
  refine va_get (D := D) (ci := 1) (v := .ref xw) (C := R_Suite) (T := F_Suite) (N := 5) hx hb hk i_Suite hown hK hP 0 rfl rfl 4 (by decide) (hk _ kl_Suite_19) (fun _ h9 => h9) rfl d_Suite_init_45 ?_
  refine lv_iload_n hx hb d_Suite_init_48 rfl (lv_at hl 0 rfl) ?_
  refine lv_iconst (v := (-1 : Int32)) hx hb d_Suite_init_49 (by decide) ?_
  refine va_iast hx hb hK hP hD hS 3 0 rfl rfl (by unfold vp_in; decide) d_Suite_init_50 (fun H locs hP hD hS => ?_)
  have hP : va_P D classes (S4 cI cW x xa xk xw 0 .null (fun _ => none) (upd ((upd ((upd ((upd ((fun _ => (0 : Int32))) (0 : Int32).toNatClampNeg (-1 : Int32))) (1 : Int32).toNatClampNeg (-1 : Int32))) (2 : Int32).toNatClampNeg (-1 : Int32))) (3 : Int32).toNatClampNeg (-1 : Int32)) (upd ((upd ((upd ((upd ((fun _ => (0 : Int32))) (0 : Int32).toNatClampNeg (-1 : Int32))) (1 : Int32).toNatClampNeg (-1 : Int32))) (2 : Int32).toNatClampNeg (-1 : Int32))) (3 : Int32).toNatClampNeg (-1 : Int32))) H := hP
  have hD : va_D A (S4 cI cW x xa xk xw 0 .null (fun _ => none) (upd ((upd ((upd ((upd ((fun _ => (0 : Int32))) (0 : Int32).toNatClampNeg (-1 : Int32))) (1 : Int32).toNatClampNeg (-1 : Int32))) (2 : Int32).toNatClampNeg (-1 : Int32))) (3 : Int32).toNatClampNeg (-1 : Int32)) (upd ((upd ((upd ((upd ((fun _ => (0 : Int32))) (0 : Int32).toNatClampNeg (-1 : Int32))) (1 : Int32).toNatClampNeg (-1 : Int32))) (2 : Int32).toNatClampNeg (-1 : Int32))) (3 : Int32).toNatClampNeg (-1 : Int32))) := hD
  refine lv_iinc (v := (4 : Int32)) (lv' := [(1, .int (4 : Int32)), (0, .ref x)]) hx hb d_Suite_init_51 hl (k := 0) rfl (by decide) (by decide) rfl (fun ls hl => ?_)
  refine lv_goto (tgt := 31) hx hb d_Suite_init_54 (by decide) ?_
  refine lv_iload_n hx hb d_Suite_init_31 rfl (lv_at hl 0 rfl) ?_
  refine lv_bipush (v := (6 : Int32)) hx hb d_Suite_init_32 (by decide) ?_
  refine lv_icmp_ge (tgt := 57) hx hb d_Suite_init_34 (by decide) (fun h9 => absurd h9 (by decide)) (fun _ => ?_)
  refine lv_aload_n hx hb d_Suite_init_37 rfl (lv_at hl 1 rfl) ?_
  refine va_get (D := D) (ci := 1) (v := .ref xk) (C := R_Suite) (T := F_Suite) (N := 5) hx hb hk i_Suite hown hK hP 0 rfl rfl 3 (by decide) (hk _ kl_Suite_15) (fun _ h9 => h9) rfl d_Suite_init_38 ?_
  refine lv_iload_n hx hb d_Suite_init_41 rfl (lv_at hl 0 rfl) ?_
  refine lv_iconst (v := (-1 : Int32)) hx hb d_Suite_init_42 (by decide) ?_
  refine va_iast hx hb hK hP hD hS 2 0 rfl rfl (by unfold vp_in; decide) d_Suite_init_43 (fun H locs hP hD hS => ?_)
  have hP : va_P D classes (S4 cI cW x xa xk xw 0 .null (fun _ => none) (upd ((upd ((upd ((upd ((upd ((fun _ => (0 : Int32))) (0 : Int32).toNatClampNeg (-1 : Int32))) (1 : Int32).toNatClampNeg (-1 : Int32))) (2 : Int32).toNatClampNeg (-1 : Int32))) (3 : Int32).toNatClampNeg (-1 : Int32))) (4 : Int32).toNatClampNeg (-1 : Int32)) (upd ((upd ((upd ((upd ((fun _ => (0 : Int32))) (0 : Int32).toNatClampNeg (-1 : Int32))) (1 : Int32).toNatClampNeg (-1 : Int32))) (2 : Int32).toNatClampNeg (-1 : Int32))) (3 : Int32).toNatClampNeg (-1 : Int32))) H := hP
  have hD : va_D A (S4 cI cW x xa xk xw 0 .null (fun _ => none) (upd ((upd ((upd ((upd ((upd ((fun _ => (0 : Int32))) (0 : Int32).toNatClampNeg (-1 : Int32))) (1 : Int32).toNatClampNeg (-1 : Int32))) (2 : Int32).toNatClampNeg (-1 : Int32))) (3 : Int32).toNatClampNeg (-1 : Int32))) (4 : Int32).toNatClampNeg (-1 : Int32)) (upd ((upd ((upd ((upd ((fun _ => (0 : Int32))) (0 : Int32).toNatClampNeg (-1 : Int32))) (1 : Int32).toNatClampNeg (-1 : Int32))) (2 : Int32).toNatClampNeg (-1 : Int32))) (3 : Int32).toNatClampNeg (-1 : Int32))) := hD
  refine lv_aload_n hx hb d_Suite_init_44 rfl (lv_at hl 1 rfl) ?_
  refine va_get (D := D) (ci := 1) (v := .ref xw) (C := R_Suite) (T := F_Suite) (N := 5) hx hb hk i_Suite hown hK hP 0 rfl rfl 4 (by decide) (hk _ kl_Suite_19) (fun _ h9 => h9) rfl d_Suite_init_45 ?_
  refine lv_iload_n hx hb d_Suite_init_48 rfl (lv_at hl 0 rfl) ?_
  refine lv_iconst (v := (-1 : Int32)) hx hb d_Suite_init_49 (by decide) ?_
  refine va_iast hx hb hK hP hD hS 3 0 rfl rfl (by unfold vp_in; decide) d_Suite_init_50 (fun H locs hP hD hS => ?_)
  have hP : va_P D classes (S4 cI cW x xa xk xw 0 .null (fun _ => none) (upd ((upd ((upd ((upd ((upd ((fun _ => (0 : Int32))) (0 : Int32).toNatClampNeg (-1 : Int32))) (1 : Int32).toNatClampNeg (-1 : Int32))) (2 : Int32).toNatClampNeg (-1 : Int32))) (3 : Int32).toNatClampNeg (-1 : Int32))) (4 : Int32).toNatClampNeg (-1 : Int32)) (upd ((upd ((upd ((upd ((upd ((fun _ => (0 : Int32))) (0 : Int32).toNatClampNeg (-1 : Int32))) (1 : Int32).toNatClampNeg (-1 : Int32))) (2 : Int32).toNatClampNeg (-1 : Int32))) (3 : Int32).toNatClampNeg (-1 : Int32))) (4 : Int32).toNatClampNeg (-1 : Int32))) H := hP
  have hD : va_D A (S4 cI cW x xa xk xw 0 .null (fun _ => none) (upd ((upd ((upd ((upd ((upd ((fun _ => (0 : Int32))) (0 : Int32).toNatClampNeg (-1 : Int32))) (1 : Int32).toNatClampNeg (-1 : Int32))) (2 : Int32).toNatClampNeg (-1 : Int32))) (3 : Int32).toNatClampNeg (-1 : Int32))) (4 : Int32).toNatClampNeg (-1 : Int32)) (upd ((upd ((upd ((upd ((upd ((fun _ => (0 : Int32))) (0 : Int32).toNatClampNeg (-1 : Int32))) (1 : Int32).toNatClampNeg (-1 : Int32))) (2 : Int32).toNatClampNeg (-1 : Int32))) (3 : Int32).toNatClampNeg (-1 : Int32))) (4 : Int32).toNatClampNeg (-1 : Int32))) := hD
  refine lv_iinc (v := (5 : Int32)) (lv' := [(1, .int (5 : Int32)), (0, .ref x)]) hx hb d_Suite_init_51 hl (k := 0) rfl (by decide) (by decide) rfl (fun ls hl => ?_)
  refine lv_goto (tgt := 31) hx hb d_Suite_init_54 (by decide) ?_
  refine lv_iload_n hx hb d_Suite_init_31 rfl (lv_at hl 0 rfl) ?_
  refine lv_bipush (v := (6 : Int32)) hx hb d_Suite_init_32 (by decide) ?_
  refine lv_icmp_ge (tgt := 57) hx hb d_Suite_init_34 (by decide) (fun h9 => absurd h9 (by decide)) (fun _ => ?_)
  refine lv_aload_n hx hb d_Suite_init_37 rfl (lv_at hl 1 rfl) ?_
  refine va_get (D := D) (ci := 1) (v := .ref xk) (C := R_Suite) (T := F_Suite) (N := 5) hx hb hk i_Suite hown hK hP 0 rfl rfl 3 (by decide) (hk _ kl_Suite_15) (fun _ h9 => h9) rfl d_Suite_init_38 ?_
  refine lv_iload_n hx hb d_Suite_init_41 rfl (lv_at hl 0 rfl) ?_
  refine lv_iconst (v := (-1 : Int32)) hx hb d_Suite_init_42 (by decide) ?_
  refine va_iast hx hb hK hP hD hS 2 0 rfl rfl (by unfold vp_in; decide) d_Suite_init_43 (fun H locs hP hD hS => ?_)
  have hP : va_P D classes (S4 cI cW x xa xk xw 0 .null (fun _ => none) (upd ((upd ((upd ((upd ((upd ((upd ((fun _ => (0 : Int32))) (0 : Int32).toNatClampNeg (-1 : Int32))) (1 : Int32).toNatClampNeg (-1 : Int32))) (2 : Int32).toNatClampNeg (-1 : Int32))) (3 : Int32).toNatClampNeg (-1 : Int32))) (4 : Int32).toNatClampNeg (-1 : Int32))) (5 : Int32).toNatClampNeg (-1 : Int32)) (upd ((upd ((upd ((upd ((upd ((fun _ => (0 : Int32))) (0 : Int32).toNatClampNeg (-1 : Int32))) (1 : Int32).toNatClampNeg (-1 : Int32))) (2 : Int32).toNatClampNeg (-1 : Int32))) (3 : Int32).toNatClampNeg (-1 : Int32))) (4 : Int32).toNatClampNeg (-1 : Int32))) H := hP
  have hD : va_D A (S4 cI cW x xa xk xw 0 .null (fun _ => none) (upd ((upd ((upd ((upd ((upd ((upd ((fun _ => (0 : Int32))) (0 : Int32).toNatClampNeg (-1 : Int32))) (1 : Int32).toNatClampNeg (-1 : Int32))) (2 : Int32).toNatClampNeg (-1 : Int32))) (3 : Int32).toNatClampNeg (-1 : Int32))) (4 : Int32).toNatClampNeg (-1 : Int32))) (5 : Int32).toNatClampNeg (-1 : Int32)) (upd ((upd ((upd ((upd ((upd ((fun _ => (0 : Int32))) (0 : Int32).toNatClampNeg (-1 : Int32))) (1 : Int32).toNatClampNeg (-1 : Int32))) (2 : Int32).toNatClampNeg (-1 : Int32))) (3 : Int32).toNatClampNeg (-1 : Int32))) (4 : Int32).toNatClampNeg (-1 : Int32))) := hD
  refine lv_aload_n hx hb d_Suite_init_44 rfl (lv_at hl 1 rfl) ?_
  refine va_get (D := D) (ci := 1) (v := .ref xw) (C := R_Suite) (T := F_Suite) (N := 5) hx hb hk i_Suite hown hK hP 0 rfl rfl 4 (by decide) (hk _ kl_Suite_19) (fun _ h9 => h9) rfl d_Suite_init_45 ?_
  refine lv_iload_n hx hb d_Suite_init_48 rfl (lv_at hl 0 rfl) ?_
  refine lv_iconst (v := (-1 : Int32)) hx hb d_Suite_init_49 (by decide) ?_
  refine va_iast hx hb hK hP hD hS 3 0 rfl rfl (by unfold vp_in; decide) d_Suite_init_50 (fun H locs hP hD hS => ?_)
  have hP : va_P D classes (S4 cI cW x xa xk xw 0 .null (fun _ => none) (upd ((upd ((upd ((upd ((upd ((upd ((fun _ => (0 : Int32))) (0 : Int32).toNatClampNeg (-1 : Int32))) (1 : Int32).toNatClampNeg (-1 : Int32))) (2 : Int32).toNatClampNeg (-1 : Int32))) (3 : Int32).toNatClampNeg (-1 : Int32))) (4 : Int32).toNatClampNeg (-1 : Int32))) (5 : Int32).toNatClampNeg (-1 : Int32)) (upd ((upd ((upd ((upd ((upd ((upd ((fun _ => (0 : Int32))) (0 : Int32).toNatClampNeg (-1 : Int32))) (1 : Int32).toNatClampNeg (-1 : Int32))) (2 : Int32).toNatClampNeg (-1 : Int32))) (3 : Int32).toNatClampNeg (-1 : Int32))) (4 : Int32).toNatClampNeg (-1 : Int32))) (5 : Int32).toNatClampNeg (-1 : Int32))) H := hP
  have hD : va_D A (S4 cI cW x xa xk xw 0 .null (fun _ => none) (upd ((upd ((upd ((upd ((upd ((upd ((fun _ => (0 : Int32))) (0 : Int32).toNatClampNeg (-1 : Int32))) (1 : Int32).toNatClampNeg (-1 : Int32))) (2 : Int32).toNatClampNeg (-1 : Int32))) (3 : Int32).toNatClampNeg (-1 : Int32))) (4 : Int32).toNatClampNeg (-1 : Int32))) (5 : Int32).toNatClampNeg (-1 : Int32)) (upd ((upd ((upd ((upd ((upd ((upd ((fun _ => (0 : Int32))) (0 : Int32).toNatClampNeg (-1 : Int32))) (1 : Int32).toNatClampNeg (-1 : Int32))) (2 : Int32).toNatClampNeg (-1 : Int32))) (3 : Int32).toNatClampNeg (-1 : Int32))) (4 : Int32).toNatClampNeg (-1 : Int32))) (5 : Int32).toNatClampNeg (-1 : Int32))) := hD
  refine lv_iinc (v := (6 : Int32)) (lv' := [(1, .int (6 : Int32)), (0, .ref x)]) hx hb d_Suite_init_51 hl (k := 0) rfl (by decide) (by decide) rfl (fun ls hl => ?_)
  refine lv_goto (tgt := 31) hx hb d_Suite_init_54 (by decide) ?_
  refine lv_iload_n hx hb d_Suite_init_31 rfl (lv_at hl 0 rfl) ?_
  refine lv_bipush (v := (6 : Int32)) hx hb d_Suite_init_32 (by decide) ?_
  refine lv_icmp_ge (tgt := 57) hx hb d_Suite_init_34 (by decide) (fun _ => ?_) (fun h9 => absurd (by decide) h9)
  exact CMn_ret (S := Nat × Nat × Nat) (wsf := fun u => S4 cI cW x u.1 u.2.1 u.2.2 0 .null (fun _ => none) (upd ((upd ((upd ((upd ((upd ((upd ((fun _ => (0 : Int32))) (0 : Int32).toNatClampNeg (-1 : Int32))) (1 : Int32).toNatClampNeg (-1 : Int32))) (2 : Int32).toNatClampNeg (-1 : Int32))) (3 : Int32).toNatClampNeg (-1 : Int32))) (4 : Int32).toNatClampNeg (-1 : Int32))) (5 : Int32).toNatClampNeg (-1 : Int32)) (upd ((upd ((upd ((upd ((upd ((upd ((fun _ => (0 : Int32))) (0 : Int32).toNatClampNeg (-1 : Int32))) (1 : Int32).toNatClampNeg (-1 : Int32))) (2 : Int32).toNatClampNeg (-1 : Int32))) (3 : Int32).toNatClampNeg (-1 : Int32))) (4 : Int32).toNatClampNeg (-1 : Int32))) (5 : Int32).toNatClampNeg (-1 : Int32))) (xa, xk, xw) hx hb hr hlocks hP hK hD hS d_Suite_init_57
set_option maxHeartbeats 4000000 in
set_option maxRecDepth 100000 in
theorem c_begin_no (l : Launch) (D : va_G) (cI cW : ClassId) (x xa xk xw : Nat) (wv : Value) (f : (Nat → Option Nat)) (sk : (Nat → Int32)) (sl : (Nat → Int32))  (be : Int32) (b : Bool) (h8 : ¬ be < 8) (res : Int32) (hres : m_begin_no be b = res) : CM l y_Suite_begin b_Suite_begin 2 .int ({ frames := 0, cells := 0, slots := 0, locals := 0 }) D (tyC cI cW) [.ref x, .int (bI b)] (S4 cI cW x xa xk xw be wv f sk sl) res (S4 cI cW x xa xk xw be wv f sk sl) := by
  refine CM_mk (by decide) (Nat.le_of_ble_eq_true rfl) ?_
  intro p e s m args below meth c A ls hx hb hr hml hown hk hlocks hA hSt hK hP hD hS hl
  have hown : s.vm.findClass R_Suite = some m.cls := hown
  have hl : lv_has ls 2 [(0, .ref x), (1, .int (bI b))] := hl
  refine lv_aload_n hx hb d_Suite_begin_0 rfl (lv_at hl 0 rfl) ?_
  refine va_get (D := D) (ci := 1) (v := .int be) (C := R_Suite) (T := F_Suite) (N := 5) hx hb hk i_Suite hown hK hP 0 rfl rfl 1 (by decide) (hk _ kl_Suite_22) (fun _ h9 => h9) rfl d_Suite_begin_1 ?_
  refine lv_bipush (v := (8 : Int32)) hx hb d_Suite_begin_4 (by decide) ?_
  refine lv_icmp_lt (tgt := 11) hx hb d_Suite_begin_6 (by decide) (fun h9 => absurd h9 h8) (fun _ => ?_)
  refine lv_iconst (v := (-1 : Int32)) hx hb d_Suite_begin_9 (by decide) ?_
  obtain rfl : res = (-1 : Int32) := hres.symm.trans rfl
  exact CM_iret hx hb hr hlocks hP hK hD hS d_Suite_begin_10
set_option maxHeartbeats 4000000 in
set_option maxRecDepth 100000 in
theorem c_begin_new (l : Launch) (D : va_G) (cI cW : ClassId) (x xa xk xw : Nat) (be : Int32) (wv : Value) (f : Nat → Option Nat) (sk sl : Nat → Int32) (b : Bool) (hin8 : vp_in be 8) (h8 : be < 8) : CMa (S := Nat × Nat × Nat × Nat) l y_Suite_begin b_Suite_begin 2 .int ({ frames := 2, cells := 4, slots := 105, locals := 40 }) D (tyC cI cW) [.ref x, .int (bI b)] (S4 cI cW x xa xk xw be wv f sk sl) be (fun u => S4 cI cW x xa xk xw (be + 1) (.ref u.1) (va_up f be.toNatClampNeg (some u.1)) sk sl ++ W4 cI u.1 u.2.1 u.2.2.1 u.2.2.2 (nw be b)) 4 105 := by
  refine CMa_mk (by decide) (Nat.le_of_ble_eq_true rfl) ?_
  intro p e s m args below meth c A ls hx hb hr hml hown hk hlocks hA hSt hK hP hD hS hl
  have hown : s.vm.findClass R_Suite = some m.cls := hown
  have hl : lv_has ls 2 [(0, .ref x), (1, .int (bI b))] := hl
  refine lv_aload_n hx hb d_Suite_begin_0 rfl (lv_at hl 0 rfl) ?_
  refine va_get (D := D) (ci := 1) (v := .int be) (C := R_Suite) (T := F_Suite) (N := 5) hx hb hk i_Suite hown hK hP 0 rfl rfl 1 (by decide) (hk _ kl_Suite_22) (fun _ h9 => h9) rfl d_Suite_begin_1 ?_
  refine lv_bipush (v := (8 : Int32)) hx hb d_Suite_begin_4 (by decide) ?_
  refine lv_icmp_lt (tgt := 11) hx hb d_Suite_begin_6 (by decide) (fun _ => ?_) (fun h9 => absurd h8 h9)
  refine lv_aload_n hx hb d_Suite_begin_11 rfl (lv_at hl 0 rfl) ?_
  refine va_new (ci := 0) (fs := [.int 0, .null, .int 0, .null, .null, .int 0, .int 0]) (C := R_World) (T := F_World) (N := 7) hx hb hk i_World t_World t_World_ok hown (hk _ kl_Suite_9) (hk _ k_instW) (hk _ ki_World) hK hP hD hS hA rfl (fun j hj => by rcases (show j = 0 ∨ j = 1 ∨ j = 2 ∨ j = 3 ∨ j = 4 ∨ j = 5 ∨ j = 6 by omega) with rfl | rfl | rfl | rfl | rfl | rfl | rfl <;> rfl) (Nat.le_of_ble_eq_true rfl) (Nat.le_of_ble_eq_true rfl) d_Suite_begin_12 (fun q H hP hD hS => ?_)
  have hP : va_P D classes (S4 cI cW x xa xk xw be wv f sk sl ++ [(q, .inr (0, [.int 0, .null, .int 0, .null, .null, .int 0, .int 0]))]) H := hP
  have hD : va_D A (S4 cI cW x xa xk xw be wv f sk sl ++ [(q, .inr (0, [.int 0, .null, .int 0, .null, .null, .int 0, .int 0]))]) := hD
  refine lv_dup hx hb d_Suite_begin_15 rfl ?_
  refine lv_aload_n hx hb d_Suite_begin_16 rfl (lv_at hl 0 rfl) ?_
  refine va_get (D := D) (ci := 1) (v := .int be) (C := R_Suite) (T := F_Suite) (N := 5) hx hb hk i_Suite hown hK hP 0 rfl rfl 1 (by decide) (hk _ kl_Suite_22) (fun _ h9 => h9) rfl d_Suite_begin_17 ?_
  refine lv_iload_n hx hb d_Suite_begin_20 rfl (lv_at hl 1 rfl) ?_
  have hP := hP.sub (ws' := [(q, .inr (0, [.int 0, .null, .int 0, .null, .null, .int 0, .int 0]))] ++ S4 cI cW x xa xk xw be wv f sk sl) [4, 0, 1, 2, 3] rfl
  have hD := hD.sub (ws' := [(q, .inr (0, [.int 0, .null, .int 0, .null, .null, .int 0, .int 0]))] ++ S4 cI cW x xa xk xw be wv f sk sl) [4, 0, 1, 2, 3] (by decide) rfl
  refine CMn.callI (wc := [(q, .inr (0, [.int 0, .null, .int 0, .null, .null, .int 0, .int 0]))]) (wr := S4 cI cW x xa xk xw be wv f sk sl) (b := q) (av := [.int be, .int (bI b)]) (rest := [.ref q, .ref x]) hx hb hml hown hk (c_World_init l D cI cW q be b) hK hP hD hS hA hSt hl.1 d_Suite_begin_21 kc_World_init ki_World kl_Suite_26 kn_World_init rfl (n := 2) rfl (by decide +kernel) ⟨Nat.le_of_ble_eq_true rfl, Nat.le_of_ble_eq_true rfl⟩ rfl rfl (Nat.le_of_ble_eq_true rfl) ⟨Nat.le_of_ble_eq_true rfl, Nat.le_of_ble_eq_true rfl⟩ (fun u H locs hP hD hS => ?_)
  obtain ⟨qn, qv, qs⟩ := u
  have hP := hP.sub (ws' := S4 cI cW x xa xk xw be wv f sk sl ++ W4 cI q qn qv qs (nw be b)) [4, 5, 6, 7, 0, 1, 2, 3] rfl
  have hD := hD.sub (ws' := S4 cI cW x xa xk xw be wv f sk sl ++ W4 cI q qn qv qs (nw be b)) [4, 5, 6, 7, 0, 1, 2, 3] (by decide) rfl
  refine va_put (D := D) (ci := 1) (v := .ref q) (ty := .object "SuiteLoader$World") (C := R_Suite) (T := F_Suite) (N := 5) hx hb hk i_Suite t_Suite t_Suite_ok n_Suite hown hK hP hD hS 0 rfl rfl 2 (by decide) (hk _ kl_Suite_29) (fun _ h9 => h9) rfl (by decide +kernel) rfl rfl (Nat.le_of_ble_eq_true rfl) d_Suite_begin_24 (fun H locs hP hD hS => ?_)
  have hP : va_P D classes (S4 cI cW x xa xk xw be (.ref q) f sk sl ++ W4 cI q qn qv qs (nw be b)) H := hP
  have hD : va_D A (S4 cI cW x xa xk xw be (.ref q) f sk sl ++ W4 cI q qn qv qs (nw be b)) := hD
  refine lv_aload_n hx hb d_Suite_begin_27 rfl (lv_at hl 0 rfl) ?_
  refine va_get (D := D) (ci := 1) (v := .ref xa) (C := R_Suite) (T := F_Suite) (N := 5) hx hb hk i_Suite hown hK hP 0 rfl rfl 0 (by decide) (hk _ kl_Suite_11) (fun _ h9 => h9) rfl d_Suite_begin_28 ?_
  refine lv_aload_n hx hb d_Suite_begin_31 rfl (lv_at hl 0 rfl) ?_
  refine va_get (D := D) (ci := 1) (v := .int be) (C := R_Suite) (T := F_Suite) (N := 5) hx hb hk i_Suite hown hK hP 0 rfl rfl 1 (by decide) (hk _ kl_Suite_22) (fun _ h9 => h9) rfl d_Suite_begin_32 ?_
  refine lv_aload_n hx hb d_Suite_begin_35 rfl (lv_at hl 0 rfl) ?_
  refine va_get (D := D) (ci := 1) (v := .ref q) (C := R_Suite) (T := F_Suite) (N := 5) hx hb hk i_Suite hown hK hP 0 rfl rfl 2 (by decide) (hk _ kl_Suite_29) (fun _ h9 => h9) rfl d_Suite_begin_36 ?_
  refine va_astq hx hb hK hP hD hS 1 1 4 0 rfl rfl rfl rfl hin8 d_Suite_begin_39 (fun H locs hP hD hS => ?_)
  have hP : va_P D classes (S4 cI cW x xa xk xw be (.ref q) (va_up (f) be.toNatClampNeg (some q)) sk sl ++ W4 cI q qn qv qs (nw be b)) H := hP
  have hD : va_D A (S4 cI cW x xa xk xw be (.ref q) (va_up (f) be.toNatClampNeg (some q)) sk sl ++ W4 cI q qn qv qs (nw be b)) := hD
  refine lv_aload_n hx hb d_Suite_begin_40 rfl (lv_at hl 0 rfl) ?_
  refine lv_dup hx hb d_Suite_begin_41 rfl ?_
  refine va_get (D := D) (ci := 1) (v := .int be) (C := R_Suite) (T := F_Suite) (N := 5) hx hb hk i_Suite hown hK hP 0 rfl rfl 1 (by decide) (hk _ kl_Suite_22) (fun _ h9 => h9) rfl d_Suite_begin_42 ?_
  refine lv_iconst (v := (1 : Int32)) hx hb d_Suite_begin_45 (by decide) ?_
  refine lv_iadd hx hb d_Suite_begin_46 ?_
  refine va_put (D := D) (ci := 1) (v := .int (be + (1 : Int32))) (ty := .int) (C := R_Suite) (T := F_Suite) (N := 5) hx hb hk i_Suite t_Suite t_Suite_ok n_Suite hown hK hP hD hS 0 rfl rfl 1 (by decide) (hk _ kl_Suite_22) (fun _ h9 => h9) rfl (by decide +kernel) rfl rfl (Nat.le_of_ble_eq_true rfl) d_Suite_begin_47 (fun H locs hP hD hS => ?_)
  have hP : va_P D classes (S4 cI cW x xa xk xw (be + (1 : Int32)) (.ref q) (va_up (f) be.toNatClampNeg (some q)) sk sl ++ W4 cI q qn qv qs (nw be b)) H := hP
  have hD : va_D A (S4 cI cW x xa xk xw (be + (1 : Int32)) (.ref q) (va_up (f) be.toNatClampNeg (some q)) sk sl ++ W4 cI q qn qv qs (nw be b)) := hD
  refine lv_aload_n hx hb d_Suite_begin_50 rfl (lv_at hl 0 rfl) ?_
  refine va_get (D := D) (ci := 1) (v := .ref q) (C := R_Suite) (T := F_Suite) (N := 5) hx hb hk i_Suite hown hK hP 0 rfl rfl 2 (by decide) (hk _ kl_Suite_29) (fun _ h9 => h9) rfl d_Suite_begin_51 ?_
  refine va_get (D := D) (ci := 0) (v := .int (gNu (nw be b))) (C := R_World) (T := F_World) (N := 7) hx hb hk i_World hown hK hP 4 rfl rfl 0 (by decide) (hk _ kl_Suite_33) (fun _ h9 => h9) rfl d_Suite_begin_54 ?_
  exact CMa_ret (S := Nat × Nat × Nat × Nat) (r := be) (wsf := fun u => S4 cI cW x xa xk xw (be + 1) (.ref u.1) (va_up f be.toNatClampNeg (some u.1)) sk sl ++ W4 cI u.1 u.2.1 u.2.2.1 u.2.2.2 (nw be b)) (q, qn, qv, qs) hx hb hr hlocks hP hK hD hS d_Suite_begin_57
set_option maxHeartbeats 4000000 in
set_option maxRecDepth 100000 in
theorem c_enter_no (l : Launch) (D : va_G) (cI cW : ClassId) (x xa xk xw : Nat) (wv : Value) (f : (Nat → Option Nat)) (sk : (Nat → Int32)) (sl : (Nat → Int32))  (i : Int32) (be : Int32) (hno : i < 0 ∨ ¬ i < be) (res : Int32) (hres : m_enter_no i be = res) : CM l y_Suite_enter b_Suite_enter 2 .int ({ frames := 0, cells := 0, slots := 0, locals := 0 }) D (tyC cI cW) [.ref x, .int i] (S4 cI cW x xa xk xw be wv f sk sl) res (S4 cI cW x xa xk xw be wv f sk sl) := by
  refine CM_mk (by decide) (Nat.le_of_ble_eq_true rfl) ?_
  intro p e s m args below meth c A ls hx hb hr hml hown hk hlocks hA hSt hK hP hD hS hl
  have hown : s.vm.findClass R_Suite = some m.cls := hown
  have hl : lv_has ls 2 [(0, .ref x), (1, .int i)] := hl
  refine lv_iload_n hx hb d_Suite_enter_0 rfl (lv_at hl 1 rfl) ?_
  refine lv_if_lt (tgt := 12) hx hb d_Suite_enter_1 (by decide) (fun c_1 => ?_) (fun c_1 => ?_)
  · refine lv_iconst (v := (-1 : Int32)) hx hb d_Suite_enter_12 (by decide) ?_
    obtain rfl : res = (-1 : Int32) := hres.symm.trans ((if_pos c_1).trans rfl)
    exact CM_iret hx hb hr hlocks hP hK hD hS d_Suite_enter_13
  · refine lv_iload_n hx hb d_Suite_enter_4 rfl (lv_at hl 1 rfl) ?_
    refine lv_aload_n hx hb d_Suite_enter_5 rfl (lv_at hl 0 rfl) ?_
    refine va_get (D := D) (ci := 1) (v := .int be) (C := R_Suite) (T := F_Suite) (N := 5) hx hb hk i_Suite hown hK hP 0 rfl rfl 1 (by decide) (hk _ kl_Suite_22) (fun _ h9 => h9) rfl d_Suite_enter_6 ?_
    refine lv_icmp_lt (tgt := 14) hx hb d_Suite_enter_9 (by decide) (fun c_9 => ?_) (fun c_9 => ?_)
    · exact (hno.elim c_1 (fun h => h c_9)).elim
    · refine lv_iconst (v := (-1 : Int32)) hx hb d_Suite_enter_12 (by decide) ?_
      obtain rfl : res = (-1 : Int32) := hres.symm.trans ((if_neg c_1).trans ((if_neg c_9).trans rfl))
      exact CM_iret hx hb hr hlocks hP hK hD hS d_Suite_enter_13
set_option maxHeartbeats 4000000 in
set_option maxRecDepth 100000 in
theorem c_enter_ok (l : Launch) (D : va_G) (cI cW : ClassId) (x xa xk xw : Nat) (wv : Value) (sk : (Nat → Int32)) (sl : (Nat → Int32))  (i : Int32) (be : Int32) (f : (Nat → Option Nat)) (a : Nat) (h0 : ¬ i < 0) (h1 : i < be) (hin : vp_in i 8) (hf : f i.toNatClampNeg = some a) (z1 : Value) (z2 : Int32) (hres : m_enter_ok i be f a = (z1, z2)) : CM l y_Suite_enter b_Suite_enter 2 .int ({ frames := 0, cells := 0, slots := 0, locals := 0 }) D (tyC cI cW) [.ref x, .int i] (S4 cI cW x xa xk xw be wv f sk sl) z2 (S4 cI cW x xa xk xw be z1 f sk sl) := by
  refine CM_mk (by decide) (Nat.le_of_ble_eq_true rfl) ?_
  intro p e s m args below meth c A ls hx hb hr hml hown hk hlocks hA hSt hK hP hD hS hl
  have hown : s.vm.findClass R_Suite = some m.cls := hown
  have hl : lv_has ls 2 [(0, .ref x), (1, .int i)] := hl
  refine lv_iload_n hx hb d_Suite_enter_0 rfl (lv_at hl 1 rfl) ?_
  refine lv_if_lt (tgt := 12) hx hb d_Suite_enter_1 (by decide) (fun h9 => absurd h9 h0) (fun _ => ?_)
  refine lv_iload_n hx hb d_Suite_enter_4 rfl (lv_at hl 1 rfl) ?_
  refine lv_aload_n hx hb d_Suite_enter_5 rfl (lv_at hl 0 rfl) ?_
  refine va_get (D := D) (ci := 1) (v := .int be) (C := R_Suite) (T := F_Suite) (N := 5) hx hb hk i_Suite hown hK hP 0 rfl rfl 1 (by decide) (hk _ kl_Suite_22) (fun _ h9 => h9) rfl d_Suite_enter_6 ?_
  refine lv_icmp_lt (tgt := 14) hx hb d_Suite_enter_9 (by decide) (fun _ => ?_) (fun h9 => absurd h1 h9)
  refine lv_aload_n hx hb d_Suite_enter_14 rfl (lv_at hl 0 rfl) ?_
  refine lv_aload_n hx hb d_Suite_enter_15 rfl (lv_at hl 0 rfl) ?_
  refine va_get (D := D) (ci := 1) (v := .ref xa) (C := R_Suite) (T := F_Suite) (N := 5) hx hb hk i_Suite hown hK hP 0 rfl rfl 0 (by decide) (hk _ kl_Suite_11) (fun _ h9 => h9) rfl d_Suite_enter_16 ?_
  refine lv_iload_n hx hb d_Suite_enter_19 rfl (lv_at hl 1 rfl) ?_
  refine va_aldq hx hb hK hP 1 1 rfl rfl hin d_Suite_enter_20 ?_
  rw [hf]
  refine W.eq (g2 := F0 m 21 ls [.ref a, .ref x]) rfl ?_
  refine va_put (D := D) (ci := 1) (v := .ref a) (ty := .object "SuiteLoader$World") (C := R_Suite) (T := F_Suite) (N := 5) hx hb hk i_Suite t_Suite t_Suite_ok n_Suite hown hK hP hD hS 0 rfl rfl 2 (by decide) (hk _ kl_Suite_29) (fun _ h9 => h9) rfl (by decide +kernel) rfl rfl (Nat.le_of_ble_eq_true rfl) d_Suite_enter_21 (fun H locs hP hD hS => ?_)
  have hP : va_P D classes (S4 cI cW x xa xk xw be (.ref a) f sk sl) H := hP
  have hD : va_D A (S4 cI cW x xa xk xw be (.ref a) f sk sl) := hD
  refine lv_iconst (v := (0 : Int32)) hx hb d_Suite_enter_24 (by decide) ?_
  obtain ⟨rfl, rfl⟩ : z1 = (.ref a) ∧ z2 = (0 : Int32) := Prod.mk.inj (hres.symm.trans rfl)
  exact CM_iret hx hb hr hlocks hP hK hD hS d_Suite_enter_25

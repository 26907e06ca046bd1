set_option maxHeartbeats 4000000 in
set_option maxRecDepth 100000 in
theorem c_M_begin (l : Launch) (D : va_G) (cI cZ : ClassId) (o o1 o2 o3 o4 o5 o6 o7 o8 o9 o10 o11 o12 : Nat)   (b : Bool) (md : MM) (hb8 : ¬ (aWn md) = 8 → vp_in (aWn md) 8) (z1 : MM) (z2 : Int32) (hres : m_M_begin b md = (z1, z2)) : CM l y_Model_begin b_Model_begin 2 .int ({ frames := 0, cells := 0, slots := 0, locals := 0 }) D (tyZ cI cZ) [.ref o, .int (bI b)] (M13 cI cZ o o1 o2 o3 o4 o5 o6 o7 o8 o9 o10 o11 o12 md) z2 (M13 cI cZ o o1 o2 o3 o4 o5 o6 o7 o8 o9 o10 o11 o12 z1) := by
  refine CM_mk (by decide) (Nat.le_of_ble_eq_true rfl) ?_
  intro p e s m args below meth c A ls hx hb hr hml hown hk hlocks hA hSt hK hP hD hS hl
  have hown : s.vm.findClass R_Model = some m.cls := hown
  have hl : lv_has ls 2 [(0, .ref o), (1, .int (bI b))] := hl
  refine lv_aload_n hx hb d_Model_begin_0 rfl (lv_at hl 0 rfl) ?_
  refine va_get (D := D) (ci := 2) (v := .int (aWn md)) (C := R_Model) (T := F_Model) (N := 14) hx hb hk i_Model hown hK hP 0 rfl rfl 10 (by decide) (hk _ kl_Model_51) (fun _ h9 => h9) rfl d_Model_begin_1 ?_
  refine lv_bipush (v := (8 : Int32)) hx hb d_Model_begin_4 (by decide) ?_
  refine lv_icmp_ne (tgt := 11) hx hb d_Model_begin_6 (by decide) (fun c_6 => ?_) (fun c_6 => ?_)
  · refine lv_aload_n hx hb d_Model_begin_11 rfl (lv_at hl 0 rfl) ?_
    refine lv_aload_n hx hb d_Model_begin_12 rfl (lv_at hl 0 rfl) ?_
    refine va_get (D := D) (ci := 2) (v := .int (aWn md)) (C := R_Model) (T := F_Model) (N := 14) hx hb hk i_Model hown hK hP 0 rfl rfl 10 (by decide) (hk _ kl_Model_51) (fun _ h9 => h9) rfl d_Model_begin_13 ?_
    refine va_put (D := D) (ci := 2) (v := .int (aWn md)) (ty := .int) (C := R_Model) (T := F_Model) (N := 14) hx hb hk i_Model t_Model t_Model_ok n_Model hown hK hP hD hS 0 rfl rfl 11 (by decide) (hk _ kl_Model_41) (fun _ h9 => h9) rfl (by decide +kernel) rfl rfl (Nat.le_of_ble_eq_true rfl) d_Model_begin_16 (fun H locs hP hD hS => ?_)
    have hP : va_P D classes (M13 cI cZ o o1 o2 o3 o4 o5 o6 o7 o8 o9 o10 o11 o12 (uWc md (aWn md))) H := hP
    have hD : va_D A (M13 cI cZ o o1 o2 o3 o4 o5 o6 o7 o8 o9 o10 o11 o12 (uWc md (aWn md))) := hD
    refine lv_aload_n hx hb d_Model_begin_19 rfl (lv_at hl 0 rfl) ?_
    refine va_get (D := D) (ci := 2) (v := .ref o9) (C := R_Model) (T := F_Model) (N := 14) hx hb hk i_Model hown hK hP 0 rfl rfl 8 (by decide) (hk _ kl_Model_34) (fun _ h9 => h9) rfl d_Model_begin_20 ?_
    refine lv_aload_n hx hb d_Model_begin_23 rfl (lv_at hl 0 rfl) ?_
    refine va_get (D := D) (ci := 2) (v := .int (aWc (uWc md (aWn md)))) (C := R_Model) (T := F_Model) (N := 14) hx hb hk i_Model hown hK hP 0 rfl rfl 11 (by decide) (hk _ kl_Model_41) (fun _ h9 => h9) rfl d_Model_begin_24 ?_
    refine lv_iload_n hx hb d_Model_begin_27 rfl (lv_at hl 1 rfl) ?_
    refine va_zast hx hb hK hP hD hS 9 1 rfl rfl (hb8 c_6) d_Model_begin_28 (fun H locs hP hD hS => ?_)
    rw [zn_bI] at hP hD
    have hP : va_P D classes (M13 cI cZ o o1 o2 o3 o4 o5 o6 o7 o8 o9 o10 o11 o12 (uSw (uWc md (aWn md)) (upd ((aSw (uWc md (aWn md)))) (aWc (uWc md (aWn md))).toNatClampNeg (bI b)))) H := hP
    have hD : va_D A (M13 cI cZ o o1 o2 o3 o4 o5 o6 o7 o8 o9 o10 o11 o12 (uSw (uWc md (aWn md)) (upd ((aSw (uWc md (aWn md)))) (aWc (uWc md (aWn md))).toNatClampNeg (bI b)))) := hD
    refine lv_aload_n hx hb d_Model_begin_29 rfl (lv_at hl 0 rfl) ?_
    refine lv_dup hx hb d_Model_begin_30 rfl ?_
    refine va_get (D := D) (ci := 2) (v := .int (aWn (uSw (uWc md (aWn md)) (upd ((aSw (uWc md (aWn md)))) (aWc (uWc md (aWn md))).toNatClampNeg (bI b))))) (C := R_Model) (T := F_Model) (N := 14) hx hb hk i_Model hown hK hP 0 rfl rfl 10 (by decide) (hk _ kl_Model_51) (fun _ h9 => h9) rfl d_Model_begin_31 ?_
    refine lv_iconst (v := (1 : Int32)) hx hb d_Model_begin_34 (by decide) ?_
    refine lv_iadd hx hb d_Model_begin_35 ?_
    refine va_put (D := D) (ci := 2) (v := .int ((aWn (uSw (uWc md (aWn md)) (upd ((aSw (uWc md (aWn md)))) (aWc (uWc md (aWn md))).toNatClampNeg (bI b)))) + (1 : Int32))) (ty := .int) (C := R_Model) (T := F_Model) (N := 14) hx hb hk i_Model t_Model t_Model_ok n_Model hown hK hP hD hS 0 rfl rfl 10 (by decide) (hk _ kl_Model_51) (fun _ h9 => h9) rfl (by decide +kernel) rfl rfl (Nat.le_of_ble_eq_true rfl) d_Model_begin_36 (fun H locs hP hD hS => ?_)
    have hP : va_P D classes (M13 cI cZ o o1 o2 o3 o4 o5 o6 o7 o8 o9 o10 o11 o12 (uWn (uSw (uWc md (aWn md)) (upd ((aSw (uWc md (aWn md)))) (aWc (uWc md (aWn md))).toNatClampNeg (bI b))) ((aWn (uSw (uWc md (aWn md)) (upd ((aSw (uWc md (aWn md)))) (aWc (uWc md (aWn md))).toNatClampNeg (bI b)))) + (1 : Int32)))) H := hP
    have hD : va_D A (M13 cI cZ o o1 o2 o3 o4 o5 o6 o7 o8 o9 o10 o11 o12 (uWn (uSw (uWc md (aWn md)) (upd ((aSw (uWc md (aWn md)))) (aWc (uWc md (aWn md))).toNatClampNeg (bI b))) ((aWn (uSw (uWc md (aWn md)) (upd ((aSw (uWc md (aWn md)))) (aWc (uWc md (aWn md))).toNatClampNeg (bI b)))) + (1 : Int32)))) := hD
    refine lv_aload_n hx hb d_Model_begin_39 rfl (lv_at hl 0 rfl) ?_
    refine va_get (D := D) (ci := 2) (v := .int (aWc (uWn (uSw (uWc md (aWn md)) (upd ((aSw (uWc md (aWn md)))) (aWc (uWc md (aWn md))).toNatClampNeg (bI b))) ((aWn (uSw (uWc md (aWn md)) (upd ((aSw (uWc md (aWn md)))) (aWc (uWc md (aWn md))).toNatClampNeg (bI b)))) + (1 : Int32))))) (C := R_Model) (T := F_Model) (N := 14) hx hb hk i_Model hown hK hP 0 rfl rfl 11 (by decide) (hk _ kl_Model_41) (fun _ h9 => h9) rfl d_Model_begin_40 ?_
    obtain ⟨rfl, rfl⟩ : (uWn (uSw (uWc md (aWn md)) (upd ((aSw (uWc md (aWn md)))) (aWc (uWc md (aWn md))).toNatClampNeg (bI b))) ((aWn (uSw (uWc md (aWn md)) (upd ((aSw (uWc md (aWn md)))) (aWc (uWc md (aWn md))).toNatClampNeg (bI b)))) + (1 : Int32))) = z1 ∧ (aWc (uWn (uSw (uWc md (aWn md)) (upd ((aSw (uWc md (aWn md)))) (aWc (uWc md (aWn md))).toNatClampNeg (bI b))) ((aWn (uSw (uWc md (aWn md)) (upd ((aSw (uWc md (aWn md)))) (aWc (uWc md (aWn md))).toNatClampNeg (bI b)))) + (1 : Int32)))) = z2 := Prod.mk.inj ((Eq.symm ((if_neg c_6).trans rfl)).trans hres)
    exact CM_iret hx hb hr hlocks hP hK hD hS d_Model_begin_43
  · refine lv_iconst (v := (-1 : Int32)) hx hb d_Model_begin_9 (by decide) ?_
    obtain ⟨rfl, rfl⟩ : md = z1 ∧ (-1 : Int32) = z2 := Prod.mk.inj ((Eq.symm ((if_pos c_6).trans rfl)).trans hres)
    exact CM_iret hx hb hr hlocks hP hK hD hS d_Model_begin_10
set_option maxHeartbeats 4000000 in
set_option maxRecDepth 100000 in
theorem c_M_enter (l : Launch) (D : va_G) (cI cZ : ClassId) (o o1 o2 o3 o4 o5 o6 o7 o8 o9 o10 o11 o12 : Nat)   (i : Int32) (md : MM)  (z1 : MM) (z2 : Int32) (hres : m_M_enter i md = (z1, z2)) : CM l y_Model_enter b_Model_enter 2 .int ({ frames := 1, cells := 0, slots := 0, locals := 21 }) D (tyZ cI cZ) [.ref o, .int i] (M13 cI cZ o o1 o2 o3 o4 o5 o6 o7 o8 o9 o10 o11 o12 md) z2 (M13 cI cZ o o1 o2 o3 o4 o5 o6 o7 o8 o9 o10 o11 o12 z1) := by
  refine CM_mk (by decide) (Nat.le_of_ble_eq_true rfl) ?_
  intro p e s m args below meth c A ls hx hb hr hml hown hk hlocks hA hSt hK hP hD hS hl
  have hown : s.vm.findClass R_Model = some m.cls := hown
  have hl : lv_has ls 2 [(0, .ref o), (1, .int i)] := hl
  refine lv_iload_n hx hb d_Model_enter_0 rfl (lv_at hl 1 rfl) ?_
  refine lv_aload_n hx hb d_Model_enter_1 rfl (lv_at hl 0 rfl) ?_
  refine va_get (D := D) (ci := 2) (v := .int (aWn md)) (C := R_Model) (T := F_Model) (N := 14) hx hb hk i_Model hown hK hP 0 rfl rfl 10 (by decide) (hk _ kl_Model_51) (fun _ h9 => h9) rfl d_Model_enter_2 ?_
  refine CM.callS (wc := []) (wr := M13 cI cZ o o1 o2 o3 o4 o5 o6 o7 o8 o9 o10 o11 o12 md) (av := [.int i, .int (aWn md)]) (rest := []) hx hb hml hown hk (c_M_in l D cI cZ i (aWn md) _ rfl) hK hP hD hS hA hSt hl.1 d_Model_enter_5 kc_Model_in ki_Model kl_Model_54 ks_Model_in (n := 2) rfl (by decide +kernel) ⟨Nat.le_of_ble_eq_true rfl, Nat.le_of_ble_eq_true rfl⟩ rfl rfl (Nat.le_of_ble_eq_true rfl) ⟨Nat.zero_le _, Nat.zero_le _⟩ (fun H locs hP hD hS => ?_)
  have hP : va_P D classes (M13 cI cZ o o1 o2 o3 o4 o5 o6 o7 o8 o9 o10 o11 o12 md) H := hP
  have hD : va_D A (M13 cI cZ o o1 o2 o3 o4 o5 o6 o7 o8 o9 o10 o11 o12 md) := hD
  refine lv_if_ne (tgt := 13) hx hb d_Model_enter_8 (by decide) (fun c_8 => ?_) (fun c_8 => ?_)
  · refine lv_aload_n hx hb d_Model_enter_13 rfl (lv_at hl 0 rfl) ?_
    refine lv_iload_n hx hb d_Model_enter_14 rfl (lv_at hl 1 rfl) ?_
    refine va_put (D := D) (ci := 2) (v := .int i) (ty := .int) (C := R_Model) (T := F_Model) (N := 14) hx hb hk i_Model t_Model t_Model_ok n_Model hown hK hP hD hS 0 rfl rfl 11 (by decide) (hk _ kl_Model_41) (fun _ h9 => h9) rfl (by decide +kernel) rfl rfl (Nat.le_of_ble_eq_true rfl) d_Model_enter_15 (fun H locs hP hD hS => ?_)
    have hP : va_P D classes (M13 cI cZ o o1 o2 o3 o4 o5 o6 o7 o8 o9 o10 o11 o12 (uWc md i)) H := hP
    have hD : va_D A (M13 cI cZ o o1 o2 o3 o4 o5 o6 o7 o8 o9 o10 o11 o12 (uWc md i)) := hD
    refine lv_iconst (v := (0 : Int32)) hx hb d_Model_enter_18 (by decide) ?_
    obtain ⟨rfl, rfl⟩ : (uWc md i) = z1 ∧ (0 : Int32) = z2 := Prod.mk.inj ((Eq.symm ((if_neg c_8).trans rfl)).trans hres)
    exact CM_iret hx hb hr hlocks hP hK hD hS d_Model_enter_19
  · refine lv_iconst (v := (-1 : Int32)) hx hb d_Model_enter_11 (by decide) ?_
    obtain ⟨rfl, rfl⟩ : md = z1 ∧ (-1 : Int32) = z2 := Prod.mk.inj ((Eq.symm ((if_pos c_8).trans rfl)).trans hres)
    exact CM_iret hx hb hr hlocks hP hK hD hS d_Model_enter_12
set_option maxHeartbeats 4000000 in
set_option maxRecDepth 100000 in
theorem c_M_asserting (l : Launch) (D : va_G) (cI cZ : ClassId) (o o1 o2 o3 o4 o5 o6 o7 o8 o9 o10 o11 o12 : Nat)   (b : Bool) (md : MM) (hw : 0 ≤ aWc md → okM 20 md) (z1 : MM) (z2 : Int32) (hres : m_M_asserting b md = (z1, z2)) : CM l y_Model_asserting b_Model_asserting 2 .int ({ frames := 0, cells := 0, slots := 0, locals := 0 }) D (tyZ cI cZ) [.ref o, .int (bI b)] (M13 cI cZ o o1 o2 o3 o4 o5 o6 o7 o8 o9 o10 o11 o12 md) z2 (M13 cI cZ o o1 o2 o3 o4 o5 o6 o7 o8 o9 o10 o11 o12 z1) := by
  refine CM_mk (by decide) (Nat.le_of_ble_eq_true rfl) ?_
  intro p e s m args below meth c A ls hx hb hr hml hown hk hlocks hA hSt hK hP hD hS hl
  have hown : s.vm.findClass R_Model = some m.cls := hown
  have hl : lv_has ls 2 [(0, .ref o), (1, .int (bI b))] := hl
  refine lv_aload_n hx hb d_Model_asserting_0 rfl (lv_at hl 0 rfl) ?_
  refine va_get (D := D) (ci := 2) (v := .int (aWc md)) (C := R_Model) (T := F_Model) (N := 14) hx hb hk i_Model hown hK hP 0 rfl rfl 11 (by decide) (hk _ kl_Model_41) (fun _ h9 => h9) rfl d_Model_asserting_1 ?_
  refine lv_if_ge (tgt := 10) hx hb d_Model_asserting_4 (by decide) (fun c_4 => ?_) (fun c_4 => ?_)
  · refine lv_aload_n hx hb d_Model_asserting_10 rfl (lv_at hl 0 rfl) ?_
    refine va_get (D := D) (ci := 2) (v := .ref o9) (C := R_Model) (T := F_Model) (N := 14) hx hb hk i_Model hown hK hP 0 rfl rfl 8 (by decide) (hk _ kl_Model_34) (fun _ h9 => h9) rfl d_Model_asserting_11 ?_
    refine lv_aload_n hx hb d_Model_asserting_14 rfl (lv_at hl 0 rfl) ?_
    refine va_get (D := D) (ci := 2) (v := .int (aWc md)) (C := R_Model) (T := F_Model) (N := 14) hx hb hk i_Model hown hK hP 0 rfl rfl 11 (by decide) (hk _ kl_Model_41) (fun _ h9 => h9) rfl d_Model_asserting_15 ?_
    refine lv_iload_n hx hb d_Model_asserting_18 rfl (lv_at hl 1 rfl) ?_
    refine va_zast hx hb hK hP hD hS 9 1 rfl rfl (hw c_4).1 d_Model_asserting_19 (fun H locs hP hD hS => ?_)
    rw [zn_bI] at hP hD
    have hP : va_P D classes (M13 cI cZ o o1 o2 o3 o4 o5 o6 o7 o8 o9 o10 o11 o12 (uSw md (upd ((aSw md)) (aWc md).toNatClampNeg (bI b)))) H := hP
    have hD : va_D A (M13 cI cZ o o1 o2 o3 o4 o5 o6 o7 o8 o9 o10 o11 o12 (uSw md (upd ((aSw md)) (aWc md).toNatClampNeg (bI b)))) := hD
    refine lv_iconst (v := (0 : Int32)) hx hb d_Model_asserting_20 (by decide) ?_
    obtain ⟨rfl, rfl⟩ : (uSw md (upd ((aSw md)) (aWc md).toNatClampNeg (bI b))) = z1 ∧ (0 : Int32) = z2 := Prod.mk.inj ((Eq.symm ((if_pos c_4).trans rfl)).trans hres)
    exact CM_iret hx hb hr hlocks hP hK hD hS d_Model_asserting_21
  · refine lv_bipush (v := (-2 : Int32)) hx hb d_Model_asserting_7 (by decide) ?_
    obtain ⟨rfl, rfl⟩ : md = z1 ∧ (-2 : Int32) = z2 := Prod.mk.inj ((Eq.symm ((if_neg c_4).trans rfl)).trans hres)
    exact CM_iret hx hb hr hlocks hP hK hD hS d_Model_asserting_9
set_option maxHeartbeats 4000000 in
set_option maxRecDepth 100000 in
theorem c_M_find (l : Launch) (D : va_G) (cI cZ : ClassId) (o o1 o2 o3 o4 o5 o6 o7 o8 o9 o10 o11 o12 : Nat)   (k : Int32) (b : Bool) (md : MM) (hw : 0 ≤ aWc md → okM 20 md) (z1 : MM) (z2 : Int32) (hres : m_M_find k b md = (z1, z2)) : CM l y_Model_find b_Model_find 3 .int ({ frames := 5, cells := 0, slots := 0, locals := 104 }) D (tyZ cI cZ) [.ref o, .int k, .int (bI b)] (M13 cI cZ o o1 o2 o3 o4 o5 o6 o7 o8 o9 o10 o11 o12 md) z2 (M13 cI cZ o o1 o2 o3 o4 o5 o6 o7 o8 o9 o10 o11 o12 z1) := by
  refine CM_mk (by decide) (Nat.le_of_ble_eq_true rfl) ?_
  intro p e s m args below meth c A ls hx hb hr hml hown hk hlocks hA hSt hK hP hD hS hl
  have hown : s.vm.findClass R_Model = some m.cls := hown
  have hl : lv_has ls 3 [(0, .ref o), (1, .int k), (2, .int (bI b))] := hl
  refine lv_iload_n hx hb d_Model_find_0 rfl (lv_at hl 1 rfl) ?_
  refine lv_bipush (v := (17 : Int32)) hx hb d_Model_find_1 (by decide) ?_
  refine CM.callS (wc := []) (wr := M13 cI cZ o o1 o2 o3 o4 o5 o6 o7 o8 o9 o10 o11 o12 md) (av := [.int k, .int (17 : Int32)]) (rest := []) hx hb hml hown hk (c_M_in l D cI cZ k (17 : Int32) _ rfl) hK hP hD hS hA hSt hl.1 d_Model_find_3 kc_Model_in ki_Model kl_Model_54 ks_Model_in (n := 2) rfl (by decide +kernel) ⟨Nat.le_of_ble_eq_true rfl, Nat.le_of_ble_eq_true rfl⟩ rfl rfl (Nat.le_of_ble_eq_true rfl) ⟨Nat.zero_le _, Nat.zero_le _⟩ (fun H locs hP hD hS => ?_)
  have hP : va_P D classes (M13 cI cZ o o1 o2 o3 o4 o5 o6 o7 o8 o9 o10 o11 o12 md) H := hP
  have hD : va_D A (M13 cI cZ o o1 o2 o3 o4 o5 o6 o7 o8 o9 o10 o11 o12 md) := hD
  refine lv_if_ne (tgt := 11) hx hb d_Model_find_6 (by decide) (fun c_6 => ?_) (fun c_6 => ?_)
  · refine lv_aload_n hx hb d_Model_find_11 rfl (lv_at hl 0 rfl) ?_
    refine va_get (D := D) (ci := 2) (v := .int (aWc md)) (C := R_Model) (T := F_Model) (N := 14) hx hb hk i_Model hown hK hP 0 rfl rfl 11 (by decide) (hk _ kl_Model_41) (fun _ h9 => h9) rfl d_Model_find_12 ?_
    refine lv_if_ge (tgt := 21) hx hb d_Model_find_15 (by decide) (fun c_15 => ?_) (fun c_15 => ?_)
    · refine lv_iload_n hx hb d_Model_find_21 rfl (lv_at hl 2 rfl) ?_
      refine lv_if_eq (tgt := 33) hx hb d_Model_find_22 (by decide) (fun c_22 => ?_) (fun c_22 => ?_)
      · refine lv_iconst (v := (0 : Int32)) hx hb d_Model_find_33 (by decide) ?_
        obtain ⟨rfl, rfl⟩ : md = z1 ∧ (0 : Int32) = z2 := Prod.mk.inj ((Eq.symm ((if_neg c_6).trans ((if_pos c_15).trans ((if_pos c_22).trans rfl)))).trans hres)
        exact CM_iret hx hb hr hlocks hP hK hD hS d_Model_find_34
      · refine lv_aload_n hx hb d_Model_find_25 rfl (lv_at hl 0 rfl) ?_
        refine lv_iload_n hx hb d_Model_find_26 rfl (lv_at hl 1 rfl) ?_
        refine CM.callV (wc := M13 cI cZ o o1 o2 o3 o4 o5 o6 o7 o8 o9 o10 o11 o12 md) (wr := []) (b := o) (av := [.int k]) (rest := []) hx hb hml hown hk (c_M_init l D cI cZ o o1 o2 o3 o4 o5 o6 o7 o8 o9 o10 o11 o12 k md (okM_mono (hw c_15) (by decide)) _ _ (pe2 _)) hK hP hD hS hA hSt hl.1 (va_recv hK hP (ci := 2) (q0 := 0) rfl rfl) d_Model_find_27 kc_Model_initk ki_Model kl_Model_108 kn_Model_initk kx_Model_initk (n := 1) rfl (by decide +kernel) ⟨Nat.le_of_ble_eq_true rfl, Nat.le_of_ble_eq_true rfl⟩ rfl rfl (Nat.le_of_ble_eq_true rfl) ⟨Nat.zero_le _, Nat.zero_le _⟩ (fun H locs hP hD hS => ?_)
        have hP : va_P D classes (M13 cI cZ o o1 o2 o3 o4 o5 o6 o7 o8 o9 o10 o11 o12 ((m_M_init k md).1)) H := hP
        have hD : va_D A (M13 cI cZ o o1 o2 o3 o4 o5 o6 o7 o8 o9 o10 o11 o12 ((m_M_init k md).1)) := hD
        obtain ⟨g1, hg1⟩ : ∃ z, (m_M_init k md).1 = z := ⟨_, rfl⟩
        rw [hg1] at hP hD
        refine lv_goto (tgt := 34) hx hb d_Model_find_30 (by decide) ?_
        subst hg1
        obtain ⟨rfl, rfl⟩ : ((m_M_init k md).1) = z1 ∧ (m_M_init k md).2 = z2 := Prod.mk.inj ((Eq.symm ((if_neg c_6).trans ((if_pos c_15).trans ((if_neg c_22).trans rfl)))).trans hres)
        exact CM_iret hx hb hr hlocks hP hK hD hS d_Model_find_34
    · refine lv_bipush (v := (-2 : Int32)) hx hb d_Model_find_18 (by decide) ?_
      obtain ⟨rfl, rfl⟩ : md = z1 ∧ (-2 : Int32) = z2 := Prod.mk.inj ((Eq.symm ((if_neg c_6).trans ((if_neg c_15).trans rfl))).trans hres)
      exact CM_iret hx hb hr hlocks hP hK hD hS d_Model_find_20
  · refine lv_iconst (v := (-1 : Int32)) hx hb d_Model_find_9 (by decide) ?_
    obtain ⟨rfl, rfl⟩ : md = z1 ∧ (-1 : Int32) = z2 := Prod.mk.inj ((Eq.symm ((if_pos c_6).trans rfl)).trans hres)
    exact CM_iret hx hb hr hlocks hP hK hD hS d_Model_find_10
set_option maxHeartbeats 4000000 in
set_option maxRecDepth 100000 in
theorem c_M_keep (l : Launch) (D : va_G) (cI cZ : ClassId) (o o1 o2 o3 o4 o5 o6 o7 o8 o9 o10 o11 o12 : Nat)   (i : Int32) (k : Int32) (md : MM) (hw : 0 ≤ aWc md → okM 20 md) (z1 : MM) (z2 : Int32) (hres : m_M_keep i k md = (z1, z2)) : CM l y_Model_keep b_Model_keep 4 .int ({ frames := 6, cells := 0, slots := 0, locals := 126 }) D (tyZ cI cZ) [.ref o, .int i, .int k] (M13 cI cZ o o1 o2 o3 o4 o5 o6 o7 o8 o9 o10 o11 o12 md) z2 (M13 cI cZ o o1 o2 o3 o4 o5 o6 o7 o8 o9 o10 o11 o12 z1) := by
  refine CM_mk (by decide) (Nat.le_of_ble_eq_true rfl) ?_
  intro p e s m args below meth c A ls hx hb hr hml hown hk hlocks hA hSt hK hP hD hS hl
  have hown : s.vm.findClass R_Model = some m.cls := hown
  have hl : lv_has ls 4 [(0, .ref o), (1, .int i), (2, .int k)] := hl
  refine lv_iload_n hx hb d_Model_keep_0 rfl (lv_at hl 1 rfl) ?_
  refine lv_bipush (v := (6 : Int32)) hx hb d_Model_keep_1 (by decide) ?_
  refine CM.callS (wc := []) (wr := M13 cI cZ o o1 o2 o3 o4 o5 o6 o7 o8 o9 o10 o11 o12 md) (av := [.int i, .int (6 : Int32)]) (rest := []) hx hb hml hown hk (c_M_in l D cI cZ i (6 : Int32) _ rfl) hK hP hD hS hA hSt hl.1 d_Model_keep_3 kc_Model_in ki_Model kl_Model_54 ks_Model_in (n := 2) rfl (by decide +kernel) ⟨Nat.le_of_ble_eq_true rfl, Nat.le_of_ble_eq_true rfl⟩ rfl rfl (Nat.le_of_ble_eq_true rfl) ⟨Nat.zero_le _, Nat.zero_le _⟩ (fun H locs hP hD hS => ?_)
  have hP : va_P D classes (M13 cI cZ o o1 o2 o3 o4 o5 o6 o7 o8 o9 o10 o11 o12 md) H := hP
  have hD : va_D A (M13 cI cZ o o1 o2 o3 o4 o5 o6 o7 o8 o9 o10 o11 o12 md) := hD
  refine lv_if_eq (tgt := 18) hx hb d_Model_keep_6 (by decide) (fun c_6 => ?_) (fun c_6 => ?_)
  · refine lv_iconst (v := (-1 : Int32)) hx hb d_Model_keep_18 (by decide) ?_
    obtain ⟨rfl, rfl⟩ : md = z1 ∧ (-1 : Int32) = z2 := Prod.mk.inj ((Eq.symm ((if_pos c_6).trans rfl)).trans hres)
    exact CM_iret hx hb hr hlocks hP hK hD hS d_Model_keep_19
  · refine lv_iload_n hx hb d_Model_keep_9 rfl (lv_at hl 2 rfl) ?_
    refine lv_bipush (v := (6 : Int32)) hx hb d_Model_keep_10 (by decide) ?_
    refine CM.callS (wc := []) (wr := M13 cI cZ o o1 o2 o3 o4 o5 o6 o7 o8 o9 o10 o11 o12 md) (av := [.int k, .int (6 : Int32)]) (rest := []) hx hb hml hown hk (c_M_in l D cI cZ k (6 : Int32) _ rfl) hK hP hD hS hA hSt hl.1 d_Model_keep_12 kc_Model_in ki_Model kl_Model_54 ks_Model_in (n := 2) rfl (by decide +kernel) ⟨Nat.le_of_ble_eq_true rfl, Nat.le_of_ble_eq_true rfl⟩ rfl rfl (Nat.le_of_ble_eq_true rfl) ⟨Nat.zero_le _, Nat.zero_le _⟩ (fun H locs hP hD hS => ?_)
    have hP : va_P D classes (M13 cI cZ o o1 o2 o3 o4 o5 o6 o7 o8 o9 o10 o11 o12 md) H := hP
    have hD : va_D A (M13 cI cZ o o1 o2 o3 o4 o5 o6 o7 o8 o9 o10 o11 o12 md) := hD
    refine lv_if_ne (tgt := 20) hx hb d_Model_keep_15 (by decide) (fun c_15 => ?_) (fun c_15 => ?_)
    · refine lv_aload_n hx hb d_Model_keep_20 rfl (lv_at hl 0 rfl) ?_
      refine va_get (D := D) (ci := 2) (v := .int (aWc md)) (C := R_Model) (T := F_Model) (N := 14) hx hb hk i_Model hown hK hP 0 rfl rfl 11 (by decide) (hk _ kl_Model_41) (fun _ h9 => h9) rfl d_Model_keep_21 ?_
      refine lv_if_ge (tgt := 30) hx hb d_Model_keep_24 (by decide) (fun c_24 => ?_) (fun c_24 => ?_)
      · refine lv_iload_n hx hb d_Model_keep_30 rfl (lv_at hl 2 rfl) ?_
        refine lv_iconst (v := (3 : Int32)) hx hb d_Model_keep_31 (by decide) ?_
        refine lv_icmp_ge (tgt := 39) hx hb d_Model_keep_32 (by decide) (fun c_32 => ?_) (fun c_32 => ?_)
        · refine lv_iload_n hx hb d_Model_keep_39 rfl (lv_at hl 2 rfl) ?_
          refine lv_iconst (v := (5 : Int32)) hx hb d_Model_keep_40 (by decide) ?_
          refine lv_icmp_ne (tgt := 49) hx hb d_Model_keep_41 (by decide) (fun c_41 => ?_) (fun c_41 => ?_)
          · refine lv_iload_n hx hb d_Model_keep_49 rfl (lv_at hl 2 rfl) ?_
            refine lv_iconst (v := (3 : Int32)) hx hb d_Model_keep_50 (by decide) ?_
            refine lv_iadd hx hb d_Model_keep_51 ?_
            refine lv_istore_n (lv' := [(3, .int (k + (3 : Int32))), (0, .ref o), (1, .int i), (2, .int k)]) hx hb d_Model_keep_52 rfl hl (by decide) rfl (fun ls hl => ?_)
            refine lv_iload_n hx hb d_Model_keep_53 rfl (lv_at hl 3 rfl) ?_
            refine lv_iconst (v := (3 : Int32)) hx hb d_Model_keep_54 (by decide) ?_
            refine lv_icmp_ge (tgt := 66) hx hb d_Model_keep_55 (by decide) (fun _ => ?_) (fun h9 => absurd c_32 h9)
            refine lv_iload_n hx hb d_Model_keep_66 rfl (lv_at hl 3 rfl) ?_
            refine lv_iconst (v := (5 : Int32)) hx hb d_Model_keep_67 (by decide) ?_
            refine lv_icmp_ne (tgt := 78) hx hb d_Model_keep_68 (by decide) (fun _ => ?_) (fun h9 => absurd h9 c_41)
            refine lv_iload_n hx hb d_Model_keep_78 rfl (lv_at hl 3 rfl) ?_
            refine lv_iconst (v := (4 : Int32)) hx hb d_Model_keep_79 (by decide) ?_
            refine lv_icmp_ne (tgt := 90) hx hb d_Model_keep_80 (by decide) (fun c_80 => ?_) (fun c_80 => ?_)
            · refine lv_aload_n hx hb d_Model_keep_90 rfl (lv_at hl 1 rfl) ?_
              refine lv_bipush (v := (6 : Int32)) hx hb d_Model_keep_91 (by decide) ?_
              refine lv_bipush (v := (11 : Int32)) hx hb d_Model_keep_93 (by decide) ?_
              refine CMv.callV (wc := M13 cI cZ o o1 o2 o3 o4 o5 o6 o7 o8 o9 o10 o11 o12 md) (wr := []) (b := o) (av := [.int (6 : Int32), .int (11 : Int32)]) (rest := []) hx hb hml hown hk (c_M_initAlone l D cI cZ o o1 o2 o3 o4 o5 o6 o7 o8 o9 o10 o11 o12 (6 : Int32) (11 : Int32) md (by unfold vp_in; decide) (okM_mono (hw c_24) (by decide)) _ rfl) hK hP hD hS hA hSt hl.1 (va_recv hK hP (ci := 2) (q0 := 0) rfl rfl) d_Model_keep_95 kc_Model_initAlone ki_Model kl_Model_72 kn_Model_initAlone kx_Model_initAlone (n := 2) rfl (by decide +kernel) ⟨Nat.le_of_ble_eq_true rfl, Nat.le_of_ble_eq_true rfl⟩ rfl rfl (Nat.le_of_ble_eq_true rfl) ⟨Nat.zero_le _, Nat.zero_le _⟩ (fun H locs hP hD hS => ?_)
              have hP : va_P D classes (M13 cI cZ o o1 o2 o3 o4 o5 o6 o7 o8 o9 o10 o11 o12 (m_M_initAlone (6 : Int32) (11 : Int32) md)) H := hP
              have hD : va_D A (M13 cI cZ o o1 o2 o3 o4 o5 o6 o7 o8 o9 o10 o11 o12 (m_M_initAlone (6 : Int32) (11 : Int32) md)) := hD
              obtain ⟨g1, hg1⟩ : ∃ z, (m_M_initAlone (6 : Int32) (11 : Int32) md) = z := ⟨_, rfl⟩
              rw [hg1] at hP hD
              refine lv_aload_n hx hb d_Model_keep_98 rfl (lv_at hl 1 rfl) ?_
              refine va_get (D := D) (ci := 2) (v := .ref o11) (C := R_Model) (T := F_Model) (N := 14) hx hb hk i_Model hown hK hP 0 rfl rfl 12 (by decide) (hk _ kl_Model_45) (fun _ h9 => h9) rfl d_Model_keep_99 ?_
              refine lv_iload_n hx hb d_Model_keep_102 rfl (lv_at hl 2 rfl) ?_
              refine lv_iload_n hx hb d_Model_keep_103 rfl (lv_at hl 0 rfl) ?_
              refine va_iast hx hb hK hP hD hS 11 0 rfl rfl (mIn_in (by decide) c_6) d_Model_keep_104 (fun H locs hP hD hS => ?_)
              have hP : va_P D classes (M13 cI cZ o o1 o2 o3 o4 o5 o6 o7 o8 o9 o10 o11 o12 (uHe g1 (upd ((aHe g1)) i.toNatClampNeg (k + (3 : Int32))))) H := hP
              have hD : va_D A (M13 cI cZ o o1 o2 o3 o4 o5 o6 o7 o8 o9 o10 o11 o12 (uHe g1 (upd ((aHe g1)) i.toNatClampNeg (k + (3 : Int32))))) := hD
              refine lv_aload_n hx hb d_Model_keep_105 rfl (lv_at hl 1 rfl) ?_
              refine va_get (D := D) (ci := 2) (v := .ref o12) (C := R_Model) (T := F_Model) (N := 14) hx hb hk i_Model hown hK hP 0 rfl rfl 13 (by decide) (hk _ kl_Model_48) (fun _ h9 => h9) rfl d_Model_keep_106 ?_
              refine lv_iload_n hx hb d_Model_keep_109 rfl (lv_at hl 2 rfl) ?_
              refine lv_aload_n hx hb d_Model_keep_110 rfl (lv_at hl 1 rfl) ?_
              refine va_get (D := D) (ci := 2) (v := .int (aWc (uHe g1 (upd ((aHe g1)) i.toNatClampNeg (k + (3 : Int32)))))) (C := R_Model) (T := F_Model) (N := 14) hx hb hk i_Model hown hK hP 0 rfl rfl 11 (by decide) (hk _ kl_Model_41) (fun _ h9 => h9) rfl d_Model_keep_111 ?_
              refine va_iast hx hb hK hP hD hS 12 0 rfl rfl (mIn_in (by decide) c_6) d_Model_keep_114 (fun H locs hP hD hS => ?_)
              have hP : va_P D classes (M13 cI cZ o o1 o2 o3 o4 o5 o6 o7 o8 o9 o10 o11 o12 (uHi (uHe g1 (upd ((aHe g1)) i.toNatClampNeg (k + (3 : Int32)))) (upd ((aHi (uHe g1 (upd ((aHe g1)) i.toNatClampNeg (k + (3 : Int32)))))) i.toNatClampNeg (aWc (uHe g1 (upd ((aHe g1)) i.toNatClampNeg (k + (3 : Int32)))))))) H := hP
              have hD : va_D A (M13 cI cZ o o1 o2 o3 o4 o5 o6 o7 o8 o9 o10 o11 o12 (uHi (uHe g1 (upd ((aHe g1)) i.toNatClampNeg (k + (3 : Int32)))) (upd ((aHi (uHe g1 (upd ((aHe g1)) i.toNatClampNeg (k + (3 : Int32)))))) i.toNatClampNeg (aWc (uHe g1 (upd ((aHe g1)) i.toNatClampNeg (k + (3 : Int32)))))))) := hD
              refine lv_iconst (v := (0 : Int32)) hx hb d_Model_keep_115 (by decide) ?_
              subst hg1
              obtain ⟨rfl, rfl⟩ : (uHi (uHe (m_M_initAlone (6 : Int32) (11 : Int32) md) (upd ((aHe (m_M_initAlone (6 : Int32) (11 : Int32) md))) i.toNatClampNeg (k + (3 : Int32)))) (upd ((aHi (uHe (m_M_initAlone (6 : Int32) (11 : Int32) md) (upd ((aHe (m_M_initAlone (6 : Int32) (11 : Int32) md))) i.toNatClampNeg (k + (3 : Int32)))))) i.toNatClampNeg (aWc (uHe (m_M_initAlone (6 : Int32) (11 : Int32) md) (upd ((aHe (m_M_initAlone (6 : Int32) (11 : Int32) md))) i.toNatClampNeg (k + (3 : Int32))))))) = z1 ∧ (0 : Int32) = z2 := Prod.mk.inj ((Eq.symm ((if_neg c_6).trans ((if_neg c_15).trans ((if_pos c_24).trans ((if_pos c_32).trans ((if_neg c_41).trans ((if_neg c_80).trans rfl))))))).trans hres)
              exact CM_iret hx hb hr hlocks hP hK hD hS d_Model_keep_116
            · refine lv_aload_n hx hb d_Model_keep_83 rfl (lv_at hl 1 rfl) ?_
              refine CMv.callV (wc := M13 cI cZ o o1 o2 o3 o4 o5 o6 o7 o8 o9 o10 o11 o12 md) (wr := []) (b := o) (av := []) (rest := []) hx hb hml hown hk (c_M_initLoud l D cI cZ o o1 o2 o3 o4 o5 o6 o7 o8 o9 o10 o11 o12 md (okM_mono (hw c_24) (by decide)) _ rfl) hK hP hD hS hA hSt hl.1 (va_recv hK hP (ci := 2) (q0 := 0) rfl rfl) d_Model_keep_84 kc_Model_initLoud ki_Model kl_Model_86 kn_Model_initLoud kx_Model_initLoud (n := 0) rfl (by decide +kernel) ⟨Nat.le_of_ble_eq_true rfl, Nat.le_of_ble_eq_true rfl⟩ rfl rfl (Nat.le_of_ble_eq_true rfl) ⟨Nat.zero_le _, Nat.zero_le _⟩ (fun H locs hP hD hS => ?_)
              have hP : va_P D classes (M13 cI cZ o o1 o2 o3 o4 o5 o6 o7 o8 o9 o10 o11 o12 (m_M_initLoud md)) H := hP
              have hD : va_D A (M13 cI cZ o o1 o2 o3 o4 o5 o6 o7 o8 o9 o10 o11 o12 (m_M_initLoud md)) := hD
              obtain ⟨g2, hg2⟩ : ∃ z, (m_M_initLoud md) = z := ⟨_, rfl⟩
              rw [hg2] at hP hD
              refine lv_goto (tgt := 98) hx hb d_Model_keep_87 (by decide) ?_
              refine lv_aload_n hx hb d_Model_keep_98 rfl (lv_at hl 1 rfl) ?_
              refine va_get (D := D) (ci := 2) (v := .ref o11) (C := R_Model) (T := F_Model) (N := 14) hx hb hk i_Model hown hK hP 0 rfl rfl 12 (by decide) (hk _ kl_Model_45) (fun _ h9 => h9) rfl d_Model_keep_99 ?_
              refine lv_iload_n hx hb d_Model_keep_102 rfl (lv_at hl 2 rfl) ?_
              refine lv_iload_n hx hb d_Model_keep_103 rfl (lv_at hl 0 rfl) ?_
              refine va_iast hx hb hK hP hD hS 11 0 rfl rfl (mIn_in (by decide) c_6) d_Model_keep_104 (fun H locs hP hD hS => ?_)
              have hP : va_P D classes (M13 cI cZ o o1 o2 o3 o4 o5 o6 o7 o8 o9 o10 o11 o12 (uHe g2 (upd ((aHe g2)) i.toNatClampNeg (k + (3 : Int32))))) H := hP
              have hD : va_D A (M13 cI cZ o o1 o2 o3 o4 o5 o6 o7 o8 o9 o10 o11 o12 (uHe g2 (upd ((aHe g2)) i.toNatClampNeg (k + (3 : Int32))))) := hD
              refine lv_aload_n hx hb d_Model_keep_105 rfl (lv_at hl 1 rfl) ?_
              refine va_get (D := D) (ci := 2) (v := .ref o12) (C := R_Model) (T := F_Model) (N := 14) hx hb hk i_Model hown hK hP 0 rfl rfl 13 (by decide) (hk _ kl_Model_48) (fun _ h9 => h9) rfl d_Model_keep_106 ?_
              refine lv_iload_n hx hb d_Model_keep_109 rfl (lv_at hl 2 rfl) ?_
              refine lv_aload_n hx hb d_Model_keep_110 rfl (lv_at hl 1 rfl) ?_
              refine va_get (D := D) (ci := 2) (v := .int (aWc (uHe g2 (upd ((aHe g2)) i.toNatClampNeg (k + (3 : Int32)))))) (C := R_Model) (T := F_Model) (N := 14) hx hb hk i_Model hown hK hP 0 rfl rfl 11 (by decide) (hk _ kl_Model_41) (fun _ h9 => h9) rfl d_Model_keep_111 ?_
              refine va_iast hx hb hK hP hD hS 12 0 rfl rfl (mIn_in (by decide) c_6) d_Model_keep_114 (fun H locs hP hD hS => ?_)
              have hP : va_P D classes (M13 cI cZ o o1 o2 o3 o4 o5 o6 o7 o8 o9 o10 o11 o12 (uHi (uHe g2 (upd ((aHe g2)) i.toNatClampNeg (k + (3 : Int32)))) (upd ((aHi (uHe g2 (upd ((aHe g2)) i.toNatClampNeg (k + (3 : Int32)))))) i.toNatClampNeg (aWc (uHe g2 (upd ((aHe g2)) i.toNatClampNeg (k + (3 : Int32)))))))) H := hP
              have hD : va_D A (M13 cI cZ o o1 o2 o3 o4 o5 o6 o7 o8 o9 o10 o11 o12 (uHi (uHe g2 (upd ((aHe g2)) i.toNatClampNeg (k + (3 : Int32)))) (upd ((aHi (uHe g2 (upd ((aHe g2)) i.toNatClampNeg (k + (3 : Int32)))))) i.toNatClampNeg (aWc (uHe g2 (upd ((aHe g2)) i.toNatClampNeg (k + (3 : Int32)))))))) := hD
              refine lv_iconst (v := (0 : Int32)) hx hb d_Model_keep_115 (by decide) ?_
              subst hg2
              obtain ⟨rfl, rfl⟩ : (uHi (uHe (m_M_initLoud md) (upd ((aHe (m_M_initLoud md))) i.toNatClampNeg (k + (3 : Int32)))) (upd ((aHi (uHe (m_M_initLoud md) (upd ((aHe (m_M_initLoud md))) i.toNatClampNeg (k + (3 : Int32)))))) i.toNatClampNeg (aWc (uHe (m_M_initLoud md) (upd ((aHe (m_M_initLoud md))) i.toNatClampNeg (k + (3 : Int32))))))) = z1 ∧ (0 : Int32) = z2 := Prod.mk.inj ((Eq.symm ((if_neg c_6).trans ((if_neg c_15).trans ((if_pos c_24).trans ((if_pos c_32).trans ((if_neg c_41).trans ((if_pos c_80).trans rfl))))))).trans hres)
              exact CM_iret hx hb hr hlocks hP hK hD hS d_Model_keep_116
          · refine lv_bipush (v := (14 : Int32)) hx hb d_Model_keep_44 (by decide) ?_
            refine lv_goto (tgt := 52) hx hb d_Model_keep_46 (by decide) ?_
            refine lv_istore_n (lv' := [(3, .int (14 : Int32)), (0, .ref o), (1, .int i), (2, .int k)]) hx hb d_Model_keep_52 rfl hl (by decide) rfl (fun ls hl => ?_)
            refine lv_iload_n hx hb d_Model_keep_53 rfl (lv_at hl 3 rfl) ?_
            refine lv_iconst (v := (3 : Int32)) hx hb d_Model_keep_54 (by decide) ?_
            refine lv_icmp_ge (tgt := 66) hx hb d_Model_keep_55 (by decide) (fun _ => ?_) (fun h9 => absurd c_32 h9)
            refine lv_iload_n hx hb d_Model_keep_66 rfl (lv_at hl 3 rfl) ?_
            refine lv_iconst (v := (5 : Int32)) hx hb d_Model_keep_67 (by decide) ?_
            refine lv_icmp_ne (tgt := 78) hx hb d_Model_keep_68 (by decide) (fun h9 => absurd c_41 h9) (fun _ => ?_)
            refine lv_aload_n hx hb d_Model_keep_71 rfl (lv_at hl 1 rfl) ?_
            refine CMv.callV (wc := M13 cI cZ o o1 o2 o3 o4 o5 o6 o7 o8 o9 o10 o11 o12 md) (wr := []) (b := o) (av := []) (rest := []) hx hb hml hown hk (c_M_initGrade l D cI cZ o o1 o2 o3 o4 o5 o6 o7 o8 o9 o10 o11 o12 md (okM_mono (hw c_24) (by decide)) _ rfl) hK hP hD hS hA hSt hl.1 (va_recv hK hP (ci := 2) (q0 := 0) rfl rfl) d_Model_keep_72 kc_Model_initGrade ki_Model kl_Model_99 kn_Model_initGrade kx_Model_initGrade (n := 0) rfl (by decide +kernel) ⟨Nat.le_of_ble_eq_true rfl, Nat.le_of_ble_eq_true rfl⟩ rfl rfl (Nat.le_of_ble_eq_true rfl) ⟨Nat.zero_le _, Nat.zero_le _⟩ (fun H locs hP hD hS => ?_)
            have hP : va_P D classes (M13 cI cZ o o1 o2 o3 o4 o5 o6 o7 o8 o9 o10 o11 o12 (m_M_initGrade md)) H := hP
            have hD : va_D A (M13 cI cZ o o1 o2 o3 o4 o5 o6 o7 o8 o9 o10 o11 o12 (m_M_initGrade md)) := hD
            obtain ⟨g3, hg3⟩ : ∃ z, (m_M_initGrade md) = z := ⟨_, rfl⟩
            rw [hg3] at hP hD
            refine lv_goto (tgt := 98) hx hb d_Model_keep_75 (by decide) ?_
            refine lv_aload_n hx hb d_Model_keep_98 rfl (lv_at hl 1 rfl) ?_
            refine va_get (D := D) (ci := 2) (v := .ref o11) (C := R_Model) (T := F_Model) (N := 14) hx hb hk i_Model hown hK hP 0 rfl rfl 12 (by decide) (hk _ kl_Model_45) (fun _ h9 => h9) rfl d_Model_keep_99 ?_
            refine lv_iload_n hx hb d_Model_keep_102 rfl (lv_at hl 2 rfl) ?_
            refine lv_iload_n hx hb d_Model_keep_103 rfl (lv_at hl 0 rfl) ?_
            refine va_iast hx hb hK hP hD hS 11 0 rfl rfl (mIn_in (by decide) c_6) d_Model_keep_104 (fun H locs hP hD hS => ?_)
            have hP : va_P D classes (M13 cI cZ o o1 o2 o3 o4 o5 o6 o7 o8 o9 o10 o11 o12 (uHe g3 (upd ((aHe g3)) i.toNatClampNeg (14 : Int32)))) H := hP
            have hD : va_D A (M13 cI cZ o o1 o2 o3 o4 o5 o6 o7 o8 o9 o10 o11 o12 (uHe g3 (upd ((aHe g3)) i.toNatClampNeg (14 : Int32)))) := hD
            refine lv_aload_n hx hb d_Model_keep_105 rfl (lv_at hl 1 rfl) ?_
            refine va_get (D := D) (ci := 2) (v := .ref o12) (C := R_Model) (T := F_Model) (N := 14) hx hb hk i_Model hown hK hP 0 rfl rfl 13 (by decide) (hk _ kl_Model_48) (fun _ h9 => h9) rfl d_Model_keep_106 ?_
            refine lv_iload_n hx hb d_Model_keep_109 rfl (lv_at hl 2 rfl) ?_
            refine lv_aload_n hx hb d_Model_keep_110 rfl (lv_at hl 1 rfl) ?_
            refine va_get (D := D) (ci := 2) (v := .int (aWc (uHe g3 (upd ((aHe g3)) i.toNatClampNeg (14 : Int32))))) (C := R_Model) (T := F_Model) (N := 14) hx hb hk i_Model hown hK hP 0 rfl rfl 11 (by decide) (hk _ kl_Model_41) (fun _ h9 => h9) rfl d_Model_keep_111 ?_
            refine va_iast hx hb hK hP hD hS 12 0 rfl rfl (mIn_in (by decide) c_6) d_Model_keep_114 (fun H locs hP hD hS => ?_)
            have hP : va_P D classes (M13 cI cZ o o1 o2 o3 o4 o5 o6 o7 o8 o9 o10 o11 o12 (uHi (uHe g3 (upd ((aHe g3)) i.toNatClampNeg (14 : Int32))) (upd ((aHi (uHe g3 (upd ((aHe g3)) i.toNatClampNeg (14 : Int32))))) i.toNatClampNeg (aWc (uHe g3 (upd ((aHe g3)) i.toNatClampNeg (14 : Int32))))))) H := hP
            have hD : va_D A (M13 cI cZ o o1 o2 o3 o4 o5 o6 o7 o8 o9 o10 o11 o12 (uHi (uHe g3 (upd ((aHe g3)) i.toNatClampNeg (14 : Int32))) (upd ((aHi (uHe g3 (upd ((aHe g3)) i.toNatClampNeg (14 : Int32))))) i.toNatClampNeg (aWc (uHe g3 (upd ((aHe g3)) i.toNatClampNeg (14 : Int32))))))) := hD
            refine lv_iconst (v := (0 : Int32)) hx hb d_Model_keep_115 (by decide) ?_
            subst hg3
            obtain ⟨rfl, rfl⟩ : (uHi (uHe (m_M_initGrade md) (upd ((aHe (m_M_initGrade md))) i.toNatClampNeg (14 : Int32))) (upd ((aHi (uHe (m_M_initGrade md) (upd ((aHe (m_M_initGrade md))) i.toNatClampNeg (14 : Int32))))) i.toNatClampNeg (aWc (uHe (m_M_initGrade md) (upd ((aHe (m_M_initGrade md))) i.toNatClampNeg (14 : Int32)))))) = z1 ∧ (0 : Int32) = z2 := Prod.mk.inj ((Eq.symm ((if_neg c_6).trans ((if_neg c_15).trans ((if_pos c_24).trans ((if_pos c_32).trans ((if_pos c_41).trans rfl)))))).trans hres)
            exact CM_iret hx hb hr hlocks hP hK hD hS d_Model_keep_116
        · refine lv_iload_n hx hb d_Model_keep_35 rfl (lv_at hl 2 rfl) ?_
          refine lv_goto (tgt := 52) hx hb d_Model_keep_36 (by decide) ?_
          refine lv_istore_n (lv' := [(3, .int k), (0, .ref o), (1, .int i), (2, .int k)]) hx hb d_Model_keep_52 rfl hl (by decide) rfl (fun ls hl => ?_)
          refine lv_iload_n hx hb d_Model_keep_53 rfl (lv_at hl 3 rfl) ?_
          refine lv_iconst (v := (3 : Int32)) hx hb d_Model_keep_54 (by decide) ?_
          refine lv_icmp_ge (tgt := 66) hx hb d_Model_keep_55 (by decide) (fun h9 => absurd h9 c_32) (fun _ => ?_)
          refine lv_aload_n hx hb d_Model_keep_58 rfl (lv_at hl 1 rfl) ?_
          refine lv_iload_n hx hb d_Model_keep_59 rfl (lv_at hl 0 rfl) ?_
          refine CMv.callV (wc := M13 cI cZ o o1 o2 o3 o4 o5 o6 o7 o8 o9 o10 o11 o12 md) (wr := []) (b := o) (av := [.int k]) (rest := []) hx hb hml hown hk (c_M_create l D cI cZ o o1 o2 o3 o4 o5 o6 o7 o8 o9 o10 o11 o12 k md (okM_mono (hw c_24) (by decide)) _ rfl) hK hP hD hS hA hSt hl.1 (va_recv hK hP (ci := 2) (q0 := 0) rfl rfl) d_Model_keep_60 kc_Model_create ki_Model kl_Model_115 kn_Model_create kx_Model_create (n := 1) rfl (by decide +kernel) ⟨Nat.le_of_ble_eq_true rfl, Nat.le_of_ble_eq_true rfl⟩ rfl rfl (Nat.le_of_ble_eq_true rfl) ⟨Nat.zero_le _, Nat.zero_le _⟩ (fun H locs hP hD hS => ?_)
          have hP : va_P D classes (M13 cI cZ o o1 o2 o3 o4 o5 o6 o7 o8 o9 o10 o11 o12 (m_M_create k md)) H := hP
          have hD : va_D A (M13 cI cZ o o1 o2 o3 o4 o5 o6 o7 o8 o9 o10 o11 o12 (m_M_create k md)) := hD
          obtain ⟨g4, hg4⟩ : ∃ z, (m_M_create k md) = z := ⟨_, rfl⟩
          rw [hg4] at hP hD
          refine lv_goto (tgt := 98) hx hb d_Model_keep_63 (by decide) ?_
          refine lv_aload_n hx hb d_Model_keep_98 rfl (lv_at hl 1 rfl) ?_
          refine va_get (D := D) (ci := 2) (v := .ref o11) (C := R_Model) (T := F_Model) (N := 14) hx hb hk i_Model hown hK hP 0 rfl rfl 12 (by decide) (hk _ kl_Model_45) (fun _ h9 => h9) rfl d_Model_keep_99 ?_
          refine lv_iload_n hx hb d_Model_keep_102 rfl (lv_at hl 2 rfl) ?_
          refine lv_iload_n hx hb d_Model_keep_103 rfl (lv_at hl 0 rfl) ?_
          refine va_iast hx hb hK hP hD hS 11 0 rfl rfl (mIn_in (by decide) c_6) d_Model_keep_104 (fun H locs hP hD hS => ?_)
          have hP : va_P D classes (M13 cI cZ o o1 o2 o3 o4 o5 o6 o7 o8 o9 o10 o11 o12 (uHe g4 (upd ((aHe g4)) i.toNatClampNeg k))) H := hP
          have hD : va_D A (M13 cI cZ o o1 o2 o3 o4 o5 o6 o7 o8 o9 o10 o11 o12 (uHe g4 (upd ((aHe g4)) i.toNatClampNeg k))) := hD
          refine lv_aload_n hx hb d_Model_keep_105 rfl (lv_at hl 1 rfl) ?_
          refine va_get (D := D) (ci := 2) (v := .ref o12) (C := R_Model) (T := F_Model) (N := 14) hx hb hk i_Model hown hK hP 0 rfl rfl 13 (by decide) (hk _ kl_Model_48) (fun _ h9 => h9) rfl d_Model_keep_106 ?_
          refine lv_iload_n hx hb d_Model_keep_109 rfl (lv_at hl 2 rfl) ?_
          refine lv_aload_n hx hb d_Model_keep_110 rfl (lv_at hl 1 rfl) ?_
          refine va_get (D := D) (ci := 2) (v := .int (aWc (uHe g4 (upd ((aHe g4)) i.toNatClampNeg k)))) (C := R_Model) (T := F_Model) (N := 14) hx hb hk i_Model hown hK hP 0 rfl rfl 11 (by decide) (hk _ kl_Model_41) (fun _ h9 => h9) rfl d_Model_keep_111 ?_
          refine va_iast hx hb hK hP hD hS 12 0 rfl rfl (mIn_in (by decide) c_6) d_Model_keep_114 (fun H locs hP hD hS => ?_)
          have hP : va_P D classes (M13 cI cZ o o1 o2 o3 o4 o5 o6 o7 o8 o9 o10 o11 o12 (uHi (uHe g4 (upd ((aHe g4)) i.toNatClampNeg k)) (upd ((aHi (uHe g4 (upd ((aHe g4)) i.toNatClampNeg k)))) i.toNatClampNeg (aWc (uHe g4 (upd ((aHe g4)) i.toNatClampNeg k)))))) H := hP
          have hD : va_D A (M13 cI cZ o o1 o2 o3 o4 o5 o6 o7 o8 o9 o10 o11 o12 (uHi (uHe g4 (upd ((aHe g4)) i.toNatClampNeg k)) (upd ((aHi (uHe g4 (upd ((aHe g4)) i.toNatClampNeg k)))) i.toNatClampNeg (aWc (uHe g4 (upd ((aHe g4)) i.toNatClampNeg k)))))) := hD
          refine lv_iconst (v := (0 : Int32)) hx hb d_Model_keep_115 (by decide) ?_
          subst hg4
          obtain ⟨rfl, rfl⟩ : (uHi (uHe (m_M_create k md) (upd ((aHe (m_M_create k md))) i.toNatClampNeg k)) (upd ((aHi (uHe (m_M_create k md) (upd ((aHe (m_M_create k md))) i.toNatClampNeg k)))) i.toNatClampNeg (aWc (uHe (m_M_create k md) (upd ((aHe (m_M_create k md))) i.toNatClampNeg k))))) = z1 ∧ (0 : Int32) = z2 := Prod.mk.inj ((Eq.symm ((if_neg c_6).trans ((if_neg c_15).trans ((if_pos c_24).trans ((if_neg c_32).trans rfl))))).trans hres)
          exact CM_iret hx hb hr hlocks hP hK hD hS d_Model_keep_116
      · refine lv_bipush (v := (-2 : Int32)) hx hb d_Model_keep_27 (by decide) ?_
        obtain ⟨rfl, rfl⟩ : md = z1 ∧ (-2 : Int32) = z2 := Prod.mk.inj ((Eq.symm ((if_neg c_6).trans ((if_neg c_15).trans ((if_neg c_24).trans rfl)))).trans hres)
        exact CM_iret hx hb hr hlocks hP hK hD hS d_Model_keep_29
    · refine lv_iconst (v := (-1 : Int32)) hx hb d_Model_keep_18 (by decide) ?_
      obtain ⟨rfl, rfl⟩ : md = z1 ∧ (-1 : Int32) = z2 := Prod.mk.inj ((Eq.symm ((if_neg c_6).trans ((if_pos c_15).trans rfl))).trans hres)
      exact CM_iret hx hb hr hlocks hP hK hD hS d_Model_keep_19
set_option maxHeartbeats 4000000 in
set_option maxRecDepth 100000 in
theorem c_M_isOf (l : Launch) (D : va_G) (cI cZ : ClassId) (o o1 o2 o3 o4 o5 o6 o7 o8 o9 o10 o11 o12 : Nat)   (i : Int32) (k : Int32) (md : MM)  (res : Int32) (hres : m_M_isOf i k md = res) : CM l y_Model_isOf b_Model_isOf 4 .boolean ({ frames := 1, cells := 0, slots := 0, locals := 21 }) D (tyZ cI cZ) [.ref o, .int i, .int k] (M13 cI cZ o o1 o2 o3 o4 o5 o6 o7 o8 o9 o10 o11 o12 md) res (M13 cI cZ o o1 o2 o3 o4 o5 o6 o7 o8 o9 o10 o11 o12 md) := by
  refine CM_mk (by decide) (Nat.le_of_ble_eq_true rfl) ?_
  intro p e s m args below meth c A ls hx hb hr hml hown hk hlocks hA hSt hK hP hD hS hl
  have hown : s.vm.findClass R_Model = some m.cls := hown
  have hl : lv_has ls 4 [(0, .ref o), (1, .int i), (2, .int k)] := hl
  refine lv_iload_n hx hb d_Model_isOf_0 rfl (lv_at hl 1 rfl) ?_
  refine lv_bipush (v := (6 : Int32)) hx hb d_Model_isOf_1 (by decide) ?_
  refine CM.callS (wc := []) (wr := M13 cI cZ o o1 o2 o3 o4 o5 o6 o7 o8 o9 o10 o11 o12 md) (av := [.int i, .int (6 : Int32)]) (rest := []) hx hb hml hown hk (c_M_in l D cI cZ i (6 : Int32) _ rfl) hK hP hD hS hA hSt hl.1 d_Model_isOf_3 kc_Model_in ki_Model kl_Model_54 ks_Model_in (n := 2) rfl (by decide +kernel) ⟨Nat.le_of_ble_eq_true rfl, Nat.le_of_ble_eq_true rfl⟩ rfl rfl (Nat.le_of_ble_eq_true rfl) ⟨Nat.zero_le _, Nat.zero_le _⟩ (fun H locs hP hD hS => ?_)
  have hP : va_P D classes (M13 cI cZ o o1 o2 o3 o4 o5 o6 o7 o8 o9 o10 o11 o12 md) H := hP
  have hD : va_D A (M13 cI cZ o o1 o2 o3 o4 o5 o6 o7 o8 o9 o10 o11 o12 md) := hD
  refine lv_if_eq (tgt := 40) hx hb d_Model_isOf_6 (by decide) (fun c_6 => ?_) (fun c_6 => ?_)
  · refine lv_iconst (v := (0 : Int32)) hx hb d_Model_isOf_40 (by decide) ?_
    obtain rfl : (0 : Int32) = res := (Eq.symm ((if_pos c_6).trans rfl)).trans hres
    exact CM_zret hx hb hr hlocks rfl hP hK hD hS d_Model_isOf_41
  · refine lv_iload_n hx hb d_Model_isOf_9 rfl (lv_at hl 2 rfl) ?_
    refine lv_bipush (v := (17 : Int32)) hx hb d_Model_isOf_10 (by decide) ?_
    refine CM.callS (wc := []) (wr := M13 cI cZ o o1 o2 o3 o4 o5 o6 o7 o8 o9 o10 o11 o12 md) (av := [.int k, .int (17 : Int32)]) (rest := []) hx hb hml hown hk (c_M_in l D cI cZ k (17 : Int32) _ rfl) hK hP hD hS hA hSt hl.1 d_Model_isOf_12 kc_Model_in ki_Model kl_Model_54 ks_Model_in (n := 2) rfl (by decide +kernel) ⟨Nat.le_of_ble_eq_true rfl, Nat.le_of_ble_eq_true rfl⟩ rfl rfl (Nat.le_of_ble_eq_true rfl) ⟨Nat.zero_le _, Nat.zero_le _⟩ (fun H locs hP hD hS => ?_)
    have hP : va_P D classes (M13 cI cZ o o1 o2 o3 o4 o5 o6 o7 o8 o9 o10 o11 o12 md) H := hP
    have hD : va_D A (M13 cI cZ o o1 o2 o3 o4 o5 o6 o7 o8 o9 o10 o11 o12 md) := hD
    refine lv_if_eq (tgt := 40) hx hb d_Model_isOf_15 (by decide) (fun c_15 => ?_) (fun c_15 => ?_)
    · refine lv_iconst (v := (0 : Int32)) hx hb d_Model_isOf_40 (by decide) ?_
      obtain rfl : (0 : Int32) = res := (Eq.symm ((if_neg c_6).trans ((if_pos c_15).trans rfl))).trans hres
      exact CM_zret hx hb hr hlocks rfl hP hK hD hS d_Model_isOf_41
    · refine lv_aload_n hx hb d_Model_isOf_18 rfl (lv_at hl 0 rfl) ?_
      refine va_get (D := D) (ci := 2) (v := .ref o11) (C := R_Model) (T := F_Model) (N := 14) hx hb hk i_Model hown hK hP 0 rfl rfl 12 (by decide) (hk _ kl_Model_45) (fun _ h9 => h9) rfl d_Model_isOf_19 ?_
      refine lv_iload_n hx hb d_Model_isOf_22 rfl (lv_at hl 1 rfl) ?_
      refine va_iald hx hb hK hP 11 0 rfl rfl (mIn_in (by decide) c_6) d_Model_isOf_23 ?_
      refine lv_if_lt (tgt := 40) hx hb d_Model_isOf_24 (by decide) (fun c_24 => ?_) (fun c_24 => ?_)
      · refine lv_iconst (v := (0 : Int32)) hx hb d_Model_isOf_40 (by decide) ?_
        obtain rfl : (0 : Int32) = res := (Eq.symm ((if_neg c_6).trans ((if_neg c_15).trans ((if_pos c_24).trans rfl)))).trans hres
        exact CM_zret hx hb hr hlocks rfl hP hK hD hS d_Model_isOf_41
      · refine lv_aload_n hx hb d_Model_isOf_27 rfl (lv_at hl 0 rfl) ?_
        refine va_get (D := D) (ci := 2) (v := .ref o12) (C := R_Model) (T := F_Model) (N := 14) hx hb hk i_Model hown hK hP 0 rfl rfl 13 (by decide) (hk _ kl_Model_48) (fun _ h9 => h9) rfl d_Model_isOf_28 ?_
        refine lv_iload_n hx hb d_Model_isOf_31 rfl (lv_at hl 1 rfl) ?_
        refine va_iald hx hb hK hP 12 0 rfl rfl (mIn_in (by decide) c_6) d_Model_isOf_32 ?_
        refine lv_aload_n hx hb d_Model_isOf_33 rfl (lv_at hl 0 rfl) ?_
        refine va_get (D := D) (ci := 2) (v := .int (aWc md)) (C := R_Model) (T := F_Model) (N := 14) hx hb hk i_Model hown hK hP 0 rfl rfl 11 (by decide) (hk _ kl_Model_41) (fun _ h9 => h9) rfl d_Model_isOf_34 ?_
        refine lv_icmp_eq (tgt := 42) hx hb d_Model_isOf_37 (by decide) (fun c_37 => ?_) (fun c_37 => ?_)
        · refine lv_aload_n hx hb d_Model_isOf_42 rfl (lv_at hl 0 rfl) ?_
          refine va_get (D := D) (ci := 2) (v := .ref o11) (C := R_Model) (T := F_Model) (N := 14) hx hb hk i_Model hown hK hP 0 rfl rfl 12 (by decide) (hk _ kl_Model_45) (fun _ h9 => h9) rfl d_Model_isOf_43 ?_
          refine lv_iload_n hx hb d_Model_isOf_46 rfl (lv_at hl 1 rfl) ?_
          refine va_iald hx hb hK hP 11 0 rfl rfl (mIn_in (by decide) c_6) d_Model_isOf_47 ?_
          refine lv_istore_n (lv' := [(3, .int ((aHe md) i.toNatClampNeg)), (0, .ref o), (1, .int i), (2, .int k)]) hx hb d_Model_isOf_48 rfl hl (by decide) rfl (fun ls hl => ?_)
          refine lv_iload_n hx hb d_Model_isOf_49 rfl (lv_at hl 0 rfl) ?_
          refine lv_iload_n hx hb d_Model_isOf_50 rfl (lv_at hl 3 rfl) ?_
          refine lv_icmp_ne (tgt := 56) hx hb d_Model_isOf_51 (by decide) (fun c_51 => ?_) (fun c_51 => ?_)
          · refine lv_iload_n hx hb d_Model_isOf_56 rfl (lv_at hl 0 rfl) ?_
            refine lv_iconst (v := (1 : Int32)) hx hb d_Model_isOf_57 (by decide) ?_
            refine lv_icmp_eq (tgt := 66) hx hb d_Model_isOf_58 (by decide) (fun c_58 => ?_) (fun c_58 => ?_)
            · refine lv_iload_n hx hb d_Model_isOf_66 rfl (lv_at hl 3 rfl) ?_
              refine lv_if_eq (tgt := 85) hx hb d_Model_isOf_67 (by decide) (fun c_67 => ?_) (fun c_67 => ?_)
              · refine lv_iconst (v := (1 : Int32)) hx hb d_Model_isOf_85 (by decide) ?_
                refine lv_goto (tgt := 90) hx hb d_Model_isOf_86 (by decide) ?_
                obtain rfl : (1 : Int32) = res := (Eq.symm ((if_neg c_6).trans ((if_neg c_15).trans ((if_neg c_24).trans ((if_pos c_37).trans ((if_neg c_51).trans ((if_pos c_58).trans ((if_pos c_67).trans rfl)))))))).trans hres
                exact CM_zret hx hb hr hlocks rfl hP hK hD hS d_Model_isOf_90
              · refine lv_iload_n hx hb d_Model_isOf_70 rfl (lv_at hl 3 rfl) ?_
                refine lv_iconst (v := (1 : Int32)) hx hb d_Model_isOf_71 (by decide) ?_
                refine lv_icmp_eq (tgt := 85) hx hb d_Model_isOf_72 (by decide) (fun c_72 => ?_) (fun c_72 => ?_)
                · refine lv_iconst (v := (1 : Int32)) hx hb d_Model_isOf_85 (by decide) ?_
                  refine lv_goto (tgt := 90) hx hb d_Model_isOf_86 (by decide) ?_
                  obtain rfl : (1 : Int32) = res := (Eq.symm ((if_neg c_6).trans ((if_neg c_15).trans ((if_neg c_24).trans ((if_pos c_37).trans ((if_neg c_51).trans ((if_pos c_58).trans ((if_neg c_67).trans ((if_pos c_72).trans rfl))))))))).trans hres
                  exact CM_zret hx hb hr hlocks rfl hP hK hD hS d_Model_isOf_90
                · refine lv_iload_n hx hb d_Model_isOf_75 rfl (lv_at hl 3 rfl) ?_
                  refine lv_iconst (v := (3 : Int32)) hx hb d_Model_isOf_76 (by decide) ?_
                  refine lv_icmp_eq (tgt := 85) hx hb d_Model_isOf_77 (by decide) (fun c_77 => ?_) (fun c_77 => ?_)
                  · refine lv_iconst (v := (1 : Int32)) hx hb d_Model_isOf_85 (by decide) ?_
                    refine lv_goto (tgt := 90) hx hb d_Model_isOf_86 (by decide) ?_
                    obtain rfl : (1 : Int32) = res := (Eq.symm ((if_neg c_6).trans ((if_neg c_15).trans ((if_neg c_24).trans ((if_pos c_37).trans ((if_neg c_51).trans ((if_pos c_58).trans ((if_neg c_67).trans ((if_neg c_72).trans ((if_pos c_77).trans rfl)))))))))).trans hres
                    exact CM_zret hx hb hr hlocks rfl hP hK hD hS d_Model_isOf_90
                  · refine lv_iload_n hx hb d_Model_isOf_80 rfl (lv_at hl 3 rfl) ?_
                    refine lv_iconst (v := (5 : Int32)) hx hb d_Model_isOf_81 (by decide) ?_
                    refine lv_icmp_ne (tgt := 89) hx hb d_Model_isOf_82 (by decide) (fun c_82 => ?_) (fun c_82 => ?_)
                    · refine lv_iconst (v := (0 : Int32)) hx hb d_Model_isOf_89 (by decide) ?_
                      obtain rfl : (0 : Int32) = res := (Eq.symm ((if_neg c_6).trans ((if_neg c_15).trans ((if_neg c_24).trans ((if_pos c_37).trans ((if_neg c_51).trans ((if_pos c_58).trans ((if_neg c_67).trans ((if_neg c_72).trans ((if_neg c_77).trans ((if_neg c_82).trans rfl))))))))))).trans hres
                      exact CM_zret hx hb hr hlocks rfl hP hK hD hS d_Model_isOf_90
                    · refine lv_iconst (v := (1 : Int32)) hx hb d_Model_isOf_85 (by decide) ?_
                      refine lv_goto (tgt := 90) hx hb d_Model_isOf_86 (by decide) ?_
                      obtain rfl : (1 : Int32) = res := (Eq.symm ((if_neg c_6).trans ((if_neg c_15).trans ((if_neg c_24).trans ((if_pos c_37).trans ((if_neg c_51).trans ((if_pos c_58).trans ((if_neg c_67).trans ((if_neg c_72).trans ((if_neg c_77).trans ((if_pos c_82).trans rfl))))))))))).trans hres
                      exact CM_zret hx hb hr hlocks rfl hP hK hD hS d_Model_isOf_90
            · refine lv_iload_n hx hb d_Model_isOf_61 rfl (lv_at hl 0 rfl) ?_
              refine lv_iconst (v := (2 : Int32)) hx hb d_Model_isOf_62 (by decide) ?_
              refine lv_icmp_ne (tgt := 91) hx hb d_Model_isOf_63 (by decide) (fun c_63 => ?_) (fun c_63 => ?_)
              · refine lv_iload_n hx hb d_Model_isOf_91 rfl (lv_at hl 0 rfl) ?_
                refine lv_bipush (v := (6 : Int32)) hx hb d_Model_isOf_92 (by decide) ?_
                refine lv_icmp_ne (tgt := 102) hx hb d_Model_isOf_94 (by decide) (fun c_94 => ?_) (fun c_94 => ?_)
                · refine lv_iload_n hx hb d_Model_isOf_102 rfl (lv_at hl 0 rfl) ?_
                  refine lv_bipush (v := (7 : Int32)) hx hb d_Model_isOf_103 (by decide) ?_
                  refine lv_icmp_ne (tgt := 122) hx hb d_Model_isOf_105 (by decide) (fun c_105 => ?_) (fun c_105 => ?_)
                  · refine lv_iconst (v := (0 : Int32)) hx hb d_Model_isOf_122 (by decide) ?_
                    obtain rfl : (0 : Int32) = res := (Eq.symm ((if_neg c_6).trans ((if_neg c_15).trans ((if_neg c_24).trans ((if_pos c_37).trans ((if_neg c_51).trans ((if_neg c_58).trans ((if_neg c_63).trans ((if_neg c_94).trans ((if_neg c_105).trans rfl)))))))))).trans hres
                    exact CM_zret hx hb hr hlocks rfl hP hK hD hS d_Model_isOf_123
                  · refine lv_iload_n hx hb d_Model_isOf_108 rfl (lv_at hl 3 rfl) ?_
                    refine lv_iconst (v := (3 : Int32)) hx hb d_Model_isOf_109 (by decide) ?_
                    refine lv_icmp_eq (tgt := 118) hx hb d_Model_isOf_110 (by decide) (fun c_110 => ?_) (fun c_110 => ?_)
                    · refine lv_iconst (v := (1 : Int32)) hx hb d_Model_isOf_118 (by decide) ?_
                      refine lv_goto (tgt := 123) hx hb d_Model_isOf_119 (by decide) ?_
                      obtain rfl : (1 : Int32) = res := (Eq.symm ((if_neg c_6).trans ((if_neg c_15).trans ((if_neg c_24).trans ((if_pos c_37).trans ((if_neg c_51).trans ((if_neg c_58).trans ((if_neg c_63).trans ((if_neg c_94).trans ((if_pos c_105).trans ((if_pos c_110).trans rfl))))))))))).trans hres
                      exact CM_zret hx hb hr hlocks rfl hP hK hD hS d_Model_isOf_123
                    · refine lv_iload_n hx hb d_Model_isOf_113 rfl (lv_at hl 3 rfl) ?_
                      refine lv_iconst (v := (4 : Int32)) hx hb d_Model_isOf_114 (by decide) ?_
                      refine lv_icmp_ne (tgt := 122) hx hb d_Model_isOf_115 (by decide) (fun c_115 => ?_) (fun c_115 => ?_)
                      · refine lv_iconst (v := (0 : Int32)) hx hb d_Model_isOf_122 (by decide) ?_
                        obtain rfl : (0 : Int32) = res := (Eq.symm ((if_neg c_6).trans ((if_neg c_15).trans ((if_neg c_24).trans ((if_pos c_37).trans ((if_neg c_51).trans ((if_neg c_58).trans ((if_neg c_63).trans ((if_neg c_94).trans ((if_pos c_105).trans ((if_neg c_110).trans ((if_neg c_115).trans rfl)))))))))))).trans hres
                        exact CM_zret hx hb hr hlocks rfl hP hK hD hS d_Model_isOf_123
                      · refine lv_iconst (v := (1 : Int32)) hx hb d_Model_isOf_118 (by decide) ?_
                        refine lv_goto (tgt := 123) hx hb d_Model_isOf_119 (by decide) ?_
                        obtain rfl : (1 : Int32) = res := (Eq.symm ((if_neg c_6).trans ((if_neg c_15).trans ((if_neg c_24).trans ((if_pos c_37).trans ((if_neg c_51).trans ((if_neg c_58).trans ((if_neg c_63).trans ((if_neg c_94).trans ((if_pos c_105).trans ((if_neg c_110).trans ((if_pos c_115).trans rfl)))))))))))).trans hres
                        exact CM_zret hx hb hr hlocks rfl hP hK hD hS d_Model_isOf_123
                · refine lv_iload_n hx hb d_Model_isOf_97 rfl (lv_at hl 3 rfl) ?_
                  refine lv_iconst (v := (3 : Int32)) hx hb d_Model_isOf_98 (by decide) ?_
                  refine lv_icmp_eq (tgt := 118) hx hb d_Model_isOf_99 (by decide) (fun c_99 => ?_) (fun c_99 => ?_)
                  · refine lv_iconst (v := (1 : Int32)) hx hb d_Model_isOf_118 (by decide) ?_
                    refine lv_goto (tgt := 123) hx hb d_Model_isOf_119 (by decide) ?_
                    obtain rfl : (1 : Int32) = res := (Eq.symm ((if_neg c_6).trans ((if_neg c_15).trans ((if_neg c_24).trans ((if_pos c_37).trans ((if_neg c_51).trans ((if_neg c_58).trans ((if_neg c_63).trans ((if_pos c_94).trans ((if_pos c_99).trans rfl)))))))))).trans hres
                    exact CM_zret hx hb hr hlocks rfl hP hK hD hS d_Model_isOf_123
                  · refine lv_iload_n hx hb d_Model_isOf_102 rfl (lv_at hl 0 rfl) ?_
                    refine lv_bipush (v := (7 : Int32)) hx hb d_Model_isOf_103 (by decide) ?_
                    refine lv_icmp_ne (tgt := 122) hx hb d_Model_isOf_105 (by decide) (fun c_105 => ?_) (fun c_105 => ?_)
                    · refine lv_iconst (v := (0 : Int32)) hx hb d_Model_isOf_122 (by decide) ?_
                      obtain rfl : (0 : Int32) = res := (Eq.symm ((if_neg c_6).trans ((if_neg c_15).trans ((if_neg c_24).trans ((if_pos c_37).trans ((if_neg c_51).trans ((if_neg c_58).trans ((if_neg c_63).trans ((if_pos c_94).trans ((if_neg c_99).trans ((if_neg c_105).trans rfl))))))))))).trans hres
                      exact CM_zret hx hb hr hlocks rfl hP hK hD hS d_Model_isOf_123
                    · refine lv_iload_n hx hb d_Model_isOf_108 rfl (lv_at hl 3 rfl) ?_
                      refine lv_iconst (v := (3 : Int32)) hx hb d_Model_isOf_109 (by decide) ?_
                      refine lv_icmp_eq (tgt := 118) hx hb d_Model_isOf_110 (by decide) (fun h9 => absurd h9 c_99) (fun _ => ?_)
                      refine lv_iload_n hx hb d_Model_isOf_113 rfl (lv_at hl 3 rfl) ?_
                      refine lv_iconst (v := (4 : Int32)) hx hb d_Model_isOf_114 (by decide) ?_
                      refine lv_icmp_ne (tgt := 122) hx hb d_Model_isOf_115 (by decide) (fun c_115 => ?_) (fun c_115 => ?_)
                      · refine lv_iconst (v := (0 : Int32)) hx hb d_Model_isOf_122 (by decide) ?_
                        obtain rfl : (0 : Int32) = res := (Eq.symm ((if_neg c_6).trans ((if_neg c_15).trans ((if_neg c_24).trans ((if_pos c_37).trans ((if_neg c_51).trans ((if_neg c_58).trans ((if_neg c_63).trans ((if_pos c_94).trans ((if_neg c_99).trans ((if_pos c_105).trans ((if_neg c_115).trans rfl)))))))))))).trans hres
                        exact CM_zret hx hb hr hlocks rfl hP hK hD hS d_Model_isOf_123
                      · refine lv_iconst (v := (1 : Int32)) hx hb d_Model_isOf_118 (by decide) ?_
                        refine lv_goto (tgt := 123) hx hb d_Model_isOf_119 (by decide) ?_
                        obtain rfl : (1 : Int32) = res := (Eq.symm ((if_neg c_6).trans ((if_neg c_15).trans ((if_neg c_24).trans ((if_pos c_37).trans ((if_neg c_51).trans ((if_neg c_58).trans ((if_neg c_63).trans ((if_pos c_94).trans ((if_neg c_99).trans ((if_pos c_105).trans ((if_pos c_115).trans rfl)))))))))))).trans hres
                        exact CM_zret hx hb hr hlocks rfl hP hK hD hS d_Model_isOf_123
              · refine lv_iload_n hx hb d_Model_isOf_66 rfl (lv_at hl 3 rfl) ?_
                refine lv_if_eq (tgt := 85) hx hb d_Model_isOf_67 (by decide) (fun c_67 => ?_) (fun c_67 => ?_)
                · refine lv_iconst (v := (1 : Int32)) hx hb d_Model_isOf_85 (by decide) ?_
                  refine lv_goto (tgt := 90) hx hb d_Model_isOf_86 (by decide) ?_
                  obtain rfl : (1 : Int32) = res := (Eq.symm ((if_neg c_6).trans ((if_neg c_15).trans ((if_neg c_24).trans ((if_pos c_37).trans ((if_neg c_51).trans ((if_neg c_58).trans ((if_pos c_63).trans ((if_pos c_67).trans rfl))))))))).trans hres
                  exact CM_zret hx hb hr hlocks rfl hP hK hD hS d_Model_isOf_90
                · refine lv_iload_n hx hb d_Model_isOf_70 rfl (lv_at hl 3 rfl) ?_
                  refine lv_iconst (v := (1 : Int32)) hx hb d_Model_isOf_71 (by decide) ?_
                  refine lv_icmp_eq (tgt := 85) hx hb d_Model_isOf_72 (by decide) (fun c_72 => ?_) (fun c_72 => ?_)
                  · refine lv_iconst (v := (1 : Int32)) hx hb d_Model_isOf_85 (by decide) ?_
                    refine lv_goto (tgt := 90) hx hb d_Model_isOf_86 (by decide) ?_
                    obtain rfl : (1 : Int32) = res := (Eq.symm ((if_neg c_6).trans ((if_neg c_15).trans ((if_neg c_24).trans ((if_pos c_37).trans ((if_neg c_51).trans ((if_neg c_58).trans ((if_pos c_63).trans ((if_neg c_67).trans ((if_pos c_72).trans rfl)))))))))).trans hres
                    exact CM_zret hx hb hr hlocks rfl hP hK hD hS d_Model_isOf_90
                  · refine lv_iload_n hx hb d_Model_isOf_75 rfl (lv_at hl 3 rfl) ?_
                    refine lv_iconst (v := (3 : Int32)) hx hb d_Model_isOf_76 (by decide) ?_
                    refine lv_icmp_eq (tgt := 85) hx hb d_Model_isOf_77 (by decide) (fun c_77 => ?_) (fun c_77 => ?_)
                    · refine lv_iconst (v := (1 : Int32)) hx hb d_Model_isOf_85 (by decide) ?_
                      refine lv_goto (tgt := 90) hx hb d_Model_isOf_86 (by decide) ?_
                      obtain rfl : (1 : Int32) = res := (Eq.symm ((if_neg c_6).trans ((if_neg c_15).trans ((if_neg c_24).trans ((if_pos c_37).trans ((if_neg c_51).trans ((if_neg c_58).trans ((if_pos c_63).trans ((if_neg c_67).trans ((if_neg c_72).trans ((if_pos c_77).trans rfl))))))))))).trans hres
                      exact CM_zret hx hb hr hlocks rfl hP hK hD hS d_Model_isOf_90
                    · refine lv_iload_n hx hb d_Model_isOf_80 rfl (lv_at hl 3 rfl) ?_
                      refine lv_iconst (v := (5 : Int32)) hx hb d_Model_isOf_81 (by decide) ?_
                      refine lv_icmp_ne (tgt := 89) hx hb d_Model_isOf_82 (by decide) (fun c_82 => ?_) (fun c_82 => ?_)
                      · refine lv_iconst (v := (0 : Int32)) hx hb d_Model_isOf_89 (by decide) ?_
                        obtain rfl : (0 : Int32) = res := (Eq.symm ((if_neg c_6).trans ((if_neg c_15).trans ((if_neg c_24).trans ((if_pos c_37).trans ((if_neg c_51).trans ((if_neg c_58).trans ((if_pos c_63).trans ((if_neg c_67).trans ((if_neg c_72).trans ((if_neg c_77).trans ((if_neg c_82).trans rfl)))))))))))).trans hres
                        exact CM_zret hx hb hr hlocks rfl hP hK hD hS d_Model_isOf_90
                      · refine lv_iconst (v := (1 : Int32)) hx hb d_Model_isOf_85 (by decide) ?_
                        refine lv_goto (tgt := 90) hx hb d_Model_isOf_86 (by decide) ?_
                        obtain rfl : (1 : Int32) = res := (Eq.symm ((if_neg c_6).trans ((if_neg c_15).trans ((if_neg c_24).trans ((if_pos c_37).trans ((if_neg c_51).trans ((if_neg c_58).trans ((if_pos c_63).trans ((if_neg c_67).trans ((if_neg c_72).trans ((if_neg c_77).trans ((if_pos c_82).trans rfl)))))))))))).trans hres
                        exact CM_zret hx hb hr hlocks rfl hP hK hD hS d_Model_isOf_90
          · refine lv_iconst (v := (1 : Int32)) hx hb d_Model_isOf_54 (by decide) ?_
            obtain rfl : (1 : Int32) = res := (Eq.symm ((if_neg c_6).trans ((if_neg c_15).trans ((if_neg c_24).trans ((if_pos c_37).trans ((if_pos c_51).trans rfl)))))).trans hres
            exact CM_zret hx hb hr hlocks rfl hP hK hD hS d_Model_isOf_55
        · refine lv_iconst (v := (0 : Int32)) hx hb d_Model_isOf_40 (by decide) ?_
          obtain rfl : (0 : Int32) = res := (Eq.symm ((if_neg c_6).trans ((if_neg c_15).trans ((if_neg c_24).trans ((if_neg c_37).trans rfl))))).trans hres
          exact CM_zret hx hb hr hlocks rfl hP hK hD hS d_Model_isOf_41
set_option maxHeartbeats 4000000 in
set_option maxRecDepth 100000 in
theorem c_M_alike (l : Launch) (D : va_G) (cI cZ : ClassId) (o o1 o2 o3 o4 o5 o6 o7 o8 o9 o10 o11 o12 : Nat)   (i : Int32) (j : Int32) (md : MM)  (res : Int32) (hres : m_M_alike i j md = res) : CM l y_Model_alike b_Model_alike 3 .boolean ({ frames := 1, cells := 0, slots := 0, locals := 21 }) D (tyZ cI cZ) [.ref o, .int i, .int j] (M13 cI cZ o o1 o2 o3 o4 o5 o6 o7 o8 o9 o10 o11 o12 md) res (M13 cI cZ o o1 o2 o3 o4 o5 o6 o7 o8 o9 o10 o11 o12 md) := by
  refine CM_mk (by decide) (Nat.le_of_ble_eq_true rfl) ?_
  intro p e s m args below meth c A ls hx hb hr hml hown hk hlocks hA hSt hK hP hD hS hl
  have hown : s.vm.findClass R_Model = some m.cls := hown
  have hl : lv_has ls 3 [(0, .ref o), (1, .int i), (2, .int j)] := hl
  refine lv_iload_n hx hb d_Model_alike_0 rfl (lv_at hl 1 rfl) ?_
  refine lv_bipush (v := (6 : Int32)) hx hb d_Model_alike_1 (by decide) ?_
  refine CM.callS (wc := []) (wr := M13 cI cZ o o1 o2 o3 o4 o5 o6 o7 o8 o9 o10 o11 o12 md) (av := [.int i, .int (6 : Int32)]) (rest := []) hx hb hml hown hk (c_M_in l D cI cZ i (6 : Int32) _ rfl) hK hP hD hS hA hSt hl.1 d_Model_alike_3 kc_Model_in ki_Model kl_Model_54 ks_Model_in (n := 2) rfl (by decide +kernel) ⟨Nat.le_of_ble_eq_true rfl, Nat.le_of_ble_eq_true rfl⟩ rfl rfl (Nat.le_of_ble_eq_true rfl) ⟨Nat.zero_le _, Nat.zero_le _⟩ (fun H locs hP hD hS => ?_)
  have hP : va_P D classes (M13 cI cZ o o1 o2 o3 o4 o5 o6 o7 o8 o9 o10 o11 o12 md) H := hP
  have hD : va_D A (M13 cI cZ o o1 o2 o3 o4 o5 o6 o7 o8 o9 o10 o11 o12 md) := hD
  refine lv_if_eq (tgt := 61) hx hb d_Model_alike_6 (by decide) (fun c_6 => ?_) (fun c_6 => ?_)
  · refine lv_iconst (v := (0 : Int32)) hx hb d_Model_alike_61 (by decide) ?_
    obtain rfl : (0 : Int32) = res := (Eq.symm ((if_pos c_6).trans rfl)).trans hres
    exact CM_zret hx hb hr hlocks rfl hP hK hD hS d_Model_alike_62
  · refine lv_iload_n hx hb d_Model_alike_9 rfl (lv_at hl 2 rfl) ?_
    refine lv_bipush (v := (6 : Int32)) hx hb d_Model_alike_10 (by decide) ?_
    refine CM.callS (wc := []) (wr := M13 cI cZ o o1 o2 o3 o4 o5 o6 o7 o8 o9 o10 o11 o12 md) (av := [.int j, .int (6 : Int32)]) (rest := []) hx hb hml hown hk (c_M_in l D cI cZ j (6 : Int32) _ rfl) hK hP hD hS hA hSt hl.1 d_Model_alike_12 kc_Model_in ki_Model kl_Model_54 ks_Model_in (n := 2) rfl (by decide +kernel) ⟨Nat.le_of_ble_eq_true rfl, Nat.le_of_ble_eq_true rfl⟩ rfl rfl (Nat.le_of_ble_eq_true rfl) ⟨Nat.zero_le _, Nat.zero_le _⟩ (fun H locs hP hD hS => ?_)
    have hP : va_P D classes (M13 cI cZ o o1 o2 o3 o4 o5 o6 o7 o8 o9 o10 o11 o12 md) H := hP
    have hD : va_D A (M13 cI cZ o o1 o2 o3 o4 o5 o6 o7 o8 o9 o10 o11 o12 md) := hD
    refine lv_if_eq (tgt := 61) hx hb d_Model_alike_15 (by decide) (fun c_15 => ?_) (fun c_15 => ?_)
    · refine lv_iconst (v := (0 : Int32)) hx hb d_Model_alike_61 (by decide) ?_
      obtain rfl : (0 : Int32) = res := (Eq.symm ((if_neg c_6).trans ((if_pos c_15).trans rfl))).trans hres
      exact CM_zret hx hb hr hlocks rfl hP hK hD hS d_Model_alike_62
    · refine lv_aload_n hx hb d_Model_alike_18 rfl (lv_at hl 0 rfl) ?_
      refine va_get (D := D) (ci := 2) (v := .ref o11) (C := R_Model) (T := F_Model) (N := 14) hx hb hk i_Model hown hK hP 0 rfl rfl 12 (by decide) (hk _ kl_Model_45) (fun _ h9 => h9) rfl d_Model_alike_19 ?_
      refine lv_iload_n hx hb d_Model_alike_22 rfl (lv_at hl 1 rfl) ?_
      refine va_iald hx hb hK hP 11 0 rfl rfl (mIn_in (by decide) c_6) d_Model_alike_23 ?_
      refine lv_if_lt (tgt := 61) hx hb d_Model_alike_24 (by decide) (fun c_24 => ?_) (fun c_24 => ?_)
      · refine lv_iconst (v := (0 : Int32)) hx hb d_Model_alike_61 (by decide) ?_
        obtain rfl : (0 : Int32) = res := (Eq.symm ((if_neg c_6).trans ((if_neg c_15).trans ((if_pos c_24).trans rfl)))).trans hres
        exact CM_zret hx hb hr hlocks rfl hP hK hD hS d_Model_alike_62
      · refine lv_aload_n hx hb d_Model_alike_27 rfl (lv_at hl 0 rfl) ?_
        refine va_get (D := D) (ci := 2) (v := .ref o11) (C := R_Model) (T := F_Model) (N := 14) hx hb hk i_Model hown hK hP 0 rfl rfl 12 (by decide) (hk _ kl_Model_45) (fun _ h9 => h9) rfl d_Model_alike_28 ?_
        refine lv_iload_n hx hb d_Model_alike_31 rfl (lv_at hl 1 rfl) ?_
        refine va_iald hx hb hK hP 11 0 rfl rfl (mIn_in (by decide) c_6) d_Model_alike_32 ?_
        refine lv_aload_n hx hb d_Model_alike_33 rfl (lv_at hl 0 rfl) ?_
        refine va_get (D := D) (ci := 2) (v := .ref o11) (C := R_Model) (T := F_Model) (N := 14) hx hb hk i_Model hown hK hP 0 rfl rfl 12 (by decide) (hk _ kl_Model_45) (fun _ h9 => h9) rfl d_Model_alike_34 ?_
        refine lv_iload_n hx hb d_Model_alike_37 rfl (lv_at hl 2 rfl) ?_
        refine va_iald hx hb hK hP 11 0 rfl rfl (mIn_in (by decide) c_15) d_Model_alike_38 ?_
        refine lv_icmp_ne (tgt := 61) hx hb d_Model_alike_39 (by decide) (fun c_39 => ?_) (fun c_39 => ?_)
        · refine lv_iconst (v := (0 : Int32)) hx hb d_Model_alike_61 (by decide) ?_
          obtain rfl : (0 : Int32) = res := (Eq.symm ((if_neg c_6).trans ((if_neg c_15).trans ((if_neg c_24).trans ((if_neg c_39).trans rfl))))).trans hres
          exact CM_zret hx hb hr hlocks rfl hP hK hD hS d_Model_alike_62
        · refine lv_aload_n hx hb d_Model_alike_42 rfl (lv_at hl 0 rfl) ?_
          refine va_get (D := D) (ci := 2) (v := .ref o12) (C := R_Model) (T := F_Model) (N := 14) hx hb hk i_Model hown hK hP 0 rfl rfl 13 (by decide) (hk _ kl_Model_48) (fun _ h9 => h9) rfl d_Model_alike_43 ?_
          refine lv_iload_n hx hb d_Model_alike_46 rfl (lv_at hl 1 rfl) ?_
          refine va_iald hx hb hK hP 12 0 rfl rfl (mIn_in (by decide) c_6) d_Model_alike_47 ?_
          refine lv_aload_n hx hb d_Model_alike_48 rfl (lv_at hl 0 rfl) ?_
          refine va_get (D := D) (ci := 2) (v := .ref o12) (C := R_Model) (T := F_Model) (N := 14) hx hb hk i_Model hown hK hP 0 rfl rfl 13 (by decide) (hk _ kl_Model_48) (fun _ h9 => h9) rfl d_Model_alike_49 ?_
          refine lv_iload_n hx hb d_Model_alike_52 rfl (lv_at hl 2 rfl) ?_
          refine va_iald hx hb hK hP 12 0 rfl rfl (mIn_in (by decide) c_15) d_Model_alike_53 ?_
          refine lv_icmp_ne (tgt := 61) hx hb d_Model_alike_54 (by decide) (fun c_54 => ?_) (fun c_54 => ?_)
          · refine lv_iconst (v := (0 : Int32)) hx hb d_Model_alike_61 (by decide) ?_
            obtain rfl : (0 : Int32) = res := (Eq.symm ((if_neg c_6).trans ((if_neg c_15).trans ((if_neg c_24).trans ((if_pos c_39).trans ((if_neg c_54).trans rfl)))))).trans hres
            exact CM_zret hx hb hr hlocks rfl hP hK hD hS d_Model_alike_62
          · refine lv_iconst (v := (1 : Int32)) hx hb d_Model_alike_57 (by decide) ?_
            refine lv_goto (tgt := 62) hx hb d_Model_alike_58 (by decide) ?_
            obtain rfl : (1 : Int32) = res := (Eq.symm ((if_neg c_6).trans ((if_neg c_15).trans ((if_neg c_24).trans ((if_pos c_39).trans ((if_pos c_54).trans rfl)))))).trans hres
            exact CM_zret hx hb hr hlocks rfl hP hK hD hS d_Model_alike_62
set_option maxHeartbeats 4000000 in
set_option maxRecDepth 100000 in
theorem c_M_note (l : Launch) (D : va_G) (cI cZ : ClassId) (o o1 o2 o3 o4 o5 o6 o7 o8 o9 o10 o11 o12 : Nat)   (i : Int32) (md : MM) (hw : 0 ≤ aWc md → okM 20 md) (res : Int32) (hres : m_M_note i md = res) : CM l y_Model_note b_Model_note 2 .int ({ frames := 1, cells := 0, slots := 0, locals := 21 }) D (tyZ cI cZ) [.ref o, .int i] (M13 cI cZ o o1 o2 o3 o4 o5 o6 o7 o8 o9 o10 o11 o12 md) res (M13 cI cZ o o1 o2 o3 o4 o5 o6 o7 o8 o9 o10 o11 o12 md) := by
  refine CM_mk (by decide) (Nat.le_of_ble_eq_true rfl) ?_
  intro p e s m args below meth c A ls hx hb hr hml hown hk hlocks hA hSt hK hP hD hS hl
  have hown : s.vm.findClass R_Model = some m.cls := hown
  have hl : lv_has ls 2 [(0, .ref o), (1, .int i)] := hl
  refine lv_aload_n hx hb d_Model_note_0 rfl (lv_at hl 0 rfl) ?_
  refine va_get (D := D) (ci := 2) (v := .int (aWc md)) (C := R_Model) (T := F_Model) (N := 14) hx hb hk i_Model hown hK hP 0 rfl rfl 11 (by decide) (hk _ kl_Model_41) (fun _ h9 => h9) rfl d_Model_note_1 ?_
  refine lv_if_ge (tgt := 10) hx hb d_Model_note_4 (by decide) (fun c_4 => ?_) (fun c_4 => ?_)
  · refine lv_iload_n hx hb d_Model_note_10 rfl (lv_at hl 1 rfl) ?_
    refine lv_bipush (v := (64 : Int32)) hx hb d_Model_note_11 (by decide) ?_
    refine CM.callS (wc := []) (wr := M13 cI cZ o o1 o2 o3 o4 o5 o6 o7 o8 o9 o10 o11 o12 md) (av := [.int i, .int (64 : Int32)]) (rest := []) hx hb hml hown hk (c_M_in l D cI cZ i (64 : Int32) _ rfl) hK hP hD hS hA hSt hl.1 d_Model_note_13 kc_Model_in ki_Model kl_Model_54 ks_Model_in (n := 2) rfl (by decide +kernel) ⟨Nat.le_of_ble_eq_true rfl, Nat.le_of_ble_eq_true rfl⟩ rfl rfl (Nat.le_of_ble_eq_true rfl) ⟨Nat.zero_le _, Nat.zero_le _⟩ (fun H locs hP hD hS => ?_)
    have hP : va_P D classes (M13 cI cZ o o1 o2 o3 o4 o5 o6 o7 o8 o9 o10 o11 o12 md) H := hP
    have hD : va_D A (M13 cI cZ o o1 o2 o3 o4 o5 o6 o7 o8 o9 o10 o11 o12 md) := hD
    refine lv_if_eq (tgt := 49) hx hb d_Model_note_16 (by decide) (fun c_16 => ?_) (fun c_16 => ?_)
    · refine lv_iconst (v := (-1 : Int32)) hx hb d_Model_note_49 (by decide) ?_
      obtain rfl : (-1 : Int32) = res := (Eq.symm ((if_pos c_4).trans ((if_pos c_16).trans rfl))).trans hres
      exact CM_iret hx hb hr hlocks hP hK hD hS d_Model_note_50
    · refine lv_iload_n hx hb d_Model_note_19 rfl (lv_at hl 1 rfl) ?_
      refine lv_aload_n hx hb d_Model_note_20 rfl (lv_at hl 0 rfl) ?_
      refine va_get (D := D) (ci := 2) (v := .ref o8) (C := R_Model) (T := F_Model) (N := 14) hx hb hk i_Model hown hK hP 0 rfl rfl 7 (by decide) (hk _ kl_Model_31) (fun _ h9 => h9) rfl d_Model_note_21 ?_
      refine lv_aload_n hx hb d_Model_note_24 rfl (lv_at hl 0 rfl) ?_
      refine va_get (D := D) (ci := 2) (v := .int (aWc md)) (C := R_Model) (T := F_Model) (N := 14) hx hb hk i_Model hown hK hP 0 rfl rfl 11 (by decide) (hk _ kl_Model_41) (fun _ h9 => h9) rfl d_Model_note_25 ?_
      refine va_iald hx hb hK hP 8 0 rfl rfl (hw c_4).1 d_Model_note_28 ?_
      refine lv_icmp_ge (tgt := 49) hx hb d_Model_note_29 (by decide) (fun c_29 => ?_) (fun c_29 => ?_)
      · refine lv_iconst (v := (-1 : Int32)) hx hb d_Model_note_49 (by decide) ?_
        obtain rfl : (-1 : Int32) = res := (Eq.symm ((if_pos c_4).trans ((if_neg c_16).trans ((if_pos c_29).trans rfl)))).trans hres
        exact CM_iret hx hb hr hlocks hP hK hD hS d_Model_note_50
      · refine lv_aload_n hx hb d_Model_note_32 rfl (lv_at hl 0 rfl) ?_
        refine va_get (D := D) (ci := 2) (v := .ref o7) (C := R_Model) (T := F_Model) (N := 14) hx hb hk i_Model hown hK hP 0 rfl rfl 6 (by decide) (hk _ kl_Model_28) (fun _ h9 => h9) rfl d_Model_note_33 ?_
        refine lv_aload_n hx hb d_Model_note_36 rfl (lv_at hl 0 rfl) ?_
        refine va_get (D := D) (ci := 2) (v := .int (aWc md)) (C := R_Model) (T := F_Model) (N := 14) hx hb hk i_Model hown hK hP 0 rfl rfl 11 (by decide) (hk _ kl_Model_41) (fun _ h9 => h9) rfl d_Model_note_37 ?_
        refine lv_bipush (v := (64 : Int32)) hx hb d_Model_note_40 (by decide) ?_
        refine lv_imul hx hb d_Model_note_42 ?_
        refine lv_iload_n hx hb d_Model_note_43 rfl (lv_at hl 1 rfl) ?_
        refine lv_iadd hx hb d_Model_note_44 ?_
        refine va_iald hx hb hK hP 7 0 rfl rfl (in_no (hw c_4).1 (mIn_in (by decide) c_16)) d_Model_note_45 ?_
        refine lv_goto (tgt := 50) hx hb d_Model_note_46 (by decide) ?_
        obtain rfl : ((aNo md) (((aWc md) * (64 : Int32)) + i).toNatClampNeg) = res := (Eq.symm ((if_pos c_4).trans ((if_neg c_16).trans ((if_neg c_29).trans rfl)))).trans hres
        exact CM_iret hx hb hr hlocks hP hK hD hS d_Model_note_50
  · refine lv_bipush (v := (-2 : Int32)) hx hb d_Model_note_7 (by decide) ?_
    obtain rfl : (-2 : Int32) = res := (Eq.symm ((if_neg c_4).trans rfl)).trans hres
    exact CM_iret hx hb hr hlocks hP hK hD hS d_Model_note_9
set_option maxHeartbeats 4000000 in
set_option maxRecDepth 100000 in
theorem c_M_count (l : Launch) (D : va_G) (cI cZ : ClassId) (o o1 o2 o3 o4 o5 o6 o7 o8 o9 o10 o11 o12 : Nat)   (i : Int32) (md : MM) (hw : 0 ≤ aWc md → okM 20 md) (res : Int32) (hres : m_M_count i md = res) : CM l y_Model_count b_Model_count 2 .int ({ frames := 1, cells := 0, slots := 0, locals := 21 }) D (tyZ cI cZ) [.ref o, .int i] (M13 cI cZ o o1 o2 o3 o4 o5 o6 o7 o8 o9 o10 o11 o12 md) res (M13 cI cZ o o1 o2 o3 o4 o5 o6 o7 o8 o9 o10 o11 o12 md) := by
  refine CM_mk (by decide) (Nat.le_of_ble_eq_true rfl) ?_
  intro p e s m args below meth c A ls hx hb hr hml hown hk hlocks hA hSt hK hP hD hS hl
  have hown : s.vm.findClass R_Model = some m.cls := hown
  have hl : lv_has ls 2 [(0, .ref o), (1, .int i)] := hl
  refine lv_iload_n hx hb d_Model_count_0 rfl (lv_at hl 1 rfl) ?_
  refine lv_iconst (v := (3 : Int32)) hx hb d_Model_count_1 (by decide) ?_
  refine CM.callS (wc := []) (wr := M13 cI cZ o o1 o2 o3 o4 o5 o6 o7 o8 o9 o10 o11 o12 md) (av := [.int i, .int (3 : Int32)]) (rest := []) hx hb hml hown hk (c_M_in l D cI cZ i (3 : Int32) _ rfl) hK hP hD hS hA hSt hl.1 d_Model_count_2 kc_Model_in ki_Model kl_Model_54 ks_Model_in (n := 2) rfl (by decide +kernel) ⟨Nat.le_of_ble_eq_true rfl, Nat.le_of_ble_eq_true rfl⟩ rfl rfl (Nat.le_of_ble_eq_true rfl) ⟨Nat.zero_le _, Nat.zero_le _⟩ (fun H locs hP hD hS => ?_)
  have hP : va_P D classes (M13 cI cZ o o1 o2 o3 o4 o5 o6 o7 o8 o9 o10 o11 o12 md) H := hP
  have hD : va_D A (M13 cI cZ o o1 o2 o3 o4 o5 o6 o7 o8 o9 o10 o11 o12 md) := hD
  refine lv_if_ne (tgt := 10) hx hb d_Model_count_5 (by decide) (fun c_5 => ?_) (fun c_5 => ?_)
  · refine lv_iload_n hx hb d_Model_count_10 rfl (lv_at hl 1 rfl) ?_
    refine lv_if_ne (tgt := 19) hx hb d_Model_count_11 (by decide) (fun c_11 => ?_) (fun c_11 => ?_)
    · refine lv_aload_n hx hb d_Model_count_19 rfl (lv_at hl 0 rfl) ?_
      refine va_get (D := D) (ci := 2) (v := .int (aWc md)) (C := R_Model) (T := F_Model) (N := 14) hx hb hk i_Model hown hK hP 0 rfl rfl 11 (by decide) (hk _ kl_Model_41) (fun _ h9 => h9) rfl d_Model_count_20 ?_
      refine lv_if_ge (tgt := 31) hx hb d_Model_count_23 (by decide) (fun c_23 => ?_) (fun c_23 => ?_)
      · refine lv_iload_n hx hb d_Model_count_31 rfl (lv_at hl 1 rfl) ?_
        refine lv_iconst (v := (1 : Int32)) hx hb d_Model_count_32 (by decide) ?_
        refine lv_icmp_ne (tgt := 43) hx hb d_Model_count_33 (by decide) (fun c_33 => ?_) (fun c_33 => ?_)
        · refine lv_aload_n hx hb d_Model_count_43 rfl (lv_at hl 0 rfl) ?_
          refine va_get (D := D) (ci := 2) (v := .ref o8) (C := R_Model) (T := F_Model) (N := 14) hx hb hk i_Model hown hK hP 0 rfl rfl 7 (by decide) (hk _ kl_Model_31) (fun _ h9 => h9) rfl d_Model_count_44 ?_
          refine lv_aload_n hx hb d_Model_count_47 rfl (lv_at hl 0 rfl) ?_
          refine va_get (D := D) (ci := 2) (v := .int (aWc md)) (C := R_Model) (T := F_Model) (N := 14) hx hb hk i_Model hown hK hP 0 rfl rfl 11 (by decide) (hk _ kl_Model_41) (fun _ h9 => h9) rfl d_Model_count_48 ?_
          refine va_iald hx hb hK hP 8 0 rfl rfl (hw c_23).1 d_Model_count_51 ?_
          obtain rfl : ((aNd md) (aWc md).toNatClampNeg) = res := (Eq.symm ((if_neg c_5).trans ((if_neg c_11).trans ((if_pos c_23).trans ((if_neg c_33).trans rfl))))).trans hres
          exact CM_iret hx hb hr hlocks hP hK hD hS d_Model_count_52
        · refine lv_aload_n hx hb d_Model_count_36 rfl (lv_at hl 0 rfl) ?_
          refine va_get (D := D) (ci := 2) (v := .int (aWc md)) (C := R_Model) (T := F_Model) (N := 14) hx hb hk i_Model hown hK hP 0 rfl rfl 11 (by decide) (hk _ kl_Model_41) (fun _ h9 => h9) rfl d_Model_count_37 ?_
          refine lv_goto (tgt := 52) hx hb d_Model_count_40 (by decide) ?_
          obtain rfl : (aWc md) = res := (Eq.symm ((if_neg c_5).trans ((if_neg c_11).trans ((if_pos c_23).trans ((if_pos c_33).trans rfl))))).trans hres
          exact CM_iret hx hb hr hlocks hP hK hD hS d_Model_count_52
      · refine lv_bipush (v := (-2 : Int32)) hx hb d_Model_count_26 (by decide) ?_
        refine lv_goto (tgt := 52) hx hb d_Model_count_28 (by decide) ?_
        obtain rfl : (-2 : Int32) = res := (Eq.symm ((if_neg c_5).trans ((if_neg c_11).trans ((if_neg c_23).trans rfl)))).trans hres
        exact CM_iret hx hb hr hlocks hP hK hD hS d_Model_count_52
    · refine lv_aload_n hx hb d_Model_count_14 rfl (lv_at hl 0 rfl) ?_
      refine va_get (D := D) (ci := 2) (v := .int (aWn md)) (C := R_Model) (T := F_Model) (N := 14) hx hb hk i_Model hown hK hP 0 rfl rfl 10 (by decide) (hk _ kl_Model_51) (fun _ h9 => h9) rfl d_Model_count_15 ?_
      obtain rfl : (aWn md) = res := (Eq.symm ((if_neg c_5).trans ((if_pos c_11).trans rfl))).trans hres
      exact CM_iret hx hb hr hlocks hP hK hD hS d_Model_count_18
  · refine lv_iconst (v := (-1 : Int32)) hx hb d_Model_count_8 (by decide) ?_
    obtain rfl : (-1 : Int32) = res := (Eq.symm ((if_pos c_5).trans rfl)).trans hres
    exact CM_iret hx hb hr hlocks hP hK hD hS d_Model_count_9

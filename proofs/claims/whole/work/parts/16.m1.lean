set_option maxHeartbeats 4000000 in
set_option maxRecDepth 100000 in
theorem c_M_in (l : Launch) (D : va_G) (cI cZ : ClassId)   (v : Int32) (n : Int32)  (res : Int32) (hres : m_M_in v n = res) : CM l y_Model_in b_Model_in 2 .boolean ({ frames := 0, cells := 0, slots := 0, locals := 0 }) D (tyZ cI cZ) [.int v, .int n] ([]) res ([]) := by
  refine CM_mk (by decide) (Nat.le_of_ble_eq_true rfl) ?_
  intro p e s m args below meth c A ls hx hb hr hml hown hk hlocks hA hSt hK hP hD hS hl
  have hown : s.vm.findClass R_Model = some m.cls := hown
  have hl : lv_has ls 2 [(0, .int v), (1, .int n)] := hl
  refine lv_iload_n hx hb d_Model_in_0 rfl (lv_at hl 0 rfl) ?_
  refine lv_if_lt (tgt := 13) hx hb d_Model_in_1 (by decide) (fun c_1 => ?_) (fun c_1 => ?_)
  · refine lv_iconst (v := (0 : Int32)) hx hb d_Model_in_13 (by decide) ?_
    obtain rfl : (0 : Int32) = res := (Eq.symm ((if_pos c_1).trans rfl)).trans hres
    exact CM_zret hx hb hr hlocks rfl hP hK hD hS d_Model_in_14
  · refine lv_iload_n hx hb d_Model_in_4 rfl (lv_at hl 0 rfl) ?_
    refine lv_iload_n hx hb d_Model_in_5 rfl (lv_at hl 1 rfl) ?_
    refine lv_icmp_ge (tgt := 13) hx hb d_Model_in_6 (by decide) (fun c_6 => ?_) (fun c_6 => ?_)
    · refine lv_iconst (v := (0 : Int32)) hx hb d_Model_in_13 (by decide) ?_
      obtain rfl : (0 : Int32) = res := (Eq.symm ((if_neg c_1).trans ((if_pos c_6).trans rfl))).trans hres
      exact CM_zret hx hb hr hlocks rfl hP hK hD hS d_Model_in_14
    · refine lv_iconst (v := (1 : Int32)) hx hb d_Model_in_9 (by decide) ?_
      refine lv_goto (tgt := 14) hx hb d_Model_in_10 (by decide) ?_
      obtain rfl : (1 : Int32) = res := (Eq.symm ((if_neg c_1).trans ((if_neg c_6).trans rfl))).trans hres
      exact CM_zret hx hb hr hlocks rfl hP hK hD hS d_Model_in_14
set_option maxHeartbeats 4000000 in
set_option maxRecDepth 100000 in
theorem c_M_write (l : Launch) (D : va_G) (cI cZ : ClassId) (o o1 o2 o3 o4 o5 o6 o7 o8 o9 o10 o11 o12 : Nat)   (n : Int32) (md : MM) (ho : okM 1 md) (res : MM) (hres : m_M_write n md = res) : CMv l y_Model_write b_Model_write 2 ({ frames := 0, cells := 0, slots := 0, locals := 0 }) D (tyZ cI cZ) [.ref o, .int n] (M13 cI cZ o o1 o2 o3 o4 o5 o6 o7 o8 o9 o10 o11 o12 md) (M13 cI cZ o o1 o2 o3 o4 o5 o6 o7 o8 o9 o10 o11 o12 res) := by
  refine CMv_mk (by decide) (Nat.le_of_ble_eq_true rfl) ?_
  intro p e s m args below meth c A ls hx hb hr hml hown hk hlocks hA hSt hK hP hD hS hl
  have hown : s.vm.findClass R_Model = some m.cls := hown
  have hl : lv_has ls 2 [(0, .ref o), (1, .int n)] := hl
  refine lv_aload_n hx hb d_Model_write_0 rfl (lv_at hl 0 rfl) ?_
  refine va_get (D := D) (ci := 2) (v := .ref o8) (C := R_Model) (T := F_Model) (N := 14) hx hb hk i_Model hown hK hP 0 rfl rfl 7 (by decide) (hk _ kl_Model_31) (fun _ h9 => h9) rfl d_Model_write_1 ?_
  refine lv_aload_n hx hb d_Model_write_4 rfl (lv_at hl 0 rfl) ?_
  refine va_get (D := D) (ci := 2) (v := .int (aWc md)) (C := R_Model) (T := F_Model) (N := 14) hx hb hk i_Model hown hK hP 0 rfl rfl 11 (by decide) (hk _ kl_Model_41) (fun _ h9 => h9) rfl d_Model_write_5 ?_
  refine va_iald hx hb hK hP 8 0 rfl rfl ho.1 d_Model_write_8 ?_
  refine lv_bipush (v := (64 : Int32)) hx hb d_Model_write_9 (by decide) ?_
  refine lv_icmp_ge (tgt := 37) hx hb d_Model_write_11 (by decide) (fun c_11 => ?_) (fun c_11 => ?_)
  · refine lv_aload_n hx hb d_Model_write_37 rfl (lv_at hl 0 rfl) ?_
    refine va_get (D := D) (ci := 2) (v := .ref o8) (C := R_Model) (T := F_Model) (N := 14) hx hb hk i_Model hown hK hP 0 rfl rfl 7 (by decide) (hk _ kl_Model_31) (fun _ h9 => h9) rfl d_Model_write_38 ?_
    refine lv_aload_n hx hb d_Model_write_41 rfl (lv_at hl 0 rfl) ?_
    refine va_get (D := D) (ci := 2) (v := .int (aWc md)) (C := R_Model) (T := F_Model) (N := 14) hx hb hk i_Model hown hK hP 0 rfl rfl 11 (by decide) (hk _ kl_Model_41) (fun _ h9 => h9) rfl d_Model_write_42 ?_
    refine lv_dup2_11 hx hb d_Model_write_45 rfl rfl ?_
    refine va_iald hx hb hK hP 8 0 rfl rfl ho.1 d_Model_write_46 ?_
    refine lv_iconst (v := (1 : Int32)) hx hb d_Model_write_47 (by decide) ?_
    refine lv_iadd hx hb d_Model_write_48 ?_
    refine va_iast hx hb hK hP hD hS 8 0 rfl rfl ho.1 d_Model_write_49 (fun H locs hP hD hS => ?_)
    have hP : va_P D classes (M13 cI cZ o o1 o2 o3 o4 o5 o6 o7 o8 o9 o10 o11 o12 (uNd md (upd ((aNd md)) (aWc md).toNatClampNeg (((aNd md) (aWc md).toNatClampNeg) + (1 : Int32))))) H := hP
    have hD : va_D A (M13 cI cZ o o1 o2 o3 o4 o5 o6 o7 o8 o9 o10 o11 o12 (uNd md (upd ((aNd md)) (aWc md).toNatClampNeg (((aNd md) (aWc md).toNatClampNeg) + (1 : Int32))))) := hD
    obtain rfl : (uNd md (upd ((aNd md)) (aWc md).toNatClampNeg (((aNd md) (aWc md).toNatClampNeg) + (1 : Int32)))) = res := (Eq.symm ((if_pos c_11).trans rfl)).trans hres
    exact CMv_ret hx hb hr hlocks hP hK hD hS d_Model_write_50
  · refine lv_aload_n hx hb d_Model_write_14 rfl (lv_at hl 0 rfl) ?_
    refine va_get (D := D) (ci := 2) (v := .ref o7) (C := R_Model) (T := F_Model) (N := 14) hx hb hk i_Model hown hK hP 0 rfl rfl 6 (by decide) (hk _ kl_Model_28) (fun _ h9 => h9) rfl d_Model_write_15 ?_
    refine lv_aload_n hx hb d_Model_write_18 rfl (lv_at hl 0 rfl) ?_
    refine va_get (D := D) (ci := 2) (v := .int (aWc md)) (C := R_Model) (T := F_Model) (N := 14) hx hb hk i_Model hown hK hP 0 rfl rfl 11 (by decide) (hk _ kl_Model_41) (fun _ h9 => h9) rfl d_Model_write_19 ?_
    refine lv_bipush (v := (64 : Int32)) hx hb d_Model_write_22 (by decide) ?_
    refine lv_imul hx hb d_Model_write_24 ?_
    refine lv_aload_n hx hb d_Model_write_25 rfl (lv_at hl 0 rfl) ?_
    refine va_get (D := D) (ci := 2) (v := .ref o8) (C := R_Model) (T := F_Model) (N := 14) hx hb hk i_Model hown hK hP 0 rfl rfl 7 (by decide) (hk _ kl_Model_31) (fun _ h9 => h9) rfl d_Model_write_26 ?_
    refine lv_aload_n hx hb d_Model_write_29 rfl (lv_at hl 0 rfl) ?_
    refine va_get (D := D) (ci := 2) (v := .int (aWc md)) (C := R_Model) (T := F_Model) (N := 14) hx hb hk i_Model hown hK hP 0 rfl rfl 11 (by decide) (hk _ kl_Model_41) (fun _ h9 => h9) rfl d_Model_write_30 ?_
    refine va_iald hx hb hK hP 8 0 rfl rfl ho.1 d_Model_write_33 ?_
    refine lv_iadd hx hb d_Model_write_34 ?_
    refine lv_iload_n hx hb d_Model_write_35 rfl (lv_at hl 1 rfl) ?_
    refine va_iast hx hb hK hP hD hS 7 0 rfl rfl (in_no ho.1 (okM_in ho c_11)) d_Model_write_36 (fun H locs hP hD hS => ?_)
    have hP : va_P D classes (M13 cI cZ o o1 o2 o3 o4 o5 o6 o7 o8 o9 o10 o11 o12 (uNo md (upd ((aNo md)) (((aWc md) * (64 : Int32)) + ((aNd md) (aWc md).toNatClampNeg)).toNatClampNeg n))) H := hP
    have hD : va_D A (M13 cI cZ o o1 o2 o3 o4 o5 o6 o7 o8 o9 o10 o11 o12 (uNo md (upd ((aNo md)) (((aWc md) * (64 : Int32)) + ((aNd md) (aWc md).toNatClampNeg)).toNatClampNeg n))) := hD
    refine lv_aload_n hx hb d_Model_write_37 rfl (lv_at hl 0 rfl) ?_
    refine va_get (D := D) (ci := 2) (v := .ref o8) (C := R_Model) (T := F_Model) (N := 14) hx hb hk i_Model hown hK hP 0 rfl rfl 7 (by decide) (hk _ kl_Model_31) (fun _ h9 => h9) rfl d_Model_write_38 ?_
    refine lv_aload_n hx hb d_Model_write_41 rfl (lv_at hl 0 rfl) ?_
    refine va_get (D := D) (ci := 2) (v := .int (aWc (uNo md (upd ((aNo md)) (((aWc md) * (64 : Int32)) + ((aNd md) (aWc md).toNatClampNeg)).toNatClampNeg n)))) (C := R_Model) (T := F_Model) (N := 14) hx hb hk i_Model hown hK hP 0 rfl rfl 11 (by decide) (hk _ kl_Model_41) (fun _ h9 => h9) rfl d_Model_write_42 ?_
    refine lv_dup2_11 hx hb d_Model_write_45 rfl rfl ?_
    refine va_iald hx hb hK hP 8 0 rfl rfl (okM_uNo ho).1 d_Model_write_46 ?_
    refine lv_iconst (v := (1 : Int32)) hx hb d_Model_write_47 (by decide) ?_
    refine lv_iadd hx hb d_Model_write_48 ?_
    refine va_iast hx hb hK hP hD hS 8 0 rfl rfl (okM_uNo ho).1 d_Model_write_49 (fun H locs hP hD hS => ?_)
    have hP : va_P D classes (M13 cI cZ o o1 o2 o3 o4 o5 o6 o7 o8 o9 o10 o11 o12 (uNd (uNo md (upd ((aNo md)) (((aWc md) * (64 : Int32)) + ((aNd md) (aWc md).toNatClampNeg)).toNatClampNeg n)) (upd ((aNd (uNo md (upd ((aNo md)) (((aWc md) * (64 : Int32)) + ((aNd md) (aWc md).toNatClampNeg)).toNatClampNeg n)))) (aWc (uNo md (upd ((aNo md)) (((aWc md) * (64 : Int32)) + ((aNd md) (aWc md).toNatClampNeg)).toNatClampNeg n))).toNatClampNeg (((aNd (uNo md (upd ((aNo md)) (((aWc md) * (64 : Int32)) + ((aNd md) (aWc md).toNatClampNeg)).toNatClampNeg n))) (aWc (uNo md (upd ((aNo md)) (((aWc md) * (64 : Int32)) + ((aNd md) (aWc md).toNatClampNeg)).toNatClampNeg n))).toNatClampNeg) + (1 : Int32))))) H := hP
    have hD : va_D A (M13 cI cZ o o1 o2 o3 o4 o5 o6 o7 o8 o9 o10 o11 o12 (uNd (uNo md (upd ((aNo md)) (((aWc md) * (64 : Int32)) + ((aNd md) (aWc md).toNatClampNeg)).toNatClampNeg n)) (upd ((aNd (uNo md (upd ((aNo md)) (((aWc md) * (64 : Int32)) + ((aNd md) (aWc md).toNatClampNeg)).toNatClampNeg n)))) (aWc (uNo md (upd ((aNo md)) (((aWc md) * (64 : Int32)) + ((aNd md) (aWc md).toNatClampNeg)).toNatClampNeg n))).toNatClampNeg (((aNd (uNo md (upd ((aNo md)) (((aWc md) * (64 : Int32)) + ((aNd md) (aWc md).toNatClampNeg)).toNatClampNeg n))) (aWc (uNo md (upd ((aNo md)) (((aWc md) * (64 : Int32)) + ((aNd md) (aWc md).toNatClampNeg)).toNatClampNeg n))).toNatClampNeg) + (1 : Int32))))) := hD
    obtain rfl : (uNd (uNo md (upd ((aNo md)) (((aWc md) * (64 : Int32)) + ((aNd md) (aWc md).toNatClampNeg)).toNatClampNeg n)) (upd ((aNd (uNo md (upd ((aNo md)) (((aWc md) * (64 : Int32)) + ((aNd md) (aWc md).toNatClampNeg)).toNatClampNeg n)))) (aWc (uNo md (upd ((aNo md)) (((aWc md) * (64 : Int32)) + ((aNd md) (aWc md).toNatClampNeg)).toNatClampNeg n))).toNatClampNeg (((aNd (uNo md (upd ((aNo md)) (((aWc md) * (64 : Int32)) + ((aNd md) (aWc md).toNatClampNeg)).toNatClampNeg n))) (aWc (uNo md (upd ((aNo md)) (((aWc md) * (64 : Int32)) + ((aNd md) (aWc md).toNatClampNeg)).toNatClampNeg n))).toNatClampNeg) + (1 : Int32)))) = res := (Eq.symm ((if_neg c_11).trans rfl)).trans hres
    exact CMv_ret hx hb hr hlocks hP hK hD hS d_Model_write_50
set_option maxHeartbeats 4000000 in
set_option maxRecDepth 100000 in
theorem c_M_begins (l : Launch) (D : va_G) (cI cZ : ClassId) (o o1 o2 o3 o4 o5 o6 o7 o8 o9 o10 o11 o12 : Nat)   (k : Int32) (md : MM) (hk17 : vp_in k 17) (ho : okM 0 md) (z1 : MM) (z2 : Int32) (hres : m_M_begins k md = (z1, z2)) : CM l y_Model_begins b_Model_begins 2 .boolean ({ frames := 0, cells := 0, slots := 0, locals := 0 }) D (tyZ cI cZ) [.ref o, .int k] (M13 cI cZ o o1 o2 o3 o4 o5 o6 o7 o8 o9 o10 o11 o12 md) z2 (M13 cI cZ o o1 o2 o3 o4 o5 o6 o7 o8 o9 o10 o11 o12 z1) := by
  refine CM_mk (by decide) (Nat.le_of_ble_eq_true rfl) ?_
  intro p e s m args below meth c A ls hx hb hr hml hown hk hlocks hA hSt hK hP hD hS hl
  have hown : s.vm.findClass R_Model = some m.cls := hown
  have hl : lv_has ls 2 [(0, .ref o), (1, .int k)] := hl
  refine lv_aload_n hx hb d_Model_begins_0 rfl (lv_at hl 0 rfl) ?_
  refine va_get (D := D) (ci := 2) (v := .ref o1) (C := R_Model) (T := F_Model) (N := 14) hx hb hk i_Model hown hK hP 0 rfl rfl 0 (by decide) (hk _ kl_Model_7) (fun _ h9 => h9) rfl d_Model_begins_1 ?_
  refine lv_aload_n hx hb d_Model_begins_4 rfl (lv_at hl 0 rfl) ?_
  refine va_get (D := D) (ci := 2) (v := .int (aWc md)) (C := R_Model) (T := F_Model) (N := 14) hx hb hk i_Model hown hK hP 0 rfl rfl 11 (by decide) (hk _ kl_Model_41) (fun _ h9 => h9) rfl d_Model_begins_5 ?_
  refine lv_bipush (v := (17 : Int32)) hx hb d_Model_begins_8 (by decide) ?_
  refine lv_imul hx hb d_Model_begins_10 ?_
  refine lv_iload_n hx hb d_Model_begins_11 rfl (lv_at hl 1 rfl) ?_
  refine lv_iadd hx hb d_Model_begins_12 ?_
  refine va_iald hx hb hK hP 1 0 rfl rfl (in_st ho.1 hk17) d_Model_begins_13 ?_
  refine lv_if_eq (tgt := 19) hx hb d_Model_begins_14 (by decide) (fun c_14 => ?_) (fun c_14 => ?_)
  · refine lv_aload_n hx hb d_Model_begins_19 rfl (lv_at hl 0 rfl) ?_
    refine va_get (D := D) (ci := 2) (v := .ref o1) (C := R_Model) (T := F_Model) (N := 14) hx hb hk i_Model hown hK hP 0 rfl rfl 0 (by decide) (hk _ kl_Model_7) (fun _ h9 => h9) rfl d_Model_begins_20 ?_
    refine lv_aload_n hx hb d_Model_begins_23 rfl (lv_at hl 0 rfl) ?_
    refine va_get (D := D) (ci := 2) (v := .int (aWc md)) (C := R_Model) (T := F_Model) (N := 14) hx hb hk i_Model hown hK hP 0 rfl rfl 11 (by decide) (hk _ kl_Model_41) (fun _ h9 => h9) rfl d_Model_begins_24 ?_
    refine lv_bipush (v := (17 : Int32)) hx hb d_Model_begins_27 (by decide) ?_
    refine lv_imul hx hb d_Model_begins_29 ?_
    refine lv_iload_n hx hb d_Model_begins_30 rfl (lv_at hl 1 rfl) ?_
    refine lv_iadd hx hb d_Model_begins_31 ?_
    refine lv_iconst (v := (1 : Int32)) hx hb d_Model_begins_32 (by decide) ?_
    refine va_iast hx hb hK hP hD hS 1 0 rfl rfl (in_st ho.1 hk17) d_Model_begins_33 (fun H locs hP hD hS => ?_)
    have hP : va_P D classes (M13 cI cZ o o1 o2 o3 o4 o5 o6 o7 o8 o9 o10 o11 o12 (uSt md (upd ((aSt md)) (((aWc md) * (17 : Int32)) + k).toNatClampNeg (1 : Int32)))) H := hP
    have hD : va_D A (M13 cI cZ o o1 o2 o3 o4 o5 o6 o7 o8 o9 o10 o11 o12 (uSt md (upd ((aSt md)) (((aWc md) * (17 : Int32)) + k).toNatClampNeg (1 : Int32)))) := hD
    refine lv_iconst (v := (1 : Int32)) hx hb d_Model_begins_34 (by decide) ?_
    obtain ⟨rfl, rfl⟩ : (uSt md (upd ((aSt md)) (((aWc md) * (17 : Int32)) + k).toNatClampNeg (1 : Int32))) = z1 ∧ (1 : Int32) = z2 := Prod.mk.inj ((Eq.symm ((if_pos c_14).trans rfl)).trans hres)
    exact CM_zret hx hb hr hlocks rfl hP hK hD hS d_Model_begins_35
  · refine lv_iconst (v := (0 : Int32)) hx hb d_Model_begins_17 (by decide) ?_
    obtain ⟨rfl, rfl⟩ : md = z1 ∧ (0 : Int32) = z2 := Prod.mk.inj ((Eq.symm ((if_neg c_14).trans rfl)).trans hres)
    exact CM_zret hx hb hr hlocks rfl hP hK hD hS d_Model_begins_18
set_option maxHeartbeats 4000000 in
set_option maxRecDepth 100000 in
theorem c_M_ends (l : Launch) (D : va_G) (cI cZ : ClassId) (o o1 o2 o3 o4 o5 o6 o7 o8 o9 o10 o11 o12 : Nat)   (k : Int32) (md : MM) (hk17 : vp_in k 17) (ho : okM 0 md) (res : MM) (hres : m_M_ends k md = res) : CMv l y_Model_ends b_Model_ends 2 ({ frames := 0, cells := 0, slots := 0, locals := 0 }) D (tyZ cI cZ) [.ref o, .int k] (M13 cI cZ o o1 o2 o3 o4 o5 o6 o7 o8 o9 o10 o11 o12 md) (M13 cI cZ o o1 o2 o3 o4 o5 o6 o7 o8 o9 o10 o11 o12 res) := by
  refine CMv_mk (by decide) (Nat.le_of_ble_eq_true rfl) ?_
  intro p e s m args below meth c A ls hx hb hr hml hown hk hlocks hA hSt hK hP hD hS hl
  have hown : s.vm.findClass R_Model = some m.cls := hown
  have hl : lv_has ls 2 [(0, .ref o), (1, .int k)] := hl
  refine lv_aload_n hx hb d_Model_ends_0 rfl (lv_at hl 0 rfl) ?_
  refine va_get (D := D) (ci := 2) (v := .ref o1) (C := R_Model) (T := F_Model) (N := 14) hx hb hk i_Model hown hK hP 0 rfl rfl 0 (by decide) (hk _ kl_Model_7) (fun _ h9 => h9) rfl d_Model_ends_1 ?_
  refine lv_aload_n hx hb d_Model_ends_4 rfl (lv_at hl 0 rfl) ?_
  refine va_get (D := D) (ci := 2) (v := .int (aWc md)) (C := R_Model) (T := F_Model) (N := 14) hx hb hk i_Model hown hK hP 0 rfl rfl 11 (by decide) (hk _ kl_Model_41) (fun _ h9 => h9) rfl d_Model_ends_5 ?_
  refine lv_bipush (v := (17 : Int32)) hx hb d_Model_ends_8 (by decide) ?_
  refine lv_imul hx hb d_Model_ends_10 ?_
  refine lv_iload_n hx hb d_Model_ends_11 rfl (lv_at hl 1 rfl) ?_
  refine lv_iadd hx hb d_Model_ends_12 ?_
  refine lv_iconst (v := (2 : Int32)) hx hb d_Model_ends_13 (by decide) ?_
  refine va_iast hx hb hK hP hD hS 1 0 rfl rfl (in_st ho.1 hk17) d_Model_ends_14 (fun H locs hP hD hS => ?_)
  have hP : va_P D classes (M13 cI cZ o o1 o2 o3 o4 o5 o6 o7 o8 o9 o10 o11 o12 (uSt md (upd ((aSt md)) (((aWc md) * (17 : Int32)) + k).toNatClampNeg (2 : Int32)))) H := hP
  have hD : va_D A (M13 cI cZ o o1 o2 o3 o4 o5 o6 o7 o8 o9 o10 o11 o12 (uSt md (upd ((aSt md)) (((aWc md) * (17 : Int32)) + k).toNatClampNeg (2 : Int32)))) := hD
  obtain rfl : (uSt md (upd ((aSt md)) (((aWc md) * (17 : Int32)) + k).toNatClampNeg (2 : Int32))) = res := (Eq.symm rfl).trans hres
  exact CMv_ret hx hb hr hlocks hP hK hD hS d_Model_ends_15

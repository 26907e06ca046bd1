theorem pe2 {α β : Type} (p : α × β) : p = (p.1, p.2) := rfl
theorem pe4 {α β γ δ : Type} (p : α × β × γ × δ) : p = (p.1, p.2.1, p.2.2.1, p.2.2.2) := rfl
theorem inj4 {α β γ δ : Type} {a a2 : α} {b b2 : β} {c c2 : γ} {d d2 : δ} (h : (a, b, c, d) = (a2, b2, c2, d2)) : a = a2 ∧ b = b2 ∧ c = c2 ∧ d = d2 := by
  cases h
  exact ⟨rfl, rfl, rfl, rfl⟩
set_option maxHeartbeats 4000000 in
set_option maxRecDepth 100000 in
theorem c_Kinds_isThere (l : Launch) (D : va_G) (cI cW : ClassId)   (k : Int32)  (res : Int32) (hres : m_Kinds_isThere k = res) : CM l y_Kinds_isThere b_Kinds_isThere 1 .boolean ({ frames := 0, cells := 0, slots := 0, locals := 0 }) D (tyC cI cW) [.int k] ([]) res ([]) := by
  refine CM_mk (by decide) (Nat.le_of_ble_eq_true rfl) ?_
  intro p e s m args below meth c A ls hx hb hr hml hown hk hlocks hA hSt hK hP hD hS hl
  have hown : s.vm.findClass R_Kinds = some m.cls := hown
  have hl : lv_has ls 1 [(0, .int k)] := hl
  refine lv_iload_n hx hb d_Kinds_isThere_0 rfl (lv_at hl 0 rfl) ?_
  refine lv_if_lt (tgt := 14) hx hb d_Kinds_isThere_1 (by decide) (fun c_1 => ?_) (fun c_1 => ?_)
  · refine lv_iconst (v := (0 : Int32)) hx hb d_Kinds_isThere_14 (by decide) ?_
    obtain rfl : res = (0 : Int32) := hres.symm.trans ((if_pos c_1).trans rfl)
    exact CM_zret hx hb hr hlocks rfl hP hK hD hS d_Kinds_isThere_15
  · refine lv_iload_n hx hb d_Kinds_isThere_4 rfl (lv_at hl 0 rfl) ?_
    refine lv_bipush (v := (17 : Int32)) hx hb d_Kinds_isThere_5 (by decide) ?_
    refine lv_icmp_ge (tgt := 14) hx hb d_Kinds_isThere_7 (by decide) (fun c_7 => ?_) (fun c_7 => ?_)
    · refine lv_iconst (v := (0 : Int32)) hx hb d_Kinds_isThere_14 (by decide) ?_
      obtain rfl : res = (0 : Int32) := hres.symm.trans ((if_neg c_1).trans ((if_pos c_7).trans rfl))
      exact CM_zret hx hb hr hlocks rfl hP hK hD hS d_Kinds_isThere_15
    · refine lv_iconst (v := (1 : Int32)) hx hb d_Kinds_isThere_10 (by decide) ?_
      refine lv_goto (tgt := 15) hx hb d_Kinds_isThere_11 (by decide) ?_
      obtain rfl : res = (1 : Int32) := hres.symm.trans ((if_neg c_1).trans ((if_neg c_7).trans rfl))
      exact CM_zret hx hb hr hlocks rfl hP hK hD hS d_Kinds_isThere_15
set_option maxHeartbeats 4000000 in
set_option maxRecDepth 100000 in
theorem c_Kinds_up (l : Launch) (D : va_G) (cI cW : ClassId)   (k : Int32)  (res : Int32) (hres : m_Kinds_up k = res) : CM l y_Kinds_up b_Kinds_up 1 .int ({ frames := 1, cells := 0, slots := 0, locals := 20 }) D (tyC cI cW) [.int k] ([]) res ([]) := by
  refine CM_mk (by decide) (Nat.le_of_ble_eq_true rfl) ?_
  intro p e s m args below meth c A ls hx hb hr hml hown hk hlocks hA hSt hK hP hD hS hl
  have hown : s.vm.findClass R_Kinds = some m.cls := hown
  have hl : lv_has ls 1 [(0, .int k)] := hl
  obtain ⟨t_UP, hZ_UP, hT_UP⟩ := hSt.UP
  refine lv_iload_n hx hb d_Kinds_up_0 rfl (lv_at hl 0 rfl) ?_
  refine CM.callS (wc := []) (wr := []) (av := [.int k]) (rest := []) hx hb hml hown hk (c_Kinds_isThere l D cI cW k _ rfl) hK hP hD hS hA hSt hl.1 d_Kinds_up_1 kc_Kinds_isThere ki_Kinds kl_Kinds_11 ks_Kinds_isThere (n := 1) rfl (by decide +kernel) ⟨Nat.le_of_ble_eq_true rfl, Nat.le_of_ble_eq_true rfl⟩ rfl rfl (Nat.le_of_ble_eq_true rfl) ⟨Nat.zero_le _, Nat.zero_le _⟩ (fun H locs hP hD hS => ?_)
  have hP : va_P D classes ([]) H := hP
  have hD : va_D A ([]) := hD
  refine lv_if_eq (tgt := 15) hx hb d_Kinds_up_4 (by decide) (fun c_4 => ?_) (fun c_4 => ?_)
  · refine lv_iconst (v := (-1 : Int32)) hx hb d_Kinds_up_15 (by decide) ?_
    obtain rfl : res = (-1 : Int32) := hres.symm.trans ((if_pos c_4).trans rfl)
    exact CM_iret hx hb hr hlocks hP hK hD hS d_Kinds_up_16
  · refine va_gets hx hb hZ_UP hS hown (hk _ kl_Kinds_15) (fun _ h9 => h9) d_Kinds_up_7 ?_
    refine lv_iload_n hx hb d_Kinds_up_10 rfl (lv_at hl 0 rfl) ?_
    refine va_ti (v := .int (fUP k.toNatClampNeg)) hx hb hT_UP hS (kThere_in c_4) rfl d_Kinds_up_11 ?_
    refine lv_goto (tgt := 16) hx hb d_Kinds_up_12 (by decide) ?_
    obtain rfl : res = (fUP k.toNatClampNeg) := hres.symm.trans ((if_neg c_4).trans rfl)
    exact CM_iret hx hb hr hlocks hP hK hD hS d_Kinds_up_16
set_option maxHeartbeats 4000000 in
set_option maxRecDepth 100000 in
theorem c_Kinds_isInterface (l : Launch) (D : va_G) (cI cW : ClassId)   (k : Int32)  (res : Int32) (hres : m_Kinds_isInterface k = res) : CM l y_Kinds_isInterface b_Kinds_isInterface 1 .boolean ({ frames := 0, cells := 0, slots := 0, locals := 0 }) D (tyC cI cW) [.int k] ([]) res ([]) := by
  refine CM_mk (by decide) (Nat.le_of_ble_eq_true rfl) ?_
  intro p e s m args below meth c A ls hx hb hr hml hown hk hlocks hA hSt hK hP hD hS hl
  have hown : s.vm.findClass R_Kinds = some m.cls := hown
  have hl : lv_has ls 1 [(0, .int k)] := hl
  refine lv_iload_n hx hb d_Kinds_isInterface_0 rfl (lv_at hl 0 rfl) ?_
  refine lv_iconst (v := (3 : Int32)) hx hb d_Kinds_isInterface_1 (by decide) ?_
  refine lv_icmp_eq (tgt := 15) hx hb d_Kinds_isInterface_2 (by decide) (fun c_2 => ?_) (fun c_2 => ?_)
  · subst c_2
    refine lv_iconst (v := (1 : Int32)) hx hb d_Kinds_isInterface_15 (by decide) ?_
    refine lv_goto (tgt := 20) hx hb d_Kinds_isInterface_16 (by decide) ?_
    obtain rfl : res = (1 : Int32) := hres.symm.trans ((if_pos (by rfl)).trans rfl)
    exact CM_zret hx hb hr hlocks rfl hP hK hD hS d_Kinds_isInterface_20
  · refine lv_iload_n hx hb d_Kinds_isInterface_5 rfl (lv_at hl 0 rfl) ?_
    refine lv_iconst (v := (4 : Int32)) hx hb d_Kinds_isInterface_6 (by decide) ?_
    refine lv_icmp_eq (tgt := 15) hx hb d_Kinds_isInterface_7 (by decide) (fun c_7 => ?_) (fun c_7 => ?_)
    · subst c_7
      refine lv_iconst (v := (1 : Int32)) hx hb d_Kinds_isInterface_15 (by decide) ?_
      refine lv_goto (tgt := 20) hx hb d_Kinds_isInterface_16 (by decide) ?_
      obtain rfl : res = (1 : Int32) := hres.symm.trans ((if_neg c_2).trans ((if_pos (by rfl)).trans rfl))
      exact CM_zret hx hb hr hlocks rfl hP hK hD hS d_Kinds_isInterface_20
    · refine lv_iload_n hx hb d_Kinds_isInterface_10 rfl (lv_at hl 0 rfl) ?_
      refine lv_iconst (v := (5 : Int32)) hx hb d_Kinds_isInterface_11 (by decide) ?_
      refine lv_icmp_ne (tgt := 19) hx hb d_Kinds_isInterface_12 (by decide) (fun c_12 => ?_) (fun c_12 => ?_)
      · refine lv_iconst (v := (0 : Int32)) hx hb d_Kinds_isInterface_19 (by decide) ?_
        obtain rfl : res = (0 : Int32) := hres.symm.trans ((if_neg c_2).trans ((if_neg c_7).trans ((if_neg c_12).trans rfl)))
        exact CM_zret hx hb hr hlocks rfl hP hK hD hS d_Kinds_isInterface_20
      · subst c_12
        refine lv_iconst (v := (1 : Int32)) hx hb d_Kinds_isInterface_15 (by decide) ?_
        refine lv_goto (tgt := 20) hx hb d_Kinds_isInterface_16 (by decide) ?_
        obtain rfl : res = (1 : Int32) := hres.symm.trans ((if_neg c_2).trans ((if_neg c_7).trans ((if_pos (by rfl)).trans rfl)))
        exact CM_zret hx hb hr hlocks rfl hP hK hD hS d_Kinds_isInterface_20
set_option maxHeartbeats 4000000 in
set_option maxRecDepth 100000 in
theorem c_Kinds_hasBody (l : Launch) (D : va_G) (cI cW : ClassId)   (k : Int32)  (res : Int32) (hres : m_Kinds_hasBody k = res) : CM l y_Kinds_hasBody b_Kinds_hasBody 1 .boolean ({ frames := 0, cells := 0, slots := 0, locals := 0 }) D (tyC cI cW) [.int k] ([]) res ([]) := by
  refine CM_mk (by decide) (Nat.le_of_ble_eq_true rfl) ?_
  intro p e s m args below meth c A ls hx hb hr hml hown hk hlocks hA hSt hK hP hD hS hl
  have hown : s.vm.findClass R_Kinds = some m.cls := hown
  have hl : lv_has ls 1 [(0, .int k)] := hl
  refine lv_iload_n hx hb d_Kinds_hasBody_0 rfl (lv_at hl 0 rfl) ?_
  refine lv_iconst (v := (4 : Int32)) hx hb d_Kinds_hasBody_1 (by decide) ?_
  refine lv_icmp_eq (tgt := 10) hx hb d_Kinds_hasBody_2 (by decide) (fun c_2 => ?_) (fun c_2 => ?_)
  · subst c_2
    refine lv_iconst (v := (1 : Int32)) hx hb d_Kinds_hasBody_10 (by decide) ?_
    refine lv_goto (tgt := 15) hx hb d_Kinds_hasBody_11 (by decide) ?_
    obtain rfl : res = (1 : Int32) := hres.symm.trans ((if_pos (by rfl)).trans rfl)
    exact CM_zret hx hb hr hlocks rfl hP hK hD hS d_Kinds_hasBody_15
  · refine lv_iload_n hx hb d_Kinds_hasBody_5 rfl (lv_at hl 0 rfl) ?_
    refine lv_iconst (v := (5 : Int32)) hx hb d_Kinds_hasBody_6 (by decide) ?_
    refine lv_icmp_ne (tgt := 14) hx hb d_Kinds_hasBody_7 (by decide) (fun c_7 => ?_) (fun c_7 => ?_)
    · refine lv_iconst (v := (0 : Int32)) hx hb d_Kinds_hasBody_14 (by decide) ?_
      obtain rfl : res = (0 : Int32) := hres.symm.trans ((if_neg c_2).trans ((if_neg c_7).trans rfl))
      exact CM_zret hx hb hr hlocks rfl hP hK hD hS d_Kinds_hasBody_15
    · subst c_7
      refine lv_iconst (v := (1 : Int32)) hx hb d_Kinds_hasBody_10 (by decide) ?_
      refine lv_goto (tgt := 15) hx hb d_Kinds_hasBody_11 (by decide) ?_
      obtain rfl : res = (1 : Int32) := hres.symm.trans ((if_neg c_2).trans ((if_pos (by rfl)).trans rfl))
      exact CM_zret hx hb hr hlocks rfl hP hK hD hS d_Kinds_hasBody_15
set_option maxHeartbeats 4000000 in
set_option maxRecDepth 100000 in
theorem c_World_write (l : Launch) (D : va_G) (cI cW : ClassId) (q qn qv qs : Nat)   (n : Int32) (w : MW) (ho : ok 1 w) (z1 : MW) (z2 : Int32) (hres : m_World_write n w = (z1, z2)) : CM l y_World_write b_World_write 2 .int ({ frames := 0, cells := 0, slots := 0, locals := 0 }) D (tyC cI cW) [.ref q, .int n] (W4 cI q qn qv qs w) z2 (W4 cI q qn qv qs z1) := by
  refine CM_mk (by decide) (Nat.le_of_ble_eq_true rfl) ?_
  intro p e s m args below meth c A ls hx hb hr hml hown hk hlocks hA hSt hK hP hD hS hl
  have hown : s.vm.findClass R_World = some m.cls := hown
  have hl : lv_has ls 2 [(0, .ref q), (1, .int n)] := hl
  refine lv_aload_n hx hb d_World_write_0 rfl (lv_at hl 0 rfl) ?_
  refine va_get (D := D) (ci := 0) (v := .int (gWr w)) (C := R_World) (T := F_World) (N := 7) hx hb hk i_World hown hK hP 0 rfl rfl 2 (by decide) (hk _ kl_World_81) (fun _ h9 => h9) rfl d_World_write_1 ?_
  refine lv_bipush (v := (64 : Int32)) hx hb d_World_write_4 (by decide) ?_
  refine lv_icmp_ge (tgt := 19) hx hb d_World_write_6 (by decide) (fun c_6 => ?_) (fun c_6 => ?_)
  · refine lv_aload_n hx hb d_World_write_19 rfl (lv_at hl 0 rfl) ?_
    refine lv_dup hx hb d_World_write_20 rfl ?_
    refine va_get (D := D) (ci := 0) (v := .int (gWr w)) (C := R_World) (T := F_World) (N := 7) hx hb hk i_World hown hK hP 0 rfl rfl 2 (by decide) (hk _ kl_World_81) (fun _ h9 => h9) rfl d_World_write_21 ?_
    refine lv_iconst (v := (1 : Int32)) hx hb d_World_write_24 (by decide) ?_
    refine lv_iadd hx hb d_World_write_25 ?_
    refine va_put (D := D) (ci := 0) (v := .int ((gWr w) + (1 : Int32))) (ty := .int) (C := R_World) (T := F_World) (N := 7) hx hb hk i_World t_World t_World_ok n_World hown hK hP hD hS 0 rfl rfl 2 (by decide) (hk _ kl_World_81) (fun _ h9 => h9) rfl (by decide +kernel) rfl rfl (Nat.le_of_ble_eq_true rfl) d_World_write_26 (fun H locs hP hD hS => ?_)
    have hP : va_P D classes (W4 cI q qn qv qs (sWr w ((gWr w) + (1 : Int32)))) H := hP
    have hD : va_D A (W4 cI q qn qv qs (sWr w ((gWr w) + (1 : Int32)))) := hD
    refine lv_iload_n hx hb d_World_write_29 rfl (lv_at hl 1 rfl) ?_
    obtain ⟨rfl, rfl⟩ : z1 = (sWr w ((gWr w) + (1 : Int32))) ∧ z2 = n := Prod.mk.inj (hres.symm.trans ((if_pos c_6).trans rfl))
    exact CM_iret hx hb hr hlocks hP hK hD hS d_World_write_30
  · refine lv_aload_n hx hb d_World_write_9 rfl (lv_at hl 0 rfl) ?_
    refine va_get (D := D) (ci := 0) (v := .ref qn) (C := R_World) (T := F_World) (N := 7) hx hb hk i_World hown hK hP 0 rfl rfl 1 (by decide) (hk _ kl_World_11) (fun _ h9 => h9) rfl d_World_write_10 ?_
    refine lv_aload_n hx hb d_World_write_13 rfl (lv_at hl 0 rfl) ?_
    refine va_get (D := D) (ci := 0) (v := .int (gWr w)) (C := R_World) (T := F_World) (N := 7) hx hb hk i_World hown hK hP 0 rfl rfl 2 (by decide) (hk _ kl_World_81) (fun _ h9 => h9) rfl d_World_write_14 ?_
    refine lv_iload_n hx hb d_World_write_17 rfl (lv_at hl 1 rfl) ?_
    refine va_iast hx hb hK hP hD hS 1 0 rfl rfl (ok_in ho c_6) d_World_write_18 (fun H locs hP hD hS => ?_)
    have hP : va_P D classes (W4 cI q qn qv qs (sNo w (upd ((gNo w)) (gWr w).toNatClampNeg n))) H := hP
    have hD : va_D A (W4 cI q qn qv qs (sNo w (upd ((gNo w)) (gWr w).toNatClampNeg n))) := hD
    refine lv_aload_n hx hb d_World_write_19 rfl (lv_at hl 0 rfl) ?_
    refine lv_dup hx hb d_World_write_20 rfl ?_
    refine va_get (D := D) (ci := 0) (v := .int (gWr (sNo w (upd ((gNo w)) (gWr w).toNatClampNeg n)))) (C := R_World) (T := F_World) (N := 7) hx hb hk i_World hown hK hP 0 rfl rfl 2 (by decide) (hk _ kl_World_81) (fun _ h9 => h9) rfl d_World_write_21 ?_
    refine lv_iconst (v := (1 : Int32)) hx hb d_World_write_24 (by decide) ?_
    refine lv_iadd hx hb d_World_write_25 ?_
    refine va_put (D := D) (ci := 0) (v := .int ((gWr (sNo w (upd ((gNo w)) (gWr w).toNatClampNeg n))) + (1 : Int32))) (ty := .int) (C := R_World) (T := F_World) (N := 7) hx hb hk i_World t_World t_World_ok n_World hown hK hP hD hS 0 rfl rfl 2 (by decide) (hk _ kl_World_81) (fun _ h9 => h9) rfl (by decide +kernel) rfl rfl (Nat.le_of_ble_eq_true rfl) d_World_write_26 (fun H locs hP hD hS => ?_)
    have hP : va_P D classes (W4 cI q qn qv qs (sWr (sNo w (upd ((gNo w)) (gWr w).toNatClampNeg n)) ((gWr (sNo w (upd ((gNo w)) (gWr w).toNatClampNeg n))) + (1 : Int32)))) H := hP
    have hD : va_D A (W4 cI q qn qv qs (sWr (sNo w (upd ((gNo w)) (gWr w).toNatClampNeg n)) ((gWr (sNo w (upd ((gNo w)) (gWr w).toNatClampNeg n))) + (1 : Int32)))) := hD
    refine lv_iload_n hx hb d_World_write_29 rfl (lv_at hl 1 rfl) ?_
    obtain ⟨rfl, rfl⟩ : z1 = (sWr (sNo w (upd ((gNo w)) (gWr w).toNatClampNeg n)) ((gWr (sNo w (upd ((gNo w)) (gWr w).toNatClampNeg n))) + (1 : Int32))) ∧ z2 = n := Prod.mk.inj (hres.symm.trans ((if_neg c_6).trans rfl))
    exact CM_iret hx hb hr hlocks hP hK hD hS d_World_write_30
set_option maxHeartbeats 4000000 in
set_option maxRecDepth 100000 in
theorem c_World_isKept (l : Launch) (D : va_G) (cI cW : ClassId) (q qn qv qs : Nat)   (i : Int32) (w : MW)  (res : Int32) (hres : m_World_isKept i w = res) : CM l y_World_isKept b_World_isKept 2 .boolean ({ frames := 0, cells := 0, slots := 0, locals := 0 }) D (tyC cI cW) [.ref q, .int i] (W4 cI q qn qv qs w) res (W4 cI q qn qv qs w) := by
  refine CM_mk (by decide) (Nat.le_of_ble_eq_true rfl) ?_
  intro p e s m args below meth c A ls hx hb hr hml hown hk hlocks hA hSt hK hP hD hS hl
  have hown : s.vm.findClass R_World = some m.cls := hown
  have hl : lv_has ls 2 [(0, .ref q), (1, .int i)] := hl
  refine lv_iload_n hx hb d_World_isKept_0 rfl (lv_at hl 1 rfl) ?_
  refine lv_if_lt (tgt := 22) hx hb d_World_isKept_1 (by decide) (fun c_1 => ?_) (fun c_1 => ?_)
  · refine lv_iconst (v := (0 : Int32)) hx hb d_World_isKept_22 (by decide) ?_
    obtain rfl : res = (0 : Int32) := hres.symm.trans ((if_pos c_1).trans rfl)
    exact CM_zret hx hb hr hlocks rfl hP hK hD hS d_World_isKept_23
  · refine lv_iload_n hx hb d_World_isKept_4 rfl (lv_at hl 1 rfl) ?_
    refine lv_aload_n hx hb d_World_isKept_5 rfl (lv_at hl 0 rfl) ?_
    refine va_get (D := D) (ci := 0) (v := .int (gWr w)) (C := R_World) (T := F_World) (N := 7) hx hb hk i_World hown hK hP 0 rfl rfl 2 (by decide) (hk _ kl_World_81) (fun _ h9 => h9) rfl d_World_isKept_6 ?_
    refine lv_icmp_ge (tgt := 22) hx hb d_World_isKept_9 (by decide) (fun c_9 => ?_) (fun c_9 => ?_)
    · refine lv_iconst (v := (0 : Int32)) hx hb d_World_isKept_22 (by decide) ?_
      obtain rfl : res = (0 : Int32) := hres.symm.trans ((if_neg c_1).trans ((if_pos c_9).trans rfl))
      exact CM_zret hx hb hr hlocks rfl hP hK hD hS d_World_isKept_23
    · refine lv_iload_n hx hb d_World_isKept_12 rfl (lv_at hl 1 rfl) ?_
      refine lv_bipush (v := (64 : Int32)) hx hb d_World_isKept_13 (by decide) ?_
      refine lv_icmp_ge (tgt := 22) hx hb d_World_isKept_15 (by decide) (fun c_15 => ?_) (fun c_15 => ?_)
      · refine lv_iconst (v := (0 : Int32)) hx hb d_World_isKept_22 (by decide) ?_
        obtain rfl : res = (0 : Int32) := hres.symm.trans ((if_neg c_1).trans ((if_neg c_9).trans ((if_pos c_15).trans rfl)))
        exact CM_zret hx hb hr hlocks rfl hP hK hD hS d_World_isKept_23
      · refine lv_iconst (v := (1 : Int32)) hx hb d_World_isKept_18 (by decide) ?_
        refine lv_goto (tgt := 23) hx hb d_World_isKept_19 (by decide) ?_
        obtain rfl : res = (1 : Int32) := hres.symm.trans ((if_neg c_1).trans ((if_neg c_9).trans ((if_neg c_15).trans rfl)))
        exact CM_zret hx hb hr hlocks rfl hP hK hD hS d_World_isKept_23
set_option maxHeartbeats 4000000 in
set_option maxRecDepth 100000 in
theorem c_World_construct (l : Launch) (D : va_G) (cI cW : ClassId) (q qn qv qs : Nat)   (k : Int32) (w : MW) (ho : ok 4 w) (res : MW) (hres : m_World_construct k w = res) : CMv l y_World_construct b_World_construct 3 ({ frames := 1, cells := 0, slots := 0, locals := 21 }) D (tyC cI cW) [.ref q, .int k] (W4 cI q qn qv qs w) (W4 cI q qn qv qs res) := by
  refine CMv_mk (by decide) (Nat.le_of_ble_eq_true rfl) ?_
  intro p e s m args below meth c A ls hx hb hr hml hown hk hlocks hA hSt hK hP hD hS hl
  have hown : s.vm.findClass R_World = some m.cls := hown
  have hl : lv_has ls 3 [(0, .ref q), (1, .int k)] := hl
  refine lv_iload_n hx hb d_World_construct_0 rfl (lv_at hl 1 rfl) ?_
  refine lv_iconst (v := (1 : Int32)) hx hb d_World_construct_1 (by decide) ?_
  refine lv_icmp_eq (tgt := 10) hx hb d_World_construct_2 (by decide) (fun c_2 => ?_) (fun c_2 => ?_)
  · subst c_2
    refine lv_iconst (v := (1 : Int32)) hx hb d_World_construct_10 (by decide) ?_
    refine lv_goto (tgt := 15) hx hb d_World_construct_11 (by decide) ?_
    refine lv_istore_n (lv' := [(2, .int (1 : Int32)), (0, .ref q), (1, .int (1 : Int32))]) hx hb d_World_construct_15 rfl hl (by decide) rfl (fun ls hl => ?_)
    refine lv_iload_n hx hb d_World_construct_16 rfl (lv_at hl 0 rfl) ?_
    refine lv_if_ne (tgt := 30) hx hb d_World_construct_17 (by decide) (fun _ => ?_) (fun h9 => absurd h9 (by decide))
    refine lv_aload_n hx hb d_World_construct_30 rfl (lv_at hl 1 rfl) ?_
    refine lv_bipush (v := (20 : Int32)) hx hb d_World_construct_31 (by decide) ?_
    refine CM.callV (wc := W4 cI q qn qv qs w) (wr := []) (b := q) (av := [.int (20 : Int32)]) (rest := []) hx hb hml hown hk (c_World_write l D cI cW q qn qv qs (20 : Int32) w (ok_mono ho (by decide)) _ _ (pe2 _)) hK hP hD hS hA hSt hl.1 (va_recv hK hP (ci := 0) (q0 := 0) rfl rfl) d_World_construct_33 kc_World_write ki_World kl_World_65 kn_World_write kx_World_write (n := 1) rfl (by decide +kernel) ⟨Nat.le_of_ble_eq_true rfl, Nat.le_of_ble_eq_true rfl⟩ rfl rfl (Nat.le_of_ble_eq_true rfl) ⟨Nat.zero_le _, Nat.zero_le _⟩ (fun H locs hP hD hS => ?_)
    have hP : va_P D classes (W4 cI q qn qv qs ((m_World_write (20 : Int32) w).1)) H := hP
    have hD : va_D A (W4 cI q qn qv qs ((m_World_write (20 : Int32) w).1)) := hD
    refine lv_pop hx hb d_World_construct_36 rfl ?_
    refine lv_iload_n hx hb d_World_construct_37 rfl (lv_at hl 0 rfl) ?_
    refine lv_if_eq (tgt := 62) hx hb d_World_construct_38 (by decide) (fun h9 => absurd h9 (by decide)) (fun _ => ?_)
    refine lv_aload_n hx hb d_World_construct_41 rfl (lv_at hl 1 rfl) ?_
    refine lv_bipush (v := (21 : Int32)) hx hb d_World_construct_42 (by decide) ?_
    refine CM.callV (wc := W4 cI q qn qv qs ((m_World_write (20 : Int32) w).1)) (wr := []) (b := q) (av := [.int (21 : Int32)]) (rest := []) hx hb hml hown hk (c_World_write l D cI cW q qn qv qs (21 : Int32) ((m_World_write (20 : Int32) w).1) (ok_mono (ok_write ho) (by decide)) _ _ (pe2 _)) hK hP hD hS hA hSt hl.1 (va_recv hK hP (ci := 0) (q0 := 0) rfl rfl) d_World_construct_44 kc_World_write ki_World kl_World_65 kn_World_write kx_World_write (n := 1) rfl (by decide +kernel) ⟨Nat.le_of_ble_eq_true rfl, Nat.le_of_ble_eq_true rfl⟩ rfl rfl (Nat.le_of_ble_eq_true rfl) ⟨Nat.zero_le _, Nat.zero_le _⟩ (fun H locs hP hD hS => ?_)
    have hP : va_P D classes (W4 cI q qn qv qs ((m_World_write (21 : Int32) ((m_World_write (20 : Int32) w).1)).1)) H := hP
    have hD : va_D A (W4 cI q qn qv qs ((m_World_write (21 : Int32) ((m_World_write (20 : Int32) w).1)).1)) := hD
    refine lv_pop hx hb d_World_construct_47 rfl ?_
    refine lv_aload_n hx hb d_World_construct_48 rfl (lv_at hl 1 rfl) ?_
    refine lv_bipush (v := (22 : Int32)) hx hb d_World_construct_49 (by decide) ?_
    refine CM.callV (wc := W4 cI q qn qv qs ((m_World_write (21 : Int32) ((m_World_write (20 : Int32) w).1)).1)) (wr := []) (b := q) (av := [.int (22 : Int32)]) (rest := []) hx hb hml hown hk (c_World_write l D cI cW q qn qv qs (22 : Int32) ((m_World_write (21 : Int32) ((m_World_write (20 : Int32) w).1)).1) (ok_mono (ok_write (ok_write ho)) (by decide)) _ _ (pe2 _)) hK hP hD hS hA hSt hl.1 (va_recv hK hP (ci := 0) (q0 := 0) rfl rfl) d_World_construct_51 kc_World_write ki_World kl_World_65 kn_World_write kx_World_write (n := 1) rfl (by decide +kernel) ⟨Nat.le_of_ble_eq_true rfl, Nat.le_of_ble_eq_true rfl⟩ rfl rfl (Nat.le_of_ble_eq_true rfl) ⟨Nat.zero_le _, Nat.zero_le _⟩ (fun H locs hP hD hS => ?_)
    have hP : va_P D classes (W4 cI q qn qv qs ((m_World_write (22 : Int32) ((m_World_write (21 : Int32) ((m_World_write (20 : Int32) w).1)).1)).1)) H := hP
    have hD : va_D A (W4 cI q qn qv qs ((m_World_write (22 : Int32) ((m_World_write (21 : Int32) ((m_World_write (20 : Int32) w).1)).1)).1)) := hD
    refine lv_pop hx hb d_World_construct_54 rfl ?_
    refine lv_aload_n hx hb d_World_construct_55 rfl (lv_at hl 1 rfl) ?_
    refine lv_bipush (v := (23 : Int32)) hx hb d_World_construct_56 (by decide) ?_
    refine CM.callV (wc := W4 cI q qn qv qs ((m_World_write (22 : Int32) ((m_World_write (21 : Int32) ((m_World_write (20 : Int32) w).1)).1)).1)) (wr := []) (b := q) (av := [.int (23 : Int32)]) (rest := []) hx hb hml hown hk (c_World_write l D cI cW q qn qv qs (23 : Int32) ((m_World_write (22 : Int32) ((m_World_write (21 : Int32) ((m_World_write (20 : Int32) w).1)).1)).1) (ok_mono (ok_write (ok_write (ok_write ho))) (by decide)) _ _ (pe2 _)) hK hP hD hS hA hSt hl.1 (va_recv hK hP (ci := 0) (q0 := 0) rfl rfl) d_World_construct_58 kc_World_write ki_World kl_World_65 kn_World_write kx_World_write (n := 1) rfl (by decide +kernel) ⟨Nat.le_of_ble_eq_true rfl, Nat.le_of_ble_eq_true rfl⟩ rfl rfl (Nat.le_of_ble_eq_true rfl) ⟨Nat.zero_le _, Nat.zero_le _⟩ (fun H locs hP hD hS => ?_)
    have hP : va_P D classes (W4 cI q qn qv qs ((m_World_write (23 : Int32) ((m_World_write (22 : Int32) ((m_World_write (21 : Int32) ((m_World_write (20 : Int32) w).1)).1)).1)).1)) H := hP
    have hD : va_D A (W4 cI q qn qv qs ((m_World_write (23 : Int32) ((m_World_write (22 : Int32) ((m_World_write (21 : Int32) ((m_World_write (20 : Int32) w).1)).1)).1)).1)) := hD
    refine lv_pop hx hb d_World_construct_61 rfl ?_
    obtain rfl : res = (m_World_write (23 : Int32) ((m_World_write (22 : Int32) ((m_World_write (21 : Int32) ((m_World_write (20 : Int32) w).1)).1)).1)).1 := hres.symm.trans ((if_pos (by rfl)).trans rfl)
    exact CMv_ret hx hb hr hlocks hP hK hD hS d_World_construct_62
  · refine lv_iload_n hx hb d_World_construct_5 rfl (lv_at hl 1 rfl) ?_
    refine lv_iconst (v := (2 : Int32)) hx hb d_World_construct_6 (by decide) ?_
    refine lv_icmp_ne (tgt := 14) hx hb d_World_construct_7 (by decide) (fun c_7 => ?_) (fun c_7 => ?_)
    · refine lv_iconst (v := (0 : Int32)) hx hb d_World_construct_14 (by decide) ?_
      refine lv_istore_n (lv' := [(2, .int (0 : Int32)), (0, .ref q), (1, .int k)]) hx hb d_World_construct_15 rfl hl (by decide) rfl (fun ls hl => ?_)
      refine lv_iload_n hx hb d_World_construct_16 rfl (lv_at hl 0 rfl) ?_
      refine lv_if_ne (tgt := 30) hx hb d_World_construct_17 (by decide) (fun h9 => absurd (by decide) h9) (fun _ => ?_)
      refine lv_iload_n hx hb d_World_construct_20 rfl (lv_at hl 2 rfl) ?_
      refine lv_if_eq (tgt := 30) hx hb d_World_construct_21 (by decide) (fun c_21 => ?_) (fun c_21 => ?_)
      · subst c_21
        refine lv_aload_n hx hb d_World_construct_30 rfl (lv_at hl 1 rfl) ?_
        refine lv_bipush (v := (20 : Int32)) hx hb d_World_construct_31 (by decide) ?_
        refine CM.callV (wc := W4 cI q qn qv qs w) (wr := []) (b := q) (av := [.int (20 : Int32)]) (rest := []) hx hb hml hown hk (c_World_write l D cI cW q qn qv qs (20 : Int32) w (ok_mono ho (by decide)) _ _ (pe2 _)) hK hP hD hS hA hSt hl.1 (va_recv hK hP (ci := 0) (q0 := 0) rfl rfl) d_World_construct_33 kc_World_write ki_World kl_World_65 kn_World_write kx_World_write (n := 1) rfl (by decide +kernel) ⟨Nat.le_of_ble_eq_true rfl, Nat.le_of_ble_eq_true rfl⟩ rfl rfl (Nat.le_of_ble_eq_true rfl) ⟨Nat.zero_le _, Nat.zero_le _⟩ (fun H locs hP hD hS => ?_)
        have hP : va_P D classes (W4 cI q qn qv qs ((m_World_write (20 : Int32) w).1)) H := hP
        have hD : va_D A (W4 cI q qn qv qs ((m_World_write (20 : Int32) w).1)) := hD
        refine lv_pop hx hb d_World_construct_36 rfl ?_
        refine lv_iload_n hx hb d_World_construct_37 rfl (lv_at hl 0 rfl) ?_
        refine lv_if_eq (tgt := 62) hx hb d_World_construct_38 (by decide) (fun _ => ?_) (fun h9 => absurd (by decide) h9)
        obtain rfl : res = (m_World_write (20 : Int32) w).1 := hres.symm.trans ((if_neg c_2).trans ((if_neg c_7).trans ((if_pos (by rfl)).trans rfl)))
        exact CMv_ret hx hb hr hlocks hP hK hD hS d_World_construct_62
      · refine lv_iload_n hx hb d_World_construct_24 rfl (lv_at hl 2 rfl) ?_
        refine lv_bipush (v := (13 : Int32)) hx hb d_World_construct_25 (by decide) ?_
        refine lv_icmp_ne (tgt := 37) hx hb d_World_construct_27 (by decide) (fun c_27 => ?_) (fun c_27 => ?_)
        · refine lv_iload_n hx hb d_World_construct_37 rfl (lv_at hl 0 rfl) ?_
          refine lv_if_eq (tgt := 62) hx hb d_World_construct_38 (by decide) (fun _ => ?_) (fun h9 => absurd (by decide) h9)
          obtain rfl : res = w := hres.symm.trans ((if_neg c_2).trans ((if_neg c_7).trans ((if_neg c_21).trans ((if_neg c_27).trans rfl))))
          exact CMv_ret hx hb hr hlocks hP hK hD hS d_World_construct_62
        · subst c_27
          refine lv_aload_n hx hb d_World_construct_30 rfl (lv_at hl 1 rfl) ?_
          refine lv_bipush (v := (20 : Int32)) hx hb d_World_construct_31 (by decide) ?_
          refine CM.callV (wc := W4 cI q qn qv qs w) (wr := []) (b := q) (av := [.int (20 : Int32)]) (rest := []) hx hb hml hown hk (c_World_write l D cI cW q qn qv qs (20 : Int32) w (ok_mono ho (by decide)) _ _ (pe2 _)) hK hP hD hS hA hSt hl.1 (va_recv hK hP (ci := 0) (q0 := 0) rfl rfl) d_World_construct_33 kc_World_write ki_World kl_World_65 kn_World_write kx_World_write (n := 1) rfl (by decide +kernel) ⟨Nat.le_of_ble_eq_true rfl, Nat.le_of_ble_eq_true rfl⟩ rfl rfl (Nat.le_of_ble_eq_true rfl) ⟨Nat.zero_le _, Nat.zero_le _⟩ (fun H locs hP hD hS => ?_)
          have hP : va_P D classes (W4 cI q qn qv qs ((m_World_write (20 : Int32) w).1)) H := hP
          have hD : va_D A (W4 cI q qn qv qs ((m_World_write (20 : Int32) w).1)) := hD
          refine lv_pop hx hb d_World_construct_36 rfl ?_
          refine lv_iload_n hx hb d_World_construct_37 rfl (lv_at hl 0 rfl) ?_
          refine lv_if_eq (tgt := 62) hx hb d_World_construct_38 (by decide) (fun _ => ?_) (fun h9 => absurd (by decide) h9)
          obtain rfl : res = (m_World_write (20 : Int32) w).1 := hres.symm.trans ((if_neg c_2).trans ((if_neg c_7).trans ((if_neg c_21).trans ((if_pos (by rfl)).trans rfl))))
          exact CMv_ret hx hb hr hlocks hP hK hD hS d_World_construct_62
    · subst c_7
      refine lv_iconst (v := (1 : Int32)) hx hb d_World_construct_10 (by decide) ?_
      refine lv_goto (tgt := 15) hx hb d_World_construct_11 (by decide) ?_
      refine lv_istore_n (lv' := [(2, .int (1 : Int32)), (0, .ref q), (1, .int (2 : Int32))]) hx hb d_World_construct_15 rfl hl (by decide) rfl (fun ls hl => ?_)
      refine lv_iload_n hx hb d_World_construct_16 rfl (lv_at hl 0 rfl) ?_
      refine lv_if_ne (tgt := 30) hx hb d_World_construct_17 (by decide) (fun _ => ?_) (fun h9 => absurd h9 (by decide))
      refine lv_aload_n hx hb d_World_construct_30 rfl (lv_at hl 1 rfl) ?_
      refine lv_bipush (v := (20 : Int32)) hx hb d_World_construct_31 (by decide) ?_
      refine CM.callV (wc := W4 cI q qn qv qs w) (wr := []) (b := q) (av := [.int (20 : Int32)]) (rest := []) hx hb hml hown hk (c_World_write l D cI cW q qn qv qs (20 : Int32) w (ok_mono ho (by decide)) _ _ (pe2 _)) hK hP hD hS hA hSt hl.1 (va_recv hK hP (ci := 0) (q0 := 0) rfl rfl) d_World_construct_33 kc_World_write ki_World kl_World_65 kn_World_write kx_World_write (n := 1) rfl (by decide +kernel) ⟨Nat.le_of_ble_eq_true rfl, Nat.le_of_ble_eq_true rfl⟩ rfl rfl (Nat.le_of_ble_eq_true rfl) ⟨Nat.zero_le _, Nat.zero_le _⟩ (fun H locs hP hD hS => ?_)
      have hP : va_P D classes (W4 cI q qn qv qs ((m_World_write (20 : Int32) w).1)) H := hP
      have hD : va_D A (W4 cI q qn qv qs ((m_World_write (20 : Int32) w).1)) := hD
      refine lv_pop hx hb d_World_construct_36 rfl ?_
      refine lv_iload_n hx hb d_World_construct_37 rfl (lv_at hl 0 rfl) ?_
      refine lv_if_eq (tgt := 62) hx hb d_World_construct_38 (by decide) (fun h9 => absurd h9 (by decide)) (fun _ => ?_)
      refine lv_aload_n hx hb d_World_construct_41 rfl (lv_at hl 1 rfl) ?_
      refine lv_bipush (v := (21 : Int32)) hx hb d_World_construct_42 (by decide) ?_
      refine CM.callV (wc := W4 cI q qn qv qs ((m_World_write (20 : Int32) w).1)) (wr := []) (b := q) (av := [.int (21 : Int32)]) (rest := []) hx hb hml hown hk (c_World_write l D cI cW q qn qv qs (21 : Int32) ((m_World_write (20 : Int32) w).1) (ok_mono (ok_write ho) (by decide)) _ _ (pe2 _)) hK hP hD hS hA hSt hl.1 (va_recv hK hP (ci := 0) (q0 := 0) rfl rfl) d_World_construct_44 kc_World_write ki_World kl_World_65 kn_World_write kx_World_write (n := 1) rfl (by decide +kernel) ⟨Nat.le_of_ble_eq_true rfl, Nat.le_of_ble_eq_true rfl⟩ rfl rfl (Nat.le_of_ble_eq_true rfl) ⟨Nat.zero_le _, Nat.zero_le _⟩ (fun H locs hP hD hS => ?_)
      have hP : va_P D classes (W4 cI q qn qv qs ((m_World_write (21 : Int32) ((m_World_write (20 : Int32) w).1)).1)) H := hP
      have hD : va_D A (W4 cI q qn qv qs ((m_World_write (21 : Int32) ((m_World_write (20 : Int32) w).1)).1)) := hD
      refine lv_pop hx hb d_World_construct_47 rfl ?_
      refine lv_aload_n hx hb d_World_construct_48 rfl (lv_at hl 1 rfl) ?_
      refine lv_bipush (v := (22 : Int32)) hx hb d_World_construct_49 (by decide) ?_
      refine CM.callV (wc := W4 cI q qn qv qs ((m_World_write (21 : Int32) ((m_World_write (20 : Int32) w).1)).1)) (wr := []) (b := q) (av := [.int (22 : Int32)]) (rest := []) hx hb hml hown hk (c_World_write l D cI cW q qn qv qs (22 : Int32) ((m_World_write (21 : Int32) ((m_World_write (20 : Int32) w).1)).1) (ok_mono (ok_write (ok_write ho)) (by decide)) _ _ (pe2 _)) hK hP hD hS hA hSt hl.1 (va_recv hK hP (ci := 0) (q0 := 0) rfl rfl) d_World_construct_51 kc_World_write ki_World kl_World_65 kn_World_write kx_World_write (n := 1) rfl (by decide +kernel) ⟨Nat.le_of_ble_eq_true rfl, Nat.le_of_ble_eq_true rfl⟩ rfl rfl (Nat.le_of_ble_eq_true rfl) ⟨Nat.zero_le _, Nat.zero_le _⟩ (fun H locs hP hD hS => ?_)
      have hP : va_P D classes (W4 cI q qn qv qs ((m_World_write (22 : Int32) ((m_World_write (21 : Int32) ((m_World_write (20 : Int32) w).1)).1)).1)) H := hP
      have hD : va_D A (W4 cI q qn qv qs ((m_World_write (22 : Int32) ((m_World_write (21 : Int32) ((m_World_write (20 : Int32) w).1)).1)).1)) := hD
      refine lv_pop hx hb d_World_construct_54 rfl ?_
      refine lv_aload_n hx hb d_World_construct_55 rfl (lv_at hl 1 rfl) ?_
      refine lv_bipush (v := (23 : Int32)) hx hb d_World_construct_56 (by decide) ?_
      refine CM.callV (wc := W4 cI q qn qv qs ((m_World_write (22 : Int32) ((m_World_write (21 : Int32) ((m_World_write (20 : Int32) w).1)).1)).1)) (wr := []) (b := q) (av := [.int (23 : Int32)]) (rest := []) hx hb hml hown hk (c_World_write l D cI cW q qn qv qs (23 : Int32) ((m_World_write (22 : Int32) ((m_World_write (21 : Int32) ((m_World_write (20 : Int32) w).1)).1)).1) (ok_mono (ok_write (ok_write (ok_write ho))) (by decide)) _ _ (pe2 _)) hK hP hD hS hA hSt hl.1 (va_recv hK hP (ci := 0) (q0 := 0) rfl rfl) d_World_construct_58 kc_World_write ki_World kl_World_65 kn_World_write kx_World_write (n := 1) rfl (by decide +kernel) ⟨Nat.le_of_ble_eq_true rfl, Nat.le_of_ble_eq_true rfl⟩ rfl rfl (Nat.le_of_ble_eq_true rfl) ⟨Nat.zero_le _, Nat.zero_le _⟩ (fun H locs hP hD hS => ?_)
      have hP : va_P D classes (W4 cI q qn qv qs ((m_World_write (23 : Int32) ((m_World_write (22 : Int32) ((m_World_write (21 : Int32) ((m_World_write (20 : Int32) w).1)).1)).1)).1)) H := hP
      have hD : va_D A (W4 cI q qn qv qs ((m_World_write (23 : Int32) ((m_World_write (22 : Int32) ((m_World_write (21 : Int32) ((m_World_write (20 : Int32) w).1)).1)).1)).1)) := hD
      refine lv_pop hx hb d_World_construct_61 rfl ?_
      obtain rfl : res = (m_World_write (23 : Int32) ((m_World_write (22 : Int32) ((m_World_write (21 : Int32) ((m_World_write (20 : Int32) w).1)).1)).1)).1 := hres.symm.trans ((if_neg c_2).trans ((if_pos (by rfl)).trans rfl))
      exact CMv_ret hx hb hr hlocks hP hK hD hS d_World_construct_62
set_option maxHeartbeats 4000000 in
set_option maxRecDepth 100000 in
theorem c_World_onlyNote (l : Launch) (D : va_G) (cI cW : ClassId)   (k : Int32)  (res : Int32) (hres : m_World_onlyNote k = res) : CM l y_World_onlyNote b_World_onlyNote 1 .int ({ frames := 0, cells := 0, slots := 0, locals := 0 }) D (tyC cI cW) [.int k] ([]) res ([]) := by
  refine CM_mk (by decide) (Nat.le_of_ble_eq_true rfl) ?_
  intro p e s m args below meth c A ls hx hb hr hml hown hk hlocks hA hSt hK hP hD hS hl
  have hown : s.vm.findClass R_World = some m.cls := hown
  have hl : lv_has ls 1 [(0, .int k)] := hl
  refine lv_iload_n hx hb d_World_onlyNote_0 rfl (lv_at hl 0 rfl) ?_
  rcases Decidable.em (k = 3) with e_1_3 | e_1_3
  · subst e_1_3
    refine lv_tableIn (tgt := 56) hx hb d_World_onlyNote_1 (by decide) (by decide) rfl (by decide) ?_
    refine lv_iconst (v := (4 : Int32)) hx hb d_World_onlyNote_56 (by decide) ?_
    obtain rfl : res = (4 : Int32) := hres.symm.trans ((if_pos (by rfl)).trans rfl)
    exact CM_iret hx hb hr hlocks hP hK hD hS d_World_onlyNote_57
  rcases Decidable.em (k = 4) with e_1_4 | e_1_4
  · subst e_1_4
    refine lv_tableIn (tgt := 58) hx hb d_World_onlyNote_1 (by decide) (by decide) rfl (by decide) ?_
    refine lv_bipush (v := (15 : Int32)) hx hb d_World_onlyNote_58 (by decide) ?_
    obtain rfl : res = (15 : Int32) := hres.symm.trans ((if_neg e_1_3).trans ((if_pos (by rfl)).trans rfl))
    exact CM_iret hx hb hr hlocks hP hK hD hS d_World_onlyNote_60
  rcases Decidable.em (k = 5) with e_1_5 | e_1_5
  · subst e_1_5
    refine lv_tableIn (tgt := 61) hx hb d_World_onlyNote_1 (by decide) (by decide) rfl (by decide) ?_
    refine lv_iconst (v := (5 : Int32)) hx hb d_World_onlyNote_61 (by decide) ?_
    obtain rfl : res = (5 : Int32) := hres.symm.trans ((if_neg e_1_3).trans ((if_neg e_1_4).trans ((if_pos (by rfl)).trans rfl)))
    exact CM_iret hx hb hr hlocks hP hK hD hS d_World_onlyNote_62
  rcases Decidable.em (k = 6) with e_1_6 | e_1_6
  · subst e_1_6
    refine lv_tableIn (tgt := 63) hx hb d_World_onlyNote_1 (by decide) (by decide) rfl (by decide) ?_
    refine lv_bipush (v := (11 : Int32)) hx hb d_World_onlyNote_63 (by decide) ?_
    obtain rfl : res = (11 : Int32) := hres.symm.trans ((if_neg e_1_3).trans ((if_neg e_1_4).trans ((if_neg e_1_5).trans ((if_pos (by rfl)).trans rfl))))
    exact CM_iret hx hb hr hlocks hP hK hD hS d_World_onlyNote_65
  rcases Decidable.em (k = 7) with e_1_7 | e_1_7
  · subst e_1_7
    refine lv_tableIn (tgt := 66) hx hb d_World_onlyNote_1 (by decide) (by decide) rfl (by decide) ?_
    refine lv_bipush (v := (12 : Int32)) hx hb d_World_onlyNote_66 (by decide) ?_
    obtain rfl : res = (12 : Int32) := hres.symm.trans ((if_neg e_1_3).trans ((if_neg e_1_4).trans ((if_neg e_1_5).trans ((if_neg e_1_6).trans ((if_pos (by rfl)).trans rfl)))))
    exact CM_iret hx hb hr hlocks hP hK hD hS d_World_onlyNote_68
  rcases Decidable.em (k = 8) with e_1_8 | e_1_8
  · subst e_1_8
    refine lv_tableIn (tgt := 75) hx hb d_World_onlyNote_1 (by decide) (by decide) rfl (by decide) ?_
    refine lv_bipush (v := (19 : Int32)) hx hb d_World_onlyNote_75 (by decide) ?_
    obtain rfl : res = (19 : Int32) := hres.symm.trans ((if_neg e_1_3).trans ((if_neg e_1_4).trans ((if_neg e_1_5).trans ((if_neg e_1_6).trans ((if_neg e_1_7).trans ((if_pos (by rfl)).trans rfl))))))
    exact CM_iret hx hb hr hlocks hP hK hD hS d_World_onlyNote_77
  rcases Decidable.em (k = 9) with e_1_9 | e_1_9
  · subst e_1_9
    refine lv_tableIn (tgt := 69) hx hb d_World_onlyNote_1 (by decide) (by decide) rfl (by decide) ?_
    refine lv_bipush (v := (8 : Int32)) hx hb d_World_onlyNote_69 (by decide) ?_
    obtain rfl : res = (8 : Int32) := hres.symm.trans ((if_neg e_1_3).trans ((if_neg e_1_4).trans ((if_neg e_1_5).trans ((if_neg e_1_6).trans ((if_neg e_1_7).trans ((if_neg e_1_8).trans ((if_pos (by rfl)).trans rfl)))))))
    exact CM_iret hx hb hr hlocks hP hK hD hS d_World_onlyNote_71
  rcases Decidable.em (k = 10) with e_1_10 | e_1_10
  · subst e_1_10
    refine lv_tableIn (tgt := 75) hx hb d_World_onlyNote_1 (by decide) (by decide) rfl (by decide) ?_
    refine lv_bipush (v := (19 : Int32)) hx hb d_World_onlyNote_75 (by decide) ?_
    obtain rfl : res = (19 : Int32) := hres.symm.trans ((if_neg e_1_3).trans ((if_neg e_1_4).trans ((if_neg e_1_5).trans ((if_neg e_1_6).trans ((if_neg e_1_7).trans ((if_neg e_1_8).trans ((if_neg e_1_9).trans ((if_pos (by rfl)).trans rfl))))))))
    exact CM_iret hx hb hr hlocks hP hK hD hS d_World_onlyNote_77
  rcases Decidable.em (k = 11) with e_1_11 | e_1_11
  · subst e_1_11
    refine lv_tableIn (tgt := 75) hx hb d_World_onlyNote_1 (by decide) (by decide) rfl (by decide) ?_
    refine lv_bipush (v := (19 : Int32)) hx hb d_World_onlyNote_75 (by decide) ?_
    obtain rfl : res = (19 : Int32) := hres.symm.trans ((if_neg e_1_3).trans ((if_neg e_1_4).trans ((if_neg e_1_5).trans ((if_neg e_1_6).trans ((if_neg e_1_7).trans ((if_neg e_1_8).trans ((if_neg e_1_9).trans ((if_neg e_1_10).trans ((if_pos (by rfl)).trans rfl)))))))))
    exact CM_iret hx hb hr hlocks hP hK hD hS d_World_onlyNote_77
  rcases Decidable.em (k = 12) with e_1_12 | e_1_12
  · subst e_1_12
    refine lv_tableIn (tgt := 72) hx hb d_World_onlyNote_1 (by decide) (by decide) rfl (by decide) ?_
    refine lv_bipush (v := (13 : Int32)) hx hb d_World_onlyNote_72 (by decide) ?_
    obtain rfl : res = (13 : Int32) := hres.symm.trans ((if_neg e_1_3).trans ((if_neg e_1_4).trans ((if_neg e_1_5).trans ((if_neg e_1_6).trans ((if_neg e_1_7).trans ((if_neg e_1_8).trans ((if_neg e_1_9).trans ((if_neg e_1_10).trans ((if_neg e_1_11).trans ((if_pos (by rfl)).trans rfl))))))))))
    exact CM_iret hx hb hr hlocks hP hK hD hS d_World_onlyNote_74
  have ne_1_3 := lv_neT e_1_3 (a := 3) (by decide)
  have ne_1_4 := lv_neT e_1_4 (a := 4) (by decide)
  have ne_1_5 := lv_neT e_1_5 (a := 5) (by decide)
  have ne_1_6 := lv_neT e_1_6 (a := 6) (by decide)
  have ne_1_7 := lv_neT e_1_7 (a := 7) (by decide)
  have ne_1_8 := lv_neT e_1_8 (a := 8) (by decide)
  have ne_1_9 := lv_neT e_1_9 (a := 9) (by decide)
  have ne_1_10 := lv_neT e_1_10 (a := 10) (by decide)
  have ne_1_11 := lv_neT e_1_11 (a := 11) (by decide)
  have ne_1_12 := lv_neT e_1_12 (a := 12) (by decide)
  refine lv_tableOut (tgt := 75) hx hb d_World_onlyNote_1 (by omega) (by decide) ?_
  refine lv_bipush (v := (19 : Int32)) hx hb d_World_onlyNote_75 (by decide) ?_
  obtain rfl : res = (19 : Int32) := hres.symm.trans ((if_neg e_1_3).trans ((if_neg e_1_4).trans ((if_neg e_1_5).trans ((if_neg e_1_6).trans ((if_neg e_1_7).trans ((if_neg e_1_8).trans ((if_neg e_1_9).trans ((if_neg e_1_10).trans ((if_neg e_1_11).trans ((if_neg e_1_12).trans rfl))))))))))
  exact CM_iret hx hb hr hlocks hP hK hD hS d_World_onlyNote_77
set_option maxHeartbeats 4000000 in
set_option maxRecDepth 100000 in
theorem c_Acts_isThere (l : Launch) (D : va_G) (cI cW : ClassId)   (k : Int32)  (res : Int32) (hres : m_Acts_isThere k = res) : CM l y_Acts_isThere b_Acts_isThere 1 .boolean ({ frames := 0, cells := 0, slots := 0, locals := 0 }) D (tyC cI cW) [.int k] ([]) res ([]) := by
  refine CM_mk (by decide) (Nat.le_of_ble_eq_true rfl) ?_
  intro p e s m args below meth c A ls hx hb hr hml hown hk hlocks hA hSt hK hP hD hS hl
  have hown : s.vm.findClass R_Acts = some m.cls := hown
  have hl : lv_has ls 1 [(0, .int k)] := hl
  obtain ⟨t_ASKED, hZ_ASKED, hT_ASKED⟩ := hSt.ASKED
  refine lv_iload_n hx hb d_Acts_isThere_0 rfl (lv_at hl 0 rfl) ?_
  refine lv_if_lt (tgt := 16) hx hb d_Acts_isThere_1 (by decide) (fun c_1 => ?_) (fun c_1 => ?_)
  · refine lv_iconst (v := (0 : Int32)) hx hb d_Acts_isThere_16 (by decide) ?_
    obtain rfl : res = (0 : Int32) := hres.symm.trans ((if_pos c_1).trans rfl)
    exact CM_zret hx hb hr hlocks rfl hP hK hD hS d_Acts_isThere_17
  · refine lv_iload_n hx hb d_Acts_isThere_4 rfl (lv_at hl 0 rfl) ?_
    refine va_gets hx hb hZ_ASKED hS hown (hk _ kl_Acts_9) (fun _ h9 => h9) d_Acts_isThere_5 ?_
    refine va_tlen hx hb hT_ASKED hS (v := (30 : Int32)) (by decide) d_Acts_isThere_8 ?_
    refine lv_icmp_ge (tgt := 16) hx hb d_Acts_isThere_9 (by decide) (fun c_9 => ?_) (fun c_9 => ?_)
    · refine lv_iconst (v := (0 : Int32)) hx hb d_Acts_isThere_16 (by decide) ?_
      obtain rfl : res = (0 : Int32) := hres.symm.trans ((if_neg c_1).trans ((if_pos c_9).trans rfl))
      exact CM_zret hx hb hr hlocks rfl hP hK hD hS d_Acts_isThere_17
    · refine lv_iconst (v := (1 : Int32)) hx hb d_Acts_isThere_12 (by decide) ?_
      refine lv_goto (tgt := 17) hx hb d_Acts_isThere_13 (by decide) ?_
      obtain rfl : res = (1 : Int32) := hres.symm.trans ((if_neg c_1).trans ((if_neg c_9).trans rfl))
      exact CM_zret hx hb hr hlocks rfl hP hK hD hS d_Acts_isThere_17
set_option maxHeartbeats 4000000 in
set_option maxRecDepth 100000 in
theorem c_Acts_isOdd (l : Launch) (D : va_G) (cI cW : ClassId)   (k : Int32)  (res : Int32) (hres : m_Acts_isOdd k = res) : CM l y_Acts_isOdd b_Acts_isOdd 1 .boolean ({ frames := 0, cells := 0, slots := 0, locals := 0 }) D (tyC cI cW) [.int k] ([]) res ([]) := by
  refine CM_mk (by decide) (Nat.le_of_ble_eq_true rfl) ?_
  intro p e s m args below meth c A ls hx hb hr hml hown hk hlocks hA hSt hK hP hD hS hl
  have hown : s.vm.findClass R_Acts = some m.cls := hown
  have hl : lv_has ls 1 [(0, .int k)] := hl
  refine lv_iload_n hx hb d_Acts_isOdd_0 rfl (lv_at hl 0 rfl) ?_
  refine lv_iconst (v := (1 : Int32)) hx hb d_Acts_isOdd_1 (by decide) ?_
  refine lv_iand hx hb d_Acts_isOdd_2 ?_
  refine lv_iconst (v := (1 : Int32)) hx hb d_Acts_isOdd_3 (by decide) ?_
  refine lv_icmp_ne (tgt := 11) hx hb d_Acts_isOdd_4 (by decide) (fun c_4 => ?_) (fun c_4 => ?_)
  · refine lv_iconst (v := (0 : Int32)) hx hb d_Acts_isOdd_11 (by decide) ?_
    obtain rfl : res = (0 : Int32) := hres.symm.trans ((if_neg c_4).trans rfl)
    exact CM_zret hx hb hr hlocks rfl hP hK hD hS d_Acts_isOdd_12
  · refine lv_iconst (v := (1 : Int32)) hx hb d_Acts_isOdd_7 (by decide) ?_
    refine lv_goto (tgt := 12) hx hb d_Acts_isOdd_8 (by decide) ?_
    obtain rfl : res = (1 : Int32) := hres.symm.trans ((if_pos c_4).trans rfl)
    exact CM_zret hx hb hr hlocks rfl hP hK hD hS d_Acts_isOdd_12
set_option maxHeartbeats 4000000 in
set_option maxRecDepth 100000 in
theorem c_Acts_askedFirst (l : Launch) (D : va_G) (cI cW : ClassId)   (k : Int32) (a : Int32) (hin : vp_in k 30) (res : Int32) (hres : m_Acts_askedFirst k a = res) : CM l y_Acts_askedFirst b_Acts_askedFirst 3 .int ({ frames := 1, cells := 0, slots := 0, locals := 20 }) D (tyC cI cW) [.int k, .int a] ([]) res ([]) := by
  refine CM_mk (by decide) (Nat.le_of_ble_eq_true rfl) ?_
  intro p e s m args below meth c A ls hx hb hr hml hown hk hlocks hA hSt hK hP hD hS hl
  have hown : s.vm.findClass R_Acts = some m.cls := hown
  have hl : lv_has ls 3 [(0, .int k), (1, .int a)] := hl
  obtain ⟨t_ASKED, hZ_ASKED, hT_ASKED⟩ := hSt.ASKED
  refine lv_iload_n hx hb d_Acts_askedFirst_0 rfl (lv_at hl 0 rfl) ?_
  refine lv_bipush (v := (25 : Int32)) hx hb d_Acts_askedFirst_1 (by decide) ?_
  refine lv_icmp_ne (tgt := 17) hx hb d_Acts_askedFirst_3 (by decide) (fun c_3 => ?_) (fun c_3 => ?_)
  · refine lv_iconst (v := (0 : Int32)) hx hb d_Acts_askedFirst_17 (by decide) ?_
    refine lv_istore_n (lv' := [(2, .int (0 : Int32)), (0, .int k), (1, .int a)]) hx hb d_Acts_askedFirst_18 rfl hl (by decide) rfl (fun ls hl => ?_)
    refine lv_iload_n hx hb d_Acts_askedFirst_19 rfl (lv_at hl 0 rfl) ?_
    refine lv_if_eq (tgt := 27) hx hb d_Acts_askedFirst_20 (by decide) (fun _ => ?_) (fun h9 => absurd (by decide) h9)
    refine va_gets hx hb hZ_ASKED hS hown (hk _ kl_Acts_9) (fun _ h9 => h9) d_Acts_askedFirst_27 ?_
    refine lv_iload_n hx hb d_Acts_askedFirst_30 rfl (lv_at hl 1 rfl) ?_
    refine va_ti (v := .int (fASKED k.toNatClampNeg)) hx hb hT_ASKED hS hin rfl d_Acts_askedFirst_31 ?_
    obtain rfl : res = (fASKED k.toNatClampNeg) := hres.symm.trans ((if_neg c_3).trans rfl)
    exact CM_iret hx hb hr hlocks hP hK hD hS d_Acts_askedFirst_32
  · subst c_3
    refine lv_iload_n hx hb d_Acts_askedFirst_6 rfl (lv_at hl 1 rfl) ?_
    refine CM.callS (wc := []) (wr := []) (av := [.int a]) (rest := []) hx hb hml hown hk (c_Acts_isOdd l D cI cW a _ rfl) hK hP hD hS hA hSt hl.1 d_Acts_askedFirst_7 kc_Acts_isOdd ki_Acts kl_Acts_32 ks_Acts_isOdd (n := 1) rfl (by decide +kernel) ⟨Nat.le_of_ble_eq_true rfl, Nat.le_of_ble_eq_true rfl⟩ rfl rfl (Nat.le_of_ble_eq_true rfl) ⟨Nat.zero_le _, Nat.zero_le _⟩ (fun H locs hP hD hS => ?_)
    have hP : va_P D classes ([]) H := hP
    have hD : va_D A ([]) := hD
    refine lv_if_ne (tgt := 17) hx hb d_Acts_askedFirst_10 (by decide) (fun c_10 => ?_) (fun c_10 => ?_)
    · refine lv_iconst (v := (0 : Int32)) hx hb d_Acts_askedFirst_17 (by decide) ?_
      refine lv_istore_n (lv' := [(2, .int (0 : Int32)), (0, .int (25 : Int32)), (1, .int a)]) hx hb d_Acts_askedFirst_18 rfl hl (by decide) rfl (fun ls hl => ?_)
      refine lv_iload_n hx hb d_Acts_askedFirst_19 rfl (lv_at hl 0 rfl) ?_
      refine lv_if_eq (tgt := 27) hx hb d_Acts_askedFirst_20 (by decide) (fun _ => ?_) (fun h9 => absurd (by decide) h9)
      refine va_gets hx hb hZ_ASKED hS hown (hk _ kl_Acts_9) (fun _ h9 => h9) d_Acts_askedFirst_27 ?_
      refine lv_iload_n hx hb d_Acts_askedFirst_30 rfl (lv_at hl 1 rfl) ?_
      refine va_ti (v := .int (11 : Int32)) hx hb hT_ASKED hS (by unfold vp_in; decide) rfl d_Acts_askedFirst_31 ?_
      obtain rfl : res = (11 : Int32) := hres.symm.trans ((if_pos (by rfl)).trans ((if_neg c_10).trans rfl))
      exact CM_iret hx hb hr hlocks hP hK hD hS d_Acts_askedFirst_32
    · refine lv_iconst (v := (1 : Int32)) hx hb d_Acts_askedFirst_13 (by decide) ?_
      refine lv_goto (tgt := 18) hx hb d_Acts_askedFirst_14 (by decide) ?_
      refine lv_istore_n (lv' := [(2, .int (1 : Int32)), (0, .int (25 : Int32)), (1, .int a)]) hx hb d_Acts_askedFirst_18 rfl hl (by decide) rfl (fun ls hl => ?_)
      refine lv_iload_n hx hb d_Acts_askedFirst_19 rfl (lv_at hl 0 rfl) ?_
      refine lv_if_eq (tgt := 27) hx hb d_Acts_askedFirst_20 (by decide) (fun h9 => absurd h9 (by decide)) (fun _ => ?_)
      refine lv_iconst (v := (-1 : Int32)) hx hb d_Acts_askedFirst_23 (by decide) ?_
      refine lv_goto (tgt := 32) hx hb d_Acts_askedFirst_24 (by decide) ?_
      obtain rfl : res = (-1 : Int32) := hres.symm.trans ((if_pos (by rfl)).trans ((if_pos c_10).trans rfl))
      exact CM_iret hx hb hr hlocks hP hK hD hS d_Acts_askedFirst_32
set_option maxHeartbeats 4000000 in
set_option maxRecDepth 100000 in
theorem c_Acts_askedThen (l : Launch) (D : va_G) (cI cW : ClassId)   (k : Int32)  (res : Int32) (hres : m_Acts_askedThen k = res) : CM l y_Acts_askedThen b_Acts_askedThen 1 .int ({ frames := 0, cells := 0, slots := 0, locals := 0 }) D (tyC cI cW) [.int k] ([]) res ([]) := by
  refine CM_mk (by decide) (Nat.le_of_ble_eq_true rfl) ?_
  intro p e s m args below meth c A ls hx hb hr hml hown hk hlocks hA hSt hK hP hD hS hl
  have hown : s.vm.findClass R_Acts = some m.cls := hown
  have hl : lv_has ls 1 [(0, .int k)] := hl
  refine lv_iload_n hx hb d_Acts_askedThen_0 rfl (lv_at hl 0 rfl) ?_
  rcases Decidable.em (k = 9) with e_1_9 | e_1_9
  · subst e_1_9
    refine lv_lookup (off := 27) (tgt := 28) hx hb d_Acts_askedThen_1 (by decide) rfl (by decide) ?_
    refine lv_iconst (v := (3 : Int32)) hx hb d_Acts_askedThen_28 (by decide) ?_
    obtain rfl : res = (3 : Int32) := hres.symm.trans ((if_pos (by rfl)).trans rfl)
    exact CM_iret hx hb hr hlocks hP hK hD hS d_Acts_askedThen_29
  rcases Decidable.em (k = 18) with e_1_18 | e_1_18
  · subst e_1_18
    refine lv_lookup (off := 29) (tgt := 30) hx hb d_Acts_askedThen_1 (by decide) rfl (by decide) ?_
    refine lv_bipush (v := (13 : Int32)) hx hb d_Acts_askedThen_30 (by decide) ?_
    obtain rfl : res = (13 : Int32) := hres.symm.trans ((if_neg e_1_9).trans ((if_pos (by rfl)).trans rfl))
    exact CM_iret hx hb hr hlocks hP hK hD hS d_Acts_askedThen_32
  have ne_1_9 := lv_neT e_1_9 (a := 9) (by decide)
  have ne_1_18 := lv_neT e_1_18 (a := 18) (by decide)
  refine lv_lookup (off := 32) (tgt := 33) hx hb d_Acts_askedThen_1 (by decide) ((lv_osw e_1_9 (by decide)).trans ((lv_osw e_1_18 (by decide)).trans rfl)) (by decide) ?_
  refine lv_iconst (v := (-1 : Int32)) hx hb d_Acts_askedThen_33 (by decide) ?_
  obtain rfl : res = (-1 : Int32) := hres.symm.trans ((if_neg e_1_9).trans ((if_neg e_1_18).trans rfl))
  exact CM_iret hx hb hr hlocks hP hK hD hS d_Acts_askedThen_34
set_option maxHeartbeats 4000000 in
set_option maxRecDepth 100000 in
theorem c_Suite_isSlot (l : Launch) (D : va_G) (cI cW : ClassId)   (i : Int32)  (res : Int32) (hres : m_Suite_isSlot i = res) : CM l y_Suite_isSlot b_Suite_isSlot 1 .boolean ({ frames := 0, cells := 0, slots := 0, locals := 0 }) D (tyC cI cW) [.int i] ([]) res ([]) := by
  refine CM_mk (by decide) (Nat.le_of_ble_eq_true rfl) ?_
  intro p e s m args below meth c A ls hx hb hr hml hown hk hlocks hA hSt hK hP hD hS hl
  have hown : s.vm.findClass R_Suite = some m.cls := hown
  have hl : lv_has ls 1 [(0, .int i)] := hl
  refine lv_iload_n hx hb d_Suite_isSlot_0 rfl (lv_at hl 0 rfl) ?_
  refine lv_if_lt (tgt := 14) hx hb d_Suite_isSlot_1 (by decide) (fun c_1 => ?_) (fun c_1 => ?_)
  · refine lv_iconst (v := (0 : Int32)) hx hb d_Suite_isSlot_14 (by decide) ?_
    obtain rfl : res = (0 : Int32) := hres.symm.trans ((if_pos c_1).trans rfl)
    exact CM_zret hx hb hr hlocks rfl hP hK hD hS d_Suite_isSlot_15
  · refine lv_iload_n hx hb d_Suite_isSlot_4 rfl (lv_at hl 0 rfl) ?_
    refine lv_bipush (v := (6 : Int32)) hx hb d_Suite_isSlot_5 (by decide) ?_
    refine lv_icmp_ge (tgt := 14) hx hb d_Suite_isSlot_7 (by decide) (fun c_7 => ?_) (fun c_7 => ?_)
    · refine lv_iconst (v := (0 : Int32)) hx hb d_Suite_isSlot_14 (by decide) ?_
      obtain rfl : res = (0 : Int32) := hres.symm.trans ((if_neg c_1).trans ((if_pos c_7).trans rfl))
      exact CM_zret hx hb hr hlocks rfl hP hK hD hS d_Suite_isSlot_15
    · refine lv_iconst (v := (1 : Int32)) hx hb d_Suite_isSlot_10 (by decide) ?_
      refine lv_goto (tgt := 15) hx hb d_Suite_isSlot_11 (by decide) ?_
      obtain rfl : res = (1 : Int32) := hres.symm.trans ((if_neg c_1).trans ((if_neg c_7).trans rfl))
      exact CM_zret hx hb hr hlocks rfl hP hK hD hS d_Suite_isSlot_15
set_option maxHeartbeats 4000000 in
set_option maxRecDepth 100000 in
theorem c_Suite_isFilled (l : Launch) (D : va_G) (cI cW : ClassId) (x xa xk xw : Nat) (be : Int32) (wv : Value) (f : (Nat → Option Nat)) (sl : (Nat → Int32))  (i : Int32) (sk : (Nat → Int32))  (res : Int32) (hres : m_Suite_isFilled i sk = res) : CM l y_Suite_isFilled b_Suite_isFilled 2 .boolean ({ frames := 1, cells := 0, slots := 0, locals := 20 }) D (tyC cI cW) [.ref x, .int i] (S4 cI cW x xa xk xw be wv f sk sl) res (S4 cI cW x xa xk xw be wv f sk sl) := by
  refine CM_mk (by decide) (Nat.le_of_ble_eq_true rfl) ?_
  intro p e s m args below meth c A ls hx hb hr hml hown hk hlocks hA hSt hK hP hD hS hl
  have hown : s.vm.findClass R_Suite = some m.cls := hown
  have hl : lv_has ls 2 [(0, .ref x), (1, .int i)] := hl
  refine lv_iload_n hx hb d_Suite_isFilled_0 rfl (lv_at hl 1 rfl) ?_
  refine CM.callS (wc := []) (wr := S4 cI cW x xa xk xw be wv f sk sl) (av := [.int i]) (rest := []) hx hb hml hown hk (c_Suite_isSlot l D cI cW i _ rfl) hK hP hD hS hA hSt hl.1 d_Suite_isFilled_1 kc_Suite_isSlot ki_Suite kl_Suite_57 ks_Suite_isSlot (n := 1) rfl (by decide +kernel) ⟨Nat.le_of_ble_eq_true rfl, Nat.le_of_ble_eq_true rfl⟩ rfl rfl (Nat.le_of_ble_eq_true rfl) ⟨Nat.zero_le _, Nat.zero_le _⟩ (fun H locs hP hD hS => ?_)
  have hP : va_P D classes (S4 cI cW x xa xk xw be wv f sk sl) H := hP
  have hD : va_D A (S4 cI cW x xa xk xw be wv f sk sl) := hD
  refine lv_if_eq (tgt := 21) hx hb d_Suite_isFilled_4 (by decide) (fun c_4 => ?_) (fun c_4 => ?_)
  · refine lv_iconst (v := (0 : Int32)) hx hb d_Suite_isFilled_21 (by decide) ?_
    obtain rfl : res = (0 : Int32) := hres.symm.trans ((if_pos c_4).trans rfl)
    exact CM_zret hx hb hr hlocks rfl hP hK hD hS d_Suite_isFilled_22
  · refine lv_aload_n hx hb d_Suite_isFilled_7 rfl (lv_at hl 0 rfl) ?_
    refine va_get (D := D) (ci := 1) (v := .ref xk) (C := R_Suite) (T := F_Suite) (N := 5) hx hb hk i_Suite hown hK hP 0 rfl rfl 3 (by decide) (hk _ kl_Suite_15) (fun _ h9 => h9) rfl d_Suite_isFilled_8 ?_
    refine lv_iload_n hx hb d_Suite_isFilled_11 rfl (lv_at hl 1 rfl) ?_
    refine va_iald hx hb hK hP 2 0 rfl rfl (slot_in c_4) d_Suite_isFilled_12 ?_
    refine lv_iconst (v := (-1 : Int32)) hx hb d_Suite_isFilled_13 (by decide) ?_
    refine lv_icmp_eq (tgt := 21) hx hb d_Suite_isFilled_14 (by decide) (fun c_14 => ?_) (fun c_14 => ?_)
    · refine lv_iconst (v := (0 : Int32)) hx hb d_Suite_isFilled_21 (by decide) ?_
      obtain rfl : res = (0 : Int32) := hres.symm.trans ((if_neg c_4).trans ((if_pos c_14).trans rfl))
      exact CM_zret hx hb hr hlocks rfl hP hK hD hS d_Suite_isFilled_22
    · refine lv_iconst (v := (1 : Int32)) hx hb d_Suite_isFilled_17 (by decide) ?_
      refine lv_goto (tgt := 22) hx hb d_Suite_isFilled_18 (by decide) ?_
      obtain rfl : res = (1 : Int32) := hres.symm.trans ((if_neg c_4).trans ((if_neg c_14).trans rfl))
      exact CM_zret hx hb hr hlocks rfl hP hK hD hS d_Suite_isFilled_22

theorem c_grp (l : Launch) (D : va_G) (cI cW : ClassId) (q qn qv qs : Nat) : ∀ n : Nat, KAt l D cI cW q qn qv qs n (mG n).1 ∧ KAb l D cI cW q qn qv qs n (mG n).2.1 ∧ KIf l D cI cW q qn qv qs n (mG n).2.2.1 ∧ KDe l D cI cW q qn qv qs n (mG n).2.2.2.1 ∧ KAs l D cI cW q qn qv qs n (mG n).2.2.2.2 := by
  intro n
  induction n with
  | zero =>
    refine ⟨?_, ?_, ?_, ?_, ?_⟩ <;>
    · intro k dp w h
      have := h.2.1
      have := h.2.2.1
      omega
  | succ n ih =>
    obtain ⟨i1, i2, i3, i4, i5⟩ := ih
    obtain ⟨o1, o2, o3, o4, o5⟩ := okG n
    exact ⟨fun k dp w h => c_tAt l D cI cW q qn qv qs n _ _ k dp w i2 i4 o2 o4 h _ _ (pe2 _), fun k dp w h => c_tAb l D cI cW q qn qv qs n _ _ k dp w i1 i3 o1 o3 h _ _ (pe2 _), fun k dp w h => c_tIf l D cI cW q qn qv qs n _ _ k dp w i3 i1 o3 o1 h _ rfl, fun k dp w h => c_tDe l D cI cW q qn qv qs n _ k dp w i5 o5 h _ _ (pe2 _), fun k dp w h => c_tAs l D cI cW q qn qv qs n _ k dp w i1 o1 h _ _ (pe2 _)⟩
theorem c_At (l : Launch) (D : va_G) (cI cW : ClassId) (q qn qv qs : Nat) (k : Int32) (w : MW) (ho : ok 0 w) : CM l y_World_initialiseAt b_World_initialiseAt 4 .int (rmN 130) D (tyC cI cW) [.ref q, .int k, .int 0] (W4 cI q qn qv qs w) (mAt k w).2 (W4 cI q qn qv qs (mAt k w).1) :=
  (c_grp l D cI cW q qn qv qs 130).1 k 0 w ⟨by decide, by decide, by decide, ho⟩
set_option maxHeartbeats 4000000 in
set_option maxRecDepth 100000 in
theorem c_World_initialise (l : Launch) (D : va_G) (cI cW : ClassId) (q qn qv qs : Nat)   (k : Int32) (w : MW) (ho : ok 0 w) (z1 : MW) (z2 : Int32) (hres : m_World_initialise k w = (z1, z2)) : CM l y_World_initialise b_World_initialise 2 .int ({ frames := 131, cells := 0, slots := 0, locals := 5223 }) D (tyC cI cW) [.ref q, .int k] (W4 cI q qn qv qs w) z2 (W4 cI q qn qv qs z1) := by
  refine CM_mk (by decide) (Nat.le_of_ble_eq_true rfl) ?_
  intro p e s m args below meth c A ls hx hb hr hml hown hk hlocks hA hSt hK hP hD hS hl
  have hown : s.vm.findClass R_World = some m.cls := hown
  have hl : lv_has ls 2 [(0, .ref q), (1, .int k)] := hl
  refine lv_aload_n hx hb d_World_initialise_0 rfl (lv_at hl 0 rfl) ?_
  refine lv_iload_n hx hb d_World_initialise_1 rfl (lv_at hl 1 rfl) ?_
  refine lv_iconst (v := (0 : Int32)) hx hb d_World_initialise_2 (by decide) ?_
  refine CM.callV (wc := W4 cI q qn qv qs w) (wr := []) (b := q) (av := [.int k, .int (0 : Int32)]) (rest := []) hx hb hml hown hk (c_At l D cI cW q qn qv qs k w ho) hK hP hD hS hA hSt hl.1 (va_recv hK hP (ci := 0) (q0 := 0) rfl rfl) d_World_initialise_3 kc_World_initialiseAt ki_World kl_World_31 kn_World_initialiseAt kx_World_initialiseAt (n := 2) rfl (by decide +kernel) ⟨Nat.le_of_ble_eq_true rfl, Nat.le_of_ble_eq_true rfl⟩ rfl rfl (Nat.le_of_ble_eq_true rfl) ⟨Nat.zero_le _, Nat.zero_le _⟩ (fun H locs hP hD hS => ?_)
  have hP : va_P D classes (W4 cI q qn qv qs ((mAt k w).1)) H := hP
  have hD : va_D A (W4 cI q qn qv qs ((mAt k w).1)) := hD
  obtain ⟨rfl, rfl⟩ : z1 = (mAt k w).1 ∧ z2 = (mAt k w).2 := Prod.mk.inj (hres.symm.trans rfl)
  exact CM_iret hx hb hr hlocks hP hK hD hS d_World_initialise_6
set_option maxHeartbeats 4000000 in
set_option maxRecDepth 100000 in
theorem c_Acts_told (l : Launch) (D : va_G) (cI cW : ClassId) (q qn qv qs : Nat)   (k : Int32) (a : Int32) (w : MW) (hin : vp_in k 30) (ho : ok 4 w) (z1 : MW) (z2 : Int32) (hres : m_Acts_told k a w = (z1, z2)) : CM l y_Acts_told b_Acts_told 4 .int ({ frames := 2, cells := 0, slots := 0, locals := 43 }) D (tyC cI cW) [.ref q, .int k, .int a] (W4 cI q qn qv qs w) z2 (W4 cI q qn qv qs z1) := by
  refine CM_mk (by decide) (Nat.le_of_ble_eq_true rfl) ?_
  intro p e s m args below meth c A ls hx hb hr hml hown hk hlocks hA hSt hK hP hD hS hl
  have hown : s.vm.findClass R_Acts = some m.cls := hown
  have hl : lv_has ls 4 [(0, .ref q), (1, .int k), (2, .int a)] := hl
  obtain ⟨t_ASKED, hZ_ASKED, hT_ASKED⟩ := hSt.ASKED
  refine lv_aload_n hx hb d_Acts_told_0 rfl (lv_at hl 0 rfl) ?_
  refine va_get (D := D) (ci := 0) (v := .ref qv) (C := R_World) (T := F_World) (N := 7) hx hb hk i_World hown hK hP 0 rfl rfl 3 (by decide) (hk _ kl_Acts_38) (fun _ h9 => h9) rfl d_Acts_told_1 ?_
  refine lv_astore_n (lv' := [(3, .ref qv), (0, .ref q), (1, .int k), (2, .int a)]) hx hb d_Acts_told_4 rfl hl (by decide) rfl (fun ls hl => ?_)
  refine lv_iload_n hx hb d_Acts_told_5 rfl (lv_at hl 2 rfl) ?_
  rcases Decidable.em (k = 0) with e_6_0 | e_6_0
  · subst e_6_0
    refine lv_tableIn (tgt := 140) hx hb d_Acts_told_6 (by decide) (by decide) rfl (by decide) ?_
    refine lv_aload_n hx hb d_Acts_told_140 rfl (lv_at hl 0 rfl) ?_
    refine lv_iconst (v := (0 : Int32)) hx hb d_Acts_told_141 (by decide) ?_
    refine lv_dup2_11 hx hb d_Acts_told_142 rfl rfl ?_
    refine va_iald hx hb hK hP 2 0 rfl rfl (by unfold vp_in; decide) d_Acts_told_143 ?_
    refine lv_iload_n hx hb d_Acts_told_144 rfl (lv_at hl 3 rfl) ?_
    refine lv_iadd hx hb d_Acts_told_145 ?_
    refine va_iast hx hb hK hP hD hS 2 0 rfl rfl (by unfold vp_in; decide) d_Acts_told_146 (fun H locs hP hD hS => ?_)
    have hP : va_P D classes (W4 cI q qn qv qs (sVa w (upd ((gVa w)) (0 : Int32).toNatClampNeg (((gVa w) (0 : Int32).toNatClampNeg) + a)))) H := hP
    have hD : va_D A (W4 cI q qn qv qs (sVa w (upd ((gVa w)) (0 : Int32).toNatClampNeg (((gVa w) (0 : Int32).toNatClampNeg) + a)))) := hD
    refine lv_aload_n hx hb d_Acts_told_147 rfl (lv_at hl 0 rfl) ?_
    refine lv_iconst (v := (0 : Int32)) hx hb d_Acts_told_148 (by decide) ?_
    refine va_iald hx hb hK hP 2 0 rfl rfl (by unfold vp_in; decide) d_Acts_told_149 ?_
    obtain ⟨rfl, rfl⟩ : z1 = (sVa w (upd ((gVa w)) (0 : Int32).toNatClampNeg (((gVa w) (0 : Int32).toNatClampNeg) + a))) ∧ z2 = ((gVa (sVa w (upd ((gVa w)) (0 : Int32).toNatClampNeg (((gVa w) (0 : Int32).toNatClampNeg) + a)))) (0 : Int32).toNatClampNeg) := Prod.mk.inj (hres.symm.trans ((if_pos (by rfl)).trans rfl))
    exact CM_iret hx hb hr hlocks hP hK hD hS d_Acts_told_150
  rcases Decidable.em (k = 1) with e_6_1 | e_6_1
  · subst e_6_1
    refine lv_tableIn (tgt := 276) hx hb d_Acts_told_6 (by decide) (by decide) rfl (by decide) ?_
    refine lv_aload_n hx hb d_Acts_told_276 rfl (lv_at hl 0 rfl) ?_
    refine va_gets hx hb hZ_ASKED hS hown (hk _ kl_Acts_9) (fun _ h9 => h9) d_Acts_told_277 ?_
    refine lv_iload_n hx hb d_Acts_told_280 rfl (lv_at hl 2 rfl) ?_
    refine va_ti (v := .int (0 : Int32)) hx hb hT_ASKED hS (by unfold vp_in; decide) rfl d_Acts_told_281 ?_
    refine va_iald hx hb hK hP 2 0 rfl rfl (by unfold vp_in; decide) d_Acts_told_282 ?_
    obtain ⟨rfl, rfl⟩ : z1 = w ∧ z2 = ((gVa w) (0 : Int32).toNatClampNeg) := Prod.mk.inj (hres.symm.trans ((if_neg e_6_0).trans ((if_pos (by rfl)).trans rfl)))
    exact CM_iret hx hb hr hlocks hP hK hD hS d_Acts_told_283
  rcases Decidable.em (k = 2) with e_6_2 | e_6_2
  · subst e_6_2
    refine lv_tableIn (tgt := 151) hx hb d_Acts_told_6 (by decide) (by decide) rfl (by decide) ?_
    refine lv_aload_n hx hb d_Acts_told_151 rfl (lv_at hl 0 rfl) ?_
    refine lv_iconst (v := (1 : Int32)) hx hb d_Acts_told_152 (by decide) ?_
    refine lv_iload_n hx hb d_Acts_told_153 rfl (lv_at hl 3 rfl) ?_
    refine va_iast hx hb hK hP hD hS 2 0 rfl rfl (by unfold vp_in; decide) d_Acts_told_154 (fun H locs hP hD hS => ?_)
    have hP : va_P D classes (W4 cI q qn qv qs (sVa w (upd ((gVa w)) (1 : Int32).toNatClampNeg a))) H := hP
    have hD : va_D A (W4 cI q qn qv qs (sVa w (upd ((gVa w)) (1 : Int32).toNatClampNeg a))) := hD
    refine lv_iload_n hx hb d_Acts_told_155 rfl (lv_at hl 3 rfl) ?_
    obtain ⟨rfl, rfl⟩ : z1 = (sVa w (upd ((gVa w)) (1 : Int32).toNatClampNeg a)) ∧ z2 = a := Prod.mk.inj (hres.symm.trans ((if_neg e_6_0).trans ((if_neg e_6_1).trans ((if_pos (by rfl)).trans rfl))))
    exact CM_iret hx hb hr hlocks hP hK hD hS d_Acts_told_156
  rcases Decidable.em (k = 3) with e_6_3 | e_6_3
  · subst e_6_3
    refine lv_tableIn (tgt := 157) hx hb d_Acts_told_6 (by decide) (by decide) rfl (by decide) ?_
    refine lv_bipush (v := (70 : Int32)) hx hb d_Acts_told_157 (by decide) ?_
    obtain ⟨rfl, rfl⟩ : z1 = w ∧ z2 = (70 : Int32) := Prod.mk.inj (hres.symm.trans ((if_neg e_6_0).trans ((if_neg e_6_1).trans ((if_neg e_6_2).trans ((if_pos (by rfl)).trans rfl)))))
    exact CM_iret hx hb hr hlocks hP hK hD hS d_Acts_told_159
  rcases Decidable.em (k = 4) with e_6_4 | e_6_4
  · subst e_6_4
    refine lv_tableIn (tgt := 276) hx hb d_Acts_told_6 (by decide) (by decide) rfl (by decide) ?_
    refine lv_aload_n hx hb d_Acts_told_276 rfl (lv_at hl 0 rfl) ?_
    refine va_gets hx hb hZ_ASKED hS hown (hk _ kl_Acts_9) (fun _ h9 => h9) d_Acts_told_277 ?_
    refine lv_iload_n hx hb d_Acts_told_280 rfl (lv_at hl 2 rfl) ?_
    refine va_ti (v := .int (2 : Int32)) hx hb hT_ASKED hS (by unfold vp_in; decide) rfl d_Acts_told_281 ?_
    refine va_iald hx hb hK hP 2 0 rfl rfl (by unfold vp_in; decide) d_Acts_told_282 ?_
    obtain ⟨rfl, rfl⟩ : z1 = w ∧ z2 = ((gVa w) (2 : Int32).toNatClampNeg) := Prod.mk.inj (hres.symm.trans ((if_neg e_6_0).trans ((if_neg e_6_1).trans ((if_neg e_6_2).trans ((if_neg e_6_3).trans ((if_pos (by rfl)).trans rfl))))))
    exact CM_iret hx hb hr hlocks hP hK hD hS d_Acts_told_283
  rcases Decidable.em (k = 5) with e_6_5 | e_6_5
  · subst e_6_5
    refine lv_tableIn (tgt := 160) hx hb d_Acts_told_6 (by decide) (by decide) rfl (by decide) ?_
    refine lv_iconst (v := (5 : Int32)) hx hb d_Acts_told_160 (by decide) ?_
    obtain ⟨rfl, rfl⟩ : z1 = w ∧ z2 = (5 : Int32) := Prod.mk.inj (hres.symm.trans ((if_neg e_6_0).trans ((if_neg e_6_1).trans ((if_neg e_6_2).trans ((if_neg e_6_3).trans ((if_neg e_6_4).trans ((if_pos (by rfl)).trans rfl)))))))
    exact CM_iret hx hb hr hlocks hP hK hD hS d_Acts_told_161
  rcases Decidable.em (k = 6) with e_6_6 | e_6_6
  · subst e_6_6
    refine lv_tableIn (tgt := 162) hx hb d_Acts_told_6 (by decide) (by decide) rfl (by decide) ?_
    refine lv_iconst (v := (2 : Int32)) hx hb d_Acts_told_162 (by decide) ?_
    obtain ⟨rfl, rfl⟩ : z1 = w ∧ z2 = (2 : Int32) := Prod.mk.inj (hres.symm.trans ((if_neg e_6_0).trans ((if_neg e_6_1).trans ((if_neg e_6_2).trans ((if_neg e_6_3).trans ((if_neg e_6_4).trans ((if_neg e_6_5).trans ((if_pos (by rfl)).trans rfl))))))))
    exact CM_iret hx hb hr hlocks hP hK hD hS d_Acts_told_163
  rcases Decidable.em (k = 7) with e_6_7 | e_6_7
  · subst e_6_7
    refine lv_tableIn (tgt := 276) hx hb d_Acts_told_6 (by decide) (by decide) rfl (by decide) ?_
    refine lv_aload_n hx hb d_Acts_told_276 rfl (lv_at hl 0 rfl) ?_
    refine va_gets hx hb hZ_ASKED hS hown (hk _ kl_Acts_9) (fun _ h9 => h9) d_Acts_told_277 ?_
    refine lv_iload_n hx hb d_Acts_told_280 rfl (lv_at hl 2 rfl) ?_
    refine va_ti (v := .int (3 : Int32)) hx hb hT_ASKED hS (by unfold vp_in; decide) rfl d_Acts_told_281 ?_
    refine va_iald hx hb hK hP 2 0 rfl rfl (by unfold vp_in; decide) d_Acts_told_282 ?_
    obtain ⟨rfl, rfl⟩ : z1 = w ∧ z2 = ((gVa w) (3 : Int32).toNatClampNeg) := Prod.mk.inj (hres.symm.trans ((if_neg e_6_0).trans ((if_neg e_6_1).trans ((if_neg e_6_2).trans ((if_neg e_6_3).trans ((if_neg e_6_4).trans ((if_neg e_6_5).trans ((if_neg e_6_6).trans ((if_pos (by rfl)).trans rfl)))))))))
    exact CM_iret hx hb hr hlocks hP hK hD hS d_Acts_told_283
  rcases Decidable.em (k = 8) with e_6_8 | e_6_8
  · subst e_6_8
    refine lv_tableIn (tgt := 276) hx hb d_Acts_told_6 (by decide) (by decide) rfl (by decide) ?_
    refine lv_aload_n hx hb d_Acts_told_276 rfl (lv_at hl 0 rfl) ?_
    refine va_gets hx hb hZ_ASKED hS hown (hk _ kl_Acts_9) (fun _ h9 => h9) d_Acts_told_277 ?_
    refine lv_iload_n hx hb d_Acts_told_280 rfl (lv_at hl 2 rfl) ?_
    refine va_ti (v := .int (3 : Int32)) hx hb hT_ASKED hS (by unfold vp_in; decide) rfl d_Acts_told_281 ?_
    refine va_iald hx hb hK hP 2 0 rfl rfl (by unfold vp_in; decide) d_Acts_told_282 ?_
    obtain ⟨rfl, rfl⟩ : z1 = w ∧ z2 = ((gVa w) (3 : Int32).toNatClampNeg) := Prod.mk.inj (hres.symm.trans ((if_neg e_6_0).trans ((if_neg e_6_1).trans ((if_neg e_6_2).trans ((if_neg e_6_3).trans ((if_neg e_6_4).trans ((if_neg e_6_5).trans ((if_neg e_6_6).trans ((if_neg e_6_7).trans ((if_pos (by rfl)).trans rfl))))))))))
    exact CM_iret hx hb hr hlocks hP hK hD hS d_Acts_told_283
  rcases Decidable.em (k = 9) with e_6_9 | e_6_9
  · subst e_6_9
    refine lv_tableIn (tgt := 164) hx hb d_Acts_told_6 (by decide) (by decide) rfl (by decide) ?_
    refine lv_aload_n hx hb d_Acts_told_164 rfl (lv_at hl 0 rfl) ?_
    refine lv_iconst (v := (4 : Int32)) hx hb d_Acts_told_165 (by decide) ?_
    refine va_iald hx hb hK hP 2 0 rfl rfl (by unfold vp_in; decide) d_Acts_told_166 ?_
    refine lv_aload_n hx hb d_Acts_told_167 rfl (lv_at hl 0 rfl) ?_
    refine lv_iconst (v := (3 : Int32)) hx hb d_Acts_told_168 (by decide) ?_
    refine va_iald hx hb hK hP 2 0 rfl rfl (by unfold vp_in; decide) d_Acts_told_169 ?_
    refine lv_iadd hx hb d_Acts_told_170 ?_
    obtain ⟨rfl, rfl⟩ : z1 = w ∧ z2 = (((gVa w) (4 : Int32).toNatClampNeg) + ((gVa w) (3 : Int32).toNatClampNeg)) := Prod.mk.inj (hres.symm.trans ((if_neg e_6_0).trans ((if_neg e_6_1).trans ((if_neg e_6_2).trans ((if_neg e_6_3).trans ((if_neg e_6_4).trans ((if_neg e_6_5).trans ((if_neg e_6_6).trans ((if_neg e_6_7).trans ((if_neg e_6_8).trans ((if_pos (by rfl)).trans rfl)))))))))))
    exact CM_iret hx hb hr hlocks hP hK hD hS d_Acts_told_171
  rcases Decidable.em (k = 10) with e_6_10 | e_6_10
  · subst e_6_10
    refine lv_tableIn (tgt := 172) hx hb d_Acts_told_6 (by decide) (by decide) rfl (by decide) ?_
    refine lv_iconst (v := (1 : Int32)) hx hb d_Acts_told_172 (by decide) ?_
    obtain ⟨rfl, rfl⟩ : z1 = w ∧ z2 = (1 : Int32) := Prod.mk.inj (hres.symm.trans ((if_neg e_6_0).trans ((if_neg e_6_1).trans ((if_neg e_6_2).trans ((if_neg e_6_3).trans ((if_neg e_6_4).trans ((if_neg e_6_5).trans ((if_neg e_6_6).trans ((if_neg e_6_7).trans ((if_neg e_6_8).trans ((if_neg e_6_9).trans ((if_pos (by rfl)).trans rfl))))))))))))
    exact CM_iret hx hb hr hlocks hP hK hD hS d_Acts_told_173
  rcases Decidable.em (k = 11) with e_6_11 | e_6_11
  · subst e_6_11
    refine lv_tableIn (tgt := 276) hx hb d_Acts_told_6 (by decide) (by decide) rfl (by decide) ?_
    refine lv_aload_n hx hb d_Acts_told_276 rfl (lv_at hl 0 rfl) ?_
    refine va_gets hx hb hZ_ASKED hS hown (hk _ kl_Acts_9) (fun _ h9 => h9) d_Acts_told_277 ?_
    refine lv_iload_n hx hb d_Acts_told_280 rfl (lv_at hl 2 rfl) ?_
    refine va_ti (v := .int (6 : Int32)) hx hb hT_ASKED hS (by unfold vp_in; decide) rfl d_Acts_told_281 ?_
    refine va_iald hx hb hK hP 2 0 rfl rfl (by unfold vp_in; decide) d_Acts_told_282 ?_
    obtain ⟨rfl, rfl⟩ : z1 = w ∧ z2 = ((gVa w) (6 : Int32).toNatClampNeg) := Prod.mk.inj (hres.symm.trans ((if_neg e_6_0).trans ((if_neg e_6_1).trans ((if_neg e_6_2).trans ((if_neg e_6_3).trans ((if_neg e_6_4).trans ((if_neg e_6_5).trans ((if_neg e_6_6).trans ((if_neg e_6_7).trans ((if_neg e_6_8).trans ((if_neg e_6_9).trans ((if_neg e_6_10).trans ((if_pos (by rfl)).trans rfl)))))))))))))
    exact CM_iret hx hb hr hlocks hP hK hD hS d_Acts_told_283
  rcases Decidable.em (k = 12) with e_6_12 | e_6_12
  · subst e_6_12
    refine lv_tableIn (tgt := 276) hx hb d_Acts_told_6 (by decide) (by decide) rfl (by decide) ?_
    refine lv_aload_n hx hb d_Acts_told_276 rfl (lv_at hl 0 rfl) ?_
    refine va_gets hx hb hZ_ASKED hS hown (hk _ kl_Acts_9) (fun _ h9 => h9) d_Acts_told_277 ?_
    refine lv_iload_n hx hb d_Acts_told_280 rfl (lv_at hl 2 rfl) ?_
    refine va_ti (v := .int (8 : Int32)) hx hb hT_ASKED hS (by unfold vp_in; decide) rfl d_Acts_told_281 ?_
    refine va_iald hx hb hK hP 2 0 rfl rfl (by unfold vp_in; decide) d_Acts_told_282 ?_
    obtain ⟨rfl, rfl⟩ : z1 = w ∧ z2 = ((gVa w) (8 : Int32).toNatClampNeg) := Prod.mk.inj (hres.symm.trans ((if_neg e_6_0).trans ((if_neg e_6_1).trans ((if_neg e_6_2).trans ((if_neg e_6_3).trans ((if_neg e_6_4).trans ((if_neg e_6_5).trans ((if_neg e_6_6).trans ((if_neg e_6_7).trans ((if_neg e_6_8).trans ((if_neg e_6_9).trans ((if_neg e_6_10).trans ((if_neg e_6_11).trans ((if_pos (by rfl)).trans rfl))))))))))))))
    exact CM_iret hx hb hr hlocks hP hK hD hS d_Acts_told_283
  rcases Decidable.em (k = 13) with e_6_13 | e_6_13
  · subst e_6_13
    refine lv_tableIn (tgt := 174) hx hb d_Acts_told_6 (by decide) (by decide) rfl (by decide) ?_
    refine lv_bipush (v := (71 : Int32)) hx hb d_Acts_told_174 (by decide) ?_
    obtain ⟨rfl, rfl⟩ : z1 = w ∧ z2 = (71 : Int32) := Prod.mk.inj (hres.symm.trans ((if_neg e_6_0).trans ((if_neg e_6_1).trans ((if_neg e_6_2).trans ((if_neg e_6_3).trans ((if_neg e_6_4).trans ((if_neg e_6_5).trans ((if_neg e_6_6).trans ((if_neg e_6_7).trans ((if_neg e_6_8).trans ((if_neg e_6_9).trans ((if_neg e_6_10).trans ((if_neg e_6_11).trans ((if_neg e_6_12).trans ((if_pos (by rfl)).trans rfl)))))))))))))))
    exact CM_iret hx hb hr hlocks hP hK hD hS d_Acts_told_176
  rcases Decidable.em (k = 14) with e_6_14 | e_6_14
  · subst e_6_14
    refine lv_tableIn (tgt := 276) hx hb d_Acts_told_6 (by decide) (by decide) rfl (by decide) ?_
    refine lv_aload_n hx hb d_Acts_told_276 rfl (lv_at hl 0 rfl) ?_
    refine va_gets hx hb hZ_ASKED hS hown (hk _ kl_Acts_9) (fun _ h9 => h9) d_Acts_told_277 ?_
    refine lv_iload_n hx hb d_Acts_told_280 rfl (lv_at hl 2 rfl) ?_
    refine va_ti (v := .int (9 : Int32)) hx hb hT_ASKED hS (by unfold vp_in; decide) rfl d_Acts_told_281 ?_
    refine va_iald hx hb hK hP 2 0 rfl rfl (by unfold vp_in; decide) d_Acts_told_282 ?_
    obtain ⟨rfl, rfl⟩ : z1 = w ∧ z2 = ((gVa w) (9 : Int32).toNatClampNeg) := Prod.mk.inj (hres.symm.trans ((if_neg e_6_0).trans ((if_neg e_6_1).trans ((if_neg e_6_2).trans ((if_neg e_6_3).trans ((if_neg e_6_4).trans ((if_neg e_6_5).trans ((if_neg e_6_6).trans ((if_neg e_6_7).trans ((if_neg e_6_8).trans ((if_neg e_6_9).trans ((if_neg e_6_10).trans ((if_neg e_6_11).trans ((if_neg e_6_12).trans ((if_neg e_6_13).trans ((if_pos (by rfl)).trans rfl))))))))))))))))
    exact CM_iret hx hb hr hlocks hP hK hD hS d_Acts_told_283
  rcases Decidable.em (k = 15) with e_6_15 | e_6_15
  · subst e_6_15
    refine lv_tableIn (tgt := 177) hx hb d_Acts_told_6 (by decide) (by decide) rfl (by decide) ?_
    refine lv_iconst (v := (0 : Int32)) hx hb d_Acts_told_177 (by decide) ?_
    obtain ⟨rfl, rfl⟩ : z1 = w ∧ z2 = (0 : Int32) := Prod.mk.inj (hres.symm.trans ((if_neg e_6_0).trans ((if_neg e_6_1).trans ((if_neg e_6_2).trans ((if_neg e_6_3).trans ((if_neg e_6_4).trans ((if_neg e_6_5).trans ((if_neg e_6_6).trans ((if_neg e_6_7).trans ((if_neg e_6_8).trans ((if_neg e_6_9).trans ((if_neg e_6_10).trans ((if_neg e_6_11).trans ((if_neg e_6_12).trans ((if_neg e_6_13).trans ((if_neg e_6_14).trans ((if_pos (by rfl)).trans rfl)))))))))))))))))
    exact CM_iret hx hb hr hlocks hP hK hD hS d_Acts_told_178
  rcases Decidable.em (k = 16) with e_6_16 | e_6_16
  · subst e_6_16
    refine lv_tableIn (tgt := 276) hx hb d_Acts_told_6 (by decide) (by decide) rfl (by decide) ?_
    refine lv_aload_n hx hb d_Acts_told_276 rfl (lv_at hl 0 rfl) ?_
    refine va_gets hx hb hZ_ASKED hS hown (hk _ kl_Acts_9) (fun _ h9 => h9) d_Acts_told_277 ?_
    refine lv_iload_n hx hb d_Acts_told_280 rfl (lv_at hl 2 rfl) ?_
    refine va_ti (v := .int (10 : Int32)) hx hb hT_ASKED hS (by unfold vp_in; decide) rfl d_Acts_told_281 ?_
    refine va_iald hx hb hK hP 2 0 rfl rfl (by unfold vp_in; decide) d_Acts_told_282 ?_
    obtain ⟨rfl, rfl⟩ : z1 = w ∧ z2 = ((gVa w) (10 : Int32).toNatClampNeg) := Prod.mk.inj (hres.symm.trans ((if_neg e_6_0).trans ((if_neg e_6_1).trans ((if_neg e_6_2).trans ((if_neg e_6_3).trans ((if_neg e_6_4).trans ((if_neg e_6_5).trans ((if_neg e_6_6).trans ((if_neg e_6_7).trans ((if_neg e_6_8).trans ((if_neg e_6_9).trans ((if_neg e_6_10).trans ((if_neg e_6_11).trans ((if_neg e_6_12).trans ((if_neg e_6_13).trans ((if_neg e_6_14).trans ((if_neg e_6_15).trans ((if_pos (by rfl)).trans rfl))))))))))))))))))
    exact CM_iret hx hb hr hlocks hP hK hD hS d_Acts_told_283
  rcases Decidable.em (k = 17) with e_6_17 | e_6_17
  · subst e_6_17
    refine lv_tableIn (tgt := 276) hx hb d_Acts_told_6 (by decide) (by decide) rfl (by decide) ?_
    refine lv_aload_n hx hb d_Acts_told_276 rfl (lv_at hl 0 rfl) ?_
    refine va_gets hx hb hZ_ASKED hS hown (hk _ kl_Acts_9) (fun _ h9 => h9) d_Acts_told_277 ?_
    refine lv_iload_n hx hb d_Acts_told_280 rfl (lv_at hl 2 rfl) ?_
    refine va_ti (v := .int (11 : Int32)) hx hb hT_ASKED hS (by unfold vp_in; decide) rfl d_Acts_told_281 ?_
    refine va_iald hx hb hK hP 2 0 rfl rfl (by unfold vp_in; decide) d_Acts_told_282 ?_
    obtain ⟨rfl, rfl⟩ : z1 = w ∧ z2 = ((gVa w) (11 : Int32).toNatClampNeg) := Prod.mk.inj (hres.symm.trans ((if_neg e_6_0).trans ((if_neg e_6_1).trans ((if_neg e_6_2).trans ((if_neg e_6_3).trans ((if_neg e_6_4).trans ((if_neg e_6_5).trans ((if_neg e_6_6).trans ((if_neg e_6_7).trans ((if_neg e_6_8).trans ((if_neg e_6_9).trans ((if_neg e_6_10).trans ((if_neg e_6_11).trans ((if_neg e_6_12).trans ((if_neg e_6_13).trans ((if_neg e_6_14).trans ((if_neg e_6_15).trans ((if_neg e_6_16).trans ((if_pos (by rfl)).trans rfl)))))))))))))))))))
    exact CM_iret hx hb hr hlocks hP hK hD hS d_Acts_told_283
  rcases Decidable.em (k = 18) with e_6_18 | e_6_18
  · subst e_6_18
    refine lv_tableIn (tgt := 179) hx hb d_Acts_told_6 (by decide) (by decide) rfl (by decide) ?_
    refine lv_bipush (v := (20 : Int32)) hx hb d_Acts_told_179 (by decide) ?_
    obtain ⟨rfl, rfl⟩ : z1 = w ∧ z2 = (20 : Int32) := Prod.mk.inj (hres.symm.trans ((if_neg e_6_0).trans ((if_neg e_6_1).trans ((if_neg e_6_2).trans ((if_neg e_6_3).trans ((if_neg e_6_4).trans ((if_neg e_6_5).trans ((if_neg e_6_6).trans ((if_neg e_6_7).trans ((if_neg e_6_8).trans ((if_neg e_6_9).trans ((if_neg e_6_10).trans ((if_neg e_6_11).trans ((if_neg e_6_12).trans ((if_neg e_6_13).trans ((if_neg e_6_14).trans ((if_neg e_6_15).trans ((if_neg e_6_16).trans ((if_neg e_6_17).trans ((if_pos (by rfl)).trans rfl))))))))))))))))))))
    exact CM_iret hx hb hr hlocks hP hK hD hS d_Acts_told_181
  rcases Decidable.em (k = 19) with e_6_19 | e_6_19
  · subst e_6_19
    refine lv_tableIn (tgt := 182) hx hb d_Acts_told_6 (by decide) (by decide) rfl (by decide) ?_
    refine lv_iload_n hx hb d_Acts_told_182 rfl (lv_at hl 3 rfl) ?_
    refine CM.callS (wc := []) (wr := W4 cI q qn qv qs w) (av := [.int a]) (rest := []) hx hb hml hown hk (c_Acts_isOdd l D cI cW a _ rfl) hK hP hD hS hA hSt hl.1 d_Acts_told_183 kc_Acts_isOdd ki_Acts kl_Acts_32 ks_Acts_isOdd (n := 1) rfl (by decide +kernel) ⟨Nat.le_of_ble_eq_true rfl, Nat.le_of_ble_eq_true rfl⟩ rfl rfl (Nat.le_of_ble_eq_true rfl) ⟨Nat.zero_le _, Nat.zero_le _⟩ (fun H locs hP hD hS => ?_)
    have hP : va_P D classes (W4 cI q qn qv qs w) H := hP
    have hD : va_D A (W4 cI q qn qv qs w) := hD
    refine lv_if_eq (tgt := 194) hx hb d_Acts_told_186 (by decide) (fun c_186 => ?_) (fun c_186 => ?_)
    · refine lv_iconst (v := (3 : Int32)) hx hb d_Acts_told_194 (by decide) ?_
      refine lv_aload_n hx hb d_Acts_told_195 rfl (lv_at hl 0 rfl) ?_
      refine lv_bipush (v := (14 : Int32)) hx hb d_Acts_told_196 (by decide) ?_
      refine va_iald hx hb hK hP 2 0 rfl rfl (by unfold vp_in; decide) d_Acts_told_198 ?_
      refine lv_iadd hx hb d_Acts_told_199 ?_
      obtain ⟨rfl, rfl⟩ : z1 = w ∧ z2 = ((3 : Int32) + ((gVa w) (14 : Int32).toNatClampNeg)) := Prod.mk.inj (hres.symm.trans ((if_neg e_6_0).trans ((if_neg e_6_1).trans ((if_neg e_6_2).trans ((if_neg e_6_3).trans ((if_neg e_6_4).trans ((if_neg e_6_5).trans ((if_neg e_6_6).trans ((if_neg e_6_7).trans ((if_neg e_6_8).trans ((if_neg e_6_9).trans ((if_neg e_6_10).trans ((if_neg e_6_11).trans ((if_neg e_6_12).trans ((if_neg e_6_13).trans ((if_neg e_6_14).trans ((if_neg e_6_15).trans ((if_neg e_6_16).trans ((if_neg e_6_17).trans ((if_neg e_6_18).trans ((if_pos (by rfl)).trans ((if_pos c_186).trans rfl))))))))))))))))))))))
      exact CM_iret hx hb hr hlocks hP hK hD hS d_Acts_told_200
    · refine lv_bipush (v := (18 : Int32)) hx hb d_Acts_told_189 (by decide) ?_
      refine lv_goto (tgt := 195) hx hb d_Acts_told_191 (by decide) ?_
      refine lv_aload_n hx hb d_Acts_told_195 rfl (lv_at hl 0 rfl) ?_
      refine lv_bipush (v := (14 : Int32)) hx hb d_Acts_told_196 (by decide) ?_
      refine va_iald hx hb hK hP 2 0 rfl rfl (by unfold vp_in; decide) d_Acts_told_198 ?_
      refine lv_iadd hx hb d_Acts_told_199 ?_
      obtain ⟨rfl, rfl⟩ : z1 = w ∧ z2 = ((18 : Int32) + ((gVa w) (14 : Int32).toNatClampNeg)) := Prod.mk.inj (hres.symm.trans ((if_neg e_6_0).trans ((if_neg e_6_1).trans ((if_neg e_6_2).trans ((if_neg e_6_3).trans ((if_neg e_6_4).trans ((if_neg e_6_5).trans ((if_neg e_6_6).trans ((if_neg e_6_7).trans ((if_neg e_6_8).trans ((if_neg e_6_9).trans ((if_neg e_6_10).trans ((if_neg e_6_11).trans ((if_neg e_6_12).trans ((if_neg e_6_13).trans ((if_neg e_6_14).trans ((if_neg e_6_15).trans ((if_neg e_6_16).trans ((if_neg e_6_17).trans ((if_neg e_6_18).trans ((if_pos (by rfl)).trans ((if_neg c_186).trans rfl))))))))))))))))))))))
      exact CM_iret hx hb hr hlocks hP hK hD hS d_Acts_told_200
  rcases Decidable.em (k = 20) with e_6_20 | e_6_20
  · subst e_6_20
    refine lv_tableIn (tgt := 201) hx hb d_Acts_told_6 (by decide) (by decide) rfl (by decide) ?_
    refine lv_iload_n hx hb d_Acts_told_201 rfl (lv_at hl 3 rfl) ?_
    refine CM.callS (wc := []) (wr := W4 cI q qn qv qs w) (av := [.int a]) (rest := []) hx hb hml hown hk (c_Acts_isOdd l D cI cW a _ rfl) hK hP hD hS hA hSt hl.1 d_Acts_told_202 kc_Acts_isOdd ki_Acts kl_Acts_32 ks_Acts_isOdd (n := 1) rfl (by decide +kernel) ⟨Nat.le_of_ble_eq_true rfl, Nat.le_of_ble_eq_true rfl⟩ rfl rfl (Nat.le_of_ble_eq_true rfl) ⟨Nat.zero_le _, Nat.zero_le _⟩ (fun H locs hP hD hS => ?_)
    have hP : va_P D classes (W4 cI q qn qv qs w) H := hP
    have hD : va_D A (W4 cI q qn qv qs w) := hD
    refine lv_if_eq (tgt := 212) hx hb d_Acts_told_205 (by decide) (fun c_205 => ?_) (fun c_205 => ?_)
    · refine lv_iconst (v := (0 : Int32)) hx hb d_Acts_told_212 (by decide) ?_
      obtain ⟨rfl, rfl⟩ : z1 = w ∧ z2 = (0 : Int32) := Prod.mk.inj (hres.symm.trans ((if_neg e_6_0).trans ((if_neg e_6_1).trans ((if_neg e_6_2).trans ((if_neg e_6_3).trans ((if_neg e_6_4).trans ((if_neg e_6_5).trans ((if_neg e_6_6).trans ((if_neg e_6_7).trans ((if_neg e_6_8).trans ((if_neg e_6_9).trans ((if_neg e_6_10).trans ((if_neg e_6_11).trans ((if_neg e_6_12).trans ((if_neg e_6_13).trans ((if_neg e_6_14).trans ((if_neg e_6_15).trans ((if_neg e_6_16).trans ((if_neg e_6_17).trans ((if_neg e_6_18).trans ((if_neg e_6_19).trans ((if_pos (by rfl)).trans ((if_pos c_205).trans rfl)))))))))))))))))))))))
      exact CM_iret hx hb hr hlocks hP hK hD hS d_Acts_told_213
    · refine lv_iconst (v := (1 : Int32)) hx hb d_Acts_told_208 (by decide) ?_
      refine lv_goto (tgt := 213) hx hb d_Acts_told_209 (by decide) ?_
      obtain ⟨rfl, rfl⟩ : z1 = w ∧ z2 = (1 : Int32) := Prod.mk.inj (hres.symm.trans ((if_neg e_6_0).trans ((if_neg e_6_1).trans ((if_neg e_6_2).trans ((if_neg e_6_3).trans ((if_neg e_6_4).trans ((if_neg e_6_5).trans ((if_neg e_6_6).trans ((if_neg e_6_7).trans ((if_neg e_6_8).trans ((if_neg e_6_9).trans ((if_neg e_6_10).trans ((if_neg e_6_11).trans ((if_neg e_6_12).trans ((if_neg e_6_13).trans ((if_neg e_6_14).trans ((if_neg e_6_15).trans ((if_neg e_6_16).trans ((if_neg e_6_17).trans ((if_neg e_6_18).trans ((if_neg e_6_19).trans ((if_pos (by rfl)).trans ((if_neg c_205).trans rfl)))))))))))))))))))))))
      exact CM_iret hx hb hr hlocks hP hK hD hS d_Acts_told_213
  rcases Decidable.em (k = 21) with e_6_21 | e_6_21
  · subst e_6_21
    refine lv_tableIn (tgt := 214) hx hb d_Acts_told_6 (by decide) (by decide) rfl (by decide) ?_
    refine lv_aload_n hx hb d_Acts_told_214 rfl (lv_at hl 1 rfl) ?_
    refine va_get (D := D) (ci := 0) (v := .int (bI (gSe w))) (C := R_World) (T := F_World) (N := 7) hx hb hk i_World hown hK hP 0 rfl rfl 6 (by decide) (hk _ kl_Acts_41) (fun _ h9 => h9) rfl d_Acts_told_215 ?_
    refine lv_if_eq (tgt := 230) hx hb d_Acts_told_218 (by decide) (fun c_218 => ?_) (fun c_218 => ?_)
    · refine lv_iload_n hx hb d_Acts_told_230 rfl (lv_at hl 3 rfl) ?_
      refine lv_sipush (v := (1000 : Int32)) hx hb d_Acts_told_231 (by decide) ?_
      refine lv_iadd hx hb d_Acts_told_234 ?_
      obtain ⟨rfl, rfl⟩ : z1 = w ∧ z2 = (a + (1000 : Int32)) := Prod.mk.inj (hres.symm.trans ((if_neg e_6_0).trans ((if_neg e_6_1).trans ((if_neg e_6_2).trans ((if_neg e_6_3).trans ((if_neg e_6_4).trans ((if_neg e_6_5).trans ((if_neg e_6_6).trans ((if_neg e_6_7).trans ((if_neg e_6_8).trans ((if_neg e_6_9).trans ((if_neg e_6_10).trans ((if_neg e_6_11).trans ((if_neg e_6_12).trans ((if_neg e_6_13).trans ((if_neg e_6_14).trans ((if_neg e_6_15).trans ((if_neg e_6_16).trans ((if_neg e_6_17).trans ((if_neg e_6_18).trans ((if_neg e_6_19).trans ((if_neg e_6_20).trans ((if_pos (by rfl)).trans ((if_pos c_218).trans rfl))))))))))))))))))))))))
      exact CM_iret hx hb hr hlocks hP hK hD hS d_Acts_told_235
    · refine lv_iload_n hx hb d_Acts_told_221 rfl (lv_at hl 3 rfl) ?_
      refine lv_if_gt (tgt := 230) hx hb d_Acts_told_222 (by decide) (fun c_222 => ?_) (fun c_222 => ?_)
      · refine lv_iload_n hx hb d_Acts_told_230 rfl (lv_at hl 3 rfl) ?_
        refine lv_sipush (v := (1000 : Int32)) hx hb d_Acts_told_231 (by decide) ?_
        refine lv_iadd hx hb d_Acts_told_234 ?_
        obtain ⟨rfl, rfl⟩ : z1 = w ∧ z2 = (a + (1000 : Int32)) := Prod.mk.inj (hres.symm.trans ((if_neg e_6_0).trans ((if_neg e_6_1).trans ((if_neg e_6_2).trans ((if_neg e_6_3).trans ((if_neg e_6_4).trans ((if_neg e_6_5).trans ((if_neg e_6_6).trans ((if_neg e_6_7).trans ((if_neg e_6_8).trans ((if_neg e_6_9).trans ((if_neg e_6_10).trans ((if_neg e_6_11).trans ((if_neg e_6_12).trans ((if_neg e_6_13).trans ((if_neg e_6_14).trans ((if_neg e_6_15).trans ((if_neg e_6_16).trans ((if_neg e_6_17).trans ((if_neg e_6_18).trans ((if_neg e_6_19).trans ((if_neg e_6_20).trans ((if_pos (by rfl)).trans ((if_neg c_218).trans ((if_pos c_222).trans rfl)))))))))))))))))))))))))
        exact CM_iret hx hb hr hlocks hP hK hD hS d_Acts_told_235
      · refine lv_bipush (v := (-103 : Int32)) hx hb d_Acts_told_225 (by decide) ?_
        refine lv_goto (tgt := 235) hx hb d_Acts_told_227 (by decide) ?_
        obtain ⟨rfl, rfl⟩ : z1 = w ∧ z2 = (-103 : Int32) := Prod.mk.inj (hres.symm.trans ((if_neg e_6_0).trans ((if_neg e_6_1).trans ((if_neg e_6_2).trans ((if_neg e_6_3).trans ((if_neg e_6_4).trans ((if_neg e_6_5).trans ((if_neg e_6_6).trans ((if_neg e_6_7).trans ((if_neg e_6_8).trans ((if_neg e_6_9).trans ((if_neg e_6_10).trans ((if_neg e_6_11).trans ((if_neg e_6_12).trans ((if_neg e_6_13).trans ((if_neg e_6_14).trans ((if_neg e_6_15).trans ((if_neg e_6_16).trans ((if_neg e_6_17).trans ((if_neg e_6_18).trans ((if_neg e_6_19).trans ((if_neg e_6_20).trans ((if_pos (by rfl)).trans ((if_neg c_218).trans ((if_neg c_222).trans rfl)))))))))))))))))))))))))
        exact CM_iret hx hb hr hlocks hP hK hD hS d_Acts_told_235
  rcases Decidable.em (k = 22) with e_6_22 | e_6_22
  · subst e_6_22
    refine lv_tableIn (tgt := 236) hx hb d_Acts_told_6 (by decide) (by decide) rfl (by decide) ?_
    refine lv_aload_n hx hb d_Acts_told_236 rfl (lv_at hl 0 rfl) ?_
    refine lv_bipush (v := (16 : Int32)) hx hb d_Acts_told_237 (by decide) ?_
    refine lv_dup2_11 hx hb d_Acts_told_239 rfl rfl ?_
    refine va_iald hx hb hK hP 2 0 rfl rfl (by unfold vp_in; decide) d_Acts_told_240 ?_
    refine lv_iload_n hx hb d_Acts_told_241 rfl (lv_at hl 3 rfl) ?_
    refine CM.callS (wc := []) (wr := W4 cI q qn qv qs w) (av := [.int a]) (rest := [.int ((gVa w) (16 : Int32).toNatClampNeg), .int (16 : Int32), .ref qv]) hx hb hml hown hk (c_Acts_isOdd l D cI cW a _ rfl) hK hP hD hS hA hSt hl.1 d_Acts_told_242 kc_Acts_isOdd ki_Acts kl_Acts_32 ks_Acts_isOdd (n := 1) rfl (by decide +kernel) ⟨Nat.le_of_ble_eq_true rfl, Nat.le_of_ble_eq_true rfl⟩ rfl rfl (Nat.le_of_ble_eq_true rfl) ⟨Nat.zero_le _, Nat.zero_le _⟩ (fun H locs hP hD hS => ?_)
    have hP : va_P D classes (W4 cI q qn qv qs w) H := hP
    have hD : va_D A (W4 cI q qn qv qs w) := hD
    refine lv_if_eq (tgt := 252) hx hb d_Acts_told_245 (by decide) (fun c_245 => ?_) (fun c_245 => ?_)
    · refine lv_iconst (v := (2 : Int32)) hx hb d_Acts_told_252 (by decide) ?_
      refine lv_iadd hx hb d_Acts_told_253 ?_
      refine va_iast hx hb hK hP hD hS 2 0 rfl rfl (by unfold vp_in; decide) d_Acts_told_254 (fun H locs hP hD hS => ?_)
      have hP : va_P D classes (W4 cI q qn qv qs (sVa w (upd ((gVa w)) (16 : Int32).toNatClampNeg (((gVa w) (16 : Int32).toNatClampNeg) + (2 : Int32))))) H := hP
      have hD : va_D A (W4 cI q qn qv qs (sVa w (upd ((gVa w)) (16 : Int32).toNatClampNeg (((gVa w) (16 : Int32).toNatClampNeg) + (2 : Int32))))) := hD
      refine lv_aload_n hx hb d_Acts_told_255 rfl (lv_at hl 0 rfl) ?_
      refine lv_bipush (v := (16 : Int32)) hx hb d_Acts_told_256 (by decide) ?_
      refine va_iald hx hb hK hP 2 0 rfl rfl (by unfold vp_in; decide) d_Acts_told_258 ?_
      obtain ⟨rfl, rfl⟩ : z1 = (sVa w (upd ((gVa w)) (16 : Int32).toNatClampNeg (((gVa w) (16 : Int32).toNatClampNeg) + (2 : Int32)))) ∧ z2 = ((gVa (sVa w (upd ((gVa w)) (16 : Int32).toNatClampNeg (((gVa w) (16 : Int32).toNatClampNeg) + (2 : Int32))))) (16 : Int32).toNatClampNeg) := Prod.mk.inj (hres.symm.trans ((if_neg e_6_0).trans ((if_neg e_6_1).trans ((if_neg e_6_2).trans ((if_neg e_6_3).trans ((if_neg e_6_4).trans ((if_neg e_6_5).trans ((if_neg e_6_6).trans ((if_neg e_6_7).trans ((if_neg e_6_8).trans ((if_neg e_6_9).trans ((if_neg e_6_10).trans ((if_neg e_6_11).trans ((if_neg e_6_12).trans ((if_neg e_6_13).trans ((if_neg e_6_14).trans ((if_neg e_6_15).trans ((if_neg e_6_16).trans ((if_neg e_6_17).trans ((if_neg e_6_18).trans ((if_neg e_6_19).trans ((if_neg e_6_20).trans ((if_neg e_6_21).trans ((if_pos (by rfl)).trans ((if_pos c_245).trans rfl)))))))))))))))))))))))))
      exact CM_iret hx hb hr hlocks hP hK hD hS d_Acts_told_259
    · refine lv_iconst (v := (3 : Int32)) hx hb d_Acts_told_248 (by decide) ?_
      refine lv_goto (tgt := 253) hx hb d_Acts_told_249 (by decide) ?_
      refine lv_iadd hx hb d_Acts_told_253 ?_
      refine va_iast hx hb hK hP hD hS 2 0 rfl rfl (by unfold vp_in; decide) d_Acts_told_254 (fun H locs hP hD hS => ?_)
      have hP : va_P D classes (W4 cI q qn qv qs (sVa w (upd ((gVa w)) (16 : Int32).toNatClampNeg (((gVa w) (16 : Int32).toNatClampNeg) + (3 : Int32))))) H := hP
      have hD : va_D A (W4 cI q qn qv qs (sVa w (upd ((gVa w)) (16 : Int32).toNatClampNeg (((gVa w) (16 : Int32).toNatClampNeg) + (3 : Int32))))) := hD
      refine lv_aload_n hx hb d_Acts_told_255 rfl (lv_at hl 0 rfl) ?_
      refine lv_bipush (v := (16 : Int32)) hx hb d_Acts_told_256 (by decide) ?_
      refine va_iald hx hb hK hP 2 0 rfl rfl (by unfold vp_in; decide) d_Acts_told_258 ?_
      obtain ⟨rfl, rfl⟩ : z1 = (sVa w (upd ((gVa w)) (16 : Int32).toNatClampNeg (((gVa w) (16 : Int32).toNatClampNeg) + (3 : Int32)))) ∧ z2 = ((gVa (sVa w (upd ((gVa w)) (16 : Int32).toNatClampNeg (((gVa w) (16 : Int32).toNatClampNeg) + (3 : Int32))))) (16 : Int32).toNatClampNeg) := Prod.mk.inj (hres.symm.trans ((if_neg e_6_0).trans ((if_neg e_6_1).trans ((if_neg e_6_2).trans ((if_neg e_6_3).trans ((if_neg e_6_4).trans ((if_neg e_6_5).trans ((if_neg e_6_6).trans ((if_neg e_6_7).trans ((if_neg e_6_8).trans ((if_neg e_6_9).trans ((if_neg e_6_10).trans ((if_neg e_6_11).trans ((if_neg e_6_12).trans ((if_neg e_6_13).trans ((if_neg e_6_14).trans ((if_neg e_6_15).trans ((if_neg e_6_16).trans ((if_neg e_6_17).trans ((if_neg e_6_18).trans ((if_neg e_6_19).trans ((if_neg e_6_20).trans ((if_neg e_6_21).trans ((if_pos (by rfl)).trans ((if_neg c_245).trans rfl)))))))))))))))))))))))))
      exact CM_iret hx hb hr hlocks hP hK hD hS d_Acts_told_259
  rcases Decidable.em (k = 23) with e_6_23 | e_6_23
  · subst e_6_23
    refine lv_tableIn (tgt := 260) hx hb d_Acts_told_6 (by decide) (by decide) rfl (by decide) ?_
    refine lv_bipush (v := (20 : Int32)) hx hb d_Acts_told_260 (by decide) ?_
    obtain ⟨rfl, rfl⟩ : z1 = w ∧ z2 = (20 : Int32) := Prod.mk.inj (hres.symm.trans ((if_neg e_6_0).trans ((if_neg e_6_1).trans ((if_neg e_6_2).trans ((if_neg e_6_3).trans ((if_neg e_6_4).trans ((if_neg e_6_5).trans ((if_neg e_6_6).trans ((if_neg e_6_7).trans ((if_neg e_6_8).trans ((if_neg e_6_9).trans ((if_neg e_6_10).trans ((if_neg e_6_11).trans ((if_neg e_6_12).trans ((if_neg e_6_13).trans ((if_neg e_6_14).trans ((if_neg e_6_15).trans ((if_neg e_6_16).trans ((if_neg e_6_17).trans ((if_neg e_6_18).trans ((if_neg e_6_19).trans ((if_neg e_6_20).trans ((if_neg e_6_21).trans ((if_neg e_6_22).trans ((if_pos (by rfl)).trans rfl)))))))))))))))))))))))))
    exact CM_iret hx hb hr hlocks hP hK hD hS d_Acts_told_262
  rcases Decidable.em (k = 24) with e_6_24 | e_6_24
  · subst e_6_24
    refine lv_tableIn (tgt := 276) hx hb d_Acts_told_6 (by decide) (by decide) rfl (by decide) ?_
    refine lv_aload_n hx hb d_Acts_told_276 rfl (lv_at hl 0 rfl) ?_
    refine va_gets hx hb hZ_ASKED hS hown (hk _ kl_Acts_9) (fun _ h9 => h9) d_Acts_told_277 ?_
    refine lv_iload_n hx hb d_Acts_told_280 rfl (lv_at hl 2 rfl) ?_
    refine va_ti (v := .int (1 : Int32)) hx hb hT_ASKED hS (by unfold vp_in; decide) rfl d_Acts_told_281 ?_
    refine va_iald hx hb hK hP 2 0 rfl rfl (by unfold vp_in; decide) d_Acts_told_282 ?_
    obtain ⟨rfl, rfl⟩ : z1 = w ∧ z2 = ((gVa w) (1 : Int32).toNatClampNeg) := Prod.mk.inj (hres.symm.trans ((if_neg e_6_0).trans ((if_neg e_6_1).trans ((if_neg e_6_2).trans ((if_neg e_6_3).trans ((if_neg e_6_4).trans ((if_neg e_6_5).trans ((if_neg e_6_6).trans ((if_neg e_6_7).trans ((if_neg e_6_8).trans ((if_neg e_6_9).trans ((if_neg e_6_10).trans ((if_neg e_6_11).trans ((if_neg e_6_12).trans ((if_neg e_6_13).trans ((if_neg e_6_14).trans ((if_neg e_6_15).trans ((if_neg e_6_16).trans ((if_neg e_6_17).trans ((if_neg e_6_18).trans ((if_neg e_6_19).trans ((if_neg e_6_20).trans ((if_neg e_6_21).trans ((if_neg e_6_22).trans ((if_neg e_6_23).trans ((if_pos (by rfl)).trans rfl))))))))))))))))))))))))))
    exact CM_iret hx hb hr hlocks hP hK hD hS d_Acts_told_283
  rcases Decidable.em (k = 25) with e_6_25 | e_6_25
  · subst e_6_25
    refine lv_tableIn (tgt := 263) hx hb d_Acts_told_6 (by decide) (by decide) rfl (by decide) ?_
    refine lv_bipush (v := (18 : Int32)) hx hb d_Acts_told_263 (by decide) ?_
    obtain ⟨rfl, rfl⟩ : z1 = w ∧ z2 = (18 : Int32) := Prod.mk.inj (hres.symm.trans ((if_neg e_6_0).trans ((if_neg e_6_1).trans ((if_neg e_6_2).trans ((if_neg e_6_3).trans ((if_neg e_6_4).trans ((if_neg e_6_5).trans ((if_neg e_6_6).trans ((if_neg e_6_7).trans ((if_neg e_6_8).trans ((if_neg e_6_9).trans ((if_neg e_6_10).trans ((if_neg e_6_11).trans ((if_neg e_6_12).trans ((if_neg e_6_13).trans ((if_neg e_6_14).trans ((if_neg e_6_15).trans ((if_neg e_6_16).trans ((if_neg e_6_17).trans ((if_neg e_6_18).trans ((if_neg e_6_19).trans ((if_neg e_6_20).trans ((if_neg e_6_21).trans ((if_neg e_6_22).trans ((if_neg e_6_23).trans ((if_neg e_6_24).trans ((if_pos (by rfl)).trans rfl)))))))))))))))))))))))))))
    exact CM_iret hx hb hr hlocks hP hK hD hS d_Acts_told_265
  rcases Decidable.em (k = 26) with e_6_26 | e_6_26
  · subst e_6_26
    refine lv_tableIn (tgt := 266) hx hb d_Acts_told_6 (by decide) (by decide) rfl (by decide) ?_
    refine lv_aload_n hx hb d_Acts_told_266 rfl (lv_at hl 1 rfl) ?_
    refine lv_iconst (v := (2 : Int32)) hx hb d_Acts_told_267 (by decide) ?_
    refine CMv.callV (wc := W4 cI q qn qv qs w) (wr := []) (b := q) (av := [.int (2 : Int32)]) (rest := []) hx hb hml hown hk (c_World_construct l D cI cW q qn qv qs (2 : Int32) w (ok_mono ho (by decide)) _ rfl) hK hP hD hS hA hSt hl.1 (va_recv hK hP (ci := 0) (q0 := 0) rfl rfl) d_Acts_told_268 kc_World_construct ki_World kl_Acts_45 kn_World_construct kx_World_construct (n := 1) rfl (by decide +kernel) ⟨Nat.le_of_ble_eq_true rfl, Nat.le_of_ble_eq_true rfl⟩ rfl rfl (Nat.le_of_ble_eq_true rfl) ⟨Nat.zero_le _, Nat.zero_le _⟩ (fun H locs hP hD hS => ?_)
    have hP : va_P D classes (W4 cI q qn qv qs (m_World_construct (2 : Int32) w)) H := hP
    have hD : va_D A (W4 cI q qn qv qs (m_World_construct (2 : Int32) w)) := hD
    refine lv_iconst (v := (1 : Int32)) hx hb d_Acts_told_271 (by decide) ?_
    obtain ⟨rfl, rfl⟩ : z1 = (m_World_construct (2 : Int32) w) ∧ z2 = (1 : Int32) := Prod.mk.inj (hres.symm.trans ((if_neg e_6_0).trans ((if_neg e_6_1).trans ((if_neg e_6_2).trans ((if_neg e_6_3).trans ((if_neg e_6_4).trans ((if_neg e_6_5).trans ((if_neg e_6_6).trans ((if_neg e_6_7).trans ((if_neg e_6_8).trans ((if_neg e_6_9).trans ((if_neg e_6_10).trans ((if_neg e_6_11).trans ((if_neg e_6_12).trans ((if_neg e_6_13).trans ((if_neg e_6_14).trans ((if_neg e_6_15).trans ((if_neg e_6_16).trans ((if_neg e_6_17).trans ((if_neg e_6_18).trans ((if_neg e_6_19).trans ((if_neg e_6_20).trans ((if_neg e_6_21).trans ((if_neg e_6_22).trans ((if_neg e_6_23).trans ((if_neg e_6_24).trans ((if_neg e_6_25).trans ((if_pos (by rfl)).trans rfl))))))))))))))))))))))))))))
    exact CM_iret hx hb hr hlocks hP hK hD hS d_Acts_told_272
  rcases Decidable.em (k = 27) with e_6_27 | e_6_27
  · subst e_6_27
    refine lv_tableIn (tgt := 276) hx hb d_Acts_told_6 (by decide) (by decide) rfl (by decide) ?_
    refine lv_aload_n hx hb d_Acts_told_276 rfl (lv_at hl 0 rfl) ?_
    refine va_gets hx hb hZ_ASKED hS hown (hk _ kl_Acts_9) (fun _ h9 => h9) d_Acts_told_277 ?_
    refine lv_iload_n hx hb d_Acts_told_280 rfl (lv_at hl 2 rfl) ?_
    refine va_ti (v := .int (1 : Int32)) hx hb hT_ASKED hS (by unfold vp_in; decide) rfl d_Acts_told_281 ?_
    refine va_iald hx hb hK hP 2 0 rfl rfl (by unfold vp_in; decide) d_Acts_told_282 ?_
    obtain ⟨rfl, rfl⟩ : z1 = w ∧ z2 = ((gVa w) (1 : Int32).toNatClampNeg) := Prod.mk.inj (hres.symm.trans ((if_neg e_6_0).trans ((if_neg e_6_1).trans ((if_neg e_6_2).trans ((if_neg e_6_3).trans ((if_neg e_6_4).trans ((if_neg e_6_5).trans ((if_neg e_6_6).trans ((if_neg e_6_7).trans ((if_neg e_6_8).trans ((if_neg e_6_9).trans ((if_neg e_6_10).trans ((if_neg e_6_11).trans ((if_neg e_6_12).trans ((if_neg e_6_13).trans ((if_neg e_6_14).trans ((if_neg e_6_15).trans ((if_neg e_6_16).trans ((if_neg e_6_17).trans ((if_neg e_6_18).trans ((if_neg e_6_19).trans ((if_neg e_6_20).trans ((if_neg e_6_21).trans ((if_neg e_6_22).trans ((if_neg e_6_23).trans ((if_neg e_6_24).trans ((if_neg e_6_25).trans ((if_neg e_6_26).trans ((if_pos (by rfl)).trans rfl)))))))))))))))))))))))))))))
    exact CM_iret hx hb hr hlocks hP hK hD hS d_Acts_told_283
  rcases Decidable.em (k = 28) with e_6_28 | e_6_28
  · subst e_6_28
    refine lv_tableIn (tgt := 276) hx hb d_Acts_told_6 (by decide) (by decide) rfl (by decide) ?_
    refine lv_aload_n hx hb d_Acts_told_276 rfl (lv_at hl 0 rfl) ?_
    refine va_gets hx hb hZ_ASKED hS hown (hk _ kl_Acts_9) (fun _ h9 => h9) d_Acts_told_277 ?_
    refine lv_iload_n hx hb d_Acts_told_280 rfl (lv_at hl 2 rfl) ?_
    refine va_ti (v := .int (5 : Int32)) hx hb hT_ASKED hS (by unfold vp_in; decide) rfl d_Acts_told_281 ?_
    refine va_iald hx hb hK hP 2 0 rfl rfl (by unfold vp_in; decide) d_Acts_told_282 ?_
    obtain ⟨rfl, rfl⟩ : z1 = w ∧ z2 = ((gVa w) (5 : Int32).toNatClampNeg) := Prod.mk.inj (hres.symm.trans ((if_neg e_6_0).trans ((if_neg e_6_1).trans ((if_neg e_6_2).trans ((if_neg e_6_3).trans ((if_neg e_6_4).trans ((if_neg e_6_5).trans ((if_neg e_6_6).trans ((if_neg e_6_7).trans ((if_neg e_6_8).trans ((if_neg e_6_9).trans ((if_neg e_6_10).trans ((if_neg e_6_11).trans ((if_neg e_6_12).trans ((if_neg e_6_13).trans ((if_neg e_6_14).trans ((if_neg e_6_15).trans ((if_neg e_6_16).trans ((if_neg e_6_17).trans ((if_neg e_6_18).trans ((if_neg e_6_19).trans ((if_neg e_6_20).trans ((if_neg e_6_21).trans ((if_neg e_6_22).trans ((if_neg e_6_23).trans ((if_neg e_6_24).trans ((if_neg e_6_25).trans ((if_neg e_6_26).trans ((if_neg e_6_27).trans ((if_pos (by rfl)).trans rfl))))))))))))))))))))))))))))))
    exact CM_iret hx hb hr hlocks hP hK hD hS d_Acts_told_283
  rcases Decidable.em (k = 29) with e_6_29 | e_6_29
  · subst e_6_29
    refine lv_tableIn (tgt := 273) hx hb d_Acts_told_6 (by decide) (by decide) rfl (by decide) ?_
    refine lv_bipush (v := (-104 : Int32)) hx hb d_Acts_told_273 (by decide) ?_
    obtain ⟨rfl, rfl⟩ : z1 = w ∧ z2 = (-104 : Int32) := Prod.mk.inj (hres.symm.trans ((if_neg e_6_0).trans ((if_neg e_6_1).trans ((if_neg e_6_2).trans ((if_neg e_6_3).trans ((if_neg e_6_4).trans ((if_neg e_6_5).trans ((if_neg e_6_6).trans ((if_neg e_6_7).trans ((if_neg e_6_8).trans ((if_neg e_6_9).trans ((if_neg e_6_10).trans ((if_neg e_6_11).trans ((if_neg e_6_12).trans ((if_neg e_6_13).trans ((if_neg e_6_14).trans ((if_neg e_6_15).trans ((if_neg e_6_16).trans ((if_neg e_6_17).trans ((if_neg e_6_18).trans ((if_neg e_6_19).trans ((if_neg e_6_20).trans ((if_neg e_6_21).trans ((if_neg e_6_22).trans ((if_neg e_6_23).trans ((if_neg e_6_24).trans ((if_neg e_6_25).trans ((if_neg e_6_26).trans ((if_neg e_6_27).trans ((if_neg e_6_28).trans ((if_pos (by rfl)).trans rfl)))))))))))))))))))))))))))))))
    exact CM_iret hx hb hr hlocks hP hK hD hS d_Acts_told_275
  exact False.elim (dom30 hin e_6_0 e_6_1 e_6_2 e_6_3 e_6_4 e_6_5 e_6_6 e_6_7 e_6_8 e_6_9 e_6_10 e_6_11 e_6_12 e_6_13 e_6_14 e_6_15 e_6_16 e_6_17 e_6_18 e_6_19 e_6_20 e_6_21 e_6_22 e_6_23 e_6_24 e_6_25 e_6_26 e_6_27 e_6_28 e_6_29)
set_option maxHeartbeats 4000000 in
set_option maxRecDepth 100000 in
theorem c_Acts_outcome (l : Launch) (D : va_G) (cI cW : ClassId) (q qn qv qs : Nat)   (k : Int32) (a : Int32) (w : MW) (hin : vp_in k 30) (ho : ok 4 w) (z1 : MW) (z2 : Int32) (hres : m_Acts_outcome k a w = (z1, z2)) : CM l y_Acts_outcome b_Acts_outcome 4 .int ({ frames := 132, cells := 0, slots := 0, locals := 5244 }) D (tyC cI cW) [.ref q, .int k, .int a] (W4 cI q qn qv qs w) z2 (W4 cI q qn qv qs z1) := by
  refine CM_mk (by decide) (Nat.le_of_ble_eq_true rfl) ?_
  intro p e s m args below meth c A ls hx hb hr hml hown hk hlocks hA hSt hK hP hD hS hl
  have hown : s.vm.findClass R_Acts = some m.cls := hown
  have hl : lv_has ls 4 [(0, .ref q), (1, .int k), (2, .int a)] := hl
  refine lv_aload_n hx hb d_Acts_outcome_0 rfl (lv_at hl 0 rfl) ?_
  refine lv_iload_n hx hb d_Acts_outcome_1 rfl (lv_at hl 1 rfl) ?_
  refine lv_iload_n hx hb d_Acts_outcome_2 rfl (lv_at hl 2 rfl) ?_
  refine CM.callS (wc := []) (wr := W4 cI q qn qv qs w) (av := [.int k, .int a]) (rest := [.ref q]) hx hb hml hown hk (c_Acts_askedFirst l D cI cW k a hin _ rfl) hK hP hD hS hA hSt hl.1 d_Acts_outcome_3 kc_Acts_askedFirst ki_Acts kl_Acts_15 ks_Acts_askedFirst (n := 2) rfl (by decide +kernel) ⟨Nat.le_of_ble_eq_true rfl, Nat.le_of_ble_eq_true rfl⟩ rfl rfl (Nat.le_of_ble_eq_true rfl) ⟨Nat.zero_le _, Nat.zero_le _⟩ (fun H locs hP hD hS => ?_)
  have hP : va_P D classes (W4 cI q qn qv qs w) H := hP
  have hD : va_D A (W4 cI q qn qv qs w) := hD
  refine CM.callV (wc := W4 cI q qn qv qs w) (wr := []) (b := q) (av := [.int (m_Acts_askedFirst k a)]) (rest := []) hx hb hml hown hk (c_World_initialise l D cI cW q qn qv qs (m_Acts_askedFirst k a) w (ok_mono ho (by decide)) _ _ (pe2 _)) hK hP hD hS hA hSt hl.1 (va_recv hK hP (ci := 0) (q0 := 0) rfl rfl) d_Acts_outcome_6 kc_World_initialise ki_World kl_Acts_19 kn_World_initialise kx_World_initialise (n := 1) rfl (by decide +kernel) ⟨Nat.le_of_ble_eq_true rfl, Nat.le_of_ble_eq_true rfl⟩ rfl rfl (Nat.le_of_ble_eq_true rfl) ⟨Nat.zero_le _, Nat.zero_le _⟩ (fun H locs hP hD hS => ?_)
  have hP : va_P D classes (W4 cI q qn qv qs ((m_World_initialise (m_Acts_askedFirst k a) w).1)) H := hP
  have hD : va_D A (W4 cI q qn qv qs ((m_World_initialise (m_Acts_askedFirst k a) w).1)) := hD
  refine lv_istore_n (lv' := [(3, .int (m_World_initialise (m_Acts_askedFirst k a) w).2), (0, .ref q), (1, .int k), (2, .int a)]) hx hb d_Acts_outcome_9 rfl hl (by decide) rfl (fun ls hl => ?_)
  refine lv_iload_n hx hb d_Acts_outcome_10 rfl (lv_at hl 0 rfl) ?_
  refine lv_if_ne (tgt := 23) hx hb d_Acts_outcome_11 (by decide) (fun c_11 => ?_) (fun c_11 => ?_)
  · refine lv_iload_n hx hb d_Acts_outcome_23 rfl (lv_at hl 0 rfl) ?_
    refine lv_if_ne (tgt := 36) hx hb d_Acts_outcome_24 (by decide) (fun _ => ?_) (fun h9 => absurd h9 c_11)
    refine lv_iload_n hx hb d_Acts_outcome_36 rfl (lv_at hl 0 rfl) ?_
    obtain ⟨rfl, rfl⟩ : z1 = (m_World_initialise (m_Acts_askedFirst k a) w).1 ∧ z2 = (m_World_initialise (m_Acts_askedFirst k a) w).2 := Prod.mk.inj (hres.symm.trans ((if_neg c_11).trans rfl))
    exact CM_iret hx hb hr hlocks hP hK hD hS d_Acts_outcome_37
  · refine lv_aload_n hx hb d_Acts_outcome_14 rfl (lv_at hl 1 rfl) ?_
    refine lv_iload_n hx hb d_Acts_outcome_15 rfl (lv_at hl 2 rfl) ?_
    refine CM.callS (wc := []) (wr := W4 cI q qn qv qs ((m_World_initialise (m_Acts_askedFirst k a) w).1)) (av := [.int k]) (rest := [.ref q]) hx hb hml hown hk (c_Acts_askedThen l D cI cW k _ rfl) hK hP hD hS hA hSt hl.1 d_Acts_outcome_16 kc_Acts_askedThen ki_Acts kl_Acts_25 ks_Acts_askedThen (n := 1) rfl (by decide +kernel) ⟨Nat.le_of_ble_eq_true rfl, Nat.le_of_ble_eq_true rfl⟩ rfl rfl (Nat.le_of_ble_eq_true rfl) ⟨Nat.zero_le _, Nat.zero_le _⟩ (fun H locs hP hD hS => ?_)
    have hP : va_P D classes (W4 cI q qn qv qs ((m_World_initialise (m_Acts_askedFirst k a) w).1)) H := hP
    have hD : va_D A (W4 cI q qn qv qs ((m_World_initialise (m_Acts_askedFirst k a) w).1)) := hD
    refine CM.callV (wc := W4 cI q qn qv qs ((m_World_initialise (m_Acts_askedFirst k a) w).1)) (wr := []) (b := q) (av := [.int (m_Acts_askedThen k)]) (rest := []) hx hb hml hown hk (c_World_initialise l D cI cW q qn qv qs (m_Acts_askedThen k) ((m_World_initialise (m_Acts_askedFirst k a) w).1) (ok_mono (ok_ini ho) (by decide)) _ _ (pe2 _)) hK hP hD hS hA hSt hl.1 (va_recv hK hP (ci := 0) (q0 := 0) rfl rfl) d_Acts_outcome_19 kc_World_initialise ki_World kl_Acts_19 kn_World_initialise kx_World_initialise (n := 1) rfl (by decide +kernel) ⟨Nat.le_of_ble_eq_true rfl, Nat.le_of_ble_eq_true rfl⟩ rfl rfl (Nat.le_of_ble_eq_true rfl) ⟨Nat.zero_le _, Nat.zero_le _⟩ (fun H locs hP hD hS => ?_)
    have hP : va_P D classes (W4 cI q qn qv qs ((m_World_initialise (m_Acts_askedThen k) ((m_World_initialise (m_Acts_askedFirst k a) w).1)).1)) H := hP
    have hD : va_D A (W4 cI q qn qv qs ((m_World_initialise (m_Acts_askedThen k) ((m_World_initialise (m_Acts_askedFirst k a) w).1)).1)) := hD
    refine lv_istore_n (lv' := [(3, .int (m_World_initialise (m_Acts_askedThen k) ((m_World_initialise (m_Acts_askedFirst k a) w).1)).2), (0, .ref q), (1, .int k), (2, .int a)]) hx hb d_Acts_outcome_22 rfl hl (by decide) rfl (fun ls hl => ?_)
    refine lv_iload_n hx hb d_Acts_outcome_23 rfl (lv_at hl 0 rfl) ?_
    refine lv_if_ne (tgt := 36) hx hb d_Acts_outcome_24 (by decide) (fun c_24 => ?_) (fun c_24 => ?_)
    · refine lv_iload_n hx hb d_Acts_outcome_36 rfl (lv_at hl 0 rfl) ?_
      obtain ⟨rfl, rfl⟩ : z1 = (m_World_initialise (m_Acts_askedThen k) ((m_World_initialise (m_Acts_askedFirst k a) w).1)).1 ∧ z2 = (m_World_initialise (m_Acts_askedThen k) ((m_World_initialise (m_Acts_askedFirst k a) w).1)).2 := Prod.mk.inj (hres.symm.trans ((if_pos c_11).trans ((if_neg c_24).trans rfl)))
      exact CM_iret hx hb hr hlocks hP hK hD hS d_Acts_outcome_37
    · refine lv_aload_n hx hb d_Acts_outcome_27 rfl (lv_at hl 1 rfl) ?_
      refine lv_iload_n hx hb d_Acts_outcome_28 rfl (lv_at hl 2 rfl) ?_
      refine lv_iload_n hx hb d_Acts_outcome_29 rfl (lv_at hl 3 rfl) ?_
      refine CM.callS (wc := W4 cI q qn qv qs ((m_World_initialise (m_Acts_askedThen k) ((m_World_initialise (m_Acts_askedFirst k a) w).1)).1)) (wr := []) (av := [.ref q, .int k, .int a]) (rest := []) hx hb hml hown hk (c_Acts_told l D cI cW q qn qv qs k a ((m_World_initialise (m_Acts_askedThen k) ((m_World_initialise (m_Acts_askedFirst k a) w).1)).1) hin (ok_mono (ok_ini (ok_ini ho)) (by decide)) _ _ (pe2 _)) hK hP hD hS hA hSt hl.1 d_Acts_outcome_30 kc_Acts_told ki_Acts kl_Acts_28 ks_Acts_told (n := 3) rfl (by decide +kernel) ⟨Nat.le_of_ble_eq_true rfl, Nat.le_of_ble_eq_true rfl⟩ rfl rfl (Nat.le_of_ble_eq_true rfl) ⟨Nat.zero_le _, Nat.zero_le _⟩ (fun H locs hP hD hS => ?_)
      have hP : va_P D classes (W4 cI q qn qv qs ((m_Acts_told k a ((m_World_initialise (m_Acts_askedThen k) ((m_World_initialise (m_Acts_askedFirst k a) w).1)).1)).1)) H := hP
      have hD : va_D A (W4 cI q qn qv qs ((m_Acts_told k a ((m_World_initialise (m_Acts_askedThen k) ((m_World_initialise (m_Acts_askedFirst k a) w).1)).1)).1)) := hD
      refine lv_goto (tgt := 37) hx hb d_Acts_outcome_33 (by decide) ?_
      obtain ⟨rfl, rfl⟩ : z1 = (m_Acts_told k a ((m_World_initialise (m_Acts_askedThen k) ((m_World_initialise (m_Acts_askedFirst k a) w).1)).1)).1 ∧ z2 = (m_Acts_told k a ((m_World_initialise (m_Acts_askedThen k) ((m_World_initialise (m_Acts_askedFirst k a) w).1)).1)).2 := Prod.mk.inj (hres.symm.trans ((if_pos c_11).trans ((if_pos c_24).trans rfl)))
      exact CM_iret hx hb hr hlocks hP hK hD hS d_Acts_outcome_37

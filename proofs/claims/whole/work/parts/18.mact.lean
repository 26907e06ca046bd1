set_option maxHeartbeats 4000000 in
set_option maxRecDepth 100000 in
theorem c_M_act (l : Launch) (D : va_G) (cI cZ : ClassId) (o o1 o2 o3 o4 o5 o6 o7 o8 o9 o10 o11 o12 : Nat)   (k : Int32) (a : Int32) (md : MM) (hw : 0 ≤ aWc md → okM 20 md) (z1 : MM) (z2 : Int32) (hres : m_M_act k a md = (z1, z2)) : CMa (S := Unit) l y_Model_act b_Model_act 6 .int ({ frames := 6, cells := 1, slots := 30, locals := 126 }) D (tyZ cI cZ) [.ref o, .int k, .int a] (M13 cI cZ o o1 o2 o3 o4 o5 o6 o7 o8 o9 o10 o11 o12 md) z2 (fun _ => M13 cI cZ o o1 o2 o3 o4 o5 o6 o7 o8 o9 o10 o11 o12 z1) 1 30 := by
  refine CMa_mk (by decide) (Nat.le_of_ble_eq_true rfl) ?_
  intro p e s m args below meth c A ls hx hb hr hml hown hk hlocks hA hSt hK hP hD hS hl
  have hown : s.vm.findClass R_Model = some m.cls := hown
  have hl : lv_has ls 6 [(0, .ref o), (1, .int k), (2, .int a)] := hl
  refine lv_iload_n hx hb d_Model_act_0 rfl (lv_at hl 1 rfl) ?_
  refine lv_bipush (v := (30 : Int32)) hx hb d_Model_act_1 (by decide) ?_
  refine CM.callS (wc := []) (wr := M13 cI cZ o o1 o2 o3 o4 o5 o6 o7 o8 o9 o10 o11 o12 md) (av := [.int k, .int (30 : Int32)]) (rest := []) hx hb hml hown hk (c_M_in l D cI cZ k (30 : Int32) _ rfl) hK hP hD hS hA hSt hl.1 d_Model_act_3 kc_Model_in ki_Model kl_Model_54 ks_Model_in (n := 2) rfl (by decide +kernel) ⟨Nat.le_of_ble_eq_true rfl, Nat.le_of_ble_eq_true rfl⟩ rfl rfl (Nat.le_of_ble_eq_true rfl) ⟨Nat.le_of_ble_eq_true rfl, Nat.le_of_ble_eq_true rfl⟩ (fun H locs hP hD hS => ?_)
  replace hP : va_P D classes (M13 cI cZ o o1 o2 o3 o4 o5 o6 o7 o8 o9 o10 o11 o12 md) H := hP
  replace hD : va_D A (M13 cI cZ o o1 o2 o3 o4 o5 o6 o7 o8 o9 o10 o11 o12 md) := hD
  refine lv_if_ne (tgt := 11) hx hb d_Model_act_6 (by decide) (fun c_6 => ?_) (fun c_6 => ?_)
  · refine lv_aload_n hx hb d_Model_act_11 rfl (lv_at hl 0 rfl) ?_
    refine va_get (D := D) (ci := 2) (v := .int (aWc md)) (C := R_Model) (T := F_Model) (N := 14) hx hb hk i_Model hown hK hP 0 rfl rfl 11 (by decide) (hk _ kl_Model_41) (fun _ h9 => h9) rfl d_Model_act_12 ?_
    refine lv_if_ge (tgt := 21) hx hb d_Model_act_15 (by decide) (fun c_15 => ?_) (fun c_15 => ?_)
    · refine lv_iload_n hx hb d_Model_act_21 rfl (lv_at hl 1 rfl) ?_
      refine CMa.callS (wc := []) (wr := M13 cI cZ o o1 o2 o3 o4 o5 o6 o7 o8 o9 o10 o11 o12 md) (av := [.int k]) (rest := []) hx hb hml hown hk (c_M_asked l D cI cZ k (mIn_in (by decide) c_6)) hK hP hD hS hA hSt hl.1 d_Model_act_22 kc_Model_asked ki_Model kl_Model_112 ks_Model_asked (n := 1) rfl (by decide +kernel) ⟨Nat.le_of_ble_eq_true rfl, Nat.le_of_ble_eq_true rfl⟩ rfl rfl (Nat.le_of_ble_eq_true rfl) ⟨Nat.le_of_ble_eq_true rfl, Nat.le_of_ble_eq_true rfl⟩ (fun _ H locs hP hD hS => ?_)
      replace hP : va_P D classes (M13 cI cZ o o1 o2 o3 o4 o5 o6 o7 o8 o9 o10 o11 o12 md) H := hP
      replace hD : va_D A (M13 cI cZ o o1 o2 o3 o4 o5 o6 o7 o8 o9 o10 o11 o12 md) := hD
      refine lv_istore_n (lv' := [(3, .int (m_M_asked k)), (0, .ref o), (1, .int k), (2, .int a)]) hx hb d_Model_act_25 rfl hl (by decide) rfl (fun ls hl => ?_)
      refine lv_iload_n hx hb d_Model_act_26 rfl (lv_at hl 0 rfl) ?_
      refine lv_if_ge (tgt := 34) hx hb d_Model_act_27 (by decide) (fun c_27 => ?_) (fun c_27 => ?_)
      · refine lv_aload_n hx hb d_Model_act_34 rfl (lv_at hl 1 rfl) ?_
        refine lv_iload_n hx hb d_Model_act_35 rfl (lv_at hl 0 rfl) ?_
        refine CM.callV (wc := M13 cI cZ o o1 o2 o3 o4 o5 o6 o7 o8 o9 o10 o11 o12 md) (wr := []) (b := o) (av := [.int (m_M_asked k)]) (rest := []) hx hb hml hown hk (c_M_init l D cI cZ o o1 o2 o3 o4 o5 o6 o7 o8 o9 o10 o11 o12 (m_M_asked k) md (okM_mono (hw c_15) (by decide)) _ _ (pe2 _)) hK hP hD hS hA hSt hl.1 (va_recv hK hP (ci := 2) (q0 := 0) rfl rfl) d_Model_act_36 kc_Model_initk ki_Model kl_Model_108 kn_Model_initk kx_Model_initk (n := 1) rfl (by decide +kernel) ⟨Nat.le_of_ble_eq_true rfl, Nat.le_of_ble_eq_true rfl⟩ rfl rfl (Nat.le_of_ble_eq_true rfl) ⟨Nat.le_of_ble_eq_true rfl, Nat.le_of_ble_eq_true rfl⟩ (fun H locs hP hD hS => ?_)
        replace hP : va_P D classes (M13 cI cZ o o1 o2 o3 o4 o5 o6 o7 o8 o9 o10 o11 o12 ((m_M_init (m_M_asked k) md).1)) H := hP
        replace hD : va_D A (M13 cI cZ o o1 o2 o3 o4 o5 o6 o7 o8 o9 o10 o11 o12 ((m_M_init (m_M_asked k) md).1)) := hD
        obtain ⟨g1, hg1⟩ : ∃ z, (m_M_init (m_M_asked k) md).1 = z := ⟨_, rfl⟩
        rw [hg1] at hP hD
        refine lv_istore (lv' := [(4, .int (m_M_init (m_M_asked k) md).2), (3, .int (m_M_asked k)), (0, .ref o), (1, .int k), (2, .int a)]) hx hb d_Model_act_39 hl (by decide) rfl (fun ls hl => ?_)
        refine lv_iload hx hb d_Model_act_41 (lv_at hl 0 rfl) ?_
        refine lv_if_ge (tgt := 49) hx hb d_Model_act_43 (by decide) (fun c_43 => ?_) (fun c_43 => ?_)
        · refine lv_iload_n hx hb d_Model_act_49 rfl (lv_at hl 4 rfl) ?_
          refine lv_iconst (v := (1 : Int32)) hx hb d_Model_act_50 (by decide) ?_
          refine lv_iand hx hb d_Model_act_51 ?_
          refine lv_if_eq (tgt := 59) hx hb d_Model_act_52 (by decide) (fun c_52 => ?_) (fun c_52 => ?_)
          · refine lv_iconst (v := (0 : Int32)) hx hb d_Model_act_59 (by decide) ?_
            refine lv_istore (lv' := [(5, .int (0 : Int32)), (4, .int (m_M_init (m_M_asked k) md).2), (3, .int (m_M_asked k)), (0, .ref o), (1, .int k), (2, .int a)]) hx hb d_Model_act_60 hl (by decide) rfl (fun ls hl => ?_)
            refine lv_iload_n hx hb d_Model_act_62 rfl (lv_at hl 4 rfl) ?_
            rcases Decidable.em (k = 0) with e_63_0 | e_63_0
            · subst e_63_0
              refine lv_tableIn (tgt := 192) hx hb d_Model_act_63 (by decide) (by decide) rfl (by decide) ?_
              refine lv_aload_n hx hb d_Model_act_192 rfl (lv_at hl 3 rfl) ?_
              refine va_get (D := D) (ci := 2) (v := .ref o2) (C := R_Model) (T := F_Model) (N := 14) hx hb hk i_Model hown hK hP 0 rfl rfl 1 (by decide) (hk _ kl_Model_13) (fun _ h9 => h9) rfl d_Model_act_193 ?_
              refine lv_aload_n hx hb d_Model_act_196 rfl (lv_at hl 3 rfl) ?_
              refine va_get (D := D) (ci := 2) (v := .int (aWc g1)) (C := R_Model) (T := F_Model) (N := 14) hx hb hk i_Model hown hK hP 0 rfl rfl 11 (by decide) (hk _ kl_Model_41) (fun _ h9 => h9) rfl d_Model_act_197 ?_
              refine lv_dup2_11 hx hb d_Model_act_200 rfl rfl ?_
              refine va_iald hx hb hK hP 2 0 rfl rfl (okM_eq hg1 (okM_init (hw c_15))).1 d_Model_act_201 ?_
              refine lv_iload_n hx hb d_Model_act_202 rfl (lv_at hl 5 rfl) ?_
              refine lv_iadd hx hb d_Model_act_203 ?_
              refine va_iast hx hb hK hP hD hS 2 0 rfl rfl (okM_eq hg1 (okM_init (hw c_15))).1 d_Model_act_204 (fun H locs hP hD hS => ?_)
              replace hP : va_P D classes (M13 cI cZ o o1 o2 o3 o4 o5 o6 o7 o8 o9 o10 o11 o12 (uBa g1 (upd ((aBa g1)) (aWc g1).toNatClampNeg (((aBa g1) (aWc g1).toNatClampNeg) + a)))) H := hP
              replace hD : va_D A (M13 cI cZ o o1 o2 o3 o4 o5 o6 o7 o8 o9 o10 o11 o12 (uBa g1 (upd ((aBa g1)) (aWc g1).toNatClampNeg (((aBa g1) (aWc g1).toNatClampNeg) + a)))) := hD
              refine lv_aload_n hx hb d_Model_act_205 rfl (lv_at hl 3 rfl) ?_
              refine va_get (D := D) (ci := 2) (v := .ref o2) (C := R_Model) (T := F_Model) (N := 14) hx hb hk i_Model hown hK hP 0 rfl rfl 1 (by decide) (hk _ kl_Model_13) (fun _ h9 => h9) rfl d_Model_act_206 ?_
              refine lv_aload_n hx hb d_Model_act_209 rfl (lv_at hl 3 rfl) ?_
              refine va_get (D := D) (ci := 2) (v := .int (aWc (uBa g1 (upd ((aBa g1)) (aWc g1).toNatClampNeg (((aBa g1) (aWc g1).toNatClampNeg) + a))))) (C := R_Model) (T := F_Model) (N := 14) hx hb hk i_Model hown hK hP 0 rfl rfl 11 (by decide) (hk _ kl_Model_41) (fun _ h9 => h9) rfl d_Model_act_210 ?_
              refine va_iald hx hb hK hP 2 0 rfl rfl (okM_uBa (okM_eq hg1 (okM_init (hw c_15)))).1 d_Model_act_213 ?_
              subst hg1
              obtain ⟨rfl, rfl⟩ : (uBa ((m_M_init (m_M_asked (0 : Int32)) md).1) (upd ((aBa ((m_M_init (m_M_asked (0 : Int32)) md).1))) (aWc ((m_M_init (m_M_asked (0 : Int32)) md).1)).toNatClampNeg (((aBa ((m_M_init (m_M_asked (0 : Int32)) md).1)) (aWc ((m_M_init (m_M_asked (0 : Int32)) md).1)).toNatClampNeg) + a))) = z1 ∧ ((aBa (uBa ((m_M_init (m_M_asked (0 : Int32)) md).1) (upd ((aBa ((m_M_init (m_M_asked (0 : Int32)) md).1))) (aWc ((m_M_init (m_M_asked (0 : Int32)) md).1)).toNatClampNeg (((aBa ((m_M_init (m_M_asked (0 : Int32)) md).1)) (aWc ((m_M_init (m_M_asked (0 : Int32)) md).1)).toNatClampNeg) + a)))) (aWc (uBa ((m_M_init (m_M_asked (0 : Int32)) md).1) (upd ((aBa ((m_M_init (m_M_asked (0 : Int32)) md).1))) (aWc ((m_M_init (m_M_asked (0 : Int32)) md).1)).toNatClampNeg (((aBa ((m_M_init (m_M_asked (0 : Int32)) md).1)) (aWc ((m_M_init (m_M_asked (0 : Int32)) md).1)).toNatClampNeg) + a)))).toNatClampNeg) = z2 := Prod.mk.inj ((Eq.symm ((if_neg c_6).trans ((if_pos c_15).trans ((if_pos c_27).trans ((if_pos c_43).trans ((if_pos c_52).trans ((if_pos (by rfl)).trans rfl))))))).trans hres)
              exact CMa_ret (S := Unit) () hx hb hr hlocks hP hK hD hS d_Model_act_214
            rcases Decidable.em (k = 1) with e_63_1 | e_63_1
            · subst e_63_1
              refine lv_tableIn (tgt := 215) hx hb d_Model_act_63 (by decide) (by decide) rfl (by decide) ?_
              refine lv_aload_n hx hb d_Model_act_215 rfl (lv_at hl 3 rfl) ?_
              refine va_get (D := D) (ci := 2) (v := .ref o2) (C := R_Model) (T := F_Model) (N := 14) hx hb hk i_Model hown hK hP 0 rfl rfl 1 (by decide) (hk _ kl_Model_13) (fun _ h9 => h9) rfl d_Model_act_216 ?_
              refine lv_aload_n hx hb d_Model_act_219 rfl (lv_at hl 3 rfl) ?_
              refine va_get (D := D) (ci := 2) (v := .int (aWc g1)) (C := R_Model) (T := F_Model) (N := 14) hx hb hk i_Model hown hK hP 0 rfl rfl 11 (by decide) (hk _ kl_Model_41) (fun _ h9 => h9) rfl d_Model_act_220 ?_
              refine va_iald hx hb hK hP 2 0 rfl rfl (okM_eq hg1 (okM_init (hw c_15))).1 d_Model_act_223 ?_
              subst hg1
              obtain ⟨rfl, rfl⟩ : ((m_M_init (m_M_asked (1 : Int32)) md).1) = z1 ∧ ((aBa ((m_M_init (m_M_asked (1 : Int32)) md).1)) (aWc ((m_M_init (m_M_asked (1 : Int32)) md).1)).toNatClampNeg) = z2 := Prod.mk.inj ((Eq.symm ((if_neg c_6).trans ((if_pos c_15).trans ((if_pos c_27).trans ((if_pos c_43).trans ((if_pos c_52).trans ((if_neg e_63_0).trans ((if_pos (by rfl)).trans rfl)))))))).trans hres)
              exact CMa_ret (S := Unit) () hx hb hr hlocks hP hK hD hS d_Model_act_224
            rcases Decidable.em (k = 2) with e_63_2 | e_63_2
            · subst e_63_2
              refine lv_tableIn (tgt := 225) hx hb d_Model_act_63 (by decide) (by decide) rfl (by decide) ?_
              refine lv_aload_n hx hb d_Model_act_225 rfl (lv_at hl 3 rfl) ?_
              refine va_get (D := D) (ci := 2) (v := .ref o3) (C := R_Model) (T := F_Model) (N := 14) hx hb hk i_Model hown hK hP 0 rfl rfl 2 (by decide) (hk _ kl_Model_16) (fun _ h9 => h9) rfl d_Model_act_226 ?_
              refine lv_aload_n hx hb d_Model_act_229 rfl (lv_at hl 3 rfl) ?_
              refine va_get (D := D) (ci := 2) (v := .int (aWc g1)) (C := R_Model) (T := F_Model) (N := 14) hx hb hk i_Model hown hK hP 0 rfl rfl 11 (by decide) (hk _ kl_Model_41) (fun _ h9 => h9) rfl d_Model_act_230 ?_
              refine lv_iload_n hx hb d_Model_act_233 rfl (lv_at hl 5 rfl) ?_
              refine va_iast hx hb hK hP hD hS 3 0 rfl rfl (okM_eq hg1 (okM_init (hw c_15))).1 d_Model_act_234 (fun H locs hP hD hS => ?_)
              replace hP : va_P D classes (M13 cI cZ o o1 o2 o3 o4 o5 o6 o7 o8 o9 o10 o11 o12 (uMi g1 (upd ((aMi g1)) (aWc g1).toNatClampNeg a))) H := hP
              replace hD : va_D A (M13 cI cZ o o1 o2 o3 o4 o5 o6 o7 o8 o9 o10 o11 o12 (uMi g1 (upd ((aMi g1)) (aWc g1).toNatClampNeg a))) := hD
              refine lv_iload_n hx hb d_Model_act_235 rfl (lv_at hl 5 rfl) ?_
              subst hg1
              obtain ⟨rfl, rfl⟩ : (uMi ((m_M_init (m_M_asked (2 : Int32)) md).1) (upd ((aMi ((m_M_init (m_M_asked (2 : Int32)) md).1))) (aWc ((m_M_init (m_M_asked (2 : Int32)) md).1)).toNatClampNeg a)) = z1 ∧ a = z2 := Prod.mk.inj ((Eq.symm ((if_neg c_6).trans ((if_pos c_15).trans ((if_pos c_27).trans ((if_pos c_43).trans ((if_pos c_52).trans ((if_neg e_63_0).trans ((if_neg e_63_1).trans ((if_pos (by rfl)).trans rfl))))))))).trans hres)
              exact CMa_ret (S := Unit) () hx hb hr hlocks hP hK hD hS d_Model_act_236
            rcases Decidable.em (k = 3) with e_63_3 | e_63_3
            · subst e_63_3
              refine lv_tableIn (tgt := 237) hx hb d_Model_act_63 (by decide) (by decide) rfl (by decide) ?_
              refine lv_bipush (v := (70 : Int32)) hx hb d_Model_act_237 (by decide) ?_
              subst hg1
              obtain ⟨rfl, rfl⟩ : ((m_M_init (m_M_asked (3 : Int32)) md).1) = z1 ∧ (70 : Int32) = z2 := Prod.mk.inj ((Eq.symm ((if_neg c_6).trans ((if_pos c_15).trans ((if_pos c_27).trans ((if_pos c_43).trans ((if_pos c_52).trans ((if_neg e_63_0).trans ((if_neg e_63_1).trans ((if_neg e_63_2).trans ((if_pos (by rfl)).trans rfl)))))))))).trans hres)
              exact CMa_ret (S := Unit) () hx hb hr hlocks hP hK hD hS d_Model_act_239
            rcases Decidable.em (k = 4) with e_63_4 | e_63_4
            · subst e_63_4
              refine lv_tableIn (tgt := 240) hx hb d_Model_act_63 (by decide) (by decide) rfl (by decide) ?_
              refine lv_bipush (v := (6 : Int32)) hx hb d_Model_act_240 (by decide) ?_
              subst hg1
              obtain ⟨rfl, rfl⟩ : ((m_M_init (m_M_asked (4 : Int32)) md).1) = z1 ∧ (6 : Int32) = z2 := Prod.mk.inj ((Eq.symm ((if_neg c_6).trans ((if_pos c_15).trans ((if_pos c_27).trans ((if_pos c_43).trans ((if_pos c_52).trans ((if_neg e_63_0).trans ((if_neg e_63_1).trans ((if_neg e_63_2).trans ((if_neg e_63_3).trans ((if_pos (by rfl)).trans rfl))))))))))).trans hres)
              exact CMa_ret (S := Unit) () hx hb hr hlocks hP hK hD hS d_Model_act_242
            rcases Decidable.em (k = 5) with e_63_5 | e_63_5
            · subst e_63_5
              refine lv_tableIn (tgt := 243) hx hb d_Model_act_63 (by decide) (by decide) rfl (by decide) ?_
              refine lv_iconst (v := (5 : Int32)) hx hb d_Model_act_243 (by decide) ?_
              subst hg1
              obtain ⟨rfl, rfl⟩ : ((m_M_init (m_M_asked (5 : Int32)) md).1) = z1 ∧ (5 : Int32) = z2 := Prod.mk.inj ((Eq.symm ((if_neg c_6).trans ((if_pos c_15).trans ((if_pos c_27).trans ((if_pos c_43).trans ((if_pos c_52).trans ((if_neg e_63_0).trans ((if_neg e_63_1).trans ((if_neg e_63_2).trans ((if_neg e_63_3).trans ((if_neg e_63_4).trans ((if_pos (by rfl)).trans rfl)))))))))))).trans hres)
              exact CMa_ret (S := Unit) () hx hb hr hlocks hP hK hD hS d_Model_act_244
            rcases Decidable.em (k = 6) with e_63_6 | e_63_6
            · subst e_63_6
              refine lv_tableIn (tgt := 245) hx hb d_Model_act_63 (by decide) (by decide) rfl (by decide) ?_
              refine lv_iconst (v := (2 : Int32)) hx hb d_Model_act_245 (by decide) ?_
              subst hg1
              obtain ⟨rfl, rfl⟩ : ((m_M_init (m_M_asked (6 : Int32)) md).1) = z1 ∧ (2 : Int32) = z2 := Prod.mk.inj ((Eq.symm ((if_neg c_6).trans ((if_pos c_15).trans ((if_pos c_27).trans ((if_pos c_43).trans ((if_pos c_52).trans ((if_neg e_63_0).trans ((if_neg e_63_1).trans ((if_neg e_63_2).trans ((if_neg e_63_3).trans ((if_neg e_63_4).trans ((if_neg e_63_5).trans ((if_pos (by rfl)).trans rfl))))))))))))).trans hres)
              exact CMa_ret (S := Unit) () hx hb hr hlocks hP hK hD hS d_Model_act_246
            rcases Decidable.em (k = 7) with e_63_7 | e_63_7
            · subst e_63_7
              refine lv_tableIn (tgt := 247) hx hb d_Model_act_63 (by decide) (by decide) rfl (by decide) ?_
              refine lv_iconst (v := (4 : Int32)) hx hb d_Model_act_247 (by decide) ?_
              subst hg1
              obtain ⟨rfl, rfl⟩ : ((m_M_init (m_M_asked (7 : Int32)) md).1) = z1 ∧ (4 : Int32) = z2 := Prod.mk.inj ((Eq.symm ((if_neg c_6).trans ((if_pos c_15).trans ((if_pos c_27).trans ((if_pos c_43).trans ((if_pos c_52).trans ((if_neg e_63_0).trans ((if_neg e_63_1).trans ((if_neg e_63_2).trans ((if_neg e_63_3).trans ((if_neg e_63_4).trans ((if_neg e_63_5).trans ((if_neg e_63_6).trans ((if_pos (by rfl)).trans rfl)))))))))))))).trans hres)
              exact CMa_ret (S := Unit) () hx hb hr hlocks hP hK hD hS d_Model_act_248
            rcases Decidable.em (k = 8) with e_63_8 | e_63_8
            · subst e_63_8
              refine lv_tableIn (tgt := 247) hx hb d_Model_act_63 (by decide) (by decide) rfl (by decide) ?_
              refine lv_iconst (v := (4 : Int32)) hx hb d_Model_act_247 (by decide) ?_
              subst hg1
              obtain ⟨rfl, rfl⟩ : ((m_M_init (m_M_asked (8 : Int32)) md).1) = z1 ∧ (4 : Int32) = z2 := Prod.mk.inj ((Eq.symm ((if_neg c_6).trans ((if_pos c_15).trans ((if_pos c_27).trans ((if_pos c_43).trans ((if_pos c_52).trans ((if_neg e_63_0).trans ((if_neg e_63_1).trans ((if_neg e_63_2).trans ((if_neg e_63_3).trans ((if_neg e_63_4).trans ((if_neg e_63_5).trans ((if_neg e_63_6).trans ((if_neg e_63_7).trans ((if_pos (by rfl)).trans rfl))))))))))))))).trans hres)
              exact CMa_ret (S := Unit) () hx hb hr hlocks hP hK hD hS d_Model_act_248
            rcases Decidable.em (k = 9) with e_63_9 | e_63_9
            · subst e_63_9
              refine lv_tableIn (tgt := 249) hx hb d_Model_act_63 (by decide) (by decide) rfl (by decide) ?_
              refine lv_aload_n hx hb d_Model_act_249 rfl (lv_at hl 3 rfl) ?_
              refine lv_iconst (v := (3 : Int32)) hx hb d_Model_act_250 (by decide) ?_
              refine lv_iconst (v := (4 : Int32)) hx hb d_Model_act_251 (by decide) ?_
              refine CMv.callV (wc := M13 cI cZ o o1 o2 o3 o4 o5 o6 o7 o8 o9 o10 o11 o12 g1) (wr := []) (b := o) (av := [.int (3 : Int32), .int (4 : Int32)]) (rest := []) hx hb hml hown hk (c_M_initAlone l D cI cZ o o1 o2 o3 o4 o5 o6 o7 o8 o9 o10 o11 o12 (3 : Int32) (4 : Int32) g1 (by unfold vp_in; decide) (okM_mono (okM_eq hg1 (okM_init (hw c_15))) (by decide)) _ rfl) hK hP hD hS hA hSt hl.1 (va_recv hK hP (ci := 2) (q0 := 0) rfl rfl) d_Model_act_252 kc_Model_initAlone ki_Model kl_Model_72 kn_Model_initAlone kx_Model_initAlone (n := 2) rfl (by decide +kernel) ⟨Nat.le_of_ble_eq_true rfl, Nat.le_of_ble_eq_true rfl⟩ rfl rfl (Nat.le_of_ble_eq_true rfl) ⟨Nat.le_of_ble_eq_true rfl, Nat.le_of_ble_eq_true rfl⟩ (fun H locs hP hD hS => ?_)
              replace hP : va_P D classes (M13 cI cZ o o1 o2 o3 o4 o5 o6 o7 o8 o9 o10 o11 o12 (m_M_initAlone (3 : Int32) (4 : Int32) g1)) H := hP
              replace hD : va_D A (M13 cI cZ o o1 o2 o3 o4 o5 o6 o7 o8 o9 o10 o11 o12 (m_M_initAlone (3 : Int32) (4 : Int32) g1)) := hD
              obtain ⟨g2, hg2⟩ : ∃ z, (m_M_initAlone (3 : Int32) (4 : Int32) g1) = z := ⟨_, rfl⟩
              rw [hg2] at hP hD
              refine lv_bipush (v := (19 : Int32)) hx hb d_Model_act_255 (by decide) ?_
              subst hg2
              subst hg1
              obtain ⟨rfl, rfl⟩ : (m_M_initAlone (3 : Int32) (4 : Int32) ((m_M_init (m_M_asked (9 : Int32)) md).1)) = z1 ∧ (19 : Int32) = z2 := Prod.mk.inj ((Eq.symm ((if_neg c_6).trans ((if_pos c_15).trans ((if_pos c_27).trans ((if_pos c_43).trans ((if_pos c_52).trans ((if_neg e_63_0).trans ((if_neg e_63_1).trans ((if_neg e_63_2).trans ((if_neg e_63_3).trans ((if_neg e_63_4).trans ((if_neg e_63_5).trans ((if_neg e_63_6).trans ((if_neg e_63_7).trans ((if_neg e_63_8).trans ((if_pos (by rfl)).trans rfl)))))))))))))))).trans hres)
              exact CMa_ret (S := Unit) () hx hb hr hlocks hP hK hD hS d_Model_act_257
            rcases Decidable.em (k = 10) with e_63_10 | e_63_10
            · subst e_63_10
              refine lv_tableIn (tgt := 258) hx hb d_Model_act_63 (by decide) (by decide) rfl (by decide) ?_
              refine lv_iconst (v := (1 : Int32)) hx hb d_Model_act_258 (by decide) ?_
              subst hg1
              obtain ⟨rfl, rfl⟩ : ((m_M_init (m_M_asked (10 : Int32)) md).1) = z1 ∧ (1 : Int32) = z2 := Prod.mk.inj ((Eq.symm ((if_neg c_6).trans ((if_pos c_15).trans ((if_pos c_27).trans ((if_pos c_43).trans ((if_pos c_52).trans ((if_neg e_63_0).trans ((if_neg e_63_1).trans ((if_neg e_63_2).trans ((if_neg e_63_3).trans ((if_neg e_63_4).trans ((if_neg e_63_5).trans ((if_neg e_63_6).trans ((if_neg e_63_7).trans ((if_neg e_63_8).trans ((if_neg e_63_9).trans ((if_pos (by rfl)).trans rfl))))))))))))))))).trans hres)
              exact CMa_ret (S := Unit) () hx hb hr hlocks hP hK hD hS d_Model_act_259
            rcases Decidable.em (k = 11) with e_63_11 | e_63_11
            · subst e_63_11
              refine lv_tableIn (tgt := 260) hx hb d_Model_act_63 (by decide) (by decide) rfl (by decide) ?_
              refine lv_bipush (v := (11 : Int32)) hx hb d_Model_act_260 (by decide) ?_
              subst hg1
              obtain ⟨rfl, rfl⟩ : ((m_M_init (m_M_asked (11 : Int32)) md).1) = z1 ∧ (11 : Int32) = z2 := Prod.mk.inj ((Eq.symm ((if_neg c_6).trans ((if_pos c_15).trans ((if_pos c_27).trans ((if_pos c_43).trans ((if_pos c_52).trans ((if_neg e_63_0).trans ((if_neg e_63_1).trans ((if_neg e_63_2).trans ((if_neg e_63_3).trans ((if_neg e_63_4).trans ((if_neg e_63_5).trans ((if_neg e_63_6).trans ((if_neg e_63_7).trans ((if_neg e_63_8).trans ((if_neg e_63_9).trans ((if_neg e_63_10).trans ((if_pos (by rfl)).trans rfl)))))))))))))))))).trans hres)
              exact CMa_ret (S := Unit) () hx hb hr hlocks hP hK hD hS d_Model_act_262
            rcases Decidable.em (k = 12) with e_63_12 | e_63_12
            · subst e_63_12
              refine lv_tableIn (tgt := 413) hx hb d_Model_act_63 (by decide) (by decide) rfl (by decide) ?_
              refine lv_bipush (v := (-104 : Int32)) hx hb d_Model_act_413 (by decide) ?_
              subst hg1
              obtain ⟨rfl, rfl⟩ : ((m_M_init (m_M_asked (12 : Int32)) md).1) = z1 ∧ (-104 : Int32) = z2 := Prod.mk.inj ((Eq.symm ((if_neg c_6).trans ((if_pos c_15).trans ((if_pos c_27).trans ((if_pos c_43).trans ((if_pos c_52).trans ((if_neg e_63_0).trans ((if_neg e_63_1).trans ((if_neg e_63_2).trans ((if_neg e_63_3).trans ((if_neg e_63_4).trans ((if_neg e_63_5).trans ((if_neg e_63_6).trans ((if_neg e_63_7).trans ((if_neg e_63_8).trans ((if_neg e_63_9).trans ((if_neg e_63_10).trans ((if_neg e_63_11).trans ((if_pos (by rfl)).trans rfl))))))))))))))))))).trans hres)
              exact CMa_ret (S := Unit) () hx hb hr hlocks hP hK hD hS d_Model_act_415
            rcases Decidable.em (k = 13) with e_63_13 | e_63_13
            · subst e_63_13
              refine lv_tableIn (tgt := 263) hx hb d_Model_act_63 (by decide) (by decide) rfl (by decide) ?_
              refine lv_bipush (v := (71 : Int32)) hx hb d_Model_act_263 (by decide) ?_
              subst hg1
              obtain ⟨rfl, rfl⟩ : ((m_M_init (m_M_asked (13 : Int32)) md).1) = z1 ∧ (71 : Int32) = z2 := Prod.mk.inj ((Eq.symm ((if_neg c_6).trans ((if_pos c_15).trans ((if_pos c_27).trans ((if_pos c_43).trans ((if_pos c_52).trans ((if_neg e_63_0).trans ((if_neg e_63_1).trans ((if_neg e_63_2).trans ((if_neg e_63_3).trans ((if_neg e_63_4).trans ((if_neg e_63_5).trans ((if_neg e_63_6).trans ((if_neg e_63_7).trans ((if_neg e_63_8).trans ((if_neg e_63_9).trans ((if_neg e_63_10).trans ((if_neg e_63_11).trans ((if_neg e_63_12).trans ((if_pos (by rfl)).trans rfl)))))))))))))))))))).trans hres)
              exact CMa_ret (S := Unit) () hx hb hr hlocks hP hK hD hS d_Model_act_265
            rcases Decidable.em (k = 14) with e_63_14 | e_63_14
            · subst e_63_14
              refine lv_tableIn (tgt := 413) hx hb d_Model_act_63 (by decide) (by decide) rfl (by decide) ?_
              refine lv_bipush (v := (-104 : Int32)) hx hb d_Model_act_413 (by decide) ?_
              subst hg1
              obtain ⟨rfl, rfl⟩ : ((m_M_init (m_M_asked (14 : Int32)) md).1) = z1 ∧ (-104 : Int32) = z2 := Prod.mk.inj ((Eq.symm ((if_neg c_6).trans ((if_pos c_15).trans ((if_pos c_27).trans ((if_pos c_43).trans ((if_pos c_52).trans ((if_neg e_63_0).trans ((if_neg e_63_1).trans ((if_neg e_63_2).trans ((if_neg e_63_3).trans ((if_neg e_63_4).trans ((if_neg e_63_5).trans ((if_neg e_63_6).trans ((if_neg e_63_7).trans ((if_neg e_63_8).trans ((if_neg e_63_9).trans ((if_neg e_63_10).trans ((if_neg e_63_11).trans ((if_neg e_63_12).trans ((if_neg e_63_13).trans ((if_pos (by rfl)).trans rfl))))))))))))))))))))).trans hres)
              exact CMa_ret (S := Unit) () hx hb hr hlocks hP hK hD hS d_Model_act_415
            rcases Decidable.em (k = 15) with e_63_15 | e_63_15
            · subst e_63_15
              refine lv_tableIn (tgt := 413) hx hb d_Model_act_63 (by decide) (by decide) rfl (by decide) ?_
              refine lv_bipush (v := (-104 : Int32)) hx hb d_Model_act_413 (by decide) ?_
              subst hg1
              obtain ⟨rfl, rfl⟩ : ((m_M_init (m_M_asked (15 : Int32)) md).1) = z1 ∧ (-104 : Int32) = z2 := Prod.mk.inj ((Eq.symm ((if_neg c_6).trans ((if_pos c_15).trans ((if_pos c_27).trans ((if_pos c_43).trans ((if_pos c_52).trans ((if_neg e_63_0).trans ((if_neg e_63_1).trans ((if_neg e_63_2).trans ((if_neg e_63_3).trans ((if_neg e_63_4).trans ((if_neg e_63_5).trans ((if_neg e_63_6).trans ((if_neg e_63_7).trans ((if_neg e_63_8).trans ((if_neg e_63_9).trans ((if_neg e_63_10).trans ((if_neg e_63_11).trans ((if_neg e_63_12).trans ((if_neg e_63_13).trans ((if_neg e_63_14).trans ((if_pos (by rfl)).trans rfl)))))))))))))))))))))).trans hres)
              exact CMa_ret (S := Unit) () hx hb hr hlocks hP hK hD hS d_Model_act_415
            rcases Decidable.em (k = 16) with e_63_16 | e_63_16
            · subst e_63_16
              refine lv_tableIn (tgt := 266) hx hb d_Model_act_63 (by decide) (by decide) rfl (by decide) ?_
              refine lv_aload_n hx hb d_Model_act_266 rfl (lv_at hl 3 rfl) ?_
              refine va_get (D := D) (ci := 2) (v := .ref o4) (C := R_Model) (T := F_Model) (N := 14) hx hb hk i_Model hown hK hP 0 rfl rfl 3 (by decide) (hk _ kl_Model_19) (fun _ h9 => h9) rfl d_Model_act_267 ?_
              refine lv_aload_n hx hb d_Model_act_270 rfl (lv_at hl 3 rfl) ?_
              refine va_get (D := D) (ci := 2) (v := .int (aWc g1)) (C := R_Model) (T := F_Model) (N := 14) hx hb hk i_Model hown hK hP 0 rfl rfl 11 (by decide) (hk _ kl_Model_41) (fun _ h9 => h9) rfl d_Model_act_271 ?_
              refine va_iald hx hb hK hP 4 0 rfl rfl (okM_eq hg1 (okM_init (hw c_15))).1 d_Model_act_274 ?_
              subst hg1
              obtain ⟨rfl, rfl⟩ : ((m_M_init (m_M_asked (16 : Int32)) md).1) = z1 ∧ ((aXx ((m_M_init (m_M_asked (16 : Int32)) md).1)) (aWc ((m_M_init (m_M_asked (16 : Int32)) md).1)).toNatClampNeg) = z2 := Prod.mk.inj ((Eq.symm ((if_neg c_6).trans ((if_pos c_15).trans ((if_pos c_27).trans ((if_pos c_43).trans ((if_pos c_52).trans ((if_neg e_63_0).trans ((if_neg e_63_1).trans ((if_neg e_63_2).trans ((if_neg e_63_3).trans ((if_neg e_63_4).trans ((if_neg e_63_5).trans ((if_neg e_63_6).trans ((if_neg e_63_7).trans ((if_neg e_63_8).trans ((if_neg e_63_9).trans ((if_neg e_63_10).trans ((if_neg e_63_11).trans ((if_neg e_63_12).trans ((if_neg e_63_13).trans ((if_neg e_63_14).trans ((if_neg e_63_15).trans ((if_pos (by rfl)).trans rfl))))))))))))))))))))))).trans hres)
              exact CMa_ret (S := Unit) () hx hb hr hlocks hP hK hD hS d_Model_act_275
            rcases Decidable.em (k = 17) with e_63_17 | e_63_17
            · subst e_63_17
              refine lv_tableIn (tgt := 276) hx hb d_Model_act_63 (by decide) (by decide) rfl (by decide) ?_
              refine lv_aload_n hx hb d_Model_act_276 rfl (lv_at hl 3 rfl) ?_
              refine va_get (D := D) (ci := 2) (v := .ref o5) (C := R_Model) (T := F_Model) (N := 14) hx hb hk i_Model hown hK hP 0 rfl rfl 4 (by decide) (hk _ kl_Model_22) (fun _ h9 => h9) rfl d_Model_act_277 ?_
              refine lv_aload_n hx hb d_Model_act_280 rfl (lv_at hl 3 rfl) ?_
              refine va_get (D := D) (ci := 2) (v := .int (aWc g1)) (C := R_Model) (T := F_Model) (N := 14) hx hb hk i_Model hown hK hP 0 rfl rfl 11 (by decide) (hk _ kl_Model_41) (fun _ h9 => h9) rfl d_Model_act_281 ?_
              refine va_iald hx hb hK hP 5 0 rfl rfl (okM_eq hg1 (okM_init (hw c_15))).1 d_Model_act_284 ?_
              subst hg1
              obtain ⟨rfl, rfl⟩ : ((m_M_init (m_M_asked (17 : Int32)) md).1) = z1 ∧ ((aYy ((m_M_init (m_M_asked (17 : Int32)) md).1)) (aWc ((m_M_init (m_M_asked (17 : Int32)) md).1)).toNatClampNeg) = z2 := Prod.mk.inj ((Eq.symm ((if_neg c_6).trans ((if_pos c_15).trans ((if_pos c_27).trans ((if_pos c_43).trans ((if_pos c_52).trans ((if_neg e_63_0).trans ((if_neg e_63_1).trans ((if_neg e_63_2).trans ((if_neg e_63_3).trans ((if_neg e_63_4).trans ((if_neg e_63_5).trans ((if_neg e_63_6).trans ((if_neg e_63_7).trans ((if_neg e_63_8).trans ((if_neg e_63_9).trans ((if_neg e_63_10).trans ((if_neg e_63_11).trans ((if_neg e_63_12).trans ((if_neg e_63_13).trans ((if_neg e_63_14).trans ((if_neg e_63_15).trans ((if_neg e_63_16).trans ((if_pos (by rfl)).trans rfl)))))))))))))))))))))))).trans hres)
              exact CMa_ret (S := Unit) () hx hb hr hlocks hP hK hD hS d_Model_act_285
            rcases Decidable.em (k = 18) with e_63_18 | e_63_18
            · subst e_63_18
              refine lv_tableIn (tgt := 286) hx hb d_Model_act_63 (by decide) (by decide) rfl (by decide) ?_
              refine lv_aload_n hx hb d_Model_act_286 rfl (lv_at hl 3 rfl) ?_
              refine CMv.callV (wc := M13 cI cZ o o1 o2 o3 o4 o5 o6 o7 o8 o9 o10 o11 o12 g1) (wr := []) (b := o) (av := []) (rest := []) hx hb hml hown hk (c_M_initLazy l D cI cZ o o1 o2 o3 o4 o5 o6 o7 o8 o9 o10 o11 o12 g1 (okM_mono (okM_eq hg1 (okM_init (hw c_15))) (by decide)) _ rfl) hK hP hD hS hA hSt hl.1 (va_recv hK hP (ci := 2) (q0 := 0) rfl rfl) d_Model_act_287 kc_Model_initLazy ki_Model kl_Model_96 kn_Model_initLazy kx_Model_initLazy (n := 0) rfl (by decide +kernel) ⟨Nat.le_of_ble_eq_true rfl, Nat.le_of_ble_eq_true rfl⟩ rfl rfl (Nat.le_of_ble_eq_true rfl) ⟨Nat.le_of_ble_eq_true rfl, Nat.le_of_ble_eq_true rfl⟩ (fun H locs hP hD hS => ?_)
              replace hP : va_P D classes (M13 cI cZ o o1 o2 o3 o4 o5 o6 o7 o8 o9 o10 o11 o12 (m_M_initLazy g1)) H := hP
              replace hD : va_D A (M13 cI cZ o o1 o2 o3 o4 o5 o6 o7 o8 o9 o10 o11 o12 (m_M_initLazy g1)) := hD
              obtain ⟨g3, hg3⟩ : ∃ z, (m_M_initLazy g1) = z := ⟨_, rfl⟩
              rw [hg3] at hP hD
              refine lv_bipush (v := (20 : Int32)) hx hb d_Model_act_290 (by decide) ?_
              subst hg3
              subst hg1
              obtain ⟨rfl, rfl⟩ : (m_M_initLazy ((m_M_init (m_M_asked (18 : Int32)) md).1)) = z1 ∧ (20 : Int32) = z2 := Prod.mk.inj ((Eq.symm ((if_neg c_6).trans ((if_pos c_15).trans ((if_pos c_27).trans ((if_pos c_43).trans ((if_pos c_52).trans ((if_neg e_63_0).trans ((if_neg e_63_1).trans ((if_neg e_63_2).trans ((if_neg e_63_3).trans ((if_neg e_63_4).trans ((if_neg e_63_5).trans ((if_neg e_63_6).trans ((if_neg e_63_7).trans ((if_neg e_63_8).trans ((if_neg e_63_9).trans ((if_neg e_63_10).trans ((if_neg e_63_11).trans ((if_neg e_63_12).trans ((if_neg e_63_13).trans ((if_neg e_63_14).trans ((if_neg e_63_15).trans ((if_neg e_63_16).trans ((if_neg e_63_17).trans ((if_pos (by rfl)).trans rfl))))))))))))))))))))))))).trans hres)
              exact CMa_ret (S := Unit) () hx hb hr hlocks hP hK hD hS d_Model_act_292
            rcases Decidable.em (k = 19) with e_63_19 | e_63_19
            · subst e_63_19
              refine lv_tableIn (tgt := 293) hx hb d_Model_act_63 (by decide) (by decide) rfl (by decide) ?_
              refine lv_iload hx hb d_Model_act_293 (lv_at hl 0 rfl) ?_
              refine lv_if_eq (tgt := 303) hx hb d_Model_act_295 (by decide) (fun _ => ?_) (fun h9 => absurd (by decide) h9)
              refine lv_iconst (v := (3 : Int32)) hx hb d_Model_act_303 (by decide) ?_
              refine lv_bipush (v := (17 : Int32)) hx hb d_Model_act_304 (by decide) ?_
              refine lv_iadd hx hb d_Model_act_306 ?_
              refine lv_topi (fun z ez => ?_)
              obtain rfl : z = (20 : Int32) := ez.trans (by decide)
              subst hg1
              obtain ⟨rfl, rfl⟩ : ((m_M_init (m_M_asked (19 : Int32)) md).1) = z1 ∧ (20 : Int32) = z2 := Prod.mk.inj ((Eq.symm ((if_neg c_6).trans ((if_pos c_15).trans ((if_pos c_27).trans ((if_pos c_43).trans ((if_pos c_52).trans ((if_neg e_63_0).trans ((if_neg e_63_1).trans ((if_neg e_63_2).trans ((if_neg e_63_3).trans ((if_neg e_63_4).trans ((if_neg e_63_5).trans ((if_neg e_63_6).trans ((if_neg e_63_7).trans ((if_neg e_63_8).trans ((if_neg e_63_9).trans ((if_neg e_63_10).trans ((if_neg e_63_11).trans ((if_neg e_63_12).trans ((if_neg e_63_13).trans ((if_neg e_63_14).trans ((if_neg e_63_15).trans ((if_neg e_63_16).trans ((if_neg e_63_17).trans ((if_neg e_63_18).trans ((if_pos (by rfl)).trans rfl)))))))))))))))))))))))))).trans hres)
              exact CMa_ret (S := Unit) () hx hb hr hlocks hP hK hD hS d_Model_act_307
            rcases Decidable.em (k = 20) with e_63_20 | e_63_20
            · subst e_63_20
              refine lv_tableIn (tgt := 308) hx hb d_Model_act_63 (by decide) (by decide) rfl (by decide) ?_
              refine lv_iload hx hb d_Model_act_308 (lv_at hl 0 rfl) ?_
              refine lv_if_eq (tgt := 317) hx hb d_Model_act_310 (by decide) (fun _ => ?_) (fun h9 => absurd (by decide) h9)
              refine lv_iconst (v := (0 : Int32)) hx hb d_Model_act_317 (by decide) ?_
              subst hg1
              obtain ⟨rfl, rfl⟩ : ((m_M_init (m_M_asked (20 : Int32)) md).1) = z1 ∧ (0 : Int32) = z2 := Prod.mk.inj ((Eq.symm ((if_neg c_6).trans ((if_pos c_15).trans ((if_pos c_27).trans ((if_pos c_43).trans ((if_pos c_52).trans ((if_neg e_63_0).trans ((if_neg e_63_1).trans ((if_neg e_63_2).trans ((if_neg e_63_3).trans ((if_neg e_63_4).trans ((if_neg e_63_5).trans ((if_neg e_63_6).trans ((if_neg e_63_7).trans ((if_neg e_63_8).trans ((if_neg e_63_9).trans ((if_neg e_63_10).trans ((if_neg e_63_11).trans ((if_neg e_63_12).trans ((if_neg e_63_13).trans ((if_neg e_63_14).trans ((if_neg e_63_15).trans ((if_neg e_63_16).trans ((if_neg e_63_17).trans ((if_neg e_63_18).trans ((if_neg e_63_19).trans ((if_pos (by rfl)).trans rfl))))))))))))))))))))))))))).trans hres)
              exact CMa_ret (S := Unit) () hx hb hr hlocks hP hK hD hS d_Model_act_318
            rcases Decidable.em (k = 21) with e_63_21 | e_63_21
            · subst e_63_21
              refine lv_tableIn (tgt := 319) hx hb d_Model_act_63 (by decide) (by decide) rfl (by decide) ?_
              refine lv_aload_n hx hb d_Model_act_319 rfl (lv_at hl 3 rfl) ?_
              refine va_get (D := D) (ci := 2) (v := .ref o10) (C := R_Model) (T := F_Model) (N := 14) hx hb hk i_Model hown hK hP 0 rfl rfl 9 (by decide) (hk _ kl_Model_38) (fun _ h9 => h9) rfl d_Model_act_320 ?_
              refine lv_aload_n hx hb d_Model_act_323 rfl (lv_at hl 3 rfl) ?_
              refine va_get (D := D) (ci := 2) (v := .int (aWc g1)) (C := R_Model) (T := F_Model) (N := 14) hx hb hk i_Model hown hK hP 0 rfl rfl 11 (by decide) (hk _ kl_Model_41) (fun _ h9 => h9) rfl d_Model_act_324 ?_
              refine va_zald hx hb hK hP 10 1 rfl rfl (okM_eq hg1 (okM_init (hw c_15))).1 d_Model_act_327 ?_
              refine lv_if_eq (tgt := 340) hx hb d_Model_act_328 (by decide) (fun c_328 => ?_) (fun c_328 => ?_)
              · refine lv_iload_n hx hb d_Model_act_340 rfl (lv_at hl 5 rfl) ?_
                refine lv_sipush (v := (1000 : Int32)) hx hb d_Model_act_341 (by decide) ?_
                refine lv_iadd hx hb d_Model_act_344 ?_
                subst hg1
                obtain ⟨rfl, rfl⟩ : ((m_M_init (m_M_asked (21 : Int32)) md).1) = z1 ∧ (a + (1000 : Int32)) = z2 := Prod.mk.inj ((Eq.symm ((if_neg c_6).trans ((if_pos c_15).trans ((if_pos c_27).trans ((if_pos c_43).trans ((if_pos c_52).trans ((if_neg e_63_0).trans ((if_neg e_63_1).trans ((if_neg e_63_2).trans ((if_neg e_63_3).trans ((if_neg e_63_4).trans ((if_neg e_63_5).trans ((if_neg e_63_6).trans ((if_neg e_63_7).trans ((if_neg e_63_8).trans ((if_neg e_63_9).trans ((if_neg e_63_10).trans ((if_neg e_63_11).trans ((if_neg e_63_12).trans ((if_neg e_63_13).trans ((if_neg e_63_14).trans ((if_neg e_63_15).trans ((if_neg e_63_16).trans ((if_neg e_63_17).trans ((if_neg e_63_18).trans ((if_neg e_63_19).trans ((if_neg e_63_20).trans ((if_pos (by rfl)).trans ((if_pos c_328).trans rfl))))))))))))))))))))))))))))).trans hres)
                exact CMa_ret (S := Unit) () hx hb hr hlocks hP hK hD hS d_Model_act_345
              · refine lv_iload_n hx hb d_Model_act_331 rfl (lv_at hl 5 rfl) ?_
                refine lv_if_gt (tgt := 340) hx hb d_Model_act_332 (by decide) (fun c_332 => ?_) (fun c_332 => ?_)
                · refine lv_iload_n hx hb d_Model_act_340 rfl (lv_at hl 5 rfl) ?_
                  refine lv_sipush (v := (1000 : Int32)) hx hb d_Model_act_341 (by decide) ?_
                  refine lv_iadd hx hb d_Model_act_344 ?_
                  subst hg1
                  obtain ⟨rfl, rfl⟩ : ((m_M_init (m_M_asked (21 : Int32)) md).1) = z1 ∧ (a + (1000 : Int32)) = z2 := Prod.mk.inj ((Eq.symm ((if_neg c_6).trans ((if_pos c_15).trans ((if_pos c_27).trans ((if_pos c_43).trans ((if_pos c_52).trans ((if_neg e_63_0).trans ((if_neg e_63_1).trans ((if_neg e_63_2).trans ((if_neg e_63_3).trans ((if_neg e_63_4).trans ((if_neg e_63_5).trans ((if_neg e_63_6).trans ((if_neg e_63_7).trans ((if_neg e_63_8).trans ((if_neg e_63_9).trans ((if_neg e_63_10).trans ((if_neg e_63_11).trans ((if_neg e_63_12).trans ((if_neg e_63_13).trans ((if_neg e_63_14).trans ((if_neg e_63_15).trans ((if_neg e_63_16).trans ((if_neg e_63_17).trans ((if_neg e_63_18).trans ((if_neg e_63_19).trans ((if_neg e_63_20).trans ((if_pos (by rfl)).trans ((if_neg c_328).trans ((if_pos c_332).trans rfl)))))))))))))))))))))))))))))).trans hres)
                  exact CMa_ret (S := Unit) () hx hb hr hlocks hP hK hD hS d_Model_act_345
                · refine lv_bipush (v := (-103 : Int32)) hx hb d_Model_act_335 (by decide) ?_
                  refine lv_goto (tgt := 345) hx hb d_Model_act_337 (by decide) ?_
                  subst hg1
                  obtain ⟨rfl, rfl⟩ : ((m_M_init (m_M_asked (21 : Int32)) md).1) = z1 ∧ (-103 : Int32) = z2 := Prod.mk.inj ((Eq.symm ((if_neg c_6).trans ((if_pos c_15).trans ((if_pos c_27).trans ((if_pos c_43).trans ((if_pos c_52).trans ((if_neg e_63_0).trans ((if_neg e_63_1).trans ((if_neg e_63_2).trans ((if_neg e_63_3).trans ((if_neg e_63_4).trans ((if_neg e_63_5).trans ((if_neg e_63_6).trans ((if_neg e_63_7).trans ((if_neg e_63_8).trans ((if_neg e_63_9).trans ((if_neg e_63_10).trans ((if_neg e_63_11).trans ((if_neg e_63_12).trans ((if_neg e_63_13).trans ((if_neg e_63_14).trans ((if_neg e_63_15).trans ((if_neg e_63_16).trans ((if_neg e_63_17).trans ((if_neg e_63_18).trans ((if_neg e_63_19).trans ((if_neg e_63_20).trans ((if_pos (by rfl)).trans ((if_neg c_328).trans ((if_neg c_332).trans rfl)))))))))))))))))))))))))))))).trans hres)
                  exact CMa_ret (S := Unit) () hx hb hr hlocks hP hK hD hS d_Model_act_345
            rcases Decidable.em (k = 22) with e_63_22 | e_63_22
            · subst e_63_22
              refine lv_tableIn (tgt := 346) hx hb d_Model_act_63 (by decide) (by decide) rfl (by decide) ?_
              refine lv_aload_n hx hb d_Model_act_346 rfl (lv_at hl 3 rfl) ?_
              refine va_get (D := D) (ci := 2) (v := .ref o6) (C := R_Model) (T := F_Model) (N := 14) hx hb hk i_Model hown hK hP 0 rfl rfl 5 (by decide) (hk _ kl_Model_25) (fun _ h9 => h9) rfl d_Model_act_347 ?_
              refine lv_aload_n hx hb d_Model_act_350 rfl (lv_at hl 3 rfl) ?_
              refine va_get (D := D) (ci := 2) (v := .int (aWc g1)) (C := R_Model) (T := F_Model) (N := 14) hx hb hk i_Model hown hK hP 0 rfl rfl 11 (by decide) (hk _ kl_Model_41) (fun _ h9 => h9) rfl d_Model_act_351 ?_
              refine lv_dup2_11 hx hb d_Model_act_354 rfl rfl ?_
              refine va_iald hx hb hK hP 6 0 rfl rfl (okM_eq hg1 (okM_init (hw c_15))).1 d_Model_act_355 ?_
              refine lv_iload hx hb d_Model_act_356 (lv_at hl 0 rfl) ?_
              refine lv_if_eq (tgt := 365) hx hb d_Model_act_358 (by decide) (fun _ => ?_) (fun h9 => absurd (by decide) h9)
              refine lv_iconst (v := (2 : Int32)) hx hb d_Model_act_365 (by decide) ?_
              refine lv_iadd hx hb d_Model_act_366 ?_
              refine va_iast hx hb hK hP hD hS 6 0 rfl rfl (okM_eq hg1 (okM_init (hw c_15))).1 d_Model_act_367 (fun H locs hP hD hS => ?_)
              replace hP : va_P D classes (M13 cI cZ o o1 o2 o3 o4 o5 o6 o7 o8 o9 o10 o11 o12 (uMa g1 (upd ((aMa g1)) (aWc g1).toNatClampNeg (((aMa g1) (aWc g1).toNatClampNeg) + (2 : Int32))))) H := hP
              replace hD : va_D A (M13 cI cZ o o1 o2 o3 o4 o5 o6 o7 o8 o9 o10 o11 o12 (uMa g1 (upd ((aMa g1)) (aWc g1).toNatClampNeg (((aMa g1) (aWc g1).toNatClampNeg) + (2 : Int32))))) := hD
              refine lv_aload_n hx hb d_Model_act_368 rfl (lv_at hl 3 rfl) ?_
              refine va_get (D := D) (ci := 2) (v := .ref o6) (C := R_Model) (T := F_Model) (N := 14) hx hb hk i_Model hown hK hP 0 rfl rfl 5 (by decide) (hk _ kl_Model_25) (fun _ h9 => h9) rfl d_Model_act_369 ?_
              refine lv_aload_n hx hb d_Model_act_372 rfl (lv_at hl 3 rfl) ?_
              refine va_get (D := D) (ci := 2) (v := .int (aWc (uMa g1 (upd ((aMa g1)) (aWc g1).toNatClampNeg (((aMa g1) (aWc g1).toNatClampNeg) + (2 : Int32)))))) (C := R_Model) (T := F_Model) (N := 14) hx hb hk i_Model hown hK hP 0 rfl rfl 11 (by decide) (hk _ kl_Model_41) (fun _ h9 => h9) rfl d_Model_act_373 ?_
              refine va_iald hx hb hK hP 6 0 rfl rfl (okM_uMa (okM_eq hg1 (okM_init (hw c_15)))).1 d_Model_act_376 ?_
              subst hg1
              obtain ⟨rfl, rfl⟩ : (uMa ((m_M_init (m_M_asked (22 : Int32)) md).1) (upd ((aMa ((m_M_init (m_M_asked (22 : Int32)) md).1))) (aWc ((m_M_init (m_M_asked (22 : Int32)) md).1)).toNatClampNeg (((aMa ((m_M_init (m_M_asked (22 : Int32)) md).1)) (aWc ((m_M_init (m_M_asked (22 : Int32)) md).1)).toNatClampNeg) + (2 : Int32)))) = z1 ∧ ((aMa (uMa ((m_M_init (m_M_asked (22 : Int32)) md).1) (upd ((aMa ((m_M_init (m_M_asked (22 : Int32)) md).1))) (aWc ((m_M_init (m_M_asked (22 : Int32)) md).1)).toNatClampNeg (((aMa ((m_M_init (m_M_asked (22 : Int32)) md).1)) (aWc ((m_M_init (m_M_asked (22 : Int32)) md).1)).toNatClampNeg) + (2 : Int32))))) (aWc (uMa ((m_M_init (m_M_asked (22 : Int32)) md).1) (upd ((aMa ((m_M_init (m_M_asked (22 : Int32)) md).1))) (aWc ((m_M_init (m_M_asked (22 : Int32)) md).1)).toNatClampNeg (((aMa ((m_M_init (m_M_asked (22 : Int32)) md).1)) (aWc ((m_M_init (m_M_asked (22 : Int32)) md).1)).toNatClampNeg) + (2 : Int32))))).toNatClampNeg) = z2 := Prod.mk.inj ((Eq.symm ((if_neg c_6).trans ((if_pos c_15).trans ((if_pos c_27).trans ((if_pos c_43).trans ((if_pos c_52).trans ((if_neg e_63_0).trans ((if_neg e_63_1).trans ((if_neg e_63_2).trans ((if_neg e_63_3).trans ((if_neg e_63_4).trans ((if_neg e_63_5).trans ((if_neg e_63_6).trans ((if_neg e_63_7).trans ((if_neg e_63_8).trans ((if_neg e_63_9).trans ((if_neg e_63_10).trans ((if_neg e_63_11).trans ((if_neg e_63_12).trans ((if_neg e_63_13).trans ((if_neg e_63_14).trans ((if_neg e_63_15).trans ((if_neg e_63_16).trans ((if_neg e_63_17).trans ((if_neg e_63_18).trans ((if_neg e_63_19).trans ((if_neg e_63_20).trans ((if_neg e_63_21).trans ((if_pos (by rfl)).trans rfl))))))))))))))))))))))))))))).trans hres)
              exact CMa_ret (S := Unit) () hx hb hr hlocks hP hK hD hS d_Model_act_377
            rcases Decidable.em (k = 23) with e_63_23 | e_63_23
            · subst e_63_23
              refine lv_tableIn (tgt := 378) hx hb d_Model_act_63 (by decide) (by decide) rfl (by decide) ?_
              refine lv_bipush (v := (20 : Int32)) hx hb d_Model_act_378 (by decide) ?_
              subst hg1
              obtain ⟨rfl, rfl⟩ : ((m_M_init (m_M_asked (23 : Int32)) md).1) = z1 ∧ (20 : Int32) = z2 := Prod.mk.inj ((Eq.symm ((if_neg c_6).trans ((if_pos c_15).trans ((if_pos c_27).trans ((if_pos c_43).trans ((if_pos c_52).trans ((if_neg e_63_0).trans ((if_neg e_63_1).trans ((if_neg e_63_2).trans ((if_neg e_63_3).trans ((if_neg e_63_4).trans ((if_neg e_63_5).trans ((if_neg e_63_6).trans ((if_neg e_63_7).trans ((if_neg e_63_8).trans ((if_neg e_63_9).trans ((if_neg e_63_10).trans ((if_neg e_63_11).trans ((if_neg e_63_12).trans ((if_neg e_63_13).trans ((if_neg e_63_14).trans ((if_neg e_63_15).trans ((if_neg e_63_16).trans ((if_neg e_63_17).trans ((if_neg e_63_18).trans ((if_neg e_63_19).trans ((if_neg e_63_20).trans ((if_neg e_63_21).trans ((if_neg e_63_22).trans ((if_pos (by rfl)).trans rfl)))))))))))))))))))))))))))))).trans hres)
              exact CMa_ret (S := Unit) () hx hb hr hlocks hP hK hD hS d_Model_act_380
            rcases Decidable.em (k = 24) with e_63_24 | e_63_24
            · subst e_63_24
              refine lv_tableIn (tgt := 381) hx hb d_Model_act_63 (by decide) (by decide) rfl (by decide) ?_
              refine lv_aload_n hx hb d_Model_act_381 rfl (lv_at hl 3 rfl) ?_
              refine va_get (D := D) (ci := 2) (v := .ref o3) (C := R_Model) (T := F_Model) (N := 14) hx hb hk i_Model hown hK hP 0 rfl rfl 2 (by decide) (hk _ kl_Model_16) (fun _ h9 => h9) rfl d_Model_act_382 ?_
              refine lv_aload_n hx hb d_Model_act_385 rfl (lv_at hl 3 rfl) ?_
              refine va_get (D := D) (ci := 2) (v := .int (aWc g1)) (C := R_Model) (T := F_Model) (N := 14) hx hb hk i_Model hown hK hP 0 rfl rfl 11 (by decide) (hk _ kl_Model_41) (fun _ h9 => h9) rfl d_Model_act_386 ?_
              refine va_iald hx hb hK hP 3 0 rfl rfl (okM_eq hg1 (okM_init (hw c_15))).1 d_Model_act_389 ?_
              subst hg1
              obtain ⟨rfl, rfl⟩ : ((m_M_init (m_M_asked (24 : Int32)) md).1) = z1 ∧ ((aMi ((m_M_init (m_M_asked (24 : Int32)) md).1)) (aWc ((m_M_init (m_M_asked (24 : Int32)) md).1)).toNatClampNeg) = z2 := Prod.mk.inj ((Eq.symm ((if_neg c_6).trans ((if_pos c_15).trans ((if_pos c_27).trans ((if_pos c_43).trans ((if_pos c_52).trans ((if_neg e_63_0).trans ((if_neg e_63_1).trans ((if_neg e_63_2).trans ((if_neg e_63_3).trans ((if_neg e_63_4).trans ((if_neg e_63_5).trans ((if_neg e_63_6).trans ((if_neg e_63_7).trans ((if_neg e_63_8).trans ((if_neg e_63_9).trans ((if_neg e_63_10).trans ((if_neg e_63_11).trans ((if_neg e_63_12).trans ((if_neg e_63_13).trans ((if_neg e_63_14).trans ((if_neg e_63_15).trans ((if_neg e_63_16).trans ((if_neg e_63_17).trans ((if_neg e_63_18).trans ((if_neg e_63_19).trans ((if_neg e_63_20).trans ((if_neg e_63_21).trans ((if_neg e_63_22).trans ((if_neg e_63_23).trans ((if_pos (by rfl)).trans rfl))))))))))))))))))))))))))))))).trans hres)
              exact CMa_ret (S := Unit) () hx hb hr hlocks hP hK hD hS d_Model_act_390
            rcases Decidable.em (k = 25) with e_63_25 | e_63_25
            · subst e_63_25
              refine lv_tableIn (tgt := 391) hx hb d_Model_act_63 (by decide) (by decide) rfl (by decide) ?_
              refine lv_iload hx hb d_Model_act_391 (lv_at hl 0 rfl) ?_
              refine lv_if_eq (tgt := 401) hx hb d_Model_act_393 (by decide) (fun _ => ?_) (fun h9 => absurd (by decide) h9)
              refine lv_bipush (v := (18 : Int32)) hx hb d_Model_act_401 (by decide) ?_
              subst hg1
              obtain ⟨rfl, rfl⟩ : ((m_M_init (m_M_asked (25 : Int32)) md).1) = z1 ∧ (18 : Int32) = z2 := Prod.mk.inj ((Eq.symm ((if_neg c_6).trans ((if_pos c_15).trans ((if_pos c_27).trans ((if_pos c_43).trans ((if_pos c_52).trans ((if_neg e_63_0).trans ((if_neg e_63_1).trans ((if_neg e_63_2).trans ((if_neg e_63_3).trans ((if_neg e_63_4).trans ((if_neg e_63_5).trans ((if_neg e_63_6).trans ((if_neg e_63_7).trans ((if_neg e_63_8).trans ((if_neg e_63_9).trans ((if_neg e_63_10).trans ((if_neg e_63_11).trans ((if_neg e_63_12).trans ((if_neg e_63_13).trans ((if_neg e_63_14).trans ((if_neg e_63_15).trans ((if_neg e_63_16).trans ((if_neg e_63_17).trans ((if_neg e_63_18).trans ((if_neg e_63_19).trans ((if_neg e_63_20).trans ((if_neg e_63_21).trans ((if_neg e_63_22).trans ((if_neg e_63_23).trans ((if_neg e_63_24).trans ((if_pos (by rfl)).trans rfl)))))))))))))))))))))))))))))))).trans hres)
              exact CMa_ret (S := Unit) () hx hb hr hlocks hP hK hD hS d_Model_act_403
            rcases Decidable.em (k = 26) with e_63_26 | e_63_26
            · subst e_63_26
              refine lv_tableIn (tgt := 404) hx hb d_Model_act_63 (by decide) (by decide) rfl (by decide) ?_
              refine lv_aload_n hx hb d_Model_act_404 rfl (lv_at hl 3 rfl) ?_
              refine lv_iconst (v := (2 : Int32)) hx hb d_Model_act_405 (by decide) ?_
              refine CMv.callV (wc := M13 cI cZ o o1 o2 o3 o4 o5 o6 o7 o8 o9 o10 o11 o12 g1) (wr := []) (b := o) (av := [.int (2 : Int32)]) (rest := []) hx hb hml hown hk (c_M_create l D cI cZ o o1 o2 o3 o4 o5 o6 o7 o8 o9 o10 o11 o12 (2 : Int32) g1 (okM_mono (okM_eq hg1 (okM_init (hw c_15))) (by decide)) _ rfl) hK hP hD hS hA hSt hl.1 (va_recv hK hP (ci := 2) (q0 := 0) rfl rfl) d_Model_act_406 kc_Model_create ki_Model kl_Model_115 kn_Model_create kx_Model_create (n := 1) rfl (by decide +kernel) ⟨Nat.le_of_ble_eq_true rfl, Nat.le_of_ble_eq_true rfl⟩ rfl rfl (Nat.le_of_ble_eq_true rfl) ⟨Nat.le_of_ble_eq_true rfl, Nat.le_of_ble_eq_true rfl⟩ (fun H locs hP hD hS => ?_)
              replace hP : va_P D classes (M13 cI cZ o o1 o2 o3 o4 o5 o6 o7 o8 o9 o10 o11 o12 (m_M_create (2 : Int32) g1)) H := hP
              replace hD : va_D A (M13 cI cZ o o1 o2 o3 o4 o5 o6 o7 o8 o9 o10 o11 o12 (m_M_create (2 : Int32) g1)) := hD
              obtain ⟨g4, hg4⟩ : ∃ z, (m_M_create (2 : Int32) g1) = z := ⟨_, rfl⟩
              rw [hg4] at hP hD
              refine lv_iconst (v := (1 : Int32)) hx hb d_Model_act_409 (by decide) ?_
              subst hg4
              subst hg1
              obtain ⟨rfl, rfl⟩ : (m_M_create (2 : Int32) ((m_M_init (m_M_asked (26 : Int32)) md).1)) = z1 ∧ (1 : Int32) = z2 := Prod.mk.inj ((Eq.symm ((if_neg c_6).trans ((if_pos c_15).trans ((if_pos c_27).trans ((if_pos c_43).trans ((if_pos c_52).trans ((if_neg e_63_0).trans ((if_neg e_63_1).trans ((if_neg e_63_2).trans ((if_neg e_63_3).trans ((if_neg e_63_4).trans ((if_neg e_63_5).trans ((if_neg e_63_6).trans ((if_neg e_63_7).trans ((if_neg e_63_8).trans ((if_neg e_63_9).trans ((if_neg e_63_10).trans ((if_neg e_63_11).trans ((if_neg e_63_12).trans ((if_neg e_63_13).trans ((if_neg e_63_14).trans ((if_neg e_63_15).trans ((if_neg e_63_16).trans ((if_neg e_63_17).trans ((if_neg e_63_18).trans ((if_neg e_63_19).trans ((if_neg e_63_20).trans ((if_neg e_63_21).trans ((if_neg e_63_22).trans ((if_neg e_63_23).trans ((if_neg e_63_24).trans ((if_neg e_63_25).trans ((if_pos (by rfl)).trans rfl))))))))))))))))))))))))))))))))).trans hres)
              exact CMa_ret (S := Unit) () hx hb hr hlocks hP hK hD hS d_Model_act_410
            rcases Decidable.em (k = 27) with e_63_27 | e_63_27
            · subst e_63_27
              refine lv_tableIn (tgt := 381) hx hb d_Model_act_63 (by decide) (by decide) rfl (by decide) ?_
              refine lv_aload_n hx hb d_Model_act_381 rfl (lv_at hl 3 rfl) ?_
              refine va_get (D := D) (ci := 2) (v := .ref o3) (C := R_Model) (T := F_Model) (N := 14) hx hb hk i_Model hown hK hP 0 rfl rfl 2 (by decide) (hk _ kl_Model_16) (fun _ h9 => h9) rfl d_Model_act_382 ?_
              refine lv_aload_n hx hb d_Model_act_385 rfl (lv_at hl 3 rfl) ?_
              refine va_get (D := D) (ci := 2) (v := .int (aWc g1)) (C := R_Model) (T := F_Model) (N := 14) hx hb hk i_Model hown hK hP 0 rfl rfl 11 (by decide) (hk _ kl_Model_41) (fun _ h9 => h9) rfl d_Model_act_386 ?_
              refine va_iald hx hb hK hP 3 0 rfl rfl (okM_eq hg1 (okM_init (hw c_15))).1 d_Model_act_389 ?_
              subst hg1
              obtain ⟨rfl, rfl⟩ : ((m_M_init (m_M_asked (27 : Int32)) md).1) = z1 ∧ ((aMi ((m_M_init (m_M_asked (27 : Int32)) md).1)) (aWc ((m_M_init (m_M_asked (27 : Int32)) md).1)).toNatClampNeg) = z2 := Prod.mk.inj ((Eq.symm ((if_neg c_6).trans ((if_pos c_15).trans ((if_pos c_27).trans ((if_pos c_43).trans ((if_pos c_52).trans ((if_neg e_63_0).trans ((if_neg e_63_1).trans ((if_neg e_63_2).trans ((if_neg e_63_3).trans ((if_neg e_63_4).trans ((if_neg e_63_5).trans ((if_neg e_63_6).trans ((if_neg e_63_7).trans ((if_neg e_63_8).trans ((if_neg e_63_9).trans ((if_neg e_63_10).trans ((if_neg e_63_11).trans ((if_neg e_63_12).trans ((if_neg e_63_13).trans ((if_neg e_63_14).trans ((if_neg e_63_15).trans ((if_neg e_63_16).trans ((if_neg e_63_17).trans ((if_neg e_63_18).trans ((if_neg e_63_19).trans ((if_neg e_63_20).trans ((if_neg e_63_21).trans ((if_neg e_63_22).trans ((if_neg e_63_23).trans ((if_neg e_63_24).trans ((if_neg e_63_25).trans ((if_neg e_63_26).trans ((if_pos (by rfl)).trans rfl)))))))))))))))))))))))))))))))))).trans hres)
              exact CMa_ret (S := Unit) () hx hb hr hlocks hP hK hD hS d_Model_act_390
            rcases Decidable.em (k = 28) with e_63_28 | e_63_28
            · subst e_63_28
              refine lv_tableIn (tgt := 411) hx hb d_Model_act_63 (by decide) (by decide) rfl (by decide) ?_
              refine lv_iconst (v := (5 : Int32)) hx hb d_Model_act_411 (by decide) ?_
              subst hg1
              obtain ⟨rfl, rfl⟩ : ((m_M_init (m_M_asked (28 : Int32)) md).1) = z1 ∧ (5 : Int32) = z2 := Prod.mk.inj ((Eq.symm ((if_neg c_6).trans ((if_pos c_15).trans ((if_pos c_27).trans ((if_pos c_43).trans ((if_pos c_52).trans ((if_neg e_63_0).trans ((if_neg e_63_1).trans ((if_neg e_63_2).trans ((if_neg e_63_3).trans ((if_neg e_63_4).trans ((if_neg e_63_5).trans ((if_neg e_63_6).trans ((if_neg e_63_7).trans ((if_neg e_63_8).trans ((if_neg e_63_9).trans ((if_neg e_63_10).trans ((if_neg e_63_11).trans ((if_neg e_63_12).trans ((if_neg e_63_13).trans ((if_neg e_63_14).trans ((if_neg e_63_15).trans ((if_neg e_63_16).trans ((if_neg e_63_17).trans ((if_neg e_63_18).trans ((if_neg e_63_19).trans ((if_neg e_63_20).trans ((if_neg e_63_21).trans ((if_neg e_63_22).trans ((if_neg e_63_23).trans ((if_neg e_63_24).trans ((if_neg e_63_25).trans ((if_neg e_63_26).trans ((if_neg e_63_27).trans ((if_pos (by rfl)).trans rfl))))))))))))))))))))))))))))))))))).trans hres)
              exact CMa_ret (S := Unit) () hx hb hr hlocks hP hK hD hS d_Model_act_412
            rcases Decidable.em (k = 29) with e_63_29 | e_63_29
            · subst e_63_29
              refine lv_tableOut (tgt := 413) hx hb d_Model_act_63 (by decide) (by decide) ?_
              refine lv_bipush (v := (-104 : Int32)) hx hb d_Model_act_413 (by decide) ?_
              subst hg1
              obtain ⟨rfl, rfl⟩ : ((m_M_init (m_M_asked (29 : Int32)) md).1) = z1 ∧ (-104 : Int32) = z2 := Prod.mk.inj ((Eq.symm ((if_neg c_6).trans ((if_pos c_15).trans ((if_pos c_27).trans ((if_pos c_43).trans ((if_pos c_52).trans ((if_neg e_63_0).trans ((if_neg e_63_1).trans ((if_neg e_63_2).trans ((if_neg e_63_3).trans ((if_neg e_63_4).trans ((if_neg e_63_5).trans ((if_neg e_63_6).trans ((if_neg e_63_7).trans ((if_neg e_63_8).trans ((if_neg e_63_9).trans ((if_neg e_63_10).trans ((if_neg e_63_11).trans ((if_neg e_63_12).trans ((if_neg e_63_13).trans ((if_neg e_63_14).trans ((if_neg e_63_15).trans ((if_neg e_63_16).trans ((if_neg e_63_17).trans ((if_neg e_63_18).trans ((if_neg e_63_19).trans ((if_neg e_63_20).trans ((if_neg e_63_21).trans ((if_neg e_63_22).trans ((if_neg e_63_23).trans ((if_neg e_63_24).trans ((if_neg e_63_25).trans ((if_neg e_63_26).trans ((if_neg e_63_27).trans ((if_neg e_63_28).trans ((if_pos (by rfl)).trans rfl)))))))))))))))))))))))))))))))))))).trans hres)
              exact CMa_ret (S := Unit) () hx hb hr hlocks hP hK hD hS d_Model_act_415
            exact False.elim (dom30 (mIn_in (by decide) c_6) e_63_0 e_63_1 e_63_2 e_63_3 e_63_4 e_63_5 e_63_6 e_63_7 e_63_8 e_63_9 e_63_10 e_63_11 e_63_12 e_63_13 e_63_14 e_63_15 e_63_16 e_63_17 e_63_18 e_63_19 e_63_20 e_63_21 e_63_22 e_63_23 e_63_24 e_63_25 e_63_26 e_63_27 e_63_28 e_63_29)
          · refine lv_iconst (v := (1 : Int32)) hx hb d_Model_act_55 (by decide) ?_
            refine lv_goto (tgt := 60) hx hb d_Model_act_56 (by decide) ?_
            refine lv_istore (lv' := [(5, .int (1 : Int32)), (4, .int (m_M_init (m_M_asked k) md).2), (3, .int (m_M_asked k)), (0, .ref o), (1, .int k), (2, .int a)]) hx hb d_Model_act_60 hl (by decide) rfl (fun ls hl => ?_)
            refine lv_iload_n hx hb d_Model_act_62 rfl (lv_at hl 4 rfl) ?_
            rcases Decidable.em (k = 0) with e_63_0 | e_63_0
            · subst e_63_0
              refine lv_tableIn (tgt := 192) hx hb d_Model_act_63 (by decide) (by decide) rfl (by decide) ?_
              refine lv_aload_n hx hb d_Model_act_192 rfl (lv_at hl 3 rfl) ?_
              refine va_get (D := D) (ci := 2) (v := .ref o2) (C := R_Model) (T := F_Model) (N := 14) hx hb hk i_Model hown hK hP 0 rfl rfl 1 (by decide) (hk _ kl_Model_13) (fun _ h9 => h9) rfl d_Model_act_193 ?_
              refine lv_aload_n hx hb d_Model_act_196 rfl (lv_at hl 3 rfl) ?_
              refine va_get (D := D) (ci := 2) (v := .int (aWc g1)) (C := R_Model) (T := F_Model) (N := 14) hx hb hk i_Model hown hK hP 0 rfl rfl 11 (by decide) (hk _ kl_Model_41) (fun _ h9 => h9) rfl d_Model_act_197 ?_
              refine lv_dup2_11 hx hb d_Model_act_200 rfl rfl ?_
              refine va_iald hx hb hK hP 2 0 rfl rfl (okM_eq hg1 (okM_init (hw c_15))).1 d_Model_act_201 ?_
              refine lv_iload_n hx hb d_Model_act_202 rfl (lv_at hl 5 rfl) ?_
              refine lv_iadd hx hb d_Model_act_203 ?_
              refine va_iast hx hb hK hP hD hS 2 0 rfl rfl (okM_eq hg1 (okM_init (hw c_15))).1 d_Model_act_204 (fun H locs hP hD hS => ?_)
              replace hP : va_P D classes (M13 cI cZ o o1 o2 o3 o4 o5 o6 o7 o8 o9 o10 o11 o12 (uBa g1 (upd ((aBa g1)) (aWc g1).toNatClampNeg (((aBa g1) (aWc g1).toNatClampNeg) + a)))) H := hP
              replace hD : va_D A (M13 cI cZ o o1 o2 o3 o4 o5 o6 o7 o8 o9 o10 o11 o12 (uBa g1 (upd ((aBa g1)) (aWc g1).toNatClampNeg (((aBa g1) (aWc g1).toNatClampNeg) + a)))) := hD
              refine lv_aload_n hx hb d_Model_act_205 rfl (lv_at hl 3 rfl) ?_
              refine va_get (D := D) (ci := 2) (v := .ref o2) (C := R_Model) (T := F_Model) (N := 14) hx hb hk i_Model hown hK hP 0 rfl rfl 1 (by decide) (hk _ kl_Model_13) (fun _ h9 => h9) rfl d_Model_act_206 ?_
              refine lv_aload_n hx hb d_Model_act_209 rfl (lv_at hl 3 rfl) ?_
              refine va_get (D := D) (ci := 2) (v := .int (aWc (uBa g1 (upd ((aBa g1)) (aWc g1).toNatClampNeg (((aBa g1) (aWc g1).toNatClampNeg) + a))))) (C := R_Model) (T := F_Model) (N := 14) hx hb hk i_Model hown hK hP 0 rfl rfl 11 (by decide) (hk _ kl_Model_41) (fun _ h9 => h9) rfl d_Model_act_210 ?_
              refine va_iald hx hb hK hP 2 0 rfl rfl (okM_uBa (okM_eq hg1 (okM_init (hw c_15)))).1 d_Model_act_213 ?_
              subst hg1
              obtain ⟨rfl, rfl⟩ : (uBa ((m_M_init (m_M_asked (0 : Int32)) md).1) (upd ((aBa ((m_M_init (m_M_asked (0 : Int32)) md).1))) (aWc ((m_M_init (m_M_asked (0 : Int32)) md).1)).toNatClampNeg (((aBa ((m_M_init (m_M_asked (0 : Int32)) md).1)) (aWc ((m_M_init (m_M_asked (0 : Int32)) md).1)).toNatClampNeg) + a))) = z1 ∧ ((aBa (uBa ((m_M_init (m_M_asked (0 : Int32)) md).1) (upd ((aBa ((m_M_init (m_M_asked (0 : Int32)) md).1))) (aWc ((m_M_init (m_M_asked (0 : Int32)) md).1)).toNatClampNeg (((aBa ((m_M_init (m_M_asked (0 : Int32)) md).1)) (aWc ((m_M_init (m_M_asked (0 : Int32)) md).1)).toNatClampNeg) + a)))) (aWc (uBa ((m_M_init (m_M_asked (0 : Int32)) md).1) (upd ((aBa ((m_M_init (m_M_asked (0 : Int32)) md).1))) (aWc ((m_M_init (m_M_asked (0 : Int32)) md).1)).toNatClampNeg (((aBa ((m_M_init (m_M_asked (0 : Int32)) md).1)) (aWc ((m_M_init (m_M_asked (0 : Int32)) md).1)).toNatClampNeg) + a)))).toNatClampNeg) = z2 := Prod.mk.inj ((Eq.symm ((if_neg c_6).trans ((if_pos c_15).trans ((if_pos c_27).trans ((if_pos c_43).trans ((if_neg c_52).trans ((if_pos (by rfl)).trans rfl))))))).trans hres)
              exact CMa_ret (S := Unit) () hx hb hr hlocks hP hK hD hS d_Model_act_214
            rcases Decidable.em (k = 1) with e_63_1 | e_63_1
            · subst e_63_1
              refine lv_tableIn (tgt := 215) hx hb d_Model_act_63 (by decide) (by decide) rfl (by decide) ?_
              refine lv_aload_n hx hb d_Model_act_215 rfl (lv_at hl 3 rfl) ?_
              refine va_get (D := D) (ci := 2) (v := .ref o2) (C := R_Model) (T := F_Model) (N := 14) hx hb hk i_Model hown hK hP 0 rfl rfl 1 (by decide) (hk _ kl_Model_13) (fun _ h9 => h9) rfl d_Model_act_216 ?_
              refine lv_aload_n hx hb d_Model_act_219 rfl (lv_at hl 3 rfl) ?_
              refine va_get (D := D) (ci := 2) (v := .int (aWc g1)) (C := R_Model) (T := F_Model) (N := 14) hx hb hk i_Model hown hK hP 0 rfl rfl 11 (by decide) (hk _ kl_Model_41) (fun _ h9 => h9) rfl d_Model_act_220 ?_
              refine va_iald hx hb hK hP 2 0 rfl rfl (okM_eq hg1 (okM_init (hw c_15))).1 d_Model_act_223 ?_
              subst hg1
              obtain ⟨rfl, rfl⟩ : ((m_M_init (m_M_asked (1 : Int32)) md).1) = z1 ∧ ((aBa ((m_M_init (m_M_asked (1 : Int32)) md).1)) (aWc ((m_M_init (m_M_asked (1 : Int32)) md).1)).toNatClampNeg) = z2 := Prod.mk.inj ((Eq.symm ((if_neg c_6).trans ((if_pos c_15).trans ((if_pos c_27).trans ((if_pos c_43).trans ((if_neg c_52).trans ((if_neg e_63_0).trans ((if_pos (by rfl)).trans rfl)))))))).trans hres)
              exact CMa_ret (S := Unit) () hx hb hr hlocks hP hK hD hS d_Model_act_224
            rcases Decidable.em (k = 2) with e_63_2 | e_63_2
            · subst e_63_2
              refine lv_tableIn (tgt := 225) hx hb d_Model_act_63 (by decide) (by decide) rfl (by decide) ?_
              refine lv_aload_n hx hb d_Model_act_225 rfl (lv_at hl 3 rfl) ?_
              refine va_get (D := D) (ci := 2) (v := .ref o3) (C := R_Model) (T := F_Model) (N := 14) hx hb hk i_Model hown hK hP 0 rfl rfl 2 (by decide) (hk _ kl_Model_16) (fun _ h9 => h9) rfl d_Model_act_226 ?_
              refine lv_aload_n hx hb d_Model_act_229 rfl (lv_at hl 3 rfl) ?_
              refine va_get (D := D) (ci := 2) (v := .int (aWc g1)) (C := R_Model) (T := F_Model) (N := 14) hx hb hk i_Model hown hK hP 0 rfl rfl 11 (by decide) (hk _ kl_Model_41) (fun _ h9 => h9) rfl d_Model_act_230 ?_
              refine lv_iload_n hx hb d_Model_act_233 rfl (lv_at hl 5 rfl) ?_
              refine va_iast hx hb hK hP hD hS 3 0 rfl rfl (okM_eq hg1 (okM_init (hw c_15))).1 d_Model_act_234 (fun H locs hP hD hS => ?_)
              replace hP : va_P D classes (M13 cI cZ o o1 o2 o3 o4 o5 o6 o7 o8 o9 o10 o11 o12 (uMi g1 (upd ((aMi g1)) (aWc g1).toNatClampNeg a))) H := hP
              replace hD : va_D A (M13 cI cZ o o1 o2 o3 o4 o5 o6 o7 o8 o9 o10 o11 o12 (uMi g1 (upd ((aMi g1)) (aWc g1).toNatClampNeg a))) := hD
              refine lv_iload_n hx hb d_Model_act_235 rfl (lv_at hl 5 rfl) ?_
              subst hg1
              obtain ⟨rfl, rfl⟩ : (uMi ((m_M_init (m_M_asked (2 : Int32)) md).1) (upd ((aMi ((m_M_init (m_M_asked (2 : Int32)) md).1))) (aWc ((m_M_init (m_M_asked (2 : Int32)) md).1)).toNatClampNeg a)) = z1 ∧ a = z2 := Prod.mk.inj ((Eq.symm ((if_neg c_6).trans ((if_pos c_15).trans ((if_pos c_27).trans ((if_pos c_43).trans ((if_neg c_52).trans ((if_neg e_63_0).trans ((if_neg e_63_1).trans ((if_pos (by rfl)).trans rfl))))))))).trans hres)
              exact CMa_ret (S := Unit) () hx hb hr hlocks hP hK hD hS d_Model_act_236
            rcases Decidable.em (k = 3) with e_63_3 | e_63_3
            · subst e_63_3
              refine lv_tableIn (tgt := 237) hx hb d_Model_act_63 (by decide) (by decide) rfl (by decide) ?_
              refine lv_bipush (v := (70 : Int32)) hx hb d_Model_act_237 (by decide) ?_
              subst hg1
              obtain ⟨rfl, rfl⟩ : ((m_M_init (m_M_asked (3 : Int32)) md).1) = z1 ∧ (70 : Int32) = z2 := Prod.mk.inj ((Eq.symm ((if_neg c_6).trans ((if_pos c_15).trans ((if_pos c_27).trans ((if_pos c_43).trans ((if_neg c_52).trans ((if_neg e_63_0).trans ((if_neg e_63_1).trans ((if_neg e_63_2).trans ((if_pos (by rfl)).trans rfl)))))))))).trans hres)
              exact CMa_ret (S := Unit) () hx hb hr hlocks hP hK hD hS d_Model_act_239
            rcases Decidable.em (k = 4) with e_63_4 | e_63_4
            · subst e_63_4
              refine lv_tableIn (tgt := 240) hx hb d_Model_act_63 (by decide) (by decide) rfl (by decide) ?_
              refine lv_bipush (v := (6 : Int32)) hx hb d_Model_act_240 (by decide) ?_
              subst hg1
              obtain ⟨rfl, rfl⟩ : ((m_M_init (m_M_asked (4 : Int32)) md).1) = z1 ∧ (6 : Int32) = z2 := Prod.mk.inj ((Eq.symm ((if_neg c_6).trans ((if_pos c_15).trans ((if_pos c_27).trans ((if_pos c_43).trans ((if_neg c_52).trans ((if_neg e_63_0).trans ((if_neg e_63_1).trans ((if_neg e_63_2).trans ((if_neg e_63_3).trans ((if_pos (by rfl)).trans rfl))))))))))).trans hres)
              exact CMa_ret (S := Unit) () hx hb hr hlocks hP hK hD hS d_Model_act_242
            rcases Decidable.em (k = 5) with e_63_5 | e_63_5
            · subst e_63_5
              refine lv_tableIn (tgt := 243) hx hb d_Model_act_63 (by decide) (by decide) rfl (by decide) ?_
              refine lv_iconst (v := (5 : Int32)) hx hb d_Model_act_243 (by decide) ?_
              subst hg1
              obtain ⟨rfl, rfl⟩ : ((m_M_init (m_M_asked (5 : Int32)) md).1) = z1 ∧ (5 : Int32) = z2 := Prod.mk.inj ((Eq.symm ((if_neg c_6).trans ((if_pos c_15).trans ((if_pos c_27).trans ((if_pos c_43).trans ((if_neg c_52).trans ((if_neg e_63_0).trans ((if_neg e_63_1).trans ((if_neg e_63_2).trans ((if_neg e_63_3).trans ((if_neg e_63_4).trans ((if_pos (by rfl)).trans rfl)))))))))))).trans hres)
              exact CMa_ret (S := Unit) () hx hb hr hlocks hP hK hD hS d_Model_act_244
            rcases Decidable.em (k = 6) with e_63_6 | e_63_6
            · subst e_63_6
              refine lv_tableIn (tgt := 245) hx hb d_Model_act_63 (by decide) (by decide) rfl (by decide) ?_
              refine lv_iconst (v := (2 : Int32)) hx hb d_Model_act_245 (by decide) ?_
              subst hg1
              obtain ⟨rfl, rfl⟩ : ((m_M_init (m_M_asked (6 : Int32)) md).1) = z1 ∧ (2 : Int32) = z2 := Prod.mk.inj ((Eq.symm ((if_neg c_6).trans ((if_pos c_15).trans ((if_pos c_27).trans ((if_pos c_43).trans ((if_neg c_52).trans ((if_neg e_63_0).trans ((if_neg e_63_1).trans ((if_neg e_63_2).trans ((if_neg e_63_3).trans ((if_neg e_63_4).trans ((if_neg e_63_5).trans ((if_pos (by rfl)).trans rfl))))))))))))).trans hres)
              exact CMa_ret (S := Unit) () hx hb hr hlocks hP hK hD hS d_Model_act_246
            rcases Decidable.em (k = 7) with e_63_7 | e_63_7
            · subst e_63_7
              refine lv_tableIn (tgt := 247) hx hb d_Model_act_63 (by decide) (by decide) rfl (by decide) ?_
              refine lv_iconst (v := (4 : Int32)) hx hb d_Model_act_247 (by decide) ?_
              subst hg1
              obtain ⟨rfl, rfl⟩ : ((m_M_init (m_M_asked (7 : Int32)) md).1) = z1 ∧ (4 : Int32) = z2 := Prod.mk.inj ((Eq.symm ((if_neg c_6).trans ((if_pos c_15).trans ((if_pos c_27).trans ((if_pos c_43).trans ((if_neg c_52).trans ((if_neg e_63_0).trans ((if_neg e_63_1).trans ((if_neg e_63_2).trans ((if_neg e_63_3).trans ((if_neg e_63_4).trans ((if_neg e_63_5).trans ((if_neg e_63_6).trans ((if_pos (by rfl)).trans rfl)))))))))))))).trans hres)
              exact CMa_ret (S := Unit) () hx hb hr hlocks hP hK hD hS d_Model_act_248
            rcases Decidable.em (k = 8) with e_63_8 | e_63_8
            · subst e_63_8
              refine lv_tableIn (tgt := 247) hx hb d_Model_act_63 (by decide) (by decide) rfl (by decide) ?_
              refine lv_iconst (v := (4 : Int32)) hx hb d_Model_act_247 (by decide) ?_
              subst hg1
              obtain ⟨rfl, rfl⟩ : ((m_M_init (m_M_asked (8 : Int32)) md).1) = z1 ∧ (4 : Int32) = z2 := Prod.mk.inj ((Eq.symm ((if_neg c_6).trans ((if_pos c_15).trans ((if_pos c_27).trans ((if_pos c_43).trans ((if_neg c_52).trans ((if_neg e_63_0).trans ((if_neg e_63_1).trans ((if_neg e_63_2).trans ((if_neg e_63_3).trans ((if_neg e_63_4).trans ((if_neg e_63_5).trans ((if_neg e_63_6).trans ((if_neg e_63_7).trans ((if_pos (by rfl)).trans rfl))))))))))))))).trans hres)
              exact CMa_ret (S := Unit) () hx hb hr hlocks hP hK hD hS d_Model_act_248
            rcases Decidable.em (k = 9) with e_63_9 | e_63_9
            · subst e_63_9
              refine lv_tableIn (tgt := 249) hx hb d_Model_act_63 (by decide) (by decide) rfl (by decide) ?_
              refine lv_aload_n hx hb d_Model_act_249 rfl (lv_at hl 3 rfl) ?_
              refine lv_iconst (v := (3 : Int32)) hx hb d_Model_act_250 (by decide) ?_
              refine lv_iconst (v := (4 : Int32)) hx hb d_Model_act_251 (by decide) ?_
              refine CMv.callV (wc := M13 cI cZ o o1 o2 o3 o4 o5 o6 o7 o8 o9 o10 o11 o12 g1) (wr := []) (b := o) (av := [.int (3 : Int32), .int (4 : Int32)]) (rest := []) hx hb hml hown hk (c_M_initAlone l D cI cZ o o1 o2 o3 o4 o5 o6 o7 o8 o9 o10 o11 o12 (3 : Int32) (4 : Int32) g1 (by unfold vp_in; decide) (okM_mono (okM_eq hg1 (okM_init (hw c_15))) (by decide)) _ rfl) hK hP hD hS hA hSt hl.1 (va_recv hK hP (ci := 2) (q0 := 0) rfl rfl) d_Model_act_252 kc_Model_initAlone ki_Model kl_Model_72 kn_Model_initAlone kx_Model_initAlone (n := 2) rfl (by decide +kernel) ⟨Nat.le_of_ble_eq_true rfl, Nat.le_of_ble_eq_true rfl⟩ rfl rfl (Nat.le_of_ble_eq_true rfl) ⟨Nat.le_of_ble_eq_true rfl, Nat.le_of_ble_eq_true rfl⟩ (fun H locs hP hD hS => ?_)
              replace hP : va_P D classes (M13 cI cZ o o1 o2 o3 o4 o5 o6 o7 o8 o9 o10 o11 o12 (m_M_initAlone (3 : Int32) (4 : Int32) g1)) H := hP
              replace hD : va_D A (M13 cI cZ o o1 o2 o3 o4 o5 o6 o7 o8 o9 o10 o11 o12 (m_M_initAlone (3 : Int32) (4 : Int32) g1)) := hD
              obtain ⟨g5, hg5⟩ : ∃ z, (m_M_initAlone (3 : Int32) (4 : Int32) g1) = z := ⟨_, rfl⟩
              rw [hg5] at hP hD
              refine lv_bipush (v := (19 : Int32)) hx hb d_Model_act_255 (by decide) ?_
              subst hg5
              subst hg1
              obtain ⟨rfl, rfl⟩ : (m_M_initAlone (3 : Int32) (4 : Int32) ((m_M_init (m_M_asked (9 : Int32)) md).1)) = z1 ∧ (19 : Int32) = z2 := Prod.mk.inj ((Eq.symm ((if_neg c_6).trans ((if_pos c_15).trans ((if_pos c_27).trans ((if_pos c_43).trans ((if_neg c_52).trans ((if_neg e_63_0).trans ((if_neg e_63_1).trans ((if_neg e_63_2).trans ((if_neg e_63_3).trans ((if_neg e_63_4).trans ((if_neg e_63_5).trans ((if_neg e_63_6).trans ((if_neg e_63_7).trans ((if_neg e_63_8).trans ((if_pos (by rfl)).trans rfl)))))))))))))))).trans hres)
              exact CMa_ret (S := Unit) () hx hb hr hlocks hP hK hD hS d_Model_act_257
            rcases Decidable.em (k = 10) with e_63_10 | e_63_10
            · subst e_63_10
              refine lv_tableIn (tgt := 258) hx hb d_Model_act_63 (by decide) (by decide) rfl (by decide) ?_
              refine lv_iconst (v := (1 : Int32)) hx hb d_Model_act_258 (by decide) ?_
              subst hg1
              obtain ⟨rfl, rfl⟩ : ((m_M_init (m_M_asked (10 : Int32)) md).1) = z1 ∧ (1 : Int32) = z2 := Prod.mk.inj ((Eq.symm ((if_neg c_6).trans ((if_pos c_15).trans ((if_pos c_27).trans ((if_pos c_43).trans ((if_neg c_52).trans ((if_neg e_63_0).trans ((if_neg e_63_1).trans ((if_neg e_63_2).trans ((if_neg e_63_3).trans ((if_neg e_63_4).trans ((if_neg e_63_5).trans ((if_neg e_63_6).trans ((if_neg e_63_7).trans ((if_neg e_63_8).trans ((if_neg e_63_9).trans ((if_pos (by rfl)).trans rfl))))))))))))))))).trans hres)
              exact CMa_ret (S := Unit) () hx hb hr hlocks hP hK hD hS d_Model_act_259
            rcases Decidable.em (k = 11) with e_63_11 | e_63_11
            · subst e_63_11
              refine lv_tableIn (tgt := 260) hx hb d_Model_act_63 (by decide) (by decide) rfl (by decide) ?_
              refine lv_bipush (v := (11 : Int32)) hx hb d_Model_act_260 (by decide) ?_
              subst hg1
              obtain ⟨rfl, rfl⟩ : ((m_M_init (m_M_asked (11 : Int32)) md).1) = z1 ∧ (11 : Int32) = z2 := Prod.mk.inj ((Eq.symm ((if_neg c_6).trans ((if_pos c_15).trans ((if_pos c_27).trans ((if_pos c_43).trans ((if_neg c_52).trans ((if_neg e_63_0).trans ((if_neg e_63_1).trans ((if_neg e_63_2).trans ((if_neg e_63_3).trans ((if_neg e_63_4).trans ((if_neg e_63_5).trans ((if_neg e_63_6).trans ((if_neg e_63_7).trans ((if_neg e_63_8).trans ((if_neg e_63_9).trans ((if_neg e_63_10).trans ((if_pos (by rfl)).trans rfl)))))))))))))))))).trans hres)
              exact CMa_ret (S := Unit) () hx hb hr hlocks hP hK hD hS d_Model_act_262
            rcases Decidable.em (k = 12) with e_63_12 | e_63_12
            · subst e_63_12
              refine lv_tableIn (tgt := 413) hx hb d_Model_act_63 (by decide) (by decide) rfl (by decide) ?_
              refine lv_bipush (v := (-104 : Int32)) hx hb d_Model_act_413 (by decide) ?_
              subst hg1
              obtain ⟨rfl, rfl⟩ : ((m_M_init (m_M_asked (12 : Int32)) md).1) = z1 ∧ (-104 : Int32) = z2 := Prod.mk.inj ((Eq.symm ((if_neg c_6).trans ((if_pos c_15).trans ((if_pos c_27).trans ((if_pos c_43).trans ((if_neg c_52).trans ((if_neg e_63_0).trans ((if_neg e_63_1).trans ((if_neg e_63_2).trans ((if_neg e_63_3).trans ((if_neg e_63_4).trans ((if_neg e_63_5).trans ((if_neg e_63_6).trans ((if_neg e_63_7).trans ((if_neg e_63_8).trans ((if_neg e_63_9).trans ((if_neg e_63_10).trans ((if_neg e_63_11).trans ((if_pos (by rfl)).trans rfl))))))))))))))))))).trans hres)
              exact CMa_ret (S := Unit) () hx hb hr hlocks hP hK hD hS d_Model_act_415
            rcases Decidable.em (k = 13) with e_63_13 | e_63_13
            · subst e_63_13
              refine lv_tableIn (tgt := 263) hx hb d_Model_act_63 (by decide) (by decide) rfl (by decide) ?_
              refine lv_bipush (v := (71 : Int32)) hx hb d_Model_act_263 (by decide) ?_
              subst hg1
              obtain ⟨rfl, rfl⟩ : ((m_M_init (m_M_asked (13 : Int32)) md).1) = z1 ∧ (71 : Int32) = z2 := Prod.mk.inj ((Eq.symm ((if_neg c_6).trans ((if_pos c_15).trans ((if_pos c_27).trans ((if_pos c_43).trans ((if_neg c_52).trans ((if_neg e_63_0).trans ((if_neg e_63_1).trans ((if_neg e_63_2).trans ((if_neg e_63_3).trans ((if_neg e_63_4).trans ((if_neg e_63_5).trans ((if_neg e_63_6).trans ((if_neg e_63_7).trans ((if_neg e_63_8).trans ((if_neg e_63_9).trans ((if_neg e_63_10).trans ((if_neg e_63_11).trans ((if_neg e_63_12).trans ((if_pos (by rfl)).trans rfl)))))))))))))))))))).trans hres)
              exact CMa_ret (S := Unit) () hx hb hr hlocks hP hK hD hS d_Model_act_265
            rcases Decidable.em (k = 14) with e_63_14 | e_63_14
            · subst e_63_14
              refine lv_tableIn (tgt := 413) hx hb d_Model_act_63 (by decide) (by decide) rfl (by decide) ?_
              refine lv_bipush (v := (-104 : Int32)) hx hb d_Model_act_413 (by decide) ?_
              subst hg1
              obtain ⟨rfl, rfl⟩ : ((m_M_init (m_M_asked (14 : Int32)) md).1) = z1 ∧ (-104 : Int32) = z2 := Prod.mk.inj ((Eq.symm ((if_neg c_6).trans ((if_pos c_15).trans ((if_pos c_27).trans ((if_pos c_43).trans ((if_neg c_52).trans ((if_neg e_63_0).trans ((if_neg e_63_1).trans ((if_neg e_63_2).trans ((if_neg e_63_3).trans ((if_neg e_63_4).trans ((if_neg e_63_5).trans ((if_neg e_63_6).trans ((if_neg e_63_7).trans ((if_neg e_63_8).trans ((if_neg e_63_9).trans ((if_neg e_63_10).trans ((if_neg e_63_11).trans ((if_neg e_63_12).trans ((if_neg e_63_13).trans ((if_pos (by rfl)).trans rfl))))))))))))))))))))).trans hres)
              exact CMa_ret (S := Unit) () hx hb hr hlocks hP hK hD hS d_Model_act_415
            rcases Decidable.em (k = 15) with e_63_15 | e_63_15
            · subst e_63_15
              refine lv_tableIn (tgt := 413) hx hb d_Model_act_63 (by decide) (by decide) rfl (by decide) ?_
              refine lv_bipush (v := (-104 : Int32)) hx hb d_Model_act_413 (by decide) ?_
              subst hg1
              obtain ⟨rfl, rfl⟩ : ((m_M_init (m_M_asked (15 : Int32)) md).1) = z1 ∧ (-104 : Int32) = z2 := Prod.mk.inj ((Eq.symm ((if_neg c_6).trans ((if_pos c_15).trans ((if_pos c_27).trans ((if_pos c_43).trans ((if_neg c_52).trans ((if_neg e_63_0).trans ((if_neg e_63_1).trans ((if_neg e_63_2).trans ((if_neg e_63_3).trans ((if_neg e_63_4).trans ((if_neg e_63_5).trans ((if_neg e_63_6).trans ((if_neg e_63_7).trans ((if_neg e_63_8).trans ((if_neg e_63_9).trans ((if_neg e_63_10).trans ((if_neg e_63_11).trans ((if_neg e_63_12).trans ((if_neg e_63_13).trans ((if_neg e_63_14).trans ((if_pos (by rfl)).trans rfl)))))))))))))))))))))).trans hres)
              exact CMa_ret (S := Unit) () hx hb hr hlocks hP hK hD hS d_Model_act_415
            rcases Decidable.em (k = 16) with e_63_16 | e_63_16
            · subst e_63_16
              refine lv_tableIn (tgt := 266) hx hb d_Model_act_63 (by decide) (by decide) rfl (by decide) ?_
              refine lv_aload_n hx hb d_Model_act_266 rfl (lv_at hl 3 rfl) ?_
              refine va_get (D := D) (ci := 2) (v := .ref o4) (C := R_Model) (T := F_Model) (N := 14) hx hb hk i_Model hown hK hP 0 rfl rfl 3 (by decide) (hk _ kl_Model_19) (fun _ h9 => h9) rfl d_Model_act_267 ?_
              refine lv_aload_n hx hb d_Model_act_270 rfl (lv_at hl 3 rfl) ?_
              refine va_get (D := D) (ci := 2) (v := .int (aWc g1)) (C := R_Model) (T := F_Model) (N := 14) hx hb hk i_Model hown hK hP 0 rfl rfl 11 (by decide) (hk _ kl_Model_41) (fun _ h9 => h9) rfl d_Model_act_271 ?_
              refine va_iald hx hb hK hP 4 0 rfl rfl (okM_eq hg1 (okM_init (hw c_15))).1 d_Model_act_274 ?_
              subst hg1
              obtain ⟨rfl, rfl⟩ : ((m_M_init (m_M_asked (16 : Int32)) md).1) = z1 ∧ ((aXx ((m_M_init (m_M_asked (16 : Int32)) md).1)) (aWc ((m_M_init (m_M_asked (16 : Int32)) md).1)).toNatClampNeg) = z2 := Prod.mk.inj ((Eq.symm ((if_neg c_6).trans ((if_pos c_15).trans ((if_pos c_27).trans ((if_pos c_43).trans ((if_neg c_52).trans ((if_neg e_63_0).trans ((if_neg e_63_1).trans ((if_neg e_63_2).trans ((if_neg e_63_3).trans ((if_neg e_63_4).trans ((if_neg e_63_5).trans ((if_neg e_63_6).trans ((if_neg e_63_7).trans ((if_neg e_63_8).trans ((if_neg e_63_9).trans ((if_neg e_63_10).trans ((if_neg e_63_11).trans ((if_neg e_63_12).trans ((if_neg e_63_13).trans ((if_neg e_63_14).trans ((if_neg e_63_15).trans ((if_pos (by rfl)).trans rfl))))))))))))))))))))))).trans hres)
              exact CMa_ret (S := Unit) () hx hb hr hlocks hP hK hD hS d_Model_act_275
            rcases Decidable.em (k = 17) with e_63_17 | e_63_17
            · subst e_63_17
              refine lv_tableIn (tgt := 276) hx hb d_Model_act_63 (by decide) (by decide) rfl (by decide) ?_
              refine lv_aload_n hx hb d_Model_act_276 rfl (lv_at hl 3 rfl) ?_
              refine va_get (D := D) (ci := 2) (v := .ref o5) (C := R_Model) (T := F_Model) (N := 14) hx hb hk i_Model hown hK hP 0 rfl rfl 4 (by decide) (hk _ kl_Model_22) (fun _ h9 => h9) rfl d_Model_act_277 ?_
              refine lv_aload_n hx hb d_Model_act_280 rfl (lv_at hl 3 rfl) ?_
              refine va_get (D := D) (ci := 2) (v := .int (aWc g1)) (C := R_Model) (T := F_Model) (N := 14) hx hb hk i_Model hown hK hP 0 rfl rfl 11 (by decide) (hk _ kl_Model_41) (fun _ h9 => h9) rfl d_Model_act_281 ?_
              refine va_iald hx hb hK hP 5 0 rfl rfl (okM_eq hg1 (okM_init (hw c_15))).1 d_Model_act_284 ?_
              subst hg1
              obtain ⟨rfl, rfl⟩ : ((m_M_init (m_M_asked (17 : Int32)) md).1) = z1 ∧ ((aYy ((m_M_init (m_M_asked (17 : Int32)) md).1)) (aWc ((m_M_init (m_M_asked (17 : Int32)) md).1)).toNatClampNeg) = z2 := Prod.mk.inj ((Eq.symm ((if_neg c_6).trans ((if_pos c_15).trans ((if_pos c_27).trans ((if_pos c_43).trans ((if_neg c_52).trans ((if_neg e_63_0).trans ((if_neg e_63_1).trans ((if_neg e_63_2).trans ((if_neg e_63_3).trans ((if_neg e_63_4).trans ((if_neg e_63_5).trans ((if_neg e_63_6).trans ((if_neg e_63_7).trans ((if_neg e_63_8).trans ((if_neg e_63_9).trans ((if_neg e_63_10).trans ((if_neg e_63_11).trans ((if_neg e_63_12).trans ((if_neg e_63_13).trans ((if_neg e_63_14).trans ((if_neg e_63_15).trans ((if_neg e_63_16).trans ((if_pos (by rfl)).trans rfl)))))))))))))))))))))))).trans hres)
              exact CMa_ret (S := Unit) () hx hb hr hlocks hP hK hD hS d_Model_act_285
            rcases Decidable.em (k = 18) with e_63_18 | e_63_18
            · subst e_63_18
              refine lv_tableIn (tgt := 286) hx hb d_Model_act_63 (by decide) (by decide) rfl (by decide) ?_
              refine lv_aload_n hx hb d_Model_act_286 rfl (lv_at hl 3 rfl) ?_
              refine CMv.callV (wc := M13 cI cZ o o1 o2 o3 o4 o5 o6 o7 o8 o9 o10 o11 o12 g1) (wr := []) (b := o) (av := []) (rest := []) hx hb hml hown hk (c_M_initLazy l D cI cZ o o1 o2 o3 o4 o5 o6 o7 o8 o9 o10 o11 o12 g1 (okM_mono (okM_eq hg1 (okM_init (hw c_15))) (by decide)) _ rfl) hK hP hD hS hA hSt hl.1 (va_recv hK hP (ci := 2) (q0 := 0) rfl rfl) d_Model_act_287 kc_Model_initLazy ki_Model kl_Model_96 kn_Model_initLazy kx_Model_initLazy (n := 0) rfl (by decide +kernel) ⟨Nat.le_of_ble_eq_true rfl, Nat.le_of_ble_eq_true rfl⟩ rfl rfl (Nat.le_of_ble_eq_true rfl) ⟨Nat.le_of_ble_eq_true rfl, Nat.le_of_ble_eq_true rfl⟩ (fun H locs hP hD hS => ?_)
              replace hP : va_P D classes (M13 cI cZ o o1 o2 o3 o4 o5 o6 o7 o8 o9 o10 o11 o12 (m_M_initLazy g1)) H := hP
              replace hD : va_D A (M13 cI cZ o o1 o2 o3 o4 o5 o6 o7 o8 o9 o10 o11 o12 (m_M_initLazy g1)) := hD
              obtain ⟨g6, hg6⟩ : ∃ z, (m_M_initLazy g1) = z := ⟨_, rfl⟩
              rw [hg6] at hP hD
              refine lv_bipush (v := (20 : Int32)) hx hb d_Model_act_290 (by decide) ?_
              subst hg6
              subst hg1
              obtain ⟨rfl, rfl⟩ : (m_M_initLazy ((m_M_init (m_M_asked (18 : Int32)) md).1)) = z1 ∧ (20 : Int32) = z2 := Prod.mk.inj ((Eq.symm ((if_neg c_6).trans ((if_pos c_15).trans ((if_pos c_27).trans ((if_pos c_43).trans ((if_neg c_52).trans ((if_neg e_63_0).trans ((if_neg e_63_1).trans ((if_neg e_63_2).trans ((if_neg e_63_3).trans ((if_neg e_63_4).trans ((if_neg e_63_5).trans ((if_neg e_63_6).trans ((if_neg e_63_7).trans ((if_neg e_63_8).trans ((if_neg e_63_9).trans ((if_neg e_63_10).trans ((if_neg e_63_11).trans ((if_neg e_63_12).trans ((if_neg e_63_13).trans ((if_neg e_63_14).trans ((if_neg e_63_15).trans ((if_neg e_63_16).trans ((if_neg e_63_17).trans ((if_pos (by rfl)).trans rfl))))))))))))))))))))))))).trans hres)
              exact CMa_ret (S := Unit) () hx hb hr hlocks hP hK hD hS d_Model_act_292
            rcases Decidable.em (k = 19) with e_63_19 | e_63_19
            · subst e_63_19
              refine lv_tableIn (tgt := 293) hx hb d_Model_act_63 (by decide) (by decide) rfl (by decide) ?_
              refine lv_iload hx hb d_Model_act_293 (lv_at hl 0 rfl) ?_
              refine lv_if_eq (tgt := 303) hx hb d_Model_act_295 (by decide) (fun h9 => absurd h9 (by decide)) (fun _ => ?_)
              refine lv_bipush (v := (18 : Int32)) hx hb d_Model_act_298 (by decide) ?_
              refine lv_goto (tgt := 304) hx hb d_Model_act_300 (by decide) ?_
              refine lv_bipush (v := (17 : Int32)) hx hb d_Model_act_304 (by decide) ?_
              refine lv_iadd hx hb d_Model_act_306 ?_
              refine lv_topi (fun z ez => ?_)
              obtain rfl : z = (35 : Int32) := ez.trans (by decide)
              subst hg1
              obtain ⟨rfl, rfl⟩ : ((m_M_init (m_M_asked (19 : Int32)) md).1) = z1 ∧ (35 : Int32) = z2 := Prod.mk.inj ((Eq.symm ((if_neg c_6).trans ((if_pos c_15).trans ((if_pos c_27).trans ((if_pos c_43).trans ((if_neg c_52).trans ((if_neg e_63_0).trans ((if_neg e_63_1).trans ((if_neg e_63_2).trans ((if_neg e_63_3).trans ((if_neg e_63_4).trans ((if_neg e_63_5).trans ((if_neg e_63_6).trans ((if_neg e_63_7).trans ((if_neg e_63_8).trans ((if_neg e_63_9).trans ((if_neg e_63_10).trans ((if_neg e_63_11).trans ((if_neg e_63_12).trans ((if_neg e_63_13).trans ((if_neg e_63_14).trans ((if_neg e_63_15).trans ((if_neg e_63_16).trans ((if_neg e_63_17).trans ((if_neg e_63_18).trans ((if_pos (by rfl)).trans rfl)))))))))))))))))))))))))).trans hres)
              exact CMa_ret (S := Unit) () hx hb hr hlocks hP hK hD hS d_Model_act_307
            rcases Decidable.em (k = 20) with e_63_20 | e_63_20
            · subst e_63_20
              refine lv_tableIn (tgt := 308) hx hb d_Model_act_63 (by decide) (by decide) rfl (by decide) ?_
              refine lv_iload hx hb d_Model_act_308 (lv_at hl 0 rfl) ?_
              refine lv_if_eq (tgt := 317) hx hb d_Model_act_310 (by decide) (fun h9 => absurd h9 (by decide)) (fun _ => ?_)
              refine lv_iconst (v := (1 : Int32)) hx hb d_Model_act_313 (by decide) ?_
              refine lv_goto (tgt := 318) hx hb d_Model_act_314 (by decide) ?_
              subst hg1
              obtain ⟨rfl, rfl⟩ : ((m_M_init (m_M_asked (20 : Int32)) md).1) = z1 ∧ (1 : Int32) = z2 := Prod.mk.inj ((Eq.symm ((if_neg c_6).trans ((if_pos c_15).trans ((if_pos c_27).trans ((if_pos c_43).trans ((if_neg c_52).trans ((if_neg e_63_0).trans ((if_neg e_63_1).trans ((if_neg e_63_2).trans ((if_neg e_63_3).trans ((if_neg e_63_4).trans ((if_neg e_63_5).trans ((if_neg e_63_6).trans ((if_neg e_63_7).trans ((if_neg e_63_8).trans ((if_neg e_63_9).trans ((if_neg e_63_10).trans ((if_neg e_63_11).trans ((if_neg e_63_12).trans ((if_neg e_63_13).trans ((if_neg e_63_14).trans ((if_neg e_63_15).trans ((if_neg e_63_16).trans ((if_neg e_63_17).trans ((if_neg e_63_18).trans ((if_neg e_63_19).trans ((if_pos (by rfl)).trans rfl))))))))))))))))))))))))))).trans hres)
              exact CMa_ret (S := Unit) () hx hb hr hlocks hP hK hD hS d_Model_act_318
            rcases Decidable.em (k = 21) with e_63_21 | e_63_21
            · subst e_63_21
              refine lv_tableIn (tgt := 319) hx hb d_Model_act_63 (by decide) (by decide) rfl (by decide) ?_
              refine lv_aload_n hx hb d_Model_act_319 rfl (lv_at hl 3 rfl) ?_
              refine va_get (D := D) (ci := 2) (v := .ref o10) (C := R_Model) (T := F_Model) (N := 14) hx hb hk i_Model hown hK hP 0 rfl rfl 9 (by decide) (hk _ kl_Model_38) (fun _ h9 => h9) rfl d_Model_act_320 ?_
              refine lv_aload_n hx hb d_Model_act_323 rfl (lv_at hl 3 rfl) ?_
              refine va_get (D := D) (ci := 2) (v := .int (aWc g1)) (C := R_Model) (T := F_Model) (N := 14) hx hb hk i_Model hown hK hP 0 rfl rfl 11 (by decide) (hk _ kl_Model_41) (fun _ h9 => h9) rfl d_Model_act_324 ?_
              refine va_zald hx hb hK hP 10 1 rfl rfl (okM_eq hg1 (okM_init (hw c_15))).1 d_Model_act_327 ?_
              refine lv_if_eq (tgt := 340) hx hb d_Model_act_328 (by decide) (fun c_328 => ?_) (fun c_328 => ?_)
              · refine lv_iload_n hx hb d_Model_act_340 rfl (lv_at hl 5 rfl) ?_
                refine lv_sipush (v := (1000 : Int32)) hx hb d_Model_act_341 (by decide) ?_
                refine lv_iadd hx hb d_Model_act_344 ?_
                subst hg1
                obtain ⟨rfl, rfl⟩ : ((m_M_init (m_M_asked (21 : Int32)) md).1) = z1 ∧ (a + (1000 : Int32)) = z2 := Prod.mk.inj ((Eq.symm ((if_neg c_6).trans ((if_pos c_15).trans ((if_pos c_27).trans ((if_pos c_43).trans ((if_neg c_52).trans ((if_neg e_63_0).trans ((if_neg e_63_1).trans ((if_neg e_63_2).trans ((if_neg e_63_3).trans ((if_neg e_63_4).trans ((if_neg e_63_5).trans ((if_neg e_63_6).trans ((if_neg e_63_7).trans ((if_neg e_63_8).trans ((if_neg e_63_9).trans ((if_neg e_63_10).trans ((if_neg e_63_11).trans ((if_neg e_63_12).trans ((if_neg e_63_13).trans ((if_neg e_63_14).trans ((if_neg e_63_15).trans ((if_neg e_63_16).trans ((if_neg e_63_17).trans ((if_neg e_63_18).trans ((if_neg e_63_19).trans ((if_neg e_63_20).trans ((if_pos (by rfl)).trans ((if_pos c_328).trans rfl))))))))))))))))))))))))))))).trans hres)
                exact CMa_ret (S := Unit) () hx hb hr hlocks hP hK hD hS d_Model_act_345
              · refine lv_iload_n hx hb d_Model_act_331 rfl (lv_at hl 5 rfl) ?_
                refine lv_if_gt (tgt := 340) hx hb d_Model_act_332 (by decide) (fun c_332 => ?_) (fun c_332 => ?_)
                · refine lv_iload_n hx hb d_Model_act_340 rfl (lv_at hl 5 rfl) ?_
                  refine lv_sipush (v := (1000 : Int32)) hx hb d_Model_act_341 (by decide) ?_
                  refine lv_iadd hx hb d_Model_act_344 ?_
                  subst hg1
                  obtain ⟨rfl, rfl⟩ : ((m_M_init (m_M_asked (21 : Int32)) md).1) = z1 ∧ (a + (1000 : Int32)) = z2 := Prod.mk.inj ((Eq.symm ((if_neg c_6).trans ((if_pos c_15).trans ((if_pos c_27).trans ((if_pos c_43).trans ((if_neg c_52).trans ((if_neg e_63_0).trans ((if_neg e_63_1).trans ((if_neg e_63_2).trans ((if_neg e_63_3).trans ((if_neg e_63_4).trans ((if_neg e_63_5).trans ((if_neg e_63_6).trans ((if_neg e_63_7).trans ((if_neg e_63_8).trans ((if_neg e_63_9).trans ((if_neg e_63_10).trans ((if_neg e_63_11).trans ((if_neg e_63_12).trans ((if_neg e_63_13).trans ((if_neg e_63_14).trans ((if_neg e_63_15).trans ((if_neg e_63_16).trans ((if_neg e_63_17).trans ((if_neg e_63_18).trans ((if_neg e_63_19).trans ((if_neg e_63_20).trans ((if_pos (by rfl)).trans ((if_neg c_328).trans ((if_pos c_332).trans rfl)))))))))))))))))))))))))))))).trans hres)
                  exact CMa_ret (S := Unit) () hx hb hr hlocks hP hK hD hS d_Model_act_345
                · refine lv_bipush (v := (-103 : Int32)) hx hb d_Model_act_335 (by decide) ?_
                  refine lv_goto (tgt := 345) hx hb d_Model_act_337 (by decide) ?_
                  subst hg1
                  obtain ⟨rfl, rfl⟩ : ((m_M_init (m_M_asked (21 : Int32)) md).1) = z1 ∧ (-103 : Int32) = z2 := Prod.mk.inj ((Eq.symm ((if_neg c_6).trans ((if_pos c_15).trans ((if_pos c_27).trans ((if_pos c_43).trans ((if_neg c_52).trans ((if_neg e_63_0).trans ((if_neg e_63_1).trans ((if_neg e_63_2).trans ((if_neg e_63_3).trans ((if_neg e_63_4).trans ((if_neg e_63_5).trans ((if_neg e_63_6).trans ((if_neg e_63_7).trans ((if_neg e_63_8).trans ((if_neg e_63_9).trans ((if_neg e_63_10).trans ((if_neg e_63_11).trans ((if_neg e_63_12).trans ((if_neg e_63_13).trans ((if_neg e_63_14).trans ((if_neg e_63_15).trans ((if_neg e_63_16).trans ((if_neg e_63_17).trans ((if_neg e_63_18).trans ((if_neg e_63_19).trans ((if_neg e_63_20).trans ((if_pos (by rfl)).trans ((if_neg c_328).trans ((if_neg c_332).trans rfl)))))))))))))))))))))))))))))).trans hres)
                  exact CMa_ret (S := Unit) () hx hb hr hlocks hP hK hD hS d_Model_act_345
            rcases Decidable.em (k = 22) with e_63_22 | e_63_22
            · subst e_63_22
              refine lv_tableIn (tgt := 346) hx hb d_Model_act_63 (by decide) (by decide) rfl (by decide) ?_
              refine lv_aload_n hx hb d_Model_act_346 rfl (lv_at hl 3 rfl) ?_
              refine va_get (D := D) (ci := 2) (v := .ref o6) (C := R_Model) (T := F_Model) (N := 14) hx hb hk i_Model hown hK hP 0 rfl rfl 5 (by decide) (hk _ kl_Model_25) (fun _ h9 => h9) rfl d_Model_act_347 ?_
              refine lv_aload_n hx hb d_Model_act_350 rfl (lv_at hl 3 rfl) ?_
              refine va_get (D := D) (ci := 2) (v := .int (aWc g1)) (C := R_Model) (T := F_Model) (N := 14) hx hb hk i_Model hown hK hP 0 rfl rfl 11 (by decide) (hk _ kl_Model_41) (fun _ h9 => h9) rfl d_Model_act_351 ?_
              refine lv_dup2_11 hx hb d_Model_act_354 rfl rfl ?_
              refine va_iald hx hb hK hP 6 0 rfl rfl (okM_eq hg1 (okM_init (hw c_15))).1 d_Model_act_355 ?_
              refine lv_iload hx hb d_Model_act_356 (lv_at hl 0 rfl) ?_
              refine lv_if_eq (tgt := 365) hx hb d_Model_act_358 (by decide) (fun h9 => absurd h9 (by decide)) (fun _ => ?_)
              refine lv_iconst (v := (3 : Int32)) hx hb d_Model_act_361 (by decide) ?_
              refine lv_goto (tgt := 366) hx hb d_Model_act_362 (by decide) ?_
              refine lv_iadd hx hb d_Model_act_366 ?_
              refine va_iast hx hb hK hP hD hS 6 0 rfl rfl (okM_eq hg1 (okM_init (hw c_15))).1 d_Model_act_367 (fun H locs hP hD hS => ?_)
              replace hP : va_P D classes (M13 cI cZ o o1 o2 o3 o4 o5 o6 o7 o8 o9 o10 o11 o12 (uMa g1 (upd ((aMa g1)) (aWc g1).toNatClampNeg (((aMa g1) (aWc g1).toNatClampNeg) + (3 : Int32))))) H := hP
              replace hD : va_D A (M13 cI cZ o o1 o2 o3 o4 o5 o6 o7 o8 o9 o10 o11 o12 (uMa g1 (upd ((aMa g1)) (aWc g1).toNatClampNeg (((aMa g1) (aWc g1).toNatClampNeg) + (3 : Int32))))) := hD
              refine lv_aload_n hx hb d_Model_act_368 rfl (lv_at hl 3 rfl) ?_
              refine va_get (D := D) (ci := 2) (v := .ref o6) (C := R_Model) (T := F_Model) (N := 14) hx hb hk i_Model hown hK hP 0 rfl rfl 5 (by decide) (hk _ kl_Model_25) (fun _ h9 => h9) rfl d_Model_act_369 ?_
              refine lv_aload_n hx hb d_Model_act_372 rfl (lv_at hl 3 rfl) ?_
              refine va_get (D := D) (ci := 2) (v := .int (aWc (uMa g1 (upd ((aMa g1)) (aWc g1).toNatClampNeg (((aMa g1) (aWc g1).toNatClampNeg) + (3 : Int32)))))) (C := R_Model) (T := F_Model) (N := 14) hx hb hk i_Model hown hK hP 0 rfl rfl 11 (by decide) (hk _ kl_Model_41) (fun _ h9 => h9) rfl d_Model_act_373 ?_
              refine va_iald hx hb hK hP 6 0 rfl rfl (okM_uMa (okM_eq hg1 (okM_init (hw c_15)))).1 d_Model_act_376 ?_
              subst hg1
              obtain ⟨rfl, rfl⟩ : (uMa ((m_M_init (m_M_asked (22 : Int32)) md).1) (upd ((aMa ((m_M_init (m_M_asked (22 : Int32)) md).1))) (aWc ((m_M_init (m_M_asked (22 : Int32)) md).1)).toNatClampNeg (((aMa ((m_M_init (m_M_asked (22 : Int32)) md).1)) (aWc ((m_M_init (m_M_asked (22 : Int32)) md).1)).toNatClampNeg) + (3 : Int32)))) = z1 ∧ ((aMa (uMa ((m_M_init (m_M_asked (22 : Int32)) md).1) (upd ((aMa ((m_M_init (m_M_asked (22 : Int32)) md).1))) (aWc ((m_M_init (m_M_asked (22 : Int32)) md).1)).toNatClampNeg (((aMa ((m_M_init (m_M_asked (22 : Int32)) md).1)) (aWc ((m_M_init (m_M_asked (22 : Int32)) md).1)).toNatClampNeg) + (3 : Int32))))) (aWc (uMa ((m_M_init (m_M_asked (22 : Int32)) md).1) (upd ((aMa ((m_M_init (m_M_asked (22 : Int32)) md).1))) (aWc ((m_M_init (m_M_asked (22 : Int32)) md).1)).toNatClampNeg (((aMa ((m_M_init (m_M_asked (22 : Int32)) md).1)) (aWc ((m_M_init (m_M_asked (22 : Int32)) md).1)).toNatClampNeg) + (3 : Int32))))).toNatClampNeg) = z2 := Prod.mk.inj ((Eq.symm ((if_neg c_6).trans ((if_pos c_15).trans ((if_pos c_27).trans ((if_pos c_43).trans ((if_neg c_52).trans ((if_neg e_63_0).trans ((if_neg e_63_1).trans ((if_neg e_63_2).trans ((if_neg e_63_3).trans ((if_neg e_63_4).trans ((if_neg e_63_5).trans ((if_neg e_63_6).trans ((if_neg e_63_7).trans ((if_neg e_63_8).trans ((if_neg e_63_9).trans ((if_neg e_63_10).trans ((if_neg e_63_11).trans ((if_neg e_63_12).trans ((if_neg e_63_13).trans ((if_neg e_63_14).trans ((if_neg e_63_15).trans ((if_neg e_63_16).trans ((if_neg e_63_17).trans ((if_neg e_63_18).trans ((if_neg e_63_19).trans ((if_neg e_63_20).trans ((if_neg e_63_21).trans ((if_pos (by rfl)).trans rfl))))))))))))))))))))))))))))).trans hres)
              exact CMa_ret (S := Unit) () hx hb hr hlocks hP hK hD hS d_Model_act_377
            rcases Decidable.em (k = 23) with e_63_23 | e_63_23
            · subst e_63_23
              refine lv_tableIn (tgt := 378) hx hb d_Model_act_63 (by decide) (by decide) rfl (by decide) ?_
              refine lv_bipush (v := (20 : Int32)) hx hb d_Model_act_378 (by decide) ?_
              subst hg1
              obtain ⟨rfl, rfl⟩ : ((m_M_init (m_M_asked (23 : Int32)) md).1) = z1 ∧ (20 : Int32) = z2 := Prod.mk.inj ((Eq.symm ((if_neg c_6).trans ((if_pos c_15).trans ((if_pos c_27).trans ((if_pos c_43).trans ((if_neg c_52).trans ((if_neg e_63_0).trans ((if_neg e_63_1).trans ((if_neg e_63_2).trans ((if_neg e_63_3).trans ((if_neg e_63_4).trans ((if_neg e_63_5).trans ((if_neg e_63_6).trans ((if_neg e_63_7).trans ((if_neg e_63_8).trans ((if_neg e_63_9).trans ((if_neg e_63_10).trans ((if_neg e_63_11).trans ((if_neg e_63_12).trans ((if_neg e_63_13).trans ((if_neg e_63_14).trans ((if_neg e_63_15).trans ((if_neg e_63_16).trans ((if_neg e_63_17).trans ((if_neg e_63_18).trans ((if_neg e_63_19).trans ((if_neg e_63_20).trans ((if_neg e_63_21).trans ((if_neg e_63_22).trans ((if_pos (by rfl)).trans rfl)))))))))))))))))))))))))))))).trans hres)
              exact CMa_ret (S := Unit) () hx hb hr hlocks hP hK hD hS d_Model_act_380
            rcases Decidable.em (k = 24) with e_63_24 | e_63_24
            · subst e_63_24
              refine lv_tableIn (tgt := 381) hx hb d_Model_act_63 (by decide) (by decide) rfl (by decide) ?_
              refine lv_aload_n hx hb d_Model_act_381 rfl (lv_at hl 3 rfl) ?_
              refine va_get (D := D) (ci := 2) (v := .ref o3) (C := R_Model) (T := F_Model) (N := 14) hx hb hk i_Model hown hK hP 0 rfl rfl 2 (by decide) (hk _ kl_Model_16) (fun _ h9 => h9) rfl d_Model_act_382 ?_
              refine lv_aload_n hx hb d_Model_act_385 rfl (lv_at hl 3 rfl) ?_
              refine va_get (D := D) (ci := 2) (v := .int (aWc g1)) (C := R_Model) (T := F_Model) (N := 14) hx hb hk i_Model hown hK hP 0 rfl rfl 11 (by decide) (hk _ kl_Model_41) (fun _ h9 => h9) rfl d_Model_act_386 ?_
              refine va_iald hx hb hK hP 3 0 rfl rfl (okM_eq hg1 (okM_init (hw c_15))).1 d_Model_act_389 ?_
              subst hg1
              obtain ⟨rfl, rfl⟩ : ((m_M_init (m_M_asked (24 : Int32)) md).1) = z1 ∧ ((aMi ((m_M_init (m_M_asked (24 : Int32)) md).1)) (aWc ((m_M_init (m_M_asked (24 : Int32)) md).1)).toNatClampNeg) = z2 := Prod.mk.inj ((Eq.symm ((if_neg c_6).trans ((if_pos c_15).trans ((if_pos c_27).trans ((if_pos c_43).trans ((if_neg c_52).trans ((if_neg e_63_0).trans ((if_neg e_63_1).trans ((if_neg e_63_2).trans ((if_neg e_63_3).trans ((if_neg e_63_4).trans ((if_neg e_63_5).trans ((if_neg e_63_6).trans ((if_neg e_63_7).trans ((if_neg e_63_8).trans ((if_neg e_63_9).trans ((if_neg e_63_10).trans ((if_neg e_63_11).trans ((if_neg e_63_12).trans ((if_neg e_63_13).trans ((if_neg e_63_14).trans ((if_neg e_63_15).trans ((if_neg e_63_16).trans ((if_neg e_63_17).trans ((if_neg e_63_18).trans ((if_neg e_63_19).trans ((if_neg e_63_20).trans ((if_neg e_63_21).trans ((if_neg e_63_22).trans ((if_neg e_63_23).trans ((if_pos (by rfl)).trans rfl))))))))))))))))))))))))))))))).trans hres)
              exact CMa_ret (S := Unit) () hx hb hr hlocks hP hK hD hS d_Model_act_390
            rcases Decidable.em (k = 25) with e_63_25 | e_63_25
            · subst e_63_25
              refine lv_tableIn (tgt := 391) hx hb d_Model_act_63 (by decide) (by decide) rfl (by decide) ?_
              refine lv_iload hx hb d_Model_act_391 (lv_at hl 0 rfl) ?_
              refine lv_if_eq (tgt := 401) hx hb d_Model_act_393 (by decide) (fun h9 => absurd h9 (by decide)) (fun _ => ?_)
              refine lv_aload_n hx hb d_Model_act_396 rfl (lv_at hl 3 rfl) ?_
              refine lv_iconst (v := (0 : Int32)) hx hb d_Model_act_397 (by decide) ?_
              refine CMv.callV (wc := M13 cI cZ o o1 o2 o3 o4 o5 o6 o7 o8 o9 o10 o11 o12 g1) (wr := []) (b := o) (av := [.int (0 : Int32)]) (rest := []) hx hb hml hown hk (c_M_initCircle l D cI cZ o o1 o2 o3 o4 o5 o6 o7 o8 o9 o10 o11 o12 false g1 (okM_mono (okM_eq hg1 (okM_init (hw c_15))) (by decide)) _ rfl) hK hP hD hS hA hSt hl.1 (va_recv hK hP (ci := 2) (q0 := 0) rfl rfl) d_Model_act_398 kc_Model_initCircle ki_Model kl_Model_92 kn_Model_initCircle kx_Model_initCircle (n := 1) rfl (by decide +kernel) ⟨Nat.le_of_ble_eq_true rfl, Nat.le_of_ble_eq_true rfl⟩ rfl rfl (Nat.le_of_ble_eq_true rfl) ⟨Nat.le_of_ble_eq_true rfl, Nat.le_of_ble_eq_true rfl⟩ (fun H locs hP hD hS => ?_)
              replace hP : va_P D classes (M13 cI cZ o o1 o2 o3 o4 o5 o6 o7 o8 o9 o10 o11 o12 (m_M_initCircle false g1)) H := hP
              replace hD : va_D A (M13 cI cZ o o1 o2 o3 o4 o5 o6 o7 o8 o9 o10 o11 o12 (m_M_initCircle false g1)) := hD
              obtain ⟨g7, hg7⟩ : ∃ z, (m_M_initCircle false g1) = z := ⟨_, rfl⟩
              rw [hg7] at hP hD
              refine lv_bipush (v := (18 : Int32)) hx hb d_Model_act_401 (by decide) ?_
              subst hg7
              subst hg1
              obtain ⟨rfl, rfl⟩ : (m_M_initCircle false ((m_M_init (m_M_asked (25 : Int32)) md).1)) = z1 ∧ (18 : Int32) = z2 := Prod.mk.inj ((Eq.symm ((if_neg c_6).trans ((if_pos c_15).trans ((if_pos c_27).trans ((if_pos c_43).trans ((if_neg c_52).trans ((if_neg e_63_0).trans ((if_neg e_63_1).trans ((if_neg e_63_2).trans ((if_neg e_63_3).trans ((if_neg e_63_4).trans ((if_neg e_63_5).trans ((if_neg e_63_6).trans ((if_neg e_63_7).trans ((if_neg e_63_8).trans ((if_neg e_63_9).trans ((if_neg e_63_10).trans ((if_neg e_63_11).trans ((if_neg e_63_12).trans ((if_neg e_63_13).trans ((if_neg e_63_14).trans ((if_neg e_63_15).trans ((if_neg e_63_16).trans ((if_neg e_63_17).trans ((if_neg e_63_18).trans ((if_neg e_63_19).trans ((if_neg e_63_20).trans ((if_neg e_63_21).trans ((if_neg e_63_22).trans ((if_neg e_63_23).trans ((if_neg e_63_24).trans ((if_pos (by rfl)).trans rfl)))))))))))))))))))))))))))))))).trans hres)
              exact CMa_ret (S := Unit) () hx hb hr hlocks hP hK hD hS d_Model_act_403
            rcases Decidable.em (k = 26) with e_63_26 | e_63_26
            · subst e_63_26
              refine lv_tableIn (tgt := 404) hx hb d_Model_act_63 (by decide) (by decide) rfl (by decide) ?_
              refine lv_aload_n hx hb d_Model_act_404 rfl (lv_at hl 3 rfl) ?_
              refine lv_iconst (v := (2 : Int32)) hx hb d_Model_act_405 (by decide) ?_
              refine CMv.callV (wc := M13 cI cZ o o1 o2 o3 o4 o5 o6 o7 o8 o9 o10 o11 o12 g1) (wr := []) (b := o) (av := [.int (2 : Int32)]) (rest := []) hx hb hml hown hk (c_M_create l D cI cZ o o1 o2 o3 o4 o5 o6 o7 o8 o9 o10 o11 o12 (2 : Int32) g1 (okM_mono (okM_eq hg1 (okM_init (hw c_15))) (by decide)) _ rfl) hK hP hD hS hA hSt hl.1 (va_recv hK hP (ci := 2) (q0 := 0) rfl rfl) d_Model_act_406 kc_Model_create ki_Model kl_Model_115 kn_Model_create kx_Model_create (n := 1) rfl (by decide +kernel) ⟨Nat.le_of_ble_eq_true rfl, Nat.le_of_ble_eq_true rfl⟩ rfl rfl (Nat.le_of_ble_eq_true rfl) ⟨Nat.le_of_ble_eq_true rfl, Nat.le_of_ble_eq_true rfl⟩ (fun H locs hP hD hS => ?_)
              replace hP : va_P D classes (M13 cI cZ o o1 o2 o3 o4 o5 o6 o7 o8 o9 o10 o11 o12 (m_M_create (2 : Int32) g1)) H := hP
              replace hD : va_D A (M13 cI cZ o o1 o2 o3 o4 o5 o6 o7 o8 o9 o10 o11 o12 (m_M_create (2 : Int32) g1)) := hD
              obtain ⟨g8, hg8⟩ : ∃ z, (m_M_create (2 : Int32) g1) = z := ⟨_, rfl⟩
              rw [hg8] at hP hD
              refine lv_iconst (v := (1 : Int32)) hx hb d_Model_act_409 (by decide) ?_
              subst hg8
              subst hg1
              obtain ⟨rfl, rfl⟩ : (m_M_create (2 : Int32) ((m_M_init (m_M_asked (26 : Int32)) md).1)) = z1 ∧ (1 : Int32) = z2 := Prod.mk.inj ((Eq.symm ((if_neg c_6).trans ((if_pos c_15).trans ((if_pos c_27).trans ((if_pos c_43).trans ((if_neg c_52).trans ((if_neg e_63_0).trans ((if_neg e_63_1).trans ((if_neg e_63_2).trans ((if_neg e_63_3).trans ((if_neg e_63_4).trans ((if_neg e_63_5).trans ((if_neg e_63_6).trans ((if_neg e_63_7).trans ((if_neg e_63_8).trans ((if_neg e_63_9).trans ((if_neg e_63_10).trans ((if_neg e_63_11).trans ((if_neg e_63_12).trans ((if_neg e_63_13).trans ((if_neg e_63_14).trans ((if_neg e_63_15).trans ((if_neg e_63_16).trans ((if_neg e_63_17).trans ((if_neg e_63_18).trans ((if_neg e_63_19).trans ((if_neg e_63_20).trans ((if_neg e_63_21).trans ((if_neg e_63_22).trans ((if_neg e_63_23).trans ((if_neg e_63_24).trans ((if_neg e_63_25).trans ((if_pos (by rfl)).trans rfl))))))))))))))))))))))))))))))))).trans hres)
              exact CMa_ret (S := Unit) () hx hb hr hlocks hP hK hD hS d_Model_act_410
            rcases Decidable.em (k = 27) with e_63_27 | e_63_27
            · subst e_63_27
              refine lv_tableIn (tgt := 381) hx hb d_Model_act_63 (by decide) (by decide) rfl (by decide) ?_
              refine lv_aload_n hx hb d_Model_act_381 rfl (lv_at hl 3 rfl) ?_
              refine va_get (D := D) (ci := 2) (v := .ref o3) (C := R_Model) (T := F_Model) (N := 14) hx hb hk i_Model hown hK hP 0 rfl rfl 2 (by decide) (hk _ kl_Model_16) (fun _ h9 => h9) rfl d_Model_act_382 ?_
              refine lv_aload_n hx hb d_Model_act_385 rfl (lv_at hl 3 rfl) ?_
              refine va_get (D := D) (ci := 2) (v := .int (aWc g1)) (C := R_Model) (T := F_Model) (N := 14) hx hb hk i_Model hown hK hP 0 rfl rfl 11 (by decide) (hk _ kl_Model_41) (fun _ h9 => h9) rfl d_Model_act_386 ?_
              refine va_iald hx hb hK hP 3 0 rfl rfl (okM_eq hg1 (okM_init (hw c_15))).1 d_Model_act_389 ?_
              subst hg1
              obtain ⟨rfl, rfl⟩ : ((m_M_init (m_M_asked (27 : Int32)) md).1) = z1 ∧ ((aMi ((m_M_init (m_M_asked (27 : Int32)) md).1)) (aWc ((m_M_init (m_M_asked (27 : Int32)) md).1)).toNatClampNeg) = z2 := Prod.mk.inj ((Eq.symm ((if_neg c_6).trans ((if_pos c_15).trans ((if_pos c_27).trans ((if_pos c_43).trans ((if_neg c_52).trans ((if_neg e_63_0).trans ((if_neg e_63_1).trans ((if_neg e_63_2).trans ((if_neg e_63_3).trans ((if_neg e_63_4).trans ((if_neg e_63_5).trans ((if_neg e_63_6).trans ((if_neg e_63_7).trans ((if_neg e_63_8).trans ((if_neg e_63_9).trans ((if_neg e_63_10).trans ((if_neg e_63_11).trans ((if_neg e_63_12).trans ((if_neg e_63_13).trans ((if_neg e_63_14).trans ((if_neg e_63_15).trans ((if_neg e_63_16).trans ((if_neg e_63_17).trans ((if_neg e_63_18).trans ((if_neg e_63_19).trans ((if_neg e_63_20).trans ((if_neg e_63_21).trans ((if_neg e_63_22).trans ((if_neg e_63_23).trans ((if_neg e_63_24).trans ((if_neg e_63_25).trans ((if_neg e_63_26).trans ((if_pos (by rfl)).trans rfl)))))))))))))))))))))))))))))))))).trans hres)
              exact CMa_ret (S := Unit) () hx hb hr hlocks hP hK hD hS d_Model_act_390
            rcases Decidable.em (k = 28) with e_63_28 | e_63_28
            · subst e_63_28
              refine lv_tableIn (tgt := 411) hx hb d_Model_act_63 (by decide) (by decide) rfl (by decide) ?_
              refine lv_iconst (v := (5 : Int32)) hx hb d_Model_act_411 (by decide) ?_
              subst hg1
              obtain ⟨rfl, rfl⟩ : ((m_M_init (m_M_asked (28 : Int32)) md).1) = z1 ∧ (5 : Int32) = z2 := Prod.mk.inj ((Eq.symm ((if_neg c_6).trans ((if_pos c_15).trans ((if_pos c_27).trans ((if_pos c_43).trans ((if_neg c_52).trans ((if_neg e_63_0).trans ((if_neg e_63_1).trans ((if_neg e_63_2).trans ((if_neg e_63_3).trans ((if_neg e_63_4).trans ((if_neg e_63_5).trans ((if_neg e_63_6).trans ((if_neg e_63_7).trans ((if_neg e_63_8).trans ((if_neg e_63_9).trans ((if_neg e_63_10).trans ((if_neg e_63_11).trans ((if_neg e_63_12).trans ((if_neg e_63_13).trans ((if_neg e_63_14).trans ((if_neg e_63_15).trans ((if_neg e_63_16).trans ((if_neg e_63_17).trans ((if_neg e_63_18).trans ((if_neg e_63_19).trans ((if_neg e_63_20).trans ((if_neg e_63_21).trans ((if_neg e_63_22).trans ((if_neg e_63_23).trans ((if_neg e_63_24).trans ((if_neg e_63_25).trans ((if_neg e_63_26).trans ((if_neg e_63_27).trans ((if_pos (by rfl)).trans rfl))))))))))))))))))))))))))))))))))).trans hres)
              exact CMa_ret (S := Unit) () hx hb hr hlocks hP hK hD hS d_Model_act_412
            rcases Decidable.em (k = 29) with e_63_29 | e_63_29
            · subst e_63_29
              refine lv_tableOut (tgt := 413) hx hb d_Model_act_63 (by decide) (by decide) ?_
              refine lv_bipush (v := (-104 : Int32)) hx hb d_Model_act_413 (by decide) ?_
              subst hg1
              obtain ⟨rfl, rfl⟩ : ((m_M_init (m_M_asked (29 : Int32)) md).1) = z1 ∧ (-104 : Int32) = z2 := Prod.mk.inj ((Eq.symm ((if_neg c_6).trans ((if_pos c_15).trans ((if_pos c_27).trans ((if_pos c_43).trans ((if_neg c_52).trans ((if_neg e_63_0).trans ((if_neg e_63_1).trans ((if_neg e_63_2).trans ((if_neg e_63_3).trans ((if_neg e_63_4).trans ((if_neg e_63_5).trans ((if_neg e_63_6).trans ((if_neg e_63_7).trans ((if_neg e_63_8).trans ((if_neg e_63_9).trans ((if_neg e_63_10).trans ((if_neg e_63_11).trans ((if_neg e_63_12).trans ((if_neg e_63_13).trans ((if_neg e_63_14).trans ((if_neg e_63_15).trans ((if_neg e_63_16).trans ((if_neg e_63_17).trans ((if_neg e_63_18).trans ((if_neg e_63_19).trans ((if_neg e_63_20).trans ((if_neg e_63_21).trans ((if_neg e_63_22).trans ((if_neg e_63_23).trans ((if_neg e_63_24).trans ((if_neg e_63_25).trans ((if_neg e_63_26).trans ((if_neg e_63_27).trans ((if_neg e_63_28).trans ((if_pos (by rfl)).trans rfl)))))))))))))))))))))))))))))))))))).trans hres)
              exact CMa_ret (S := Unit) () hx hb hr hlocks hP hK hD hS d_Model_act_415
            exact False.elim (dom30 (mIn_in (by decide) c_6) e_63_0 e_63_1 e_63_2 e_63_3 e_63_4 e_63_5 e_63_6 e_63_7 e_63_8 e_63_9 e_63_10 e_63_11 e_63_12 e_63_13 e_63_14 e_63_15 e_63_16 e_63_17 e_63_18 e_63_19 e_63_20 e_63_21 e_63_22 e_63_23 e_63_24 e_63_25 e_63_26 e_63_27 e_63_28 e_63_29)
        · refine lv_iload hx hb d_Model_act_46 (lv_at hl 0 rfl) ?_
          subst hg1
          obtain ⟨rfl, rfl⟩ : ((m_M_init (m_M_asked k) md).1) = z1 ∧ (m_M_init (m_M_asked k) md).2 = z2 := Prod.mk.inj ((Eq.symm ((if_neg c_6).trans ((if_pos c_15).trans ((if_pos c_27).trans ((if_neg c_43).trans rfl))))).trans hres)
          exact CMa_ret (S := Unit) () hx hb hr hlocks hP hK hD hS d_Model_act_48
      · refine lv_iconst (v := (0 : Int32)) hx hb d_Model_act_30 (by decide) ?_
        refine lv_goto (tgt := 39) hx hb d_Model_act_31 (by decide) ?_
        refine lv_istore (lv' := [(4, .int (0 : Int32)), (3, .int (m_M_asked k)), (0, .ref o), (1, .int k), (2, .int a)]) hx hb d_Model_act_39 hl (by decide) rfl (fun ls hl => ?_)
        refine lv_iload hx hb d_Model_act_41 (lv_at hl 0 rfl) ?_
        refine lv_if_ge (tgt := 49) hx hb d_Model_act_43 (by decide) (fun _ => ?_) (fun h9 => absurd (by decide) h9)
        refine lv_iload_n hx hb d_Model_act_49 rfl (lv_at hl 4 rfl) ?_
        refine lv_iconst (v := (1 : Int32)) hx hb d_Model_act_50 (by decide) ?_
        refine lv_iand hx hb d_Model_act_51 ?_
        refine lv_if_eq (tgt := 59) hx hb d_Model_act_52 (by decide) (fun c_52 => ?_) (fun c_52 => ?_)
        · refine lv_iconst (v := (0 : Int32)) hx hb d_Model_act_59 (by decide) ?_
          refine lv_istore (lv' := [(5, .int (0 : Int32)), (4, .int (0 : Int32)), (3, .int (m_M_asked k)), (0, .ref o), (1, .int k), (2, .int a)]) hx hb d_Model_act_60 hl (by decide) rfl (fun ls hl => ?_)
          refine lv_iload_n hx hb d_Model_act_62 rfl (lv_at hl 4 rfl) ?_
          rcases Decidable.em (k = 0) with e_63_0 | e_63_0
          · subst e_63_0
            refine lv_tableIn (tgt := 192) hx hb d_Model_act_63 (by decide) (by decide) rfl (by decide) ?_
            refine lv_aload_n hx hb d_Model_act_192 rfl (lv_at hl 3 rfl) ?_
            refine va_get (D := D) (ci := 2) (v := .ref o2) (C := R_Model) (T := F_Model) (N := 14) hx hb hk i_Model hown hK hP 0 rfl rfl 1 (by decide) (hk _ kl_Model_13) (fun _ h9 => h9) rfl d_Model_act_193 ?_
            refine lv_aload_n hx hb d_Model_act_196 rfl (lv_at hl 3 rfl) ?_
            refine va_get (D := D) (ci := 2) (v := .int (aWc md)) (C := R_Model) (T := F_Model) (N := 14) hx hb hk i_Model hown hK hP 0 rfl rfl 11 (by decide) (hk _ kl_Model_41) (fun _ h9 => h9) rfl d_Model_act_197 ?_
            refine lv_dup2_11 hx hb d_Model_act_200 rfl rfl ?_
            refine va_iald hx hb hK hP 2 0 rfl rfl (hw c_15).1 d_Model_act_201 ?_
            refine lv_iload_n hx hb d_Model_act_202 rfl (lv_at hl 5 rfl) ?_
            refine lv_iadd hx hb d_Model_act_203 ?_
            refine va_iast hx hb hK hP hD hS 2 0 rfl rfl (hw c_15).1 d_Model_act_204 (fun H locs hP hD hS => ?_)
            replace hP : va_P D classes (M13 cI cZ o o1 o2 o3 o4 o5 o6 o7 o8 o9 o10 o11 o12 (uBa md (upd ((aBa md)) (aWc md).toNatClampNeg (((aBa md) (aWc md).toNatClampNeg) + a)))) H := hP
            replace hD : va_D A (M13 cI cZ o o1 o2 o3 o4 o5 o6 o7 o8 o9 o10 o11 o12 (uBa md (upd ((aBa md)) (aWc md).toNatClampNeg (((aBa md) (aWc md).toNatClampNeg) + a)))) := hD
            refine lv_aload_n hx hb d_Model_act_205 rfl (lv_at hl 3 rfl) ?_
            refine va_get (D := D) (ci := 2) (v := .ref o2) (C := R_Model) (T := F_Model) (N := 14) hx hb hk i_Model hown hK hP 0 rfl rfl 1 (by decide) (hk _ kl_Model_13) (fun _ h9 => h9) rfl d_Model_act_206 ?_
            refine lv_aload_n hx hb d_Model_act_209 rfl (lv_at hl 3 rfl) ?_
            refine va_get (D := D) (ci := 2) (v := .int (aWc (uBa md (upd ((aBa md)) (aWc md).toNatClampNeg (((aBa md) (aWc md).toNatClampNeg) + a))))) (C := R_Model) (T := F_Model) (N := 14) hx hb hk i_Model hown hK hP 0 rfl rfl 11 (by decide) (hk _ kl_Model_41) (fun _ h9 => h9) rfl d_Model_act_210 ?_
            refine va_iald hx hb hK hP 2 0 rfl rfl (okM_uBa (hw c_15)).1 d_Model_act_213 ?_
            obtain ⟨rfl, rfl⟩ : (uBa md (upd ((aBa md)) (aWc md).toNatClampNeg (((aBa md) (aWc md).toNatClampNeg) + a))) = z1 ∧ ((aBa (uBa md (upd ((aBa md)) (aWc md).toNatClampNeg (((aBa md) (aWc md).toNatClampNeg) + a)))) (aWc (uBa md (upd ((aBa md)) (aWc md).toNatClampNeg (((aBa md) (aWc md).toNatClampNeg) + a)))).toNatClampNeg) = z2 := Prod.mk.inj ((Eq.symm ((if_neg c_6).trans ((if_pos c_15).trans ((if_neg c_27).trans ((if_pos c_52).trans ((if_pos (by rfl)).trans rfl)))))).trans hres)
            exact CMa_ret (S := Unit) () hx hb hr hlocks hP hK hD hS d_Model_act_214
          rcases Decidable.em (k = 1) with e_63_1 | e_63_1
          · subst e_63_1
            refine lv_tableIn (tgt := 215) hx hb d_Model_act_63 (by decide) (by decide) rfl (by decide) ?_
            refine lv_aload_n hx hb d_Model_act_215 rfl (lv_at hl 3 rfl) ?_
            refine va_get (D := D) (ci := 2) (v := .ref o2) (C := R_Model) (T := F_Model) (N := 14) hx hb hk i_Model hown hK hP 0 rfl rfl 1 (by decide) (hk _ kl_Model_13) (fun _ h9 => h9) rfl d_Model_act_216 ?_
            refine lv_aload_n hx hb d_Model_act_219 rfl (lv_at hl 3 rfl) ?_
            refine va_get (D := D) (ci := 2) (v := .int (aWc md)) (C := R_Model) (T := F_Model) (N := 14) hx hb hk i_Model hown hK hP 0 rfl rfl 11 (by decide) (hk _ kl_Model_41) (fun _ h9 => h9) rfl d_Model_act_220 ?_
            refine va_iald hx hb hK hP 2 0 rfl rfl (hw c_15).1 d_Model_act_223 ?_
            obtain ⟨rfl, rfl⟩ : md = z1 ∧ ((aBa md) (aWc md).toNatClampNeg) = z2 := Prod.mk.inj ((Eq.symm ((if_neg c_6).trans ((if_pos c_15).trans ((if_neg c_27).trans ((if_pos c_52).trans ((if_neg e_63_0).trans ((if_pos (by rfl)).trans rfl))))))).trans hres)
            exact CMa_ret (S := Unit) () hx hb hr hlocks hP hK hD hS d_Model_act_224
          rcases Decidable.em (k = 2) with e_63_2 | e_63_2
          · subst e_63_2
            refine lv_tableIn (tgt := 225) hx hb d_Model_act_63 (by decide) (by decide) rfl (by decide) ?_
            refine lv_aload_n hx hb d_Model_act_225 rfl (lv_at hl 3 rfl) ?_
            refine va_get (D := D) (ci := 2) (v := .ref o3) (C := R_Model) (T := F_Model) (N := 14) hx hb hk i_Model hown hK hP 0 rfl rfl 2 (by decide) (hk _ kl_Model_16) (fun _ h9 => h9) rfl d_Model_act_226 ?_
            refine lv_aload_n hx hb d_Model_act_229 rfl (lv_at hl 3 rfl) ?_
            refine va_get (D := D) (ci := 2) (v := .int (aWc md)) (C := R_Model) (T := F_Model) (N := 14) hx hb hk i_Model hown hK hP 0 rfl rfl 11 (by decide) (hk _ kl_Model_41) (fun _ h9 => h9) rfl d_Model_act_230 ?_
            refine lv_iload_n hx hb d_Model_act_233 rfl (lv_at hl 5 rfl) ?_
            refine va_iast hx hb hK hP hD hS 3 0 rfl rfl (hw c_15).1 d_Model_act_234 (fun H locs hP hD hS => ?_)
            replace hP : va_P D classes (M13 cI cZ o o1 o2 o3 o4 o5 o6 o7 o8 o9 o10 o11 o12 (uMi md (upd ((aMi md)) (aWc md).toNatClampNeg a))) H := hP
            replace hD : va_D A (M13 cI cZ o o1 o2 o3 o4 o5 o6 o7 o8 o9 o10 o11 o12 (uMi md (upd ((aMi md)) (aWc md).toNatClampNeg a))) := hD
            refine lv_iload_n hx hb d_Model_act_235 rfl (lv_at hl 5 rfl) ?_
            obtain ⟨rfl, rfl⟩ : (uMi md (upd ((aMi md)) (aWc md).toNatClampNeg a)) = z1 ∧ a = z2 := Prod.mk.inj ((Eq.symm ((if_neg c_6).trans ((if_pos c_15).trans ((if_neg c_27).trans ((if_pos c_52).trans ((if_neg e_63_0).trans ((if_neg e_63_1).trans ((if_pos (by rfl)).trans rfl)))))))).trans hres)
            exact CMa_ret (S := Unit) () hx hb hr hlocks hP hK hD hS d_Model_act_236
          rcases Decidable.em (k = 3) with e_63_3 | e_63_3
          · subst e_63_3
            refine lv_tableIn (tgt := 237) hx hb d_Model_act_63 (by decide) (by decide) rfl (by decide) ?_
            refine lv_bipush (v := (70 : Int32)) hx hb d_Model_act_237 (by decide) ?_
            obtain ⟨rfl, rfl⟩ : md = z1 ∧ (70 : Int32) = z2 := Prod.mk.inj ((Eq.symm ((if_neg c_6).trans ((if_pos c_15).trans ((if_neg c_27).trans ((if_pos c_52).trans ((if_neg e_63_0).trans ((if_neg e_63_1).trans ((if_neg e_63_2).trans ((if_pos (by rfl)).trans rfl))))))))).trans hres)
            exact CMa_ret (S := Unit) () hx hb hr hlocks hP hK hD hS d_Model_act_239
          rcases Decidable.em (k = 4) with e_63_4 | e_63_4
          · subst e_63_4
            refine lv_tableIn (tgt := 240) hx hb d_Model_act_63 (by decide) (by decide) rfl (by decide) ?_
            refine lv_bipush (v := (6 : Int32)) hx hb d_Model_act_240 (by decide) ?_
            obtain ⟨rfl, rfl⟩ : md = z1 ∧ (6 : Int32) = z2 := Prod.mk.inj ((Eq.symm ((if_neg c_6).trans ((if_pos c_15).trans ((if_neg c_27).trans ((if_pos c_52).trans ((if_neg e_63_0).trans ((if_neg e_63_1).trans ((if_neg e_63_2).trans ((if_neg e_63_3).trans ((if_pos (by rfl)).trans rfl)))))))))).trans hres)
            exact CMa_ret (S := Unit) () hx hb hr hlocks hP hK hD hS d_Model_act_242
          rcases Decidable.em (k = 5) with e_63_5 | e_63_5
          · subst e_63_5
            refine lv_tableIn (tgt := 243) hx hb d_Model_act_63 (by decide) (by decide) rfl (by decide) ?_
            refine lv_iconst (v := (5 : Int32)) hx hb d_Model_act_243 (by decide) ?_
            obtain ⟨rfl, rfl⟩ : md = z1 ∧ (5 : Int32) = z2 := Prod.mk.inj ((Eq.symm ((if_neg c_6).trans ((if_pos c_15).trans ((if_neg c_27).trans ((if_pos c_52).trans ((if_neg e_63_0).trans ((if_neg e_63_1).trans ((if_neg e_63_2).trans ((if_neg e_63_3).trans ((if_neg e_63_4).trans ((if_pos (by rfl)).trans rfl))))))))))).trans hres)
            exact CMa_ret (S := Unit) () hx hb hr hlocks hP hK hD hS d_Model_act_244
          rcases Decidable.em (k = 6) with e_63_6 | e_63_6
          · subst e_63_6
            refine lv_tableIn (tgt := 245) hx hb d_Model_act_63 (by decide) (by decide) rfl (by decide) ?_
            refine lv_iconst (v := (2 : Int32)) hx hb d_Model_act_245 (by decide) ?_
            obtain ⟨rfl, rfl⟩ : md = z1 ∧ (2 : Int32) = z2 := Prod.mk.inj ((Eq.symm ((if_neg c_6).trans ((if_pos c_15).trans ((if_neg c_27).trans ((if_pos c_52).trans ((if_neg e_63_0).trans ((if_neg e_63_1).trans ((if_neg e_63_2).trans ((if_neg e_63_3).trans ((if_neg e_63_4).trans ((if_neg e_63_5).trans ((if_pos (by rfl)).trans rfl)))))))))))).trans hres)
            exact CMa_ret (S := Unit) () hx hb hr hlocks hP hK hD hS d_Model_act_246
          rcases Decidable.em (k = 7) with e_63_7 | e_63_7
          · subst e_63_7
            refine lv_tableIn (tgt := 247) hx hb d_Model_act_63 (by decide) (by decide) rfl (by decide) ?_
            refine lv_iconst (v := (4 : Int32)) hx hb d_Model_act_247 (by decide) ?_
            obtain ⟨rfl, rfl⟩ : md = z1 ∧ (4 : Int32) = z2 := Prod.mk.inj ((Eq.symm ((if_neg c_6).trans ((if_pos c_15).trans ((if_neg c_27).trans ((if_pos c_52).trans ((if_neg e_63_0).trans ((if_neg e_63_1).trans ((if_neg e_63_2).trans ((if_neg e_63_3).trans ((if_neg e_63_4).trans ((if_neg e_63_5).trans ((if_neg e_63_6).trans ((if_pos (by rfl)).trans rfl))))))))))))).trans hres)
            exact CMa_ret (S := Unit) () hx hb hr hlocks hP hK hD hS d_Model_act_248
          rcases Decidable.em (k = 8) with e_63_8 | e_63_8
          · subst e_63_8
            refine lv_tableIn (tgt := 247) hx hb d_Model_act_63 (by decide) (by decide) rfl (by decide) ?_
            refine lv_iconst (v := (4 : Int32)) hx hb d_Model_act_247 (by decide) ?_
            obtain ⟨rfl, rfl⟩ : md = z1 ∧ (4 : Int32) = z2 := Prod.mk.inj ((Eq.symm ((if_neg c_6).trans ((if_pos c_15).trans ((if_neg c_27).trans ((if_pos c_52).trans ((if_neg e_63_0).trans ((if_neg e_63_1).trans ((if_neg e_63_2).trans ((if_neg e_63_3).trans ((if_neg e_63_4).trans ((if_neg e_63_5).trans ((if_neg e_63_6).trans ((if_neg e_63_7).trans ((if_pos (by rfl)).trans rfl)))))))))))))).trans hres)
            exact CMa_ret (S := Unit) () hx hb hr hlocks hP hK hD hS d_Model_act_248
          rcases Decidable.em (k = 9) with e_63_9 | e_63_9
          · subst e_63_9
            refine lv_tableIn (tgt := 249) hx hb d_Model_act_63 (by decide) (by decide) rfl (by decide) ?_
            refine lv_aload_n hx hb d_Model_act_249 rfl (lv_at hl 3 rfl) ?_
            refine lv_iconst (v := (3 : Int32)) hx hb d_Model_act_250 (by decide) ?_
            refine lv_iconst (v := (4 : Int32)) hx hb d_Model_act_251 (by decide) ?_
            refine CMv.callV (wc := M13 cI cZ o o1 o2 o3 o4 o5 o6 o7 o8 o9 o10 o11 o12 md) (wr := []) (b := o) (av := [.int (3 : Int32), .int (4 : Int32)]) (rest := []) hx hb hml hown hk (c_M_initAlone l D cI cZ o o1 o2 o3 o4 o5 o6 o7 o8 o9 o10 o11 o12 (3 : Int32) (4 : Int32) md (by unfold vp_in; decide) (okM_mono (hw c_15) (by decide)) _ rfl) hK hP hD hS hA hSt hl.1 (va_recv hK hP (ci := 2) (q0 := 0) rfl rfl) d_Model_act_252 kc_Model_initAlone ki_Model kl_Model_72 kn_Model_initAlone kx_Model_initAlone (n := 2) rfl (by decide +kernel) ⟨Nat.le_of_ble_eq_true rfl, Nat.le_of_ble_eq_true rfl⟩ rfl rfl (Nat.le_of_ble_eq_true rfl) ⟨Nat.le_of_ble_eq_true rfl, Nat.le_of_ble_eq_true rfl⟩ (fun H locs hP hD hS => ?_)
            replace hP : va_P D classes (M13 cI cZ o o1 o2 o3 o4 o5 o6 o7 o8 o9 o10 o11 o12 (m_M_initAlone (3 : Int32) (4 : Int32) md)) H := hP
            replace hD : va_D A (M13 cI cZ o o1 o2 o3 o4 o5 o6 o7 o8 o9 o10 o11 o12 (m_M_initAlone (3 : Int32) (4 : Int32) md)) := hD
            obtain ⟨g9, hg9⟩ : ∃ z, (m_M_initAlone (3 : Int32) (4 : Int32) md) = z := ⟨_, rfl⟩
            rw [hg9] at hP hD
            refine lv_bipush (v := (19 : Int32)) hx hb d_Model_act_255 (by decide) ?_
            subst hg9
            obtain ⟨rfl, rfl⟩ : (m_M_initAlone (3 : Int32) (4 : Int32) md) = z1 ∧ (19 : Int32) = z2 := Prod.mk.inj ((Eq.symm ((if_neg c_6).trans ((if_pos c_15).trans ((if_neg c_27).trans ((if_pos c_52).trans ((if_neg e_63_0).trans ((if_neg e_63_1).trans ((if_neg e_63_2).trans ((if_neg e_63_3).trans ((if_neg e_63_4).trans ((if_neg e_63_5).trans ((if_neg e_63_6).trans ((if_neg e_63_7).trans ((if_neg e_63_8).trans ((if_pos (by rfl)).trans rfl))))))))))))))).trans hres)
            exact CMa_ret (S := Unit) () hx hb hr hlocks hP hK hD hS d_Model_act_257
          rcases Decidable.em (k = 10) with e_63_10 | e_63_10
          · subst e_63_10
            refine lv_tableIn (tgt := 258) hx hb d_Model_act_63 (by decide) (by decide) rfl (by decide) ?_
            refine lv_iconst (v := (1 : Int32)) hx hb d_Model_act_258 (by decide) ?_
            obtain ⟨rfl, rfl⟩ : md = z1 ∧ (1 : Int32) = z2 := Prod.mk.inj ((Eq.symm ((if_neg c_6).trans ((if_pos c_15).trans ((if_neg c_27).trans ((if_pos c_52).trans ((if_neg e_63_0).trans ((if_neg e_63_1).trans ((if_neg e_63_2).trans ((if_neg e_63_3).trans ((if_neg e_63_4).trans ((if_neg e_63_5).trans ((if_neg e_63_6).trans ((if_neg e_63_7).trans ((if_neg e_63_8).trans ((if_neg e_63_9).trans ((if_pos (by rfl)).trans rfl)))))))))))))))).trans hres)
            exact CMa_ret (S := Unit) () hx hb hr hlocks hP hK hD hS d_Model_act_259
          rcases Decidable.em (k = 11) with e_63_11 | e_63_11
          · subst e_63_11
            refine lv_tableIn (tgt := 260) hx hb d_Model_act_63 (by decide) (by decide) rfl (by decide) ?_
            refine lv_bipush (v := (11 : Int32)) hx hb d_Model_act_260 (by decide) ?_
            obtain ⟨rfl, rfl⟩ : md = z1 ∧ (11 : Int32) = z2 := Prod.mk.inj ((Eq.symm ((if_neg c_6).trans ((if_pos c_15).trans ((if_neg c_27).trans ((if_pos c_52).trans ((if_neg e_63_0).trans ((if_neg e_63_1).trans ((if_neg e_63_2).trans ((if_neg e_63_3).trans ((if_neg e_63_4).trans ((if_neg e_63_5).trans ((if_neg e_63_6).trans ((if_neg e_63_7).trans ((if_neg e_63_8).trans ((if_neg e_63_9).trans ((if_neg e_63_10).trans ((if_pos (by rfl)).trans rfl))))))))))))))))).trans hres)
            exact CMa_ret (S := Unit) () hx hb hr hlocks hP hK hD hS d_Model_act_262
          rcases Decidable.em (k = 12) with e_63_12 | e_63_12
          · subst e_63_12
            refine lv_tableIn (tgt := 413) hx hb d_Model_act_63 (by decide) (by decide) rfl (by decide) ?_
            refine lv_bipush (v := (-104 : Int32)) hx hb d_Model_act_413 (by decide) ?_
            obtain ⟨rfl, rfl⟩ : md = z1 ∧ (-104 : Int32) = z2 := Prod.mk.inj ((Eq.symm ((if_neg c_6).trans ((if_pos c_15).trans ((if_neg c_27).trans ((if_pos c_52).trans ((if_neg e_63_0).trans ((if_neg e_63_1).trans ((if_neg e_63_2).trans ((if_neg e_63_3).trans ((if_neg e_63_4).trans ((if_neg e_63_5).trans ((if_neg e_63_6).trans ((if_neg e_63_7).trans ((if_neg e_63_8).trans ((if_neg e_63_9).trans ((if_neg e_63_10).trans ((if_neg e_63_11).trans ((if_pos (by rfl)).trans rfl)))))))))))))))))).trans hres)
            exact CMa_ret (S := Unit) () hx hb hr hlocks hP hK hD hS d_Model_act_415
          rcases Decidable.em (k = 13) with e_63_13 | e_63_13
          · subst e_63_13
            refine lv_tableIn (tgt := 263) hx hb d_Model_act_63 (by decide) (by decide) rfl (by decide) ?_
            refine lv_bipush (v := (71 : Int32)) hx hb d_Model_act_263 (by decide) ?_
            obtain ⟨rfl, rfl⟩ : md = z1 ∧ (71 : Int32) = z2 := Prod.mk.inj ((Eq.symm ((if_neg c_6).trans ((if_pos c_15).trans ((if_neg c_27).trans ((if_pos c_52).trans ((if_neg e_63_0).trans ((if_neg e_63_1).trans ((if_neg e_63_2).trans ((if_neg e_63_3).trans ((if_neg e_63_4).trans ((if_neg e_63_5).trans ((if_neg e_63_6).trans ((if_neg e_63_7).trans ((if_neg e_63_8).trans ((if_neg e_63_9).trans ((if_neg e_63_10).trans ((if_neg e_63_11).trans ((if_neg e_63_12).trans ((if_pos (by rfl)).trans rfl))))))))))))))))))).trans hres)
            exact CMa_ret (S := Unit) () hx hb hr hlocks hP hK hD hS d_Model_act_265
          rcases Decidable.em (k = 14) with e_63_14 | e_63_14
          · subst e_63_14
            refine lv_tableIn (tgt := 413) hx hb d_Model_act_63 (by decide) (by decide) rfl (by decide) ?_
            refine lv_bipush (v := (-104 : Int32)) hx hb d_Model_act_413 (by decide) ?_
            obtain ⟨rfl, rfl⟩ : md = z1 ∧ (-104 : Int32) = z2 := Prod.mk.inj ((Eq.symm ((if_neg c_6).trans ((if_pos c_15).trans ((if_neg c_27).trans ((if_pos c_52).trans ((if_neg e_63_0).trans ((if_neg e_63_1).trans ((if_neg e_63_2).trans ((if_neg e_63_3).trans ((if_neg e_63_4).trans ((if_neg e_63_5).trans ((if_neg e_63_6).trans ((if_neg e_63_7).trans ((if_neg e_63_8).trans ((if_neg e_63_9).trans ((if_neg e_63_10).trans ((if_neg e_63_11).trans ((if_neg e_63_12).trans ((if_neg e_63_13).trans ((if_pos (by rfl)).trans rfl)))))))))))))))))))).trans hres)
            exact CMa_ret (S := Unit) () hx hb hr hlocks hP hK hD hS d_Model_act_415
          rcases Decidable.em (k = 15) with e_63_15 | e_63_15
          · subst e_63_15
            refine lv_tableIn (tgt := 413) hx hb d_Model_act_63 (by decide) (by decide) rfl (by decide) ?_
            refine lv_bipush (v := (-104 : Int32)) hx hb d_Model_act_413 (by decide) ?_
            obtain ⟨rfl, rfl⟩ : md = z1 ∧ (-104 : Int32) = z2 := Prod.mk.inj ((Eq.symm ((if_neg c_6).trans ((if_pos c_15).trans ((if_neg c_27).trans ((if_pos c_52).trans ((if_neg e_63_0).trans ((if_neg e_63_1).trans ((if_neg e_63_2).trans ((if_neg e_63_3).trans ((if_neg e_63_4).trans ((if_neg e_63_5).trans ((if_neg e_63_6).trans ((if_neg e_63_7).trans ((if_neg e_63_8).trans ((if_neg e_63_9).trans ((if_neg e_63_10).trans ((if_neg e_63_11).trans ((if_neg e_63_12).trans ((if_neg e_63_13).trans ((if_neg e_63_14).trans ((if_pos (by rfl)).trans rfl))))))))))))))))))))).trans hres)
            exact CMa_ret (S := Unit) () hx hb hr hlocks hP hK hD hS d_Model_act_415
          rcases Decidable.em (k = 16) with e_63_16 | e_63_16
          · subst e_63_16
            refine lv_tableIn (tgt := 266) hx hb d_Model_act_63 (by decide) (by decide) rfl (by decide) ?_
            refine lv_aload_n hx hb d_Model_act_266 rfl (lv_at hl 3 rfl) ?_
            refine va_get (D := D) (ci := 2) (v := .ref o4) (C := R_Model) (T := F_Model) (N := 14) hx hb hk i_Model hown hK hP 0 rfl rfl 3 (by decide) (hk _ kl_Model_19) (fun _ h9 => h9) rfl d_Model_act_267 ?_
            refine lv_aload_n hx hb d_Model_act_270 rfl (lv_at hl 3 rfl) ?_
            refine va_get (D := D) (ci := 2) (v := .int (aWc md)) (C := R_Model) (T := F_Model) (N := 14) hx hb hk i_Model hown hK hP 0 rfl rfl 11 (by decide) (hk _ kl_Model_41) (fun _ h9 => h9) rfl d_Model_act_271 ?_
            refine va_iald hx hb hK hP 4 0 rfl rfl (hw c_15).1 d_Model_act_274 ?_
            obtain ⟨rfl, rfl⟩ : md = z1 ∧ ((aXx md) (aWc md).toNatClampNeg) = z2 := Prod.mk.inj ((Eq.symm ((if_neg c_6).trans ((if_pos c_15).trans ((if_neg c_27).trans ((if_pos c_52).trans ((if_neg e_63_0).trans ((if_neg e_63_1).trans ((if_neg e_63_2).trans ((if_neg e_63_3).trans ((if_neg e_63_4).trans ((if_neg e_63_5).trans ((if_neg e_63_6).trans ((if_neg e_63_7).trans ((if_neg e_63_8).trans ((if_neg e_63_9).trans ((if_neg e_63_10).trans ((if_neg e_63_11).trans ((if_neg e_63_12).trans ((if_neg e_63_13).trans ((if_neg e_63_14).trans ((if_neg e_63_15).trans ((if_pos (by rfl)).trans rfl)))))))))))))))))))))).trans hres)
            exact CMa_ret (S := Unit) () hx hb hr hlocks hP hK hD hS d_Model_act_275
          rcases Decidable.em (k = 17) with e_63_17 | e_63_17
          · subst e_63_17
            refine lv_tableIn (tgt := 276) hx hb d_Model_act_63 (by decide) (by decide) rfl (by decide) ?_
            refine lv_aload_n hx hb d_Model_act_276 rfl (lv_at hl 3 rfl) ?_
            refine va_get (D := D) (ci := 2) (v := .ref o5) (C := R_Model) (T := F_Model) (N := 14) hx hb hk i_Model hown hK hP 0 rfl rfl 4 (by decide) (hk _ kl_Model_22) (fun _ h9 => h9) rfl d_Model_act_277 ?_
            refine lv_aload_n hx hb d_Model_act_280 rfl (lv_at hl 3 rfl) ?_
            refine va_get (D := D) (ci := 2) (v := .int (aWc md)) (C := R_Model) (T := F_Model) (N := 14) hx hb hk i_Model hown hK hP 0 rfl rfl 11 (by decide) (hk _ kl_Model_41) (fun _ h9 => h9) rfl d_Model_act_281 ?_
            refine va_iald hx hb hK hP 5 0 rfl rfl (hw c_15).1 d_Model_act_284 ?_
            obtain ⟨rfl, rfl⟩ : md = z1 ∧ ((aYy md) (aWc md).toNatClampNeg) = z2 := Prod.mk.inj ((Eq.symm ((if_neg c_6).trans ((if_pos c_15).trans ((if_neg c_27).trans ((if_pos c_52).trans ((if_neg e_63_0).trans ((if_neg e_63_1).trans ((if_neg e_63_2).trans ((if_neg e_63_3).trans ((if_neg e_63_4).trans ((if_neg e_63_5).trans ((if_neg e_63_6).trans ((if_neg e_63_7).trans ((if_neg e_63_8).trans ((if_neg e_63_9).trans ((if_neg e_63_10).trans ((if_neg e_63_11).trans ((if_neg e_63_12).trans ((if_neg e_63_13).trans ((if_neg e_63_14).trans ((if_neg e_63_15).trans ((if_neg e_63_16).trans ((if_pos (by rfl)).trans rfl))))))))))))))))))))))).trans hres)
            exact CMa_ret (S := Unit) () hx hb hr hlocks hP hK hD hS d_Model_act_285
          rcases Decidable.em (k = 18) with e_63_18 | e_63_18
          · subst e_63_18
            refine lv_tableIn (tgt := 286) hx hb d_Model_act_63 (by decide) (by decide) rfl (by decide) ?_
            refine lv_aload_n hx hb d_Model_act_286 rfl (lv_at hl 3 rfl) ?_
            refine CMv.callV (wc := M13 cI cZ o o1 o2 o3 o4 o5 o6 o7 o8 o9 o10 o11 o12 md) (wr := []) (b := o) (av := []) (rest := []) hx hb hml hown hk (c_M_initLazy l D cI cZ o o1 o2 o3 o4 o5 o6 o7 o8 o9 o10 o11 o12 md (okM_mono (hw c_15) (by decide)) _ rfl) hK hP hD hS hA hSt hl.1 (va_recv hK hP (ci := 2) (q0 := 0) rfl rfl) d_Model_act_287 kc_Model_initLazy ki_Model kl_Model_96 kn_Model_initLazy kx_Model_initLazy (n := 0) rfl (by decide +kernel) ⟨Nat.le_of_ble_eq_true rfl, Nat.le_of_ble_eq_true rfl⟩ rfl rfl (Nat.le_of_ble_eq_true rfl) ⟨Nat.le_of_ble_eq_true rfl, Nat.le_of_ble_eq_true rfl⟩ (fun H locs hP hD hS => ?_)
            replace hP : va_P D classes (M13 cI cZ o o1 o2 o3 o4 o5 o6 o7 o8 o9 o10 o11 o12 (m_M_initLazy md)) H := hP
            replace hD : va_D A (M13 cI cZ o o1 o2 o3 o4 o5 o6 o7 o8 o9 o10 o11 o12 (m_M_initLazy md)) := hD
            obtain ⟨g10, hg10⟩ : ∃ z, (m_M_initLazy md) = z := ⟨_, rfl⟩
            rw [hg10] at hP hD
            refine lv_bipush (v := (20 : Int32)) hx hb d_Model_act_290 (by decide) ?_
            subst hg10
            obtain ⟨rfl, rfl⟩ : (m_M_initLazy md) = z1 ∧ (20 : Int32) = z2 := Prod.mk.inj ((Eq.symm ((if_neg c_6).trans ((if_pos c_15).trans ((if_neg c_27).trans ((if_pos c_52).trans ((if_neg e_63_0).trans ((if_neg e_63_1).trans ((if_neg e_63_2).trans ((if_neg e_63_3).trans ((if_neg e_63_4).trans ((if_neg e_63_5).trans ((if_neg e_63_6).trans ((if_neg e_63_7).trans ((if_neg e_63_8).trans ((if_neg e_63_9).trans ((if_neg e_63_10).trans ((if_neg e_63_11).trans ((if_neg e_63_12).trans ((if_neg e_63_13).trans ((if_neg e_63_14).trans ((if_neg e_63_15).trans ((if_neg e_63_16).trans ((if_neg e_63_17).trans ((if_pos (by rfl)).trans rfl)))))))))))))))))))))))).trans hres)
            exact CMa_ret (S := Unit) () hx hb hr hlocks hP hK hD hS d_Model_act_292
          rcases Decidable.em (k = 19) with e_63_19 | e_63_19
          · subst e_63_19
            refine lv_tableIn (tgt := 293) hx hb d_Model_act_63 (by decide) (by decide) rfl (by decide) ?_
            refine lv_iload hx hb d_Model_act_293 (lv_at hl 0 rfl) ?_
            refine lv_if_eq (tgt := 303) hx hb d_Model_act_295 (by decide) (fun _ => ?_) (fun h9 => absurd (by decide) h9)
            refine lv_iconst (v := (3 : Int32)) hx hb d_Model_act_303 (by decide) ?_
            refine lv_bipush (v := (17 : Int32)) hx hb d_Model_act_304 (by decide) ?_
            refine lv_iadd hx hb d_Model_act_306 ?_
            refine lv_topi (fun z ez => ?_)
            obtain rfl : z = (20 : Int32) := ez.trans (by decide)
            obtain ⟨rfl, rfl⟩ : md = z1 ∧ (20 : Int32) = z2 := Prod.mk.inj ((Eq.symm ((if_neg c_6).trans ((if_pos c_15).trans ((if_neg c_27).trans ((if_pos c_52).trans ((if_neg e_63_0).trans ((if_neg e_63_1).trans ((if_neg e_63_2).trans ((if_neg e_63_3).trans ((if_neg e_63_4).trans ((if_neg e_63_5).trans ((if_neg e_63_6).trans ((if_neg e_63_7).trans ((if_neg e_63_8).trans ((if_neg e_63_9).trans ((if_neg e_63_10).trans ((if_neg e_63_11).trans ((if_neg e_63_12).trans ((if_neg e_63_13).trans ((if_neg e_63_14).trans ((if_neg e_63_15).trans ((if_neg e_63_16).trans ((if_neg e_63_17).trans ((if_neg e_63_18).trans ((if_pos (by rfl)).trans rfl))))))))))))))))))))))))).trans hres)
            exact CMa_ret (S := Unit) () hx hb hr hlocks hP hK hD hS d_Model_act_307
          rcases Decidable.em (k = 20) with e_63_20 | e_63_20
          · subst e_63_20
            refine lv_tableIn (tgt := 308) hx hb d_Model_act_63 (by decide) (by decide) rfl (by decide) ?_
            refine lv_iload hx hb d_Model_act_308 (lv_at hl 0 rfl) ?_
            refine lv_if_eq (tgt := 317) hx hb d_Model_act_310 (by decide) (fun _ => ?_) (fun h9 => absurd (by decide) h9)
            refine lv_iconst (v := (0 : Int32)) hx hb d_Model_act_317 (by decide) ?_
            obtain ⟨rfl, rfl⟩ : md = z1 ∧ (0 : Int32) = z2 := Prod.mk.inj ((Eq.symm ((if_neg c_6).trans ((if_pos c_15).trans ((if_neg c_27).trans ((if_pos c_52).trans ((if_neg e_63_0).trans ((if_neg e_63_1).trans ((if_neg e_63_2).trans ((if_neg e_63_3).trans ((if_neg e_63_4).trans ((if_neg e_63_5).trans ((if_neg e_63_6).trans ((if_neg e_63_7).trans ((if_neg e_63_8).trans ((if_neg e_63_9).trans ((if_neg e_63_10).trans ((if_neg e_63_11).trans ((if_neg e_63_12).trans ((if_neg e_63_13).trans ((if_neg e_63_14).trans ((if_neg e_63_15).trans ((if_neg e_63_16).trans ((if_neg e_63_17).trans ((if_neg e_63_18).trans ((if_neg e_63_19).trans ((if_pos (by rfl)).trans rfl)))))))))))))))))))))))))).trans hres)
            exact CMa_ret (S := Unit) () hx hb hr hlocks hP hK hD hS d_Model_act_318
          rcases Decidable.em (k = 21) with e_63_21 | e_63_21
          · subst e_63_21
            refine lv_tableIn (tgt := 319) hx hb d_Model_act_63 (by decide) (by decide) rfl (by decide) ?_
            refine lv_aload_n hx hb d_Model_act_319 rfl (lv_at hl 3 rfl) ?_
            refine va_get (D := D) (ci := 2) (v := .ref o10) (C := R_Model) (T := F_Model) (N := 14) hx hb hk i_Model hown hK hP 0 rfl rfl 9 (by decide) (hk _ kl_Model_38) (fun _ h9 => h9) rfl d_Model_act_320 ?_
            refine lv_aload_n hx hb d_Model_act_323 rfl (lv_at hl 3 rfl) ?_
            refine va_get (D := D) (ci := 2) (v := .int (aWc md)) (C := R_Model) (T := F_Model) (N := 14) hx hb hk i_Model hown hK hP 0 rfl rfl 11 (by decide) (hk _ kl_Model_41) (fun _ h9 => h9) rfl d_Model_act_324 ?_
            refine va_zald hx hb hK hP 10 1 rfl rfl (hw c_15).1 d_Model_act_327 ?_
            refine lv_if_eq (tgt := 340) hx hb d_Model_act_328 (by decide) (fun c_328 => ?_) (fun c_328 => ?_)
            · refine lv_iload_n hx hb d_Model_act_340 rfl (lv_at hl 5 rfl) ?_
              refine lv_sipush (v := (1000 : Int32)) hx hb d_Model_act_341 (by decide) ?_
              refine lv_iadd hx hb d_Model_act_344 ?_
              obtain ⟨rfl, rfl⟩ : md = z1 ∧ (a + (1000 : Int32)) = z2 := Prod.mk.inj ((Eq.symm ((if_neg c_6).trans ((if_pos c_15).trans ((if_neg c_27).trans ((if_pos c_52).trans ((if_neg e_63_0).trans ((if_neg e_63_1).trans ((if_neg e_63_2).trans ((if_neg e_63_3).trans ((if_neg e_63_4).trans ((if_neg e_63_5).trans ((if_neg e_63_6).trans ((if_neg e_63_7).trans ((if_neg e_63_8).trans ((if_neg e_63_9).trans ((if_neg e_63_10).trans ((if_neg e_63_11).trans ((if_neg e_63_12).trans ((if_neg e_63_13).trans ((if_neg e_63_14).trans ((if_neg e_63_15).trans ((if_neg e_63_16).trans ((if_neg e_63_17).trans ((if_neg e_63_18).trans ((if_neg e_63_19).trans ((if_neg e_63_20).trans ((if_pos (by rfl)).trans ((if_pos c_328).trans rfl)))))))))))))))))))))))))))).trans hres)
              exact CMa_ret (S := Unit) () hx hb hr hlocks hP hK hD hS d_Model_act_345
            · refine lv_iload_n hx hb d_Model_act_331 rfl (lv_at hl 5 rfl) ?_
              refine lv_if_gt (tgt := 340) hx hb d_Model_act_332 (by decide) (fun c_332 => ?_) (fun c_332 => ?_)
              · refine lv_iload_n hx hb d_Model_act_340 rfl (lv_at hl 5 rfl) ?_
                refine lv_sipush (v := (1000 : Int32)) hx hb d_Model_act_341 (by decide) ?_
                refine lv_iadd hx hb d_Model_act_344 ?_
                obtain ⟨rfl, rfl⟩ : md = z1 ∧ (a + (1000 : Int32)) = z2 := Prod.mk.inj ((Eq.symm ((if_neg c_6).trans ((if_pos c_15).trans ((if_neg c_27).trans ((if_pos c_52).trans ((if_neg e_63_0).trans ((if_neg e_63_1).trans ((if_neg e_63_2).trans ((if_neg e_63_3).trans ((if_neg e_63_4).trans ((if_neg e_63_5).trans ((if_neg e_63_6).trans ((if_neg e_63_7).trans ((if_neg e_63_8).trans ((if_neg e_63_9).trans ((if_neg e_63_10).trans ((if_neg e_63_11).trans ((if_neg e_63_12).trans ((if_neg e_63_13).trans ((if_neg e_63_14).trans ((if_neg e_63_15).trans ((if_neg e_63_16).trans ((if_neg e_63_17).trans ((if_neg e_63_18).trans ((if_neg e_63_19).trans ((if_neg e_63_20).trans ((if_pos (by rfl)).trans ((if_neg c_328).trans ((if_pos c_332).trans rfl))))))))))))))))))))))))))))).trans hres)
                exact CMa_ret (S := Unit) () hx hb hr hlocks hP hK hD hS d_Model_act_345
              · refine lv_bipush (v := (-103 : Int32)) hx hb d_Model_act_335 (by decide) ?_
                refine lv_goto (tgt := 345) hx hb d_Model_act_337 (by decide) ?_
                obtain ⟨rfl, rfl⟩ : md = z1 ∧ (-103 : Int32) = z2 := Prod.mk.inj ((Eq.symm ((if_neg c_6).trans ((if_pos c_15).trans ((if_neg c_27).trans ((if_pos c_52).trans ((if_neg e_63_0).trans ((if_neg e_63_1).trans ((if_neg e_63_2).trans ((if_neg e_63_3).trans ((if_neg e_63_4).trans ((if_neg e_63_5).trans ((if_neg e_63_6).trans ((if_neg e_63_7).trans ((if_neg e_63_8).trans ((if_neg e_63_9).trans ((if_neg e_63_10).trans ((if_neg e_63_11).trans ((if_neg e_63_12).trans ((if_neg e_63_13).trans ((if_neg e_63_14).trans ((if_neg e_63_15).trans ((if_neg e_63_16).trans ((if_neg e_63_17).trans ((if_neg e_63_18).trans ((if_neg e_63_19).trans ((if_neg e_63_20).trans ((if_pos (by rfl)).trans ((if_neg c_328).trans ((if_neg c_332).trans rfl))))))))))))))))))))))))))))).trans hres)
                exact CMa_ret (S := Unit) () hx hb hr hlocks hP hK hD hS d_Model_act_345
          rcases Decidable.em (k = 22) with e_63_22 | e_63_22
          · subst e_63_22
            refine lv_tableIn (tgt := 346) hx hb d_Model_act_63 (by decide) (by decide) rfl (by decide) ?_
            refine lv_aload_n hx hb d_Model_act_346 rfl (lv_at hl 3 rfl) ?_
            refine va_get (D := D) (ci := 2) (v := .ref o6) (C := R_Model) (T := F_Model) (N := 14) hx hb hk i_Model hown hK hP 0 rfl rfl 5 (by decide) (hk _ kl_Model_25) (fun _ h9 => h9) rfl d_Model_act_347 ?_
            refine lv_aload_n hx hb d_Model_act_350 rfl (lv_at hl 3 rfl) ?_
            refine va_get (D := D) (ci := 2) (v := .int (aWc md)) (C := R_Model) (T := F_Model) (N := 14) hx hb hk i_Model hown hK hP 0 rfl rfl 11 (by decide) (hk _ kl_Model_41) (fun _ h9 => h9) rfl d_Model_act_351 ?_
            refine lv_dup2_11 hx hb d_Model_act_354 rfl rfl ?_
            refine va_iald hx hb hK hP 6 0 rfl rfl (hw c_15).1 d_Model_act_355 ?_
            refine lv_iload hx hb d_Model_act_356 (lv_at hl 0 rfl) ?_
            refine lv_if_eq (tgt := 365) hx hb d_Model_act_358 (by decide) (fun _ => ?_) (fun h9 => absurd (by decide) h9)
            refine lv_iconst (v := (2 : Int32)) hx hb d_Model_act_365 (by decide) ?_
            refine lv_iadd hx hb d_Model_act_366 ?_
            refine va_iast hx hb hK hP hD hS 6 0 rfl rfl (hw c_15).1 d_Model_act_367 (fun H locs hP hD hS => ?_)
            replace hP : va_P D classes (M13 cI cZ o o1 o2 o3 o4 o5 o6 o7 o8 o9 o10 o11 o12 (uMa md (upd ((aMa md)) (aWc md).toNatClampNeg (((aMa md) (aWc md).toNatClampNeg) + (2 : Int32))))) H := hP
            replace hD : va_D A (M13 cI cZ o o1 o2 o3 o4 o5 o6 o7 o8 o9 o10 o11 o12 (uMa md (upd ((aMa md)) (aWc md).toNatClampNeg (((aMa md) (aWc md).toNatClampNeg) + (2 : Int32))))) := hD
            refine lv_aload_n hx hb d_Model_act_368 rfl (lv_at hl 3 rfl) ?_
            refine va_get (D := D) (ci := 2) (v := .ref o6) (C := R_Model) (T := F_Model) (N := 14) hx hb hk i_Model hown hK hP 0 rfl rfl 5 (by decide) (hk _ kl_Model_25) (fun _ h9 => h9) rfl d_Model_act_369 ?_
            refine lv_aload_n hx hb d_Model_act_372 rfl (lv_at hl 3 rfl) ?_
            refine va_get (D := D) (ci := 2) (v := .int (aWc (uMa md (upd ((aMa md)) (aWc md).toNatClampNeg (((aMa md) (aWc md).toNatClampNeg) + (2 : Int32)))))) (C := R_Model) (T := F_Model) (N := 14) hx hb hk i_Model hown hK hP 0 rfl rfl 11 (by decide) (hk _ kl_Model_41) (fun _ h9 => h9) rfl d_Model_act_373 ?_
            refine va_iald hx hb hK hP 6 0 rfl rfl (okM_uMa (hw c_15)).1 d_Model_act_376 ?_
            obtain ⟨rfl, rfl⟩ : (uMa md (upd ((aMa md)) (aWc md).toNatClampNeg (((aMa md) (aWc md).toNatClampNeg) + (2 : Int32)))) = z1 ∧ ((aMa (uMa md (upd ((aMa md)) (aWc md).toNatClampNeg (((aMa md) (aWc md).toNatClampNeg) + (2 : Int32))))) (aWc (uMa md (upd ((aMa md)) (aWc md).toNatClampNeg (((aMa md) (aWc md).toNatClampNeg) + (2 : Int32))))).toNatClampNeg) = z2 := Prod.mk.inj ((Eq.symm ((if_neg c_6).trans ((if_pos c_15).trans ((if_neg c_27).trans ((if_pos c_52).trans ((if_neg e_63_0).trans ((if_neg e_63_1).trans ((if_neg e_63_2).trans ((if_neg e_63_3).trans ((if_neg e_63_4).trans ((if_neg e_63_5).trans ((if_neg e_63_6).trans ((if_neg e_63_7).trans ((if_neg e_63_8).trans ((if_neg e_63_9).trans ((if_neg e_63_10).trans ((if_neg e_63_11).trans ((if_neg e_63_12).trans ((if_neg e_63_13).trans ((if_neg e_63_14).trans ((if_neg e_63_15).trans ((if_neg e_63_16).trans ((if_neg e_63_17).trans ((if_neg e_63_18).trans ((if_neg e_63_19).trans ((if_neg e_63_20).trans ((if_neg e_63_21).trans ((if_pos (by rfl)).trans rfl)))))))))))))))))))))))))))).trans hres)
            exact CMa_ret (S := Unit) () hx hb hr hlocks hP hK hD hS d_Model_act_377
          rcases Decidable.em (k = 23) with e_63_23 | e_63_23
          · subst e_63_23
            refine lv_tableIn (tgt := 378) hx hb d_Model_act_63 (by decide) (by decide) rfl (by decide) ?_
            refine lv_bipush (v := (20 : Int32)) hx hb d_Model_act_378 (by decide) ?_
            obtain ⟨rfl, rfl⟩ : md = z1 ∧ (20 : Int32) = z2 := Prod.mk.inj ((Eq.symm ((if_neg c_6).trans ((if_pos c_15).trans ((if_neg c_27).trans ((if_pos c_52).trans ((if_neg e_63_0).trans ((if_neg e_63_1).trans ((if_neg e_63_2).trans ((if_neg e_63_3).trans ((if_neg e_63_4).trans ((if_neg e_63_5).trans ((if_neg e_63_6).trans ((if_neg e_63_7).trans ((if_neg e_63_8).trans ((if_neg e_63_9).trans ((if_neg e_63_10).trans ((if_neg e_63_11).trans ((if_neg e_63_12).trans ((if_neg e_63_13).trans ((if_neg e_63_14).trans ((if_neg e_63_15).trans ((if_neg e_63_16).trans ((if_neg e_63_17).trans ((if_neg e_63_18).trans ((if_neg e_63_19).trans ((if_neg e_63_20).trans ((if_neg e_63_21).trans ((if_neg e_63_22).trans ((if_pos (by rfl)).trans rfl))))))))))))))))))))))))))))).trans hres)
            exact CMa_ret (S := Unit) () hx hb hr hlocks hP hK hD hS d_Model_act_380
          rcases Decidable.em (k = 24) with e_63_24 | e_63_24
          · subst e_63_24
            refine lv_tableIn (tgt := 381) hx hb d_Model_act_63 (by decide) (by decide) rfl (by decide) ?_
            refine lv_aload_n hx hb d_Model_act_381 rfl (lv_at hl 3 rfl) ?_
            refine va_get (D := D) (ci := 2) (v := .ref o3) (C := R_Model) (T := F_Model) (N := 14) hx hb hk i_Model hown hK hP 0 rfl rfl 2 (by decide) (hk _ kl_Model_16) (fun _ h9 => h9) rfl d_Model_act_382 ?_
            refine lv_aload_n hx hb d_Model_act_385 rfl (lv_at hl 3 rfl) ?_
            refine va_get (D := D) (ci := 2) (v := .int (aWc md)) (C := R_Model) (T := F_Model) (N := 14) hx hb hk i_Model hown hK hP 0 rfl rfl 11 (by decide) (hk _ kl_Model_41) (fun _ h9 => h9) rfl d_Model_act_386 ?_
            refine va_iald hx hb hK hP 3 0 rfl rfl (hw c_15).1 d_Model_act_389 ?_
            obtain ⟨rfl, rfl⟩ : md = z1 ∧ ((aMi md) (aWc md).toNatClampNeg) = z2 := Prod.mk.inj ((Eq.symm ((if_neg c_6).trans ((if_pos c_15).trans ((if_neg c_27).trans ((if_pos c_52).trans ((if_neg e_63_0).trans ((if_neg e_63_1).trans ((if_neg e_63_2).trans ((if_neg e_63_3).trans ((if_neg e_63_4).trans ((if_neg e_63_5).trans ((if_neg e_63_6).trans ((if_neg e_63_7).trans ((if_neg e_63_8).trans ((if_neg e_63_9).trans ((if_neg e_63_10).trans ((if_neg e_63_11).trans ((if_neg e_63_12).trans ((if_neg e_63_13).trans ((if_neg e_63_14).trans ((if_neg e_63_15).trans ((if_neg e_63_16).trans ((if_neg e_63_17).trans ((if_neg e_63_18).trans ((if_neg e_63_19).trans ((if_neg e_63_20).trans ((if_neg e_63_21).trans ((if_neg e_63_22).trans ((if_neg e_63_23).trans ((if_pos (by rfl)).trans rfl)))))))))))))))))))))))))))))).trans hres)
            exact CMa_ret (S := Unit) () hx hb hr hlocks hP hK hD hS d_Model_act_390
          rcases Decidable.em (k = 25) with e_63_25 | e_63_25
          · subst e_63_25
            refine lv_tableIn (tgt := 391) hx hb d_Model_act_63 (by decide) (by decide) rfl (by decide) ?_
            refine lv_iload hx hb d_Model_act_391 (lv_at hl 0 rfl) ?_
            refine lv_if_eq (tgt := 401) hx hb d_Model_act_393 (by decide) (fun _ => ?_) (fun h9 => absurd (by decide) h9)
            refine lv_bipush (v := (18 : Int32)) hx hb d_Model_act_401 (by decide) ?_
            obtain ⟨rfl, rfl⟩ : md = z1 ∧ (18 : Int32) = z2 := Prod.mk.inj ((Eq.symm ((if_neg c_6).trans ((if_pos c_15).trans ((if_neg c_27).trans ((if_pos c_52).trans ((if_neg e_63_0).trans ((if_neg e_63_1).trans ((if_neg e_63_2).trans ((if_neg e_63_3).trans ((if_neg e_63_4).trans ((if_neg e_63_5).trans ((if_neg e_63_6).trans ((if_neg e_63_7).trans ((if_neg e_63_8).trans ((if_neg e_63_9).trans ((if_neg e_63_10).trans ((if_neg e_63_11).trans ((if_neg e_63_12).trans ((if_neg e_63_13).trans ((if_neg e_63_14).trans ((if_neg e_63_15).trans ((if_neg e_63_16).trans ((if_neg e_63_17).trans ((if_neg e_63_18).trans ((if_neg e_63_19).trans ((if_neg e_63_20).trans ((if_neg e_63_21).trans ((if_neg e_63_22).trans ((if_neg e_63_23).trans ((if_neg e_63_24).trans ((if_pos (by rfl)).trans rfl))))))))))))))))))))))))))))))).trans hres)
            exact CMa_ret (S := Unit) () hx hb hr hlocks hP hK hD hS d_Model_act_403
          rcases Decidable.em (k = 26) with e_63_26 | e_63_26
          · subst e_63_26
            refine lv_tableIn (tgt := 404) hx hb d_Model_act_63 (by decide) (by decide) rfl (by decide) ?_
            refine lv_aload_n hx hb d_Model_act_404 rfl (lv_at hl 3 rfl) ?_
            refine lv_iconst (v := (2 : Int32)) hx hb d_Model_act_405 (by decide) ?_
            refine CMv.callV (wc := M13 cI cZ o o1 o2 o3 o4 o5 o6 o7 o8 o9 o10 o11 o12 md) (wr := []) (b := o) (av := [.int (2 : Int32)]) (rest := []) hx hb hml hown hk (c_M_create l D cI cZ o o1 o2 o3 o4 o5 o6 o7 o8 o9 o10 o11 o12 (2 : Int32) md (okM_mono (hw c_15) (by decide)) _ rfl) hK hP hD hS hA hSt hl.1 (va_recv hK hP (ci := 2) (q0 := 0) rfl rfl) d_Model_act_406 kc_Model_create ki_Model kl_Model_115 kn_Model_create kx_Model_create (n := 1) rfl (by decide +kernel) ⟨Nat.le_of_ble_eq_true rfl, Nat.le_of_ble_eq_true rfl⟩ rfl rfl (Nat.le_of_ble_eq_true rfl) ⟨Nat.le_of_ble_eq_true rfl, Nat.le_of_ble_eq_true rfl⟩ (fun H locs hP hD hS => ?_)
            replace hP : va_P D classes (M13 cI cZ o o1 o2 o3 o4 o5 o6 o7 o8 o9 o10 o11 o12 (m_M_create (2 : Int32) md)) H := hP
            replace hD : va_D A (M13 cI cZ o o1 o2 o3 o4 o5 o6 o7 o8 o9 o10 o11 o12 (m_M_create (2 : Int32) md)) := hD
            obtain ⟨g11, hg11⟩ : ∃ z, (m_M_create (2 : Int32) md) = z := ⟨_, rfl⟩
            rw [hg11] at hP hD
            refine lv_iconst (v := (1 : Int32)) hx hb d_Model_act_409 (by decide) ?_
            subst hg11
            obtain ⟨rfl, rfl⟩ : (m_M_create (2 : Int32) md) = z1 ∧ (1 : Int32) = z2 := Prod.mk.inj ((Eq.symm ((if_neg c_6).trans ((if_pos c_15).trans ((if_neg c_27).trans ((if_pos c_52).trans ((if_neg e_63_0).trans ((if_neg e_63_1).trans ((if_neg e_63_2).trans ((if_neg e_63_3).trans ((if_neg e_63_4).trans ((if_neg e_63_5).trans ((if_neg e_63_6).trans ((if_neg e_63_7).trans ((if_neg e_63_8).trans ((if_neg e_63_9).trans ((if_neg e_63_10).trans ((if_neg e_63_11).trans ((if_neg e_63_12).trans ((if_neg e_63_13).trans ((if_neg e_63_14).trans ((if_neg e_63_15).trans ((if_neg e_63_16).trans ((if_neg e_63_17).trans ((if_neg e_63_18).trans ((if_neg e_63_19).trans ((if_neg e_63_20).trans ((if_neg e_63_21).trans ((if_neg e_63_22).trans ((if_neg e_63_23).trans ((if_neg e_63_24).trans ((if_neg e_63_25).trans ((if_pos (by rfl)).trans rfl)))))))))))))))))))))))))))))))).trans hres)
            exact CMa_ret (S := Unit) () hx hb hr hlocks hP hK hD hS d_Model_act_410
          rcases Decidable.em (k = 27) with e_63_27 | e_63_27
          · subst e_63_27
            refine lv_tableIn (tgt := 381) hx hb d_Model_act_63 (by decide) (by decide) rfl (by decide) ?_
            refine lv_aload_n hx hb d_Model_act_381 rfl (lv_at hl 3 rfl) ?_
            refine va_get (D := D) (ci := 2) (v := .ref o3) (C := R_Model) (T := F_Model) (N := 14) hx hb hk i_Model hown hK hP 0 rfl rfl 2 (by decide) (hk _ kl_Model_16) (fun _ h9 => h9) rfl d_Model_act_382 ?_
            refine lv_aload_n hx hb d_Model_act_385 rfl (lv_at hl 3 rfl) ?_
            refine va_get (D := D) (ci := 2) (v := .int (aWc md)) (C := R_Model) (T := F_Model) (N := 14) hx hb hk i_Model hown hK hP 0 rfl rfl 11 (by decide) (hk _ kl_Model_41) (fun _ h9 => h9) rfl d_Model_act_386 ?_
            refine va_iald hx hb hK hP 3 0 rfl rfl (hw c_15).1 d_Model_act_389 ?_
            obtain ⟨rfl, rfl⟩ : md = z1 ∧ ((aMi md) (aWc md).toNatClampNeg) = z2 := Prod.mk.inj ((Eq.symm ((if_neg c_6).trans ((if_pos c_15).trans ((if_neg c_27).trans ((if_pos c_52).trans ((if_neg e_63_0).trans ((if_neg e_63_1).trans ((if_neg e_63_2).trans ((if_neg e_63_3).trans ((if_neg e_63_4).trans ((if_neg e_63_5).trans ((if_neg e_63_6).trans ((if_neg e_63_7).trans ((if_neg e_63_8).trans ((if_neg e_63_9).trans ((if_neg e_63_10).trans ((if_neg e_63_11).trans ((if_neg e_63_12).trans ((if_neg e_63_13).trans ((if_neg e_63_14).trans ((if_neg e_63_15).trans ((if_neg e_63_16).trans ((if_neg e_63_17).trans ((if_neg e_63_18).trans ((if_neg e_63_19).trans ((if_neg e_63_20).trans ((if_neg e_63_21).trans ((if_neg e_63_22).trans ((if_neg e_63_23).trans ((if_neg e_63_24).trans ((if_neg e_63_25).trans ((if_neg e_63_26).trans ((if_pos (by rfl)).trans rfl))))))))))))))))))))))))))))))))).trans hres)
            exact CMa_ret (S := Unit) () hx hb hr hlocks hP hK hD hS d_Model_act_390
          rcases Decidable.em (k = 28) with e_63_28 | e_63_28
          · subst e_63_28
            refine lv_tableIn (tgt := 411) hx hb d_Model_act_63 (by decide) (by decide) rfl (by decide) ?_
            refine lv_iconst (v := (5 : Int32)) hx hb d_Model_act_411 (by decide) ?_
            obtain ⟨rfl, rfl⟩ : md = z1 ∧ (5 : Int32) = z2 := Prod.mk.inj ((Eq.symm ((if_neg c_6).trans ((if_pos c_15).trans ((if_neg c_27).trans ((if_pos c_52).trans ((if_neg e_63_0).trans ((if_neg e_63_1).trans ((if_neg e_63_2).trans ((if_neg e_63_3).trans ((if_neg e_63_4).trans ((if_neg e_63_5).trans ((if_neg e_63_6).trans ((if_neg e_63_7).trans ((if_neg e_63_8).trans ((if_neg e_63_9).trans ((if_neg e_63_10).trans ((if_neg e_63_11).trans ((if_neg e_63_12).trans ((if_neg e_63_13).trans ((if_neg e_63_14).trans ((if_neg e_63_15).trans ((if_neg e_63_16).trans ((if_neg e_63_17).trans ((if_neg e_63_18).trans ((if_neg e_63_19).trans ((if_neg e_63_20).trans ((if_neg e_63_21).trans ((if_neg e_63_22).trans ((if_neg e_63_23).trans ((if_neg e_63_24).trans ((if_neg e_63_25).trans ((if_neg e_63_26).trans ((if_neg e_63_27).trans ((if_pos (by rfl)).trans rfl)))))))))))))))))))))))))))))))))).trans hres)
            exact CMa_ret (S := Unit) () hx hb hr hlocks hP hK hD hS d_Model_act_412
          rcases Decidable.em (k = 29) with e_63_29 | e_63_29
          · subst e_63_29
            refine lv_tableOut (tgt := 413) hx hb d_Model_act_63 (by decide) (by decide) ?_
            refine lv_bipush (v := (-104 : Int32)) hx hb d_Model_act_413 (by decide) ?_
            obtain ⟨rfl, rfl⟩ : md = z1 ∧ (-104 : Int32) = z2 := Prod.mk.inj ((Eq.symm ((if_neg c_6).trans ((if_pos c_15).trans ((if_neg c_27).trans ((if_pos c_52).trans ((if_neg e_63_0).trans ((if_neg e_63_1).trans ((if_neg e_63_2).trans ((if_neg e_63_3).trans ((if_neg e_63_4).trans ((if_neg e_63_5).trans ((if_neg e_63_6).trans ((if_neg e_63_7).trans ((if_neg e_63_8).trans ((if_neg e_63_9).trans ((if_neg e_63_10).trans ((if_neg e_63_11).trans ((if_neg e_63_12).trans ((if_neg e_63_13).trans ((if_neg e_63_14).trans ((if_neg e_63_15).trans ((if_neg e_63_16).trans ((if_neg e_63_17).trans ((if_neg e_63_18).trans ((if_neg e_63_19).trans ((if_neg e_63_20).trans ((if_neg e_63_21).trans ((if_neg e_63_22).trans ((if_neg e_63_23).trans ((if_neg e_63_24).trans ((if_neg e_63_25).trans ((if_neg e_63_26).trans ((if_neg e_63_27).trans ((if_neg e_63_28).trans ((if_pos (by rfl)).trans rfl))))))))))))))))))))))))))))))))))).trans hres)
            exact CMa_ret (S := Unit) () hx hb hr hlocks hP hK hD hS d_Model_act_415
          exact False.elim (dom30 (mIn_in (by decide) c_6) e_63_0 e_63_1 e_63_2 e_63_3 e_63_4 e_63_5 e_63_6 e_63_7 e_63_8 e_63_9 e_63_10 e_63_11 e_63_12 e_63_13 e_63_14 e_63_15 e_63_16 e_63_17 e_63_18 e_63_19 e_63_20 e_63_21 e_63_22 e_63_23 e_63_24 e_63_25 e_63_26 e_63_27 e_63_28 e_63_29)
        · refine lv_iconst (v := (1 : Int32)) hx hb d_Model_act_55 (by decide) ?_
          refine lv_goto (tgt := 60) hx hb d_Model_act_56 (by decide) ?_
          refine lv_istore (lv' := [(5, .int (1 : Int32)), (4, .int (0 : Int32)), (3, .int (m_M_asked k)), (0, .ref o), (1, .int k), (2, .int a)]) hx hb d_Model_act_60 hl (by decide) rfl (fun ls hl => ?_)
          refine lv_iload_n hx hb d_Model_act_62 rfl (lv_at hl 4 rfl) ?_
          rcases Decidable.em (k = 0) with e_63_0 | e_63_0
          · subst e_63_0
            refine lv_tableIn (tgt := 192) hx hb d_Model_act_63 (by decide) (by decide) rfl (by decide) ?_
            refine lv_aload_n hx hb d_Model_act_192 rfl (lv_at hl 3 rfl) ?_
            refine va_get (D := D) (ci := 2) (v := .ref o2) (C := R_Model) (T := F_Model) (N := 14) hx hb hk i_Model hown hK hP 0 rfl rfl 1 (by decide) (hk _ kl_Model_13) (fun _ h9 => h9) rfl d_Model_act_193 ?_
            refine lv_aload_n hx hb d_Model_act_196 rfl (lv_at hl 3 rfl) ?_
            refine va_get (D := D) (ci := 2) (v := .int (aWc md)) (C := R_Model) (T := F_Model) (N := 14) hx hb hk i_Model hown hK hP 0 rfl rfl 11 (by decide) (hk _ kl_Model_41) (fun _ h9 => h9) rfl d_Model_act_197 ?_
            refine lv_dup2_11 hx hb d_Model_act_200 rfl rfl ?_
            refine va_iald hx hb hK hP 2 0 rfl rfl (hw c_15).1 d_Model_act_201 ?_
            refine lv_iload_n hx hb d_Model_act_202 rfl (lv_at hl 5 rfl) ?_
            refine lv_iadd hx hb d_Model_act_203 ?_
            refine va_iast hx hb hK hP hD hS 2 0 rfl rfl (hw c_15).1 d_Model_act_204 (fun H locs hP hD hS => ?_)
            replace hP : va_P D classes (M13 cI cZ o o1 o2 o3 o4 o5 o6 o7 o8 o9 o10 o11 o12 (uBa md (upd ((aBa md)) (aWc md).toNatClampNeg (((aBa md) (aWc md).toNatClampNeg) + a)))) H := hP
            replace hD : va_D A (M13 cI cZ o o1 o2 o3 o4 o5 o6 o7 o8 o9 o10 o11 o12 (uBa md (upd ((aBa md)) (aWc md).toNatClampNeg (((aBa md) (aWc md).toNatClampNeg) + a)))) := hD
            refine lv_aload_n hx hb d_Model_act_205 rfl (lv_at hl 3 rfl) ?_
            refine va_get (D := D) (ci := 2) (v := .ref o2) (C := R_Model) (T := F_Model) (N := 14) hx hb hk i_Model hown hK hP 0 rfl rfl 1 (by decide) (hk _ kl_Model_13) (fun _ h9 => h9) rfl d_Model_act_206 ?_
            refine lv_aload_n hx hb d_Model_act_209 rfl (lv_at hl 3 rfl) ?_
            refine va_get (D := D) (ci := 2) (v := .int (aWc (uBa md (upd ((aBa md)) (aWc md).toNatClampNeg (((aBa md) (aWc md).toNatClampNeg) + a))))) (C := R_Model) (T := F_Model) (N := 14) hx hb hk i_Model hown hK hP 0 rfl rfl 11 (by decide) (hk _ kl_Model_41) (fun _ h9 => h9) rfl d_Model_act_210 ?_
            refine va_iald hx hb hK hP 2 0 rfl rfl (okM_uBa (hw c_15)).1 d_Model_act_213 ?_
            obtain ⟨rfl, rfl⟩ : (uBa md (upd ((aBa md)) (aWc md).toNatClampNeg (((aBa md) (aWc md).toNatClampNeg) + a))) = z1 ∧ ((aBa (uBa md (upd ((aBa md)) (aWc md).toNatClampNeg (((aBa md) (aWc md).toNatClampNeg) + a)))) (aWc (uBa md (upd ((aBa md)) (aWc md).toNatClampNeg (((aBa md) (aWc md).toNatClampNeg) + a)))).toNatClampNeg) = z2 := Prod.mk.inj ((Eq.symm ((if_neg c_6).trans ((if_pos c_15).trans ((if_neg c_27).trans ((if_neg c_52).trans ((if_pos (by rfl)).trans rfl)))))).trans hres)
            exact CMa_ret (S := Unit) () hx hb hr hlocks hP hK hD hS d_Model_act_214
          rcases Decidable.em (k = 1) with e_63_1 | e_63_1
          · subst e_63_1
            refine lv_tableIn (tgt := 215) hx hb d_Model_act_63 (by decide) (by decide) rfl (by decide) ?_
            refine lv_aload_n hx hb d_Model_act_215 rfl (lv_at hl 3 rfl) ?_
            refine va_get (D := D) (ci := 2) (v := .ref o2) (C := R_Model) (T := F_Model) (N := 14) hx hb hk i_Model hown hK hP 0 rfl rfl 1 (by decide) (hk _ kl_Model_13) (fun _ h9 => h9) rfl d_Model_act_216 ?_
            refine lv_aload_n hx hb d_Model_act_219 rfl (lv_at hl 3 rfl) ?_
            refine va_get (D := D) (ci := 2) (v := .int (aWc md)) (C := R_Model) (T := F_Model) (N := 14) hx hb hk i_Model hown hK hP 0 rfl rfl 11 (by decide) (hk _ kl_Model_41) (fun _ h9 => h9) rfl d_Model_act_220 ?_
            refine va_iald hx hb hK hP 2 0 rfl rfl (hw c_15).1 d_Model_act_223 ?_
            obtain ⟨rfl, rfl⟩ : md = z1 ∧ ((aBa md) (aWc md).toNatClampNeg) = z2 := Prod.mk.inj ((Eq.symm ((if_neg c_6).trans ((if_pos c_15).trans ((if_neg c_27).trans ((if_neg c_52).trans ((if_neg e_63_0).trans ((if_pos (by rfl)).trans rfl))))))).trans hres)
            exact CMa_ret (S := Unit) () hx hb hr hlocks hP hK hD hS d_Model_act_224
          rcases Decidable.em (k = 2) with e_63_2 | e_63_2
          · subst e_63_2
            refine lv_tableIn (tgt := 225) hx hb d_Model_act_63 (by decide) (by decide) rfl (by decide) ?_
            refine lv_aload_n hx hb d_Model_act_225 rfl (lv_at hl 3 rfl) ?_
            refine va_get (D := D) (ci := 2) (v := .ref o3) (C := R_Model) (T := F_Model) (N := 14) hx hb hk i_Model hown hK hP 0 rfl rfl 2 (by decide) (hk _ kl_Model_16) (fun _ h9 => h9) rfl d_Model_act_226 ?_
            refine lv_aload_n hx hb d_Model_act_229 rfl (lv_at hl 3 rfl) ?_
            refine va_get (D := D) (ci := 2) (v := .int (aWc md)) (C := R_Model) (T := F_Model) (N := 14) hx hb hk i_Model hown hK hP 0 rfl rfl 11 (by decide) (hk _ kl_Model_41) (fun _ h9 => h9) rfl d_Model_act_230 ?_
            refine lv_iload_n hx hb d_Model_act_233 rfl (lv_at hl 5 rfl) ?_
            refine va_iast hx hb hK hP hD hS 3 0 rfl rfl (hw c_15).1 d_Model_act_234 (fun H locs hP hD hS => ?_)
            replace hP : va_P D classes (M13 cI cZ o o1 o2 o3 o4 o5 o6 o7 o8 o9 o10 o11 o12 (uMi md (upd ((aMi md)) (aWc md).toNatClampNeg a))) H := hP
            replace hD : va_D A (M13 cI cZ o o1 o2 o3 o4 o5 o6 o7 o8 o9 o10 o11 o12 (uMi md (upd ((aMi md)) (aWc md).toNatClampNeg a))) := hD
            refine lv_iload_n hx hb d_Model_act_235 rfl (lv_at hl 5 rfl) ?_
            obtain ⟨rfl, rfl⟩ : (uMi md (upd ((aMi md)) (aWc md).toNatClampNeg a)) = z1 ∧ a = z2 := Prod.mk.inj ((Eq.symm ((if_neg c_6).trans ((if_pos c_15).trans ((if_neg c_27).trans ((if_neg c_52).trans ((if_neg e_63_0).trans ((if_neg e_63_1).trans ((if_pos (by rfl)).trans rfl)))))))).trans hres)
            exact CMa_ret (S := Unit) () hx hb hr hlocks hP hK hD hS d_Model_act_236
          rcases Decidable.em (k = 3) with e_63_3 | e_63_3
          · subst e_63_3
            refine lv_tableIn (tgt := 237) hx hb d_Model_act_63 (by decide) (by decide) rfl (by decide) ?_
            refine lv_bipush (v := (70 : Int32)) hx hb d_Model_act_237 (by decide) ?_
            obtain ⟨rfl, rfl⟩ : md = z1 ∧ (70 : Int32) = z2 := Prod.mk.inj ((Eq.symm ((if_neg c_6).trans ((if_pos c_15).trans ((if_neg c_27).trans ((if_neg c_52).trans ((if_neg e_63_0).trans ((if_neg e_63_1).trans ((if_neg e_63_2).trans ((if_pos (by rfl)).trans rfl))))))))).trans hres)
            exact CMa_ret (S := Unit) () hx hb hr hlocks hP hK hD hS d_Model_act_239
          rcases Decidable.em (k = 4) with e_63_4 | e_63_4
          · subst e_63_4
            refine lv_tableIn (tgt := 240) hx hb d_Model_act_63 (by decide) (by decide) rfl (by decide) ?_
            refine lv_bipush (v := (6 : Int32)) hx hb d_Model_act_240 (by decide) ?_
            obtain ⟨rfl, rfl⟩ : md = z1 ∧ (6 : Int32) = z2 := Prod.mk.inj ((Eq.symm ((if_neg c_6).trans ((if_pos c_15).trans ((if_neg c_27).trans ((if_neg c_52).trans ((if_neg e_63_0).trans ((if_neg e_63_1).trans ((if_neg e_63_2).trans ((if_neg e_63_3).trans ((if_pos (by rfl)).trans rfl)))))))))).trans hres)
            exact CMa_ret (S := Unit) () hx hb hr hlocks hP hK hD hS d_Model_act_242
          rcases Decidable.em (k = 5) with e_63_5 | e_63_5
          · subst e_63_5
            refine lv_tableIn (tgt := 243) hx hb d_Model_act_63 (by decide) (by decide) rfl (by decide) ?_
            refine lv_iconst (v := (5 : Int32)) hx hb d_Model_act_243 (by decide) ?_
            obtain ⟨rfl, rfl⟩ : md = z1 ∧ (5 : Int32) = z2 := Prod.mk.inj ((Eq.symm ((if_neg c_6).trans ((if_pos c_15).trans ((if_neg c_27).trans ((if_neg c_52).trans ((if_neg e_63_0).trans ((if_neg e_63_1).trans ((if_neg e_63_2).trans ((if_neg e_63_3).trans ((if_neg e_63_4).trans ((if_pos (by rfl)).trans rfl))))))))))).trans hres)
            exact CMa_ret (S := Unit) () hx hb hr hlocks hP hK hD hS d_Model_act_244
          rcases Decidable.em (k = 6) with e_63_6 | e_63_6
          · subst e_63_6
            refine lv_tableIn (tgt := 245) hx hb d_Model_act_63 (by decide) (by decide) rfl (by decide) ?_
            refine lv_iconst (v := (2 : Int32)) hx hb d_Model_act_245 (by decide) ?_
            obtain ⟨rfl, rfl⟩ : md = z1 ∧ (2 : Int32) = z2 := Prod.mk.inj ((Eq.symm ((if_neg c_6).trans ((if_pos c_15).trans ((if_neg c_27).trans ((if_neg c_52).trans ((if_neg e_63_0).trans ((if_neg e_63_1).trans ((if_neg e_63_2).trans ((if_neg e_63_3).trans ((if_neg e_63_4).trans ((if_neg e_63_5).trans ((if_pos (by rfl)).trans rfl)))))))))))).trans hres)
            exact CMa_ret (S := Unit) () hx hb hr hlocks hP hK hD hS d_Model_act_246
          rcases Decidable.em (k = 7) with e_63_7 | e_63_7
          · subst e_63_7
            refine lv_tableIn (tgt := 247) hx hb d_Model_act_63 (by decide) (by decide) rfl (by decide) ?_
            refine lv_iconst (v := (4 : Int32)) hx hb d_Model_act_247 (by decide) ?_
            obtain ⟨rfl, rfl⟩ : md = z1 ∧ (4 : Int32) = z2 := Prod.mk.inj ((Eq.symm ((if_neg c_6).trans ((if_pos c_15).trans ((if_neg c_27).trans ((if_neg c_52).trans ((if_neg e_63_0).trans ((if_neg e_63_1).trans ((if_neg e_63_2).trans ((if_neg e_63_3).trans ((if_neg e_63_4).trans ((if_neg e_63_5).trans ((if_neg e_63_6).trans ((if_pos (by rfl)).trans rfl))))))))))))).trans hres)
            exact CMa_ret (S := Unit) () hx hb hr hlocks hP hK hD hS d_Model_act_248
          rcases Decidable.em (k = 8) with e_63_8 | e_63_8
          · subst e_63_8
            refine lv_tableIn (tgt := 247) hx hb d_Model_act_63 (by decide) (by decide) rfl (by decide) ?_
            refine lv_iconst (v := (4 : Int32)) hx hb d_Model_act_247 (by decide) ?_
            obtain ⟨rfl, rfl⟩ : md = z1 ∧ (4 : Int32) = z2 := Prod.mk.inj ((Eq.symm ((if_neg c_6).trans ((if_pos c_15).trans ((if_neg c_27).trans ((if_neg c_52).trans ((if_neg e_63_0).trans ((if_neg e_63_1).trans ((if_neg e_63_2).trans ((if_neg e_63_3).trans ((if_neg e_63_4).trans ((if_neg e_63_5).trans ((if_neg e_63_6).trans ((if_neg e_63_7).trans ((if_pos (by rfl)).trans rfl)))))))))))))).trans hres)
            exact CMa_ret (S := Unit) () hx hb hr hlocks hP hK hD hS d_Model_act_248
          rcases Decidable.em (k = 9) with e_63_9 | e_63_9
          · subst e_63_9
            refine lv_tableIn (tgt := 249) hx hb d_Model_act_63 (by decide) (by decide) rfl (by decide) ?_
            refine lv_aload_n hx hb d_Model_act_249 rfl (lv_at hl 3 rfl) ?_
            refine lv_iconst (v := (3 : Int32)) hx hb d_Model_act_250 (by decide) ?_
            refine lv_iconst (v := (4 : Int32)) hx hb d_Model_act_251 (by decide) ?_
            refine CMv.callV (wc := M13 cI cZ o o1 o2 o3 o4 o5 o6 o7 o8 o9 o10 o11 o12 md) (wr := []) (b := o) (av := [.int (3 : Int32), .int (4 : Int32)]) (rest := []) hx hb hml hown hk (c_M_initAlone l D cI cZ o o1 o2 o3 o4 o5 o6 o7 o8 o9 o10 o11 o12 (3 : Int32) (4 : Int32) md (by unfold vp_in; decide) (okM_mono (hw c_15) (by decide)) _ rfl) hK hP hD hS hA hSt hl.1 (va_recv hK hP (ci := 2) (q0 := 0) rfl rfl) d_Model_act_252 kc_Model_initAlone ki_Model kl_Model_72 kn_Model_initAlone kx_Model_initAlone (n := 2) rfl (by decide +kernel) ⟨Nat.le_of_ble_eq_true rfl, Nat.le_of_ble_eq_true rfl⟩ rfl rfl (Nat.le_of_ble_eq_true rfl) ⟨Nat.le_of_ble_eq_true rfl, Nat.le_of_ble_eq_true rfl⟩ (fun H locs hP hD hS => ?_)
            replace hP : va_P D classes (M13 cI cZ o o1 o2 o3 o4 o5 o6 o7 o8 o9 o10 o11 o12 (m_M_initAlone (3 : Int32) (4 : Int32) md)) H := hP
            replace hD : va_D A (M13 cI cZ o o1 o2 o3 o4 o5 o6 o7 o8 o9 o10 o11 o12 (m_M_initAlone (3 : Int32) (4 : Int32) md)) := hD
            obtain ⟨g12, hg12⟩ : ∃ z, (m_M_initAlone (3 : Int32) (4 : Int32) md) = z := ⟨_, rfl⟩
            rw [hg12] at hP hD
            refine lv_bipush (v := (19 : Int32)) hx hb d_Model_act_255 (by decide) ?_
            subst hg12
            obtain ⟨rfl, rfl⟩ : (m_M_initAlone (3 : Int32) (4 : Int32) md) = z1 ∧ (19 : Int32) = z2 := Prod.mk.inj ((Eq.symm ((if_neg c_6).trans ((if_pos c_15).trans ((if_neg c_27).trans ((if_neg c_52).trans ((if_neg e_63_0).trans ((if_neg e_63_1).trans ((if_neg e_63_2).trans ((if_neg e_63_3).trans ((if_neg e_63_4).trans ((if_neg e_63_5).trans ((if_neg e_63_6).trans ((if_neg e_63_7).trans ((if_neg e_63_8).trans ((if_pos (by rfl)).trans rfl))))))))))))))).trans hres)
            exact CMa_ret (S := Unit) () hx hb hr hlocks hP hK hD hS d_Model_act_257
          rcases Decidable.em (k = 10) with e_63_10 | e_63_10
          · subst e_63_10
            refine lv_tableIn (tgt := 258) hx hb d_Model_act_63 (by decide) (by decide) rfl (by decide) ?_
            refine lv_iconst (v := (1 : Int32)) hx hb d_Model_act_258 (by decide) ?_
            obtain ⟨rfl, rfl⟩ : md = z1 ∧ (1 : Int32) = z2 := Prod.mk.inj ((Eq.symm ((if_neg c_6).trans ((if_pos c_15).trans ((if_neg c_27).trans ((if_neg c_52).trans ((if_neg e_63_0).trans ((if_neg e_63_1).trans ((if_neg e_63_2).trans ((if_neg e_63_3).trans ((if_neg e_63_4).trans ((if_neg e_63_5).trans ((if_neg e_63_6).trans ((if_neg e_63_7).trans ((if_neg e_63_8).trans ((if_neg e_63_9).trans ((if_pos (by rfl)).trans rfl)))))))))))))))).trans hres)
            exact CMa_ret (S := Unit) () hx hb hr hlocks hP hK hD hS d_Model_act_259
          rcases Decidable.em (k = 11) with e_63_11 | e_63_11
          · subst e_63_11
            refine lv_tableIn (tgt := 260) hx hb d_Model_act_63 (by decide) (by decide) rfl (by decide) ?_
            refine lv_bipush (v := (11 : Int32)) hx hb d_Model_act_260 (by decide) ?_
            obtain ⟨rfl, rfl⟩ : md = z1 ∧ (11 : Int32) = z2 := Prod.mk.inj ((Eq.symm ((if_neg c_6).trans ((if_pos c_15).trans ((if_neg c_27).trans ((if_neg c_52).trans ((if_neg e_63_0).trans ((if_neg e_63_1).trans ((if_neg e_63_2).trans ((if_neg e_63_3).trans ((if_neg e_63_4).trans ((if_neg e_63_5).trans ((if_neg e_63_6).trans ((if_neg e_63_7).trans ((if_neg e_63_8).trans ((if_neg e_63_9).trans ((if_neg e_63_10).trans ((if_pos (by rfl)).trans rfl))))))))))))))))).trans hres)
            exact CMa_ret (S := Unit) () hx hb hr hlocks hP hK hD hS d_Model_act_262
          rcases Decidable.em (k = 12) with e_63_12 | e_63_12
          · subst e_63_12
            refine lv_tableIn (tgt := 413) hx hb d_Model_act_63 (by decide) (by decide) rfl (by decide) ?_
            refine lv_bipush (v := (-104 : Int32)) hx hb d_Model_act_413 (by decide) ?_
            obtain ⟨rfl, rfl⟩ : md = z1 ∧ (-104 : Int32) = z2 := Prod.mk.inj ((Eq.symm ((if_neg c_6).trans ((if_pos c_15).trans ((if_neg c_27).trans ((if_neg c_52).trans ((if_neg e_63_0).trans ((if_neg e_63_1).trans ((if_neg e_63_2).trans ((if_neg e_63_3).trans ((if_neg e_63_4).trans ((if_neg e_63_5).trans ((if_neg e_63_6).trans ((if_neg e_63_7).trans ((if_neg e_63_8).trans ((if_neg e_63_9).trans ((if_neg e_63_10).trans ((if_neg e_63_11).trans ((if_pos (by rfl)).trans rfl)))))))))))))))))).trans hres)
            exact CMa_ret (S := Unit) () hx hb hr hlocks hP hK hD hS d_Model_act_415
          rcases Decidable.em (k = 13) with e_63_13 | e_63_13
          · subst e_63_13
            refine lv_tableIn (tgt := 263) hx hb d_Model_act_63 (by decide) (by decide) rfl (by decide) ?_
            refine lv_bipush (v := (71 : Int32)) hx hb d_Model_act_263 (by decide) ?_
            obtain ⟨rfl, rfl⟩ : md = z1 ∧ (71 : Int32) = z2 := Prod.mk.inj ((Eq.symm ((if_neg c_6).trans ((if_pos c_15).trans ((if_neg c_27).trans ((if_neg c_52).trans ((if_neg e_63_0).trans ((if_neg e_63_1).trans ((if_neg e_63_2).trans ((if_neg e_63_3).trans ((if_neg e_63_4).trans ((if_neg e_63_5).trans ((if_neg e_63_6).trans ((if_neg e_63_7).trans ((if_neg e_63_8).trans ((if_neg e_63_9).trans ((if_neg e_63_10).trans ((if_neg e_63_11).trans ((if_neg e_63_12).trans ((if_pos (by rfl)).trans rfl))))))))))))))))))).trans hres)
            exact CMa_ret (S := Unit) () hx hb hr hlocks hP hK hD hS d_Model_act_265
          rcases Decidable.em (k = 14) with e_63_14 | e_63_14
          · subst e_63_14
            refine lv_tableIn (tgt := 413) hx hb d_Model_act_63 (by decide) (by decide) rfl (by decide) ?_
            refine lv_bipush (v := (-104 : Int32)) hx hb d_Model_act_413 (by decide) ?_
            obtain ⟨rfl, rfl⟩ : md = z1 ∧ (-104 : Int32) = z2 := Prod.mk.inj ((Eq.symm ((if_neg c_6).trans ((if_pos c_15).trans ((if_neg c_27).trans ((if_neg c_52).trans ((if_neg e_63_0).trans ((if_neg e_63_1).trans ((if_neg e_63_2).trans ((if_neg e_63_3).trans ((if_neg e_63_4).trans ((if_neg e_63_5).trans ((if_neg e_63_6).trans ((if_neg e_63_7).trans ((if_neg e_63_8).trans ((if_neg e_63_9).trans ((if_neg e_63_10).trans ((if_neg e_63_11).trans ((if_neg e_63_12).trans ((if_neg e_63_13).trans ((if_pos (by rfl)).trans rfl)))))))))))))))))))).trans hres)
            exact CMa_ret (S := Unit) () hx hb hr hlocks hP hK hD hS d_Model_act_415
          rcases Decidable.em (k = 15) with e_63_15 | e_63_15
          · subst e_63_15
            refine lv_tableIn (tgt := 413) hx hb d_Model_act_63 (by decide) (by decide) rfl (by decide) ?_
            refine lv_bipush (v := (-104 : Int32)) hx hb d_Model_act_413 (by decide) ?_
            obtain ⟨rfl, rfl⟩ : md = z1 ∧ (-104 : Int32) = z2 := Prod.mk.inj ((Eq.symm ((if_neg c_6).trans ((if_pos c_15).trans ((if_neg c_27).trans ((if_neg c_52).trans ((if_neg e_63_0).trans ((if_neg e_63_1).trans ((if_neg e_63_2).trans ((if_neg e_63_3).trans ((if_neg e_63_4).trans ((if_neg e_63_5).trans ((if_neg e_63_6).trans ((if_neg e_63_7).trans ((if_neg e_63_8).trans ((if_neg e_63_9).trans ((if_neg e_63_10).trans ((if_neg e_63_11).trans ((if_neg e_63_12).trans ((if_neg e_63_13).trans ((if_neg e_63_14).trans ((if_pos (by rfl)).trans rfl))))))))))))))))))))).trans hres)
            exact CMa_ret (S := Unit) () hx hb hr hlocks hP hK hD hS d_Model_act_415
          rcases Decidable.em (k = 16) with e_63_16 | e_63_16
          · subst e_63_16
            refine lv_tableIn (tgt := 266) hx hb d_Model_act_63 (by decide) (by decide) rfl (by decide) ?_
            refine lv_aload_n hx hb d_Model_act_266 rfl (lv_at hl 3 rfl) ?_
            refine va_get (D := D) (ci := 2) (v := .ref o4) (C := R_Model) (T := F_Model) (N := 14) hx hb hk i_Model hown hK hP 0 rfl rfl 3 (by decide) (hk _ kl_Model_19) (fun _ h9 => h9) rfl d_Model_act_267 ?_
            refine lv_aload_n hx hb d_Model_act_270 rfl (lv_at hl 3 rfl) ?_
            refine va_get (D := D) (ci := 2) (v := .int (aWc md)) (C := R_Model) (T := F_Model) (N := 14) hx hb hk i_Model hown hK hP 0 rfl rfl 11 (by decide) (hk _ kl_Model_41) (fun _ h9 => h9) rfl d_Model_act_271 ?_
            refine va_iald hx hb hK hP 4 0 rfl rfl (hw c_15).1 d_Model_act_274 ?_
            obtain ⟨rfl, rfl⟩ : md = z1 ∧ ((aXx md) (aWc md).toNatClampNeg) = z2 := Prod.mk.inj ((Eq.symm ((if_neg c_6).trans ((if_pos c_15).trans ((if_neg c_27).trans ((if_neg c_52).trans ((if_neg e_63_0).trans ((if_neg e_63_1).trans ((if_neg e_63_2).trans ((if_neg e_63_3).trans ((if_neg e_63_4).trans ((if_neg e_63_5).trans ((if_neg e_63_6).trans ((if_neg e_63_7).trans ((if_neg e_63_8).trans ((if_neg e_63_9).trans ((if_neg e_63_10).trans ((if_neg e_63_11).trans ((if_neg e_63_12).trans ((if_neg e_63_13).trans ((if_neg e_63_14).trans ((if_neg e_63_15).trans ((if_pos (by rfl)).trans rfl)))))))))))))))))))))).trans hres)
            exact CMa_ret (S := Unit) () hx hb hr hlocks hP hK hD hS d_Model_act_275
          rcases Decidable.em (k = 17) with e_63_17 | e_63_17
          · subst e_63_17
            refine lv_tableIn (tgt := 276) hx hb d_Model_act_63 (by decide) (by decide) rfl (by decide) ?_
            refine lv_aload_n hx hb d_Model_act_276 rfl (lv_at hl 3 rfl) ?_
            refine va_get (D := D) (ci := 2) (v := .ref o5) (C := R_Model) (T := F_Model) (N := 14) hx hb hk i_Model hown hK hP 0 rfl rfl 4 (by decide) (hk _ kl_Model_22) (fun _ h9 => h9) rfl d_Model_act_277 ?_
            refine lv_aload_n hx hb d_Model_act_280 rfl (lv_at hl 3 rfl) ?_
            refine va_get (D := D) (ci := 2) (v := .int (aWc md)) (C := R_Model) (T := F_Model) (N := 14) hx hb hk i_Model hown hK hP 0 rfl rfl 11 (by decide) (hk _ kl_Model_41) (fun _ h9 => h9) rfl d_Model_act_281 ?_
            refine va_iald hx hb hK hP 5 0 rfl rfl (hw c_15).1 d_Model_act_284 ?_
            obtain ⟨rfl, rfl⟩ : md = z1 ∧ ((aYy md) (aWc md).toNatClampNeg) = z2 := Prod.mk.inj ((Eq.symm ((if_neg c_6).trans ((if_pos c_15).trans ((if_neg c_27).trans ((if_neg c_52).trans ((if_neg e_63_0).trans ((if_neg e_63_1).trans ((if_neg e_63_2).trans ((if_neg e_63_3).trans ((if_neg e_63_4).trans ((if_neg e_63_5).trans ((if_neg e_63_6).trans ((if_neg e_63_7).trans ((if_neg e_63_8).trans ((if_neg e_63_9).trans ((if_neg e_63_10).trans ((if_neg e_63_11).trans ((if_neg e_63_12).trans ((if_neg e_63_13).trans ((if_neg e_63_14).trans ((if_neg e_63_15).trans ((if_neg e_63_16).trans ((if_pos (by rfl)).trans rfl))))))))))))))))))))))).trans hres)
            exact CMa_ret (S := Unit) () hx hb hr hlocks hP hK hD hS d_Model_act_285
          rcases Decidable.em (k = 18) with e_63_18 | e_63_18
          · subst e_63_18
            refine lv_tableIn (tgt := 286) hx hb d_Model_act_63 (by decide) (by decide) rfl (by decide) ?_
            refine lv_aload_n hx hb d_Model_act_286 rfl (lv_at hl 3 rfl) ?_
            refine CMv.callV (wc := M13 cI cZ o o1 o2 o3 o4 o5 o6 o7 o8 o9 o10 o11 o12 md) (wr := []) (b := o) (av := []) (rest := []) hx hb hml hown hk (c_M_initLazy l D cI cZ o o1 o2 o3 o4 o5 o6 o7 o8 o9 o10 o11 o12 md (okM_mono (hw c_15) (by decide)) _ rfl) hK hP hD hS hA hSt hl.1 (va_recv hK hP (ci := 2) (q0 := 0) rfl rfl) d_Model_act_287 kc_Model_initLazy ki_Model kl_Model_96 kn_Model_initLazy kx_Model_initLazy (n := 0) rfl (by decide +kernel) ⟨Nat.le_of_ble_eq_true rfl, Nat.le_of_ble_eq_true rfl⟩ rfl rfl (Nat.le_of_ble_eq_true rfl) ⟨Nat.le_of_ble_eq_true rfl, Nat.le_of_ble_eq_true rfl⟩ (fun H locs hP hD hS => ?_)
            replace hP : va_P D classes (M13 cI cZ o o1 o2 o3 o4 o5 o6 o7 o8 o9 o10 o11 o12 (m_M_initLazy md)) H := hP
            replace hD : va_D A (M13 cI cZ o o1 o2 o3 o4 o5 o6 o7 o8 o9 o10 o11 o12 (m_M_initLazy md)) := hD
            obtain ⟨g13, hg13⟩ : ∃ z, (m_M_initLazy md) = z := ⟨_, rfl⟩
            rw [hg13] at hP hD
            refine lv_bipush (v := (20 : Int32)) hx hb d_Model_act_290 (by decide) ?_
            subst hg13
            obtain ⟨rfl, rfl⟩ : (m_M_initLazy md) = z1 ∧ (20 : Int32) = z2 := Prod.mk.inj ((Eq.symm ((if_neg c_6).trans ((if_pos c_15).trans ((if_neg c_27).trans ((if_neg c_52).trans ((if_neg e_63_0).trans ((if_neg e_63_1).trans ((if_neg e_63_2).trans ((if_neg e_63_3).trans ((if_neg e_63_4).trans ((if_neg e_63_5).trans ((if_neg e_63_6).trans ((if_neg e_63_7).trans ((if_neg e_63_8).trans ((if_neg e_63_9).trans ((if_neg e_63_10).trans ((if_neg e_63_11).trans ((if_neg e_63_12).trans ((if_neg e_63_13).trans ((if_neg e_63_14).trans ((if_neg e_63_15).trans ((if_neg e_63_16).trans ((if_neg e_63_17).trans ((if_pos (by rfl)).trans rfl)))))))))))))))))))))))).trans hres)
            exact CMa_ret (S := Unit) () hx hb hr hlocks hP hK hD hS d_Model_act_292
          rcases Decidable.em (k = 19) with e_63_19 | e_63_19
          · subst e_63_19
            refine lv_tableIn (tgt := 293) hx hb d_Model_act_63 (by decide) (by decide) rfl (by decide) ?_
            refine lv_iload hx hb d_Model_act_293 (lv_at hl 0 rfl) ?_
            refine lv_if_eq (tgt := 303) hx hb d_Model_act_295 (by decide) (fun h9 => absurd h9 (by decide)) (fun _ => ?_)
            refine lv_bipush (v := (18 : Int32)) hx hb d_Model_act_298 (by decide) ?_
            refine lv_goto (tgt := 304) hx hb d_Model_act_300 (by decide) ?_
            refine lv_bipush (v := (17 : Int32)) hx hb d_Model_act_304 (by decide) ?_
            refine lv_iadd hx hb d_Model_act_306 ?_
            refine lv_topi (fun z ez => ?_)
            obtain rfl : z = (35 : Int32) := ez.trans (by decide)
            obtain ⟨rfl, rfl⟩ : md = z1 ∧ (35 : Int32) = z2 := Prod.mk.inj ((Eq.symm ((if_neg c_6).trans ((if_pos c_15).trans ((if_neg c_27).trans ((if_neg c_52).trans ((if_neg e_63_0).trans ((if_neg e_63_1).trans ((if_neg e_63_2).trans ((if_neg e_63_3).trans ((if_neg e_63_4).trans ((if_neg e_63_5).trans ((if_neg e_63_6).trans ((if_neg e_63_7).trans ((if_neg e_63_8).trans ((if_neg e_63_9).trans ((if_neg e_63_10).trans ((if_neg e_63_11).trans ((if_neg e_63_12).trans ((if_neg e_63_13).trans ((if_neg e_63_14).trans ((if_neg e_63_15).trans ((if_neg e_63_16).trans ((if_neg e_63_17).trans ((if_neg e_63_18).trans ((if_pos (by rfl)).trans rfl))))))))))))))))))))))))).trans hres)
            exact CMa_ret (S := Unit) () hx hb hr hlocks hP hK hD hS d_Model_act_307
          rcases Decidable.em (k = 20) with e_63_20 | e_63_20
          · subst e_63_20
            refine lv_tableIn (tgt := 308) hx hb d_Model_act_63 (by decide) (by decide) rfl (by decide) ?_
            refine lv_iload hx hb d_Model_act_308 (lv_at hl 0 rfl) ?_
            refine lv_if_eq (tgt := 317) hx hb d_Model_act_310 (by decide) (fun h9 => absurd h9 (by decide)) (fun _ => ?_)
            refine lv_iconst (v := (1 : Int32)) hx hb d_Model_act_313 (by decide) ?_
            refine lv_goto (tgt := 318) hx hb d_Model_act_314 (by decide) ?_
            obtain ⟨rfl, rfl⟩ : md = z1 ∧ (1 : Int32) = z2 := Prod.mk.inj ((Eq.symm ((if_neg c_6).trans ((if_pos c_15).trans ((if_neg c_27).trans ((if_neg c_52).trans ((if_neg e_63_0).trans ((if_neg e_63_1).trans ((if_neg e_63_2).trans ((if_neg e_63_3).trans ((if_neg e_63_4).trans ((if_neg e_63_5).trans ((if_neg e_63_6).trans ((if_neg e_63_7).trans ((if_neg e_63_8).trans ((if_neg e_63_9).trans ((if_neg e_63_10).trans ((if_neg e_63_11).trans ((if_neg e_63_12).trans ((if_neg e_63_13).trans ((if_neg e_63_14).trans ((if_neg e_63_15).trans ((if_neg e_63_16).trans ((if_neg e_63_17).trans ((if_neg e_63_18).trans ((if_neg e_63_19).trans ((if_pos (by rfl)).trans rfl)))))))))))))))))))))))))).trans hres)
            exact CMa_ret (S := Unit) () hx hb hr hlocks hP hK hD hS d_Model_act_318
          rcases Decidable.em (k = 21) with e_63_21 | e_63_21
          · subst e_63_21
            refine lv_tableIn (tgt := 319) hx hb d_Model_act_63 (by decide) (by decide) rfl (by decide) ?_
            refine lv_aload_n hx hb d_Model_act_319 rfl (lv_at hl 3 rfl) ?_
            refine va_get (D := D) (ci := 2) (v := .ref o10) (C := R_Model) (T := F_Model) (N := 14) hx hb hk i_Model hown hK hP 0 rfl rfl 9 (by decide) (hk _ kl_Model_38) (fun _ h9 => h9) rfl d_Model_act_320 ?_
            refine lv_aload_n hx hb d_Model_act_323 rfl (lv_at hl 3 rfl) ?_
            refine va_get (D := D) (ci := 2) (v := .int (aWc md)) (C := R_Model) (T := F_Model) (N := 14) hx hb hk i_Model hown hK hP 0 rfl rfl 11 (by decide) (hk _ kl_Model_41) (fun _ h9 => h9) rfl d_Model_act_324 ?_
            refine va_zald hx hb hK hP 10 1 rfl rfl (hw c_15).1 d_Model_act_327 ?_
            refine lv_if_eq (tgt := 340) hx hb d_Model_act_328 (by decide) (fun c_328 => ?_) (fun c_328 => ?_)
            · refine lv_iload_n hx hb d_Model_act_340 rfl (lv_at hl 5 rfl) ?_
              refine lv_sipush (v := (1000 : Int32)) hx hb d_Model_act_341 (by decide) ?_
              refine lv_iadd hx hb d_Model_act_344 ?_
              obtain ⟨rfl, rfl⟩ : md = z1 ∧ (a + (1000 : Int32)) = z2 := Prod.mk.inj ((Eq.symm ((if_neg c_6).trans ((if_pos c_15).trans ((if_neg c_27).trans ((if_neg c_52).trans ((if_neg e_63_0).trans ((if_neg e_63_1).trans ((if_neg e_63_2).trans ((if_neg e_63_3).trans ((if_neg e_63_4).trans ((if_neg e_63_5).trans ((if_neg e_63_6).trans ((if_neg e_63_7).trans ((if_neg e_63_8).trans ((if_neg e_63_9).trans ((if_neg e_63_10).trans ((if_neg e_63_11).trans ((if_neg e_63_12).trans ((if_neg e_63_13).trans ((if_neg e_63_14).trans ((if_neg e_63_15).trans ((if_neg e_63_16).trans ((if_neg e_63_17).trans ((if_neg e_63_18).trans ((if_neg e_63_19).trans ((if_neg e_63_20).trans ((if_pos (by rfl)).trans ((if_pos c_328).trans rfl)))))))))))))))))))))))))))).trans hres)
              exact CMa_ret (S := Unit) () hx hb hr hlocks hP hK hD hS d_Model_act_345
            · refine lv_iload_n hx hb d_Model_act_331 rfl (lv_at hl 5 rfl) ?_
              refine lv_if_gt (tgt := 340) hx hb d_Model_act_332 (by decide) (fun c_332 => ?_) (fun c_332 => ?_)
              · refine lv_iload_n hx hb d_Model_act_340 rfl (lv_at hl 5 rfl) ?_
                refine lv_sipush (v := (1000 : Int32)) hx hb d_Model_act_341 (by decide) ?_
                refine lv_iadd hx hb d_Model_act_344 ?_
                obtain ⟨rfl, rfl⟩ : md = z1 ∧ (a + (1000 : Int32)) = z2 := Prod.mk.inj ((Eq.symm ((if_neg c_6).trans ((if_pos c_15).trans ((if_neg c_27).trans ((if_neg c_52).trans ((if_neg e_63_0).trans ((if_neg e_63_1).trans ((if_neg e_63_2).trans ((if_neg e_63_3).trans ((if_neg e_63_4).trans ((if_neg e_63_5).trans ((if_neg e_63_6).trans ((if_neg e_63_7).trans ((if_neg e_63_8).trans ((if_neg e_63_9).trans ((if_neg e_63_10).trans ((if_neg e_63_11).trans ((if_neg e_63_12).trans ((if_neg e_63_13).trans ((if_neg e_63_14).trans ((if_neg e_63_15).trans ((if_neg e_63_16).trans ((if_neg e_63_17).trans ((if_neg e_63_18).trans ((if_neg e_63_19).trans ((if_neg e_63_20).trans ((if_pos (by rfl)).trans ((if_neg c_328).trans ((if_pos c_332).trans rfl))))))))))))))))))))))))))))).trans hres)
                exact CMa_ret (S := Unit) () hx hb hr hlocks hP hK hD hS d_Model_act_345
              · refine lv_bipush (v := (-103 : Int32)) hx hb d_Model_act_335 (by decide) ?_
                refine lv_goto (tgt := 345) hx hb d_Model_act_337 (by decide) ?_
                obtain ⟨rfl, rfl⟩ : md = z1 ∧ (-103 : Int32) = z2 := Prod.mk.inj ((Eq.symm ((if_neg c_6).trans ((if_pos c_15).trans ((if_neg c_27).trans ((if_neg c_52).trans ((if_neg e_63_0).trans ((if_neg e_63_1).trans ((if_neg e_63_2).trans ((if_neg e_63_3).trans ((if_neg e_63_4).trans ((if_neg e_63_5).trans ((if_neg e_63_6).trans ((if_neg e_63_7).trans ((if_neg e_63_8).trans ((if_neg e_63_9).trans ((if_neg e_63_10).trans ((if_neg e_63_11).trans ((if_neg e_63_12).trans ((if_neg e_63_13).trans ((if_neg e_63_14).trans ((if_neg e_63_15).trans ((if_neg e_63_16).trans ((if_neg e_63_17).trans ((if_neg e_63_18).trans ((if_neg e_63_19).trans ((if_neg e_63_20).trans ((if_pos (by rfl)).trans ((if_neg c_328).trans ((if_neg c_332).trans rfl))))))))))))))))))))))))))))).trans hres)
                exact CMa_ret (S := Unit) () hx hb hr hlocks hP hK hD hS d_Model_act_345
          rcases Decidable.em (k = 22) with e_63_22 | e_63_22
          · subst e_63_22
            refine lv_tableIn (tgt := 346) hx hb d_Model_act_63 (by decide) (by decide) rfl (by decide) ?_
            refine lv_aload_n hx hb d_Model_act_346 rfl (lv_at hl 3 rfl) ?_
            refine va_get (D := D) (ci := 2) (v := .ref o6) (C := R_Model) (T := F_Model) (N := 14) hx hb hk i_Model hown hK hP 0 rfl rfl 5 (by decide) (hk _ kl_Model_25) (fun _ h9 => h9) rfl d_Model_act_347 ?_
            refine lv_aload_n hx hb d_Model_act_350 rfl (lv_at hl 3 rfl) ?_
            refine va_get (D := D) (ci := 2) (v := .int (aWc md)) (C := R_Model) (T := F_Model) (N := 14) hx hb hk i_Model hown hK hP 0 rfl rfl 11 (by decide) (hk _ kl_Model_41) (fun _ h9 => h9) rfl d_Model_act_351 ?_
            refine lv_dup2_11 hx hb d_Model_act_354 rfl rfl ?_
            refine va_iald hx hb hK hP 6 0 rfl rfl (hw c_15).1 d_Model_act_355 ?_
            refine lv_iload hx hb d_Model_act_356 (lv_at hl 0 rfl) ?_
            refine lv_if_eq (tgt := 365) hx hb d_Model_act_358 (by decide) (fun h9 => absurd h9 (by decide)) (fun _ => ?_)
            refine lv_iconst (v := (3 : Int32)) hx hb d_Model_act_361 (by decide) ?_
            refine lv_goto (tgt := 366) hx hb d_Model_act_362 (by decide) ?_
            refine lv_iadd hx hb d_Model_act_366 ?_
            refine va_iast hx hb hK hP hD hS 6 0 rfl rfl (hw c_15).1 d_Model_act_367 (fun H locs hP hD hS => ?_)
            replace hP : va_P D classes (M13 cI cZ o o1 o2 o3 o4 o5 o6 o7 o8 o9 o10 o11 o12 (uMa md (upd ((aMa md)) (aWc md).toNatClampNeg (((aMa md) (aWc md).toNatClampNeg) + (3 : Int32))))) H := hP
            replace hD : va_D A (M13 cI cZ o o1 o2 o3 o4 o5 o6 o7 o8 o9 o10 o11 o12 (uMa md (upd ((aMa md)) (aWc md).toNatClampNeg (((aMa md) (aWc md).toNatClampNeg) + (3 : Int32))))) := hD
            refine lv_aload_n hx hb d_Model_act_368 rfl (lv_at hl 3 rfl) ?_
            refine va_get (D := D) (ci := 2) (v := .ref o6) (C := R_Model) (T := F_Model) (N := 14) hx hb hk i_Model hown hK hP 0 rfl rfl 5 (by decide) (hk _ kl_Model_25) (fun _ h9 => h9) rfl d_Model_act_369 ?_
            refine lv_aload_n hx hb d_Model_act_372 rfl (lv_at hl 3 rfl) ?_
            refine va_get (D := D) (ci := 2) (v := .int (aWc (uMa md (upd ((aMa md)) (aWc md).toNatClampNeg (((aMa md) (aWc md).toNatClampNeg) + (3 : Int32)))))) (C := R_Model) (T := F_Model) (N := 14) hx hb hk i_Model hown hK hP 0 rfl rfl 11 (by decide) (hk _ kl_Model_41) (fun _ h9 => h9) rfl d_Model_act_373 ?_
            refine va_iald hx hb hK hP 6 0 rfl rfl (okM_uMa (hw c_15)).1 d_Model_act_376 ?_
            obtain ⟨rfl, rfl⟩ : (uMa md (upd ((aMa md)) (aWc md).toNatClampNeg (((aMa md) (aWc md).toNatClampNeg) + (3 : Int32)))) = z1 ∧ ((aMa (uMa md (upd ((aMa md)) (aWc md).toNatClampNeg (((aMa md) (aWc md).toNatClampNeg) + (3 : Int32))))) (aWc (uMa md (upd ((aMa md)) (aWc md).toNatClampNeg (((aMa md) (aWc md).toNatClampNeg) + (3 : Int32))))).toNatClampNeg) = z2 := Prod.mk.inj ((Eq.symm ((if_neg c_6).trans ((if_pos c_15).trans ((if_neg c_27).trans ((if_neg c_52).trans ((if_neg e_63_0).trans ((if_neg e_63_1).trans ((if_neg e_63_2).trans ((if_neg e_63_3).trans ((if_neg e_63_4).trans ((if_neg e_63_5).trans ((if_neg e_63_6).trans ((if_neg e_63_7).trans ((if_neg e_63_8).trans ((if_neg e_63_9).trans ((if_neg e_63_10).trans ((if_neg e_63_11).trans ((if_neg e_63_12).trans ((if_neg e_63_13).trans ((if_neg e_63_14).trans ((if_neg e_63_15).trans ((if_neg e_63_16).trans ((if_neg e_63_17).trans ((if_neg e_63_18).trans ((if_neg e_63_19).trans ((if_neg e_63_20).trans ((if_neg e_63_21).trans ((if_pos (by rfl)).trans rfl)))))))))))))))))))))))))))).trans hres)
            exact CMa_ret (S := Unit) () hx hb hr hlocks hP hK hD hS d_Model_act_377
          rcases Decidable.em (k = 23) with e_63_23 | e_63_23
          · subst e_63_23
            refine lv_tableIn (tgt := 378) hx hb d_Model_act_63 (by decide) (by decide) rfl (by decide) ?_
            refine lv_bipush (v := (20 : Int32)) hx hb d_Model_act_378 (by decide) ?_
            obtain ⟨rfl, rfl⟩ : md = z1 ∧ (20 : Int32) = z2 := Prod.mk.inj ((Eq.symm ((if_neg c_6).trans ((if_pos c_15).trans ((if_neg c_27).trans ((if_neg c_52).trans ((if_neg e_63_0).trans ((if_neg e_63_1).trans ((if_neg e_63_2).trans ((if_neg e_63_3).trans ((if_neg e_63_4).trans ((if_neg e_63_5).trans ((if_neg e_63_6).trans ((if_neg e_63_7).trans ((if_neg e_63_8).trans ((if_neg e_63_9).trans ((if_neg e_63_10).trans ((if_neg e_63_11).trans ((if_neg e_63_12).trans ((if_neg e_63_13).trans ((if_neg e_63_14).trans ((if_neg e_63_15).trans ((if_neg e_63_16).trans ((if_neg e_63_17).trans ((if_neg e_63_18).trans ((if_neg e_63_19).trans ((if_neg e_63_20).trans ((if_neg e_63_21).trans ((if_neg e_63_22).trans ((if_pos (by rfl)).trans rfl))))))))))))))))))))))))))))).trans hres)
            exact CMa_ret (S := Unit) () hx hb hr hlocks hP hK hD hS d_Model_act_380
          rcases Decidable.em (k = 24) with e_63_24 | e_63_24
          · subst e_63_24
            refine lv_tableIn (tgt := 381) hx hb d_Model_act_63 (by decide) (by decide) rfl (by decide) ?_
            refine lv_aload_n hx hb d_Model_act_381 rfl (lv_at hl 3 rfl) ?_
            refine va_get (D := D) (ci := 2) (v := .ref o3) (C := R_Model) (T := F_Model) (N := 14) hx hb hk i_Model hown hK hP 0 rfl rfl 2 (by decide) (hk _ kl_Model_16) (fun _ h9 => h9) rfl d_Model_act_382 ?_
            refine lv_aload_n hx hb d_Model_act_385 rfl (lv_at hl 3 rfl) ?_
            refine va_get (D := D) (ci := 2) (v := .int (aWc md)) (C := R_Model) (T := F_Model) (N := 14) hx hb hk i_Model hown hK hP 0 rfl rfl 11 (by decide) (hk _ kl_Model_41) (fun _ h9 => h9) rfl d_Model_act_386 ?_
            refine va_iald hx hb hK hP 3 0 rfl rfl (hw c_15).1 d_Model_act_389 ?_
            obtain ⟨rfl, rfl⟩ : md = z1 ∧ ((aMi md) (aWc md).toNatClampNeg) = z2 := Prod.mk.inj ((Eq.symm ((if_neg c_6).trans ((if_pos c_15).trans ((if_neg c_27).trans ((if_neg c_52).trans ((if_neg e_63_0).trans ((if_neg e_63_1).trans ((if_neg e_63_2).trans ((if_neg e_63_3).trans ((if_neg e_63_4).trans ((if_neg e_63_5).trans ((if_neg e_63_6).trans ((if_neg e_63_7).trans ((if_neg e_63_8).trans ((if_neg e_63_9).trans ((if_neg e_63_10).trans ((if_neg e_63_11).trans ((if_neg e_63_12).trans ((if_neg e_63_13).trans ((if_neg e_63_14).trans ((if_neg e_63_15).trans ((if_neg e_63_16).trans ((if_neg e_63_17).trans ((if_neg e_63_18).trans ((if_neg e_63_19).trans ((if_neg e_63_20).trans ((if_neg e_63_21).trans ((if_neg e_63_22).trans ((if_neg e_63_23).trans ((if_pos (by rfl)).trans rfl)))))))))))))))))))))))))))))).trans hres)
            exact CMa_ret (S := Unit) () hx hb hr hlocks hP hK hD hS d_Model_act_390
          rcases Decidable.em (k = 25) with e_63_25 | e_63_25
          · subst e_63_25
            refine lv_tableIn (tgt := 391) hx hb d_Model_act_63 (by decide) (by decide) rfl (by decide) ?_
            refine lv_iload hx hb d_Model_act_391 (lv_at hl 0 rfl) ?_
            refine lv_if_eq (tgt := 401) hx hb d_Model_act_393 (by decide) (fun h9 => absurd h9 (by decide)) (fun _ => ?_)
            refine lv_aload_n hx hb d_Model_act_396 rfl (lv_at hl 3 rfl) ?_
            refine lv_iconst (v := (0 : Int32)) hx hb d_Model_act_397 (by decide) ?_
            refine CMv.callV (wc := M13 cI cZ o o1 o2 o3 o4 o5 o6 o7 o8 o9 o10 o11 o12 md) (wr := []) (b := o) (av := [.int (0 : Int32)]) (rest := []) hx hb hml hown hk (c_M_initCircle l D cI cZ o o1 o2 o3 o4 o5 o6 o7 o8 o9 o10 o11 o12 false md (okM_mono (hw c_15) (by decide)) _ rfl) hK hP hD hS hA hSt hl.1 (va_recv hK hP (ci := 2) (q0 := 0) rfl rfl) d_Model_act_398 kc_Model_initCircle ki_Model kl_Model_92 kn_Model_initCircle kx_Model_initCircle (n := 1) rfl (by decide +kernel) ⟨Nat.le_of_ble_eq_true rfl, Nat.le_of_ble_eq_true rfl⟩ rfl rfl (Nat.le_of_ble_eq_true rfl) ⟨Nat.le_of_ble_eq_true rfl, Nat.le_of_ble_eq_true rfl⟩ (fun H locs hP hD hS => ?_)
            replace hP : va_P D classes (M13 cI cZ o o1 o2 o3 o4 o5 o6 o7 o8 o9 o10 o11 o12 (m_M_initCircle false md)) H := hP
            replace hD : va_D A (M13 cI cZ o o1 o2 o3 o4 o5 o6 o7 o8 o9 o10 o11 o12 (m_M_initCircle false md)) := hD
            obtain ⟨g14, hg14⟩ : ∃ z, (m_M_initCircle false md) = z := ⟨_, rfl⟩
            rw [hg14] at hP hD
            refine lv_bipush (v := (18 : Int32)) hx hb d_Model_act_401 (by decide) ?_
            subst hg14
            obtain ⟨rfl, rfl⟩ : (m_M_initCircle false md) = z1 ∧ (18 : Int32) = z2 := Prod.mk.inj ((Eq.symm ((if_neg c_6).trans ((if_pos c_15).trans ((if_neg c_27).trans ((if_neg c_52).trans ((if_neg e_63_0).trans ((if_neg e_63_1).trans ((if_neg e_63_2).trans ((if_neg e_63_3).trans ((if_neg e_63_4).trans ((if_neg e_63_5).trans ((if_neg e_63_6).trans ((if_neg e_63_7).trans ((if_neg e_63_8).trans ((if_neg e_63_9).trans ((if_neg e_63_10).trans ((if_neg e_63_11).trans ((if_neg e_63_12).trans ((if_neg e_63_13).trans ((if_neg e_63_14).trans ((if_neg e_63_15).trans ((if_neg e_63_16).trans ((if_neg e_63_17).trans ((if_neg e_63_18).trans ((if_neg e_63_19).trans ((if_neg e_63_20).trans ((if_neg e_63_21).trans ((if_neg e_63_22).trans ((if_neg e_63_23).trans ((if_neg e_63_24).trans ((if_pos (by rfl)).trans rfl))))))))))))))))))))))))))))))).trans hres)
            exact CMa_ret (S := Unit) () hx hb hr hlocks hP hK hD hS d_Model_act_403
          rcases Decidable.em (k = 26) with e_63_26 | e_63_26
          · subst e_63_26
            refine lv_tableIn (tgt := 404) hx hb d_Model_act_63 (by decide) (by decide) rfl (by decide) ?_
            refine lv_aload_n hx hb d_Model_act_404 rfl (lv_at hl 3 rfl) ?_
            refine lv_iconst (v := (2 : Int32)) hx hb d_Model_act_405 (by decide) ?_
            refine CMv.callV (wc := M13 cI cZ o o1 o2 o3 o4 o5 o6 o7 o8 o9 o10 o11 o12 md) (wr := []) (b := o) (av := [.int (2 : Int32)]) (rest := []) hx hb hml hown hk (c_M_create l D cI cZ o o1 o2 o3 o4 o5 o6 o7 o8 o9 o10 o11 o12 (2 : Int32) md (okM_mono (hw c_15) (by decide)) _ rfl) hK hP hD hS hA hSt hl.1 (va_recv hK hP (ci := 2) (q0 := 0) rfl rfl) d_Model_act_406 kc_Model_create ki_Model kl_Model_115 kn_Model_create kx_Model_create (n := 1) rfl (by decide +kernel) ⟨Nat.le_of_ble_eq_true rfl, Nat.le_of_ble_eq_true rfl⟩ rfl rfl (Nat.le_of_ble_eq_true rfl) ⟨Nat.le_of_ble_eq_true rfl, Nat.le_of_ble_eq_true rfl⟩ (fun H locs hP hD hS => ?_)
            replace hP : va_P D classes (M13 cI cZ o o1 o2 o3 o4 o5 o6 o7 o8 o9 o10 o11 o12 (m_M_create (2 : Int32) md)) H := hP
            replace hD : va_D A (M13 cI cZ o o1 o2 o3 o4 o5 o6 o7 o8 o9 o10 o11 o12 (m_M_create (2 : Int32) md)) := hD
            obtain ⟨g15, hg15⟩ : ∃ z, (m_M_create (2 : Int32) md) = z := ⟨_, rfl⟩
            rw [hg15] at hP hD
            refine lv_iconst (v := (1 : Int32)) hx hb d_Model_act_409 (by decide) ?_
            subst hg15
            obtain ⟨rfl, rfl⟩ : (m_M_create (2 : Int32) md) = z1 ∧ (1 : Int32) = z2 := Prod.mk.inj ((Eq.symm ((if_neg c_6).trans ((if_pos c_15).trans ((if_neg c_27).trans ((if_neg c_52).trans ((if_neg e_63_0).trans ((if_neg e_63_1).trans ((if_neg e_63_2).trans ((if_neg e_63_3).trans ((if_neg e_63_4).trans ((if_neg e_63_5).trans ((if_neg e_63_6).trans ((if_neg e_63_7).trans ((if_neg e_63_8).trans ((if_neg e_63_9).trans ((if_neg e_63_10).trans ((if_neg e_63_11).trans ((if_neg e_63_12).trans ((if_neg e_63_13).trans ((if_neg e_63_14).trans ((if_neg e_63_15).trans ((if_neg e_63_16).trans ((if_neg e_63_17).trans ((if_neg e_63_18).trans ((if_neg e_63_19).trans ((if_neg e_63_20).trans ((if_neg e_63_21).trans ((if_neg e_63_22).trans ((if_neg e_63_23).trans ((if_neg e_63_24).trans ((if_neg e_63_25).trans ((if_pos (by rfl)).trans rfl)))))))))))))))))))))))))))))))).trans hres)
            exact CMa_ret (S := Unit) () hx hb hr hlocks hP hK hD hS d_Model_act_410
          rcases Decidable.em (k = 27) with e_63_27 | e_63_27
          · subst e_63_27
            refine lv_tableIn (tgt := 381) hx hb d_Model_act_63 (by decide) (by decide) rfl (by decide) ?_
            refine lv_aload_n hx hb d_Model_act_381 rfl (lv_at hl 3 rfl) ?_
            refine va_get (D := D) (ci := 2) (v := .ref o3) (C := R_Model) (T := F_Model) (N := 14) hx hb hk i_Model hown hK hP 0 rfl rfl 2 (by decide) (hk _ kl_Model_16) (fun _ h9 => h9) rfl d_Model_act_382 ?_
            refine lv_aload_n hx hb d_Model_act_385 rfl (lv_at hl 3 rfl) ?_
            refine va_get (D := D) (ci := 2) (v := .int (aWc md)) (C := R_Model) (T := F_Model) (N := 14) hx hb hk i_Model hown hK hP 0 rfl rfl 11 (by decide) (hk _ kl_Model_41) (fun _ h9 => h9) rfl d_Model_act_386 ?_
            refine va_iald hx hb hK hP 3 0 rfl rfl (hw c_15).1 d_Model_act_389 ?_
            obtain ⟨rfl, rfl⟩ : md = z1 ∧ ((aMi md) (aWc md).toNatClampNeg) = z2 := Prod.mk.inj ((Eq.symm ((if_neg c_6).trans ((if_pos c_15).trans ((if_neg c_27).trans ((if_neg c_52).trans ((if_neg e_63_0).trans ((if_neg e_63_1).trans ((if_neg e_63_2).trans ((if_neg e_63_3).trans ((if_neg e_63_4).trans ((if_neg e_63_5).trans ((if_neg e_63_6).trans ((if_neg e_63_7).trans ((if_neg e_63_8).trans ((if_neg e_63_9).trans ((if_neg e_63_10).trans ((if_neg e_63_11).trans ((if_neg e_63_12).trans ((if_neg e_63_13).trans ((if_neg e_63_14).trans ((if_neg e_63_15).trans ((if_neg e_63_16).trans ((if_neg e_63_17).trans ((if_neg e_63_18).trans ((if_neg e_63_19).trans ((if_neg e_63_20).trans ((if_neg e_63_21).trans ((if_neg e_63_22).trans ((if_neg e_63_23).trans ((if_neg e_63_24).trans ((if_neg e_63_25).trans ((if_neg e_63_26).trans ((if_pos (by rfl)).trans rfl))))))))))))))))))))))))))))))))).trans hres)
            exact CMa_ret (S := Unit) () hx hb hr hlocks hP hK hD hS d_Model_act_390
          rcases Decidable.em (k = 28) with e_63_28 | e_63_28
          · subst e_63_28
            refine lv_tableIn (tgt := 411) hx hb d_Model_act_63 (by decide) (by decide) rfl (by decide) ?_
            refine lv_iconst (v := (5 : Int32)) hx hb d_Model_act_411 (by decide) ?_
            obtain ⟨rfl, rfl⟩ : md = z1 ∧ (5 : Int32) = z2 := Prod.mk.inj ((Eq.symm ((if_neg c_6).trans ((if_pos c_15).trans ((if_neg c_27).trans ((if_neg c_52).trans ((if_neg e_63_0).trans ((if_neg e_63_1).trans ((if_neg e_63_2).trans ((if_neg e_63_3).trans ((if_neg e_63_4).trans ((if_neg e_63_5).trans ((if_neg e_63_6).trans ((if_neg e_63_7).trans ((if_neg e_63_8).trans ((if_neg e_63_9).trans ((if_neg e_63_10).trans ((if_neg e_63_11).trans ((if_neg e_63_12).trans ((if_neg e_63_13).trans ((if_neg e_63_14).trans ((if_neg e_63_15).trans ((if_neg e_63_16).trans ((if_neg e_63_17).trans ((if_neg e_63_18).trans ((if_neg e_63_19).trans ((if_neg e_63_20).trans ((if_neg e_63_21).trans ((if_neg e_63_22).trans ((if_neg e_63_23).trans ((if_neg e_63_24).trans ((if_neg e_63_25).trans ((if_neg e_63_26).trans ((if_neg e_63_27).trans ((if_pos (by rfl)).trans rfl)))))))))))))))))))))))))))))))))).trans hres)
            exact CMa_ret (S := Unit) () hx hb hr hlocks hP hK hD hS d_Model_act_412
          rcases Decidable.em (k = 29) with e_63_29 | e_63_29
          · subst e_63_29
            refine lv_tableOut (tgt := 413) hx hb d_Model_act_63 (by decide) (by decide) ?_
            refine lv_bipush (v := (-104 : Int32)) hx hb d_Model_act_413 (by decide) ?_
            obtain ⟨rfl, rfl⟩ : md = z1 ∧ (-104 : Int32) = z2 := Prod.mk.inj ((Eq.symm ((if_neg c_6).trans ((if_pos c_15).trans ((if_neg c_27).trans ((if_neg c_52).trans ((if_neg e_63_0).trans ((if_neg e_63_1).trans ((if_neg e_63_2).trans ((if_neg e_63_3).trans ((if_neg e_63_4).trans ((if_neg e_63_5).trans ((if_neg e_63_6).trans ((if_neg e_63_7).trans ((if_neg e_63_8).trans ((if_neg e_63_9).trans ((if_neg e_63_10).trans ((if_neg e_63_11).trans ((if_neg e_63_12).trans ((if_neg e_63_13).trans ((if_neg e_63_14).trans ((if_neg e_63_15).trans ((if_neg e_63_16).trans ((if_neg e_63_17).trans ((if_neg e_63_18).trans ((if_neg e_63_19).trans ((if_neg e_63_20).trans ((if_neg e_63_21).trans ((if_neg e_63_22).trans ((if_neg e_63_23).trans ((if_neg e_63_24).trans ((if_neg e_63_25).trans ((if_neg e_63_26).trans ((if_neg e_63_27).trans ((if_neg e_63_28).trans ((if_pos (by rfl)).trans rfl))))))))))))))))))))))))))))))))))).trans hres)
            exact CMa_ret (S := Unit) () hx hb hr hlocks hP hK hD hS d_Model_act_415
          exact False.elim (dom30 (mIn_in (by decide) c_6) e_63_0 e_63_1 e_63_2 e_63_3 e_63_4 e_63_5 e_63_6 e_63_7 e_63_8 e_63_9 e_63_10 e_63_11 e_63_12 e_63_13 e_63_14 e_63_15 e_63_16 e_63_17 e_63_18 e_63_19 e_63_20 e_63_21 e_63_22 e_63_23 e_63_24 e_63_25 e_63_26 e_63_27 e_63_28 e_63_29)
    · refine lv_bipush (v := (-2 : Int32)) hx hb d_Model_act_18 (by decide) ?_
      obtain ⟨rfl, rfl⟩ : md = z1 ∧ (-2 : Int32) = z2 := Prod.mk.inj ((Eq.symm ((if_neg c_6).trans ((if_neg c_15).trans rfl))).trans hres)
      refine W.widen (k := 1) (n := 30) (by omega) (by omega) ?_
      exact CMa_ret (S := Unit) () hx hb hr hlocks hP hK hD hS d_Model_act_20
  · refine lv_iconst (v := (-1 : Int32)) hx hb d_Model_act_9 (by decide) ?_
    obtain ⟨rfl, rfl⟩ : md = z1 ∧ (-1 : Int32) = z2 := Prod.mk.inj ((Eq.symm ((if_pos c_6).trans rfl)).trans hres)
    refine W.widen (k := 1) (n := 30) (by omega) (by omega) ?_
    exact CMa_ret (S := Unit) () hx hb hr hlocks hP hK hD hS d_Model_act_10

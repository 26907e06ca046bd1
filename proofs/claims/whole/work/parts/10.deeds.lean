set_option maxHeartbeats 4000000 in
set_option maxRecDepth 100000 in
theorem c_tDe (l : Launch) (D : va_G) (cI cW : ClassId) (q qn qv qs : Nat) (n : Nat) (gS : Int32 → Int32 → MW → MW × Int32) (k : Int32) (dp : Int32) (w : MW) (hS2 : KAs l D cI cW q qn qv qs n gS) (okS : okF gS) (hp : pDe (n + 1) k dp w) (z1 : MW) (z2 : Int32) (hres : m_tDe gS k dp w = (z1, z2)) : CM l y_World_runDeeds b_World_runDeeds 3 .int (rmN (n + 1)) D (tyC cI cW) [.ref q, .int k, .int dp] (W4 cI q qn qv qs w) z2 (W4 cI q qn qv qs z1) := by
  refine CM_mk (by decide) (Nat.le_of_ble_eq_true rfl) ?_
  intro p e s m args below meth c A ls hx hb hr hml hown hk hlocks hA hSt hK hP hD hS hl
  have hown : s.vm.findClass R_World = some m.cls := hown
  have hl : lv_has ls 3 [(0, .ref q), (1, .int k), (2, .int dp)] := hl
  refine lv_iload_n hx hb d_World_runDeeds_0 rfl (lv_at hl 1 rfl) ?_
  rcases Decidable.em (k = 0) with e_1_0 | e_1_0
  · subst e_1_0
    refine lv_tableIn (tgt := 80) hx hb d_World_runDeeds_1 (by decide) (by decide) rfl (by decide) ?_
    refine lv_aload_n hx hb d_World_runDeeds_80 rfl (lv_at hl 0 rfl) ?_
    refine va_get (D := D) (ci := 0) (v := .ref qv) (C := R_World) (T := F_World) (N := 7) hx hb hk i_World hown hK hP 0 rfl rfl 3 (by decide) (hk _ kl_World_17) (fun _ h9 => h9) rfl d_World_runDeeds_81 ?_
    refine lv_iload_n hx hb d_World_runDeeds_84 rfl (lv_at hl 1 rfl) ?_
    refine lv_aload_n hx hb d_World_runDeeds_85 rfl (lv_at hl 0 rfl) ?_
    refine lv_bipush (v := (10 : Int32)) hx hb d_World_runDeeds_86 (by decide) ?_
    refine CM.callV (wc := W4 cI q qn qv qs w) (wr := []) (b := q) (av := [.int (10 : Int32)]) (rest := [.int (0 : Int32), .ref qv]) hx hb hml hown hk (c_World_write l D cI cW q qn qv qs (10 : Int32) w (ok_mono hp.2.2.2.2 (by decide)) _ _ (pe2 _)) hK hP hD hS hA hSt hl.1 (va_recv hK hP (ci := 0) (q0 := 0) rfl rfl) d_World_runDeeds_88 kc_World_write ki_World kl_World_65 kn_World_write kx_World_write (n := 1) rfl (by decide +kernel) ⟨(by show 0 + 1 ≤ n + 1; have h1 := hp.2.1; have h2 := hp.2.2.1; omega), (by show 8 + (2 + 11) + 0 ≤ 40 * (n + 1); have h1 := hp.2.1; have h2 := hp.2.2.1; omega)⟩ rfl rfl (Nat.le_of_ble_eq_true rfl) ⟨Nat.zero_le _, Nat.zero_le _⟩ (fun H locs hP hD hS => ?_)
    have hP : va_P D classes (W4 cI q qn qv qs ((m_World_write (10 : Int32) w).1)) H := hP
    have hD : va_D A (W4 cI q qn qv qs ((m_World_write (10 : Int32) w).1)) := hD
    refine va_iast hx hb hK hP hD hS 2 0 rfl rfl (by unfold vp_in; decide) d_World_runDeeds_91 (fun H locs hP hD hS => ?_)
    have hP : va_P D classes (W4 cI q qn qv qs (sVa ((m_World_write (10 : Int32) w).1) (upd ((gVa ((m_World_write (10 : Int32) w).1))) (0 : Int32).toNatClampNeg (m_World_write (10 : Int32) w).2))) H := hP
    have hD : va_D A (W4 cI q qn qv qs (sVa ((m_World_write (10 : Int32) w).1) (upd ((gVa ((m_World_write (10 : Int32) w).1))) (0 : Int32).toNatClampNeg (m_World_write (10 : Int32) w).2))) := hD
    refine lv_aload_n hx hb d_World_runDeeds_92 rfl (lv_at hl 0 rfl) ?_
    refine lv_iconst (v := (1 : Int32)) hx hb d_World_runDeeds_93 (by decide) ?_
    refine CM.callV (wc := W4 cI q qn qv qs (sVa ((m_World_write (10 : Int32) w).1) (upd ((gVa ((m_World_write (10 : Int32) w).1))) (0 : Int32).toNatClampNeg (m_World_write (10 : Int32) w).2))) (wr := []) (b := q) (av := [.int (1 : Int32)]) (rest := []) hx hb hml hown hk (c_World_write l D cI cW q qn qv qs (1 : Int32) (sVa ((m_World_write (10 : Int32) w).1) (upd ((gVa ((m_World_write (10 : Int32) w).1))) (0 : Int32).toNatClampNeg (m_World_write (10 : Int32) w).2)) (ok_mono (ok_write hp.2.2.2.2) (by decide)) _ _ (pe2 _)) hK hP hD hS hA hSt hl.1 (va_recv hK hP (ci := 0) (q0 := 0) rfl rfl) d_World_runDeeds_94 kc_World_write ki_World kl_World_65 kn_World_write kx_World_write (n := 1) rfl (by decide +kernel) ⟨(by show 0 + 1 ≤ n + 1; have h1 := hp.2.1; have h2 := hp.2.2.1; omega), (by show 8 + (2 + 11) + 0 ≤ 40 * (n + 1); have h1 := hp.2.1; have h2 := hp.2.2.1; omega)⟩ rfl rfl (Nat.le_of_ble_eq_true rfl) ⟨Nat.zero_le _, Nat.zero_le _⟩ (fun H locs hP hD hS => ?_)
    have hP : va_P D classes (W4 cI q qn qv qs ((m_World_write (1 : Int32) (sVa ((m_World_write (10 : Int32) w).1) (upd ((gVa ((m_World_write (10 : Int32) w).1))) (0 : Int32).toNatClampNeg (m_World_write (10 : Int32) w).2))).1)) H := hP
    have hD : va_D A (W4 cI q qn qv qs ((m_World_write (1 : Int32) (sVa ((m_World_write (10 : Int32) w).1) (upd ((gVa ((m_World_write (10 : Int32) w).1))) (0 : Int32).toNatClampNeg (m_World_write (10 : Int32) w).2))).1)) := hD
    refine lv_pop hx hb d_World_runDeeds_97 rfl ?_
    refine lv_iconst (v := (0 : Int32)) hx hb d_World_runDeeds_98 (by decide) ?_
    obtain ⟨rfl, rfl⟩ : z1 = (m_World_write (1 : Int32) (sVa ((m_World_write (10 : Int32) w).1) (upd ((gVa ((m_World_write (10 : Int32) w).1))) (0 : Int32).toNatClampNeg (m_World_write (10 : Int32) w).2))).1 ∧ z2 = (0 : Int32) := Prod.mk.inj (hres.symm.trans ((if_pos (by rfl)).trans rfl))
    exact CM_iret hx hb hr hlocks hP hK hD hS d_World_runDeeds_99
  rcases Decidable.em (k = 1) with e_1_1 | e_1_1
  · subst e_1_1
    refine lv_tableIn (tgt := 100) hx hb d_World_runDeeds_1 (by decide) (by decide) rfl (by decide) ?_
    refine lv_aload_n hx hb d_World_runDeeds_100 rfl (lv_at hl 0 rfl) ?_
    refine va_get (D := D) (ci := 0) (v := .ref qv) (C := R_World) (T := F_World) (N := 7) hx hb hk i_World hown hK hP 0 rfl rfl 3 (by decide) (hk _ kl_World_17) (fun _ h9 => h9) rfl d_World_runDeeds_101 ?_
    refine lv_iload_n hx hb d_World_runDeeds_104 rfl (lv_at hl 1 rfl) ?_
    refine lv_aload_n hx hb d_World_runDeeds_105 rfl (lv_at hl 0 rfl) ?_
    refine lv_iconst (v := (2 : Int32)) hx hb d_World_runDeeds_106 (by decide) ?_
    refine CM.callV (wc := W4 cI q qn qv qs w) (wr := []) (b := q) (av := [.int (2 : Int32)]) (rest := [.int (1 : Int32), .ref qv]) hx hb hml hown hk (c_World_write l D cI cW q qn qv qs (2 : Int32) w (ok_mono hp.2.2.2.2 (by decide)) _ _ (pe2 _)) hK hP hD hS hA hSt hl.1 (va_recv hK hP (ci := 0) (q0 := 0) rfl rfl) d_World_runDeeds_107 kc_World_write ki_World kl_World_65 kn_World_write kx_World_write (n := 1) rfl (by decide +kernel) ⟨(by show 0 + 1 ≤ n + 1; have h1 := hp.2.1; have h2 := hp.2.2.1; omega), (by show 8 + (2 + 11) + 0 ≤ 40 * (n + 1); have h1 := hp.2.1; have h2 := hp.2.2.1; omega)⟩ rfl rfl (Nat.le_of_ble_eq_true rfl) ⟨Nat.zero_le _, Nat.zero_le _⟩ (fun H locs hP hD hS => ?_)
    have hP : va_P D classes (W4 cI q qn qv qs ((m_World_write (2 : Int32) w).1)) H := hP
    have hD : va_D A (W4 cI q qn qv qs ((m_World_write (2 : Int32) w).1)) := hD
    refine lv_aload_n hx hb d_World_runDeeds_110 rfl (lv_at hl 0 rfl) ?_
    refine lv_iconst (v := (0 : Int32)) hx hb d_World_runDeeds_111 (by decide) ?_
    refine lv_iload_n hx hb d_World_runDeeds_112 rfl (lv_at hl 2 rfl) ?_
    refine CM.callV (wc := W4 cI q qn qv qs ((m_World_write (2 : Int32) w).1)) (wr := []) (b := q) (av := [.int (0 : Int32), .int dp]) (rest := [.int (m_World_write (2 : Int32) w).2, .int (1 : Int32), .ref qv]) hx hb hml hown hk (hS2 (0 : Int32) dp ((m_World_write (2 : Int32) w).1) (pG_As hp (by unfold vp_in; decide) (ok_mono (ok_write hp.2.2.2.2) (by decide)))) hK hP hD hS hA hSt hl.1 (va_recv hK hP (ci := 0) (q0 := 0) rfl rfl) d_World_runDeeds_113 kc_World_ask ki_World kl_World_68 kn_World_ask kx_World_ask (n := 2) rfl (by decide +kernel) ⟨Nat.le_refl _, (by show 8 + (3 + 11) + 40 * n ≤ 40 * (n + 1); omega)⟩ rfl rfl (Nat.le_of_ble_eq_true rfl) ⟨Nat.zero_le _, Nat.zero_le _⟩ (fun H locs hP hD hS => ?_)
    have hP : va_P D classes (W4 cI q qn qv qs ((gS (0 : Int32) dp ((m_World_write (2 : Int32) w).1)).1)) H := hP
    have hD : va_D A (W4 cI q qn qv qs ((gS (0 : Int32) dp ((m_World_write (2 : Int32) w).1)).1)) := hD
    refine lv_iadd hx hb d_World_runDeeds_116 ?_
    refine va_iast hx hb hK hP hD hS 2 0 rfl rfl (by unfold vp_in; decide) d_World_runDeeds_117 (fun H locs hP hD hS => ?_)
    have hP : va_P D classes (W4 cI q qn qv qs (sVa ((gS (0 : Int32) dp ((m_World_write (2 : Int32) w).1)).1) (upd ((gVa ((gS (0 : Int32) dp ((m_World_write (2 : Int32) w).1)).1))) (1 : Int32).toNatClampNeg ((m_World_write (2 : Int32) w).2 + (gS (0 : Int32) dp ((m_World_write (2 : Int32) w).1)).2)))) H := hP
    have hD : va_D A (W4 cI q qn qv qs (sVa ((gS (0 : Int32) dp ((m_World_write (2 : Int32) w).1)).1) (upd ((gVa ((gS (0 : Int32) dp ((m_World_write (2 : Int32) w).1)).1))) (1 : Int32).toNatClampNeg ((m_World_write (2 : Int32) w).2 + (gS (0 : Int32) dp ((m_World_write (2 : Int32) w).1)).2)))) := hD
    refine lv_iconst (v := (0 : Int32)) hx hb d_World_runDeeds_118 (by decide) ?_
    obtain ⟨rfl, rfl⟩ : z1 = (sVa ((gS (0 : Int32) dp ((m_World_write (2 : Int32) w).1)).1) (upd ((gVa ((gS (0 : Int32) dp ((m_World_write (2 : Int32) w).1)).1))) (1 : Int32).toNatClampNeg ((m_World_write (2 : Int32) w).2 + (gS (0 : Int32) dp ((m_World_write (2 : Int32) w).1)).2))) ∧ z2 = (0 : Int32) := Prod.mk.inj (hres.symm.trans ((if_neg e_1_0).trans ((if_pos (by rfl)).trans rfl)))
    exact CM_iret hx hb hr hlocks hP hK hD hS d_World_runDeeds_119
  rcases Decidable.em (k = 2) with e_1_2 | e_1_2
  · subst e_1_2
    refine lv_tableIn (tgt := 120) hx hb d_World_runDeeds_1 (by decide) (by decide) rfl (by decide) ?_
    refine lv_aload_n hx hb d_World_runDeeds_120 rfl (lv_at hl 0 rfl) ?_
    refine va_get (D := D) (ci := 0) (v := .ref qv) (C := R_World) (T := F_World) (N := 7) hx hb hk i_World hown hK hP 0 rfl rfl 3 (by decide) (hk _ kl_World_17) (fun _ h9 => h9) rfl d_World_runDeeds_121 ?_
    refine lv_iload_n hx hb d_World_runDeeds_124 rfl (lv_at hl 1 rfl) ?_
    refine lv_aload_n hx hb d_World_runDeeds_125 rfl (lv_at hl 0 rfl) ?_
    refine lv_bipush (v := (6 : Int32)) hx hb d_World_runDeeds_126 (by decide) ?_
    refine CM.callV (wc := W4 cI q qn qv qs w) (wr := []) (b := q) (av := [.int (6 : Int32)]) (rest := [.int (2 : Int32), .ref qv]) hx hb hml hown hk (c_World_write l D cI cW q qn qv qs (6 : Int32) w (ok_mono hp.2.2.2.2 (by decide)) _ _ (pe2 _)) hK hP hD hS hA hSt hl.1 (va_recv hK hP (ci := 0) (q0 := 0) rfl rfl) d_World_runDeeds_128 kc_World_write ki_World kl_World_65 kn_World_write kx_World_write (n := 1) rfl (by decide +kernel) ⟨(by show 0 + 1 ≤ n + 1; have h1 := hp.2.1; have h2 := hp.2.2.1; omega), (by show 8 + (2 + 11) + 0 ≤ 40 * (n + 1); have h1 := hp.2.1; have h2 := hp.2.2.1; omega)⟩ rfl rfl (Nat.le_of_ble_eq_true rfl) ⟨Nat.zero_le _, Nat.zero_le _⟩ (fun H locs hP hD hS => ?_)
    have hP : va_P D classes (W4 cI q qn qv qs ((m_World_write (6 : Int32) w).1)) H := hP
    have hD : va_D A (W4 cI q qn qv qs ((m_World_write (6 : Int32) w).1)) := hD
    refine va_iast hx hb hK hP hD hS 2 0 rfl rfl (by unfold vp_in; decide) d_World_runDeeds_131 (fun H locs hP hD hS => ?_)
    have hP : va_P D classes (W4 cI q qn qv qs (sVa ((m_World_write (6 : Int32) w).1) (upd ((gVa ((m_World_write (6 : Int32) w).1))) (2 : Int32).toNatClampNeg (m_World_write (6 : Int32) w).2))) H := hP
    have hD : va_D A (W4 cI q qn qv qs (sVa ((m_World_write (6 : Int32) w).1) (upd ((gVa ((m_World_write (6 : Int32) w).1))) (2 : Int32).toNatClampNeg (m_World_write (6 : Int32) w).2))) := hD
    refine lv_aload_n hx hb d_World_runDeeds_132 rfl (lv_at hl 0 rfl) ?_
    refine lv_iconst (v := (3 : Int32)) hx hb d_World_runDeeds_133 (by decide) ?_
    refine CM.callV (wc := W4 cI q qn qv qs (sVa ((m_World_write (6 : Int32) w).1) (upd ((gVa ((m_World_write (6 : Int32) w).1))) (2 : Int32).toNatClampNeg (m_World_write (6 : Int32) w).2))) (wr := []) (b := q) (av := [.int (3 : Int32)]) (rest := []) hx hb hml hown hk (c_World_write l D cI cW q qn qv qs (3 : Int32) (sVa ((m_World_write (6 : Int32) w).1) (upd ((gVa ((m_World_write (6 : Int32) w).1))) (2 : Int32).toNatClampNeg (m_World_write (6 : Int32) w).2)) (ok_mono (ok_write hp.2.2.2.2) (by decide)) _ _ (pe2 _)) hK hP hD hS hA hSt hl.1 (va_recv hK hP (ci := 0) (q0 := 0) rfl rfl) d_World_runDeeds_134 kc_World_write ki_World kl_World_65 kn_World_write kx_World_write (n := 1) rfl (by decide +kernel) ⟨(by show 0 + 1 ≤ n + 1; have h1 := hp.2.1; have h2 := hp.2.2.1; omega), (by show 8 + (2 + 11) + 0 ≤ 40 * (n + 1); have h1 := hp.2.1; have h2 := hp.2.2.1; omega)⟩ rfl rfl (Nat.le_of_ble_eq_true rfl) ⟨Nat.zero_le _, Nat.zero_le _⟩ (fun H locs hP hD hS => ?_)
    have hP : va_P D classes (W4 cI q qn qv qs ((m_World_write (3 : Int32) (sVa ((m_World_write (6 : Int32) w).1) (upd ((gVa ((m_World_write (6 : Int32) w).1))) (2 : Int32).toNatClampNeg (m_World_write (6 : Int32) w).2))).1)) H := hP
    have hD : va_D A (W4 cI q qn qv qs ((m_World_write (3 : Int32) (sVa ((m_World_write (6 : Int32) w).1) (upd ((gVa ((m_World_write (6 : Int32) w).1))) (2 : Int32).toNatClampNeg (m_World_write (6 : Int32) w).2))).1)) := hD
    refine lv_pop hx hb d_World_runDeeds_137 rfl ?_
    refine lv_iconst (v := (0 : Int32)) hx hb d_World_runDeeds_138 (by decide) ?_
    obtain ⟨rfl, rfl⟩ : z1 = (m_World_write (3 : Int32) (sVa ((m_World_write (6 : Int32) w).1) (upd ((gVa ((m_World_write (6 : Int32) w).1))) (2 : Int32).toNatClampNeg (m_World_write (6 : Int32) w).2))).1 ∧ z2 = (0 : Int32) := Prod.mk.inj (hres.symm.trans ((if_neg e_1_0).trans ((if_neg e_1_1).trans ((if_pos (by rfl)).trans rfl))))
    exact CM_iret hx hb hr hlocks hP hK hD hS d_World_runDeeds_139
  rcases Decidable.em (k = 3) with e_1_3 | e_1_3
  · subst e_1_3
    refine lv_tableIn (tgt := 258) hx hb d_World_runDeeds_1 (by decide) (by decide) rfl (by decide) ?_
    refine lv_aload_n hx hb d_World_runDeeds_258 rfl (lv_at hl 0 rfl) ?_
    refine va_get (D := D) (ci := 0) (v := .ref qv) (C := R_World) (T := F_World) (N := 7) hx hb hk i_World hown hK hP 0 rfl rfl 3 (by decide) (hk _ kl_World_17) (fun _ h9 => h9) rfl d_World_runDeeds_259 ?_
    refine lv_iload_n hx hb d_World_runDeeds_262 rfl (lv_at hl 1 rfl) ?_
    refine lv_aload_n hx hb d_World_runDeeds_263 rfl (lv_at hl 0 rfl) ?_
    refine lv_iload_n hx hb d_World_runDeeds_264 rfl (lv_at hl 1 rfl) ?_
    refine CM.callS (wc := []) (wr := W4 cI q qn qv qs w) (av := [.int (3 : Int32)]) (rest := [.ref q, .int (3 : Int32), .ref qv]) hx hb hml hown hk (c_World_onlyNote l D cI cW (3 : Int32) _ rfl) hK hP hD hS hA hSt hl.1 d_World_runDeeds_265 kc_World_onlyNote ki_World kl_World_78 ks_World_onlyNote (n := 1) rfl (by decide +kernel) ⟨(by show 0 + 1 ≤ n + 1; have h1 := hp.2.1; have h2 := hp.2.2.1; omega), (by show 8 + (1 + 11) + 0 ≤ 40 * (n + 1); have h1 := hp.2.1; have h2 := hp.2.2.1; omega)⟩ rfl rfl (Nat.le_of_ble_eq_true rfl) ⟨Nat.zero_le _, Nat.zero_le _⟩ (fun H locs hP hD hS => ?_)
    have hP : va_P D classes (W4 cI q qn qv qs w) H := hP
    have hD : va_D A (W4 cI q qn qv qs w) := hD
    refine CM.callV (wc := W4 cI q qn qv qs w) (wr := []) (b := q) (av := [.int (m_World_onlyNote (3 : Int32))]) (rest := [.int (3 : Int32), .ref qv]) hx hb hml hown hk (c_World_write l D cI cW q qn qv qs (m_World_onlyNote (3 : Int32)) w (ok_mono hp.2.2.2.2 (by decide)) _ _ (pe2 _)) hK hP hD hS hA hSt hl.1 (va_recv hK hP (ci := 0) (q0 := 0) rfl rfl) d_World_runDeeds_268 kc_World_write ki_World kl_World_65 kn_World_write kx_World_write (n := 1) rfl (by decide +kernel) ⟨(by show 0 + 1 ≤ n + 1; have h1 := hp.2.1; have h2 := hp.2.2.1; omega), (by show 8 + (2 + 11) + 0 ≤ 40 * (n + 1); have h1 := hp.2.1; have h2 := hp.2.2.1; omega)⟩ rfl rfl (Nat.le_of_ble_eq_true rfl) ⟨Nat.zero_le _, Nat.zero_le _⟩ (fun H locs hP hD hS => ?_)
    have hP : va_P D classes (W4 cI q qn qv qs ((m_World_write (m_World_onlyNote (3 : Int32)) w).1)) H := hP
    have hD : va_D A (W4 cI q qn qv qs ((m_World_write (m_World_onlyNote (3 : Int32)) w).1)) := hD
    refine va_iast hx hb hK hP hD hS 2 0 rfl rfl (by unfold vp_in; decide) d_World_runDeeds_271 (fun H locs hP hD hS => ?_)
    have hP : va_P D classes (W4 cI q qn qv qs (sVa ((m_World_write (m_World_onlyNote (3 : Int32)) w).1) (upd ((gVa ((m_World_write (m_World_onlyNote (3 : Int32)) w).1))) (3 : Int32).toNatClampNeg (m_World_write (m_World_onlyNote (3 : Int32)) w).2))) H := hP
    have hD : va_D A (W4 cI q qn qv qs (sVa ((m_World_write (m_World_onlyNote (3 : Int32)) w).1) (upd ((gVa ((m_World_write (m_World_onlyNote (3 : Int32)) w).1))) (3 : Int32).toNatClampNeg (m_World_write (m_World_onlyNote (3 : Int32)) w).2))) := hD
    refine lv_iconst (v := (0 : Int32)) hx hb d_World_runDeeds_272 (by decide) ?_
    obtain ⟨rfl, rfl⟩ : z1 = (sVa ((m_World_write (m_World_onlyNote (3 : Int32)) w).1) (upd ((gVa ((m_World_write (m_World_onlyNote (3 : Int32)) w).1))) (3 : Int32).toNatClampNeg (m_World_write (m_World_onlyNote (3 : Int32)) w).2)) ∧ z2 = (0 : Int32) := Prod.mk.inj (hres.symm.trans ((if_neg e_1_0).trans ((if_neg e_1_1).trans ((if_neg e_1_2).trans ((if_pos (by rfl)).trans rfl)))))
    exact CM_iret hx hb hr hlocks hP hK hD hS d_World_runDeeds_273
  rcases Decidable.em (k = 4) with e_1_4 | e_1_4
  · subst e_1_4
    refine lv_tableIn (tgt := 258) hx hb d_World_runDeeds_1 (by decide) (by decide) rfl (by decide) ?_
    refine lv_aload_n hx hb d_World_runDeeds_258 rfl (lv_at hl 0 rfl) ?_
    refine va_get (D := D) (ci := 0) (v := .ref qv) (C := R_World) (T := F_World) (N := 7) hx hb hk i_World hown hK hP 0 rfl rfl 3 (by decide) (hk _ kl_World_17) (fun _ h9 => h9) rfl d_World_runDeeds_259 ?_
    refine lv_iload_n hx hb d_World_runDeeds_262 rfl (lv_at hl 1 rfl) ?_
    refine lv_aload_n hx hb d_World_runDeeds_263 rfl (lv_at hl 0 rfl) ?_
    refine lv_iload_n hx hb d_World_runDeeds_264 rfl (lv_at hl 1 rfl) ?_
    refine CM.callS (wc := []) (wr := W4 cI q qn qv qs w) (av := [.int (4 : Int32)]) (rest := [.ref q, .int (4 : Int32), .ref qv]) hx hb hml hown hk (c_World_onlyNote l D cI cW (4 : Int32) _ rfl) hK hP hD hS hA hSt hl.1 d_World_runDeeds_265 kc_World_onlyNote ki_World kl_World_78 ks_World_onlyNote (n := 1) rfl (by decide +kernel) ⟨(by show 0 + 1 ≤ n + 1; have h1 := hp.2.1; have h2 := hp.2.2.1; omega), (by show 8 + (1 + 11) + 0 ≤ 40 * (n + 1); have h1 := hp.2.1; have h2 := hp.2.2.1; omega)⟩ rfl rfl (Nat.le_of_ble_eq_true rfl) ⟨Nat.zero_le _, Nat.zero_le _⟩ (fun H locs hP hD hS => ?_)
    have hP : va_P D classes (W4 cI q qn qv qs w) H := hP
    have hD : va_D A (W4 cI q qn qv qs w) := hD
    refine CM.callV (wc := W4 cI q qn qv qs w) (wr := []) (b := q) (av := [.int (m_World_onlyNote (4 : Int32))]) (rest := [.int (4 : Int32), .ref qv]) hx hb hml hown hk (c_World_write l D cI cW q qn qv qs (m_World_onlyNote (4 : Int32)) w (ok_mono hp.2.2.2.2 (by decide)) _ _ (pe2 _)) hK hP hD hS hA hSt hl.1 (va_recv hK hP (ci := 0) (q0 := 0) rfl rfl) d_World_runDeeds_268 kc_World_write ki_World kl_World_65 kn_World_write kx_World_write (n := 1) rfl (by decide +kernel) ⟨(by show 0 + 1 ≤ n + 1; have h1 := hp.2.1; have h2 := hp.2.2.1; omega), (by show 8 + (2 + 11) + 0 ≤ 40 * (n + 1); have h1 := hp.2.1; have h2 := hp.2.2.1; omega)⟩ rfl rfl (Nat.le_of_ble_eq_true rfl) ⟨Nat.zero_le _, Nat.zero_le _⟩ (fun H locs hP hD hS => ?_)
    have hP : va_P D classes (W4 cI q qn qv qs ((m_World_write (m_World_onlyNote (4 : Int32)) w).1)) H := hP
    have hD : va_D A (W4 cI q qn qv qs ((m_World_write (m_World_onlyNote (4 : Int32)) w).1)) := hD
    refine va_iast hx hb hK hP hD hS 2 0 rfl rfl (by unfold vp_in; decide) d_World_runDeeds_271 (fun H locs hP hD hS => ?_)
    have hP : va_P D classes (W4 cI q qn qv qs (sVa ((m_World_write (m_World_onlyNote (4 : Int32)) w).1) (upd ((gVa ((m_World_write (m_World_onlyNote (4 : Int32)) w).1))) (4 : Int32).toNatClampNeg (m_World_write (m_World_onlyNote (4 : Int32)) w).2))) H := hP
    have hD : va_D A (W4 cI q qn qv qs (sVa ((m_World_write (m_World_onlyNote (4 : Int32)) w).1) (upd ((gVa ((m_World_write (m_World_onlyNote (4 : Int32)) w).1))) (4 : Int32).toNatClampNeg (m_World_write (m_World_onlyNote (4 : Int32)) w).2))) := hD
    refine lv_iconst (v := (0 : Int32)) hx hb d_World_runDeeds_272 (by decide) ?_
    obtain ⟨rfl, rfl⟩ : z1 = (sVa ((m_World_write (m_World_onlyNote (4 : Int32)) w).1) (upd ((gVa ((m_World_write (m_World_onlyNote (4 : Int32)) w).1))) (4 : Int32).toNatClampNeg (m_World_write (m_World_onlyNote (4 : Int32)) w).2)) ∧ z2 = (0 : Int32) := Prod.mk.inj (hres.symm.trans ((if_neg e_1_0).trans ((if_neg e_1_1).trans ((if_neg e_1_2).trans ((if_neg e_1_3).trans ((if_pos (by rfl)).trans rfl))))))
    exact CM_iret hx hb hr hlocks hP hK hD hS d_World_runDeeds_273
  rcases Decidable.em (k = 5) with e_1_5 | e_1_5
  · subst e_1_5
    refine lv_tableIn (tgt := 258) hx hb d_World_runDeeds_1 (by decide) (by decide) rfl (by decide) ?_
    refine lv_aload_n hx hb d_World_runDeeds_258 rfl (lv_at hl 0 rfl) ?_
    refine va_get (D := D) (ci := 0) (v := .ref qv) (C := R_World) (T := F_World) (N := 7) hx hb hk i_World hown hK hP 0 rfl rfl 3 (by decide) (hk _ kl_World_17) (fun _ h9 => h9) rfl d_World_runDeeds_259 ?_
    refine lv_iload_n hx hb d_World_runDeeds_262 rfl (lv_at hl 1 rfl) ?_
    refine lv_aload_n hx hb d_World_runDeeds_263 rfl (lv_at hl 0 rfl) ?_
    refine lv_iload_n hx hb d_World_runDeeds_264 rfl (lv_at hl 1 rfl) ?_
    refine CM.callS (wc := []) (wr := W4 cI q qn qv qs w) (av := [.int (5 : Int32)]) (rest := [.ref q, .int (5 : Int32), .ref qv]) hx hb hml hown hk (c_World_onlyNote l D cI cW (5 : Int32) _ rfl) hK hP hD hS hA hSt hl.1 d_World_runDeeds_265 kc_World_onlyNote ki_World kl_World_78 ks_World_onlyNote (n := 1) rfl (by decide +kernel) ⟨(by show 0 + 1 ≤ n + 1; have h1 := hp.2.1; have h2 := hp.2.2.1; omega), (by show 8 + (1 + 11) + 0 ≤ 40 * (n + 1); have h1 := hp.2.1; have h2 := hp.2.2.1; omega)⟩ rfl rfl (Nat.le_of_ble_eq_true rfl) ⟨Nat.zero_le _, Nat.zero_le _⟩ (fun H locs hP hD hS => ?_)
    have hP : va_P D classes (W4 cI q qn qv qs w) H := hP
    have hD : va_D A (W4 cI q qn qv qs w) := hD
    refine CM.callV (wc := W4 cI q qn qv qs w) (wr := []) (b := q) (av := [.int (m_World_onlyNote (5 : Int32))]) (rest := [.int (5 : Int32), .ref qv]) hx hb hml hown hk (c_World_write l D cI cW q qn qv qs (m_World_onlyNote (5 : Int32)) w (ok_mono hp.2.2.2.2 (by decide)) _ _ (pe2 _)) hK hP hD hS hA hSt hl.1 (va_recv hK hP (ci := 0) (q0 := 0) rfl rfl) d_World_runDeeds_268 kc_World_write ki_World kl_World_65 kn_World_write kx_World_write (n := 1) rfl (by decide +kernel) ⟨(by show 0 + 1 ≤ n + 1; have h1 := hp.2.1; have h2 := hp.2.2.1; omega), (by show 8 + (2 + 11) + 0 ≤ 40 * (n + 1); have h1 := hp.2.1; have h2 := hp.2.2.1; omega)⟩ rfl rfl (Nat.le_of_ble_eq_true rfl) ⟨Nat.zero_le _, Nat.zero_le _⟩ (fun H locs hP hD hS => ?_)
    have hP : va_P D classes (W4 cI q qn qv qs ((m_World_write (m_World_onlyNote (5 : Int32)) w).1)) H := hP
    have hD : va_D A (W4 cI q qn qv qs ((m_World_write (m_World_onlyNote (5 : Int32)) w).1)) := hD
    refine va_iast hx hb hK hP hD hS 2 0 rfl rfl (by unfold vp_in; decide) d_World_runDeeds_271 (fun H locs hP hD hS => ?_)
    have hP : va_P D classes (W4 cI q qn qv qs (sVa ((m_World_write (m_World_onlyNote (5 : Int32)) w).1) (upd ((gVa ((m_World_write (m_World_onlyNote (5 : Int32)) w).1))) (5 : Int32).toNatClampNeg (m_World_write (m_World_onlyNote (5 : Int32)) w).2))) H := hP
    have hD : va_D A (W4 cI q qn qv qs (sVa ((m_World_write (m_World_onlyNote (5 : Int32)) w).1) (upd ((gVa ((m_World_write (m_World_onlyNote (5 : Int32)) w).1))) (5 : Int32).toNatClampNeg (m_World_write (m_World_onlyNote (5 : Int32)) w).2))) := hD
    refine lv_iconst (v := (0 : Int32)) hx hb d_World_runDeeds_272 (by decide) ?_
    obtain ⟨rfl, rfl⟩ : z1 = (sVa ((m_World_write (m_World_onlyNote (5 : Int32)) w).1) (upd ((gVa ((m_World_write (m_World_onlyNote (5 : Int32)) w).1))) (5 : Int32).toNatClampNeg (m_World_write (m_World_onlyNote (5 : Int32)) w).2)) ∧ z2 = (0 : Int32) := Prod.mk.inj (hres.symm.trans ((if_neg e_1_0).trans ((if_neg e_1_1).trans ((if_neg e_1_2).trans ((if_neg e_1_3).trans ((if_neg e_1_4).trans ((if_pos (by rfl)).trans rfl)))))))
    exact CM_iret hx hb hr hlocks hP hK hD hS d_World_runDeeds_273
  rcases Decidable.em (k = 6) with e_1_6 | e_1_6
  · subst e_1_6
    refine lv_tableIn (tgt := 258) hx hb d_World_runDeeds_1 (by decide) (by decide) rfl (by decide) ?_
    refine lv_aload_n hx hb d_World_runDeeds_258 rfl (lv_at hl 0 rfl) ?_
    refine va_get (D := D) (ci := 0) (v := .ref qv) (C := R_World) (T := F_World) (N := 7) hx hb hk i_World hown hK hP 0 rfl rfl 3 (by decide) (hk _ kl_World_17) (fun _ h9 => h9) rfl d_World_runDeeds_259 ?_
    refine lv_iload_n hx hb d_World_runDeeds_262 rfl (lv_at hl 1 rfl) ?_
    refine lv_aload_n hx hb d_World_runDeeds_263 rfl (lv_at hl 0 rfl) ?_
    refine lv_iload_n hx hb d_World_runDeeds_264 rfl (lv_at hl 1 rfl) ?_
    refine CM.callS (wc := []) (wr := W4 cI q qn qv qs w) (av := [.int (6 : Int32)]) (rest := [.ref q, .int (6 : Int32), .ref qv]) hx hb hml hown hk (c_World_onlyNote l D cI cW (6 : Int32) _ rfl) hK hP hD hS hA hSt hl.1 d_World_runDeeds_265 kc_World_onlyNote ki_World kl_World_78 ks_World_onlyNote (n := 1) rfl (by decide +kernel) ⟨(by show 0 + 1 ≤ n + 1; have h1 := hp.2.1; have h2 := hp.2.2.1; omega), (by show 8 + (1 + 11) + 0 ≤ 40 * (n + 1); have h1 := hp.2.1; have h2 := hp.2.2.1; omega)⟩ rfl rfl (Nat.le_of_ble_eq_true rfl) ⟨Nat.zero_le _, Nat.zero_le _⟩ (fun H locs hP hD hS => ?_)
    have hP : va_P D classes (W4 cI q qn qv qs w) H := hP
    have hD : va_D A (W4 cI q qn qv qs w) := hD
    refine CM.callV (wc := W4 cI q qn qv qs w) (wr := []) (b := q) (av := [.int (m_World_onlyNote (6 : Int32))]) (rest := [.int (6 : Int32), .ref qv]) hx hb hml hown hk (c_World_write l D cI cW q qn qv qs (m_World_onlyNote (6 : Int32)) w (ok_mono hp.2.2.2.2 (by decide)) _ _ (pe2 _)) hK hP hD hS hA hSt hl.1 (va_recv hK hP (ci := 0) (q0 := 0) rfl rfl) d_World_runDeeds_268 kc_World_write ki_World kl_World_65 kn_World_write kx_World_write (n := 1) rfl (by decide +kernel) ⟨(by show 0 + 1 ≤ n + 1; have h1 := hp.2.1; have h2 := hp.2.2.1; omega), (by show 8 + (2 + 11) + 0 ≤ 40 * (n + 1); have h1 := hp.2.1; have h2 := hp.2.2.1; omega)⟩ rfl rfl (Nat.le_of_ble_eq_true rfl) ⟨Nat.zero_le _, Nat.zero_le _⟩ (fun H locs hP hD hS => ?_)
    have hP : va_P D classes (W4 cI q qn qv qs ((m_World_write (m_World_onlyNote (6 : Int32)) w).1)) H := hP
    have hD : va_D A (W4 cI q qn qv qs ((m_World_write (m_World_onlyNote (6 : Int32)) w).1)) := hD
    refine va_iast hx hb hK hP hD hS 2 0 rfl rfl (by unfold vp_in; decide) d_World_runDeeds_271 (fun H locs hP hD hS => ?_)
    have hP : va_P D classes (W4 cI q qn qv qs (sVa ((m_World_write (m_World_onlyNote (6 : Int32)) w).1) (upd ((gVa ((m_World_write (m_World_onlyNote (6 : Int32)) w).1))) (6 : Int32).toNatClampNeg (m_World_write (m_World_onlyNote (6 : Int32)) w).2))) H := hP
    have hD : va_D A (W4 cI q qn qv qs (sVa ((m_World_write (m_World_onlyNote (6 : Int32)) w).1) (upd ((gVa ((m_World_write (m_World_onlyNote (6 : Int32)) w).1))) (6 : Int32).toNatClampNeg (m_World_write (m_World_onlyNote (6 : Int32)) w).2))) := hD
    refine lv_iconst (v := (0 : Int32)) hx hb d_World_runDeeds_272 (by decide) ?_
    obtain ⟨rfl, rfl⟩ : z1 = (sVa ((m_World_write (m_World_onlyNote (6 : Int32)) w).1) (upd ((gVa ((m_World_write (m_World_onlyNote (6 : Int32)) w).1))) (6 : Int32).toNatClampNeg (m_World_write (m_World_onlyNote (6 : Int32)) w).2)) ∧ z2 = (0 : Int32) := Prod.mk.inj (hres.symm.trans ((if_neg e_1_0).trans ((if_neg e_1_1).trans ((if_neg e_1_2).trans ((if_neg e_1_3).trans ((if_neg e_1_4).trans ((if_neg e_1_5).trans ((if_pos (by rfl)).trans rfl))))))))
    exact CM_iret hx hb hr hlocks hP hK hD hS d_World_runDeeds_273
  rcases Decidable.em (k = 7) with e_1_7 | e_1_7
  · subst e_1_7
    refine lv_tableIn (tgt := 258) hx hb d_World_runDeeds_1 (by decide) (by decide) rfl (by decide) ?_
    refine lv_aload_n hx hb d_World_runDeeds_258 rfl (lv_at hl 0 rfl) ?_
    refine va_get (D := D) (ci := 0) (v := .ref qv) (C := R_World) (T := F_World) (N := 7) hx hb hk i_World hown hK hP 0 rfl rfl 3 (by decide) (hk _ kl_World_17) (fun _ h9 => h9) rfl d_World_runDeeds_259 ?_
    refine lv_iload_n hx hb d_World_runDeeds_262 rfl (lv_at hl 1 rfl) ?_
    refine lv_aload_n hx hb d_World_runDeeds_263 rfl (lv_at hl 0 rfl) ?_
    refine lv_iload_n hx hb d_World_runDeeds_264 rfl (lv_at hl 1 rfl) ?_
    refine CM.callS (wc := []) (wr := W4 cI q qn qv qs w) (av := [.int (7 : Int32)]) (rest := [.ref q, .int (7 : Int32), .ref qv]) hx hb hml hown hk (c_World_onlyNote l D cI cW (7 : Int32) _ rfl) hK hP hD hS hA hSt hl.1 d_World_runDeeds_265 kc_World_onlyNote ki_World kl_World_78 ks_World_onlyNote (n := 1) rfl (by decide +kernel) ⟨(by show 0 + 1 ≤ n + 1; have h1 := hp.2.1; have h2 := hp.2.2.1; omega), (by show 8 + (1 + 11) + 0 ≤ 40 * (n + 1); have h1 := hp.2.1; have h2 := hp.2.2.1; omega)⟩ rfl rfl (Nat.le_of_ble_eq_true rfl) ⟨Nat.zero_le _, Nat.zero_le _⟩ (fun H locs hP hD hS => ?_)
    have hP : va_P D classes (W4 cI q qn qv qs w) H := hP
    have hD : va_D A (W4 cI q qn qv qs w) := hD
    refine CM.callV (wc := W4 cI q qn qv qs w) (wr := []) (b := q) (av := [.int (m_World_onlyNote (7 : Int32))]) (rest := [.int (7 : Int32), .ref qv]) hx hb hml hown hk (c_World_write l D cI cW q qn qv qs (m_World_onlyNote (7 : Int32)) w (ok_mono hp.2.2.2.2 (by decide)) _ _ (pe2 _)) hK hP hD hS hA hSt hl.1 (va_recv hK hP (ci := 0) (q0 := 0) rfl rfl) d_World_runDeeds_268 kc_World_write ki_World kl_World_65 kn_World_write kx_World_write (n := 1) rfl (by decide +kernel) ⟨(by show 0 + 1 ≤ n + 1; have h1 := hp.2.1; have h2 := hp.2.2.1; omega), (by show 8 + (2 + 11) + 0 ≤ 40 * (n + 1); have h1 := hp.2.1; have h2 := hp.2.2.1; omega)⟩ rfl rfl (Nat.le_of_ble_eq_true rfl) ⟨Nat.zero_le _, Nat.zero_le _⟩ (fun H locs hP hD hS => ?_)
    have hP : va_P D classes (W4 cI q qn qv qs ((m_World_write (m_World_onlyNote (7 : Int32)) w).1)) H := hP
    have hD : va_D A (W4 cI q qn qv qs ((m_World_write (m_World_onlyNote (7 : Int32)) w).1)) := hD
    refine va_iast hx hb hK hP hD hS 2 0 rfl rfl (by unfold vp_in; decide) d_World_runDeeds_271 (fun H locs hP hD hS => ?_)
    have hP : va_P D classes (W4 cI q qn qv qs (sVa ((m_World_write (m_World_onlyNote (7 : Int32)) w).1) (upd ((gVa ((m_World_write (m_World_onlyNote (7 : Int32)) w).1))) (7 : Int32).toNatClampNeg (m_World_write (m_World_onlyNote (7 : Int32)) w).2))) H := hP
    have hD : va_D A (W4 cI q qn qv qs (sVa ((m_World_write (m_World_onlyNote (7 : Int32)) w).1) (upd ((gVa ((m_World_write (m_World_onlyNote (7 : Int32)) w).1))) (7 : Int32).toNatClampNeg (m_World_write (m_World_onlyNote (7 : Int32)) w).2))) := hD
    refine lv_iconst (v := (0 : Int32)) hx hb d_World_runDeeds_272 (by decide) ?_
    obtain ⟨rfl, rfl⟩ : z1 = (sVa ((m_World_write (m_World_onlyNote (7 : Int32)) w).1) (upd ((gVa ((m_World_write (m_World_onlyNote (7 : Int32)) w).1))) (7 : Int32).toNatClampNeg (m_World_write (m_World_onlyNote (7 : Int32)) w).2)) ∧ z2 = (0 : Int32) := Prod.mk.inj (hres.symm.trans ((if_neg e_1_0).trans ((if_neg e_1_1).trans ((if_neg e_1_2).trans ((if_neg e_1_3).trans ((if_neg e_1_4).trans ((if_neg e_1_5).trans ((if_neg e_1_6).trans ((if_pos (by rfl)).trans rfl)))))))))
    exact CM_iret hx hb hr hlocks hP hK hD hS d_World_runDeeds_273
  rcases Decidable.em (k = 8) with e_1_8 | e_1_8
  · subst e_1_8
    refine lv_tableIn (tgt := 140) hx hb d_World_runDeeds_1 (by decide) (by decide) rfl (by decide) ?_
    refine lv_aload_n hx hb d_World_runDeeds_140 rfl (lv_at hl 0 rfl) ?_
    refine va_get (D := D) (ci := 0) (v := .ref qv) (C := R_World) (T := F_World) (N := 7) hx hb hk i_World hown hK hP 0 rfl rfl 3 (by decide) (hk _ kl_World_17) (fun _ h9 => h9) rfl d_World_runDeeds_141 ?_
    refine lv_iload_n hx hb d_World_runDeeds_144 rfl (lv_at hl 1 rfl) ?_
    refine lv_aload_n hx hb d_World_runDeeds_145 rfl (lv_at hl 0 rfl) ?_
    refine lv_bipush (v := (7 : Int32)) hx hb d_World_runDeeds_146 (by decide) ?_
    refine CM.callV (wc := W4 cI q qn qv qs w) (wr := []) (b := q) (av := [.int (7 : Int32)]) (rest := [.int (8 : Int32), .ref qv]) hx hb hml hown hk (c_World_write l D cI cW q qn qv qs (7 : Int32) w (ok_mono hp.2.2.2.2 (by decide)) _ _ (pe2 _)) hK hP hD hS hA hSt hl.1 (va_recv hK hP (ci := 0) (q0 := 0) rfl rfl) d_World_runDeeds_148 kc_World_write ki_World kl_World_65 kn_World_write kx_World_write (n := 1) rfl (by decide +kernel) ⟨(by show 0 + 1 ≤ n + 1; have h1 := hp.2.1; have h2 := hp.2.2.1; omega), (by show 8 + (2 + 11) + 0 ≤ 40 * (n + 1); have h1 := hp.2.1; have h2 := hp.2.2.1; omega)⟩ rfl rfl (Nat.le_of_ble_eq_true rfl) ⟨Nat.zero_le _, Nat.zero_le _⟩ (fun H locs hP hD hS => ?_)
    have hP : va_P D classes (W4 cI q qn qv qs ((m_World_write (7 : Int32) w).1)) H := hP
    have hD : va_D A (W4 cI q qn qv qs ((m_World_write (7 : Int32) w).1)) := hD
    refine va_iast hx hb hK hP hD hS 2 0 rfl rfl (by unfold vp_in; decide) d_World_runDeeds_151 (fun H locs hP hD hS => ?_)
    have hP : va_P D classes (W4 cI q qn qv qs (sVa ((m_World_write (7 : Int32) w).1) (upd ((gVa ((m_World_write (7 : Int32) w).1))) (8 : Int32).toNatClampNeg (m_World_write (7 : Int32) w).2))) H := hP
    have hD : va_D A (W4 cI q qn qv qs (sVa ((m_World_write (7 : Int32) w).1) (upd ((gVa ((m_World_write (7 : Int32) w).1))) (8 : Int32).toNatClampNeg (m_World_write (7 : Int32) w).2))) := hD
    refine lv_bipush (v := (-101 : Int32)) hx hb d_World_runDeeds_152 (by decide) ?_
    obtain ⟨rfl, rfl⟩ : z1 = (sVa ((m_World_write (7 : Int32) w).1) (upd ((gVa ((m_World_write (7 : Int32) w).1))) (8 : Int32).toNatClampNeg (m_World_write (7 : Int32) w).2)) ∧ z2 = (-101 : Int32) := Prod.mk.inj (hres.symm.trans ((if_neg e_1_0).trans ((if_neg e_1_1).trans ((if_neg e_1_2).trans ((if_neg e_1_3).trans ((if_neg e_1_4).trans ((if_neg e_1_5).trans ((if_neg e_1_6).trans ((if_neg e_1_7).trans ((if_pos (by rfl)).trans rfl))))))))))
    exact CM_iret hx hb hr hlocks hP hK hD hS d_World_runDeeds_154
  rcases Decidable.em (k = 9) with e_1_9 | e_1_9
  · subst e_1_9
    refine lv_tableIn (tgt := 258) hx hb d_World_runDeeds_1 (by decide) (by decide) rfl (by decide) ?_
    refine lv_aload_n hx hb d_World_runDeeds_258 rfl (lv_at hl 0 rfl) ?_
    refine va_get (D := D) (ci := 0) (v := .ref qv) (C := R_World) (T := F_World) (N := 7) hx hb hk i_World hown hK hP 0 rfl rfl 3 (by decide) (hk _ kl_World_17) (fun _ h9 => h9) rfl d_World_runDeeds_259 ?_
    refine lv_iload_n hx hb d_World_runDeeds_262 rfl (lv_at hl 1 rfl) ?_
    refine lv_aload_n hx hb d_World_runDeeds_263 rfl (lv_at hl 0 rfl) ?_
    refine lv_iload_n hx hb d_World_runDeeds_264 rfl (lv_at hl 1 rfl) ?_
    refine CM.callS (wc := []) (wr := W4 cI q qn qv qs w) (av := [.int (9 : Int32)]) (rest := [.ref q, .int (9 : Int32), .ref qv]) hx hb hml hown hk (c_World_onlyNote l D cI cW (9 : Int32) _ rfl) hK hP hD hS hA hSt hl.1 d_World_runDeeds_265 kc_World_onlyNote ki_World kl_World_78 ks_World_onlyNote (n := 1) rfl (by decide +kernel) ⟨(by show 0 + 1 ≤ n + 1; have h1 := hp.2.1; have h2 := hp.2.2.1; omega), (by show 8 + (1 + 11) + 0 ≤ 40 * (n + 1); have h1 := hp.2.1; have h2 := hp.2.2.1; omega)⟩ rfl rfl (Nat.le_of_ble_eq_true rfl) ⟨Nat.zero_le _, Nat.zero_le _⟩ (fun H locs hP hD hS => ?_)
    have hP : va_P D classes (W4 cI q qn qv qs w) H := hP
    have hD : va_D A (W4 cI q qn qv qs w) := hD
    refine CM.callV (wc := W4 cI q qn qv qs w) (wr := []) (b := q) (av := [.int (m_World_onlyNote (9 : Int32))]) (rest := [.int (9 : Int32), .ref qv]) hx hb hml hown hk (c_World_write l D cI cW q qn qv qs (m_World_onlyNote (9 : Int32)) w (ok_mono hp.2.2.2.2 (by decide)) _ _ (pe2 _)) hK hP hD hS hA hSt hl.1 (va_recv hK hP (ci := 0) (q0 := 0) rfl rfl) d_World_runDeeds_268 kc_World_write ki_World kl_World_65 kn_World_write kx_World_write (n := 1) rfl (by decide +kernel) ⟨(by show 0 + 1 ≤ n + 1; have h1 := hp.2.1; have h2 := hp.2.2.1; omega), (by show 8 + (2 + 11) + 0 ≤ 40 * (n + 1); have h1 := hp.2.1; have h2 := hp.2.2.1; omega)⟩ rfl rfl (Nat.le_of_ble_eq_true rfl) ⟨Nat.zero_le _, Nat.zero_le _⟩ (fun H locs hP hD hS => ?_)
    have hP : va_P D classes (W4 cI q qn qv qs ((m_World_write (m_World_onlyNote (9 : Int32)) w).1)) H := hP
    have hD : va_D A (W4 cI q qn qv qs ((m_World_write (m_World_onlyNote (9 : Int32)) w).1)) := hD
    refine va_iast hx hb hK hP hD hS 2 0 rfl rfl (by unfold vp_in; decide) d_World_runDeeds_271 (fun H locs hP hD hS => ?_)
    have hP : va_P D classes (W4 cI q qn qv qs (sVa ((m_World_write (m_World_onlyNote (9 : Int32)) w).1) (upd ((gVa ((m_World_write (m_World_onlyNote (9 : Int32)) w).1))) (9 : Int32).toNatClampNeg (m_World_write (m_World_onlyNote (9 : Int32)) w).2))) H := hP
    have hD : va_D A (W4 cI q qn qv qs (sVa ((m_World_write (m_World_onlyNote (9 : Int32)) w).1) (upd ((gVa ((m_World_write (m_World_onlyNote (9 : Int32)) w).1))) (9 : Int32).toNatClampNeg (m_World_write (m_World_onlyNote (9 : Int32)) w).2))) := hD
    refine lv_iconst (v := (0 : Int32)) hx hb d_World_runDeeds_272 (by decide) ?_
    obtain ⟨rfl, rfl⟩ : z1 = (sVa ((m_World_write (m_World_onlyNote (9 : Int32)) w).1) (upd ((gVa ((m_World_write (m_World_onlyNote (9 : Int32)) w).1))) (9 : Int32).toNatClampNeg (m_World_write (m_World_onlyNote (9 : Int32)) w).2)) ∧ z2 = (0 : Int32) := Prod.mk.inj (hres.symm.trans ((if_neg e_1_0).trans ((if_neg e_1_1).trans ((if_neg e_1_2).trans ((if_neg e_1_3).trans ((if_neg e_1_4).trans ((if_neg e_1_5).trans ((if_neg e_1_6).trans ((if_neg e_1_7).trans ((if_neg e_1_8).trans ((if_pos (by rfl)).trans rfl)))))))))))
    exact CM_iret hx hb hr hlocks hP hK hD hS d_World_runDeeds_273
  rcases Decidable.em (k = 10) with e_1_10 | e_1_10
  · subst e_1_10
    refine lv_tableIn (tgt := 155) hx hb d_World_runDeeds_1 (by decide) (by decide) rfl (by decide) ?_
    refine lv_aload_n hx hb d_World_runDeeds_155 rfl (lv_at hl 0 rfl) ?_
    refine va_get (D := D) (ci := 0) (v := .ref qv) (C := R_World) (T := F_World) (N := 7) hx hb hk i_World hown hK hP 0 rfl rfl 3 (by decide) (hk _ kl_World_17) (fun _ h9 => h9) rfl d_World_runDeeds_156 ?_
    refine lv_iload_n hx hb d_World_runDeeds_159 rfl (lv_at hl 1 rfl) ?_
    refine lv_aload_n hx hb d_World_runDeeds_160 rfl (lv_at hl 0 rfl) ?_
    refine lv_bipush (v := (11 : Int32)) hx hb d_World_runDeeds_161 (by decide) ?_
    refine lv_iload_n hx hb d_World_runDeeds_163 rfl (lv_at hl 2 rfl) ?_
    refine CM.callV (wc := W4 cI q qn qv qs w) (wr := []) (b := q) (av := [.int (11 : Int32), .int dp]) (rest := [.int (10 : Int32), .ref qv]) hx hb hml hown hk (hS2 (11 : Int32) dp w (pG_As hp (by unfold vp_in; decide) (ok_mono hp.2.2.2.2 (by decide)))) hK hP hD hS hA hSt hl.1 (va_recv hK hP (ci := 0) (q0 := 0) rfl rfl) d_World_runDeeds_164 kc_World_ask ki_World kl_World_68 kn_World_ask kx_World_ask (n := 2) rfl (by decide +kernel) ⟨Nat.le_refl _, (by show 8 + (3 + 11) + 40 * n ≤ 40 * (n + 1); omega)⟩ rfl rfl (Nat.le_of_ble_eq_true rfl) ⟨Nat.zero_le _, Nat.zero_le _⟩ (fun H locs hP hD hS => ?_)
    have hP : va_P D classes (W4 cI q qn qv qs ((gS (11 : Int32) dp w).1)) H := hP
    have hD : va_D A (W4 cI q qn qv qs ((gS (11 : Int32) dp w).1)) := hD
    refine lv_aload_n hx hb d_World_runDeeds_167 rfl (lv_at hl 0 rfl) ?_
    refine lv_bipush (v := (30 : Int32)) hx hb d_World_runDeeds_168 (by decide) ?_
    refine CM.callV (wc := W4 cI q qn qv qs ((gS (11 : Int32) dp w).1)) (wr := []) (b := q) (av := [.int (30 : Int32)]) (rest := [.int (gS (11 : Int32) dp w).2, .int (10 : Int32), .ref qv]) hx hb hml hown hk (c_World_write l D cI cW q qn qv qs (30 : Int32) ((gS (11 : Int32) dp w).1) (ok_mono (okS (11 : Int32) dp w _ hp.2.2.2.2) (by decide)) _ _ (pe2 _)) hK hP hD hS hA hSt hl.1 (va_recv hK hP (ci := 0) (q0 := 0) rfl rfl) d_World_runDeeds_170 kc_World_write ki_World kl_World_65 kn_World_write kx_World_write (n := 1) rfl (by decide +kernel) ⟨(by show 0 + 1 ≤ n + 1; have h1 := hp.2.1; have h2 := hp.2.2.1; omega), (by show 8 + (2 + 11) + 0 ≤ 40 * (n + 1); have h1 := hp.2.1; have h2 := hp.2.2.1; omega)⟩ rfl rfl (Nat.le_of_ble_eq_true rfl) ⟨Nat.zero_le _, Nat.zero_le _⟩ (fun H locs hP hD hS => ?_)
    have hP : va_P D classes (W4 cI q qn qv qs ((m_World_write (30 : Int32) ((gS (11 : Int32) dp w).1)).1)) H := hP
    have hD : va_D A (W4 cI q qn qv qs ((m_World_write (30 : Int32) ((gS (11 : Int32) dp w).1)).1)) := hD
    refine lv_iadd hx hb d_World_runDeeds_173 ?_
    refine va_iast hx hb hK hP hD hS 2 0 rfl rfl (by unfold vp_in; decide) d_World_runDeeds_174 (fun H locs hP hD hS => ?_)
    have hP : va_P D classes (W4 cI q qn qv qs (sVa ((m_World_write (30 : Int32) ((gS (11 : Int32) dp w).1)).1) (upd ((gVa ((m_World_write (30 : Int32) ((gS (11 : Int32) dp w).1)).1))) (10 : Int32).toNatClampNeg ((gS (11 : Int32) dp w).2 + (m_World_write (30 : Int32) ((gS (11 : Int32) dp w).1)).2)))) H := hP
    have hD : va_D A (W4 cI q qn qv qs (sVa ((m_World_write (30 : Int32) ((gS (11 : Int32) dp w).1)).1) (upd ((gVa ((m_World_write (30 : Int32) ((gS (11 : Int32) dp w).1)).1))) (10 : Int32).toNatClampNeg ((gS (11 : Int32) dp w).2 + (m_World_write (30 : Int32) ((gS (11 : Int32) dp w).1)).2)))) := hD
    refine lv_iconst (v := (0 : Int32)) hx hb d_World_runDeeds_175 (by decide) ?_
    obtain ⟨rfl, rfl⟩ : z1 = (sVa ((m_World_write (30 : Int32) ((gS (11 : Int32) dp w).1)).1) (upd ((gVa ((m_World_write (30 : Int32) ((gS (11 : Int32) dp w).1)).1))) (10 : Int32).toNatClampNeg ((gS (11 : Int32) dp w).2 + (m_World_write (30 : Int32) ((gS (11 : Int32) dp w).1)).2))) ∧ z2 = (0 : Int32) := Prod.mk.inj (hres.symm.trans ((if_neg e_1_0).trans ((if_neg e_1_1).trans ((if_neg e_1_2).trans ((if_neg e_1_3).trans ((if_neg e_1_4).trans ((if_neg e_1_5).trans ((if_neg e_1_6).trans ((if_neg e_1_7).trans ((if_neg e_1_8).trans ((if_neg e_1_9).trans ((if_pos (by rfl)).trans rfl))))))))))))
    exact CM_iret hx hb hr hlocks hP hK hD hS d_World_runDeeds_176
  rcases Decidable.em (k = 11) with e_1_11 | e_1_11
  · subst e_1_11
    refine lv_tableIn (tgt := 177) hx hb d_World_runDeeds_1 (by decide) (by decide) rfl (by decide) ?_
    refine lv_aload_n hx hb d_World_runDeeds_177 rfl (lv_at hl 0 rfl) ?_
    refine va_get (D := D) (ci := 0) (v := .ref qv) (C := R_World) (T := F_World) (N := 7) hx hb hk i_World hown hK hP 0 rfl rfl 3 (by decide) (hk _ kl_World_17) (fun _ h9 => h9) rfl d_World_runDeeds_178 ?_
    refine lv_iload_n hx hb d_World_runDeeds_181 rfl (lv_at hl 1 rfl) ?_
    refine lv_aload_n hx hb d_World_runDeeds_182 rfl (lv_at hl 0 rfl) ?_
    refine lv_bipush (v := (10 : Int32)) hx hb d_World_runDeeds_183 (by decide) ?_
    refine lv_iload_n hx hb d_World_runDeeds_185 rfl (lv_at hl 2 rfl) ?_
    refine CM.callV (wc := W4 cI q qn qv qs w) (wr := []) (b := q) (av := [.int (10 : Int32), .int dp]) (rest := [.int (11 : Int32), .ref qv]) hx hb hml hown hk (hS2 (10 : Int32) dp w (pG_As hp (by unfold vp_in; decide) (ok_mono hp.2.2.2.2 (by decide)))) hK hP hD hS hA hSt hl.1 (va_recv hK hP (ci := 0) (q0 := 0) rfl rfl) d_World_runDeeds_186 kc_World_ask ki_World kl_World_68 kn_World_ask kx_World_ask (n := 2) rfl (by decide +kernel) ⟨Nat.le_refl _, (by show 8 + (3 + 11) + 40 * n ≤ 40 * (n + 1); omega)⟩ rfl rfl (Nat.le_of_ble_eq_true rfl) ⟨Nat.zero_le _, Nat.zero_le _⟩ (fun H locs hP hD hS => ?_)
    have hP : va_P D classes (W4 cI q qn qv qs ((gS (10 : Int32) dp w).1)) H := hP
    have hD : va_D A (W4 cI q qn qv qs ((gS (10 : Int32) dp w).1)) := hD
    refine lv_aload_n hx hb d_World_runDeeds_189 rfl (lv_at hl 0 rfl) ?_
    refine lv_bipush (v := (40 : Int32)) hx hb d_World_runDeeds_190 (by decide) ?_
    refine CM.callV (wc := W4 cI q qn qv qs ((gS (10 : Int32) dp w).1)) (wr := []) (b := q) (av := [.int (40 : Int32)]) (rest := [.int (gS (10 : Int32) dp w).2, .int (11 : Int32), .ref qv]) hx hb hml hown hk (c_World_write l D cI cW q qn qv qs (40 : Int32) ((gS (10 : Int32) dp w).1) (ok_mono (okS (10 : Int32) dp w _ hp.2.2.2.2) (by decide)) _ _ (pe2 _)) hK hP hD hS hA hSt hl.1 (va_recv hK hP (ci := 0) (q0 := 0) rfl rfl) d_World_runDeeds_192 kc_World_write ki_World kl_World_65 kn_World_write kx_World_write (n := 1) rfl (by decide +kernel) ⟨(by show 0 + 1 ≤ n + 1; have h1 := hp.2.1; have h2 := hp.2.2.1; omega), (by show 8 + (2 + 11) + 0 ≤ 40 * (n + 1); have h1 := hp.2.1; have h2 := hp.2.2.1; omega)⟩ rfl rfl (Nat.le_of_ble_eq_true rfl) ⟨Nat.zero_le _, Nat.zero_le _⟩ (fun H locs hP hD hS => ?_)
    have hP : va_P D classes (W4 cI q qn qv qs ((m_World_write (40 : Int32) ((gS (10 : Int32) dp w).1)).1)) H := hP
    have hD : va_D A (W4 cI q qn qv qs ((m_World_write (40 : Int32) ((gS (10 : Int32) dp w).1)).1)) := hD
    refine lv_iadd hx hb d_World_runDeeds_195 ?_
    refine va_iast hx hb hK hP hD hS 2 0 rfl rfl (by unfold vp_in; decide) d_World_runDeeds_196 (fun H locs hP hD hS => ?_)
    have hP : va_P D classes (W4 cI q qn qv qs (sVa ((m_World_write (40 : Int32) ((gS (10 : Int32) dp w).1)).1) (upd ((gVa ((m_World_write (40 : Int32) ((gS (10 : Int32) dp w).1)).1))) (11 : Int32).toNatClampNeg ((gS (10 : Int32) dp w).2 + (m_World_write (40 : Int32) ((gS (10 : Int32) dp w).1)).2)))) H := hP
    have hD : va_D A (W4 cI q qn qv qs (sVa ((m_World_write (40 : Int32) ((gS (10 : Int32) dp w).1)).1) (upd ((gVa ((m_World_write (40 : Int32) ((gS (10 : Int32) dp w).1)).1))) (11 : Int32).toNatClampNeg ((gS (10 : Int32) dp w).2 + (m_World_write (40 : Int32) ((gS (10 : Int32) dp w).1)).2)))) := hD
    refine lv_iconst (v := (0 : Int32)) hx hb d_World_runDeeds_197 (by decide) ?_
    obtain ⟨rfl, rfl⟩ : z1 = (sVa ((m_World_write (40 : Int32) ((gS (10 : Int32) dp w).1)).1) (upd ((gVa ((m_World_write (40 : Int32) ((gS (10 : Int32) dp w).1)).1))) (11 : Int32).toNatClampNeg ((gS (10 : Int32) dp w).2 + (m_World_write (40 : Int32) ((gS (10 : Int32) dp w).1)).2))) ∧ z2 = (0 : Int32) := Prod.mk.inj (hres.symm.trans ((if_neg e_1_0).trans ((if_neg e_1_1).trans ((if_neg e_1_2).trans ((if_neg e_1_3).trans ((if_neg e_1_4).trans ((if_neg e_1_5).trans ((if_neg e_1_6).trans ((if_neg e_1_7).trans ((if_neg e_1_8).trans ((if_neg e_1_9).trans ((if_neg e_1_10).trans ((if_pos (by rfl)).trans rfl)))))))))))))
    exact CM_iret hx hb hr hlocks hP hK hD hS d_World_runDeeds_198
  rcases Decidable.em (k = 12) with e_1_12 | e_1_12
  · subst e_1_12
    refine lv_tableIn (tgt := 258) hx hb d_World_runDeeds_1 (by decide) (by decide) rfl (by decide) ?_
    refine lv_aload_n hx hb d_World_runDeeds_258 rfl (lv_at hl 0 rfl) ?_
    refine va_get (D := D) (ci := 0) (v := .ref qv) (C := R_World) (T := F_World) (N := 7) hx hb hk i_World hown hK hP 0 rfl rfl 3 (by decide) (hk _ kl_World_17) (fun _ h9 => h9) rfl d_World_runDeeds_259 ?_
    refine lv_iload_n hx hb d_World_runDeeds_262 rfl (lv_at hl 1 rfl) ?_
    refine lv_aload_n hx hb d_World_runDeeds_263 rfl (lv_at hl 0 rfl) ?_
    refine lv_iload_n hx hb d_World_runDeeds_264 rfl (lv_at hl 1 rfl) ?_
    refine CM.callS (wc := []) (wr := W4 cI q qn qv qs w) (av := [.int (12 : Int32)]) (rest := [.ref q, .int (12 : Int32), .ref qv]) hx hb hml hown hk (c_World_onlyNote l D cI cW (12 : Int32) _ rfl) hK hP hD hS hA hSt hl.1 d_World_runDeeds_265 kc_World_onlyNote ki_World kl_World_78 ks_World_onlyNote (n := 1) rfl (by decide +kernel) ⟨(by show 0 + 1 ≤ n + 1; have h1 := hp.2.1; have h2 := hp.2.2.1; omega), (by show 8 + (1 + 11) + 0 ≤ 40 * (n + 1); have h1 := hp.2.1; have h2 := hp.2.2.1; omega)⟩ rfl rfl (Nat.le_of_ble_eq_true rfl) ⟨Nat.zero_le _, Nat.zero_le _⟩ (fun H locs hP hD hS => ?_)
    have hP : va_P D classes (W4 cI q qn qv qs w) H := hP
    have hD : va_D A (W4 cI q qn qv qs w) := hD
    refine CM.callV (wc := W4 cI q qn qv qs w) (wr := []) (b := q) (av := [.int (m_World_onlyNote (12 : Int32))]) (rest := [.int (12 : Int32), .ref qv]) hx hb hml hown hk (c_World_write l D cI cW q qn qv qs (m_World_onlyNote (12 : Int32)) w (ok_mono hp.2.2.2.2 (by decide)) _ _ (pe2 _)) hK hP hD hS hA hSt hl.1 (va_recv hK hP (ci := 0) (q0 := 0) rfl rfl) d_World_runDeeds_268 kc_World_write ki_World kl_World_65 kn_World_write kx_World_write (n := 1) rfl (by decide +kernel) ⟨(by show 0 + 1 ≤ n + 1; have h1 := hp.2.1; have h2 := hp.2.2.1; omega), (by show 8 + (2 + 11) + 0 ≤ 40 * (n + 1); have h1 := hp.2.1; have h2 := hp.2.2.1; omega)⟩ rfl rfl (Nat.le_of_ble_eq_true rfl) ⟨Nat.zero_le _, Nat.zero_le _⟩ (fun H locs hP hD hS => ?_)
    have hP : va_P D classes (W4 cI q qn qv qs ((m_World_write (m_World_onlyNote (12 : Int32)) w).1)) H := hP
    have hD : va_D A (W4 cI q qn qv qs ((m_World_write (m_World_onlyNote (12 : Int32)) w).1)) := hD
    refine va_iast hx hb hK hP hD hS 2 0 rfl rfl (by unfold vp_in; decide) d_World_runDeeds_271 (fun H locs hP hD hS => ?_)
    have hP : va_P D classes (W4 cI q qn qv qs (sVa ((m_World_write (m_World_onlyNote (12 : Int32)) w).1) (upd ((gVa ((m_World_write (m_World_onlyNote (12 : Int32)) w).1))) (12 : Int32).toNatClampNeg (m_World_write (m_World_onlyNote (12 : Int32)) w).2))) H := hP
    have hD : va_D A (W4 cI q qn qv qs (sVa ((m_World_write (m_World_onlyNote (12 : Int32)) w).1) (upd ((gVa ((m_World_write (m_World_onlyNote (12 : Int32)) w).1))) (12 : Int32).toNatClampNeg (m_World_write (m_World_onlyNote (12 : Int32)) w).2))) := hD
    refine lv_iconst (v := (0 : Int32)) hx hb d_World_runDeeds_272 (by decide) ?_
    obtain ⟨rfl, rfl⟩ : z1 = (sVa ((m_World_write (m_World_onlyNote (12 : Int32)) w).1) (upd ((gVa ((m_World_write (m_World_onlyNote (12 : Int32)) w).1))) (12 : Int32).toNatClampNeg (m_World_write (m_World_onlyNote (12 : Int32)) w).2)) ∧ z2 = (0 : Int32) := Prod.mk.inj (hres.symm.trans ((if_neg e_1_0).trans ((if_neg e_1_1).trans ((if_neg e_1_2).trans ((if_neg e_1_3).trans ((if_neg e_1_4).trans ((if_neg e_1_5).trans ((if_neg e_1_6).trans ((if_neg e_1_7).trans ((if_neg e_1_8).trans ((if_neg e_1_9).trans ((if_neg e_1_10).trans ((if_neg e_1_11).trans ((if_pos (by rfl)).trans rfl))))))))))))))
    exact CM_iret hx hb hr hlocks hP hK hD hS d_World_runDeeds_273
  rcases Decidable.em (k = 13) with e_1_13 | e_1_13
  · subst e_1_13
    refine lv_tableIn (tgt := 199) hx hb d_World_runDeeds_1 (by decide) (by decide) rfl (by decide) ?_
    refine lv_aload_n hx hb d_World_runDeeds_199 rfl (lv_at hl 0 rfl) ?_
    refine lv_iload_n hx hb d_World_runDeeds_200 rfl (lv_at hl 1 rfl) ?_
    refine CMv.callV (wc := W4 cI q qn qv qs w) (wr := []) (b := q) (av := [.int (13 : Int32)]) (rest := []) hx hb hml hown hk (c_World_construct l D cI cW q qn qv qs (13 : Int32) w (ok_mono hp.2.2.2.2 (by decide)) _ rfl) hK hP hD hS hA hSt hl.1 (va_recv hK hP (ci := 0) (q0 := 0) rfl rfl) d_World_runDeeds_201 kc_World_construct ki_World kl_World_71 kn_World_construct kx_World_construct (n := 1) rfl (by decide +kernel) ⟨(by show 1 + 1 ≤ n + 1; have h1 := hp.2.1; have h2 := hp.2.2.1; omega), (by show 8 + (3 + 11) + 21 ≤ 40 * (n + 1); have h1 := hp.2.1; have h2 := hp.2.2.1; omega)⟩ rfl rfl (Nat.le_of_ble_eq_true rfl) ⟨Nat.zero_le _, Nat.zero_le _⟩ (fun H locs hP hD hS => ?_)
    have hP : va_P D classes (W4 cI q qn qv qs (m_World_construct (13 : Int32) w)) H := hP
    have hD : va_D A (W4 cI q qn qv qs (m_World_construct (13 : Int32) w)) := hD
    refine lv_aload_n hx hb d_World_runDeeds_204 rfl (lv_at hl 0 rfl) ?_
    refine lv_bipush (v := (14 : Int32)) hx hb d_World_runDeeds_205 (by decide) ?_
    refine CM.callV (wc := W4 cI q qn qv qs (m_World_construct (13 : Int32) w)) (wr := []) (b := q) (av := [.int (14 : Int32)]) (rest := []) hx hb hml hown hk (c_World_write l D cI cW q qn qv qs (14 : Int32) (m_World_construct (13 : Int32) w) (ok_mono (ok_construct hp.2.2.2.2) (by decide)) _ _ (pe2 _)) hK hP hD hS hA hSt hl.1 (va_recv hK hP (ci := 0) (q0 := 0) rfl rfl) d_World_runDeeds_207 kc_World_write ki_World kl_World_65 kn_World_write kx_World_write (n := 1) rfl (by decide +kernel) ⟨(by show 0 + 1 ≤ n + 1; have h1 := hp.2.1; have h2 := hp.2.2.1; omega), (by show 8 + (2 + 11) + 0 ≤ 40 * (n + 1); have h1 := hp.2.1; have h2 := hp.2.2.1; omega)⟩ rfl rfl (Nat.le_of_ble_eq_true rfl) ⟨Nat.zero_le _, Nat.zero_le _⟩ (fun H locs hP hD hS => ?_)
    have hP : va_P D classes (W4 cI q qn qv qs ((m_World_write (14 : Int32) (m_World_construct (13 : Int32) w)).1)) H := hP
    have hD : va_D A (W4 cI q qn qv qs ((m_World_write (14 : Int32) (m_World_construct (13 : Int32) w)).1)) := hD
    refine lv_pop hx hb d_World_runDeeds_210 rfl ?_
    refine lv_iconst (v := (0 : Int32)) hx hb d_World_runDeeds_211 (by decide) ?_
    obtain ⟨rfl, rfl⟩ : z1 = (m_World_write (14 : Int32) (m_World_construct (13 : Int32) w)).1 ∧ z2 = (0 : Int32) := Prod.mk.inj (hres.symm.trans ((if_neg e_1_0).trans ((if_neg e_1_1).trans ((if_neg e_1_2).trans ((if_neg e_1_3).trans ((if_neg e_1_4).trans ((if_neg e_1_5).trans ((if_neg e_1_6).trans ((if_neg e_1_7).trans ((if_neg e_1_8).trans ((if_neg e_1_9).trans ((if_neg e_1_10).trans ((if_neg e_1_11).trans ((if_neg e_1_12).trans ((if_pos (by rfl)).trans rfl)))))))))))))))
    exact CM_iret hx hb hr hlocks hP hK hD hS d_World_runDeeds_212
  rcases Decidable.em (k = 14) with e_1_14 | e_1_14
  · subst e_1_14
    refine lv_tableIn (tgt := 213) hx hb d_World_runDeeds_1 (by decide) (by decide) rfl (by decide) ?_
    refine lv_aload_n hx hb d_World_runDeeds_213 rfl (lv_at hl 0 rfl) ?_
    refine lv_bipush (v := (16 : Int32)) hx hb d_World_runDeeds_214 (by decide) ?_
    refine CM.callV (wc := W4 cI q qn qv qs w) (wr := []) (b := q) (av := [.int (16 : Int32)]) (rest := []) hx hb hml hown hk (c_World_write l D cI cW q qn qv qs (16 : Int32) w (ok_mono hp.2.2.2.2 (by decide)) _ _ (pe2 _)) hK hP hD hS hA hSt hl.1 (va_recv hK hP (ci := 0) (q0 := 0) rfl rfl) d_World_runDeeds_216 kc_World_write ki_World kl_World_65 kn_World_write kx_World_write (n := 1) rfl (by decide +kernel) ⟨(by show 0 + 1 ≤ n + 1; have h1 := hp.2.1; have h2 := hp.2.2.1; omega), (by show 8 + (2 + 11) + 0 ≤ 40 * (n + 1); have h1 := hp.2.1; have h2 := hp.2.2.1; omega)⟩ rfl rfl (Nat.le_of_ble_eq_true rfl) ⟨Nat.zero_le _, Nat.zero_le _⟩ (fun H locs hP hD hS => ?_)
    have hP : va_P D classes (W4 cI q qn qv qs ((m_World_write (16 : Int32) w).1)) H := hP
    have hD : va_D A (W4 cI q qn qv qs ((m_World_write (16 : Int32) w).1)) := hD
    refine lv_pop hx hb d_World_runDeeds_219 rfl ?_
    refine lv_aload_n hx hb d_World_runDeeds_220 rfl (lv_at hl 0 rfl) ?_
    refine lv_bipush (v := (16 : Int32)) hx hb d_World_runDeeds_221 (by decide) ?_
    refine CM.callV (wc := W4 cI q qn qv qs ((m_World_write (16 : Int32) w).1)) (wr := []) (b := q) (av := [.int (16 : Int32)]) (rest := []) hx hb hml hown hk (c_World_write l D cI cW q qn qv qs (16 : Int32) ((m_World_write (16 : Int32) w).1) (ok_mono (ok_write hp.2.2.2.2) (by decide)) _ _ (pe2 _)) hK hP hD hS hA hSt hl.1 (va_recv hK hP (ci := 0) (q0 := 0) rfl rfl) d_World_runDeeds_223 kc_World_write ki_World kl_World_65 kn_World_write kx_World_write (n := 1) rfl (by decide +kernel) ⟨(by show 0 + 1 ≤ n + 1; have h1 := hp.2.1; have h2 := hp.2.2.1; omega), (by show 8 + (2 + 11) + 0 ≤ 40 * (n + 1); have h1 := hp.2.1; have h2 := hp.2.2.1; omega)⟩ rfl rfl (Nat.le_of_ble_eq_true rfl) ⟨Nat.zero_le _, Nat.zero_le _⟩ (fun H locs hP hD hS => ?_)
    have hP : va_P D classes (W4 cI q qn qv qs ((m_World_write (16 : Int32) ((m_World_write (16 : Int32) w).1)).1)) H := hP
    have hD : va_D A (W4 cI q qn qv qs ((m_World_write (16 : Int32) ((m_World_write (16 : Int32) w).1)).1)) := hD
    refine lv_pop hx hb d_World_runDeeds_226 rfl ?_
    refine lv_aload_n hx hb d_World_runDeeds_227 rfl (lv_at hl 0 rfl) ?_
    refine va_get (D := D) (ci := 0) (v := .ref qv) (C := R_World) (T := F_World) (N := 7) hx hb hk i_World hown hK hP 0 rfl rfl 3 (by decide) (hk _ kl_World_17) (fun _ h9 => h9) rfl d_World_runDeeds_228 ?_
    refine lv_iload_n hx hb d_World_runDeeds_231 rfl (lv_at hl 1 rfl) ?_
    refine lv_aload_n hx hb d_World_runDeeds_232 rfl (lv_at hl 0 rfl) ?_
    refine lv_bipush (v := (17 : Int32)) hx hb d_World_runDeeds_233 (by decide) ?_
    refine CM.callV (wc := W4 cI q qn qv qs ((m_World_write (16 : Int32) ((m_World_write (16 : Int32) w).1)).1)) (wr := []) (b := q) (av := [.int (17 : Int32)]) (rest := [.int (14 : Int32), .ref qv]) hx hb hml hown hk (c_World_write l D cI cW q qn qv qs (17 : Int32) ((m_World_write (16 : Int32) ((m_World_write (16 : Int32) w).1)).1) (ok_mono (ok_write (ok_write hp.2.2.2.2)) (by decide)) _ _ (pe2 _)) hK hP hD hS hA hSt hl.1 (va_recv hK hP (ci := 0) (q0 := 0) rfl rfl) d_World_runDeeds_235 kc_World_write ki_World kl_World_65 kn_World_write kx_World_write (n := 1) rfl (by decide +kernel) ⟨(by show 0 + 1 ≤ n + 1; have h1 := hp.2.1; have h2 := hp.2.2.1; omega), (by show 8 + (2 + 11) + 0 ≤ 40 * (n + 1); have h1 := hp.2.1; have h2 := hp.2.2.1; omega)⟩ rfl rfl (Nat.le_of_ble_eq_true rfl) ⟨Nat.zero_le _, Nat.zero_le _⟩ (fun H locs hP hD hS => ?_)
    have hP : va_P D classes (W4 cI q qn qv qs ((m_World_write (17 : Int32) ((m_World_write (16 : Int32) ((m_World_write (16 : Int32) w).1)).1)).1)) H := hP
    have hD : va_D A (W4 cI q qn qv qs ((m_World_write (17 : Int32) ((m_World_write (16 : Int32) ((m_World_write (16 : Int32) w).1)).1)).1)) := hD
    refine va_iast hx hb hK hP hD hS 2 0 rfl rfl (by unfold vp_in; decide) d_World_runDeeds_238 (fun H locs hP hD hS => ?_)
    have hP : va_P D classes (W4 cI q qn qv qs (sVa ((m_World_write (17 : Int32) ((m_World_write (16 : Int32) ((m_World_write (16 : Int32) w).1)).1)).1) (upd ((gVa ((m_World_write (17 : Int32) ((m_World_write (16 : Int32) ((m_World_write (16 : Int32) w).1)).1)).1))) (14 : Int32).toNatClampNeg (m_World_write (17 : Int32) ((m_World_write (16 : Int32) ((m_World_write (16 : Int32) w).1)).1)).2))) H := hP
    have hD : va_D A (W4 cI q qn qv qs (sVa ((m_World_write (17 : Int32) ((m_World_write (16 : Int32) ((m_World_write (16 : Int32) w).1)).1)).1) (upd ((gVa ((m_World_write (17 : Int32) ((m_World_write (16 : Int32) ((m_World_write (16 : Int32) w).1)).1)).1))) (14 : Int32).toNatClampNeg (m_World_write (17 : Int32) ((m_World_write (16 : Int32) ((m_World_write (16 : Int32) w).1)).1)).2))) := hD
    refine lv_iconst (v := (0 : Int32)) hx hb d_World_runDeeds_239 (by decide) ?_
    obtain ⟨rfl, rfl⟩ : z1 = (sVa ((m_World_write (17 : Int32) ((m_World_write (16 : Int32) ((m_World_write (16 : Int32) w).1)).1)).1) (upd ((gVa ((m_World_write (17 : Int32) ((m_World_write (16 : Int32) ((m_World_write (16 : Int32) w).1)).1)).1))) (14 : Int32).toNatClampNeg (m_World_write (17 : Int32) ((m_World_write (16 : Int32) ((m_World_write (16 : Int32) w).1)).1)).2)) ∧ z2 = (0 : Int32) := Prod.mk.inj (hres.symm.trans ((if_neg e_1_0).trans ((if_neg e_1_1).trans ((if_neg e_1_2).trans ((if_neg e_1_3).trans ((if_neg e_1_4).trans ((if_neg e_1_5).trans ((if_neg e_1_6).trans ((if_neg e_1_7).trans ((if_neg e_1_8).trans ((if_neg e_1_9).trans ((if_neg e_1_10).trans ((if_neg e_1_11).trans ((if_neg e_1_12).trans ((if_neg e_1_13).trans ((if_pos (by rfl)).trans rfl))))))))))))))))
    exact CM_iret hx hb hr hlocks hP hK hD hS d_World_runDeeds_240
  rcases Decidable.em (k = 15) with e_1_15 | e_1_15
  · subst e_1_15
    refine lv_tableIn (tgt := 241) hx hb d_World_runDeeds_1 (by decide) (by decide) rfl (by decide) ?_
    refine lv_aload_n hx hb d_World_runDeeds_241 rfl (lv_at hl 0 rfl) ?_
    refine lv_aload_n hx hb d_World_runDeeds_242 rfl (lv_at hl 0 rfl) ?_
    refine va_get (D := D) (ci := 0) (v := .int (bI (gSw w))) (C := R_World) (T := F_World) (N := 7) hx hb hk i_World hown hK hP 0 rfl rfl 5 (by decide) (hk _ kl_World_27) (fun _ h9 => h9) rfl d_World_runDeeds_243 ?_
    refine va_put (D := D) (ci := 0) (v := .int (bI (gSw w))) (ty := .boolean) (C := R_World) (T := F_World) (N := 7) hx hb hk i_World t_World t_World_ok n_World hown hK hP hD hS 0 rfl rfl 6 (by decide) (hk _ kl_World_75) (fun _ h9 => h9) rfl (by decide +kernel) (bI_nar _) (bI_fit _) (Nat.le_of_ble_eq_true rfl) d_World_runDeeds_246 (fun H locs hP hD hS => ?_)
    have hP : va_P D classes (W4 cI q qn qv qs (sSe w (gSw w))) H := hP
    have hD : va_D A (W4 cI q qn qv qs (sSe w (gSw w))) := hD
    refine lv_aload_n hx hb d_World_runDeeds_249 rfl (lv_at hl 0 rfl) ?_
    refine lv_bipush (v := (18 : Int32)) hx hb d_World_runDeeds_250 (by decide) ?_
    refine CM.callV (wc := W4 cI q qn qv qs (sSe w (gSw w))) (wr := []) (b := q) (av := [.int (18 : Int32)]) (rest := []) hx hb hml hown hk (c_World_write l D cI cW q qn qv qs (18 : Int32) (sSe w (gSw w)) (ok_mono hp.2.2.2.2 (by decide)) _ _ (pe2 _)) hK hP hD hS hA hSt hl.1 (va_recv hK hP (ci := 0) (q0 := 0) rfl rfl) d_World_runDeeds_252 kc_World_write ki_World kl_World_65 kn_World_write kx_World_write (n := 1) rfl (by decide +kernel) ⟨(by show 0 + 1 ≤ n + 1; have h1 := hp.2.1; have h2 := hp.2.2.1; omega), (by show 8 + (2 + 11) + 0 ≤ 40 * (n + 1); have h1 := hp.2.1; have h2 := hp.2.2.1; omega)⟩ rfl rfl (Nat.le_of_ble_eq_true rfl) ⟨Nat.zero_le _, Nat.zero_le _⟩ (fun H locs hP hD hS => ?_)
    have hP : va_P D classes (W4 cI q qn qv qs ((m_World_write (18 : Int32) (sSe w (gSw w))).1)) H := hP
    have hD : va_D A (W4 cI q qn qv qs ((m_World_write (18 : Int32) (sSe w (gSw w))).1)) := hD
    refine lv_pop hx hb d_World_runDeeds_255 rfl ?_
    refine lv_iconst (v := (0 : Int32)) hx hb d_World_runDeeds_256 (by decide) ?_
    obtain ⟨rfl, rfl⟩ : z1 = (m_World_write (18 : Int32) (sSe w (gSw w))).1 ∧ z2 = (0 : Int32) := Prod.mk.inj (hres.symm.trans ((if_neg e_1_0).trans ((if_neg e_1_1).trans ((if_neg e_1_2).trans ((if_neg e_1_3).trans ((if_neg e_1_4).trans ((if_neg e_1_5).trans ((if_neg e_1_6).trans ((if_neg e_1_7).trans ((if_neg e_1_8).trans ((if_neg e_1_9).trans ((if_neg e_1_10).trans ((if_neg e_1_11).trans ((if_neg e_1_12).trans ((if_neg e_1_13).trans ((if_neg e_1_14).trans ((if_pos (by rfl)).trans rfl)))))))))))))))))
    exact CM_iret hx hb hr hlocks hP hK hD hS d_World_runDeeds_257
  rcases Decidable.em (k = 16) with e_1_16 | e_1_16
  · subst e_1_16
    refine lv_tableOut (tgt := 258) hx hb d_World_runDeeds_1 (by decide) (by decide) ?_
    refine lv_aload_n hx hb d_World_runDeeds_258 rfl (lv_at hl 0 rfl) ?_
    refine va_get (D := D) (ci := 0) (v := .ref qv) (C := R_World) (T := F_World) (N := 7) hx hb hk i_World hown hK hP 0 rfl rfl 3 (by decide) (hk _ kl_World_17) (fun _ h9 => h9) rfl d_World_runDeeds_259 ?_
    refine lv_iload_n hx hb d_World_runDeeds_262 rfl (lv_at hl 1 rfl) ?_
    refine lv_aload_n hx hb d_World_runDeeds_263 rfl (lv_at hl 0 rfl) ?_
    refine lv_iload_n hx hb d_World_runDeeds_264 rfl (lv_at hl 1 rfl) ?_
    refine CM.callS (wc := []) (wr := W4 cI q qn qv qs w) (av := [.int (16 : Int32)]) (rest := [.ref q, .int (16 : Int32), .ref qv]) hx hb hml hown hk (c_World_onlyNote l D cI cW (16 : Int32) _ rfl) hK hP hD hS hA hSt hl.1 d_World_runDeeds_265 kc_World_onlyNote ki_World kl_World_78 ks_World_onlyNote (n := 1) rfl (by decide +kernel) ⟨(by show 0 + 1 ≤ n + 1; have h1 := hp.2.1; have h2 := hp.2.2.1; omega), (by show 8 + (1 + 11) + 0 ≤ 40 * (n + 1); have h1 := hp.2.1; have h2 := hp.2.2.1; omega)⟩ rfl rfl (Nat.le_of_ble_eq_true rfl) ⟨Nat.zero_le _, Nat.zero_le _⟩ (fun H locs hP hD hS => ?_)
    have hP : va_P D classes (W4 cI q qn qv qs w) H := hP
    have hD : va_D A (W4 cI q qn qv qs w) := hD
    refine CM.callV (wc := W4 cI q qn qv qs w) (wr := []) (b := q) (av := [.int (m_World_onlyNote (16 : Int32))]) (rest := [.int (16 : Int32), .ref qv]) hx hb hml hown hk (c_World_write l D cI cW q qn qv qs (m_World_onlyNote (16 : Int32)) w (ok_mono hp.2.2.2.2 (by decide)) _ _ (pe2 _)) hK hP hD hS hA hSt hl.1 (va_recv hK hP (ci := 0) (q0 := 0) rfl rfl) d_World_runDeeds_268 kc_World_write ki_World kl_World_65 kn_World_write kx_World_write (n := 1) rfl (by decide +kernel) ⟨(by show 0 + 1 ≤ n + 1; have h1 := hp.2.1; have h2 := hp.2.2.1; omega), (by show 8 + (2 + 11) + 0 ≤ 40 * (n + 1); have h1 := hp.2.1; have h2 := hp.2.2.1; omega)⟩ rfl rfl (Nat.le_of_ble_eq_true rfl) ⟨Nat.zero_le _, Nat.zero_le _⟩ (fun H locs hP hD hS => ?_)
    have hP : va_P D classes (W4 cI q qn qv qs ((m_World_write (m_World_onlyNote (16 : Int32)) w).1)) H := hP
    have hD : va_D A (W4 cI q qn qv qs ((m_World_write (m_World_onlyNote (16 : Int32)) w).1)) := hD
    refine va_iast hx hb hK hP hD hS 2 0 rfl rfl (by unfold vp_in; decide) d_World_runDeeds_271 (fun H locs hP hD hS => ?_)
    have hP : va_P D classes (W4 cI q qn qv qs (sVa ((m_World_write (m_World_onlyNote (16 : Int32)) w).1) (upd ((gVa ((m_World_write (m_World_onlyNote (16 : Int32)) w).1))) (16 : Int32).toNatClampNeg (m_World_write (m_World_onlyNote (16 : Int32)) w).2))) H := hP
    have hD : va_D A (W4 cI q qn qv qs (sVa ((m_World_write (m_World_onlyNote (16 : Int32)) w).1) (upd ((gVa ((m_World_write (m_World_onlyNote (16 : Int32)) w).1))) (16 : Int32).toNatClampNeg (m_World_write (m_World_onlyNote (16 : Int32)) w).2))) := hD
    refine lv_iconst (v := (0 : Int32)) hx hb d_World_runDeeds_272 (by decide) ?_
    obtain ⟨rfl, rfl⟩ : z1 = (sVa ((m_World_write (m_World_onlyNote (16 : Int32)) w).1) (upd ((gVa ((m_World_write (m_World_onlyNote (16 : Int32)) w).1))) (16 : Int32).toNatClampNeg (m_World_write (m_World_onlyNote (16 : Int32)) w).2)) ∧ z2 = (0 : Int32) := Prod.mk.inj (hres.symm.trans ((if_neg e_1_0).trans ((if_neg e_1_1).trans ((if_neg e_1_2).trans ((if_neg e_1_3).trans ((if_neg e_1_4).trans ((if_neg e_1_5).trans ((if_neg e_1_6).trans ((if_neg e_1_7).trans ((if_neg e_1_8).trans ((if_neg e_1_9).trans ((if_neg e_1_10).trans ((if_neg e_1_11).trans ((if_neg e_1_12).trans ((if_neg e_1_13).trans ((if_neg e_1_14).trans ((if_neg e_1_15).trans ((if_pos (by rfl)).trans rfl))))))))))))))))))
    exact CM_iret hx hb hr hlocks hP hK hD hS d_World_runDeeds_273
  exact False.elim (dom17 hp.2.2.2.1 e_1_0 e_1_1 e_1_2 e_1_3 e_1_4 e_1_5 e_1_6 e_1_7 e_1_8 e_1_9 e_1_10 e_1_11 e_1_12 e_1_13 e_1_14 e_1_15 e_1_16)

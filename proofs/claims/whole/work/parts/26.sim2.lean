-- BAD, WORSE, THE CIRCLE
theorem upd2 (f : Nat → Int32) (k : Nat) (a b : Int32) : upd (upd f k a) k b = upd f k b := by
  funext i
  by_cases e : i = k
  · rw [e, pk_us, pk_us]
  · rw [pk_un e, pk_un e, pk_un e]
theorem updC (f : Nat → Int32) (k l : Nat) (a b : Int32) (h : k ≠ l) : upd (upd f k a) l b = upd (upd f l b) k a := by
  funext i
  by_cases e : i = k
  · subst e; rw [pk_un h, pk_us, pk_us]
  · by_cases e2 : i = l
    · subst e2; rw [pk_us, pk_un e, pk_us]
    · rw [pk_un e2, pk_un e, pk_un e, pk_un e2]
theorem wr_sSt (n : Int32) (w : MW) (f : Nat → Int32) : wr n (sSt w f) = sSt (wr n w) f := by
  show (m_World_write n (sSt w f)).1 = sSt (m_World_write n w).1 f
  unfold m_World_write
  by_cases g : (64 : Int32) ≤ gWr w
  · rw [if_pos g, if_pos g]
  · rw [if_neg g, if_neg g]
theorem bad_eq (w : MW) : s3 8 (vv 8 7 (wr 7 (s1 8 w))) = s3 8 (vv 8 7 (wr 7 w)) := by
  have e : wr 7 (s1 8 w) = sSt (wr 7 w) (upd (gSt w) (8 : Int32).toNatClampNeg 1) := wr_sSt 7 w _
  rw [e]
  show sSt (vv 8 7 (wr 7 w)) (upd (upd (gSt w) (8 : Int32).toNatClampNeg 1) (8 : Int32).toNatClampNeg 3) = sSt (vv 8 7 (wr 7 w)) (upd (gSt (wr 7 w)) (8 : Int32).toNatClampNeg 3)
  rw [upd2, wr_st]
theorem WF_read {w : MW} {md m1 : MM} {j : Nat} {k : Int32} (kk : Nat) (hk : kk < 17) (ek : k = nI kk) (h : WF w md m1 j) : aSt md (aWc md * 17 + k).toNatClampNeg = stt w k := by
  have ec : k.toNatClampNeg = kk := by rw [ek]; exact nI_clamp (by omega)
  have ei : (aWc md * 17 + k).toNatClampNeg = j * 17 + kk := by rw [h.2.1, ek]; exact ix17 h.1 hk
  rw [ei, h.2.2.1.1 kk hk, ← ec]
theorem RBad {w : MW} {md m1 : MM} {j c : Nat} (h : WF w md m1 j) (ho : ok c w) (h8 : stt w 8 = 0 ∨ stt w 8 = 3) : (xBad w).2 = (m_M_initBad md).2 ∧ WF (xBad w).1 (m_M_initBad md).1 m1 j ∧ ok c (xBad w).1 := by
  have er := WF_read (k := 8) 8 (by decide) rfl h
  unfold xBad m_M_initBad
  rw [er]
  by_cases g : stt w 8 = 3
  · rw [if_pos g, if_pos g]
    exact ⟨rfl, h, ho⟩
  · rw [if_neg g, if_neg g]
    have g0 : stt w 8 = 0 := h8.resolve_right g
    have h2 := WF_vaO (k := 8) (x := 7) (WF_write (n := 7) h ho) (by decide) (by decide) (by decide) (by decide) (by decide)
    have o1 := ok_st1 ho (in17 (k := 8) (kk := 8) (by decide) rfl) g0
    have o2 : ok (c + 7) (vv 8 7 (wr 7 (s1 8 w))) := ok_vv (ok_write (n := 7) o1)
    refine ⟨rfl, ?_, ok_st2 (ok_mono o2 (by omega)) (by decide)⟩
    show WF (s3 8 (vv 8 7 (wr 7 (s1 8 w)))) _ m1 j
    rw [bad_eq]
    exact WF_set3 (k := 8) 8 (by decide) rfl h2
theorem worse_eq (w : MW) : (s3 9 (xBad (s1 9 w)).1, (xBad (s1 9 w)).2) = xBad (s3 9 w) := by
  have e1 : stt (s1 9 w) 8 = stt w 8 := st_s1 9 w 8 (by decide)
  have e2 : stt (s3 9 w) 8 = stt w 8 := pk_un (f := gSt w) (x := 3) (k := (9 : Int32).toNatClampNeg) (j := (8 : Int32).toNatClampNeg) (by decide)
  unfold xBad
  rw [e1, e2]
  by_cases g : stt w 8 = 3
  · rw [if_pos g, if_pos g]
    show (sSt w (upd (upd (gSt w) (9 : Int32).toNatClampNeg 1) (9 : Int32).toNatClampNeg 3), (-102 : Int32)) = _
    rw [upd2]
  · rw [if_neg g, if_neg g]
    show (s3 9 (s3 8 (vv 8 7 (wr 7 (s1 8 (s1 9 w))))), (-101 : Int32)) = (s3 8 (vv 8 7 (wr 7 (s1 8 (s3 9 w)))), (-101 : Int32))
    rw [bad_eq, bad_eq]
    have a1 : wr 7 (s1 9 w) = sSt (wr 7 w) (upd (gSt w) (9 : Int32).toNatClampNeg 1) := wr_sSt 7 w _
    have a3 : wr 7 (s3 9 w) = sSt (wr 7 w) (upd (gSt w) (9 : Int32).toNatClampNeg 3) := wr_sSt 7 w _
    rw [a1, a3]
    show (sSt (vv 8 7 (wr 7 w)) (upd (upd (upd (gSt w) (9 : Int32).toNatClampNeg 1) (8 : Int32).toNatClampNeg 3) (9 : Int32).toNatClampNeg 3), (-101 : Int32)) = (sSt (vv 8 7 (wr 7 w)) (upd (upd (gSt w) (9 : Int32).toNatClampNeg 3) (8 : Int32).toNatClampNeg 3), (-101 : Int32))
    rw [updC _ _ _ 1 3 (by decide), upd2, updC _ (8 : Int32).toNatClampNeg _ 3 3 (by decide)]
theorem RWorse {w : MW} {md m1 : MM} {j c : Nat} (h : WF w md m1 j) (ho : ok c w) (h8 : stt w 8 = 0 ∨ stt w 8 = 3) : (xWorse w).2 = (m_M_initWorse md).2 ∧ WF (xWorse w).1 (m_M_initWorse md).1 m1 j ∧ ok c (xWorse w).1 := by
  have er := WF_read (k := 9) 9 (by decide) rfl h
  unfold xWorse m_M_initWorse
  rw [er]
  by_cases g : stt w 9 = 3
  · rw [if_pos g, if_pos g]
    exact ⟨rfl, h, ho⟩
  · rw [if_neg g, if_neg g, worse_eq]
    have e2 : stt (s3 9 w) 8 = stt w 8 := pk_un (f := gSt w) (x := 3) (k := (9 : Int32).toNatClampNeg) (j := (8 : Int32).toNatClampNeg) (by decide)
    exact RBad (WF_set3 (k := 9) 9 (by decide) rfl h) (ok_st2 ho (by decide)) (by rw [e2]; exact h8)

theorem begin_if {md mb : MM} {k : Int32} {a b : MM} (eb : m_M_begins k md = (mb, 1)) : (if (m_M_begins k md).2 = 0 then a else b) = b := by
  rw [eb]
  exact if_neg (by show ¬ (1 : Int32) = 0; decide)
theorem begin_ifn {md : MM} {k : Int32} {a b : MM} (eb : m_M_begins k md = (md, 0)) : (if (m_M_begins k md).2 = 0 then a else b) = a := by
  rw [eb]
  exact if_pos rfl

theorem RFirst {w : MW} {md m1 : MM} {j c : Nat} (h : WF w md m1 j) (ho : ok c w) (hz : stt w 10 = 0 → vat w 10 = 0) : WF (xFirst w) (m_M_initCircle true md) m1 j ∧ ok c (xFirst w) := by
  unfold xFirst m_M_initCircle
  rw [if_neg (show ¬ bI true = 0 by decide)]
  by_cases g : stt w 10 = 0
  · obtain ⟨mb, eb, hb⟩ := WF_begin_y (k := 10) 10 (by decide) rfl h g
    have o1 := ok_st1 ho (in17 (k := 10) (kk := 10) (by decide) rfl) g
    rw [if_pos g, begin_if eb, eb]
    unfold xSecondIn
    by_cases g2 : stt (s1 10 w) 11 = 0
    · obtain ⟨mc, ec, hc⟩ := WF_begin_y (k := 11) 11 (by decide) rfl hb g2
      have o2 := ok_st1 o1 (in17 (k := 11) (kk := 11) (by decide) rfl) g2
      have hv : vat (s1 10 w) 10 + 40 = 40 := by
        show vat w 10 + 40 = 40
        rw [hz g]; decide
      rw [if_pos g2, begin_if ec, ec, hv]
      have h3 := WF_va11 (x := 40) (WF_write (n := 40) hc o2)
      have o3 : ok (c + 8 + 7) (vv 11 40 (wr 40 (s1 11 (s1 10 w)))) := ok_vv (ok_write (n := 40) o2)
      have h4 := WF_ends (k := 11) 11 (by decide) rfl h3
      have o4 : ok (c + 8) (s2 11 (vv 11 40 (wr 40 (s1 11 (s1 10 w))))) := ok_st2 (ok_mono o3 (by omega)) (by decide)
      have HH := WF_write (n := 30) h4 o4
      have o5 : ok (c + 7) (wr 30 (s2 11 (vv 11 40 (wr 40 (s1 11 (s1 10 w)))))) := ok_write (n := 30) o4
      have e := WF_c HH
      have ev : vat (s2 11 (vv 11 40 (wr 40 (s1 11 (s1 10 w))))) 11 = vat (wr 30 (s2 11 (vv 11 40 (wr 40 (s1 11 (s1 10 w)))))) 11 := by
        show _ = gVa (wr 30 _) _
        rw [wr_va]
      rw [ev]
      have H5 := WF_va10 (x := vat (wr 30 (s2 11 (vv 11 40 (wr 40 (s1 11 (s1 10 w)))))) 11 + 30) HH
      refine ⟨WF_ends (k := 10) 10 (by decide) rfl ?_, ok_st2 (ok_vv (ok_mono o5 (by omega))) (by decide)⟩
      have er : aYy (m_M_write 30 (m_M_ends 11 (uYy (m_M_write 40 mc) (upd (aYy (m_M_write 40 mc)) (aWc (m_M_write 40 mc)).toNatClampNeg 40)))) (aWc (m_M_write 30 (m_M_ends 11 (uYy (m_M_write 40 mc) (upd (aYy (m_M_write 40 mc)) (aWc (m_M_write 40 mc)).toNatClampNeg 40))))).toNatClampNeg = vat (wr 30 (s2 11 (vv 11 40 (wr 40 (s1 11 (s1 10 w)))))) 11 := by
        rw [e]; exact HH.2.2.1.2.2.2.2.2.1
      rw [er]
      exact H5
    · have ec := WF_begin_n (k := 11) 11 (by decide) rfl hb g2
      rw [if_neg g2, begin_ifn ec, ec]
      have HH := WF_write (n := 30) hb o1
      have o5 : ok (c + 7) (wr 30 (s1 10 w)) := ok_write (n := 30) o1
      have e := WF_c HH
      have ev : vat (s1 10 w) 11 = vat (wr 30 (s1 10 w)) 11 := by
        show _ = gVa (wr 30 _) _
        rw [wr_va]
      rw [ev]
      have H5 := WF_va10 (x := vat (wr 30 (s1 10 w)) 11 + 30) HH
      refine ⟨WF_ends (k := 10) 10 (by decide) rfl ?_, ok_st2 (ok_vv (ok_mono o5 (by omega))) (by decide)⟩
      have er : aYy (m_M_write 30 mb) (aWc (m_M_write 30 mb)).toNatClampNeg = vat (wr 30 (s1 10 w)) 11 := by
        rw [e]; exact HH.2.2.1.2.2.2.2.2.1
      rw [er]
      exact H5
  · have eb := WF_begin_n (k := 10) 10 (by decide) rfl h g
    rw [if_neg g, begin_ifn eb, eb]
    exact ⟨h, ho⟩

theorem RSecond {w : MW} {md m1 : MM} {j c : Nat} (h : WF w md m1 j) (ho : ok c w) (hz : stt w 11 = 0 → vat w 11 = 0) : WF (xSecond w) (m_M_initCircle false md) m1 j ∧ ok c (xSecond w) := by
  unfold xSecond m_M_initCircle
  rw [if_pos (show bI false = 0 by decide)]
  by_cases g : stt w 11 = 0
  · obtain ⟨mb, eb, hb⟩ := WF_begin_y (k := 11) 11 (by decide) rfl h g
    have o1 := ok_st1 ho (in17 (k := 11) (kk := 11) (by decide) rfl) g
    rw [if_pos g, begin_if eb, eb]
    unfold xFirstIn
    by_cases g2 : stt (s1 11 w) 10 = 0
    · obtain ⟨mc, ec, hc⟩ := WF_begin_y (k := 10) 10 (by decide) rfl hb g2
      have o2 := ok_st1 o1 (in17 (k := 10) (kk := 10) (by decide) rfl) g2
      have hv : vat (s1 11 w) 11 + 30 = 30 := by
        show vat w 11 + 30 = 30
        rw [hz g]; decide
      rw [if_pos g2, begin_if ec, ec, hv]
      have h3 := WF_va10 (x := 30) (WF_write (n := 30) hc o2)
      have o3 : ok (c + 8 + 7) (vv 10 30 (wr 30 (s1 10 (s1 11 w)))) := ok_vv (ok_write (n := 30) o2)
      have h4 := WF_ends (k := 10) 10 (by decide) rfl h3
      have o4 : ok (c + 8) (s2 10 (vv 10 30 (wr 30 (s1 10 (s1 11 w))))) := ok_st2 (ok_mono o3 (by omega)) (by decide)
      have HH := WF_write (n := 40) h4 o4
      have o5 : ok (c + 7) (wr 40 (s2 10 (vv 10 30 (wr 30 (s1 10 (s1 11 w)))))) := ok_write (n := 40) o4
      have e := WF_c HH
      have ev : vat (s2 10 (vv 10 30 (wr 30 (s1 10 (s1 11 w))))) 10 = vat (wr 40 (s2 10 (vv 10 30 (wr 30 (s1 10 (s1 11 w)))))) 10 := by
        show _ = gVa (wr 40 _) _
        rw [wr_va]
      rw [ev]
      have H5 := WF_va11 (x := vat (wr 40 (s2 10 (vv 10 30 (wr 30 (s1 10 (s1 11 w)))))) 10 + 40) HH
      refine ⟨WF_ends (k := 11) 11 (by decide) rfl ?_, ok_st2 (ok_vv (ok_mono o5 (by omega))) (by decide)⟩
      have er : aXx (m_M_write 40 (m_M_ends 10 (uXx (m_M_write 30 mc) (upd (aXx (m_M_write 30 mc)) (aWc (m_M_write 30 mc)).toNatClampNeg 30)))) (aWc (m_M_write 40 (m_M_ends 10 (uXx (m_M_write 30 mc) (upd (aXx (m_M_write 30 mc)) (aWc (m_M_write 30 mc)).toNatClampNeg 30))))).toNatClampNeg = vat (wr 40 (s2 10 (vv 10 30 (wr 30 (s1 10 (s1 11 w)))))) 10 := by
        rw [e]; exact HH.2.2.1.2.2.2.2.1
      rw [er]
      exact H5
    · have ec := WF_begin_n (k := 10) 10 (by decide) rfl hb g2
      rw [if_neg g2, begin_ifn ec, ec]
      have HH := WF_write (n := 40) hb o1
      have o5 : ok (c + 7) (wr 40 (s1 11 w)) := ok_write (n := 40) o1
      have e := WF_c HH
      have ev : vat (s1 11 w) 10 = vat (wr 40 (s1 11 w)) 10 := by
        show _ = gVa (wr 40 _) _
        rw [wr_va]
      rw [ev]
      have H5 := WF_va11 (x := vat (wr 40 (s1 11 w)) 10 + 40) HH
      refine ⟨WF_ends (k := 11) 11 (by decide) rfl ?_, ok_st2 (ok_vv (ok_mono o5 (by omega))) (by decide)⟩
      have er : aXx (m_M_write 40 mb) (aWc (m_M_write 40 mb)).toNatClampNeg = vat (wr 40 (s1 11 w)) 10 := by
        rw [e]; exact HH.2.2.1.2.2.2.2.1
      rw [er]
      exact H5
  · have eb := WF_begin_n (k := 11) 11 (by decide) rfl h g
    rw [if_neg g, begin_ifn eb, eb]
    exact ⟨h, ho⟩

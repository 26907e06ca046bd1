-- THE ACTS LEFT
theorem CR_wr {n : Int32} {w : MW} (h : CR w) : CR (wr n w) := CRE_to (CRE_wr (CRE_of h))
theorem S_va0 {w : MW} {md m1 : MM} {j c : Nat} {a : Int32} (hw : WF w md m1 j) (ho : ok c w) (hc : CR w) : SA c j m1 (vv 0 (gVa w (0 : Int32).toNatClampNeg + a) w, gVa (vv 0 (gVa w (0 : Int32).toNatClampNeg + a) w) (0 : Int32).toNatClampNeg) (uBa md (upd (aBa md) (aWc md).toNatClampNeg (aBa md (aWc md).toNatClampNeg + a)), aBa (uBa md (upd (aBa md) (aWc md).toNatClampNeg (aBa md (aWc md).toNatClampNeg + a))) (aWc (uBa md (upd (aBa md) (aWc md).toNatClampNeg (aBa md (aWc md).toNatClampNeg + a)))).toNatClampNeg) := by
  have e : aBa md (aWc md).toNatClampNeg = gVa w (0 : Int32).toNatClampNeg := by rw [WF_c hw]; exact hw.2.2.1.2.2.1
  rw [e]
  exact ⟨(pk_us (f := gVa w) (k := (0 : Int32).toNatClampNeg)).trans (pk_us (f := aBa md) (k := (aWc md).toNatClampNeg)).symm, WF_va0 hw, ok_vv ho, CR_vv0 hc⟩
theorem S_va16 {w : MW} {md m1 : MM} {j c : Nat} {a : Int32} (hw : WF w md m1 j) (ho : ok c w) (hc : CR w) : SA c j m1 (vv 16 (gVa w (16 : Int32).toNatClampNeg + a) w, gVa (vv 16 (gVa w (16 : Int32).toNatClampNeg + a) w) (16 : Int32).toNatClampNeg) (uMa md (upd (aMa md) (aWc md).toNatClampNeg (aMa md (aWc md).toNatClampNeg + a)), aMa (uMa md (upd (aMa md) (aWc md).toNatClampNeg (aMa md (aWc md).toNatClampNeg + a))) (aWc (uMa md (upd (aMa md) (aWc md).toNatClampNeg (aMa md (aWc md).toNatClampNeg + a)))).toNatClampNeg) := by
  have e : aMa md (aWc md).toNatClampNeg = gVa w (16 : Int32).toNatClampNeg := by rw [WF_c hw]; exact hw.2.2.1.2.2.2.2.2.2.1
  rw [e]
  exact ⟨(pk_us (f := gVa w) (k := (16 : Int32).toNatClampNeg)).trans (pk_us (f := aMa md) (k := (aWc md).toNatClampNeg)).symm, WF_va16 hw, ok_vv ho, CR_vv16 hc⟩
theorem R_act_0 {w : MW} {md m1 : MM} {j c : Nat} {a : Int32} (h : WF w md m1 j) (ho : ok c w) (hr : CR w) : SA c j m1 (m_Acts_outcome 0 a w) (m_M_act 0 a md) := by
  obtain ⟨-, hw, ho2, hc⟩ := R_at (k := 0) (by unfold vp_in; decide) h ho hr
  have z : (m_M_init 0 md).2 = 0 := by rw [Mi_0]
  have z2 : mAt 0 w = ((mAt 0 w).1, 0) := by rw [A_0 hr]
  have oc : m_Acts_outcome 0 a w = m_Acts_told 0 a (mAt 0 w).1 := out_ok (by rw [Af_0]; exact z2) (by rw [At_0]; exact mAt_none)
  have hq : 0 ≤ (m_M_init (m_M_asked 0) md).2 := by rw [Mk_0, z]; decide
  rw [oc, To_0]
  by_cases hp : (a &&& (1 : Int32)) = 0
  · rw [Ma_0e (WF_pos h) hp hq, Mk_0]
    exact S_va0 hw ho2 hc
  · rw [Ma_0o (WF_pos h) hp hq, Mk_0]
    exact S_va0 hw ho2 hc
theorem R_act_22 {w : MW} {md m1 : MM} {j c : Nat} {a : Int32} (h : WF w md m1 j) (ho : ok c w) (hr : CR w) : SA c j m1 (m_Acts_outcome 22 a w) (m_M_act 22 a md) := by
  obtain ⟨-, hw, ho2, hc⟩ := R_at (k := 16) (by unfold vp_in; decide) h ho hr
  have z : (m_M_init 16 md).2 = 0 := by rw [Mi_16]
  have z2 : mAt 16 w = ((mAt 16 w).1, 0) := by rw [A_16 hr]
  have oc : m_Acts_outcome 22 a w = m_Acts_told 22 a (mAt 16 w).1 := out_ok (by rw [Af_22]; exact z2) (by rw [At_22]; exact mAt_none)
  have hq : 0 ≤ (m_M_init (m_M_asked 22) md).2 := by rw [Mk_22, z]; decide
  rw [oc, To_22]
  by_cases hp : (a &&& (1 : Int32)) = 0
  · rw [Ma_22e (WF_pos h) hp hq, Mk_22, if_pos (odd_e hp)]
    exact S_va16 hw ho2 hc
  · rw [Ma_22o (WF_pos h) hp hq, Mk_22, if_neg (by rw [odd_o hp]; decide)]
    exact S_va16 hw ho2 hc
theorem R_act_19 {w : MW} {md m1 : MM} {j c : Nat} {a : Int32} (h : WF w md m1 j) (ho : ok c w) (hr : CR w) : SA c j m1 (m_Acts_outcome 19 a w) (m_M_act 19 a md) := by
  obtain ⟨-, hw, ho2, hc⟩ := R_at (k := 14) (by unfold vp_in; decide) h ho hr
  have z : (m_M_init 14 md).2 = 0 := by rw [Mi_14]
  have z2 : mAt 14 w = ((mAt 14 w).1, 0) := by rw [A_14 hr]
  have oc : m_Acts_outcome 19 a w = m_Acts_told 19 a (mAt 14 w).1 := out_ok (by rw [Af_19]; exact z2) (by rw [At_19]; exact mAt_none)
  have hq : 0 ≤ (m_M_init (m_M_asked 19) md).2 := by rw [Mk_19, z]; decide
  have hv : gVa (mAt 14 w).1 (14 : Int32).toNatClampNeg = 17 := hc.2.2.2.2.2.2.2.2.1 (sd_14 hr)
  rw [oc, To_19]
  by_cases hp : (a &&& (1 : Int32)) = 0
  · rw [Ma_19e (WF_pos h) hp hq, Mk_19, if_pos (odd_e hp), hv]
    exact ⟨(by decide : (3 : Int32) + 17 = 20), hw, ho2, hc⟩
  · rw [Ma_19o (WF_pos h) hp hq, Mk_19, if_neg (by rw [odd_o hp]; decide), hv]
    exact ⟨(by decide : (18 : Int32) + 17 = 35), hw, ho2, hc⟩
theorem S_21 {w : MW} {md m1 : MM} {j c : Nat} {a : Int32} (hw : WF w md m1 j) (ho : ok c w) (hc : CR w) : SA c j m1 (if (bI (gSe w)) = 0 then (w, (a + (1000 : Int32))) else (if 0 < a then (w, (a + (1000 : Int32))) else (w, (-103 : Int32)))) (if (aSe md (aWc md).toNatClampNeg) = 0 then (md, (a + (1000 : Int32))) else (if 0 < a then (md, (a + (1000 : Int32))) else (md, (-103 : Int32)))) := by
  have e : aSe md (aWc md).toNatClampNeg = bI (gSe w) := by rw [WF_c hw]; exact hw.2.2.1.2.2.2.2.2.2.2.2.2
  rw [e]
  by_cases g : bI (gSe w) = 0
  · rw [if_pos g, if_pos g]
    exact ⟨rfl, hw, ho, hc⟩
  · rw [if_neg g, if_neg g]
    by_cases g2 : 0 < a
    · rw [if_pos g2, if_pos g2]
      exact ⟨rfl, hw, ho, hc⟩
    · rw [if_neg g2, if_neg g2]
      exact ⟨rfl, hw, ho, hc⟩
theorem R_act_21 {w : MW} {md m1 : MM} {j c : Nat} {a : Int32} (h : WF w md m1 j) (ho : ok c w) (hr : CR w) : SA c j m1 (m_Acts_outcome 21 a w) (m_M_act 21 a md) := by
  obtain ⟨-, hw, ho2, hc⟩ := R_at (k := 15) (by unfold vp_in; decide) h ho hr
  have z : (m_M_init 15 md).2 = 0 := by rw [Mi_15]
  have z2 : mAt 15 w = ((mAt 15 w).1, 0) := by rw [A_15 hr]
  have oc : m_Acts_outcome 21 a w = m_Acts_told 21 a (mAt 15 w).1 := out_ok (by rw [Af_21]; exact z2) (by rw [At_21]; exact mAt_none)
  have hq : 0 ≤ (m_M_init (m_M_asked 21) md).2 := by rw [Mk_21, z]; decide
  rw [oc, To_21]
  by_cases hp : (a &&& (1 : Int32)) = 0
  · rw [Ma_21e (WF_pos h) hp hq, Mk_21]
    exact S_21 hw ho2 hc
  · rw [Ma_21o (WF_pos h) hp hq, Mk_21]
    exact S_21 hw ho2 hc
theorem R_act_25 {w : MW} {md m1 : MM} {j c : Nat} {a : Int32} (h : WF w md m1 j) (ho : ok c w) (hr : CR w) : SA c j m1 (m_Acts_outcome 25 a w) (m_M_act 25 a md) := by
  by_cases hp : (a &&& (1 : Int32)) = 0
  · have e : m_Acts_askedFirst 25 a = -1 := (if_pos rfl).trans (if_pos (odd_e hp))
    have oc : m_Acts_outcome 25 a w = m_Acts_told 25 a w := out_ok (by rw [e]; exact mAt_none) (by rw [At_25]; exact mAt_none)
    rw [oc, To_25, Ma_25e (WF_pos h) hp]
    exact ⟨rfl, h, ho, hr⟩
  · have e : m_Acts_askedFirst 25 a = 11 := (if_pos rfl).trans (if_neg (by rw [odd_o hp]; decide))
    obtain ⟨-, hw, ho2, hc⟩ := R_at (k := 11) (by unfold vp_in; decide) h ho hr
    have z2 : mAt 11 w = ((mAt 11 w).1, 0) := by rw [A_11 hr]
    have oc : m_Acts_outcome 25 a w = m_Acts_told 25 a (mAt 11 w).1 := out_ok (by rw [e]; exact z2) (by rw [At_25]; exact mAt_none)
    rw [oc, To_25, Ma_25o (WF_pos h) hp]
    rw [Mi_11] at hw
    exact ⟨rfl, hw, ho2, hc⟩
theorem R_act_9 {w : MW} {md m1 : MM} {j c : Nat} {a : Int32} (h : WF w md m1 j) (ho : ok c w) (hr : CR w) : SA c j m1 (m_Acts_outcome 9 a w) (m_M_act 9 a md) := by
  obtain ⟨-, hw, ho2, hc⟩ := R_at (k := 4) (by unfold vp_in; decide) h ho hr
  obtain ⟨-, hw3, ho3, hc3⟩ := R_at (k := 3) (by unfold vp_in; decide) hw ho2 hc
  have z : (m_M_init 4 md).2 = 0 := by rw [Mi_4]
  have z2 : mAt 4 w = ((mAt 4 w).1, 0) := by rw [A_4 hr]
  have z3 : mAt 3 (mAt 4 w).1 = ((mAt 3 (mAt 4 w).1).1, 0) := by rw [A_3 hc]
  have oc : m_Acts_outcome 9 a w = m_Acts_told 9 a (mAt 3 (mAt 4 w).1).1 := out_ok (by rw [Af_9]; exact z2) (by rw [At_9]; exact z3)
  have hq : 0 ≤ (m_M_init (m_M_asked 9) md).2 := by rw [Mk_9, z]; decide
  have hv : gVa (mAt 3 (mAt 4 w).1).1 (3 : Int32).toNatClampNeg = 4 := hc3.2.2.2.2.1 (sd_3 hc)
  have h4 : gSt (mAt 3 (mAt 4 w).1).1 4 = 2 := by
    rw [A_3 hc]
    show gSt (xAlone 3 4 (mAt 4 w).1) 4 = 2
    unfold xAlone
    split
    · show gSt (s2 3 (vv 3 4 (wr 4 (s1 3 (mAt 4 w).1)))) 4 = 2
      rw [show gSt (s2 3 (vv 3 4 (wr 4 (s1 3 (mAt 4 w).1)))) 4 = gSt (wr 4 (s1 3 (mAt 4 w).1)) 4 from pk_un (f := gSt (wr 4 (s1 3 (mAt 4 w).1))) (x := 2) (k := (3 : Int32).toNatClampNeg) (j := 4) (by decide)]
      rw [show gSt (wr 4 (s1 3 (mAt 4 w).1)) = gSt (s1 3 (mAt 4 w).1) from wr_st _ _]
      exact (pk_un (f := gSt (mAt 4 w).1) (x := 1) (k := (3 : Int32).toNatClampNeg) (j := 4) (by decide)).trans (sd_4 hr)
    · exact sd_4 hr
  have hv4 : gVa (mAt 3 (mAt 4 w).1).1 (4 : Int32).toNatClampNeg = 15 := hc3.2.2.2.2.2.1 h4
  rw [oc, To_9, hv, hv4]
  rw [Mi_3] at hw3
  by_cases hp : (a &&& (1 : Int32)) = 0
  · rw [Ma_9e (WF_pos h) hp hq, Mk_9]
    exact ⟨(by decide : (15 : Int32) + 4 = 19), hw3, ho3, hc3⟩
  · rw [Ma_9o (WF_pos h) hp hq, Mk_9]
    exact ⟨(by decide : (15 : Int32) + 4 = 19), hw3, ho3, hc3⟩
theorem R_act_18 {w : MW} {md m1 : MM} {j c : Nat} {a : Int32} (h : WF w md m1 j) (ho : ok c w) (hr : CR w) : SA c j m1 (m_Acts_outcome 18 a w) (m_M_act 18 a md) := by
  obtain ⟨-, hw, ho2, hc⟩ := R_at (k := 12) (by unfold vp_in; decide) h ho hr
  obtain ⟨-, hw3, ho3, hc3⟩ := R_at (k := 13) (by unfold vp_in; decide) hw ho2 hc
  have z : (m_M_init 12 md).2 = 0 := by rw [Mi_12]
  have z2 : mAt 12 w = ((mAt 12 w).1, 0) := by rw [A_12 hr]
  have z3 : mAt 13 (mAt 12 w).1 = ((mAt 13 (mAt 12 w).1).1, 0) := by rw [A_13 hc]
  have oc : m_Acts_outcome 18 a w = m_Acts_told 18 a (mAt 13 (mAt 12 w).1).1 := out_ok (by rw [Af_18]; exact z2) (by rw [At_18]; exact z3)
  have hq : 0 ≤ (m_M_init (m_M_asked 18) md).2 := by rw [Mk_18, z]; decide
  rw [oc, To_18]
  rw [Mi_13] at hw3
  by_cases hp : (a &&& (1 : Int32)) = 0
  · rw [Ma_18e (WF_pos h) hp hq, Mk_18]
    exact ⟨rfl, hw3, ho3, hc3⟩
  · rw [Ma_18o (WF_pos h) hp hq, Mk_18]
    exact ⟨rfl, hw3, ho3, hc3⟩
theorem leaf_again {w : MW} {md m1 : MM} {j : Nat} (h : WF w md m1 j) (g : stt w 2 = 2) : m_M_init 2 md = (md, 0) := by
  rw [Mi_2]
  unfold m_M_initLeaf
  rw [WF_begin_n (k := 2) 2 (by decide) (by decide) h (by rw [g]; decide)]
  rfl
theorem R_con4 {w : MW} {md m1 : MM} {j c : Nat} (h : WF w md m1 j) (ho : ok (c + 4) w) (hr : CR w) : WF (wr 23 (wr 22 (wr 21 (wr 20 w)))) (m_M_write 23 (m_M_write 22 (m_M_write 21 (m_M_write 20 md)))) m1 j ∧ ok c (wr 23 (wr 22 (wr 21 (wr 20 w)))) ∧ CR (wr 23 (wr 22 (wr 21 (wr 20 w)))) := by
  have o1 : ok (c + 3) (wr 20 w) := ok_write (c := c + 3) ho
  have o2 : ok (c + 2) (wr 21 (wr 20 w)) := ok_write (c := c + 2) o1
  have o3 : ok (c + 1) (wr 22 (wr 21 (wr 20 w))) := ok_write (c := c + 1) o2
  have o4 : ok c (wr 23 (wr 22 (wr 21 (wr 20 w)))) := ok_write (c := c) o3
  exact ⟨WF_write (WF_write (WF_write (WF_write h ho) o1) o2) o3, o4, CR_wr (CR_wr (CR_wr (CR_wr hr)))⟩
theorem cre_2 {md md2 : MM} (e : m_M_init 2 md = (md2, 0)) : m_M_create 2 md = m_M_write 23 (m_M_write 22 (m_M_write 21 (m_M_write 20 md2))) := by
  unfold m_M_create
  rw [e]
  exact if_neg (by decide)
theorem S_26 {w w2 : MW} {md md2 m1 : MM} {j c : Nat} (h : WF w md m1 j) (ho : ok (c + 4) w) (hr : CR w) (g : stt w 2 = 2) (e2 : w2 = wr 23 (wr 22 (wr 21 (wr 20 w)))) (em : md2 = m_M_write 23 (m_M_write 22 (m_M_write 21 (m_M_write 20 md)))) : SA c j m1 (w2, 1) (md2, 1) := by
  obtain ⟨q1, q2, q3⟩ := R_con4 h ho hr
  rw [← e2] at q1 q2 q3
  rw [← em] at q1
  exact ⟨rfl, q1, q2, q3⟩
theorem R_act_26 {w : MW} {md m1 : MM} {j c : Nat} {a : Int32} (h : WF w md m1 j) (ho : ok (c + 4) w) (hr : CR w) : SA c j m1 (m_Acts_outcome 26 a w) (m_M_act 26 a md) := by
  obtain ⟨-, hw, ho2, hc⟩ := R_at (k := 2) (by unfold vp_in; decide) h ho hr
  have z : (m_M_init 2 md).2 = 0 := by rw [Mi_2]
  have z2 : mAt 2 w = ((mAt 2 w).1, 0) := by rw [A_2 hr]
  have oc : m_Acts_outcome 26 a w = m_Acts_told 26 a (mAt 2 w).1 := out_ok (by rw [Af_26]; exact z2) (by rw [At_26]; exact mAt_none)
  have hq : 0 ≤ (m_M_init (m_M_asked 26) md).2 := by rw [Mk_26, z]; decide
  have hs : stt (mAt 2 w).1 2 = 2 := sd_2 hr
  rw [oc, To_26]
  by_cases hp : (a &&& (1 : Int32)) = 0
  · rw [Ma_26e (WF_pos h) hp hq, Mk_26]
    exact S_26 hw ho2 hc hs con_2 (cre_2 (leaf_again hw hs))
  · rw [Ma_26o (WF_pos h) hp hq, Mk_26]
    exact S_26 hw ho2 hc hs con_2 (cre_2 (leaf_again hw hs))
theorem lit30 {k : Int32} (h : vp_in k 30) : k = 0 ∨ k = 1 ∨ k = 2 ∨ k = 3 ∨ k = 4 ∨ k = 5 ∨ k = 6 ∨ k = 7 ∨ k = 8 ∨ k = 9 ∨ k = 10 ∨ k = 11 ∨ k = 12 ∨ k = 13 ∨ k = 14 ∨ k = 15 ∨ k = 16 ∨ k = 17 ∨ k = 18 ∨ k = 19 ∨ k = 20 ∨ k = 21 ∨ k = 22 ∨ k = 23 ∨ k = 24 ∨ k = 25 ∨ k = 26 ∨ k = 27 ∨ k = 28 ∨ k = 29 := by
  obtain ⟨i, hi, rfl⟩ := vp_in_of h (by decide)
  rcases (show i = 0 ∨ i = 1 ∨ i = 2 ∨ i = 3 ∨ i = 4 ∨ i = 5 ∨ i = 6 ∨ i = 7 ∨ i = 8 ∨ i = 9 ∨ i = 10 ∨ i = 11 ∨ i = 12 ∨ i = 13 ∨ i = 14 ∨ i = 15 ∨ i = 16 ∨ i = 17 ∨ i = 18 ∨ i = 19 ∨ i = 20 ∨ i = 21 ∨ i = 22 ∨ i = 23 ∨ i = 24 ∨ i = 25 ∨ i = 26 ∨ i = 27 ∨ i = 28 ∨ i = 29 by omega) with rfl | rfl | rfl | rfl | rfl | rfl | rfl | rfl | rfl | rfl | rfl | rfl | rfl | rfl | rfl | rfl | rfl | rfl | rfl | rfl | rfl | rfl | rfl | rfl | rfl | rfl | rfl | rfl | rfl | rfl
  · exact Or.inl rfl
  · exact Or.inr (Or.inl rfl)
  · exact Or.inr (Or.inr (Or.inl rfl))
  · exact Or.inr (Or.inr (Or.inr (Or.inl rfl)))
  · exact Or.inr (Or.inr (Or.inr (Or.inr (Or.inl rfl))))
  · exact Or.inr (Or.inr (Or.inr (Or.inr (Or.inr (Or.inl rfl)))))
  · exact Or.inr (Or.inr (Or.inr (Or.inr (Or.inr (Or.inr (Or.inl rfl))))))
  · exact Or.inr (Or.inr (Or.inr (Or.inr (Or.inr (Or.inr (Or.inr (Or.inl rfl)))))))
  · exact Or.inr (Or.inr (Or.inr (Or.inr (Or.inr (Or.inr (Or.inr (Or.inr (Or.inl rfl))))))))
  · exact Or.inr (Or.inr (Or.inr (Or.inr (Or.inr (Or.inr (Or.inr (Or.inr (Or.inr (Or.inl rfl)))))))))
  · exact Or.inr (Or.inr (Or.inr (Or.inr (Or.inr (Or.inr (Or.inr (Or.inr (Or.inr (Or.inr (Or.inl rfl))))))))))
  · exact Or.inr (Or.inr (Or.inr (Or.inr (Or.inr (Or.inr (Or.inr (Or.inr (Or.inr (Or.inr (Or.inr (Or.inl rfl)))))))))))
  · exact Or.inr (Or.inr (Or.inr (Or.inr (Or.inr (Or.inr (Or.inr (Or.inr (Or.inr (Or.inr (Or.inr (Or.inr (Or.inl rfl))))))))))))
  · exact Or.inr (Or.inr (Or.inr (Or.inr (Or.inr (Or.inr (Or.inr (Or.inr (Or.inr (Or.inr (Or.inr (Or.inr (Or.inr (Or.inl rfl)))))))))))))
  · exact Or.inr (Or.inr (Or.inr (Or.inr (Or.inr (Or.inr (Or.inr (Or.inr (Or.inr (Or.inr (Or.inr (Or.inr (Or.inr (Or.inr (Or.inl rfl))))))))))))))
  · exact Or.inr (Or.inr (Or.inr (Or.inr (Or.inr (Or.inr (Or.inr (Or.inr (Or.inr (Or.inr (Or.inr (Or.inr (Or.inr (Or.inr (Or.inr (Or.inl rfl)))))))))))))))
  · exact Or.inr (Or.inr (Or.inr (Or.inr (Or.inr (Or.inr (Or.inr (Or.inr (Or.inr (Or.inr (Or.inr (Or.inr (Or.inr (Or.inr (Or.inr (Or.inr (Or.inl rfl))))))))))))))))
  · exact Or.inr (Or.inr (Or.inr (Or.inr (Or.inr (Or.inr (Or.inr (Or.inr (Or.inr (Or.inr (Or.inr (Or.inr (Or.inr (Or.inr (Or.inr (Or.inr (Or.inr (Or.inl rfl)))))))))))))))))
  · exact Or.inr (Or.inr (Or.inr (Or.inr (Or.inr (Or.inr (Or.inr (Or.inr (Or.inr (Or.inr (Or.inr (Or.inr (Or.inr (Or.inr (Or.inr (Or.inr (Or.inr (Or.inr (Or.inl rfl))))))))))))))))))
  · exact Or.inr (Or.inr (Or.inr (Or.inr (Or.inr (Or.inr (Or.inr (Or.inr (Or.inr (Or.inr (Or.inr (Or.inr (Or.inr (Or.inr (Or.inr (Or.inr (Or.inr (Or.inr (Or.inr (Or.inl rfl)))))))))))))))))))
  · exact Or.inr (Or.inr (Or.inr (Or.inr (Or.inr (Or.inr (Or.inr (Or.inr (Or.inr (Or.inr (Or.inr (Or.inr (Or.inr (Or.inr (Or.inr (Or.inr (Or.inr (Or.inr (Or.inr (Or.inr (Or.inl rfl))))))))))))))))))))
  · exact Or.inr (Or.inr (Or.inr (Or.inr (Or.inr (Or.inr (Or.inr (Or.inr (Or.inr (Or.inr (Or.inr (Or.inr (Or.inr (Or.inr (Or.inr (Or.inr (Or.inr (Or.inr (Or.inr (Or.inr (Or.inr (Or.inl rfl)))))))))))))))))))))
  · exact Or.inr (Or.inr (Or.inr (Or.inr (Or.inr (Or.inr (Or.inr (Or.inr (Or.inr (Or.inr (Or.inr (Or.inr (Or.inr (Or.inr (Or.inr (Or.inr (Or.inr (Or.inr (Or.inr (Or.inr (Or.inr (Or.inr (Or.inl rfl))))))))))))))))))))))
  · exact Or.inr (Or.inr (Or.inr (Or.inr (Or.inr (Or.inr (Or.inr (Or.inr (Or.inr (Or.inr (Or.inr (Or.inr (Or.inr (Or.inr (Or.inr (Or.inr (Or.inr (Or.inr (Or.inr (Or.inr (Or.inr (Or.inr (Or.inr (Or.inl rfl)))))))))))))))))))))))
  · exact Or.inr (Or.inr (Or.inr (Or.inr (Or.inr (Or.inr (Or.inr (Or.inr (Or.inr (Or.inr (Or.inr (Or.inr (Or.inr (Or.inr (Or.inr (Or.inr (Or.inr (Or.inr (Or.inr (Or.inr (Or.inr (Or.inr (Or.inr (Or.inr (Or.inl rfl))))))))))))))))))))))))
  · exact Or.inr (Or.inr (Or.inr (Or.inr (Or.inr (Or.inr (Or.inr (Or.inr (Or.inr (Or.inr (Or.inr (Or.inr (Or.inr (Or.inr (Or.inr (Or.inr (Or.inr (Or.inr (Or.inr (Or.inr (Or.inr (Or.inr (Or.inr (Or.inr (Or.inr (Or.inl rfl)))))))))))))))))))))))))
  · exact Or.inr (Or.inr (Or.inr (Or.inr (Or.inr (Or.inr (Or.inr (Or.inr (Or.inr (Or.inr (Or.inr (Or.inr (Or.inr (Or.inr (Or.inr (Or.inr (Or.inr (Or.inr (Or.inr (Or.inr (Or.inr (Or.inr (Or.inr (Or.inr (Or.inr (Or.inr (Or.inl rfl))))))))))))))))))))))))))
  · exact Or.inr (Or.inr (Or.inr (Or.inr (Or.inr (Or.inr (Or.inr (Or.inr (Or.inr (Or.inr (Or.inr (Or.inr (Or.inr (Or.inr (Or.inr (Or.inr (Or.inr (Or.inr (Or.inr (Or.inr (Or.inr (Or.inr (Or.inr (Or.inr (Or.inr (Or.inr (Or.inr (Or.inl rfl)))))))))))))))))))))))))))
  · exact Or.inr (Or.inr (Or.inr (Or.inr (Or.inr (Or.inr (Or.inr (Or.inr (Or.inr (Or.inr (Or.inr (Or.inr (Or.inr (Or.inr (Or.inr (Or.inr (Or.inr (Or.inr (Or.inr (Or.inr (Or.inr (Or.inr (Or.inr (Or.inr (Or.inr (Or.inr (Or.inr (Or.inr (Or.inl rfl))))))))))))))))))))))))))))
  · exact Or.inr (Or.inr (Or.inr (Or.inr (Or.inr (Or.inr (Or.inr (Or.inr (Or.inr (Or.inr (Or.inr (Or.inr (Or.inr (Or.inr (Or.inr (Or.inr (Or.inr (Or.inr (Or.inr (Or.inr (Or.inr (Or.inr (Or.inr (Or.inr (Or.inr (Or.inr (Or.inr (Or.inr (Or.inr (rfl)))))))))))))))))))))))))))))
theorem lit17 {k : Int32} (h : vp_in k 17) : k = 0 ∨ k = 1 ∨ k = 2 ∨ k = 3 ∨ k = 4 ∨ k = 5 ∨ k = 6 ∨ k = 7 ∨ k = 8 ∨ k = 9 ∨ k = 10 ∨ k = 11 ∨ k = 12 ∨ k = 13 ∨ k = 14 ∨ k = 15 ∨ k = 16 := by
  obtain ⟨i, hi, rfl⟩ := vp_in_of h (by decide)
  rcases (show i = 0 ∨ i = 1 ∨ i = 2 ∨ i = 3 ∨ i = 4 ∨ i = 5 ∨ i = 6 ∨ i = 7 ∨ i = 8 ∨ i = 9 ∨ i = 10 ∨ i = 11 ∨ i = 12 ∨ i = 13 ∨ i = 14 ∨ i = 15 ∨ i = 16 by omega) with rfl | rfl | rfl | rfl | rfl | rfl | rfl | rfl | rfl | rfl | rfl | rfl | rfl | rfl | rfl | rfl | rfl
  · exact Or.inl rfl
  · exact Or.inr (Or.inl rfl)
  · exact Or.inr (Or.inr (Or.inl rfl))
  · exact Or.inr (Or.inr (Or.inr (Or.inl rfl)))
  · exact Or.inr (Or.inr (Or.inr (Or.inr (Or.inl rfl))))
  · exact Or.inr (Or.inr (Or.inr (Or.inr (Or.inr (Or.inl rfl)))))
  · exact Or.inr (Or.inr (Or.inr (Or.inr (Or.inr (Or.inr (Or.inl rfl))))))
  · exact Or.inr (Or.inr (Or.inr (Or.inr (Or.inr (Or.inr (Or.inr (Or.inl rfl)))))))
  · exact Or.inr (Or.inr (Or.inr (Or.inr (Or.inr (Or.inr (Or.inr (Or.inr (Or.inl rfl))))))))
  · exact Or.inr (Or.inr (Or.inr (Or.inr (Or.inr (Or.inr (Or.inr (Or.inr (Or.inr (Or.inl rfl)))))))))
  · exact Or.inr (Or.inr (Or.inr (Or.inr (Or.inr (Or.inr (Or.inr (Or.inr (Or.inr (Or.inr (Or.inl rfl))))))))))
  · exact Or.inr (Or.inr (Or.inr (Or.inr (Or.inr (Or.inr (Or.inr (Or.inr (Or.inr (Or.inr (Or.inr (Or.inl rfl)))))))))))
  · exact Or.inr (Or.inr (Or.inr (Or.inr (Or.inr (Or.inr (Or.inr (Or.inr (Or.inr (Or.inr (Or.inr (Or.inr (Or.inl rfl))))))))))))
  · exact Or.inr (Or.inr (Or.inr (Or.inr (Or.inr (Or.inr (Or.inr (Or.inr (Or.inr (Or.inr (Or.inr (Or.inr (Or.inr (Or.inl rfl)))))))))))))
  · exact Or.inr (Or.inr (Or.inr (Or.inr (Or.inr (Or.inr (Or.inr (Or.inr (Or.inr (Or.inr (Or.inr (Or.inr (Or.inr (Or.inr (Or.inl rfl))))))))))))))
  · exact Or.inr (Or.inr (Or.inr (Or.inr (Or.inr (Or.inr (Or.inr (Or.inr (Or.inr (Or.inr (Or.inr (Or.inr (Or.inr (Or.inr (Or.inr (Or.inl rfl)))))))))))))))
  · exact Or.inr (Or.inr (Or.inr (Or.inr (Or.inr (Or.inr (Or.inr (Or.inr (Or.inr (Or.inr (Or.inr (Or.inr (Or.inr (Or.inr (Or.inr (Or.inr (rfl))))))))))))))))
theorem lit6 {k : Int32} (h : vp_in k 6) : k = 0 ∨ k = 1 ∨ k = 2 ∨ k = 3 ∨ k = 4 ∨ k = 5 := by
  obtain ⟨i, hi, rfl⟩ := vp_in_of h (by decide)
  rcases (show i = 0 ∨ i = 1 ∨ i = 2 ∨ i = 3 ∨ i = 4 ∨ i = 5 by omega) with rfl | rfl | rfl | rfl | rfl | rfl
  · exact Or.inl rfl
  · exact Or.inr (Or.inl rfl)
  · exact Or.inr (Or.inr (Or.inl rfl))
  · exact Or.inr (Or.inr (Or.inr (Or.inl rfl)))
  · exact Or.inr (Or.inr (Or.inr (Or.inr (Or.inl rfl))))
  · exact Or.inr (Or.inr (Or.inr (Or.inr (Or.inr (rfl)))))
theorem R_act {w : MW} {md m1 : MM} {j c : Nat} {k a : Int32} (h : WF w md m1 j) (ho : ok (c + 4) w) (hr : CR w) : SA c j m1 (m_act_1 k a w) (m_M_act k a md) := by
  by_cases g : m_Acts_isThere k = 0
  · have g2 : m_M_in k 30 = 0 := g
    unfold m_act_1 m_M_act
    rw [if_pos g, if_pos g2]
    exact ⟨rfl, h, ok_mono ho (by omega), hr⟩
  · have e : m_act_1 k a w = m_Acts_outcome k a w := by unfold m_act_1; rw [if_neg g]
    rw [e]
    have hk : vp_in k 30 := mIn_in (n := 30) (N := 30) (by decide) g
    have o2 : ok c w := ok_mono ho (by omega)
    clear e g
    rcases lit30 hk with rfl | rfl | rfl | rfl | rfl | rfl | rfl | rfl | rfl | rfl | rfl | rfl | rfl | rfl | rfl | rfl | rfl | rfl | rfl | rfl | rfl | rfl | rfl | rfl | rfl | rfl | rfl | rfl | rfl | rfl
    · exact R_act_0 h o2 hr
    · exact R_act_1 h o2 hr
    · exact R_act_2 h o2 hr
    · exact R_act_3 h o2 hr
    · exact R_act_4 h o2 hr
    · exact R_act_5 h o2 hr
    · exact R_act_6 h o2 hr
    · exact R_act_7 h o2 hr
    · exact R_act_8 h o2 hr
    · exact R_act_9 h o2 hr
    · exact R_act_10 h o2 hr
    · exact R_act_11 h o2 hr
    · exact R_act_12 h o2 hr
    · exact R_act_13 h o2 hr
    · exact R_act_14 h o2 hr
    · exact R_act_15 h o2 hr
    · exact R_act_16 h o2 hr
    · exact R_act_17 h o2 hr
    · exact R_act_18 h o2 hr
    · exact R_act_19 h o2 hr
    · exact R_act_20 h o2 hr
    · exact R_act_21 h o2 hr
    · exact R_act_22 h o2 hr
    · exact R_act_23 h o2 hr
    · exact R_act_24 h o2 hr
    · exact R_act_25 h o2 hr
    · exact R_act_26 h ho hr
    · exact R_act_27 h o2 hr
    · exact R_act_28 h o2 hr
    · exact R_act_29 h o2 hr

-- THE ACTS THAT TELL A CONSTANT OF A CLASS
theorem R_act_4 {w : MW} {md m1 : MM} {j c : Nat} {a : Int32} (h : WF w md m1 j) (ho : ok c w) (hr : CR w) : SA c j m1 (m_Acts_outcome 4 a w) (m_M_act 4 a md) := by
  obtain ⟨-, hw, ho2, hc⟩ := R_at (k := 2) (by unfold vp_in; decide) h ho hr
  have z : (m_M_init 2 md).2 = 0 := by rw [Mi_2]
  have z2 : mAt 2 w = ((mAt 2 w).1, 0) := by rw [A_2 hr]
  have oc : m_Acts_outcome 4 a w = m_Acts_told 4 a (mAt 2 w).1 := out_ok (by rw [Af_4]; exact z2) (by rw [At_4]; exact mAt_none)
  have hq : 0 ≤ (m_M_init (m_M_asked 4) md).2 := by rw [Mk_4, z]; decide
  have hv : gVa (mAt 2 w).1 2 = 6 := hc.2.2.2.1 (sd_2 hr)
  rw [oc, To_4]
  by_cases hp : (a &&& (1 : Int32)) = 0
  · rw [Ma_4e (WF_pos h) hp hq, Mk_4]
    exact ⟨hv, hw, ho2, hc⟩
  · rw [Ma_4o (WF_pos h) hp hq, Mk_4]
    exact ⟨hv, hw, ho2, hc⟩
theorem R_act_7 {w : MW} {md m1 : MM} {j c : Nat} {a : Int32} (h : WF w md m1 j) (ho : ok c w) (hr : CR w) : SA c j m1 (m_Acts_outcome 7 a w) (m_M_act 7 a md) := by
  obtain ⟨-, hw, ho2, hc⟩ := R_at (k := 3) (by unfold vp_in; decide) h ho hr
  have z : (m_M_init 3 md).2 = 0 := by rw [Mi_3]
  have z2 : mAt 3 w = ((mAt 3 w).1, 0) := by rw [A_3 hr]
  have oc : m_Acts_outcome 7 a w = m_Acts_told 7 a (mAt 3 w).1 := out_ok (by rw [Af_7]; exact z2) (by rw [At_7]; exact mAt_none)
  have hq : 0 ≤ (m_M_init (m_M_asked 7) md).2 := by rw [Mk_7, z]; decide
  have hv : gVa (mAt 3 w).1 3 = 4 := hc.2.2.2.2.1 (sd_3 hr)
  rw [oc, To_7]
  by_cases hp : (a &&& (1 : Int32)) = 0
  · rw [Ma_7e (WF_pos h) hp hq, Mk_7]
    exact ⟨hv, hw, ho2, hc⟩
  · rw [Ma_7o (WF_pos h) hp hq, Mk_7]
    exact ⟨hv, hw, ho2, hc⟩
theorem R_act_8 {w : MW} {md m1 : MM} {j c : Nat} {a : Int32} (h : WF w md m1 j) (ho : ok c w) (hr : CR w) : SA c j m1 (m_Acts_outcome 8 a w) (m_M_act 8 a md) := by
  obtain ⟨-, hw, ho2, hc⟩ := R_at (k := 3) (by unfold vp_in; decide) h ho hr
  have z : (m_M_init 3 md).2 = 0 := by rw [Mi_3]
  have z2 : mAt 3 w = ((mAt 3 w).1, 0) := by rw [A_3 hr]
  have oc : m_Acts_outcome 8 a w = m_Acts_told 8 a (mAt 3 w).1 := out_ok (by rw [Af_8]; exact z2) (by rw [At_8]; exact mAt_none)
  have hq : 0 ≤ (m_M_init (m_M_asked 8) md).2 := by rw [Mk_8, z]; decide
  have hv : gVa (mAt 3 w).1 3 = 4 := hc.2.2.2.2.1 (sd_3 hr)
  rw [oc, To_8]
  by_cases hp : (a &&& (1 : Int32)) = 0
  · rw [Ma_8e (WF_pos h) hp hq, Mk_8]
    exact ⟨hv, hw, ho2, hc⟩
  · rw [Ma_8o (WF_pos h) hp hq, Mk_8]
    exact ⟨hv, hw, ho2, hc⟩
theorem R_act_28 {w : MW} {md m1 : MM} {j c : Nat} {a : Int32} (h : WF w md m1 j) (ho : ok c w) (hr : CR w) : SA c j m1 (m_Acts_outcome 28 a w) (m_M_act 28 a md) := by
  obtain ⟨-, hw, ho2, hc⟩ := R_at (k := 5) (by unfold vp_in; decide) h ho hr
  have z : (m_M_init 5 md).2 = 0 := by rw [Mi_5]
  have z2 : mAt 5 w = ((mAt 5 w).1, 0) := by rw [A_5 hr]
  have oc : m_Acts_outcome 28 a w = m_Acts_told 28 a (mAt 5 w).1 := out_ok (by rw [Af_28]; exact z2) (by rw [At_28]; exact mAt_none)
  have hq : 0 ≤ (m_M_init (m_M_asked 28) md).2 := by rw [Mk_28, z]; decide
  have hv : gVa (mAt 5 w).1 5 = 5 := hc.2.2.2.2.2.2.1 (sd_5 hr)
  rw [oc, To_28]
  by_cases hp : (a &&& (1 : Int32)) = 0
  · rw [Ma_28e (WF_pos h) hp hq, Mk_28]
    exact ⟨hv, hw, ho2, hc⟩
  · rw [Ma_28o (WF_pos h) hp hq, Mk_28]
    exact ⟨hv, hw, ho2, hc⟩
theorem R_act_11 {w : MW} {md m1 : MM} {j c : Nat} {a : Int32} (h : WF w md m1 j) (ho : ok c w) (hr : CR w) : SA c j m1 (m_Acts_outcome 11 a w) (m_M_act 11 a md) := by
  obtain ⟨-, hw, ho2, hc⟩ := R_at (k := 6) (by unfold vp_in; decide) h ho hr
  have z : (m_M_init 6 md).2 = 0 := by rw [Mi_6]
  have z2 : mAt 6 w = ((mAt 6 w).1, 0) := by rw [A_6 hr]
  have oc : m_Acts_outcome 11 a w = m_Acts_told 11 a (mAt 6 w).1 := out_ok (by rw [Af_11]; exact z2) (by rw [At_11]; exact mAt_none)
  have hq : 0 ≤ (m_M_init (m_M_asked 11) md).2 := by rw [Mk_11, z]; decide
  have hv : gVa (mAt 6 w).1 6 = 11 := hc.2.2.2.2.2.2.2.1 (sd_6 hr)
  rw [oc, To_11]
  by_cases hp : (a &&& (1 : Int32)) = 0
  · rw [Ma_11e (WF_pos h) hp hq, Mk_11]
    exact ⟨hv, hw, ho2, hc⟩
  · rw [Ma_11o (WF_pos h) hp hq, Mk_11]
    exact ⟨hv, hw, ho2, hc⟩
theorem R_act_3 {w : MW} {md m1 : MM} {j c : Nat} {a : Int32} (h : WF w md m1 j) (ho : ok c w) (hr : CR w) : SA c j m1 (m_Acts_outcome 3 a w) (m_M_act 3 a md) := by
  have oc : m_Acts_outcome 3 a w = m_Acts_told 3 a w := out_ok (by rw [Af_3]; exact mAt_none) (by rw [At_3]; exact mAt_none)
  rw [oc, To_3]
  by_cases hp : (a &&& (1 : Int32)) = 0
  · rw [Ma_3e (WF_pos h) hp]
    exact ⟨rfl, h, ho, hr⟩
  · rw [Ma_3o (WF_pos h) hp]
    exact ⟨rfl, h, ho, hr⟩
theorem R_act_5 {w : MW} {md m1 : MM} {j c : Nat} {a : Int32} (h : WF w md m1 j) (ho : ok c w) (hr : CR w) : SA c j m1 (m_Acts_outcome 5 a w) (m_M_act 5 a md) := by
  have oc : m_Acts_outcome 5 a w = m_Acts_told 5 a w := out_ok (by rw [Af_5]; exact mAt_none) (by rw [At_5]; exact mAt_none)
  rw [oc, To_5]
  by_cases hp : (a &&& (1 : Int32)) = 0
  · rw [Ma_5e (WF_pos h) hp]
    exact ⟨rfl, h, ho, hr⟩
  · rw [Ma_5o (WF_pos h) hp]
    exact ⟨rfl, h, ho, hr⟩
theorem R_act_6 {w : MW} {md m1 : MM} {j c : Nat} {a : Int32} (h : WF w md m1 j) (ho : ok c w) (hr : CR w) : SA c j m1 (m_Acts_outcome 6 a w) (m_M_act 6 a md) := by
  have oc : m_Acts_outcome 6 a w = m_Acts_told 6 a w := out_ok (by rw [Af_6]; exact mAt_none) (by rw [At_6]; exact mAt_none)
  rw [oc, To_6]
  by_cases hp : (a &&& (1 : Int32)) = 0
  · rw [Ma_6e (WF_pos h) hp]
    exact ⟨rfl, h, ho, hr⟩
  · rw [Ma_6o (WF_pos h) hp]
    exact ⟨rfl, h, ho, hr⟩
theorem R_act_13 {w : MW} {md m1 : MM} {j c : Nat} {a : Int32} (h : WF w md m1 j) (ho : ok c w) (hr : CR w) : SA c j m1 (m_Acts_outcome 13 a w) (m_M_act 13 a md) := by
  have oc : m_Acts_outcome 13 a w = m_Acts_told 13 a w := out_ok (by rw [Af_13]; exact mAt_none) (by rw [At_13]; exact mAt_none)
  rw [oc, To_13]
  by_cases hp : (a &&& (1 : Int32)) = 0
  · rw [Ma_13e (WF_pos h) hp]
    exact ⟨rfl, h, ho, hr⟩
  · rw [Ma_13o (WF_pos h) hp]
    exact ⟨rfl, h, ho, hr⟩
theorem R_act_23 {w : MW} {md m1 : MM} {j c : Nat} {a : Int32} (h : WF w md m1 j) (ho : ok c w) (hr : CR w) : SA c j m1 (m_Acts_outcome 23 a w) (m_M_act 23 a md) := by
  have oc : m_Acts_outcome 23 a w = m_Acts_told 23 a w := out_ok (by rw [Af_23]; exact mAt_none) (by rw [At_23]; exact mAt_none)
  rw [oc, To_23]
  by_cases hp : (a &&& (1 : Int32)) = 0
  · rw [Ma_23e (WF_pos h) hp]
    exact ⟨rfl, h, ho, hr⟩
  · rw [Ma_23o (WF_pos h) hp]
    exact ⟨rfl, h, ho, hr⟩
theorem R_act_1 {w : MW} {md m1 : MM} {j c : Nat} {a : Int32} (h : WF w md m1 j) (ho : ok c w) (hr : CR w) : SA c j m1 (m_Acts_outcome 1 a w) (m_M_act 1 a md) := by
  obtain ⟨-, hw, ho2, hc⟩ := R_at (k := 0) (by unfold vp_in; decide) h ho hr
  have z : (m_M_init 0 md).2 = 0 := by rw [Mi_0]
  have z2 : mAt 0 w = ((mAt 0 w).1, 0) := by rw [A_0 hr]
  have oc : m_Acts_outcome 1 a w = m_Acts_told 1 a (mAt 0 w).1 := out_ok (by rw [Af_1]; exact z2) (by rw [At_1]; exact mAt_none)
  have hq : 0 ≤ (m_M_init (m_M_asked 1) md).2 := by rw [Mk_1, z]; decide
  rw [oc, To_1]
  by_cases hp : (a &&& (1 : Int32)) = 0
  · rw [Ma_1e (WF_pos h) hp hq, Mk_1]
    exact ⟨(by show gVa _ _ = _; rw [WF_c hw]; exact (hw.2.2.1.2.2.1).symm), hw, ho2, hc⟩
  · rw [Ma_1o (WF_pos h) hp hq, Mk_1]
    exact ⟨(by show gVa _ _ = _; rw [WF_c hw]; exact (hw.2.2.1.2.2.1).symm), hw, ho2, hc⟩
theorem R_act_24 {w : MW} {md m1 : MM} {j c : Nat} {a : Int32} (h : WF w md m1 j) (ho : ok c w) (hr : CR w) : SA c j m1 (m_Acts_outcome 24 a w) (m_M_act 24 a md) := by
  obtain ⟨-, hw, ho2, hc⟩ := R_at (k := 1) (by unfold vp_in; decide) h ho hr
  have z : (m_M_init 1 md).2 = 0 := by rw [Mi_1]
  have z2 : mAt 1 w = ((mAt 1 w).1, 0) := by rw [A_1 hr]
  have oc : m_Acts_outcome 24 a w = m_Acts_told 24 a (mAt 1 w).1 := out_ok (by rw [Af_24]; exact z2) (by rw [At_24]; exact mAt_none)
  have hq : 0 ≤ (m_M_init (m_M_asked 24) md).2 := by rw [Mk_24, z]; decide
  rw [oc, To_24]
  by_cases hp : (a &&& (1 : Int32)) = 0
  · rw [Ma_24e (WF_pos h) hp hq, Mk_24]
    exact ⟨(by show gVa _ _ = _; rw [WF_c hw]; exact (hw.2.2.1.2.2.2.1).symm), hw, ho2, hc⟩
  · rw [Ma_24o (WF_pos h) hp hq, Mk_24]
    exact ⟨(by show gVa _ _ = _; rw [WF_c hw]; exact (hw.2.2.1.2.2.2.1).symm), hw, ho2, hc⟩
theorem R_act_27 {w : MW} {md m1 : MM} {j c : Nat} {a : Int32} (h : WF w md m1 j) (ho : ok c w) (hr : CR w) : SA c j m1 (m_Acts_outcome 27 a w) (m_M_act 27 a md) := by
  obtain ⟨-, hw, ho2, hc⟩ := R_at (k := 1) (by unfold vp_in; decide) h ho hr
  have z : (m_M_init 1 md).2 = 0 := by rw [Mi_1]
  have z2 : mAt 1 w = ((mAt 1 w).1, 0) := by rw [A_1 hr]
  have oc : m_Acts_outcome 27 a w = m_Acts_told 27 a (mAt 1 w).1 := out_ok (by rw [Af_27]; exact z2) (by rw [At_27]; exact mAt_none)
  have hq : 0 ≤ (m_M_init (m_M_asked 27) md).2 := by rw [Mk_27, z]; decide
  rw [oc, To_27]
  by_cases hp : (a &&& (1 : Int32)) = 0
  · rw [Ma_27e (WF_pos h) hp hq, Mk_27]
    exact ⟨(by show gVa _ _ = _; rw [WF_c hw]; exact (hw.2.2.1.2.2.2.1).symm), hw, ho2, hc⟩
  · rw [Ma_27o (WF_pos h) hp hq, Mk_27]
    exact ⟨(by show gVa _ _ = _; rw [WF_c hw]; exact (hw.2.2.1.2.2.2.1).symm), hw, ho2, hc⟩
theorem R_act_16 {w : MW} {md m1 : MM} {j c : Nat} {a : Int32} (h : WF w md m1 j) (ho : ok c w) (hr : CR w) : SA c j m1 (m_Acts_outcome 16 a w) (m_M_act 16 a md) := by
  obtain ⟨-, hw, ho2, hc⟩ := R_at (k := 10) (by unfold vp_in; decide) h ho hr
  have z : (m_M_init 10 md).2 = 0 := by rw [Mi_10]
  have z2 : mAt 10 w = ((mAt 10 w).1, 0) := by rw [A_10 hr]
  have oc : m_Acts_outcome 16 a w = m_Acts_told 16 a (mAt 10 w).1 := out_ok (by rw [Af_16]; exact z2) (by rw [At_16]; exact mAt_none)
  have hq : 0 ≤ (m_M_init (m_M_asked 16) md).2 := by rw [Mk_16, z]; decide
  rw [oc, To_16]
  by_cases hp : (a &&& (1 : Int32)) = 0
  · rw [Ma_16e (WF_pos h) hp hq, Mk_16]
    exact ⟨(by show gVa _ _ = _; rw [WF_c hw]; exact (hw.2.2.1.2.2.2.2.1).symm), hw, ho2, hc⟩
  · rw [Ma_16o (WF_pos h) hp hq, Mk_16]
    exact ⟨(by show gVa _ _ = _; rw [WF_c hw]; exact (hw.2.2.1.2.2.2.2.1).symm), hw, ho2, hc⟩
theorem R_act_17 {w : MW} {md m1 : MM} {j c : Nat} {a : Int32} (h : WF w md m1 j) (ho : ok c w) (hr : CR w) : SA c j m1 (m_Acts_outcome 17 a w) (m_M_act 17 a md) := by
  obtain ⟨-, hw, ho2, hc⟩ := R_at (k := 11) (by unfold vp_in; decide) h ho hr
  have z : (m_M_init 11 md).2 = 0 := by rw [Mi_11]
  have z2 : mAt 11 w = ((mAt 11 w).1, 0) := by rw [A_11 hr]
  have oc : m_Acts_outcome 17 a w = m_Acts_told 17 a (mAt 11 w).1 := out_ok (by rw [Af_17]; exact z2) (by rw [At_17]; exact mAt_none)
  have hq : 0 ≤ (m_M_init (m_M_asked 17) md).2 := by rw [Mk_17, z]; decide
  rw [oc, To_17]
  by_cases hp : (a &&& (1 : Int32)) = 0
  · rw [Ma_17e (WF_pos h) hp hq, Mk_17]
    exact ⟨(by show gVa _ _ = _; rw [WF_c hw]; exact (hw.2.2.1.2.2.2.2.2.1).symm), hw, ho2, hc⟩
  · rw [Ma_17o (WF_pos h) hp hq, Mk_17]
    exact ⟨(by show gVa _ _ = _; rw [WF_c hw]; exact (hw.2.2.1.2.2.2.2.2.1).symm), hw, ho2, hc⟩
theorem R_act_10 {w : MW} {md m1 : MM} {j c : Nat} {a : Int32} (h : WF w md m1 j) (ho : ok c w) (hr : CR w) : SA c j m1 (m_Acts_outcome 10 a w) (m_M_act 10 a md) := by
  obtain ⟨-, hw, ho2, hc⟩ := R_at (k := 7) (by unfold vp_in; decide) h ho hr
  have z : (m_M_init 7 md).2 = 0 := by rw [Mi_7]
  have z2 : mAt 7 w = ((mAt 7 w).1, 0) := by rw [A_7 hr]
  have oc : m_Acts_outcome 10 a w = m_Acts_told 10 a (mAt 7 w).1 := out_ok (by rw [Af_10]; exact z2) (by rw [At_10]; exact mAt_none)
  have hq : 0 ≤ (m_M_init (m_M_asked 10) md).2 := by rw [Mk_10, z]; decide
  rw [oc, To_10]
  by_cases hp : (a &&& (1 : Int32)) = 0
  · rw [Ma_10e (WF_pos h) hp hq, Mk_10]
    exact ⟨rfl, hw, ho2, hc⟩
  · rw [Ma_10o (WF_pos h) hp hq, Mk_10]
    exact ⟨rfl, hw, ho2, hc⟩
theorem R_act_29 {w : MW} {md m1 : MM} {j c : Nat} {a : Int32} (h : WF w md m1 j) (ho : ok c w) (hr : CR w) : SA c j m1 (m_Acts_outcome 29 a w) (m_M_act 29 a md) := by
  obtain ⟨-, hw, ho2, hc⟩ := R_at (k := 14) (by unfold vp_in; decide) h ho hr
  have z : (m_M_init 14 md).2 = 0 := by rw [Mi_14]
  have z2 : mAt 14 w = ((mAt 14 w).1, 0) := by rw [A_14 hr]
  have oc : m_Acts_outcome 29 a w = m_Acts_told 29 a (mAt 14 w).1 := out_ok (by rw [Af_29]; exact z2) (by rw [At_29]; exact mAt_none)
  have hq : 0 ≤ (m_M_init (m_M_asked 29) md).2 := by rw [Mk_29, z]; decide
  rw [oc, To_29]
  by_cases hp : (a &&& (1 : Int32)) = 0
  · rw [Ma_29e (WF_pos h) hp hq, Mk_29]
    exact ⟨rfl, hw, ho2, hc⟩
  · rw [Ma_29o (WF_pos h) hp hq, Mk_29]
    exact ⟨rfl, hw, ho2, hc⟩

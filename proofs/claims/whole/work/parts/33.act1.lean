-- THE ACTS THAT TELL A CONSTANT OF A CLASS
theorem R_act_4 {w : MW} {md m1 : MM} {j c : Nat} {a : Int32} (h : WF w md m1 j) (ho : ok c w) (hr : CR w) : SA c j m1 (m_Acts_outcome 4 a w) (m_M_act 4 a md) := by
  obtain ⟨-, hw, ho2, hc⟩ := R_at (k := 2) (by unfold vp_in; decide) h ho hr
  have z : (m_M_init 2 md).2 = 0 := by rw [Mi_2]
  have z2 : mAt 2 w = ((mAt 2 w).1, 0) := by rw [A_2 hr]
  have oc : m_Acts_outcome 4 a w = m_Acts_told 4 a (mAt 2 w).1 := out_ok (by rw [Af_4]; exact z2) (by rw [At_4]; exact mAt_none)
  have hq : 0 ≤ (m_M_init (m_M_asked 4) md).2 := by rw [Mk_4, z]; decide
  have hv : gVa (mAt 2 w).1 2 = 6 := hc.2.2.2.1 (sd_2 hr)
  rw [oc, To_4]
  by_cases hp : (a &&& (1 : Int32)) = 0
  · rw [Ma_4e (WF_pos h) hp hq, Mk_4]
    exact ⟨hv, hw, ho2, hc⟩
  · rw [Ma_4o (WF_pos h) hp hq, Mk_4]
    exact ⟨hv, hw, ho2, hc⟩
theorem R_act_7 {w : MW} {md m1 : MM} {j c : Nat} {a : Int32} (h : WF w md m1 j) (ho : ok c w) (hr : CR w) : SA c j m1 (m_Acts_outcome 7 a w) (m_M_act 7 a md) := by
  obtain ⟨-, hw, ho2, hc⟩ := R_at (k := 3) (by unfold vp_in; decide) h ho hr
  have z : (m_M_init 3 md).2 = 0 := by rw [Mi_3]
  have z2 : mAt 3 w = ((mAt 3 w).1, 0) := by rw [A_3 hr]
  have oc : m_Acts_outcome 7 a w = m_Acts_told 7 a (mAt 3 w).1 := out_ok (by rw [Af_7]; exact z2) (by rw [At_7]; exact mAt_none)
  have hq : 0 ≤ (m_M_init (m_M_asked 7) md).2 := by rw [Mk_7, z]; decide
  have hv : gVa (mAt 3 w).1 3 = 4 := hc.2.2.2.2.1 (sd_3 hr)
  rw [oc, To_7]
  by_cases hp : (a &&& (1 : Int32)) = 0
  · rw [Ma_7e (WF_pos h) hp hq, Mk_7]
    exact ⟨hv, hw, ho2, hc⟩
  · rw [Ma_7o (WF_pos h) hp hq, Mk_7]
    exact ⟨hv, hw, ho2, hc⟩
theorem R_act_8 {w : MW} {md m1 : MM} {j c : Nat} {a : Int32} (h : WF w md m1 j) (ho : ok c w) (hr : CR w) : SA c j m1 (m_Acts_outcome 8 a w) (m_M_act 8 a md) := by
  obtain ⟨-, hw, ho2, hc⟩ := R_at (k := 3) (by unfold vp_in; decide) h ho hr
  have z : (m_M_init 3 md).2 = 0 := by rw [Mi_3]
  have z2 : mAt 3 w = ((mAt 3 w).1, 0) := by rw [A_3 hr]
  have oc : m_Acts_outcome 8 a w = m_Acts_told 8 a (mAt 3 w).1 := out_ok (by rw [Af_8]; exact z2) (by rw [At_8]; exact mAt_none)
  have hq : 0 ≤ (m_M_init (m_M_asked 8) md).2 := by rw [Mk_8, z]; decide
  have hv : gVa (mAt 3 w).1 3 = 4 := hc.2.2.2.2.1 (sd_3 hr)
  rw [oc, To_8]
  by_cases hp : (a &&& (1 : Int32)) = 0
  · rw [Ma_8e (WF_pos h) hp hq, Mk_8]
    exact ⟨hv, hw, ho2, hc⟩
  · rw [Ma_8o (WF_pos h) hp hq, Mk_8]
    exact ⟨hv, hw, ho2, hc⟩
theorem R_act_28 {w : MW} {md m1 : MM} {j c : Nat} {a : Int32} (h : WF w md m1 j) (ho : ok c w) (hr : CR w) : SA c j m1 (m_Acts_outcome 28 a w) (m_M_act 28 a md) := by
  obtain ⟨-, hw, ho2, hc⟩ := R_at (k := 5) (by unfold vp_in; decide) h ho hr
  have z : (m_M_init 5 md).2 = 0 := by rw [Mi_5]
  have z2 : mAt 5 w = ((mAt 5 w).1, 0) := by rw [A_5 hr]
  have oc : m_Acts_outcome 28 a w = m_Acts_told 28 a (mAt 5 w).1 := out_ok (by rw [Af_28]; exact z2) (by rw [At_28]; exact mAt_none)
  have hq : 0 ≤ (m_M_init (m_M_asked 28) md).2 := by rw [Mk_28, z]; decide
  have hv : gVa (mAt 5 w).1 5 = 5 := hc.2.2.2.2.2.2.1 (sd_5 hr)
  rw [oc, To_28]
  by_cases hp : (a &&& (1 : Int32)) = 0
  · rw [Ma_28e (WF_pos h) hp hq, Mk_28]
    exact ⟨hv, hw, ho2, hc⟩
  · rw [Ma_28o (WF_pos h) hp hq, Mk_28]
    exact ⟨hv, hw, ho2, hc⟩
theorem R_act_11 {w : MW} {md m1 : MM} {j c : Nat} {a : Int32} (h : WF w md m1 j) (ho : ok c w) (hr : CR w) : SA c j m1 (m_Acts_outcome 11 a w) (m_M_act 11 a md) := by
  obtain ⟨-, hw, ho2, hc⟩ := R_at (k := 6) (by unfold vp_in; decide) h ho hr
  have z : (m_M_init 6 md).2 = 0 := by rw [Mi_6]
  have z2 : mAt 6 w = ((mAt 6 w).1, 0) := by rw [A_6 hr]
  have oc : m_Acts_outcome 11 a w = m_Acts_told 11 a (mAt 6 w).1 := out_ok (by rw [Af_11]; exact z2) (by rw [At_11]; exact mAt_none)
  have hq : 0 ≤ (m_M_init (m_M_asked 11) md).2 := by rw [Mk_11, z]; decide
  have hv : gVa (mAt 6 w).1 6 = 11 := hc.2.2.2.2.2.2.2.1 (sd_6 hr)
  rw [oc, To_11]
  by_cases hp : (a &&& (1 : Int32)) = 0
  · rw [Ma_11e (WF_pos h) hp hq, Mk_11]
    exact ⟨hv, hw, ho2, hc⟩
  · rw [Ma_11o (WF_pos h) hp hq, Mk_11]
    exact ⟨hv, hw, ho2, hc⟩

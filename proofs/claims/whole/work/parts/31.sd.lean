-- BEHIND AN INITIALISING THE CLASS IS READY
theorem st_s2 (a : Int32) (w : MW) : stt (s2 a w) a = 2 := pk_us (f := gSt w) (k := a.toNatClampNeg) (x := 2)
theorem sd_0 {w : MW} (hr : CR w) : gSt (mAt 0 w).1 0 = 2 := by
  have h0 : ¬ gSt (mAt 0 w).1 0 = 0 := by
    rw [A_0 hr]
    show ¬ stt (xBase w) 0 = 0
    unfold xBase
    by_cases g : stt w 0 = 0
    · rw [if_pos g]
      exact fun e => absurd ((st_s2 0 _).symm.trans e) (by decide)
    · rw [if_neg g]; exact g
  exact ((CR_mAt 0 (by decide) rfl hr).1 0 (by decide) (by decide) (by decide)).resolve_left h0
theorem sd_1 {w : MW} (hr : CR w) : gSt (mAt 1 w).1 1 = 2 := by
  have h0 : ¬ gSt (mAt 1 w).1 1 = 0 := by
    rw [A_1 hr]
    show ¬ stt (xMiddle w) 1 = 0
    unfold xMiddle
    by_cases g : stt w 1 = 0
    · rw [if_pos g]
      exact fun e => absurd ((st_s2 1 _).symm.trans e) (by decide)
    · rw [if_neg g]; exact g
  exact ((CR_mAt 1 (by decide) rfl hr).1 1 (by decide) (by decide) (by decide)).resolve_left h0
theorem sd_2 {w : MW} (hr : CR w) : gSt (mAt 2 w).1 2 = 2 := by
  have h0 : ¬ gSt (mAt 2 w).1 2 = 0 := by
    rw [A_2 hr]
    show ¬ stt (xLeaf w) 2 = 0
    unfold xLeaf
    by_cases g : stt w 2 = 0
    · rw [if_pos g]
      exact fun e => absurd ((st_s2 2 _).symm.trans e) (by decide)
    · rw [if_neg g]; exact g
  exact ((CR_mAt 2 (by decide) rfl hr).1 2 (by decide) (by decide) (by decide)).resolve_left h0
theorem sd_3 {w : MW} (hr : CR w) : gSt (mAt 3 w).1 3 = 2 := by
  have h0 : ¬ gSt (mAt 3 w).1 3 = 0 := by
    rw [A_3 hr]
    show ¬ stt (xAlone 3 4 w) 3 = 0
    unfold xAlone
    by_cases g : stt w 3 = 0
    · rw [if_pos g]
      exact fun e => absurd ((st_s2 3 _).symm.trans e) (by decide)
    · rw [if_neg g]; exact g
  exact ((CR_mAt 3 (by decide) rfl hr).1 3 (by decide) (by decide) (by decide)).resolve_left h0
theorem sd_4 {w : MW} (hr : CR w) : gSt (mAt 4 w).1 4 = 2 := by
  have h0 : ¬ gSt (mAt 4 w).1 4 = 0 := by
    rw [A_4 hr]
    show ¬ stt (xAlone 4 15 w) 4 = 0
    unfold xAlone
    by_cases g : stt w 4 = 0
    · rw [if_pos g]
      exact fun e => absurd ((st_s2 4 _).symm.trans e) (by decide)
    · rw [if_neg g]; exact g
  exact ((CR_mAt 4 (by decide) rfl hr).1 4 (by decide) (by decide) (by decide)).resolve_left h0
theorem sd_5 {w : MW} (hr : CR w) : gSt (mAt 5 w).1 5 = 2 := by
  have h0 : ¬ gSt (mAt 5 w).1 5 = 0 := by
    rw [A_5 hr]
    show ¬ stt (xAlone 5 5 w) 5 = 0
    unfold xAlone
    by_cases g : stt w 5 = 0
    · rw [if_pos g]
      exact fun e => absurd ((st_s2 5 _).symm.trans e) (by decide)
    · rw [if_neg g]; exact g
  exact ((CR_mAt 5 (by decide) rfl hr).1 5 (by decide) (by decide) (by decide)).resolve_left h0
theorem sd_6 {w : MW} (hr : CR w) : gSt (mAt 6 w).1 6 = 2 := by
  have h0 : ¬ gSt (mAt 6 w).1 6 = 0 := by
    rw [A_6 hr]
    show ¬ stt (xAlone 6 11 w) 6 = 0
    unfold xAlone
    by_cases g : stt w 6 = 0
    · rw [if_pos g]
      exact fun e => absurd ((st_s2 6 _).symm.trans e) (by decide)
    · rw [if_neg g]; exact g
  exact ((CR_mAt 6 (by decide) rfl hr).1 6 (by decide) (by decide) (by decide)).resolve_left h0
theorem sd_7 {w : MW} (hr : CR w) : gSt (mAt 7 w).1 7 = 2 := by
  have h0 : ¬ gSt (mAt 7 w).1 7 = 0 := by
    rw [A_7 hr]
    show ¬ stt (xLoud w) 7 = 0
    unfold xLoud
    by_cases g : stt w 7 = 0
    · rw [if_pos g]
      exact fun e => absurd ((st_s2 7 _).symm.trans e) (by decide)
    · rw [if_neg g]; exact g
  exact ((CR_mAt 7 (by decide) rfl hr).1 7 (by decide) (by decide) (by decide)).resolve_left h0
theorem sd_10 {w : MW} (hr : CR w) : gSt (mAt 10 w).1 10 = 2 := by
  have h0 : ¬ gSt (mAt 10 w).1 10 = 0 := by
    rw [A_10 hr]
    show ¬ stt (xFirst w) 10 = 0
    unfold xFirst
    by_cases g : stt w 10 = 0
    · rw [if_pos g]
      exact fun e => absurd ((st_s2 10 _).symm.trans e) (by decide)
    · rw [if_neg g]; exact g
  exact ((CR_mAt 10 (by decide) rfl hr).1 10 (by decide) (by decide) (by decide)).resolve_left h0
theorem sd_11 {w : MW} (hr : CR w) : gSt (mAt 11 w).1 11 = 2 := by
  have h0 : ¬ gSt (mAt 11 w).1 11 = 0 := by
    rw [A_11 hr]
    show ¬ stt (xSecond w) 11 = 0
    unfold xSecond
    by_cases g : stt w 11 = 0
    · rw [if_pos g]
      exact fun e => absurd ((st_s2 11 _).symm.trans e) (by decide)
    · rw [if_neg g]; exact g
  exact ((CR_mAt 11 (by decide) rfl hr).1 11 (by decide) (by decide) (by decide)).resolve_left h0
theorem sd_12 {w : MW} (hr : CR w) : gSt (mAt 12 w).1 12 = 2 := by
  have h0 : ¬ gSt (mAt 12 w).1 12 = 0 := by
    rw [A_12 hr]
    show ¬ stt (xAlone 12 13 w) 12 = 0
    unfold xAlone
    by_cases g : stt w 12 = 0
    · rw [if_pos g]
      exact fun e => absurd ((st_s2 12 _).symm.trans e) (by decide)
    · rw [if_neg g]; exact g
  exact ((CR_mAt 12 (by decide) rfl hr).1 12 (by decide) (by decide) (by decide)).resolve_left h0
theorem sd_13 {w : MW} (hr : CR w) : gSt (mAt 13 w).1 13 = 2 := by
  have h0 : ¬ gSt (mAt 13 w).1 13 = 0 := by
    rw [A_13 hr]
    show ¬ stt (xLazy w) 13 = 0
    unfold xLazy
    by_cases g : stt w 13 = 0
    · rw [if_pos g]
      exact fun e => absurd ((st_s2 13 _).symm.trans e) (by decide)
    · rw [if_neg g]; exact g
  exact ((CR_mAt 13 (by decide) rfl hr).1 13 (by decide) (by decide) (by decide)).resolve_left h0
theorem sd_14 {w : MW} (hr : CR w) : gSt (mAt 14 w).1 14 = 2 := by
  have h0 : ¬ gSt (mAt 14 w).1 14 = 0 := by
    rw [A_14 hr]
    show ¬ stt (xGrade w) 14 = 0
    unfold xGrade
    by_cases g : stt w 14 = 0
    · rw [if_pos g]
      exact fun e => absurd ((st_s2 14 _).symm.trans e) (by decide)
    · rw [if_neg g]; exact g
  exact ((CR_mAt 14 (by decide) rfl hr).1 14 (by decide) (by decide) (by decide)).resolve_left h0
theorem sd_15 {w : MW} (hr : CR w) : gSt (mAt 15 w).1 15 = 2 := by
  have h0 : ¬ gSt (mAt 15 w).1 15 = 0 := by
    rw [A_15 hr]
    show ¬ stt (xChecked w) 15 = 0
    unfold xChecked
    by_cases g : stt w 15 = 0
    · rw [if_pos g]
      exact fun e => absurd ((st_s2 15 _).symm.trans e) (by decide)
    · rw [if_neg g]; exact g
  exact ((CR_mAt 15 (by decide) rfl hr).1 15 (by decide) (by decide) (by decide)).resolve_left h0
theorem sd_16 {w : MW} (hr : CR w) : gSt (mAt 16 w).1 16 = 2 := by
  have h0 : ¬ gSt (mAt 16 w).1 16 = 0 := by
    rw [A_16 hr]
    show ¬ stt (xAlone 16 19 w) 16 = 0
    unfold xAlone
    by_cases g : stt w 16 = 0
    · rw [if_pos g]
      exact fun e => absurd ((st_s2 16 _).symm.trans e) (by decide)
    · rw [if_neg g]; exact g
  exact ((CR_mAt 16 (by decide) rfl hr).1 16 (by decide) (by decide) (by decide)).resolve_left h0

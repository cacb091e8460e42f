theorem xw_is (a b c : Int32) : xf_FR_within a b c = mf_Mo_is a b c := rfl
theorem mis_01 (a b c : Int32) : mf_Mo_is a b c = 0 ∨ mf_Mo_is a b c = 1 := by
  unfold mf_Mo_is
  split
  · exact Or.inl rfl
  · split
    · exact Or.inl rfl
    · exact Or.inr rfl
theorem as_name (v w : fw_V) (a1 a2 : Int32) : (xf_FR_name v a1 a2).1 = (mf_Mo_name w a1 a2).1 := by
  unfold xf_FR_name mf_Mo_name xf_FR_isDevice
  simp only [xw_is]
  by_cases h1 : mf_Mo_is a1 0 1 = 0 <;> by_cases h2 : mf_Mo_is a2 0 15 = 0 <;> simp [h1, h2]
theorem as_sense (v w : fw_V) (a1 a2 a3 a4 : Int32) : (xf_FR_sense v a1 a2 a3 a4).1 = (mf_Mo_sense w a1 a2 a3 a4).1 := by
  unfold xf_FR_sense mf_Mo_sense xf_FR_isDevice xf_FR_isPlace xf_FR_isSlot xf_FR_isOctet
  simp only [xw_is]
  by_cases h1 : mf_Mo_is a1 0 1 = 0 <;> by_cases h2 : mf_Mo_is a2 0 2 = 0 <;> by_cases h3 : mf_Mo_is a3 0 1 = 0 <;> by_cases h4 : mf_Mo_is a4 0 255 = 0 <;> simp [h1, h2, h3, h4]
theorem as_give (v w : fw_V) (a1 a2 a3 a4 : Int32) : (xf_FR_give v a1 a2 a3 a4).1 = (mf_Mo_give w a1 a2 a3 a4).1 := by
  unfold xf_FR_give mf_Mo_give xf_FR_isDevice xf_FR_isPlace xf_FR_isSlot xf_FR_isOctet
  simp only [xw_is]
  by_cases h1 : mf_Mo_is a1 0 1 = 0 <;> by_cases h2 : mf_Mo_is a2 0 2 = 0 <;> by_cases h3 : mf_Mo_is a3 0 1 = 0 <;> by_cases h4 : mf_Mo_is a4 0 255 = 0 <;> simp [h1, h2, h3, h4]
theorem as_substitute (v w : fw_V) (a1 a2 a3 : Int32) : (xf_FR_substitute v a1 a2 a3).1 = (mf_Mo_substitute w a1 a2 a3).1 := by
  unfold xf_FR_substitute mf_Mo_substitute xf_FR_substitute_j1 mf_Mo_substitute_j1 mf_Mo_substitute_j2 xf_FR_isDevice xf_FR_isOctet
  simp only [xw_is]
  by_cases h1 : mf_Mo_is a1 0 1 = 0 <;> by_cases h2 : mf_Mo_is a2 0 2 = 0 <;> by_cases h3 : mf_Mo_is a3 0 255 = 0 <;> by_cases h4 : a2 = 2 <;> simp [h1, h2, h3, if_pos, if_neg, h4] <;> (first | done | (subst h4; simp [h1, h2, h3]))
theorem is_kon (a : Int32) : xf_FR_isKindOrNone a = 0 ↔ mf_Mo_is a (-1) 7 = 0 := by
  unfold xf_FR_isKindOrNone xf_FR_isKind
  simp only [xw_is]
  by_cases h : a = -1
  · subst h; decide
  · unfold mf_Mo_is
    have e : (a < 0) ↔ (a < -1) := by
      rw [Int32.lt_iff_toInt_lt, Int32.lt_iff_toInt_lt, show (0 : Int32).toInt = 0 from rfl, show (-1 : Int32).toInt = -1 from by decide]
      have : a.toInt ≠ -1 := fun q => h (Int32.toInt_inj.mp (by rw [q]; decide))
      omega
    by_cases h0 : a < 0
    · have := e.mp h0
      simp [h, h0, this]
    · have : ¬ a < -1 := fun q => h0 (e.mpr q)
      simp only [h, h0, this, if_false]
      split <;> simp_all
theorem as_plug (v w : fw_V) (a1 a2 a3 : Int32) : (xf_FR_plug v a1 a2 a3).1 = (mf_Mo_plug w a1 a2 a3).1 := by
  unfold xf_FR_plug mf_Mo_plug xf_FR_isDevice xf_FR_isSlot
  simp only [xw_is, is_kon]
  by_cases h1 : mf_Mo_is a1 0 1 = 0 <;> by_cases h2 : mf_Mo_is a2 0 2 = 0 <;> by_cases h3 : mf_Mo_is a3 (-1) 7 = 0 <;> simp only [h1, h2, h3, if_true, if_false]
  by_cases g1 : w 42 0 (3 * a1 + a2).toNatClampNeg = a3
  · rw [if_pos g1]
  · rw [if_neg g1]
    by_cases g2 : a1 = 0
    · rw [if_pos g2]
      (repeat' split) <;> with_reducible rfl
    · rw [if_neg g2]
      (repeat' split) <;> with_reducible rfl


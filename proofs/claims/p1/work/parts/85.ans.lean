theorem xw_is (a b c : Int32) : xf_FR_within a b c = mf_Mo_is a b c := rfl
theorem mis_01 (a b c : Int32) : mf_Mo_is a b c = 0 ∨ mf_Mo_is a b c = 1 := by
  unfold mf_Mo_is
  split
  · exact Or.inl rfl
  · split
    · exact Or.inl rfl
    · exact Or.inr rfl
theorem as_name (v w : fw_V) (a1 a2 : Int32) : (xf_FR_name v a1 a2).1 = (mf_Mo_name w a1 a2).1 := by
  unfold xf_FR_name mf_Mo_name xf_FR_isDevice
  simp only [xw_is]
  by_cases h1 : mf_Mo_is a1 0 1 = 0 <;> by_cases h2 : mf_Mo_is a2 0 15 = 0 <;> simp [h1, h2]
theorem as_sense (v w : fw_V) (a1 a2 a3 a4 : Int32) : (xf_FR_sense v a1 a2 a3 a4).1 = (mf_Mo_sense w a1 a2 a3 a4).1 := by
  unfold xf_FR_sense mf_Mo_sense xf_FR_isDevice xf_FR_isPlace xf_FR_isSlot xf_FR_isOctet
  simp only [xw_is]
  by_cases h1 : mf_Mo_is a1 0 1 = 0 <;> by_cases h2 : mf_Mo_is a2 0 2 = 0 <;> by_cases h3 : mf_Mo_is a3 0 1 = 0 <;> by_cases h4 : mf_Mo_is a4 0 255 = 0 <;> simp [h1, h2, h3, h4]
theorem as_give (v w : fw_V) (a1 a2 a3 a4 : Int32) : (xf_FR_give v a1 a2 a3 a4).1 = (mf_Mo_give w a1 a2 a3 a4).1 := by
  unfold xf_FR_give mf_Mo_give xf_FR_isDevice xf_FR_isPlace xf_FR_isSlot xf_FR_isOctet
  simp only [xw_is]
  by_cases h1 : mf_Mo_is a1 0 1 = 0 <;> by_cases h2 : mf_Mo_is a2 0 2 = 0 <;> by_cases h3 : mf_Mo_is a3 0 1 = 0 <;> by_cases h4 : mf_Mo_is a4 0 255 = 0 <;> simp [h1, h2, h3, h4]
theorem as_substitute (v w : fw_V) (a1 a2 a3 : Int32) : (xf_FR_substitute v a1 a2 a3).1 = (mf_Mo_substitute w a1 a2 a3).1 := by
  unfold xf_FR_substitute mf_Mo_substitute xf_FR_substitute_j1 mf_Mo_substitute_j1 mf_Mo_substitute_j2 xf_FR_isDevice xf_FR_isOctet
  simp only [xw_is]
  by_cases h1 : mf_Mo_is a1 0 1 = 0 <;> by_cases h2 : mf_Mo_is a2 0 2 = 0 <;> by_cases h3 : mf_Mo_is a3 0 255 = 0 <;> by_cases h4 : a2 = 2 <;> simp [h1, h2, h3, if_pos, if_neg, h4] <;> (first | done | (subst h4; simp [h1, h2, h3]))
theorem is_kon (a : Int32) : xf_FR_isKindOrNone a = 0 ↔ mf_Mo_is a (-1) 7 = 0 := by
  unfold xf_FR_isKindOrNone xf_FR_isKind
  simp only [xw_is]
  by_cases h : a = -1
  · subst h; decide
  · unfold mf_Mo_is
    have e : (a < 0) ↔ (a < -1) := by
      rw [Int32.lt_iff_toInt_lt, Int32.lt_iff_toInt_lt, show (0 : Int32).toInt = 0 from rfl, show (-1 : Int32).toInt = -1 from by decide]
      have : a.toInt ≠ -1 := fun q => h (Int32.toInt_inj.mp (by rw [q]; decide))
      omega
    by_cases h0 : a < 0
    · have := e.mp h0
      simp [h, h0, this]
    · have : ¬ a < -1 := fun q => h0 (e.mpr q)
      simp only [h, h0, this, if_false]
      split <;> simp_all
theorem as_plug (v w : fw_V) (a1 a2 a3 : Int32) : (xf_FR_plug v a1 a2 a3).1 = (mf_Mo_plug w a1 a2 a3).1 := by
  unfold xf_FR_plug mf_Mo_plug xf_FR_isDevice xf_FR_isSlot
  simp only [xw_is, is_kon]
  by_cases h1 : mf_Mo_is a1 0 1 = 0 <;> by_cases h2 : mf_Mo_is a2 0 2 = 0 <;> by_cases h3 : mf_Mo_is a3 (-1) 7 = 0 <;> simp only [h1, h2, h3, if_true, if_false]
  by_cases g1 : w 42 0 (3 * a1 + a2).toNatClampNeg = a3
  · rw [if_pos g1]
  · rw [if_neg g1]
    by_cases g2 : a1 = 0
    · rw [if_pos g2]
      (repeat' split) <;> with_reducible rfl
    · rw [if_neg g2]
      (repeat' split) <;> with_reducible rfl

def m0 : fw_V := mf_Mo_init (fun _ _ _ => 0)
theorem m0_z (c i k : Nat) (h : c ≠ 1 ∧ c ≠ 2 ∧ c ≠ 15 ∧ c ≠ 24 ∧ c ≠ 42 ∧ c ≠ 43 ∧ c ≠ 44) : m0 c i k = 0 := by
  obtain ⟨h1, h2, h3, h4, h5, h6, h7⟩ := h
  simp [m0, mf_Mo_init, fw_up, h1, h2, h3, h4, h5, h6, h7]
theorem m0_15 (k : Nat) (h : k < 2) : m0 15 0 k = -1 := by
  rcases (show k = 0 ∨ k = 1 by omega) with rfl | rfl <;> simp [m0, mf_Mo_init, fw_up]
theorem m0_44 (k : Nat) (h : k < 6) : m0 44 0 k = -1 := by
  rcases (show k = 0 ∨ k = 1 ∨ k = 2 ∨ k = 3 ∨ k = 4 ∨ k = 5 by omega) with rfl | rfl | rfl | rfl | rfl | rfl <;> simp [m0, mf_Mo_init, fw_up]
theorem mis_in {a : Int32} {n : Nat} {hi : Int32} (h : ¬ mf_Mo_is a 0 hi = 0) (hn : hi.toInt + 1 = (n : Int)) : vp_in a n := by
  unfold mf_Mo_is at h
  by_cases h1 : a < 0
  · rw [if_pos h1] at h; exact absurd rfl h
  · by_cases h2 : hi < a
    · rw [if_neg h1, if_pos h2] at h; exact absurd rfl h
    · rw [Int32.lt_iff_toInt_lt] at h1 h2
      rw [show (0 : Int32).toInt = 0 from rfl] at h1
      rw [vp_in_iff]; omega
theorem mis_no (a : Int32) : mf_Mo_is a 0 (0 - 1) = 0 := by
  unfold mf_Mo_is
  by_cases h1 : a < 0
  · rw [if_pos h1]
  · rw [if_neg h1, if_pos]
    rw [Int32.lt_iff_toInt_lt] at h1 ⊢
    rw [show (0 : Int32).toInt = 0 from rfl] at h1
    rw [show (0 - 1 : Int32).toInt = -1 from by decide]
    omega
theorem p1_kind (a1 a2 a3 a4 : Int32) : (xf_FR_kind x0 a1 a2 a3 a4).1 = (mf_Mo_kind m0 a1 a2 a3 a4).1 := by
  have e : xf_FR_allAtRest x0 = 1 := by decide
  have r0 : m0 12 0 0 = 0 := m0_z _ _ _ (by decide)
  have r1 : m0 12 0 1 = 0 := m0_z _ _ _ (by decide)
  have d0 : m0 28 0 0 = 0 := m0_z _ _ _ (by decide)
  have d1 : m0 28 0 1 = 0 := m0_z _ _ _ (by decide)
  unfold xf_FR_kind mf_Mo_kind mf_Mo_kind_j1 mf_Mo_kind_j2 mf_Mo_kind_j3 xf_FR_isKind
  simp only [xw_is, e, r0, r1, d0, d1]
  by_cases h1 : mf_Mo_is a1 0 7 = 0 <;> by_cases h2 : mf_Mo_is a2 0 2 = 0 <;> by_cases h3 : mf_Mo_is a3 0 2 = 0 <;> simp [h1, h2, h3]
theorem p1_target (a1 a2 : Int32) : (xf_FR_target x0 a1 a2).1 = (mf_Mo_target m0 a1 a2).1 := by
  have r : ∀ k, m0 12 0 k = 0 := fun k => m0_z _ _ _ (by decide)
  have e : ∀ k, xf_Re_isClosed x0 k = 1 := fun k => rfl
  unfold xf_FR_target mf_Mo_target xf_FR_isDevice
  simp only [xw_is, e, r]
  by_cases h1 : mf_Mo_is a1 0 1 = 0 <;> by_cases h2 : mf_Mo_is a2 1 15 = 0 <;> simp [h1, h2]
theorem p1_expect (a1 a2 a3 a4 : Int32) : (xf_FR_expect x0 a1 a2 a3 a4).1 = (mf_Mo_expect m0 a1 a2 a3 a4).1 := by
  have r : ∀ k, m0 12 0 k = 0 := fun k => m0_z _ _ _ (by decide)
  have e : ∀ k, xf_Re_isClosed x0 k = 1 := fun k => rfl
  unfold xf_FR_expect mf_Mo_expect xf_FR_isDevice xf_FR_isSlot xf_FR_isOctet
  simp only [xw_is, e, r, is_kon]
  by_cases h1 : mf_Mo_is a1 0 1 = 0 <;> by_cases h2 : mf_Mo_is a2 0 2 = 0 <;> by_cases h3 : mf_Mo_is a3 (-1) 7 = 0 <;> by_cases h4 : mf_Mo_is a4 0 255 = 0 <;> simp [h1, h2, h3, h4]
theorem p1_open (a1 : Int32) : (xf_FR_open x0 a1).1 = (mf_Mo_open m0 a1).1 := by
  have r : ∀ k, m0 12 0 k = 0 := fun k => m0_z _ _ _ (by decide)
  have q : ∀ k, m0 14 0 k = 0 := fun k => m0_z _ _ _ (by decide)
  have e : ∀ k, xf_Re_isClosed x0 k = 1 := fun k => rfl
  have f : ∀ k, x0 13 k 5 = 0 := fun k => rfl
  unfold xf_FR_open mf_Mo_open xf_FR_isDevice
  simp only [xw_is, e, r, q, f]
  by_cases h1 : mf_Mo_is a1 0 1 = 0 <;> simp [h1]
theorem p1_close (a1 : Int32) : (xf_FR_close x0 a1).1 = (mf_Mo_close m0 a1).1 := by
  have r : ∀ k, m0 12 0 k = 0 := fun k => m0_z _ _ _ (by decide)
  have f : ∀ k, x0 13 k 10 = 0 := fun k => rfl
  unfold xf_FR_close mf_Mo_close xf_FR_isDevice xf_Re_end
  simp only [xw_is, r, f]
  by_cases h1 : mf_Mo_is a1 0 1 = 0
  · simp [h1]
  · simp only [h1, if_false]
    rw [if_pos (by decide)]
    simp
theorem p1_deliver (a1 : Int32) : (xf_FR_deliver x0 a1).1 = (mf_Mo_deliver m0 a1).1 := by
  have r : m0 0 0 10 = 0 := m0_z _ _ _ (by decide)
  have f : x0 5 0 2 = 0 := rfl
  unfold xf_FR_deliver mf_Mo_deliver xf_Wi_has
  simp only [xw_is, r, f, mis_no]
  simp
theorem p1_lose (a1 : Int32) : (xf_FR_lose x0 a1).1 = (mf_Mo_lose m0 a1).1 := by
  have r : m0 0 0 10 = 0 := m0_z _ _ _ (by decide)
  have f : x0 5 0 2 = 0 := rfl
  unfold xf_FR_lose mf_Mo_lose xf_Wi_has
  simp only [xw_is, r, f, mis_no]
  simp
theorem p1_repeat (a1 : Int32) : (xf_FR_repeat x0 a1).1 = (mf_Mo_repeat m0 a1).1 := by
  have r : m0 0 0 10 = 0 := m0_z _ _ _ (by decide)
  have f : x0 5 0 2 = 0 := rfl
  unfold xf_FR_repeat mf_Mo_repeat xf_Wi_has
  simp only [xw_is, r, f, mis_no]
  simp
theorem p1_frame (a1 a2 : Int32) : xf_FR_frame x0 a1 a2 = mf_Mo_frame m0 a1 a2 := by
  have r : m0 0 0 10 = 0 := m0_z _ _ _ (by decide)
  have f : x0 5 0 2 = 0 := rfl
  unfold xf_FR_frame mf_Mo_frame xf_Wi_has
  simp only [xw_is, r, f, mis_no]
  simp
theorem p1_tickm : ∀ (n : Nat) (w : fw_V) (a x : Int32), w 12 0 0 = 0 → w 12 0 1 = 0 → w 28 0 0 = 0 → w 28 0 1 = 0 → w 0 0 10 = 0 → (mf_Mo_tick_j1 n w a x).1 = 0 := by
  intro n
  induction n with
  | zero => intro w a x h1 h2 h3 h4 h5; rfl
  | succ n ih =>
    intro w a x h1 h2 h3 h4 h5
    unfold mf_Mo_tick_j1
    by_cases h : a ≤ x
    · rw [if_pos h]; exact h5
    · rw [if_neg h]
      have g : ∀ c i k, (c ≠ 0 ∨ k ≠ 49) → fw_up w 0 0 49 (w 0 0 49 + 1) c i k = w c i k := by
        intro c i k hc
        rcases hc with hc | hc
        · exact fw_up_c hc
        · exact fw_up_k hc
      have e0 : mf_Mo_beat_0 (fw_up w 0 0 49 (w 0 0 49 + 1)) = fw_up w 0 0 49 (w 0 0 49 + 1) := by
        unfold mf_Mo_beat_0; rw [if_pos (by rw [g 12 0 0 (by decide)]; exact h1)]
      have e1 : mf_Mo_beat_1 (fw_up w 0 0 49 (w 0 0 49 + 1)) = fw_up w 0 0 49 (w 0 0 49 + 1) := by
        unfold mf_Mo_beat_1; rw [if_pos (by rw [g 12 0 1 (by decide)]; exact h2)]
      have e2 : mf_Mo_pulse_0 (fw_up w 0 0 49 (w 0 0 49 + 1)) = fw_up w 0 0 49 (w 0 0 49 + 1) := by
        unfold mf_Mo_pulse_0; rw [if_pos (by rw [g 28 0 0 (by decide)]; exact h3)]
      have e3 : mf_Mo_pulse_1 (fw_up w 0 0 49 (w 0 0 49 + 1)) = fw_up w 0 0 49 (w 0 0 49 + 1) := by
        unfold mf_Mo_pulse_1; rw [if_pos (by rw [g 28 0 1 (by decide)]; exact h4)]
      simp only [e0, e1, e2, e3]
      exact ih _ _ _ (by rw [g 12 0 0 (by decide)]; exact h1) (by rw [g 12 0 1 (by decide)]; exact h2) (by rw [g 28 0 0 (by decide)]; exact h3) (by rw [g 28 0 1 (by decide)]; exact h4) (by rw [g 0 0 10 (by decide)]; exact h5)
theorem p1_tickx : ∀ (n : Nat) (w : fw_V) (a x : Int32), w 13 0 10 = 0 → w 13 1 10 = 0 → w 19 0 11 = 0 → w 19 1 11 = 0 → w 5 0 2 = 0 → (xf_FR_tick_j1 n w a x).1 = 0 := by
  intro n
  induction n with
  | zero => intro w a x h1 h2 h3 h4 h5; rfl
  | succ n ih =>
    intro w a x h1 h2 h3 h4 h5
    unfold xf_FR_tick_j1
    by_cases h : a ≤ x
    · rw [if_pos h]; exact h5
    · rw [if_neg h]
      have g : ∀ c i k, c ≠ 0 → fw_up w 0 0 6 (w 0 0 6 + 1) c i k = w c i k := fun c i k hc => fw_up_c hc
      have e0 : xf_Re_passTick (fw_up w 0 0 6 (w 0 0 6 + 1)) 0 = fw_up w 0 0 6 (w 0 0 6 + 1) := by
        unfold xf_Re_passTick; rw [if_pos (by rw [g 13 0 10 (by decide)]; exact h1)]
      have e1 : xf_Re_passTick (fw_up w 0 0 6 (w 0 0 6 + 1)) 1 = fw_up w 0 0 6 (w 0 0 6 + 1) := by
        unfold xf_Re_passTick; rw [if_pos (by rw [g 13 1 10 (by decide)]; exact h2)]
      have e2 : xf_De_passTick (fw_up w 0 0 6 (w 0 0 6 + 1)) 0 = fw_up w 0 0 6 (w 0 0 6 + 1) := by
        unfold xf_De_passTick; rw [if_pos (by rw [g 19 0 11 (by decide)]; exact h3)]
      have e3 : xf_De_passTick (fw_up w 0 0 6 (w 0 0 6 + 1)) 1 = fw_up w 0 0 6 (w 0 0 6 + 1) := by
        unfold xf_De_passTick; rw [if_pos (by rw [g 19 1 11 (by decide)]; exact h4)]
      simp only [e0, e1, e2, e3]
      exact ih _ _ _ (by rw [g 13 0 10 (by decide)]; exact h1) (by rw [g 13 1 10 (by decide)]; exact h2) (by rw [g 19 0 11 (by decide)]; exact h3) (by rw [g 19 1 11 (by decide)]; exact h4) (by rw [g 5 0 2 (by decide)]; exact h5)
theorem p1_tick (a1 : Int32) : (xf_FR_tick x0 a1).1 = (mf_Mo_tick m0 a1).1 := by
  unfold xf_FR_tick mf_Mo_tick
  simp only [xw_is]
  by_cases h : mf_Mo_is a1 1 8 = 0
  · simp [h]
  · simp only [h, if_false]
    rw [p1_tickx 10 x0 a1 0 rfl rfl rfl rfl rfl, p1_tickm 10 m0 a1 0 (m0_z _ _ _ (by decide)) (m0_z _ _ _ (by decide)) (m0_z _ _ _ (by decide)) (m0_z _ _ _ (by decide)) (m0_z _ _ _ (by decide))]
theorem p1_relation (a1 a2 : Int32) : xf_FR_relation x0 a1 a2 = mf_Mo_relation m0 a1 a2 := by
  unfold xf_FR_relation mf_Mo_relation xf_FR_isDevice xf_Re_tell
  simp only [xw_is]
  by_cases h1 : mf_Mo_is a1 0 1 = 0
  · simp [h1]
  · have hin := fw_inlt (mis_in (n := 2) h1 (by decide))
    simp only [h1, if_false, m0_15 _ hin]
    simp only [m0_z 12 _ _ (by decide), m0_z 13 _ _ (by decide), m0_z 16 _ _ (by decide), m0_z 17 _ _ (by decide), m0_z 18 _ _ (by decide), m0_z 19 _ _ (by decide)]
    rfl
theorem p1_data (a1 a2 a3 a4 : Int32) : xf_FR_data x0 a1 a2 a3 a4 = mf_Mo_data m0 a1 a2 a3 a4 := by
  unfold xf_FR_data mf_Mo_data xf_FR_isDevice xf_FR_isPlace xf_FR_isSlot
  simp only [xw_is, m0_z 46 _ _ (by decide), m0_z 27 _ _ (by decide), show ∀ i k, x0 25 i k = 0 from fun _ _ => rfl, show ∀ i k, x0 18 i k = 0 from fun _ _ => rfl]
  by_cases h1 : mf_Mo_is a1 0 1 = 0 <;> by_cases h2 : mf_Mo_is a2 0 1 = 0 <;> by_cases h3 : mf_Mo_is a3 0 2 = 0 <;> by_cases h4 : mf_Mo_is a4 0 1 = 0 <;> by_cases h5 : a1 = 0 <;> simp [h1, h2, h3, h4, h5]
theorem p1_alarms (a1 : Int32) : xf_FR_alarms x0 a1 = mf_Mo_alarms m0 a1 := by
  have e : mf_Mo_alarms m0 a1 = -2 := by
    unfold mf_Mo_alarms
    rw [m0_z 0 0 55 (by decide)]
    by_cases h : a1 < 0
    · rw [if_pos h]
    · rw [if_neg h]
      split
      · rfl
      · rw [if_pos (Int32.not_lt.mp h)]
  rw [e]
  unfold xf_FR_alarms xf_AL_latest
  rw [show x0 9 0 1 = 0 from rfl]
  have h : xf_FR_within a1 0 ((if (8 : Int32) < 0 then (8 : Int32) else 0) - 1) = 0 := by
    rw [show (if (8 : Int32) < 0 then (8 : Int32) else 0) = 0 from by decide]
    exact mis_no a1
  show (if xf_FR_within a1 0 ((if (8 : Int32) < 0 then (8 : Int32) else 0) - 1) = 0 then (-2 : Int32) else _) = -2
  rw [if_pos h]
theorem p1_count (a1 : Int32) : xf_FR_count x0 a1 = mf_Mo_count m0 a1 := by
  unfold xf_FR_count mf_Mo_count
  simp only [m0_z 0 0 49 (by decide), m0_z 0 0 50 (by decide), m0_z 0 0 51 (by decide), m0_z 0 0 10 (by decide), m0_z 0 0 52 (by decide), m0_z 0 0 53 (by decide), m0_z 0 0 55 (by decide), m0_z 0 0 56 (by decide)]
  rfl
theorem p1_device (a1 a2 : Int32) : xf_FR_device x0 a1 a2 = mf_Mo_device m0 a1 a2 := by
  unfold xf_FR_device mf_Mo_device xf_FR_isDevice xf_De_tell
  simp only [xw_is]
  by_cases h1 : mf_Mo_is a1 0 1 = 0
  · simp [h1]
  · have hd := mis_in (n := 2) h1 (by decide)
    simp only [h1, if_false]
    simp only [m0_z 28 _ _ (by decide), m0_z 29 _ _ (by decide), m0_z 31 _ _ (by decide), m0_z 37 _ _ (by decide), m0_z 36 _ _ (by decide), m0_z 32 _ _ (by decide)]
    by_cases h2 : mf_Mo_is a2 0 8 = 0
    · rw [if_pos h2]
      have hne : ∀ k : Int32, mf_Mo_is k 0 8 = 1 → ¬ a2 = k := fun k hk e => by rw [e] at h2; rw [hk] at h2; exact absurd h2 (by decide)
      rw [if_neg (hne 0 (by decide)), if_neg (hne 1 (by decide)), if_neg (hne 2 (by decide)), if_neg (hne 3 (by decide)), if_neg (hne 4 (by decide)), if_neg (hne 5 (by decide)), if_neg (hne 6 (by decide)), if_neg (hne 7 (by decide)), if_neg (hne 8 (by decide))]
    · rw [if_neg h2]
      obtain ⟨i, hi, ei⟩ := vp_in_of hd (by decide)
      obtain ⟨j, hj, ej⟩ := vp_in_of (mis_in (n := 9) h2 (by decide)) (by decide)
      subst ei ej
      rcases (show j = 0 ∨ j = 1 ∨ j = 2 ∨ j = 3 ∨ j = 4 ∨ j = 5 ∨ j = 6 ∨ j = 7 ∨ j = 8 by omega) with rfl | rfl | rfl | rfl | rfl | rfl | rfl | rfl | rfl
      · rfl
      · rfl
      · rfl
      · rfl
      · rfl
      · rcases (show i = 0 ∨ i = 1 by omega) with rfl | rfl
        · exact (m0_44 0 (by decide)).symm
        · exact (m0_44 3 (by decide)).symm
      · rcases (show i = 0 ∨ i = 1 by omega) with rfl | rfl
        · exact (m0_44 1 (by decide)).symm
        · exact (m0_44 4 (by decide)).symm
      · rcases (show i = 0 ∨ i = 1 by omega) with rfl | rfl
        · exact (m0_44 2 (by decide)).symm
        · exact (m0_44 5 (by decide)).symm
      · rfl


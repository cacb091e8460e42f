/-- which of the three are good -/
def GM (a b c : Int32) : Int32 := if a = 0 then (if b = 0 then (if c = 0 then 0 else 4) else (if c = 0 then 2 else 6)) else (if b = 0 then (if c = 0 then 1 else 5) else (if c = 0 then 3 else 7))


def IM_0 (w : fw_V) (s j : Nat) : Int32 := if mf_Mo_isGood_0 w (nI s) = 0 then 0 else if mf_Mo_insAt w (nI (0 + s)) ≤ nI j then 0 else w 45 0 (0 + 2 * s + j)
theorem gd_cg_0 {w w' : fw_V} {a : Int32} (h : ∀ c k, c = 43 ∨ c = 31 → w' c 0 k = w c 0 k) : mf_Mo_isGood_0 w' a = mf_Mo_isGood_0 w a := by
  unfold mf_Mo_isGood_0
  simp only [h 43 _ (by decide), h 31 _ (by decide)]
theorem IM_cg_0 {w w' : fw_V} {s j : Nat} (h : ∀ c k, c = 43 ∨ c = 31 ∨ c = 42 ∨ c = 1 ∨ c = 45 → w' c 0 k = w c 0 k) : IM_0 w' s j = IM_0 w s j := by
  unfold IM_0 mf_Mo_insAt
  rw [gd_cg_0 (w := w) (w' := w') (fun c k hc => h c k (by omega))]
  simp only [h 42 _ (by decide), h 1 _ (by decide), h 45 _ (by decide)]
theorem gd_9_0 {w : fw_V} {k : Nat} {a x : Int32} : mf_Mo_isGood_0 (fw_up w 9 0 k x) a = mf_Mo_isGood_0 w a := gd_cg_0 (fun c k hc => fw_up_c (by omega))
theorem IM_9_0 {w : fw_V} {s j k : Nat} {x : Int32} : IM_0 (fw_up w 9 0 k x) s j = IM_0 w s j := IM_cg_0 (fun c k hc => fw_up_c (by omega))
def LF_0 (w : fw_V) (m : Int32) : fw_V := fw_up (mf_Mo_reply_0 (fw_up w 9 0 6 m) 13 (fw_up w 9 0 6 m 34 0 0)) 34 0 0 ((mf_Mo_reply_0 (fw_up w 9 0 6 m) 13 (fw_up w 9 0 6 m 34 0 0) 34 0 0 + 1) &&& 255)
theorem pn1_0 (w : fw_V) : mf_Mo_pulse_0_j1 w = if mf_Mo_isGood_0 w (nI 0) = 0 then mf_Mo_pulse_0_j5 (fw_up w 9 0 0 (IM_0 w 0 0)) else mf_Mo_pulse_0_j128 (fw_up w 9 0 0 (IM_0 w 0 0)) := by
  unfold mf_Mo_pulse_0_j1 mf_Mo_pulse_0_j2 mf_Mo_pulse_0_j134 mf_Mo_pulse_0_j3 mf_Mo_pulse_0_j4 mf_Mo_pulse_0_j127 IM_0
  (try dsimp only)
  have e0 : nI 0 = (0 : Int32) := rfl
  have e1 : nI 1 = (1 : Int32) := rfl
  have e2 : nI 2 = (2 : Int32) := rfl
  have e3 : nI 3 = (3 : Int32) := rfl
  have e4 : nI 4 = (4 : Int32) := rfl
  have e5 : nI 5 = (5 : Int32) := rfl
  simp only [Nat.reduceAdd, Nat.reduceMul, e0, e1, e2, e3, e4, e5]
  by_cases g : mf_Mo_isGood_0 w (0 : Int32) = 0
  · simp only [g, if_true]
  · by_cases i : mf_Mo_insAt w (0 : Int32) ≤ (0 : Int32)
    · simp only [g, i, if_true, if_false]
    · simp only [g, i, if_false]
theorem pn5_0 (w : fw_V) : mf_Mo_pulse_0_j5 w = if mf_Mo_isGood_0 w (nI 0) = 0 then mf_Mo_pulse_0_j9 (fw_up w 9 0 1 (IM_0 w 0 1)) else mf_Mo_pulse_0_j68 (fw_up w 9 0 1 (IM_0 w 0 1)) := by
  unfold mf_Mo_pulse_0_j5 mf_Mo_pulse_0_j6 mf_Mo_pulse_0_j126 mf_Mo_pulse_0_j7 mf_Mo_pulse_0_j8 mf_Mo_pulse_0_j67 IM_0
  (try dsimp only)
  have e0 : nI 0 = (0 : Int32) := rfl
  have e1 : nI 1 = (1 : Int32) := rfl
  have e2 : nI 2 = (2 : Int32) := rfl
  have e3 : nI 3 = (3 : Int32) := rfl
  have e4 : nI 4 = (4 : Int32) := rfl
  have e5 : nI 5 = (5 : Int32) := rfl
  simp only [Nat.reduceAdd, Nat.reduceMul, e0, e1, e2, e3, e4, e5]
  by_cases g : mf_Mo_isGood_0 w (0 : Int32) = 0
  · simp only [g, if_true]
  · by_cases i : mf_Mo_insAt w (0 : Int32) ≤ (1 : Int32)
    · simp only [g, i, if_true, if_false]
    · simp only [g, i, if_false]
theorem pn9_0 (w : fw_V) : mf_Mo_pulse_0_j9 w = if mf_Mo_isGood_0 w (nI 1) = 0 then mf_Mo_pulse_0_j13 (fw_up w 9 0 2 (IM_0 w 1 0)) else mf_Mo_pulse_0_j60 (fw_up w 9 0 2 (IM_0 w 1 0)) := by
  unfold mf_Mo_pulse_0_j9 mf_Mo_pulse_0_j10 mf_Mo_pulse_0_j66 mf_Mo_pulse_0_j11 mf_Mo_pulse_0_j12 mf_Mo_pulse_0_j59 IM_0
  (try dsimp only)
  have e0 : nI 0 = (0 : Int32) := rfl
  have e1 : nI 1 = (1 : Int32) := rfl
  have e2 : nI 2 = (2 : Int32) := rfl
  have e3 : nI 3 = (3 : Int32) := rfl
  have e4 : nI 4 = (4 : Int32) := rfl
  have e5 : nI 5 = (5 : Int32) := rfl
  simp only [Nat.reduceAdd, Nat.reduceMul, e0, e1, e2, e3, e4, e5]
  by_cases g : mf_Mo_isGood_0 w (1 : Int32) = 0
  · simp only [g, if_true]
  · by_cases i : mf_Mo_insAt w (1 : Int32) ≤ (0 : Int32)
    · simp only [g, i, if_true, if_false]
    · simp only [g, i, if_false]
theorem pn13_0 (w : fw_V) : mf_Mo_pulse_0_j13 w = if mf_Mo_isGood_0 w (nI 1) = 0 then mf_Mo_pulse_0_j17 (fw_up w 9 0 3 (IM_0 w 1 1)) else mf_Mo_pulse_0_j38 (fw_up w 9 0 3 (IM_0 w 1 1)) := by
  unfold mf_Mo_pulse_0_j13 mf_Mo_pulse_0_j14 mf_Mo_pulse_0_j58 mf_Mo_pulse_0_j15 mf_Mo_pulse_0_j16 mf_Mo_pulse_0_j37 IM_0
  (try dsimp only)
  have e0 : nI 0 = (0 : Int32) := rfl
  have e1 : nI 1 = (1 : Int32) := rfl
  have e2 : nI 2 = (2 : Int32) := rfl
  have e3 : nI 3 = (3 : Int32) := rfl
  have e4 : nI 4 = (4 : Int32) := rfl
  have e5 : nI 5 = (5 : Int32) := rfl
  simp only [Nat.reduceAdd, Nat.reduceMul, e0, e1, e2, e3, e4, e5]
  by_cases g : mf_Mo_isGood_0 w (1 : Int32) = 0
  · simp only [g, if_true]
  · by_cases i : mf_Mo_insAt w (1 : Int32) ≤ (1 : Int32)
    · simp only [g, i, if_true, if_false]
    · simp only [g, i, if_false]
theorem pn17_0 (w : fw_V) : mf_Mo_pulse_0_j17 w = if mf_Mo_isGood_0 w (nI 2) = 0 then mf_Mo_pulse_0_j21 (fw_up w 9 0 4 (IM_0 w 2 0)) else mf_Mo_pulse_0_j30 (fw_up w 9 0 4 (IM_0 w 2 0)) := by
  unfold mf_Mo_pulse_0_j17 mf_Mo_pulse_0_j18 mf_Mo_pulse_0_j36 mf_Mo_pulse_0_j19 mf_Mo_pulse_0_j20 mf_Mo_pulse_0_j29 IM_0
  (try dsimp only)
  have e0 : nI 0 = (0 : Int32) := rfl
  have e1 : nI 1 = (1 : Int32) := rfl
  have e2 : nI 2 = (2 : Int32) := rfl
  have e3 : nI 3 = (3 : Int32) := rfl
  have e4 : nI 4 = (4 : Int32) := rfl
  have e5 : nI 5 = (5 : Int32) := rfl
  simp only [Nat.reduceAdd, Nat.reduceMul, e0, e1, e2, e3, e4, e5]
  by_cases g : mf_Mo_isGood_0 w (2 : Int32) = 0
  · simp only [g, if_true]
  · by_cases i : mf_Mo_insAt w (2 : Int32) ≤ (0 : Int32)
    · simp only [g, i, if_true, if_false]
    · simp only [g, i, if_false]
theorem pn21_0 (w : fw_V) : mf_Mo_pulse_0_j21 w = if mf_Mo_isGood_0 w (nI 2) = 0 then mf_Mo_pulse_0_j25 (fw_up w 9 0 5 (IM_0 w 2 1)) else mf_Mo_pulse_0_j27 (fw_up w 9 0 5 (IM_0 w 2 1)) := by
  unfold mf_Mo_pulse_0_j21 mf_Mo_pulse_0_j22 mf_Mo_pulse_0_j28 mf_Mo_pulse_0_j23 mf_Mo_pulse_0_j24 mf_Mo_pulse_0_j26 IM_0
  (try dsimp only)
  have e0 : nI 0 = (0 : Int32) := rfl
  have e1 : nI 1 = (1 : Int32) := rfl
  have e2 : nI 2 = (2 : Int32) := rfl
  have e3 : nI 3 = (3 : Int32) := rfl
  have e4 : nI 4 = (4 : Int32) := rfl
  have e5 : nI 5 = (5 : Int32) := rfl
  simp only [Nat.reduceAdd, Nat.reduceMul, e0, e1, e2, e3, e4, e5]
  by_cases g : mf_Mo_isGood_0 w (2 : Int32) = 0
  · simp only [g, if_true]
  · by_cases i : mf_Mo_insAt w (2 : Int32) ≤ (1 : Int32)
    · simp only [g, i, if_true, if_false]
    · simp only [g, i, if_false]
theorem pn30_0 (w : fw_V) : mf_Mo_pulse_0_j30 w = if mf_Mo_isGood_0 w (nI 2) = 0 then mf_Mo_pulse_0_j27 (fw_up w 9 0 5 (IM_0 w 2 1)) else mf_Mo_pulse_0_j27 (fw_up w 9 0 5 (IM_0 w 2 1)) := by
  unfold mf_Mo_pulse_0_j30 mf_Mo_pulse_0_j31 mf_Mo_pulse_0_j35 mf_Mo_pulse_0_j32 mf_Mo_pulse_0_j33 mf_Mo_pulse_0_j34 IM_0
  (try dsimp only)
  have e0 : nI 0 = (0 : Int32) := rfl
  have e1 : nI 1 = (1 : Int32) := rfl
  have e2 : nI 2 = (2 : Int32) := rfl
  have e3 : nI 3 = (3 : Int32) := rfl
  have e4 : nI 4 = (4 : Int32) := rfl
  have e5 : nI 5 = (5 : Int32) := rfl
  simp only [Nat.reduceAdd, Nat.reduceMul, e0, e1, e2, e3, e4, e5]
  by_cases g : mf_Mo_isGood_0 w (2 : Int32) = 0
  · simp only [g, if_true]
  · by_cases i : mf_Mo_insAt w (2 : Int32) ≤ (1 : Int32)
    · simp only [g, i, if_true, if_false]
    · simp only [g, i, if_false]
theorem pn38_0 (w : fw_V) : mf_Mo_pulse_0_j38 w = if mf_Mo_isGood_0 w (nI 2) = 0 then mf_Mo_pulse_0_j42 (fw_up w 9 0 4 (IM_0 w 2 0)) else mf_Mo_pulse_0_j51 (fw_up w 9 0 4 (IM_0 w 2 0)) := by
  unfold mf_Mo_pulse_0_j38 mf_Mo_pulse_0_j39 mf_Mo_pulse_0_j57 mf_Mo_pulse_0_j40 mf_Mo_pulse_0_j41 mf_Mo_pulse_0_j50 IM_0
  (try dsimp only)
  have e0 : nI 0 = (0 : Int32) := rfl
  have e1 : nI 1 = (1 : Int32) := rfl
  have e2 : nI 2 = (2 : Int32) := rfl
  have e3 : nI 3 = (3 : Int32) := rfl
  have e4 : nI 4 = (4 : Int32) := rfl
  have e5 : nI 5 = (5 : Int32) := rfl
  simp only [Nat.reduceAdd, Nat.reduceMul, e0, e1, e2, e3, e4, e5]
  by_cases g : mf_Mo_isGood_0 w (2 : Int32) = 0
  · simp only [g, if_true]
  · by_cases i : mf_Mo_insAt w (2 : Int32) ≤ (0 : Int32)
    · simp only [g, i, if_true, if_false]
    · simp only [g, i, if_false]
theorem pn42_0 (w : fw_V) : mf_Mo_pulse_0_j42 w = if mf_Mo_isGood_0 w (nI 2) = 0 then mf_Mo_pulse_0_j46 (fw_up w 9 0 5 (IM_0 w 2 1)) else mf_Mo_pulse_0_j48 (fw_up w 9 0 5 (IM_0 w 2 1)) := by
  unfold mf_Mo_pulse_0_j42 mf_Mo_pulse_0_j43 mf_Mo_pulse_0_j49 mf_Mo_pulse_0_j44 mf_Mo_pulse_0_j45 mf_Mo_pulse_0_j47 IM_0
  (try dsimp only)
  have e0 : nI 0 = (0 : Int32) := rfl
  have e1 : nI 1 = (1 : Int32) := rfl
  have e2 : nI 2 = (2 : Int32) := rfl
  have e3 : nI 3 = (3 : Int32) := rfl
  have e4 : nI 4 = (4 : Int32) := rfl
  have e5 : nI 5 = (5 : Int32) := rfl
  simp only [Nat.reduceAdd, Nat.reduceMul, e0, e1, e2, e3, e4, e5]
  by_cases g : mf_Mo_isGood_0 w (2 : Int32) = 0
  · simp only [g, if_true]
  · by_cases i : mf_Mo_insAt w (2 : Int32) ≤ (1 : Int32)
    · simp only [g, i, if_true, if_false]
    · simp only [g, i, if_false]
theorem pn51_0 (w : fw_V) : mf_Mo_pulse_0_j51 w = if mf_Mo_isGood_0 w (nI 2) = 0 then mf_Mo_pulse_0_j48 (fw_up w 9 0 5 (IM_0 w 2 1)) else mf_Mo_pulse_0_j48 (fw_up w 9 0 5 (IM_0 w 2 1)) := by
  unfold mf_Mo_pulse_0_j51 mf_Mo_pulse_0_j52 mf_Mo_pulse_0_j56 mf_Mo_pulse_0_j53 mf_Mo_pulse_0_j54 mf_Mo_pulse_0_j55 IM_0
  (try dsimp only)
  have e0 : nI 0 = (0 : Int32) := rfl
  have e1 : nI 1 = (1 : Int32) := rfl
  have e2 : nI 2 = (2 : Int32) := rfl
  have e3 : nI 3 = (3 : Int32) := rfl
  have e4 : nI 4 = (4 : Int32) := rfl
  have e5 : nI 5 = (5 : Int32) := rfl
  simp only [Nat.reduceAdd, Nat.reduceMul, e0, e1, e2, e3, e4, e5]
  by_cases g : mf_Mo_isGood_0 w (2 : Int32) = 0
  · simp only [g, if_true]
  · by_cases i : mf_Mo_insAt w (2 : Int32) ≤ (1 : Int32)
    · simp only [g, i, if_true, if_false]
    · simp only [g, i, if_false]
theorem pn60_0 (w : fw_V) : mf_Mo_pulse_0_j60 w = if mf_Mo_isGood_0 w (nI 1) = 0 then mf_Mo_pulse_0_j38 (fw_up w 9 0 3 (IM_0 w 1 1)) else mf_Mo_pulse_0_j38 (fw_up w 9 0 3 (IM_0 w 1 1)) := by
  unfold mf_Mo_pulse_0_j60 mf_Mo_pulse_0_j61 mf_Mo_pulse_0_j65 mf_Mo_pulse_0_j62 mf_Mo_pulse_0_j63 mf_Mo_pulse_0_j64 IM_0
  (try dsimp only)
  have e0 : nI 0 = (0 : Int32) := rfl
  have e1 : nI 1 = (1 : Int32) := rfl
  have e2 : nI 2 = (2 : Int32) := rfl
  have e3 : nI 3 = (3 : Int32) := rfl
  have e4 : nI 4 = (4 : Int32) := rfl
  have e5 : nI 5 = (5 : Int32) := rfl
  simp only [Nat.reduceAdd, Nat.reduceMul, e0, e1, e2, e3, e4, e5]
  by_cases g : mf_Mo_isGood_0 w (1 : Int32) = 0
  · simp only [g, if_true]
  · by_cases i : mf_Mo_insAt w (1 : Int32) ≤ (1 : Int32)
    · simp only [g, i, if_true, if_false]
    · simp only [g, i, if_false]
theorem pn68_0 (w : fw_V) : mf_Mo_pulse_0_j68 w = if mf_Mo_isGood_0 w (nI 1) = 0 then mf_Mo_pulse_0_j72 (fw_up w 9 0 2 (IM_0 w 1 0)) else mf_Mo_pulse_0_j119 (fw_up w 9 0 2 (IM_0 w 1 0)) := by
  unfold mf_Mo_pulse_0_j68 mf_Mo_pulse_0_j69 mf_Mo_pulse_0_j125 mf_Mo_pulse_0_j70 mf_Mo_pulse_0_j71 mf_Mo_pulse_0_j118 IM_0
  (try dsimp only)
  have e0 : nI 0 = (0 : Int32) := rfl
  have e1 : nI 1 = (1 : Int32) := rfl
  have e2 : nI 2 = (2 : Int32) := rfl
  have e3 : nI 3 = (3 : Int32) := rfl
  have e4 : nI 4 = (4 : Int32) := rfl
  have e5 : nI 5 = (5 : Int32) := rfl
  simp only [Nat.reduceAdd, Nat.reduceMul, e0, e1, e2, e3, e4, e5]
  by_cases g : mf_Mo_isGood_0 w (1 : Int32) = 0
  · simp only [g, if_true]
  · by_cases i : mf_Mo_insAt w (1 : Int32) ≤ (0 : Int32)
    · simp only [g, i, if_true, if_false]
    · simp only [g, i, if_false]
theorem pn72_0 (w : fw_V) : mf_Mo_pulse_0_j72 w = if mf_Mo_isGood_0 w (nI 1) = 0 then mf_Mo_pulse_0_j76 (fw_up w 9 0 3 (IM_0 w 1 1)) else mf_Mo_pulse_0_j97 (fw_up w 9 0 3 (IM_0 w 1 1)) := by
  unfold mf_Mo_pulse_0_j72 mf_Mo_pulse_0_j73 mf_Mo_pulse_0_j117 mf_Mo_pulse_0_j74 mf_Mo_pulse_0_j75 mf_Mo_pulse_0_j96 IM_0
  (try dsimp only)
  have e0 : nI 0 = (0 : Int32) := rfl
  have e1 : nI 1 = (1 : Int32) := rfl
  have e2 : nI 2 = (2 : Int32) := rfl
  have e3 : nI 3 = (3 : Int32) := rfl
  have e4 : nI 4 = (4 : Int32) := rfl
  have e5 : nI 5 = (5 : Int32) := rfl
  simp only [Nat.reduceAdd, Nat.reduceMul, e0, e1, e2, e3, e4, e5]
  by_cases g : mf_Mo_isGood_0 w (1 : Int32) = 0
  · simp only [g, if_true]
  · by_cases i : mf_Mo_insAt w (1 : Int32) ≤ (1 : Int32)
    · simp only [g, i, if_true, if_false]
    · simp only [g, i, if_false]
theorem pn76_0 (w : fw_V) : mf_Mo_pulse_0_j76 w = if mf_Mo_isGood_0 w (nI 2) = 0 then mf_Mo_pulse_0_j80 (fw_up w 9 0 4 (IM_0 w 2 0)) else mf_Mo_pulse_0_j89 (fw_up w 9 0 4 (IM_0 w 2 0)) := by
  unfold mf_Mo_pulse_0_j76 mf_Mo_pulse_0_j77 mf_Mo_pulse_0_j95 mf_Mo_pulse_0_j78 mf_Mo_pulse_0_j79 mf_Mo_pulse_0_j88 IM_0
  (try dsimp only)
  have e0 : nI 0 = (0 : Int32) := rfl
  have e1 : nI 1 = (1 : Int32) := rfl
  have e2 : nI 2 = (2 : Int32) := rfl
  have e3 : nI 3 = (3 : Int32) := rfl
  have e4 : nI 4 = (4 : Int32) := rfl
  have e5 : nI 5 = (5 : Int32) := rfl
  simp only [Nat.reduceAdd, Nat.reduceMul, e0, e1, e2, e3, e4, e5]
  by_cases g : mf_Mo_isGood_0 w (2 : Int32) = 0
  · simp only [g, if_true]
  · by_cases i : mf_Mo_insAt w (2 : Int32) ≤ (0 : Int32)
    · simp only [g, i, if_true, if_false]
    · simp only [g, i, if_false]
theorem pn80_0 (w : fw_V) : mf_Mo_pulse_0_j80 w = if mf_Mo_isGood_0 w (nI 2) = 0 then mf_Mo_pulse_0_j84 (fw_up w 9 0 5 (IM_0 w 2 1)) else mf_Mo_pulse_0_j86 (fw_up w 9 0 5 (IM_0 w 2 1)) := by
  unfold mf_Mo_pulse_0_j80 mf_Mo_pulse_0_j81 mf_Mo_pulse_0_j87 mf_Mo_pulse_0_j82 mf_Mo_pulse_0_j83 mf_Mo_pulse_0_j85 IM_0
  (try dsimp only)
  have e0 : nI 0 = (0 : Int32) := rfl
  have e1 : nI 1 = (1 : Int32) := rfl
  have e2 : nI 2 = (2 : Int32) := rfl
  have e3 : nI 3 = (3 : Int32) := rfl
  have e4 : nI 4 = (4 : Int32) := rfl
  have e5 : nI 5 = (5 : Int32) := rfl
  simp only [Nat.reduceAdd, Nat.reduceMul, e0, e1, e2, e3, e4, e5]
  by_cases g : mf_Mo_isGood_0 w (2 : Int32) = 0
  · simp only [g, if_true]
  · by_cases i : mf_Mo_insAt w (2 : Int32) ≤ (1 : Int32)
    · simp only [g, i, if_true, if_false]
    · simp only [g, i, if_false]
theorem pn89_0 (w : fw_V) : mf_Mo_pulse_0_j89 w = if mf_Mo_isGood_0 w (nI 2) = 0 then mf_Mo_pulse_0_j86 (fw_up w 9 0 5 (IM_0 w 2 1)) else mf_Mo_pulse_0_j86 (fw_up w 9 0 5 (IM_0 w 2 1)) := by
  unfold mf_Mo_pulse_0_j89 mf_Mo_pulse_0_j90 mf_Mo_pulse_0_j94 mf_Mo_pulse_0_j91 mf_Mo_pulse_0_j92 mf_Mo_pulse_0_j93 IM_0
  (try dsimp only)
  have e0 : nI 0 = (0 : Int32) := rfl
  have e1 : nI 1 = (1 : Int32) := rfl
  have e2 : nI 2 = (2 : Int32) := rfl
  have e3 : nI 3 = (3 : Int32) := rfl
  have e4 : nI 4 = (4 : Int32) := rfl
  have e5 : nI 5 = (5 : Int32) := rfl
  simp only [Nat.reduceAdd, Nat.reduceMul, e0, e1, e2, e3, e4, e5]
  by_cases g : mf_Mo_isGood_0 w (2 : Int32) = 0
  · simp only [g, if_true]
  · by_cases i : mf_Mo_insAt w (2 : Int32) ≤ (1 : Int32)
    · simp only [g, i, if_true, if_false]
    · simp only [g, i, if_false]
theorem pn97_0 (w : fw_V) : mf_Mo_pulse_0_j97 w = if mf_Mo_isGood_0 w (nI 2) = 0 then mf_Mo_pulse_0_j101 (fw_up w 9 0 4 (IM_0 w 2 0)) else mf_Mo_pulse_0_j110 (fw_up w 9 0 4 (IM_0 w 2 0)) := by
  unfold mf_Mo_pulse_0_j97 mf_Mo_pulse_0_j98 mf_Mo_pulse_0_j116 mf_Mo_pulse_0_j99 mf_Mo_pulse_0_j100 mf_Mo_pulse_0_j109 IM_0
  (try dsimp only)
  have e0 : nI 0 = (0 : Int32) := rfl
  have e1 : nI 1 = (1 : Int32) := rfl
  have e2 : nI 2 = (2 : Int32) := rfl
  have e3 : nI 3 = (3 : Int32) := rfl
  have e4 : nI 4 = (4 : Int32) := rfl
  have e5 : nI 5 = (5 : Int32) := rfl
  simp only [Nat.reduceAdd, Nat.reduceMul, e0, e1, e2, e3, e4, e5]
  by_cases g : mf_Mo_isGood_0 w (2 : Int32) = 0
  · simp only [g, if_true]
  · by_cases i : mf_Mo_insAt w (2 : Int32) ≤ (0 : Int32)
    · simp only [g, i, if_true, if_false]
    · simp only [g, i, if_false]
theorem pn101_0 (w : fw_V) : mf_Mo_pulse_0_j101 w = if mf_Mo_isGood_0 w (nI 2) = 0 then mf_Mo_pulse_0_j105 (fw_up w 9 0 5 (IM_0 w 2 1)) else mf_Mo_pulse_0_j107 (fw_up w 9 0 5 (IM_0 w 2 1)) := by
  unfold mf_Mo_pulse_0_j101 mf_Mo_pulse_0_j102 mf_Mo_pulse_0_j108 mf_Mo_pulse_0_j103 mf_Mo_pulse_0_j104 mf_Mo_pulse_0_j106 IM_0
  (try dsimp only)
  have e0 : nI 0 = (0 : Int32) := rfl
  have e1 : nI 1 = (1 : Int32) := rfl
  have e2 : nI 2 = (2 : Int32) := rfl
  have e3 : nI 3 = (3 : Int32) := rfl
  have e4 : nI 4 = (4 : Int32) := rfl
  have e5 : nI 5 = (5 : Int32) := rfl
  simp only [Nat.reduceAdd, Nat.reduceMul, e0, e1, e2, e3, e4, e5]
  by_cases g : mf_Mo_isGood_0 w (2 : Int32) = 0
  · simp only [g, if_true]
  · by_cases i : mf_Mo_insAt w (2 : Int32) ≤ (1 : Int32)
    · simp only [g, i, if_true, if_false]
    · simp only [g, i, if_false]
theorem pn110_0 (w : fw_V) : mf_Mo_pulse_0_j110 w = if mf_Mo_isGood_0 w (nI 2) = 0 then mf_Mo_pulse_0_j107 (fw_up w 9 0 5 (IM_0 w 2 1)) else mf_Mo_pulse_0_j107 (fw_up w 9 0 5 (IM_0 w 2 1)) := by
  unfold mf_Mo_pulse_0_j110 mf_Mo_pulse_0_j111 mf_Mo_pulse_0_j115 mf_Mo_pulse_0_j112 mf_Mo_pulse_0_j113 mf_Mo_pulse_0_j114 IM_0
  (try dsimp only)
  have e0 : nI 0 = (0 : Int32) := rfl
  have e1 : nI 1 = (1 : Int32) := rfl
  have e2 : nI 2 = (2 : Int32) := rfl
  have e3 : nI 3 = (3 : Int32) := rfl
  have e4 : nI 4 = (4 : Int32) := rfl
  have e5 : nI 5 = (5 : Int32) := rfl
  simp only [Nat.reduceAdd, Nat.reduceMul, e0, e1, e2, e3, e4, e5]
  by_cases g : mf_Mo_isGood_0 w (2 : Int32) = 0
  · simp only [g, if_true]
  · by_cases i : mf_Mo_insAt w (2 : Int32) ≤ (1 : Int32)
    · simp only [g, i, if_true, if_false]
    · simp only [g, i, if_false]
theorem pn119_0 (w : fw_V) : mf_Mo_pulse_0_j119 w = if mf_Mo_isGood_0 w (nI 1) = 0 then mf_Mo_pulse_0_j97 (fw_up w 9 0 3 (IM_0 w 1 1)) else mf_Mo_pulse_0_j97 (fw_up w 9 0 3 (IM_0 w 1 1)) := by
  unfold mf_Mo_pulse_0_j119 mf_Mo_pulse_0_j120 mf_Mo_pulse_0_j124 mf_Mo_pulse_0_j121 mf_Mo_pulse_0_j122 mf_Mo_pulse_0_j123 IM_0
  (try dsimp only)
  have e0 : nI 0 = (0 : Int32) := rfl
  have e1 : nI 1 = (1 : Int32) := rfl
  have e2 : nI 2 = (2 : Int32) := rfl
  have e3 : nI 3 = (3 : Int32) := rfl
  have e4 : nI 4 = (4 : Int32) := rfl
  have e5 : nI 5 = (5 : Int32) := rfl
  simp only [Nat.reduceAdd, Nat.reduceMul, e0, e1, e2, e3, e4, e5]
  by_cases g : mf_Mo_isGood_0 w (1 : Int32) = 0
  · simp only [g, if_true]
  · by_cases i : mf_Mo_insAt w (1 : Int32) ≤ (1 : Int32)
    · simp only [g, i, if_true, if_false]
    · simp only [g, i, if_false]
theorem pn128_0 (w : fw_V) : mf_Mo_pulse_0_j128 w = if mf_Mo_isGood_0 w (nI 0) = 0 then mf_Mo_pulse_0_j68 (fw_up w 9 0 1 (IM_0 w 0 1)) else mf_Mo_pulse_0_j68 (fw_up w 9 0 1 (IM_0 w 0 1)) := by
  unfold mf_Mo_pulse_0_j128 mf_Mo_pulse_0_j129 mf_Mo_pulse_0_j133 mf_Mo_pulse_0_j130 mf_Mo_pulse_0_j131 mf_Mo_pulse_0_j132 IM_0
  (try dsimp only)
  have e0 : nI 0 = (0 : Int32) := rfl
  have e1 : nI 1 = (1 : Int32) := rfl
  have e2 : nI 2 = (2 : Int32) := rfl
  have e3 : nI 3 = (3 : Int32) := rfl
  have e4 : nI 4 = (4 : Int32) := rfl
  have e5 : nI 5 = (5 : Int32) := rfl
  simp only [Nat.reduceAdd, Nat.reduceMul, e0, e1, e2, e3, e4, e5]
  by_cases g : mf_Mo_isGood_0 w (0 : Int32) = 0
  · simp only [g, if_true]
  · by_cases i : mf_Mo_insAt w (0 : Int32) ≤ (1 : Int32)
    · simp only [g, i, if_true, if_false]
    · simp only [g, i, if_false]
theorem pl25_0 (w : fw_V) : mf_Mo_pulse_0_j25 w = LF_0 w 0 := rfl
theorem pl27_0 (w : fw_V) : mf_Mo_pulse_0_j27 w = LF_0 w 4 := rfl
theorem pl46_0 (w : fw_V) : mf_Mo_pulse_0_j46 w = LF_0 w 2 := rfl
theorem pl48_0 (w : fw_V) : mf_Mo_pulse_0_j48 w = LF_0 w 6 := rfl
theorem pl84_0 (w : fw_V) : mf_Mo_pulse_0_j84 w = LF_0 w 1 := rfl
theorem pl86_0 (w : fw_V) : mf_Mo_pulse_0_j86 w = LF_0 w 5 := rfl
theorem pl105_0 (w : fw_V) : mf_Mo_pulse_0_j105 w = LF_0 w 3 := rfl
theorem pl107_0 (w : fw_V) : mf_Mo_pulse_0_j107 w = LF_0 w 7 := rfl
theorem pi_0 (w : fw_V) : mf_Mo_pulse_0_j1 w = LF_0 (fw_up (fw_up (fw_up (fw_up (fw_up (fw_up w 9 0 0 (IM_0 w 0 0)) 9 0 1 (IM_0 w 0 1)) 9 0 2 (IM_0 w 1 0)) 9 0 3 (IM_0 w 1 1)) 9 0 4 (IM_0 w 2 0)) 9 0 5 (IM_0 w 2 1)) (GM (mf_Mo_isGood_0 w (nI 0)) (mf_Mo_isGood_0 w (nI 1)) (mf_Mo_isGood_0 w (nI 2))) := by
  unfold GM
  by_cases g0 : mf_Mo_isGood_0 w (nI 0) = 0 <;> by_cases g1 : mf_Mo_isGood_0 w (nI 1) = 0 <;> by_cases g2 : mf_Mo_isGood_0 w (nI 2) = 0 <;>
    simp only [pn1_0, pn5_0, pn9_0, pn13_0, pn17_0, pn21_0, pn30_0, pn38_0, pn42_0, pn51_0, pn60_0, pn68_0, pn72_0, pn76_0, pn80_0, pn89_0, pn97_0, pn101_0, pn110_0, pn119_0, pn128_0, gd_9_0, IM_9_0, g0, g1, g2, if_true, if_false, pl25_0, pl27_0, pl46_0, pl48_0, pl84_0, pl86_0, pl105_0, pl107_0]


def IM_1 (w : fw_V) (s j : Nat) : Int32 := if mf_Mo_isGood_1 w (nI s) = 0 then 0 else if mf_Mo_insAt w (nI (3 + s)) ≤ nI j then 0 else w 45 0 (6 + 2 * s + j)
theorem gd_cg_1 {w w' : fw_V} {a : Int32} (h : ∀ c k, c = 43 ∨ c = 31 → w' c 0 k = w c 0 k) : mf_Mo_isGood_1 w' a = mf_Mo_isGood_1 w a := by
  unfold mf_Mo_isGood_1
  simp only [h 43 _ (by decide), h 31 _ (by decide)]
theorem IM_cg_1 {w w' : fw_V} {s j : Nat} (h : ∀ c k, c = 43 ∨ c = 31 ∨ c = 42 ∨ c = 1 ∨ c = 45 → w' c 0 k = w c 0 k) : IM_1 w' s j = IM_1 w s j := by
  unfold IM_1 mf_Mo_insAt
  rw [gd_cg_1 (w := w) (w' := w') (fun c k hc => h c k (by omega))]
  simp only [h 42 _ (by decide), h 1 _ (by decide), h 45 _ (by decide)]
theorem gd_9_1 {w : fw_V} {k : Nat} {a x : Int32} : mf_Mo_isGood_1 (fw_up w 9 0 k x) a = mf_Mo_isGood_1 w a := gd_cg_1 (fun c k hc => fw_up_c (by omega))
theorem IM_9_1 {w : fw_V} {s j k : Nat} {x : Int32} : IM_1 (fw_up w 9 0 k x) s j = IM_1 w s j := IM_cg_1 (fun c k hc => fw_up_c (by omega))
def LF_1 (w : fw_V) (m : Int32) : fw_V := fw_up (mf_Mo_reply_1 (fw_up w 9 0 6 m) 13 (fw_up w 9 0 6 m 34 0 1)) 34 0 1 ((mf_Mo_reply_1 (fw_up w 9 0 6 m) 13 (fw_up w 9 0 6 m 34 0 1) 34 0 1 + 1) &&& 255)
theorem pn1_1 (w : fw_V) : mf_Mo_pulse_1_j1 w = if mf_Mo_isGood_1 w (nI 0) = 0 then mf_Mo_pulse_1_j5 (fw_up w 9 0 0 (IM_1 w 0 0)) else mf_Mo_pulse_1_j128 (fw_up w 9 0 0 (IM_1 w 0 0)) := by
  unfold mf_Mo_pulse_1_j1 mf_Mo_pulse_1_j2 mf_Mo_pulse_1_j134 mf_Mo_pulse_1_j3 mf_Mo_pulse_1_j4 mf_Mo_pulse_1_j127 IM_1
  (try dsimp only)
  have e0 : nI 0 = (0 : Int32) := rfl
  have e1 : nI 1 = (1 : Int32) := rfl
  have e2 : nI 2 = (2 : Int32) := rfl
  have e3 : nI 3 = (3 : Int32) := rfl
  have e4 : nI 4 = (4 : Int32) := rfl
  have e5 : nI 5 = (5 : Int32) := rfl
  simp only [Nat.reduceAdd, Nat.reduceMul, e0, e1, e2, e3, e4, e5]
  by_cases g : mf_Mo_isGood_1 w (0 : Int32) = 0
  · simp only [g, if_true]
  · by_cases i : mf_Mo_insAt w (3 : Int32) ≤ (0 : Int32)
    · simp only [g, i, if_true, if_false]
    · simp only [g, i, if_false]
theorem pn5_1 (w : fw_V) : mf_Mo_pulse_1_j5 w = if mf_Mo_isGood_1 w (nI 0) = 0 then mf_Mo_pulse_1_j9 (fw_up w 9 0 1 (IM_1 w 0 1)) else mf_Mo_pulse_1_j68 (fw_up w 9 0 1 (IM_1 w 0 1)) := by
  unfold mf_Mo_pulse_1_j5 mf_Mo_pulse_1_j6 mf_Mo_pulse_1_j126 mf_Mo_pulse_1_j7 mf_Mo_pulse_1_j8 mf_Mo_pulse_1_j67 IM_1
  (try dsimp only)
  have e0 : nI 0 = (0 : Int32) := rfl
  have e1 : nI 1 = (1 : Int32) := rfl
  have e2 : nI 2 = (2 : Int32) := rfl
  have e3 : nI 3 = (3 : Int32) := rfl
  have e4 : nI 4 = (4 : Int32) := rfl
  have e5 : nI 5 = (5 : Int32) := rfl
  simp only [Nat.reduceAdd, Nat.reduceMul, e0, e1, e2, e3, e4, e5]
  by_cases g : mf_Mo_isGood_1 w (0 : Int32) = 0
  · simp only [g, if_true]
  · by_cases i : mf_Mo_insAt w (3 : Int32) ≤ (1 : Int32)
    · simp only [g, i, if_true, if_false]
    · simp only [g, i, if_false]
theorem pn9_1 (w : fw_V) : mf_Mo_pulse_1_j9 w = if mf_Mo_isGood_1 w (nI 1) = 0 then mf_Mo_pulse_1_j13 (fw_up w 9 0 2 (IM_1 w 1 0)) else mf_Mo_pulse_1_j60 (fw_up w 9 0 2 (IM_1 w 1 0)) := by
  unfold mf_Mo_pulse_1_j9 mf_Mo_pulse_1_j10 mf_Mo_pulse_1_j66 mf_Mo_pulse_1_j11 mf_Mo_pulse_1_j12 mf_Mo_pulse_1_j59 IM_1
  (try dsimp only)
  have e0 : nI 0 = (0 : Int32) := rfl
  have e1 : nI 1 = (1 : Int32) := rfl
  have e2 : nI 2 = (2 : Int32) := rfl
  have e3 : nI 3 = (3 : Int32) := rfl
  have e4 : nI 4 = (4 : Int32) := rfl
  have e5 : nI 5 = (5 : Int32) := rfl
  simp only [Nat.reduceAdd, Nat.reduceMul, e0, e1, e2, e3, e4, e5]
  by_cases g : mf_Mo_isGood_1 w (1 : Int32) = 0
  · simp only [g, if_true]
  · by_cases i : mf_Mo_insAt w (4 : Int32) ≤ (0 : Int32)
    · simp only [g, i, if_true, if_false]
    · simp only [g, i, if_false]
theorem pn13_1 (w : fw_V) : mf_Mo_pulse_1_j13 w = if mf_Mo_isGood_1 w (nI 1) = 0 then mf_Mo_pulse_1_j17 (fw_up w 9 0 3 (IM_1 w 1 1)) else mf_Mo_pulse_1_j38 (fw_up w 9 0 3 (IM_1 w 1 1)) := by
  unfold mf_Mo_pulse_1_j13 mf_Mo_pulse_1_j14 mf_Mo_pulse_1_j58 mf_Mo_pulse_1_j15 mf_Mo_pulse_1_j16 mf_Mo_pulse_1_j37 IM_1
  (try dsimp only)
  have e0 : nI 0 = (0 : Int32) := rfl
  have e1 : nI 1 = (1 : Int32) := rfl
  have e2 : nI 2 = (2 : Int32) := rfl
  have e3 : nI 3 = (3 : Int32) := rfl
  have e4 : nI 4 = (4 : Int32) := rfl
  have e5 : nI 5 = (5 : Int32) := rfl
  simp only [Nat.reduceAdd, Nat.reduceMul, e0, e1, e2, e3, e4, e5]
  by_cases g : mf_Mo_isGood_1 w (1 : Int32) = 0
  · simp only [g, if_true]
  · by_cases i : mf_Mo_insAt w (4 : Int32) ≤ (1 : Int32)
    · simp only [g, i, if_true, if_false]
    · simp only [g, i, if_false]
theorem pn17_1 (w : fw_V) : mf_Mo_pulse_1_j17 w = if mf_Mo_isGood_1 w (nI 2) = 0 then mf_Mo_pulse_1_j21 (fw_up w 9 0 4 (IM_1 w 2 0)) else mf_Mo_pulse_1_j30 (fw_up w 9 0 4 (IM_1 w 2 0)) := by
  unfold mf_Mo_pulse_1_j17 mf_Mo_pulse_1_j18 mf_Mo_pulse_1_j36 mf_Mo_pulse_1_j19 mf_Mo_pulse_1_j20 mf_Mo_pulse_1_j29 IM_1
  (try dsimp only)
  have e0 : nI 0 = (0 : Int32) := rfl
  have e1 : nI 1 = (1 : Int32) := rfl
  have e2 : nI 2 = (2 : Int32) := rfl
  have e3 : nI 3 = (3 : Int32) := rfl
  have e4 : nI 4 = (4 : Int32) := rfl
  have e5 : nI 5 = (5 : Int32) := rfl
  simp only [Nat.reduceAdd, Nat.reduceMul, e0, e1, e2, e3, e4, e5]
  by_cases g : mf_Mo_isGood_1 w (2 : Int32) = 0
  · simp only [g, if_true]
  · by_cases i : mf_Mo_insAt w (5 : Int32) ≤ (0 : Int32)
    · simp only [g, i, if_true, if_false]
    · simp only [g, i, if_false]
theorem pn21_1 (w : fw_V) : mf_Mo_pulse_1_j21 w = if mf_Mo_isGood_1 w (nI 2) = 0 then mf_Mo_pulse_1_j25 (fw_up w 9 0 5 (IM_1 w 2 1)) else mf_Mo_pulse_1_j27 (fw_up w 9 0 5 (IM_1 w 2 1)) := by
  unfold mf_Mo_pulse_1_j21 mf_Mo_pulse_1_j22 mf_Mo_pulse_1_j28 mf_Mo_pulse_1_j23 mf_Mo_pulse_1_j24 mf_Mo_pulse_1_j26 IM_1
  (try dsimp only)
  have e0 : nI 0 = (0 : Int32) := rfl
  have e1 : nI 1 = (1 : Int32) := rfl
  have e2 : nI 2 = (2 : Int32) := rfl
  have e3 : nI 3 = (3 : Int32) := rfl
  have e4 : nI 4 = (4 : Int32) := rfl
  have e5 : nI 5 = (5 : Int32) := rfl
  simp only [Nat.reduceAdd, Nat.reduceMul, e0, e1, e2, e3, e4, e5]
  by_cases g : mf_Mo_isGood_1 w (2 : Int32) = 0
  · simp only [g, if_true]
  · by_cases i : mf_Mo_insAt w (5 : Int32) ≤ (1 : Int32)
    · simp only [g, i, if_true, if_false]
    · simp only [g, i, if_false]
theorem pn30_1 (w : fw_V) : mf_Mo_pulse_1_j30 w = if mf_Mo_isGood_1 w (nI 2) = 0 then mf_Mo_pulse_1_j27 (fw_up w 9 0 5 (IM_1 w 2 1)) else mf_Mo_pulse_1_j27 (fw_up w 9 0 5 (IM_1 w 2 1)) := by
  unfold mf_Mo_pulse_1_j30 mf_Mo_pulse_1_j31 mf_Mo_pulse_1_j35 mf_Mo_pulse_1_j32 mf_Mo_pulse_1_j33 mf_Mo_pulse_1_j34 IM_1
  (try dsimp only)
  have e0 : nI 0 = (0 : Int32) := rfl
  have e1 : nI 1 = (1 : Int32) := rfl
  have e2 : nI 2 = (2 : Int32) := rfl
  have e3 : nI 3 = (3 : Int32) := rfl
  have e4 : nI 4 = (4 : Int32) := rfl
  have e5 : nI 5 = (5 : Int32) := rfl
  simp only [Nat.reduceAdd, Nat.reduceMul, e0, e1, e2, e3, e4, e5]
  by_cases g : mf_Mo_isGood_1 w (2 : Int32) = 0
  · simp only [g, if_true]
  · by_cases i : mf_Mo_insAt w (5 : Int32) ≤ (1 : Int32)
    · simp only [g, i, if_true, if_false]
    · simp only [g, i, if_false]
theorem pn38_1 (w : fw_V) : mf_Mo_pulse_1_j38 w = if mf_Mo_isGood_1 w (nI 2) = 0 then mf_Mo_pulse_1_j42 (fw_up w 9 0 4 (IM_1 w 2 0)) else mf_Mo_pulse_1_j51 (fw_up w 9 0 4 (IM_1 w 2 0)) := by
  unfold mf_Mo_pulse_1_j38 mf_Mo_pulse_1_j39 mf_Mo_pulse_1_j57 mf_Mo_pulse_1_j40 mf_Mo_pulse_1_j41 mf_Mo_pulse_1_j50 IM_1
  (try dsimp only)
  have e0 : nI 0 = (0 : Int32) := rfl
  have e1 : nI 1 = (1 : Int32) := rfl
  have e2 : nI 2 = (2 : Int32) := rfl
  have e3 : nI 3 = (3 : Int32) := rfl
  have e4 : nI 4 = (4 : Int32) := rfl
  have e5 : nI 5 = (5 : Int32) := rfl
  simp only [Nat.reduceAdd, Nat.reduceMul, e0, e1, e2, e3, e4, e5]
  by_cases g : mf_Mo_isGood_1 w (2 : Int32) = 0
  · simp only [g, if_true]
  · by_cases i : mf_Mo_insAt w (5 : Int32) ≤ (0 : Int32)
    · simp only [g, i, if_true, if_false]
    · simp only [g, i, if_false]
theorem pn42_1 (w : fw_V) : mf_Mo_pulse_1_j42 w = if mf_Mo_isGood_1 w (nI 2) = 0 then mf_Mo_pulse_1_j46 (fw_up w 9 0 5 (IM_1 w 2 1)) else mf_Mo_pulse_1_j48 (fw_up w 9 0 5 (IM_1 w 2 1)) := by
  unfold mf_Mo_pulse_1_j42 mf_Mo_pulse_1_j43 mf_Mo_pulse_1_j49 mf_Mo_pulse_1_j44 mf_Mo_pulse_1_j45 mf_Mo_pulse_1_j47 IM_1
  (try dsimp only)
  have e0 : nI 0 = (0 : Int32) := rfl
  have e1 : nI 1 = (1 : Int32) := rfl
  have e2 : nI 2 = (2 : Int32) := rfl
  have e3 : nI 3 = (3 : Int32) := rfl
  have e4 : nI 4 = (4 : Int32) := rfl
  have e5 : nI 5 = (5 : Int32) := rfl
  simp only [Nat.reduceAdd, Nat.reduceMul, e0, e1, e2, e3, e4, e5]
  by_cases g : mf_Mo_isGood_1 w (2 : Int32) = 0
  · simp only [g, if_true]
  · by_cases i : mf_Mo_insAt w (5 : Int32) ≤ (1 : Int32)
    · simp only [g, i, if_true, if_false]
    · simp only [g, i, if_false]
theorem pn51_1 (w : fw_V) : mf_Mo_pulse_1_j51 w = if mf_Mo_isGood_1 w (nI 2) = 0 then mf_Mo_pulse_1_j48 (fw_up w 9 0 5 (IM_1 w 2 1)) else mf_Mo_pulse_1_j48 (fw_up w 9 0 5 (IM_1 w 2 1)) := by
  unfold mf_Mo_pulse_1_j51 mf_Mo_pulse_1_j52 mf_Mo_pulse_1_j56 mf_Mo_pulse_1_j53 mf_Mo_pulse_1_j54 mf_Mo_pulse_1_j55 IM_1
  (try dsimp only)
  have e0 : nI 0 = (0 : Int32) := rfl
  have e1 : nI 1 = (1 : Int32) := rfl
  have e2 : nI 2 = (2 : Int32) := rfl
  have e3 : nI 3 = (3 : Int32) := rfl
  have e4 : nI 4 = (4 : Int32) := rfl
  have e5 : nI 5 = (5 : Int32) := rfl
  simp only [Nat.reduceAdd, Nat.reduceMul, e0, e1, e2, e3, e4, e5]
  by_cases g : mf_Mo_isGood_1 w (2 : Int32) = 0
  · simp only [g, if_true]
  · by_cases i : mf_Mo_insAt w (5 : Int32) ≤ (1 : Int32)
    · simp only [g, i, if_true, if_false]
    · simp only [g, i, if_false]
theorem pn60_1 (w : fw_V) : mf_Mo_pulse_1_j60 w = if mf_Mo_isGood_1 w (nI 1) = 0 then mf_Mo_pulse_1_j38 (fw_up w 9 0 3 (IM_1 w 1 1)) else mf_Mo_pulse_1_j38 (fw_up w 9 0 3 (IM_1 w 1 1)) := by
  unfold mf_Mo_pulse_1_j60 mf_Mo_pulse_1_j61 mf_Mo_pulse_1_j65 mf_Mo_pulse_1_j62 mf_Mo_pulse_1_j63 mf_Mo_pulse_1_j64 IM_1
  (try dsimp only)
  have e0 : nI 0 = (0 : Int32) := rfl
  have e1 : nI 1 = (1 : Int32) := rfl
  have e2 : nI 2 = (2 : Int32) := rfl
  have e3 : nI 3 = (3 : Int32) := rfl
  have e4 : nI 4 = (4 : Int32) := rfl
  have e5 : nI 5 = (5 : Int32) := rfl
  simp only [Nat.reduceAdd, Nat.reduceMul, e0, e1, e2, e3, e4, e5]
  by_cases g : mf_Mo_isGood_1 w (1 : Int32) = 0
  · simp only [g, if_true]
  · by_cases i : mf_Mo_insAt w (4 : Int32) ≤ (1 : Int32)
    · simp only [g, i, if_true, if_false]
    · simp only [g, i, if_false]
theorem pn68_1 (w : fw_V) : mf_Mo_pulse_1_j68 w = if mf_Mo_isGood_1 w (nI 1) = 0 then mf_Mo_pulse_1_j72 (fw_up w 9 0 2 (IM_1 w 1 0)) else mf_Mo_pulse_1_j119 (fw_up w 9 0 2 (IM_1 w 1 0)) := by
  unfold mf_Mo_pulse_1_j68 mf_Mo_pulse_1_j69 mf_Mo_pulse_1_j125 mf_Mo_pulse_1_j70 mf_Mo_pulse_1_j71 mf_Mo_pulse_1_j118 IM_1
  (try dsimp only)
  have e0 : nI 0 = (0 : Int32) := rfl
  have e1 : nI 1 = (1 : Int32) := rfl
  have e2 : nI 2 = (2 : Int32) := rfl
  have e3 : nI 3 = (3 : Int32) := rfl
  have e4 : nI 4 = (4 : Int32) := rfl
  have e5 : nI 5 = (5 : Int32) := rfl
  simp only [Nat.reduceAdd, Nat.reduceMul, e0, e1, e2, e3, e4, e5]
  by_cases g : mf_Mo_isGood_1 w (1 : Int32) = 0
  · simp only [g, if_true]
  · by_cases i : mf_Mo_insAt w (4 : Int32) ≤ (0 : Int32)
    · simp only [g, i, if_true, if_false]
    · simp only [g, i, if_false]
theorem pn72_1 (w : fw_V) : mf_Mo_pulse_1_j72 w = if mf_Mo_isGood_1 w (nI 1) = 0 then mf_Mo_pulse_1_j76 (fw_up w 9 0 3 (IM_1 w 1 1)) else mf_Mo_pulse_1_j97 (fw_up w 9 0 3 (IM_1 w 1 1)) := by
  unfold mf_Mo_pulse_1_j72 mf_Mo_pulse_1_j73 mf_Mo_pulse_1_j117 mf_Mo_pulse_1_j74 mf_Mo_pulse_1_j75 mf_Mo_pulse_1_j96 IM_1
  (try dsimp only)
  have e0 : nI 0 = (0 : Int32) := rfl
  have e1 : nI 1 = (1 : Int32) := rfl
  have e2 : nI 2 = (2 : Int32) := rfl
  have e3 : nI 3 = (3 : Int32) := rfl
  have e4 : nI 4 = (4 : Int32) := rfl
  have e5 : nI 5 = (5 : Int32) := rfl
  simp only [Nat.reduceAdd, Nat.reduceMul, e0, e1, e2, e3, e4, e5]
  by_cases g : mf_Mo_isGood_1 w (1 : Int32) = 0
  · simp only [g, if_true]
  · by_cases i : mf_Mo_insAt w (4 : Int32) ≤ (1 : Int32)
    · simp only [g, i, if_true, if_false]
    · simp only [g, i, if_false]
theorem pn76_1 (w : fw_V) : mf_Mo_pulse_1_j76 w = if mf_Mo_isGood_1 w (nI 2) = 0 then mf_Mo_pulse_1_j80 (fw_up w 9 0 4 (IM_1 w 2 0)) else mf_Mo_pulse_1_j89 (fw_up w 9 0 4 (IM_1 w 2 0)) := by
  unfold mf_Mo_pulse_1_j76 mf_Mo_pulse_1_j77 mf_Mo_pulse_1_j95 mf_Mo_pulse_1_j78 mf_Mo_pulse_1_j79 mf_Mo_pulse_1_j88 IM_1
  (try dsimp only)
  have e0 : nI 0 = (0 : Int32) := rfl
  have e1 : nI 1 = (1 : Int32) := rfl
  have e2 : nI 2 = (2 : Int32) := rfl
  have e3 : nI 3 = (3 : Int32) := rfl
  have e4 : nI 4 = (4 : Int32) := rfl
  have e5 : nI 5 = (5 : Int32) := rfl
  simp only [Nat.reduceAdd, Nat.reduceMul, e0, e1, e2, e3, e4, e5]
  by_cases g : mf_Mo_isGood_1 w (2 : Int32) = 0
  · simp only [g, if_true]
  · by_cases i : mf_Mo_insAt w (5 : Int32) ≤ (0 : Int32)
    · simp only [g, i, if_true, if_false]
    · simp only [g, i, if_false]
theorem pn80_1 (w : fw_V) : mf_Mo_pulse_1_j80 w = if mf_Mo_isGood_1 w (nI 2) = 0 then mf_Mo_pulse_1_j84 (fw_up w 9 0 5 (IM_1 w 2 1)) else mf_Mo_pulse_1_j86 (fw_up w 9 0 5 (IM_1 w 2 1)) := by
  unfold mf_Mo_pulse_1_j80 mf_Mo_pulse_1_j81 mf_Mo_pulse_1_j87 mf_Mo_pulse_1_j82 mf_Mo_pulse_1_j83 mf_Mo_pulse_1_j85 IM_1
  (try dsimp only)
  have e0 : nI 0 = (0 : Int32) := rfl
  have e1 : nI 1 = (1 : Int32) := rfl
  have e2 : nI 2 = (2 : Int32) := rfl
  have e3 : nI 3 = (3 : Int32) := rfl
  have e4 : nI 4 = (4 : Int32) := rfl
  have e5 : nI 5 = (5 : Int32) := rfl
  simp only [Nat.reduceAdd, Nat.reduceMul, e0, e1, e2, e3, e4, e5]
  by_cases g : mf_Mo_isGood_1 w (2 : Int32) = 0
  · simp only [g, if_true]
  · by_cases i : mf_Mo_insAt w (5 : Int32) ≤ (1 : Int32)
    · simp only [g, i, if_true, if_false]
    · simp only [g, i, if_false]
theorem pn89_1 (w : fw_V) : mf_Mo_pulse_1_j89 w = if mf_Mo_isGood_1 w (nI 2) = 0 then mf_Mo_pulse_1_j86 (fw_up w 9 0 5 (IM_1 w 2 1)) else mf_Mo_pulse_1_j86 (fw_up w 9 0 5 (IM_1 w 2 1)) := by
  unfold mf_Mo_pulse_1_j89 mf_Mo_pulse_1_j90 mf_Mo_pulse_1_j94 mf_Mo_pulse_1_j91 mf_Mo_pulse_1_j92 mf_Mo_pulse_1_j93 IM_1
  (try dsimp only)
  have e0 : nI 0 = (0 : Int32) := rfl
  have e1 : nI 1 = (1 : Int32) := rfl
  have e2 : nI 2 = (2 : Int32) := rfl
  have e3 : nI 3 = (3 : Int32) := rfl
  have e4 : nI 4 = (4 : Int32) := rfl
  have e5 : nI 5 = (5 : Int32) := rfl
  simp only [Nat.reduceAdd, Nat.reduceMul, e0, e1, e2, e3, e4, e5]
  by_cases g : mf_Mo_isGood_1 w (2 : Int32) = 0
  · simp only [g, if_true]
  · by_cases i : mf_Mo_insAt w (5 : Int32) ≤ (1 : Int32)
    · simp only [g, i, if_true, if_false]
    · simp only [g, i, if_false]
theorem pn97_1 (w : fw_V) : mf_Mo_pulse_1_j97 w = if mf_Mo_isGood_1 w (nI 2) = 0 then mf_Mo_pulse_1_j101 (fw_up w 9 0 4 (IM_1 w 2 0)) else mf_Mo_pulse_1_j110 (fw_up w 9 0 4 (IM_1 w 2 0)) := by
  unfold mf_Mo_pulse_1_j97 mf_Mo_pulse_1_j98 mf_Mo_pulse_1_j116 mf_Mo_pulse_1_j99 mf_Mo_pulse_1_j100 mf_Mo_pulse_1_j109 IM_1
  (try dsimp only)
  have e0 : nI 0 = (0 : Int32) := rfl
  have e1 : nI 1 = (1 : Int32) := rfl
  have e2 : nI 2 = (2 : Int32) := rfl
  have e3 : nI 3 = (3 : Int32) := rfl
  have e4 : nI 4 = (4 : Int32) := rfl
  have e5 : nI 5 = (5 : Int32) := rfl
  simp only [Nat.reduceAdd, Nat.reduceMul, e0, e1, e2, e3, e4, e5]
  by_cases g : mf_Mo_isGood_1 w (2 : Int32) = 0
  · simp only [g, if_true]
  · by_cases i : mf_Mo_insAt w (5 : Int32) ≤ (0 : Int32)
    · simp only [g, i, if_true, if_false]
    · simp only [g, i, if_false]
theorem pn101_1 (w : fw_V) : mf_Mo_pulse_1_j101 w = if mf_Mo_isGood_1 w (nI 2) = 0 then mf_Mo_pulse_1_j105 (fw_up w 9 0 5 (IM_1 w 2 1)) else mf_Mo_pulse_1_j107 (fw_up w 9 0 5 (IM_1 w 2 1)) := by
  unfold mf_Mo_pulse_1_j101 mf_Mo_pulse_1_j102 mf_Mo_pulse_1_j108 mf_Mo_pulse_1_j103 mf_Mo_pulse_1_j104 mf_Mo_pulse_1_j106 IM_1
  (try dsimp only)
  have e0 : nI 0 = (0 : Int32) := rfl
  have e1 : nI 1 = (1 : Int32) := rfl
  have e2 : nI 2 = (2 : Int32) := rfl
  have e3 : nI 3 = (3 : Int32) := rfl
  have e4 : nI 4 = (4 : Int32) := rfl
  have e5 : nI 5 = (5 : Int32) := rfl
  simp only [Nat.reduceAdd, Nat.reduceMul, e0, e1, e2, e3, e4, e5]
  by_cases g : mf_Mo_isGood_1 w (2 : Int32) = 0
  · simp only [g, if_true]
  · by_cases i : mf_Mo_insAt w (5 : Int32) ≤ (1 : Int32)
    · simp only [g, i, if_true, if_false]
    · simp only [g, i, if_false]
theorem pn110_1 (w : fw_V) : mf_Mo_pulse_1_j110 w = if mf_Mo_isGood_1 w (nI 2) = 0 then mf_Mo_pulse_1_j107 (fw_up w 9 0 5 (IM_1 w 2 1)) else mf_Mo_pulse_1_j107 (fw_up w 9 0 5 (IM_1 w 2 1)) := by
  unfold mf_Mo_pulse_1_j110 mf_Mo_pulse_1_j111 mf_Mo_pulse_1_j115 mf_Mo_pulse_1_j112 mf_Mo_pulse_1_j113 mf_Mo_pulse_1_j114 IM_1
  (try dsimp only)
  have e0 : nI 0 = (0 : Int32) := rfl
  have e1 : nI 1 = (1 : Int32) := rfl
  have e2 : nI 2 = (2 : Int32) := rfl
  have e3 : nI 3 = (3 : Int32) := rfl
  have e4 : nI 4 = (4 : Int32) := rfl
  have e5 : nI 5 = (5 : Int32) := rfl
  simp only [Nat.reduceAdd, Nat.reduceMul, e0, e1, e2, e3, e4, e5]
  by_cases g : mf_Mo_isGood_1 w (2 : Int32) = 0
  · simp only [g, if_true]
  · by_cases i : mf_Mo_insAt w (5 : Int32) ≤ (1 : Int32)
    · simp only [g, i, if_true, if_false]
    · simp only [g, i, if_false]
theorem pn119_1 (w : fw_V) : mf_Mo_pulse_1_j119 w = if mf_Mo_isGood_1 w (nI 1) = 0 then mf_Mo_pulse_1_j97 (fw_up w 9 0 3 (IM_1 w 1 1)) else mf_Mo_pulse_1_j97 (fw_up w 9 0 3 (IM_1 w 1 1)) := by
  unfold mf_Mo_pulse_1_j119 mf_Mo_pulse_1_j120 mf_Mo_pulse_1_j124 mf_Mo_pulse_1_j121 mf_Mo_pulse_1_j122 mf_Mo_pulse_1_j123 IM_1
  (try dsimp only)
  have e0 : nI 0 = (0 : Int32) := rfl
  have e1 : nI 1 = (1 : Int32) := rfl
  have e2 : nI 2 = (2 : Int32) := rfl
  have e3 : nI 3 = (3 : Int32) := rfl
  have e4 : nI 4 = (4 : Int32) := rfl
  have e5 : nI 5 = (5 : Int32) := rfl
  simp only [Nat.reduceAdd, Nat.reduceMul, e0, e1, e2, e3, e4, e5]
  by_cases g : mf_Mo_isGood_1 w (1 : Int32) = 0
  · simp only [g, if_true]
  · by_cases i : mf_Mo_insAt w (4 : Int32) ≤ (1 : Int32)
    · simp only [g, i, if_true, if_false]
    · simp only [g, i, if_false]
theorem pn128_1 (w : fw_V) : mf_Mo_pulse_1_j128 w = if mf_Mo_isGood_1 w (nI 0) = 0 then mf_Mo_pulse_1_j68 (fw_up w 9 0 1 (IM_1 w 0 1)) else mf_Mo_pulse_1_j68 (fw_up w 9 0 1 (IM_1 w 0 1)) := by
  unfold mf_Mo_pulse_1_j128 mf_Mo_pulse_1_j129 mf_Mo_pulse_1_j133 mf_Mo_pulse_1_j130 mf_Mo_pulse_1_j131 mf_Mo_pulse_1_j132 IM_1
  (try dsimp only)
  have e0 : nI 0 = (0 : Int32) := rfl
  have e1 : nI 1 = (1 : Int32) := rfl
  have e2 : nI 2 = (2 : Int32) := rfl
  have e3 : nI 3 = (3 : Int32) := rfl
  have e4 : nI 4 = (4 : Int32) := rfl
  have e5 : nI 5 = (5 : Int32) := rfl
  simp only [Nat.reduceAdd, Nat.reduceMul, e0, e1, e2, e3, e4, e5]
  by_cases g : mf_Mo_isGood_1 w (0 : Int32) = 0
  · simp only [g, if_true]
  · by_cases i : mf_Mo_insAt w (3 : Int32) ≤ (1 : Int32)
    · simp only [g, i, if_true, if_false]
    · simp only [g, i, if_false]
theorem pl25_1 (w : fw_V) : mf_Mo_pulse_1_j25 w = LF_1 w 0 := rfl
theorem pl27_1 (w : fw_V) : mf_Mo_pulse_1_j27 w = LF_1 w 4 := rfl
theorem pl46_1 (w : fw_V) : mf_Mo_pulse_1_j46 w = LF_1 w 2 := rfl
theorem pl48_1 (w : fw_V) : mf_Mo_pulse_1_j48 w = LF_1 w 6 := rfl
theorem pl84_1 (w : fw_V) : mf_Mo_pulse_1_j84 w = LF_1 w 1 := rfl
theorem pl86_1 (w : fw_V) : mf_Mo_pulse_1_j86 w = LF_1 w 5 := rfl
theorem pl105_1 (w : fw_V) : mf_Mo_pulse_1_j105 w = LF_1 w 3 := rfl
theorem pl107_1 (w : fw_V) : mf_Mo_pulse_1_j107 w = LF_1 w 7 := rfl
theorem pi_1 (w : fw_V) : mf_Mo_pulse_1_j1 w = LF_1 (fw_up (fw_up (fw_up (fw_up (fw_up (fw_up w 9 0 0 (IM_1 w 0 0)) 9 0 1 (IM_1 w 0 1)) 9 0 2 (IM_1 w 1 0)) 9 0 3 (IM_1 w 1 1)) 9 0 4 (IM_1 w 2 0)) 9 0 5 (IM_1 w 2 1)) (GM (mf_Mo_isGood_1 w (nI 0)) (mf_Mo_isGood_1 w (nI 1)) (mf_Mo_isGood_1 w (nI 2))) := by
  unfold GM
  by_cases g0 : mf_Mo_isGood_1 w (nI 0) = 0 <;> by_cases g1 : mf_Mo_isGood_1 w (nI 1) = 0 <;> by_cases g2 : mf_Mo_isGood_1 w (nI 2) = 0 <;>
    simp only [pn1_1, pn5_1, pn9_1, pn13_1, pn17_1, pn21_1, pn30_1, pn38_1, pn42_1, pn51_1, pn60_1, pn68_1, pn72_1, pn76_1, pn80_1, pn89_1, pn97_1, pn101_1, pn110_1, pn119_1, pn128_1, gd_9_1, IM_9_1, g0, g1, g2, if_true, if_false, pl25_1, pl27_1, pl46_1, pl48_1, pl84_1, pl86_1, pl105_1, pl107_1]

/-- INPUT's row, slot s, as the class copies it -/
def CV (u : fw_V) (r k s j : Nat) : Int32 := if xf_KT_insOf u (u 23 r s) ≤ nI j then u 8 k (2 * s + j) else u 24 r (2 * s + j)
theorem cs_ex {u : fw_V} {r k s : Nat} (hs : s < 3) : xf_De_copySensed u r k (nI s) = fw_up (fw_up u 8 k (2 * s) (CV u r k s 0)) 8 k (2 * s + 1) (CV u r k s 1) := by
  unfold xf_De_copySensed xf_De_copySensed_j1 xf_De_copySensed_j2 xf_De_copySensed_j3 CV
  (try dsimp only)
  rw [nI_clamp (by omega), pl0 hs, pl1 hs]
  have e0 : nI 0 = (0 : Int32) := rfl
  have e1 : nI 1 = (1 : Int32) := rfl
  rw [e0, e1]
  simp only [Nat.add_zero]
  by_cases h0 : xf_KT_insOf u (u 23 r s) ≤ 0
  · have h1 : xf_KT_insOf u (u 23 r s) ≤ 1 := Int32.le_trans h0 (by decide)
    rw [if_pos h0, if_pos h0, if_pos h1, fw_up_id, fw_up_id]
  · rw [if_neg h0, if_neg h0]
    by_cases h1 : xf_KT_insOf u (u 23 r s) ≤ 1
    · rw [if_pos h1, if_pos h1]
      rw [← fw_up_k (v := u) (c := 8) (i := k) (k := 2 * s) (x := u 24 r (2 * s)) (show 2 * s + 1 ≠ 2 * s by omega), fw_up_id]
    · rw [if_neg h1, if_neg h1, fw_up_c (by decide)]
def CS (u : fw_V) (r k s : Nat) : fw_V := if xf_De_isGood u r (nI s) = 0 then u else xf_De_copySensed u r k (nI s)
theorem cs_c {u : fw_V} {r k s c i t : Nat} (hs : s < 3) (h : ¬ (c = 8 ∧ i = k ∧ (t = 2 * s ∨ t = 2 * s + 1))) : xf_De_copySensed u r k (nI s) c i t = u c i t := by
  rw [cs_ex hs, fw_up_ne (fun q => h ⟨q.1, q.2.1, Or.inr q.2.2⟩), fw_up_ne (fun q => h ⟨q.1, q.2.1, Or.inl q.2.2⟩)]
theorem CS_o {u : fw_V} {r k s c i t : Nat} (hs : s < 3) (h : ¬ (c = 8 ∧ i = k ∧ (t = 2 * s ∨ t = 2 * s + 1))) : CS u r k s c i t = u c i t := by
  unfold CS
  split
  · rfl
  · exact cs_c hs h
theorem xgd_cg {u u' : fw_V} {r : Nat} {a : Int32} (h : ∀ c i t, c ≠ 8 → u' c i t = u c i t) : xf_De_isGood u' r a = xf_De_isGood u r a := by
  unfold xf_De_isGood
  simp only [h 26 _ _ (by decide), h 19 _ _ (by decide)]
theorem xgd_cs {u : fw_V} {r k s : Nat} {a : Int32} (hs : s < 3) : xf_De_isGood (xf_De_copySensed u r k (nI s)) r a = xf_De_isGood u r a := xgd_cg (fun c i t hc => cs_c hs (fun q => hc q.1))
theorem si_eq (u : fw_V) (r k : Nat) : xf_De_sendInput_j1 u r k = fw_up (CS (CS (CS u r k 0) r k 1) r k 2) 8 k 6 (GM (xf_De_isGood u r (nI 0)) (xf_De_isGood u r (nI 1)) (xf_De_isGood u r (nI 2))) := by
  have e0 : (0 : Int32) = nI 0 := rfl
  have e1 : (1 : Int32) = nI 1 := rfl
  have e2 : (2 : Int32) = nI 2 := rfl
  have c0 := fun u a => xgd_cs (u := u) (r := r) (k := k) (s := 0) (a := a) (by decide)
  have c1 := fun u a => xgd_cs (u := u) (r := r) (k := k) (s := 1) (a := a) (by decide)
  have c2 := fun u a => xgd_cs (u := u) (r := r) (k := k) (s := 2) (a := a) (by decide)
  unfold xf_De_sendInput_j1 xf_De_sendInput_j2 xf_De_sendInput_j3 xf_De_sendInput_j4 xf_De_sendInput_j5 xf_De_sendInput_j6 xf_De_sendInput_j7 xf_De_sendInput_j12 xf_De_sendInput_j13 xf_De_sendInput_j10 xf_De_sendInput_j11 xf_De_sendInput_j8 xf_De_sendInput_j9 GM CS
  (try dsimp only)
  have f0 : ∀ u, xf_De_copySensed u r k 0 = xf_De_copySensed u r k (nI 0) := fun _ => rfl
  have f1 : ∀ u, xf_De_copySensed u r k 1 = xf_De_copySensed u r k (nI 1) := fun _ => rfl
  have f2 : ∀ u, xf_De_copySensed u r k 2 = xf_De_copySensed u r k (nI 2) := fun _ => rfl
  have g0 : ∀ u, xf_De_isGood u r 0 = xf_De_isGood u r (nI 0) := fun _ => rfl
  have g1 : ∀ u, xf_De_isGood u r 1 = xf_De_isGood u r (nI 1) := fun _ => rfl
  have g2 : ∀ u, xf_De_isGood u r 2 = xf_De_isGood u r (nI 2) := fun _ => rfl
  have m1 : xf_FR_withSlot 0 0 1 = 1 := by decide
  have m2 : xf_FR_withSlot 0 1 1 = 2 := by decide
  have m4 : xf_FR_withSlot 0 2 1 = 4 := by decide
  have m3 : xf_FR_withSlot 1 1 1 = 3 := by decide
  have m5 : xf_FR_withSlot 1 2 1 = 5 := by decide
  have m6 : xf_FR_withSlot 2 2 1 = 6 := by decide
  have m7 : xf_FR_withSlot 3 2 1 = 7 := by decide
  simp only [m1, m2, m3, m4, m5, m6, m7, f0, f1, f2, g0, g1, g2, c0, c1, c2]
  by_cases h0 : xf_De_isGood u r (nI 0) = 0 <;> by_cases h1 : xf_De_isGood u r (nI 1) = 0 <;> by_cases h2 : xf_De_isGood u r (nI 2) = 0 <;> simp only [h0, h1, h2, if_true, if_false, c0, c1, c2]
def IX (u : fw_V) (r s j : Nat) : Int32 := if xf_De_isGood u r (nI s) = 0 then 0 else if xf_KT_insOf u (u 23 r s) ≤ nI j then 0 else u 24 r (2 * s + j)
theorem CS_v {u : fw_V} {r k s j : Nat} (hs : s < 3) (hj : j < 2) (hz : u 8 k (2 * s + j) = 0) : CS u r k s 8 k (2 * s + j) = IX u r s j := by
  unfold CS IX
  split
  · exact hz
  · rw [cs_ex hs]
    unfold CV
    rcases (show j = 0 ∨ j = 1 by omega) with rfl | rfl
    · rw [fw_up_k (by omega), Nat.add_zero, fw_up_s]
      rw [Nat.add_zero] at hz
      rw [hz]
    · rw [fw_up_s, hz]
theorem IX_cg {u u' : fw_V} {r s j : Nat} (h : ∀ c i t, c ≠ 8 → u' c i t = u c i t) : IX u' r s j = IX u r s j := by
  unfold IX xf_KT_insOf
  rw [xgd_cg h]
  simp only [h 23 _ _ (by decide), h 2 _ _ (by decide), h 24 _ _ (by decide)]
theorem si_row (u : fw_V) (r k : Nat) (hz : ∀ t, t < 7 → u 8 k t = 0) : (∀ s j, s < 3 → j < 2 → xf_De_sendInput_j1 u r k 8 k (2 * s + j) = IX u r s j) ∧ xf_De_sendInput_j1 u r k 8 k 6 = GM (xf_De_isGood u r (nI 0)) (xf_De_isGood u r (nI 1)) (xf_De_isGood u r (nI 2)) ∧ ∀ c i t, ¬ (c = 8 ∧ i = k) → xf_De_sendInput_j1 u r k c i t = u c i t := by
  rw [si_eq]
  refine ⟨fun s j hs hj => ?_, fw_up_s, fun c i t h => ?_⟩
  · rw [fw_up_k (by omega)]
    rcases (show s = 0 ∨ s = 1 ∨ s = 2 by omega) with rfl | rfl | rfl
    · rw [CS_o (by decide) (by omega), CS_o (by decide) (by omega)]
      exact CS_v (by decide) hj (hz _ (by omega))
    · rw [CS_o (by decide) (by omega), CS_v (by decide) hj]
      · exact IX_cg (fun c i t hc => CS_o (by decide) (fun q => hc q.1))
      · rw [CS_o (by decide) (by omega)]; exact hz _ (by omega)
    · rw [CS_v (by decide) hj]
      · refine IX_cg (fun c i t hc => ?_)
        rw [CS_o (by decide) (fun q => hc q.1), CS_o (by decide) (fun q => hc q.1)]
      · rw [CS_o (by decide) (by omega), CS_o (by decide) (by omega)]; exact hz _ (by omega)
  · rw [fw_up_ne (fun q => h ⟨q.1, q.2.1⟩), CS_o (by decide) (fun q => h ⟨q.1, q.2.1⟩), CS_o (by decide) (fun q => h ⟨q.1, q.2.1⟩), CS_o (by decide) (fun q => h ⟨q.1, q.2.1⟩)]

theorem insAt_0 {w : fw_V} {s : Nat} (hs : s < 3) : mf_Mo_insAt w (nI (0 + s)) = if w 42 0 (3 * 0 + s) < 0 then 0 else w 1 0 (w 42 0 (3 * 0 + s)).toNatClampNeg := by
  unfold mf_Mo_insAt
  rw [nI_clamp (by omega), show 0 + s = 3 * 0 + s by omega]
  by_cases h : w 42 0 (3 * 0 + s) < 0
  · rw [if_pos h, if_neg (Int32.not_le.mpr h)]
  · rw [if_neg h, if_pos (Int32.not_lt.mp h)]
/-- INPUT is sent, in DATA -/
theorem De_input_0 {v w : fw_V} (h : DB_0 v w) (hK : Kd v w) (h3 : w 28 0 0 = 3) : DB_0 (xf_De_sendInput v 0) (mf_Mo_pulse_0_j1 w) := by
  have hD := h.dv
  have hI := h.di
  have hn0 : w 28 0 0 ≠ 0 := by rw [h3]; decide
  obtain ⟨v3, e3⟩ : ∃ v3, v3 = fw_up v 14 (0 + 2) 0 ((v 14 (0 + 2) 0 + 1) &&& 255) := ⟨_, rfl⟩
  obtain ⟨f, ef⟩ : ∃ f, f = (xf_Wi_send v3 13 (v 19 0 12) (v 14 (0 + 2) 0) 2).1 := ⟨_, rfl⟩
  obtain ⟨u, eu⟩ : ∃ u, u = (xf_Wi_send v3 13 (v 19 0 12) (v 14 (0 + 2) 0) 2).2 := ⟨_, rfl⟩
  have eX : xf_De_sendInput v 0 = xf_De_sendInput_j1 u 0 f := by
    unfold xf_De_sendInput xf_Cy_nextToSend
    (try dsimp only)
    rw [← e3, ← ef, ← eu]
  obtain ⟨g, eg⟩ : ∃ g, g = GM (mf_Mo_isGood_0 w (nI 0)) (mf_Mo_isGood_0 w (nI 1)) (mf_Mo_isGood_0 w (nI 2)) := ⟨_, rfl⟩
  obtain ⟨w6, e6⟩ : ∃ w6, w6 = fw_up (fw_up (fw_up (fw_up (fw_up (fw_up (fw_up w 9 0 0 (IM_0 w 0 0)) 9 0 1 (IM_0 w 0 1)) 9 0 2 (IM_0 w 1 0)) 9 0 3 (IM_0 w 1 1)) 9 0 4 (IM_0 w 2 0)) 9 0 5 (IM_0 w 2 1)) 9 0 6 g := ⟨_, rfl⟩
  have w6c : ∀ c k, c ≠ 9 → w6 c 0 k = w c 0 k := fun c k hc => by rw [e6, fw_up_c hc, fw_up_c hc, fw_up_c hc, fw_up_c hc, fw_up_c hc, fw_up_c hc, fw_up_c hc]
  have eM : mf_Mo_pulse_0_j1 w = fw_up (mf_Mo_send w6 13 (w 29 0 0) (w 34 0 0) 2) 34 0 0 ((w 34 0 0 + 1) &&& 255) := by
    rw [pi_0, ← eg]
    unfold LF_0 mf_Mo_reply_0
    rw [← e6]
    (try dsimp only)
    rw [w6c 29 _ (by decide), w6c 34 _ (by decide), msend_c (by decide) (by decide) (by decide) (by decide) (by decide) (by decide) (by decide), w6c 34 _ (by decide)]
  have v3c : ∀ c i k, c ≠ 14 → v3 c i k = v c i k := fun c i k hc => by rw [e3, fw_up_c hc]
  have uz : ∀ t, t < 7 → u 8 f t = 0 := fun t _ => by rw [eu, ef]; exact xsend_8
  obtain ⟨x1, x2, x3⟩ := si_row u 0 f uz
  have uc : ∀ c i k, c ≠ 5 → c ≠ 7 → c ≠ 8 → u c i k = v3 c i k := fun c i k a1 a2 a3 => by rw [eu]; exact xsend_c a1 a2 a3
  have uv : ∀ c i k, c ≠ 5 → c ≠ 7 → c ≠ 8 → c ≠ 14 → u c i k = v c i k := fun c i k a1 a2 a3 a4 => by rw [uc c i k a1 a2 a3, v3c c i k a4]
  have xc : ∀ c i k, c ≠ 5 → c ≠ 7 → c ≠ 8 → xf_De_sendInput_j1 u 0 f c i k = v3 c i k := fun c i k a1 a2 a3 => by rw [x3 c i k (fun q => a3 q.1), uc c i k a1 a2 a3]
  have hKu : Kd u w := ⟨fun k hk => by rw [uv 2 0 k (by decide) (by decide) (by decide) (by decide)]; exact hK.ki k hk, fun k hk => by rw [uv 3 0 k (by decide) (by decide) (by decide) (by decide)]; exact hK.ko k hk, fun k hk => by rw [uv 4 0 k (by decide) (by decide) (by decide) (by decide)]; exact hK.kn k hk⟩
  have gd : ∀ s, s < 3 → xf_De_isGood u 0 (nI s) = mf_Mo_isGood_0 w (nI s) := by
    intro s hs
    refine good_0 hs ?_ ?_ (hI.w8 hn0 s hs)
    · rw [uv 19 0 15 (by decide) (by decide) (by decide) (by decide)]; exact hD.di
    · rw [uv 26 0 s (by decide) (by decide) (by decide) (by decide)]; exact hD.wa hn0 s hs
  have ox : ∀ s j, s < 3 → j < 2 → IX u 0 s j = IM_0 w s j := by
    intro s j hs hj
    unfold IX IM_0
    rw [gd s hs, uv 23 0 s (by decide) (by decide) (by decide) (by decide), uv 24 0 _ (by decide) (by decide) (by decide) (by decide), hD.mo s hs, KT_ins hKu (hI.m8 s hs), insAt_0 hs, hD.sn (2 * s + j) (by omega), show 0 + 2 * s + j = 6 * 0 + (2 * s + j) by omega]
  rw [eX, eM]
  have wv : Wr v3 w := Wr_cg h.wr (fun c i k q1 q2 => v3c c i k (by omega)) ⟨rfl, rfl, rfl⟩ (fun _ _ _ _ => rfl)
  refine ⟨?_, ?_, ?_, ?_⟩
  · refine Dv_cg (v := v3) (w := fw_up w 34 0 0 ((w 34 0 0 + 1) &&& 255)) ?_ (fun c k q1 q2 => xc c 0 k (by omega) (by omega) (by omega)) (fun k => xc 14 _ k (by decide) (by decide) (by decide)) (fun c k q1 q2 => ?_)
    · rw [e3]
      have hne := hD.ne h3
      refine ⟨?_, ?_, ?_, ?_, ?_, ?_, ?_, ?_, ?_, ?_, ?_, ?_, ?_, ?_, ?_, ?_, ?_, ?_, ?_, ?_, ?_, ?_⟩ <;> simp [fw_up]
      · exact hD.ix
      · exact hD.nm
      · exact hD.fb
      · exact hD.oc
      · exact hD.st
      · exact hD.se
      · exact hD.di
      · exact hD.ti
      · exact hD.ag
      · intro _; rw [hne]
      · exact hD.ta
      · exact hD.qs
      · exact hD.qw
      · exact hD.qn
      · exact hD.qt
      · simpa using hD.sl
      · simpa using hD.sk
      · simpa using hD.mo
      · simpa using hD.wa
      · simpa using hD.wr
      · simpa using hD.sn
      · simpa using hD.sh
    · by_cases z : c = 34 ∧ k = 0
      · obtain ⟨rfl, rfl⟩ := z; rw [fw_up_s, fw_up_s]
      · rw [fw_up_ne (fun y => z ⟨y.1, y.2.2⟩), fw_up_ne (fun y => z ⟨y.1, y.2.2⟩), msend_c (by omega) (by omega) (by omega) (by omega) (by omega) (by omega) (by omega), w6c c k (by omega)]
  · refine Di_cg (v := v3) (w := fw_up w 34 0 0 ((w 34 0 0 + 1) &&& 255)) ?_ (xc 20 0 4 (by decide) (by decide) (by decide)) (fun c k q1 q2 => ?_)
    · have := hI
      unfold Di at this ⊢
      rw [v3c 20 0 4 (by decide)]
      simp only [fw_up, Nat.reduceEqDiff, and_true, true_and, and_false, false_and, if_true, if_false, and_self]
      obtain ⟨a1, a2, a3, a4, a5, a6, a7, a8⟩ := this
      exact ⟨a1, a2, a3, a4, a5, a6, fun _ => and255 _, a8⟩
    · by_cases z : c = 34 ∧ k = 0
      · obtain ⟨rfl, rfl⟩ := z; rw [fw_up_s, fw_up_s]
      · rw [fw_up_ne (fun y => z ⟨y.1, y.2.2⟩), fw_up_ne (fun y => z ⟨y.1, y.2.2⟩), msend_c (by omega) (by omega) (by omega) (by omega) (by omega) (by omega) (by omega), w6c c k (by omega)]
  · have w0 : Wr (xf_De_sendInput_j1 u 0 f) (mf_Mo_send w6 13 (w 29 0 0) (w 34 0 0) 2) := by
      refine Wr_sr_0 (v := v3) (w := w) wv (fun c k q1 q2 => w6c c k q1) rfl hD.se.symm (hD.ne h3).symm rfl (fun c' i k q => ?_) (fun t ht => ?_)
      · rw [← ef] at q
        rw [x3 c' i k q, eu]
      · rw [← ef]
        rcases (show t = 0 ∨ t = 1 ∨ t = 2 ∨ t = 3 ∨ t = 4 ∨ t = 5 ∨ t = 6 by omega) with rfl | rfl | rfl | rfl | rfl | rfl | rfl
        · rw [show (0 : Nat) = 2 * 0 + 0 from rfl, x1 0 0 (by decide) (by decide), ox 0 0 (by decide) (by decide), e6]; simp [fw_up]
        · rw [show (1 : Nat) = 2 * 0 + 1 from rfl, x1 0 1 (by decide) (by decide), ox 0 1 (by decide) (by decide), e6]; simp [fw_up]
        · rw [show (2 : Nat) = 2 * 1 + 0 from rfl, x1 1 0 (by decide) (by decide), ox 1 0 (by decide) (by decide), e6]; simp [fw_up]
        · rw [show (3 : Nat) = 2 * 1 + 1 from rfl, x1 1 1 (by decide) (by decide), ox 1 1 (by decide) (by decide), e6]; simp [fw_up]
        · rw [show (4 : Nat) = 2 * 2 + 0 from rfl, x1 2 0 (by decide) (by decide), ox 2 0 (by decide) (by decide), e6]; simp [fw_up]
        · rw [show (5 : Nat) = 2 * 2 + 1 from rfl, x1 2 1 (by decide) (by decide), ox 2 1 (by decide) (by decide), e6]; simp [fw_up]
        · rw [x2, e6, gd 0 (by decide), gd 1 (by decide), gd 2 (by decide), fw_up_s, eg]
    exact Wr_cg w0 (fun _ _ _ _ _ => rfl) ⟨fw_up_c (by decide), fw_up_c (by decide), fw_up_c (by decide)⟩ (fun c k q1 q2 => fw_up_c (by omega))
  · exact fun t ht => by rw [fw_up_c (by decide)]; exact msend_9 ht

theorem insAt_1 {w : fw_V} {s : Nat} (hs : s < 3) : mf_Mo_insAt w (nI (3 + s)) = if w 42 0 (3 * 1 + s) < 0 then 0 else w 1 0 (w 42 0 (3 * 1 + s)).toNatClampNeg := by
  unfold mf_Mo_insAt
  rw [nI_clamp (by omega), show 3 + s = 3 * 1 + s by omega]
  by_cases h : w 42 0 (3 * 1 + s) < 0
  · rw [if_pos h, if_neg (Int32.not_le.mpr h)]
  · rw [if_neg h, if_pos (Int32.not_lt.mp h)]
/-- INPUT is sent, in DATA -/
theorem De_input_1 {v w : fw_V} (h : DB_1 v w) (hK : Kd v w) (h3 : w 28 0 1 = 3) : DB_1 (xf_De_sendInput v 1) (mf_Mo_pulse_1_j1 w) := by
  have hD := h.dv
  have hI := h.di
  have hn0 : w 28 0 1 ≠ 0 := by rw [h3]; decide
  obtain ⟨v3, e3⟩ : ∃ v3, v3 = fw_up v 14 (1 + 2) 0 ((v 14 (1 + 2) 0 + 1) &&& 255) := ⟨_, rfl⟩
  obtain ⟨f, ef⟩ : ∃ f, f = (xf_Wi_send v3 13 (v 19 1 12) (v 14 (1 + 2) 0) 2).1 := ⟨_, rfl⟩
  obtain ⟨u, eu⟩ : ∃ u, u = (xf_Wi_send v3 13 (v 19 1 12) (v 14 (1 + 2) 0) 2).2 := ⟨_, rfl⟩
  have eX : xf_De_sendInput v 1 = xf_De_sendInput_j1 u 1 f := by
    unfold xf_De_sendInput xf_Cy_nextToSend
    (try dsimp only)
    rw [← e3, ← ef, ← eu]
  obtain ⟨g, eg⟩ : ∃ g, g = GM (mf_Mo_isGood_1 w (nI 0)) (mf_Mo_isGood_1 w (nI 1)) (mf_Mo_isGood_1 w (nI 2)) := ⟨_, rfl⟩
  obtain ⟨w6, e6⟩ : ∃ w6, w6 = fw_up (fw_up (fw_up (fw_up (fw_up (fw_up (fw_up w 9 0 0 (IM_1 w 0 0)) 9 0 1 (IM_1 w 0 1)) 9 0 2 (IM_1 w 1 0)) 9 0 3 (IM_1 w 1 1)) 9 0 4 (IM_1 w 2 0)) 9 0 5 (IM_1 w 2 1)) 9 0 6 g := ⟨_, rfl⟩
  have w6c : ∀ c k, c ≠ 9 → w6 c 0 k = w c 0 k := fun c k hc => by rw [e6, fw_up_c hc, fw_up_c hc, fw_up_c hc, fw_up_c hc, fw_up_c hc, fw_up_c hc, fw_up_c hc]
  have eM : mf_Mo_pulse_1_j1 w = fw_up (mf_Mo_send w6 13 (w 29 0 1) (w 34 0 1) 2) 34 0 1 ((w 34 0 1 + 1) &&& 255) := by
    rw [pi_1, ← eg]
    unfold LF_1 mf_Mo_reply_1
    rw [← e6]
    (try dsimp only)
    rw [w6c 29 _ (by decide), w6c 34 _ (by decide), msend_c (by decide) (by decide) (by decide) (by decide) (by decide) (by decide) (by decide), w6c 34 _ (by decide)]
  have v3c : ∀ c i k, c ≠ 14 → v3 c i k = v c i k := fun c i k hc => by rw [e3, fw_up_c hc]
  have uz : ∀ t, t < 7 → u 8 f t = 0 := fun t _ => by rw [eu, ef]; exact xsend_8
  obtain ⟨x1, x2, x3⟩ := si_row u 1 f uz
  have uc : ∀ c i k, c ≠ 5 → c ≠ 7 → c ≠ 8 → u c i k = v3 c i k := fun c i k a1 a2 a3 => by rw [eu]; exact xsend_c a1 a2 a3
  have uv : ∀ c i k, c ≠ 5 → c ≠ 7 → c ≠ 8 → c ≠ 14 → u c i k = v c i k := fun c i k a1 a2 a3 a4 => by rw [uc c i k a1 a2 a3, v3c c i k a4]
  have xc : ∀ c i k, c ≠ 5 → c ≠ 7 → c ≠ 8 → xf_De_sendInput_j1 u 1 f c i k = v3 c i k := fun c i k a1 a2 a3 => by rw [x3 c i k (fun q => a3 q.1), uc c i k a1 a2 a3]
  have hKu : Kd u w := ⟨fun k hk => by rw [uv 2 0 k (by decide) (by decide) (by decide) (by decide)]; exact hK.ki k hk, fun k hk => by rw [uv 3 0 k (by decide) (by decide) (by decide) (by decide)]; exact hK.ko k hk, fun k hk => by rw [uv 4 0 k (by decide) (by decide) (by decide) (by decide)]; exact hK.kn k hk⟩
  have gd : ∀ s, s < 3 → xf_De_isGood u 1 (nI s) = mf_Mo_isGood_1 w (nI s) := by
    intro s hs
    refine good_1 hs ?_ ?_ (hI.w8 hn0 s hs)
    · rw [uv 19 1 15 (by decide) (by decide) (by decide) (by decide)]; exact hD.di
    · rw [uv 26 1 s (by decide) (by decide) (by decide) (by decide)]; exact hD.wa hn0 s hs
  have ox : ∀ s j, s < 3 → j < 2 → IX u 1 s j = IM_1 w s j := by
    intro s j hs hj
    unfold IX IM_1
    rw [gd s hs, uv 23 1 s (by decide) (by decide) (by decide) (by decide), uv 24 1 _ (by decide) (by decide) (by decide) (by decide), hD.mo s hs, KT_ins hKu (hI.m8 s hs), insAt_1 hs, hD.sn (2 * s + j) (by omega), show 6 + 2 * s + j = 6 * 1 + (2 * s + j) by omega]
  rw [eX, eM]
  have wv : Wr v3 w := Wr_cg h.wr (fun c i k q1 q2 => v3c c i k (by omega)) ⟨rfl, rfl, rfl⟩ (fun _ _ _ _ => rfl)
  refine ⟨?_, ?_, ?_, ?_⟩
  · refine Dv_cg (v := v3) (w := fw_up w 34 0 1 ((w 34 0 1 + 1) &&& 255)) ?_ (fun c k q1 q2 => xc c 1 k (by omega) (by omega) (by omega)) (fun k => xc 14 _ k (by decide) (by decide) (by decide)) (fun c k q1 q2 => ?_)
    · rw [e3]
      have hne := hD.ne h3
      refine ⟨?_, ?_, ?_, ?_, ?_, ?_, ?_, ?_, ?_, ?_, ?_, ?_, ?_, ?_, ?_, ?_, ?_, ?_, ?_, ?_, ?_, ?_⟩ <;> simp [fw_up]
      · exact hD.ix
      · exact hD.nm
      · exact hD.fb
      · exact hD.oc
      · exact hD.st
      · exact hD.se
      · exact hD.di
      · exact hD.ti
      · exact hD.ag
      · intro _; rw [hne]
      · exact hD.ta
      · exact hD.qs
      · exact hD.qw
      · exact hD.qn
      · exact hD.qt
      · simpa using hD.sl
      · simpa using hD.sk
      · simpa using hD.mo
      · simpa using hD.wa
      · simpa using hD.wr
      · simpa using hD.sn
      · simpa using hD.sh
    · by_cases z : c = 34 ∧ k = 1
      · obtain ⟨rfl, rfl⟩ := z; rw [fw_up_s, fw_up_s]
      · rw [fw_up_ne (fun y => z ⟨y.1, y.2.2⟩), fw_up_ne (fun y => z ⟨y.1, y.2.2⟩), msend_c (by omega) (by omega) (by omega) (by omega) (by omega) (by omega) (by omega), w6c c k (by omega)]
  · refine Di_cg (v := v3) (w := fw_up w 34 0 1 ((w 34 0 1 + 1) &&& 255)) ?_ (xc 20 1 4 (by decide) (by decide) (by decide)) (fun c k q1 q2 => ?_)
    · have := hI
      unfold Di at this ⊢
      rw [v3c 20 1 4 (by decide)]
      simp only [fw_up, Nat.reduceEqDiff, and_true, true_and, and_false, false_and, if_true, if_false, and_self]
      obtain ⟨a1, a2, a3, a4, a5, a6, a7, a8⟩ := this
      exact ⟨a1, a2, a3, a4, a5, a6, fun _ => and255 _, a8⟩
    · by_cases z : c = 34 ∧ k = 1
      · obtain ⟨rfl, rfl⟩ := z; rw [fw_up_s, fw_up_s]
      · rw [fw_up_ne (fun y => z ⟨y.1, y.2.2⟩), fw_up_ne (fun y => z ⟨y.1, y.2.2⟩), msend_c (by omega) (by omega) (by omega) (by omega) (by omega) (by omega) (by omega), w6c c k (by omega)]
  · have w0 : Wr (xf_De_sendInput_j1 u 1 f) (mf_Mo_send w6 13 (w 29 0 1) (w 34 0 1) 2) := by
      refine Wr_sr_1 (v := v3) (w := w) wv (fun c k q1 q2 => w6c c k q1) rfl hD.se.symm (hD.ne h3).symm rfl (fun c' i k q => ?_) (fun t ht => ?_)
      · rw [← ef] at q
        rw [x3 c' i k q, eu]
      · rw [← ef]
        rcases (show t = 0 ∨ t = 1 ∨ t = 2 ∨ t = 3 ∨ t = 4 ∨ t = 5 ∨ t = 6 by omega) with rfl | rfl | rfl | rfl | rfl | rfl | rfl
        · rw [show (0 : Nat) = 2 * 0 + 0 from rfl, x1 0 0 (by decide) (by decide), ox 0 0 (by decide) (by decide), e6]; simp [fw_up]
        · rw [show (1 : Nat) = 2 * 0 + 1 from rfl, x1 0 1 (by decide) (by decide), ox 0 1 (by decide) (by decide), e6]; simp [fw_up]
        · rw [show (2 : Nat) = 2 * 1 + 0 from rfl, x1 1 0 (by decide) (by decide), ox 1 0 (by decide) (by decide), e6]; simp [fw_up]
        · rw [show (3 : Nat) = 2 * 1 + 1 from rfl, x1 1 1 (by decide) (by decide), ox 1 1 (by decide) (by decide), e6]; simp [fw_up]
        · rw [show (4 : Nat) = 2 * 2 + 0 from rfl, x1 2 0 (by decide) (by decide), ox 2 0 (by decide) (by decide), e6]; simp [fw_up]
        · rw [show (5 : Nat) = 2 * 2 + 1 from rfl, x1 2 1 (by decide) (by decide), ox 2 1 (by decide) (by decide), e6]; simp [fw_up]
        · rw [x2, e6, gd 0 (by decide), gd 1 (by decide), gd 2 (by decide), fw_up_s, eg]
    exact Wr_cg w0 (fun _ _ _ _ _ => rfl) ⟨fw_up_c (by decide), fw_up_c (by decide), fw_up_c (by decide)⟩ (fun c k q1 q2 => fw_up_c (by omega))
  · exact fun t ht => by rw [fw_up_c (by decide)]; exact msend_9 ht

/-- the numbers of the queue change alike -/
theorem De_q_0 {v w : fw_V} {x y z : Int32} (h : DB_0 v w) (h3 : w 28 0 0 = 3) (hx : vp_in x 256) (hy : vp_in y 256) (hz : w 37 0 0 = 0 → y = 0) : DB_0 (fw_up (fw_up (fw_up v 20 0 4 x) 20 0 3 y) 20 0 5 z) (fw_up (fw_up (fw_up w 39 0 0 x) 36 0 0 y) 38 0 0 z) := by
  have hD := h.dv
  have hI := h.di
  refine ⟨?_, ?_, ?_, ?_⟩
  · refine ⟨?_, ?_, ?_, ?_, ?_, ?_, ?_, ?_, ?_, ?_, ?_, ?_, ?_, ?_, ?_, ?_, ?_, ?_, ?_, ?_, ?_, ?_⟩ <;> simp [fw_up]
    · exact hD.ix
    · exact hD.nm
    · exact hD.fb
    · exact hD.oc
    · exact hD.st
    · exact hD.se
    · exact hD.di
    · exact hD.ti
    · exact hD.ag
    · exact hD.ne
    · exact hD.ta
    · exact hD.qs
    · simpa using hD.sl
    · simpa using hD.sk
    · simpa using hD.mo
    · simpa using hD.wa
    · simpa using hD.wr
    · simpa using hD.sn
    · simpa using hD.sh
  · have := hI
    unfold Di at this ⊢
    simp only [fw_up, Nat.reduceEqDiff, and_true, true_and, and_false, false_and, if_true, if_false, and_self]
    obtain ⟨a1, a2, a3, a4, a5, a6, a7, a8, a9, a10, a11, a12, a13⟩ := this
    exact ⟨a1, a2, fun q => absurd h3 q, a4, a5, a6, a7, a8, a9, fun _ => hx, fun _ => hy, fun _ q => hz q, a13⟩
  · refine Wr_cg h.wr (fun c i k q1 q2 => ?_) ⟨?_, ?_, ?_⟩ (fun c k q1 q2 => ?_)
    · rw [fw_up_c (by omega), fw_up_c (by omega), fw_up_c (by omega)]
    · simp [fw_up]
    · simp [fw_up]
    · simp [fw_up]
    · rw [fw_up_c (by omega), fw_up_c (by omega), fw_up_c (by omega)]
  · intro t ht
    rw [fw_up_c (by decide), fw_up_c (by decide), fw_up_c (by decide)]
    exact h.at t ht
/-- ALARM is sent -/
theorem De_sal_0 {v w : fw_V} (h : DB_0 v (fw_up w 38 0 0 0)) : DB_0 (xf_De_sendAlarm v 0) (mf_Mo_alarm_0_j2 w) := by
  obtain ⟨w1, e1⟩ : ∃ w1, w1 = fw_up w 38 0 0 0 := ⟨_, rfl⟩
  unfold mf_Mo_alarm_0_j2 xf_De_sendAlarm xf_AQ_firstSlot xf_AQ_firstKindPlusOne mf_Mo_reply_0
  (try dsimp only)
  rw [← e1] at h ⊢
  have hD := h.dv
  obtain ⟨f, ef⟩ : ∃ f, f = (xf_Wi_send v 14 (v 19 0 12) (v 20 0 3) 2).1 := ⟨_, rfl⟩
  obtain ⟨u, eu⟩ : ∃ u, u = (xf_Wi_send v 14 (v 19 0 12) (v 20 0 3) 2).2 := ⟨_, rfl⟩
  rw [← ef, ← eu]
  have uc : ∀ c i k, c ≠ 5 → c ≠ 7 → c ≠ 8 → u c i k = v c i k := fun c i k a1 a2 a3 => by rw [eu]; exact xsend_c a1 a2 a3
  have u1 : u 21 0 0 = w1 47 0 0 := by rw [uc 21 0 0 (by decide) (by decide) (by decide)]; exact hD.sl 0 (by decide)
  have u2 : fw_up u 8 f 0 (u 21 0 0) 22 0 0 = w1 48 0 0 := by rw [fw_up_c (by decide), uc 22 0 0 (by decide) (by decide) (by decide)]; exact hD.sk 0 (by decide)
  have w2 : fw_up w1 9 0 0 (w1 47 0 0) 48 0 0 = w1 48 0 0 := fw_up_c (by decide)
  rw [u2, u1, w2]
  have w3 : ∀ c k, c ≠ 9 → fw_up (fw_up w1 9 0 0 (w1 47 0 0)) 9 0 1 (w1 48 0 0) c 0 k = w1 c 0 k := fun c k hc => by rw [fw_up_c hc, fw_up_c hc]
  rw [w3 29 _ (by decide), w3 36 _ (by decide)]
  have ms : ∀ c k, 10 ≤ c → mf_Mo_send (fw_up (fw_up w1 9 0 0 (w1 47 0 0)) 9 0 1 (w1 48 0 0)) 14 (w1 29 0 0) (w1 36 0 0) 2 c 0 k = w1 c 0 k := fun c k hc => by rw [msend_c (by omega) (by omega) (by omega) (by omega) (by omega) (by omega) (by omega), w3 c k (by omega)]
  refine ⟨Dv_cg hD (fun c k q1 q2 => by rw [fw_up_c (by omega), fw_up_c (by omega), uc c 0 k (by omega) (by omega) (by omega)]) (fun k => by rw [fw_up_c (by decide), fw_up_c (by decide), uc 14 _ k (by decide) (by decide) (by decide)]) (fun c k q1 q2 => ms c k (by omega)), Di_cg h.di (by rw [fw_up_c (by decide), fw_up_c (by decide), uc 20 0 4 (by decide) (by decide) (by decide)]) (fun c k q1 q2 => ms c k (by omega)), ?_, At_send⟩
  refine Wr_sr_0 (w := w1) h.wr (fun c k q1 q2 => w3 c k q1) rfl hD.se.symm hD.qw.symm rfl (fun c' i k q => ?_) (fun t ht => ?_)
  · rw [← ef] at q
    rw [fw_up_ne (fun z => q ⟨z.1, z.2.1⟩), fw_up_ne (fun z => q ⟨z.1, z.2.1⟩), eu]
  · rw [← ef]
    by_cases z1 : t = 1
    · subst z1; rw [fw_up_s, fw_up_s]
    · rw [fw_up_k z1, fw_up_k z1]
      by_cases z0 : t = 0
      · subst z0; rw [fw_up_s, fw_up_s]
      · rw [fw_up_k z0, fw_up_k z0, h.at t ht, eu, ef]; exact xsend_8
/-- the alarm of a TICK -/
theorem De_alarm_0 {v w : fw_V} (h : DB_0 v w) (h3 : w 28 0 0 = 3) : DB_0 (if (xf_AQ_isDueThisTick v 0).1 = 0 then (xf_AQ_isDueThisTick v 0).2 else xf_De_sendAlarm (xf_AQ_isDueThisTick v 0).2 0) (mf_Mo_alarm_0 w) := by
  have hD := h.dv
  have hI := h.di
  have e : ∀ p, xf_AQ_isDueThisTick v 0 = p → DB_0 (if p.1 = 0 then p.2 else xf_De_sendAlarm p.2 0) (mf_Mo_alarm_0 w) → DB_0 (if (xf_AQ_isDueThisTick v 0).1 = 0 then (xf_AQ_isDueThisTick v 0).2 else xf_De_sendAlarm (xf_AQ_isDueThisTick v 0).2 0) (mf_Mo_alarm_0 w) := fun p hp hh => by rw [hp]; exact hh
  by_cases h0 : w 37 0 0 = 0
  · refine e (0, v) ?_ ?_
    · unfold xf_AQ_isDueThisTick
      rw [hD.qs, if_pos h0]
    · unfold mf_Mo_alarm_0
      rw [if_pos h0, if_pos rfl]; exact h
  · obtain ⟨a, ha, ea⟩ := vp_in_of (hI.wn h3) (by decide)
    obtain ⟨n, hn, en⟩ := vp_in_of (hI.nn h3) (by decide)
    by_cases hw : w 36 0 0 = 0
    · have hle : w 36 0 0 ≤ 0 := by rw [hw]; decide
      by_cases h255 : n = 255
      · refine e (1, fw_up (fw_up (fw_up v 20 0 4 1) 20 0 3 1) 20 0 5 0) ?_ ?_
        · unfold xf_AQ_isDueThisTick
          rw [hD.qs, hD.qw, hD.qn h3, if_neg h0, if_pos hw, if_neg (show ¬ w 39 0 0 < 255 by rw [en, h255]; decide)]
          unfold xf_AQ_isDueThisTick_j2
          (try dsimp only)
          rw [fw_up_s]
        · unfold mf_Mo_alarm_0
          rw [if_neg h0, if_pos hle, if_pos (show w 39 0 0 = 255 by rw [en, h255]; decide), if_neg (show ¬ (1 : Int32) = 0 by decide)]
          unfold mf_Mo_alarm_0_j3
          (try dsimp only)
          rw [fw_up_s]
          exact De_sal_0 (De_q_0 (x := 1) (y := 1) h h3 (fw_inc (by decide)) (fw_inc (by decide)) (fun q => absurd q h0))
      · have hlt : w 39 0 0 < 255 := by rw [en]; exact (nI_ltI (a := n) (b := 255) (by omega) (by omega)).mpr (by omega)
        have hne : ¬ w 39 0 0 = 255 := by
          rw [en]
          intro q
          exact h255 ((nI_eq (a := n) (b := 255) (by omega) (by omega)).mp q)
        have hb : vp_in (w 39 0 0 + 1) 256 := by rw [en, nI_1]; exact vp_in_nI (by omega) (by decide)
        refine e (1, fw_up (fw_up (fw_up v 20 0 4 (w 39 0 0 + 1)) 20 0 3 (w 39 0 0 + 1)) 20 0 5 0) ?_ ?_
        · unfold xf_AQ_isDueThisTick
          rw [hD.qs, hD.qw, hD.qn h3, if_neg h0, if_pos hw, if_pos hlt]
          unfold xf_AQ_isDueThisTick_j1
          (try dsimp only)
          rw [fw_up_s]
        · unfold mf_Mo_alarm_0
          rw [if_neg h0, if_pos hle, if_neg hne, if_neg (show ¬ (1 : Int32) = 0 by decide)]
          unfold mf_Mo_alarm_0_j1
          (try dsimp only)
          rw [fw_up_s]
          exact De_sal_0 (De_q_0 h h3 hb hb (fun q => absurd q h0))
    · have hle : ¬ w 36 0 0 ≤ 0 := by
        rw [ea] at hw ⊢
        intro q
        have := (nI_leI (a := a) (b := 0) (by omega) (by omega)).mp q
        have z : a = 0 := by omega
        exact hw (by rw [z]; rfl)
      have q5 := hD.qt h3 hw
      have hq : ∀ z, DB_0 (fw_up v 20 0 5 z) (fw_up w 38 0 0 z) := by
        intro z
        have hh := De_q_0 (z := z) h h3 (hI.nn h3) (hI.wn h3) (fun q => absurd q h0)
        have i1 : fw_up v 20 0 4 (w 39 0 0) = v := by rw [← hD.qn h3]; exact fw_up_id _ _ _ _
        have i2 : fw_up v 20 0 3 (w 36 0 0) = v := by rw [← hD.qw]; exact fw_up_id _ _ _ _
        have i3 : fw_up w 39 0 0 (w 39 0 0) = w := fw_up_id _ _ _ _
        have i4 : fw_up w 36 0 0 (w 36 0 0) = w := fw_up_id _ _ _ _
        rw [i1, i2, i3, i4] at hh
        exact hh
      by_cases hd : (3 : Int32) ≤ w 38 0 0 + 1
      · refine e (1, fw_up (fw_up v 20 0 5 (w 38 0 0 + 1)) 20 0 5 0) ?_ ?_
        · unfold xf_AQ_isDueThisTick
          (try dsimp only)
          rw [hD.qs, hD.qw, if_neg h0, if_neg hw, q5, fw_up_s, if_pos hd]
        · unfold mf_Mo_alarm_0
          (try dsimp only)
          rw [if_neg h0, if_neg hle, fw_up_s, if_pos hd, if_neg (show ¬ (1 : Int32) = 0 by decide)]
          refine De_sal_0 ?_
          rw [fw_up_tw_0, fw_up_tw_0]
          exact hq 0
      · refine e (0, fw_up v 20 0 5 (w 38 0 0 + 1)) ?_ ?_
        · unfold xf_AQ_isDueThisTick
          (try dsimp only)
          rw [hD.qs, hD.qw, if_neg h0, if_neg hw, q5, fw_up_s, if_neg hd]
        · unfold mf_Mo_alarm_0
          (try dsimp only)
          rw [if_neg h0, if_neg hle, fw_up_s, if_neg hd, if_pos rfl]
          exact hq _

/-- the numbers of the queue change alike -/
theorem De_q_1 {v w : fw_V} {x y z : Int32} (h : DB_1 v w) (h3 : w 28 0 1 = 3) (hx : vp_in x 256) (hy : vp_in y 256) (hz : w 37 0 1 = 0 → y = 0) : DB_1 (fw_up (fw_up (fw_up v 20 1 4 x) 20 1 3 y) 20 1 5 z) (fw_up (fw_up (fw_up w 39 0 1 x) 36 0 1 y) 38 0 1 z) := by
  have hD := h.dv
  have hI := h.di
  refine ⟨?_, ?_, ?_, ?_⟩
  · refine ⟨?_, ?_, ?_, ?_, ?_, ?_, ?_, ?_, ?_, ?_, ?_, ?_, ?_, ?_, ?_, ?_, ?_, ?_, ?_, ?_, ?_, ?_⟩ <;> simp [fw_up]
    · exact hD.ix
    · exact hD.nm
    · exact hD.fb
    · exact hD.oc
    · exact hD.st
    · exact hD.se
    · exact hD.di
    · exact hD.ti
    · exact hD.ag
    · exact hD.ne
    · exact hD.ta
    · exact hD.qs
    · simpa using hD.sl
    · simpa using hD.sk
    · simpa using hD.mo
    · simpa using hD.wa
    · simpa using hD.wr
    · simpa using hD.sn
    · simpa using hD.sh
  · have := hI
    unfold Di at this ⊢
    simp only [fw_up, Nat.reduceEqDiff, and_true, true_and, and_false, false_and, if_true, if_false, and_self]
    obtain ⟨a1, a2, a3, a4, a5, a6, a7, a8, a9, a10, a11, a12, a13⟩ := this
    exact ⟨a1, a2, fun q => absurd h3 q, a4, a5, a6, a7, a8, a9, fun _ => hx, fun _ => hy, fun _ q => hz q, a13⟩
  · refine Wr_cg h.wr (fun c i k q1 q2 => ?_) ⟨?_, ?_, ?_⟩ (fun c k q1 q2 => ?_)
    · rw [fw_up_c (by omega), fw_up_c (by omega), fw_up_c (by omega)]
    · simp [fw_up]
    · simp [fw_up]
    · simp [fw_up]
    · rw [fw_up_c (by omega), fw_up_c (by omega), fw_up_c (by omega)]
  · intro t ht
    rw [fw_up_c (by decide), fw_up_c (by decide), fw_up_c (by decide)]
    exact h.at t ht
/-- ALARM is sent -/
theorem De_sal_1 {v w : fw_V} (h : DB_1 v (fw_up w 38 0 1 0)) : DB_1 (xf_De_sendAlarm v 1) (mf_Mo_alarm_1_j2 w) := by
  obtain ⟨w1, e1⟩ : ∃ w1, w1 = fw_up w 38 0 1 0 := ⟨_, rfl⟩
  unfold mf_Mo_alarm_1_j2 xf_De_sendAlarm xf_AQ_firstSlot xf_AQ_firstKindPlusOne mf_Mo_reply_1
  (try dsimp only)
  rw [← e1] at h ⊢
  have hD := h.dv
  obtain ⟨f, ef⟩ : ∃ f, f = (xf_Wi_send v 14 (v 19 1 12) (v 20 1 3) 2).1 := ⟨_, rfl⟩
  obtain ⟨u, eu⟩ : ∃ u, u = (xf_Wi_send v 14 (v 19 1 12) (v 20 1 3) 2).2 := ⟨_, rfl⟩
  rw [← ef, ← eu]
  have uc : ∀ c i k, c ≠ 5 → c ≠ 7 → c ≠ 8 → u c i k = v c i k := fun c i k a1 a2 a3 => by rw [eu]; exact xsend_c a1 a2 a3
  have u1 : u 21 1 0 = w1 47 0 4 := by rw [uc 21 1 0 (by decide) (by decide) (by decide)]; exact hD.sl 0 (by decide)
  have u2 : fw_up u 8 f 0 (u 21 1 0) 22 1 0 = w1 48 0 4 := by rw [fw_up_c (by decide), uc 22 1 0 (by decide) (by decide) (by decide)]; exact hD.sk 0 (by decide)
  have w2 : fw_up w1 9 0 0 (w1 47 0 4) 48 0 4 = w1 48 0 4 := fw_up_c (by decide)
  rw [u2, u1, w2]
  have w3 : ∀ c k, c ≠ 9 → fw_up (fw_up w1 9 0 0 (w1 47 0 4)) 9 0 1 (w1 48 0 4) c 0 k = w1 c 0 k := fun c k hc => by rw [fw_up_c hc, fw_up_c hc]
  rw [w3 29 _ (by decide), w3 36 _ (by decide)]
  have ms : ∀ c k, 10 ≤ c → mf_Mo_send (fw_up (fw_up w1 9 0 0 (w1 47 0 4)) 9 0 1 (w1 48 0 4)) 14 (w1 29 0 1) (w1 36 0 1) 2 c 0 k = w1 c 0 k := fun c k hc => by rw [msend_c (by omega) (by omega) (by omega) (by omega) (by omega) (by omega) (by omega), w3 c k (by omega)]
  refine ⟨Dv_cg hD (fun c k q1 q2 => by rw [fw_up_c (by omega), fw_up_c (by omega), uc c 1 k (by omega) (by omega) (by omega)]) (fun k => by rw [fw_up_c (by decide), fw_up_c (by decide), uc 14 _ k (by decide) (by decide) (by decide)]) (fun c k q1 q2 => ms c k (by omega)), Di_cg h.di (by rw [fw_up_c (by decide), fw_up_c (by decide), uc 20 1 4 (by decide) (by decide) (by decide)]) (fun c k q1 q2 => ms c k (by omega)), ?_, At_send⟩
  refine Wr_sr_1 (w := w1) h.wr (fun c k q1 q2 => w3 c k q1) rfl hD.se.symm hD.qw.symm rfl (fun c' i k q => ?_) (fun t ht => ?_)
  · rw [← ef] at q
    rw [fw_up_ne (fun z => q ⟨z.1, z.2.1⟩), fw_up_ne (fun z => q ⟨z.1, z.2.1⟩), eu]
  · rw [← ef]
    by_cases z1 : t = 1
    · subst z1; rw [fw_up_s, fw_up_s]
    · rw [fw_up_k z1, fw_up_k z1]
      by_cases z0 : t = 0
      · subst z0; rw [fw_up_s, fw_up_s]
      · rw [fw_up_k z0, fw_up_k z0, h.at t ht, eu, ef]; exact xsend_8
/-- the alarm of a TICK -/
theorem De_alarm_1 {v w : fw_V} (h : DB_1 v w) (h3 : w 28 0 1 = 3) : DB_1 (if (xf_AQ_isDueThisTick v 1).1 = 0 then (xf_AQ_isDueThisTick v 1).2 else xf_De_sendAlarm (xf_AQ_isDueThisTick v 1).2 1) (mf_Mo_alarm_1 w) := by
  have hD := h.dv
  have hI := h.di
  have e : ∀ p, xf_AQ_isDueThisTick v 1 = p → DB_1 (if p.1 = 0 then p.2 else xf_De_sendAlarm p.2 1) (mf_Mo_alarm_1 w) → DB_1 (if (xf_AQ_isDueThisTick v 1).1 = 0 then (xf_AQ_isDueThisTick v 1).2 else xf_De_sendAlarm (xf_AQ_isDueThisTick v 1).2 1) (mf_Mo_alarm_1 w) := fun p hp hh => by rw [hp]; exact hh
  by_cases h0 : w 37 0 1 = 0
  · refine e (0, v) ?_ ?_
    · unfold xf_AQ_isDueThisTick
      rw [hD.qs, if_pos h0]
    · unfold mf_Mo_alarm_1
      rw [if_pos h0, if_pos rfl]; exact h
  · obtain ⟨a, ha, ea⟩ := vp_in_of (hI.wn h3) (by decide)
    obtain ⟨n, hn, en⟩ := vp_in_of (hI.nn h3) (by decide)
    by_cases hw : w 36 0 1 = 0
    · have hle : w 36 0 1 ≤ 0 := by rw [hw]; decide
      by_cases h255 : n = 255
      · refine e (1, fw_up (fw_up (fw_up v 20 1 4 1) 20 1 3 1) 20 1 5 0) ?_ ?_
        · unfold xf_AQ_isDueThisTick
          rw [hD.qs, hD.qw, hD.qn h3, if_neg h0, if_pos hw, if_neg (show ¬ w 39 0 1 < 255 by rw [en, h255]; decide)]
          unfold xf_AQ_isDueThisTick_j2
          (try dsimp only)
          rw [fw_up_s]
        · unfold mf_Mo_alarm_1
          rw [if_neg h0, if_pos hle, if_pos (show w 39 0 1 = 255 by rw [en, h255]; decide), if_neg (show ¬ (1 : Int32) = 0 by decide)]
          unfold mf_Mo_alarm_1_j3
          (try dsimp only)
          rw [fw_up_s]
          exact De_sal_1 (De_q_1 (x := 1) (y := 1) h h3 (fw_inc (by decide)) (fw_inc (by decide)) (fun q => absurd q h0))
      · have hlt : w 39 0 1 < 255 := by rw [en]; exact (nI_ltI (a := n) (b := 255) (by omega) (by omega)).mpr (by omega)
        have hne : ¬ w 39 0 1 = 255 := by
          rw [en]
          intro q
          exact h255 ((nI_eq (a := n) (b := 255) (by omega) (by omega)).mp q)
        have hb : vp_in (w 39 0 1 + 1) 256 := by rw [en, nI_1]; exact vp_in_nI (by omega) (by decide)
        refine e (1, fw_up (fw_up (fw_up v 20 1 4 (w 39 0 1 + 1)) 20 1 3 (w 39 0 1 + 1)) 20 1 5 0) ?_ ?_
        · unfold xf_AQ_isDueThisTick
          rw [hD.qs, hD.qw, hD.qn h3, if_neg h0, if_pos hw, if_pos hlt]
          unfold xf_AQ_isDueThisTick_j1
          (try dsimp only)
          rw [fw_up_s]
        · unfold mf_Mo_alarm_1
          rw [if_neg h0, if_pos hle, if_neg hne, if_neg (show ¬ (1 : Int32) = 0 by decide)]
          unfold mf_Mo_alarm_1_j1
          (try dsimp only)
          rw [fw_up_s]
          exact De_sal_1 (De_q_1 h h3 hb hb (fun q => absurd q h0))
    · have hle : ¬ w 36 0 1 ≤ 0 := by
        rw [ea] at hw ⊢
        intro q
        have := (nI_leI (a := a) (b := 0) (by omega) (by omega)).mp q
        have z : a = 0 := by omega
        exact hw (by rw [z]; rfl)
      have q5 := hD.qt h3 hw
      have hq : ∀ z, DB_1 (fw_up v 20 1 5 z) (fw_up w 38 0 1 z) := by
        intro z
        have hh := De_q_1 (z := z) h h3 (hI.nn h3) (hI.wn h3) (fun q => absurd q h0)
        have i1 : fw_up v 20 1 4 (w 39 0 1) = v := by rw [← hD.qn h3]; exact fw_up_id _ _ _ _
        have i2 : fw_up v 20 1 3 (w 36 0 1) = v := by rw [← hD.qw]; exact fw_up_id _ _ _ _
        have i3 : fw_up w 39 0 1 (w 39 0 1) = w := fw_up_id _ _ _ _
        have i4 : fw_up w 36 0 1 (w 36 0 1) = w := fw_up_id _ _ _ _
        rw [i1, i2, i3, i4] at hh
        exact hh
      by_cases hd : (3 : Int32) ≤ w 38 0 1 + 1
      · refine e (1, fw_up (fw_up v 20 1 5 (w 38 0 1 + 1)) 20 1 5 0) ?_ ?_
        · unfold xf_AQ_isDueThisTick
          (try dsimp only)
          rw [hD.qs, hD.qw, if_neg h0, if_neg hw, q5, fw_up_s, if_pos hd]
        · unfold mf_Mo_alarm_1
          (try dsimp only)
          rw [if_neg h0, if_neg hle, fw_up_s, if_pos hd, if_neg (show ¬ (1 : Int32) = 0 by decide)]
          refine De_sal_1 ?_
          rw [fw_up_tw_1, fw_up_tw_1]
          exact hq 0
      · refine e (0, fw_up v 20 1 5 (w 38 0 1 + 1)) ?_ ?_
        · unfold xf_AQ_isDueThisTick
          (try dsimp only)
          rw [hD.qs, hD.qw, if_neg h0, if_neg hw, q5, fw_up_s, if_neg hd]
        · unfold mf_Mo_alarm_1
          (try dsimp only)
          rw [if_neg h0, if_neg hle, fw_up_s, if_neg hd, if_pos rfl]
          exact hq _


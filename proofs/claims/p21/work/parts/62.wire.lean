theorem xw_is (a b c : Int32) : xf_FR_within a b c = mf_Mo_is a b c := rfl
theorem mis_01 (a b c : Int32) : mf_Mo_is a b c = 0 ∨ mf_Mo_is a b c = 1 := by
  unfold mf_Mo_is
  split
  · exact Or.inl rfl
  · split
    · exact Or.inl rfl
    · exact Or.inr rfl
theorem as_name (v w : fw_V) (a1 a2 : Int32) : (xf_FR_name v a1 a2).1 = (mf_Mo_name w a1 a2).1 := by
  unfold xf_FR_name mf_Mo_name xf_FR_isDevice
  simp only [xw_is]
  by_cases h1 : mf_Mo_is a1 0 1 = 0 <;> by_cases h2 : mf_Mo_is a2 0 15 = 0 <;> simp [h1, h2]
theorem as_sense (v w : fw_V) (a1 a2 a3 a4 : Int32) : (xf_FR_sense v a1 a2 a3 a4).1 = (mf_Mo_sense w a1 a2 a3 a4).1 := by
  unfold xf_FR_sense mf_Mo_sense xf_FR_isDevice xf_FR_isPlace xf_FR_isSlot xf_FR_isOctet
  simp only [xw_is]
  by_cases h1 : mf_Mo_is a1 0 1 = 0 <;> by_cases h2 : mf_Mo_is a2 0 2 = 0 <;> by_cases h3 : mf_Mo_is a3 0 1 = 0 <;> by_cases h4 : mf_Mo_is a4 0 255 = 0 <;> simp [h1, h2, h3, h4]
theorem as_give (v w : fw_V) (a1 a2 a3 a4 : Int32) : (xf_FR_give v a1 a2 a3 a4).1 = (mf_Mo_give w a1 a2 a3 a4).1 := by
  unfold xf_FR_give mf_Mo_give xf_FR_isDevice xf_FR_isPlace xf_FR_isSlot xf_FR_isOctet
  simp only [xw_is]
  by_cases h1 : mf_Mo_is a1 0 1 = 0 <;> by_cases h2 : mf_Mo_is a2 0 2 = 0 <;> by_cases h3 : mf_Mo_is a3 0 1 = 0 <;> by_cases h4 : mf_Mo_is a4 0 255 = 0 <;> simp [h1, h2, h3, h4]
theorem as_substitute (v w : fw_V) (a1 a2 a3 : Int32) : (xf_FR_substitute v a1 a2 a3).1 = (mf_Mo_substitute w a1 a2 a3).1 := by
  unfold xf_FR_substitute mf_Mo_substitute xf_FR_substitute_j1 mf_Mo_substitute_j1 mf_Mo_substitute_j2 xf_FR_isDevice xf_FR_isOctet
  simp only [xw_is]
  by_cases h1 : mf_Mo_is a1 0 1 = 0 <;> by_cases h2 : mf_Mo_is a2 0 2 = 0 <;> by_cases h3 : mf_Mo_is a3 0 255 = 0 <;> by_cases h4 : a2 = 2 <;> simp [h1, h2, h3, if_pos, if_neg, h4] <;> (first | done | (subst h4; simp [h1, h2, h3]))
theorem is_kon (a : Int32) : xf_FR_isKindOrNone a = 0 ↔ mf_Mo_is a (-1) 7 = 0 := by
  unfold xf_FR_isKindOrNone xf_FR_isKind
  simp only [xw_is]
  by_cases h : a = -1
  · subst h; decide
  · unfold mf_Mo_is
    have e : (a < 0) ↔ (a < -1) := by
      rw [Int32.lt_iff_toInt_lt, Int32.lt_iff_toInt_lt, show (0 : Int32).toInt = 0 from rfl, show (-1 : Int32).toInt = -1 from by decide]
      have : a.toInt ≠ -1 := fun q => h (Int32.toInt_inj.mp (by rw [q]; decide))
      omega
    by_cases h0 : a < 0
    · have := e.mp h0
      simp [h, h0, this]
    · have : ¬ a < -1 := fun q => h0 (e.mpr q)
      simp only [h, h0, this, if_false]
      split <;> simp_all
theorem as_plug (v w : fw_V) (a1 a2 a3 : Int32) : (xf_FR_plug v a1 a2 a3).1 = (mf_Mo_plug w a1 a2 a3).1 := by
  unfold xf_FR_plug mf_Mo_plug xf_FR_isDevice xf_FR_isSlot
  simp only [xw_is, is_kon]
  by_cases h1 : mf_Mo_is a1 0 1 = 0 <;> by_cases h2 : mf_Mo_is a2 0 2 = 0 <;> by_cases h3 : mf_Mo_is a3 (-1) 7 = 0 <;> simp only [h1, h2, h3, if_true, if_false]
  by_cases g1 : w 42 0 (3 * a1 + a2).toNatClampNeg = a3
  · rw [if_pos g1]
  · rw [if_neg g1]
    by_cases g2 : a1 = 0
    · rw [if_pos g2]
      (repeat' split) <;> with_reducible rfl
    · rw [if_neg g2]
      (repeat' split) <;> with_reducible rfl

/-! the wire -/
theorem xset_o {v : fw_V} {f : Nat} {a b c d : Int32} {c' i k : Nat} (h7 : c' ≠ 7) (h8 : c' ≠ 8) : xf_Fm_set v f a b c d c' i k = v c' i k := by
  simp [xf_Fm_set, fw_up, fw_row, h7, h8]
theorem xset_i {v : fw_V} {f : Nat} {a b c d : Int32} {c' i k : Nat} (h : i ≠ f) : xf_Fm_set v f a b c d c' i k = v c' i k := by
  simp [xf_Fm_set, fw_up, fw_row, h]
theorem xset_8 {v : fw_V} {f : Nat} {a b c d : Int32} {k : Nat} : xf_Fm_set v f a b c d 8 f k = 0 := by
  simp [xf_Fm_set, fw_up, fw_row]
theorem xset_70 {v : fw_V} {f : Nat} {a b c d : Int32} : xf_Fm_set v f a b c d 7 f 0 = a := by
  simp [xf_Fm_set, fw_up, fw_row]
theorem xset_71 {v : fw_V} {f : Nat} {a b c d : Int32} : xf_Fm_set v f a b c d 7 f 1 = b := by
  simp [xf_Fm_set, fw_up, fw_row]
theorem xset_72 {v : fw_V} {f : Nat} {a b c d : Int32} : xf_Fm_set v f a b c d 7 f 2 = c := by
  simp [xf_Fm_set, fw_up, fw_row]
theorem xset_73 {v : fw_V} {f : Nat} {a b c d : Int32} : xf_Fm_set v f a b c d 7 f 3 = d := by
  simp [xf_Fm_set, fw_up, fw_row]
/-- place j of the wire holds the same frame -/
def Fj (v w : fw_V) (j : Nat) : Prop := v 7 (v 6 0 j).toNatClampNeg 0 = w 4 0 j ∧ v 7 (v 6 0 j).toNatClampNeg 1 = w 5 0 j ∧ v 7 (v 6 0 j).toNatClampNeg 2 = w 6 0 j ∧ v 7 (v 6 0 j).toNatClampNeg 3 = w 7 0 j ∧ ∀ t, t < 7 → v 8 (v 6 0 j).toNatClampNeg t = w 8 0 (7 * j + t)
/-- the wires are alike -/
def Wr (v w : fw_V) : Prop := (v 5 0 2 = w 0 0 10) ∧ (vp_in (v 5 0 2) 17) ∧ (v 5 0 3 = w 0 0 50) ∧ (v 5 0 4 = w 0 0 51) ∧ (∀ j, j < (v 5 0 2).toNatClampNeg → Fj v w j) ∧ (∀ j, j < 17 → (v 6 0 j).toNatClampNeg < 17) ∧ (∀ i j, i < 17 → j < 17 → (v 6 0 i).toNatClampNeg = (v 6 0 j).toNatClampNeg → i = j)
theorem Wr.sz {v w : fw_V} (h : Wr v w) : v 5 0 2 = w 0 0 10 := h.1
theorem Wr.ok {v w : fw_V} (h : Wr v w) : vp_in (v 5 0 2) 17 := h.2.1
theorem Wr.st {v w : fw_V} (h : Wr v w) : v 5 0 3 = w 0 0 50 := h.2.2.1
theorem Wr.ls {v w : fw_V} (h : Wr v w) : v 5 0 4 = w 0 0 51 := h.2.2.2.1
theorem Wr.fr {v w : fw_V} (h : Wr v w) : ∀ j, j < (v 5 0 2).toNatClampNeg → Fj v w j := h.2.2.2.2.1
theorem Wr.lt {v w : fw_V} (h : Wr v w) : ∀ j, j < 17 → (v 6 0 j).toNatClampNeg < 17 := h.2.2.2.2.2.1
theorem Wr.inj {v w : fw_V} (h : Wr v w) : ∀ i j, i < 17 → j < 17 → (v 6 0 i).toNatClampNeg = (v 6 0 j).toNatClampNeg → i = j := h.2.2.2.2.2.2
/-- what send of the reference does -/
theorem msend_full {w : fw_V} {a b c d : Int32} (h : w 0 0 10 = 16) : mf_Mo_send w a b c d = mf_Mo_clear (fw_up (fw_up w 0 0 50 (w 0 0 50 + 1)) 0 0 51 (w 0 0 51 + 1)) := by
  unfold mf_Mo_send
  dsimp only
  rw [if_pos (show fw_up w 0 0 50 (w 0 0 50 + 1) 0 0 10 = 16 by rw [fw_up_k (by decide)]; exact h), fw_up_k (by decide)]
theorem mclear_c {w : fw_V} {c i k : Nat} (h : c ≠ 9) : mf_Mo_clear w c i k = w c i k := by
  simp [mf_Mo_clear, fw_up, h]
theorem mclear_9 {w : fw_V} {k : Nat} (h : k < 7) : mf_Mo_clear w 9 0 k = 0 := by
  rcases (show k = 0 ∨ k = 1 ∨ k = 2 ∨ k = 3 ∨ k = 4 ∨ k = 5 ∨ k = 6 by omega) with rfl | rfl | rfl | rfl | rfl | rfl | rfl <;> simp [mf_Mo_clear, fw_up]
theorem msend_9 {w : fw_V} {a b c d : Int32} {k : Nat} (h : k < 7) : mf_Mo_send w a b c d 9 0 k = 0 := by
  unfold mf_Mo_send
  dsimp only
  split <;> exact mclear_9 h
theorem msend_c {w : fw_V} {a b c d : Int32} {c' i k : Nat} (h0 : c' ≠ 0) (h4 : c' ≠ 4) (h5 : c' ≠ 5) (h6 : c' ≠ 6) (h7 : c' ≠ 7) (h8 : c' ≠ 8) (h9 : c' ≠ 9) : mf_Mo_send w a b c d c' i k = w c' i k := by
  unfold mf_Mo_send
  dsimp only
  split <;> simp [mclear_c h9, fw_up, h0, h4, h5, h6, h7, h8]
theorem msend_0k {w : fw_V} {a b c d : Int32} {i k : Nat} (h1 : k ≠ 10) (h2 : k ≠ 50) (h3 : k ≠ 51) : mf_Mo_send w a b c d 0 i k = w 0 i k := by
  unfold mf_Mo_send
  dsimp only
  split <;> simp [mclear_c (show (0 : Nat) ≠ 9 by decide), fw_up, h1, h2, h3]
/-- send with room: the cells -/
theorem msend_room {w : fw_V} {a b c d : Int32} {n : Nat} (hn : n < 16) (e : w 0 0 10 = nI n) :
    mf_Mo_send w a b c d 0 0 10 = nI (n + 1) ∧ mf_Mo_send w a b c d 0 0 50 = w 0 0 50 + 1 ∧ mf_Mo_send w a b c d 0 0 51 = w 0 0 51 ∧
    (∀ k, mf_Mo_send w a b c d 4 0 k = if k = n then a else w 4 0 k) ∧ (∀ k, mf_Mo_send w a b c d 5 0 k = if k = n then b else w 5 0 k) ∧
    (∀ k, mf_Mo_send w a b c d 6 0 k = if k = n then c else w 6 0 k) ∧ (∀ k, mf_Mo_send w a b c d 7 0 k = if k = n then d else w 7 0 k) ∧
    (∀ t, t < 7 → mf_Mo_send w a b c d 8 0 (7 * n + t) = w 9 0 t) ∧ (∀ j t, j ≠ n → t < 7 → mf_Mo_send w a b c d 8 0 (7 * j + t) = w 8 0 (7 * j + t)) := by
  have n1 : nI n + 1 = nI (n + 1) := nI_1 n
  rw [msend_ex hn e]
  refine ⟨?_, ?_, ?_, fun k => ?_, fun k => ?_, fun k => ?_, fun k => ?_, fun t ht => ?_, fun j t hj ht => ?_⟩
  · rw [mclear_c (by decide)]; simp [fw_up]
  · rw [mclear_c (by decide)]; simp [fw_up]
  · rw [mclear_c (by decide)]; simp [fw_up]
  · rw [mclear_c (by decide)]; simp [fw_up]
  · rw [mclear_c (by decide)]; simp [fw_up]
  · rw [mclear_c (by decide)]; simp [fw_up]
  · rw [mclear_c (by decide)]; simp [fw_up]
  · rw [mclear_c (by decide)]
    rcases (show t = 0 ∨ t = 1 ∨ t = 2 ∨ t = 3 ∨ t = 4 ∨ t = 5 ∨ t = 6 by omega) with rfl | rfl | rfl | rfl | rfl | rfl | rfl <;> simp [fw_up]
  · rw [mclear_c (by decide)]
    have z : ∀ q : Nat, q < 7 → ¬ (7 * j + t = 7 * n + q) := fun q hq h9 => hj (by omega)
    (try simp [fw_up, z]) <;> (intros; exfalso; omega)
/-- send of the class, with room and without -/
theorem xsend_room {v : fw_V} {a b c d : Int32} {n : Nat} (hn : n < 16) (e : v 5 0 2 = nI n) : xf_Wi_send v a b c d = ((v 6 0 n).toNatClampNeg, xf_Fm_set (fw_up (fw_up v 5 0 3 (v 5 0 3 + 1)) 5 0 2 (nI (n + 1))) (v 6 0 n).toNatClampNeg a b c d) := by
  have g2 : fw_up v 5 0 3 (v 5 0 3 + 1) 5 0 2 = nI n := by rw [fw_up_k (by decide)]; exact e
  have g6 : ∀ k, fw_up v 5 0 3 (v 5 0 3 + 1) 6 0 k = v 6 0 k := fun k => fw_up_c (by decide)
  unfold xf_Wi_send xf_Wi_isFull
  simp only [g2, g6, nI_clamp (show n < 2 ^ 31 by omega), nI_1]
  rw [if_pos (show nI n < 16 from (nI_ltI (a := n) (b := 16) (by omega) (by omega)).mpr hn), if_pos rfl]
theorem xsend_full {v : fw_V} {a b c d : Int32} (e : v 5 0 2 = 16) : xf_Wi_send v a b c d = (17, xf_Fm_set (fw_up (fw_up v 5 0 3 (v 5 0 3 + 1)) 5 0 4 (v 5 0 4 + 1)) 17 a b c d) := by
  have g2 : fw_up v 5 0 3 (v 5 0 3 + 1) 5 0 2 = 16 := by rw [fw_up_k (by decide)]; exact e
  have g4 : fw_up v 5 0 3 (v 5 0 3 + 1) 5 0 4 = v 5 0 4 := fw_up_k (by decide)
  unfold xf_Wi_send xf_Wi_isFull
  simp only [g2, g4]
  rfl
theorem xsend_c {v : fw_V} {a b c d : Int32} {c' i k : Nat} (h5 : c' ≠ 5) (h7 : c' ≠ 7) (h8 : c' ≠ 8) : (xf_Wi_send v a b c d).2 c' i k = v c' i k := by
  unfold xf_Wi_send
  dsimp only
  split <;> simp [xset_o h7 h8, fw_up, h5]
/-- the send of both: what the row is at the end is the reference's 'at' -/
theorem Wr_send {v w v2 : fw_V} {a b c d : Int32} (h : Wr v w) (h2 : ∀ c' i k, ¬ (c' = 8 ∧ i = (xf_Wi_send v a b c d).1) → v2 c' i k = (xf_Wi_send v a b c d).2 c' i k) (hr : ∀ t, t < 7 → v2 8 (xf_Wi_send v a b c d).1 t = w 9 0 t) : Wr v2 (mf_Mo_send w a b c d) := by
  obtain ⟨n, hn, en⟩ := vp_in_of h.ok (by decide)
  have ew : w 0 0 10 = nI n := by rw [← h.sz]; exact en
  by_cases hf : n = 16
  · subst hf
    have e16 : v 5 0 2 = 16 := en
    have w16 : w 0 0 10 = 16 := ew
    rw [xsend_full e16] at h2 hr
    dsimp only at h2 hr
    rw [msend_full w16]
    have g : ∀ c' i k, i ≠ 17 → c' ≠ 5 → v2 c' i k = v c' i k := fun c' i k hi hc => by
      rw [h2 c' i k (fun q => hi q.2), xset_i hi, fw_up_c hc, fw_up_c hc]
    have g6 : ∀ k, v2 6 0 k = v 6 0 k := fun k => g 6 0 k (by decide) (by decide)
    refine ⟨?_, ?_, ?_, ?_, fun j hj => ?_, fun j hj => ?_, fun i j hi hj => ?_⟩
    · rw [h2 5 0 2 (by simp), xset_o (by decide) (by decide), mclear_c (by decide)]; simp [fw_up, h.sz]
    · rw [h2 5 0 2 (by simp), xset_o (by decide) (by decide)]; simp [fw_up]; exact h.ok
    · rw [h2 5 0 3 (by simp), xset_o (by decide) (by decide), mclear_c (by decide)]; simp [fw_up, h.st]
    · rw [h2 5 0 4 (by simp), xset_o (by decide) (by decide), mclear_c (by decide)]; simp [fw_up, h.ls]
    · have e2 : v2 5 0 2 = v 5 0 2 := by rw [h2 5 0 2 (by simp), xset_o (by decide) (by decide)]; simp [fw_up]
      rw [e2] at hj
      have hj17 : j < 17 := by rw [e16] at hj; exact Nat.lt_succ_of_lt hj
      have hne : (v 6 0 j).toNatClampNeg ≠ 17 := by have := h.lt j hj17; omega
      obtain ⟨f0, f1, f2, f3, f8⟩ := h.fr j hj
      unfold Fj
      rw [g6]
      have m4 : ∀ c' k, c' ≠ 9 → c' ≠ 0 → mf_Mo_clear (fw_up (fw_up w 0 0 50 (w 0 0 50 + 1)) 0 0 51 (w 0 0 51 + 1)) c' 0 k = w c' 0 k := fun c' k q1 q2 => by rw [mclear_c q1, fw_up_c q2, fw_up_c q2]
      rw [g 7 _ 0 hne (by decide), g 7 _ 1 hne (by decide), g 7 _ 2 hne (by decide), g 7 _ 3 hne (by decide), m4 4 _ (by decide) (by decide), m4 5 _ (by decide) (by decide), m4 6 _ (by decide) (by decide), m4 7 _ (by decide) (by decide)]
      exact ⟨f0, f1, f2, f3, fun t ht => by rw [g 8 _ t hne (by decide), m4 8 _ (by decide) (by decide)]; exact f8 t ht⟩
    · rw [g6]; exact h.lt j hj
    · rw [g6, g6]; exact h.inj i j hi hj
  · have hn16 : n < 16 := by omega
    rw [xsend_room hn16 en] at h2 hr
    dsimp only at h2 hr
    obtain ⟨m10, m50, m51, m4, m5, m6, m7, m8a, m8b⟩ := msend_room (w := w) (a := a) (b := b) (c := c) (d := d) hn16 ew
    have hf17 : (v 6 0 n).toNatClampNeg < 17 := h.lt n (by omega)
    have g : ∀ c' i k, i ≠ (v 6 0 n).toNatClampNeg → c' ≠ 5 → v2 c' i k = v c' i k := fun c' i k hi hc => by
      rw [h2 c' i k (fun q => hi q.2), xset_i hi, fw_up_c hc, fw_up_c hc]
    have g6 : ∀ k, v2 6 0 k = v 6 0 k := fun k => by
      rw [h2 6 0 k (by simp), xset_o (by decide) (by decide), fw_up_c (by decide), fw_up_c (by decide)]
    have e2 : v2 5 0 2 = nI (n + 1) := by rw [h2 5 0 2 (by simp), xset_o (by decide) (by decide), fw_up_s]
    refine ⟨?_, ?_, ?_, ?_, fun j hj => ?_, fun j hj => ?_, fun i j hi hj => ?_⟩
    · rw [e2, m10]
    · rw [e2]; exact vp_in_nI (by omega) (by decide)
    · rw [h2 5 0 3 (by simp), xset_o (by decide) (by decide), m50, fw_up_k (by decide), fw_up_s, h.st]
    · rw [h2 5 0 4 (by simp), xset_o (by decide) (by decide), m51, fw_up_k (by decide), fw_up_k (by decide), h.ls]
    · rw [e2, nI_clamp (by omega)] at hj
      unfold Fj
      rw [g6]
      by_cases hjn : j = n
      · subst hjn
        rw [h2 7 _ 0 (by simp), h2 7 _ 1 (by simp), h2 7 _ 2 (by simp), h2 7 _ 3 (by simp), xset_70, xset_71, xset_72, xset_73, m4, m5, m6, m7, if_pos rfl, if_pos rfl, if_pos rfl, if_pos rfl]
        exact ⟨rfl, rfl, rfl, rfl, fun t ht => by rw [hr t ht, m8a t ht]⟩
      · have hne : (v 6 0 j).toNatClampNeg ≠ (v 6 0 n).toNatClampNeg := fun q => hjn (h.inj j n (by omega) (by omega) q)
        obtain ⟨f0, f1, f2, f3, f8⟩ := h.fr j (by rw [en, nI_clamp (by omega)]; omega)
        rw [g 7 _ 0 hne (by decide), g 7 _ 1 hne (by decide), g 7 _ 2 hne (by decide), g 7 _ 3 hne (by decide), m4, m5, m6, m7, if_neg hjn, if_neg hjn, if_neg hjn, if_neg hjn]
        exact ⟨f0, f1, f2, f3, fun t ht => by rw [g 8 _ t hne (by decide), m8b j t hjn ht]; exact f8 t ht⟩
    · rw [g6]; exact h.lt j hj
    · rw [g6, g6]; exact h.inj i j hi hj

/-! moving frames -/
theorem mmove_c {w : fw_V} {x y : Int32} {c i k : Nat} (h4 : c ≠ 4) (h5 : c ≠ 5) (h6 : c ≠ 6) (h7 : c ≠ 7) (h8 : c ≠ 8) : mf_Mo_move w x y c i k = w c i k := by
  simp [mf_Mo_move, fw_up, h4, h5, h6, h7, h8]
theorem mmove_ex {w : fw_V} {a b : Nat} (ha : a < 16) (hb : b < 16) :
    (∀ k, mf_Mo_move w (nI a) (nI b) 4 0 k = if k = b then w 4 0 a else w 4 0 k) ∧ (∀ k, mf_Mo_move w (nI a) (nI b) 5 0 k = if k = b then w 5 0 a else w 5 0 k) ∧
    (∀ k, mf_Mo_move w (nI a) (nI b) 6 0 k = if k = b then w 6 0 a else w 6 0 k) ∧ (∀ k, mf_Mo_move w (nI a) (nI b) 7 0 k = if k = b then w 7 0 a else w 7 0 k) ∧
    (∀ t, t < 7 → mf_Mo_move w (nI a) (nI b) 8 0 (7 * b + t) = w 8 0 (7 * a + t)) ∧ (∀ j t, j ≠ b → t < 7 → mf_Mo_move w (nI a) (nI b) 8 0 (7 * j + t) = w 8 0 (7 * j + t)) := by
  have ca : (nI a).toNatClampNeg = a := nI_clamp (by omega)
  have cb : (nI b).toNatClampNeg = b := nI_clamp (by omega)
  have x0 : ∀ n, n < 16 → (((7 : Int32) * nI n) + (0 : Int32)).toNatClampNeg = 7 * n + 0 := fun n hn => i7 (by omega) (i := 0) (by decide)
  have x1 : ∀ n, n < 16 → (((7 : Int32) * nI n) + (1 : Int32)).toNatClampNeg = 7 * n + 1 := fun n hn => i7 (by omega) (i := 1) (by decide)
  have x2 : ∀ n, n < 16 → (((7 : Int32) * nI n) + (2 : Int32)).toNatClampNeg = 7 * n + 2 := fun n hn => i7 (by omega) (i := 2) (by decide)
  have x3 : ∀ n, n < 16 → (((7 : Int32) * nI n) + (3 : Int32)).toNatClampNeg = 7 * n + 3 := fun n hn => i7 (by omega) (i := 3) (by decide)
  have x4 : ∀ n, n < 16 → (((7 : Int32) * nI n) + (4 : Int32)).toNatClampNeg = 7 * n + 4 := fun n hn => i7 (by omega) (i := 4) (by decide)
  have x5 : ∀ n, n < 16 → (((7 : Int32) * nI n) + (5 : Int32)).toNatClampNeg = 7 * n + 5 := fun n hn => i7 (by omega) (i := 5) (by decide)
  have x6 : ∀ n, n < 16 → (((7 : Int32) * nI n) + (6 : Int32)).toNatClampNeg = 7 * n + 6 := fun n hn => i7 (by omega) (i := 6) (by decide)
  refine ⟨fun k => ?_, fun k => ?_, fun k => ?_, fun k => ?_, fun t ht => ?_, fun j t hj ht => ?_⟩
  · unfold mf_Mo_move; simp [fw_up, ca, cb]
  · unfold mf_Mo_move; simp [fw_up, ca, cb]
  · unfold mf_Mo_move; simp [fw_up, ca, cb]
  · unfold mf_Mo_move; simp [fw_up, ca, cb]
  · by_cases hab : a = b
    · subst hab
      unfold mf_Mo_move
      simp only [fw_up, ca, x0 a ha, x1 a ha, x2 a ha, x3 a ha, x4 a ha, x5 a ha, x6 a ha]
      rcases (show t = 0 ∨ t = 1 ∨ t = 2 ∨ t = 3 ∨ t = 4 ∨ t = 5 ∨ t = 6 by omega) with rfl | rfl | rfl | rfl | rfl | rfl | rfl <;> simp
    · have z : ∀ p q : Nat, p < 7 → q < 7 → ¬ (7 * a + p = 7 * b + q) := fun p q hp hq h9 => hab (by omega)
      have z0 : ∀ p : Nat, p < 7 → ¬ (7 * a + p = 7 * b) := fun p hp h9 => hab (by omega)
      have z1 : ∀ p : Nat, p < 7 → ¬ (7 * a = 7 * b + p) := fun p hp h9 => hab (by omega)
      unfold mf_Mo_move
      simp only [fw_up, ca, cb, x0 a ha, x1 a ha, x2 a ha, x3 a ha, x4 a ha, x5 a ha, x6 a ha, x0 b hb, x1 b hb, x2 b hb, x3 b hb, x4 b hb, x5 b hb, x6 b hb]
      rcases (show t = 0 ∨ t = 1 ∨ t = 2 ∨ t = 3 ∨ t = 4 ∨ t = 5 ∨ t = 6 by omega) with rfl | rfl | rfl | rfl | rfl | rfl | rfl <;> simp [z, z0, z1, hab] <;> (intros; exfalso; omega)
  · have z : ∀ q : Nat, q < 7 → ¬ (7 * j + t = 7 * b + q) := fun q hq h9 => hj (by omega)
    unfold mf_Mo_move
    simp only [fw_up, ca, cb, x0 a ha, x1 a ha, x2 a ha, x3 a ha, x4 a ha, x5 a ha, x6 a ha, x0 b hb, x1 b hb, x2 b hb, x3 b hb, x4 b hb, x5 b hb, x6 b hb]
    (try simp [z]) <;> (intros; exfalso; omega)
/-- remove's loop -/
theorem mrem_loop : ∀ (z : Nat) (w : fw_V) (a1 : Int32) (i n : Nat), n < 16 → w 0 0 10 = nI n → i ≤ n → n < i + z →
    (∀ c i' k, c ≠ 4 → c ≠ 5 → c ≠ 6 → c ≠ 7 → c ≠ 8 → mf_Mo_remove_j1 z w a1 (nI i) c i' k = w c i' k) ∧
    (∀ c j, (c = 4 ∨ c = 5 ∨ c = 6 ∨ c = 7) → j < n → mf_Mo_remove_j1 z w a1 (nI i) c 0 j = w c 0 (if j < i then j else j + 1)) ∧
    (∀ j t, j < n → t < 7 → mf_Mo_remove_j1 z w a1 (nI i) 8 0 (7 * j + t) = w 8 0 (7 * (if j < i then j else j + 1) + t)) := by
  intro z
  induction z with
  | zero => intro w a1 i n hn e hi hz; omega
  | succ z ih =>
    intro w a1 i n hn e hi hz
    unfold mf_Mo_remove_j1
    by_cases h : n ≤ i
    · rw [if_pos (show w 0 0 10 ≤ nI i by rw [e, nI_leI (by omega) (by omega)]; exact h)]
      have hin : i = n := by omega
      subst hin
      exact ⟨fun c i' k _ _ _ _ _ => rfl, fun c j hc hj => by rw [if_pos hj], fun j t hj ht => by rw [if_pos hj]⟩
    · rw [if_neg (show ¬ w 0 0 10 ≤ nI i by rw [e, nI_leI (by omega) (by omega)]; exact h)]
      rw [nI_1]
      obtain ⟨m4, m5, m6, m7, m8a, m8b⟩ := mmove_ex (w := w) (a := i + 1) (b := i) (by omega) (by omega)
      have e2 : mf_Mo_move w (nI (i + 1)) (nI i) 0 0 10 = nI n := by rw [mmove_c (by decide) (by decide) (by decide) (by decide) (by decide)]; exact e
      obtain ⟨g0, g1, g2⟩ := ih (mf_Mo_move w (nI (i + 1)) (nI i)) a1 (i + 1) n hn e2 (by omega) (by omega)
      refine ⟨fun c i' k h4 h5 h6 h7 h8 => ?_, fun c j hc hj => ?_, fun j t hj ht => ?_⟩
      · rw [g0 c i' k h4 h5 h6 h7 h8, mmove_c h4 h5 h6 h7 h8]
      · rw [g1 c j hc hj]
        by_cases h1 : j < i
        · rw [if_pos (by omega), if_pos h1]
          rcases hc with rfl | rfl | rfl | rfl
          · rw [m4, if_neg (by omega)]
          · rw [m5, if_neg (by omega)]
          · rw [m6, if_neg (by omega)]
          · rw [m7, if_neg (by omega)]
        · rw [if_neg h1]
          by_cases h2 : j = i
          · subst h2
            rw [if_pos (by omega)]
            rcases hc with rfl | rfl | rfl | rfl
            · rw [m4, if_pos rfl]
            · rw [m5, if_pos rfl]
            · rw [m6, if_pos rfl]
            · rw [m7, if_pos rfl]
          · rw [if_neg (by omega)]
            rcases hc with rfl | rfl | rfl | rfl
            · rw [m4, if_neg (by omega)]
            · rw [m5, if_neg (by omega)]
            · rw [m6, if_neg (by omega)]
            · rw [m7, if_neg (by omega)]
      · rw [g2 j t hj ht]
        by_cases h1 : j < i
        · rw [if_pos (by omega), if_pos h1, m8b j t (by omega) ht]
        · rw [if_neg h1]
          by_cases h2 : j = i
          · subst h2
            rw [if_pos (by omega), m8a t ht]
          · rw [if_neg (by omega), m8b (j + 1) t (by omega) ht]
theorem nI_p {n : Nat} (h : 0 < n) : nI n - 1 = nI (n - 1) := by
  obtain ⟨m, rfl⟩ : ∃ m, n = m + 1 := ⟨n - 1, by omega⟩
  rw [nI_pred]; rfl
theorem mrem_ex {w : fw_V} {k n : Nat} (hk : k < n) (hn : n ≤ 16) (e : w 0 0 10 = nI n) :
    mf_Mo_remove w (nI k) 0 0 10 = nI (n - 1) ∧ (∀ c i' k', c ≠ 4 → c ≠ 5 → c ≠ 6 → c ≠ 7 → c ≠ 8 → ¬ (c = 0 ∧ i' = 0 ∧ k' = 10) → mf_Mo_remove w (nI k) c i' k' = w c i' k') ∧
    (∀ c j, (c = 4 ∨ c = 5 ∨ c = 6 ∨ c = 7) → j < n - 1 → mf_Mo_remove w (nI k) c 0 j = w c 0 (if j < k then j else j + 1)) ∧
    (∀ j t, j < n - 1 → t < 7 → mf_Mo_remove w (nI k) 8 0 (7 * j + t) = w 8 0 (7 * (if j < k then j else j + 1) + t)) := by
  have e2 : fw_up w 0 0 10 (w 0 0 10 - 1) 0 0 10 = nI (n - 1) := by rw [fw_up_s, e, nI_p (by omega)]
  obtain ⟨g0, g1, g2⟩ := mrem_loop 20 (fw_up w 0 0 10 (w 0 0 10 - 1)) (nI k) k (n - 1) (by omega) e2 (by omega) (by omega)
  refine ⟨?_, fun c i' k' h4 h5 h6 h7 h8 h => ?_, fun c j hc hj => ?_, fun j t hj ht => ?_⟩
  · exact (g0 0 0 10 (by decide) (by decide) (by decide) (by decide) (by decide)).trans e2
  · exact (g0 c i' k' h4 h5 h6 h7 h8).trans (fw_up_ne h)
  · refine (g1 c j hc hj).trans ?_
    rw [fw_up_c (by rcases hc with rfl | rfl | rfl | rfl <;> decide)]
  · refine (g2 j t hj ht).trans ?_
    rw [fw_up_c (by decide)]
/-- take's loop -/
theorem nI_tn {x : Int32} {n : Nat} (h : vp_in x n) (hn : n < 2 ^ 31) : nI x.toNatClampNeg = x := by
  obtain ⟨j, hj, e⟩ := vp_in_of h hn
  rw [e, nI_clamp (by omega)]
theorem xtake_loop : ∀ (z : Nat) (v : fw_V) (a1 : Int32) (f i : Nat), i ≤ 16 → 16 < i + z → (∀ k, vp_in (v 6 0 k) 18) →
    (xf_Wi_take_j1 z v a1 f (nI i)).1 = f ∧ (∀ c i' k, c ≠ 5 → c ≠ 6 → (xf_Wi_take_j1 z v a1 f (nI i)).2 c i' k = v c i' k) ∧ (∀ k, k ≠ 2 → (xf_Wi_take_j1 z v a1 f (nI i)).2 5 0 k = v 5 0 k) ∧ (xf_Wi_take_j1 z v a1 f (nI i)).2 5 0 2 = v 5 0 2 - 1 ∧
    (∀ j, j < 17 → (xf_Wi_take_j1 z v a1 f (nI i)).2 6 0 j = if j < i then v 6 0 j else if j < 16 then v 6 0 (j + 1) else nI f) := by
  intro z
  induction z with
  | zero => intro v a1 f i hi hz; omega
  | succ z ih =>
    intro v a1 f i hi hz hv
    unfold xf_Wi_take_j1
    by_cases h : i = 16
    · subst h
      rw [if_pos (show (16 : Int32) ≤ nI 16 by decide)]
      dsimp only
      refine ⟨rfl, fun c i' k h5 h6 => ?_, fun k hk => ?_, ?_, fun j hj => ?_⟩
      · rw [fw_up_c h5, fw_up_c h6]
      · rw [fw_up_k hk, fw_up_c (by decide)]
      · rw [fw_up_s, fw_up_c (by decide)]
      · rw [fw_up_c (by decide)]
        by_cases hj16 : j = 16
        · subst hj16; rw [fw_up_s]; rfl
        · rw [fw_up_k hj16, if_pos (by omega)]
    · rw [if_neg (show ¬ (16 : Int32) ≤ nI i from fun q => by
        have := (nI_leI (a := 16) (b := i) (by omega) (by omega)).mp q
        omega)]
      dsimp only
      rw [nI_1, nI_clamp (show i < 2 ^ 31 by omega), nI_clamp (show i + 1 < 2 ^ 31 by omega), nI_tn (hv (i + 1)) (by decide)]
      obtain ⟨g0, g1, g2, g3, g4⟩ := ih (fw_up v 6 0 i (v 6 0 (i + 1))) a1 f (i + 1) (by omega) (by omega) (fun k => by
        by_cases hk : k = i
        · subst hk; rw [fw_up_s]; exact hv _
        · rw [fw_up_k hk]; exact hv _)
      refine ⟨g0, fun c i' k h5 h6 => ?_, fun k hk => ?_, ?_, fun j hj => ?_⟩
      · rw [g1 c i' k h5 h6, fw_up_c h6]
      · rw [g2 k hk, fw_up_c (by decide)]
      · rw [g3, fw_up_c (by decide)]
      · rw [g4 j hj]
        by_cases h1 : j < i
        · rw [if_pos (by omega), if_pos h1, fw_up_k (by omega)]
        · rw [if_neg h1]
          by_cases h2 : j = i
          · subst h2
            rw [if_pos (by omega), fw_up_s, if_pos (by omega)]
          · rw [if_neg (by omega)]
            by_cases h3 : j < 16
            · rw [if_pos h3, if_pos h3, fw_up_k (by omega)]
            · rw [if_neg h3, if_neg h3]
/-- a frame is taken from the wire by both -/
theorem Wr_take {v w : fw_V} {k : Nat} (h : Wr v w) (h6 : ∀ k, vp_in (v 6 0 k) 18) (hk : k < (v 5 0 2).toNatClampNeg) :
    (xf_Wi_take v (nI k)).1 = (v 6 0 k).toNatClampNeg ∧ Wr (xf_Wi_take v (nI k)).2 (mf_Mo_remove w (nI k)) ∧ (∀ c i' k', c ≠ 5 → c ≠ 6 → (xf_Wi_take v (nI k)).2 c i' k' = v c i' k') ∧ (xf_Wi_take v (nI k)).2 6 0 16 = nI (v 6 0 k).toNatClampNeg ∧ (xf_Wi_take v (nI k)).2 5 0 2 = v 5 0 2 - 1 := by
  obtain ⟨n, hn, en⟩ := vp_in_of h.ok (by decide)
  rw [en, nI_clamp (by omega)] at hk
  have ew : w 0 0 10 = nI n := by rw [← h.sz]; exact en
  have ex : xf_Wi_take v (nI k) = xf_Wi_take_j1 20 v (nI k) (v 6 0 k).toNatClampNeg (nI k) := by
    unfold xf_Wi_take; rw [nI_clamp (by omega)]
  obtain ⟨g0, g1, g2, g3, g4⟩ := xtake_loop 20 v (nI k) (v 6 0 k).toNatClampNeg k (by omega) (by omega) h6
  obtain ⟨q0, q1, q2, q3⟩ := mrem_ex (w := w) (k := k) (n := n) hk (by omega) ew
  rw [ex]
  have e2 : (xf_Wi_take_j1 20 v (nI k) (v 6 0 k).toNatClampNeg (nI k)).2 5 0 2 = nI (n - 1) := by rw [g3, en, nI_p (by omega)]
  refine ⟨g0, ⟨?_, ?_, ?_, ?_, fun j hj => ?_, fun j hj => ?_, fun i j hi hj hij => ?_⟩, g1, ?_, g3⟩
  · rw [e2, q0]
  · rw [e2]; exact vp_in_nI (by omega) (by decide)
  · rw [g2 3 (by decide), q1 0 0 50 (by decide) (by decide) (by decide) (by decide) (by decide) (by decide)]; exact h.st
  · rw [g2 4 (by decide), q1 0 0 51 (by decide) (by decide) (by decide) (by decide) (by decide) (by decide)]; exact h.ls
  · rw [e2, nI_clamp (by omega)] at hj
    unfold Fj
    rw [g4 j (by omega)]
    rw [g1 7 _ _ (by decide) (by decide), g1 7 _ _ (by decide) (by decide), g1 7 _ _ (by decide) (by decide), g1 7 _ _ (by decide) (by decide)]
    rw [q2 4 j (by decide) hj, q2 5 j (by decide) hj, q2 6 j (by decide) hj, q2 7 j (by decide) hj]
    by_cases hjk : j < k
    · rw [if_pos hjk, if_pos hjk]
      obtain ⟨f0, f1, f2, f3, f8⟩ := h.fr j (by rw [en, nI_clamp (by omega)]; omega)
      exact ⟨f0, f1, f2, f3, fun t ht => by rw [g1 8 _ _ (by decide) (by decide), q3 j t hj ht, if_pos hjk]; exact f8 t ht⟩
    · rw [if_neg hjk, if_neg hjk, if_pos (show j < 16 by omega)]
      obtain ⟨f0, f1, f2, f3, f8⟩ := h.fr (j + 1) (by rw [en, nI_clamp (by omega)]; omega)
      exact ⟨f0, f1, f2, f3, fun t ht => by rw [g1 8 _ _ (by decide) (by decide), q3 j t hj ht, if_neg hjk]; exact f8 t ht⟩
  · rw [g4 j hj]
    by_cases hjk : j < k
    · rw [if_pos hjk]; exact h.lt j hj
    · rw [if_neg hjk]
      by_cases h16 : j < 16
      · rw [if_pos h16]; exact h.lt (j + 1) (by omega)
      · rw [if_neg h16, nI_clamp (by have := h.lt k (by omega); omega)]; exact h.lt k (by omega)
  · have hf : (nI (v 6 0 k).toNatClampNeg).toNatClampNeg = (v 6 0 k).toNatClampNeg := nI_clamp (by have := h.lt k (by omega); omega)
    rw [g4 i hi, g4 j hj] at hij
    have key : ∀ i, i < 17 → ∃ p, p < 17 ∧ (if i < k then v 6 0 i else if i < 16 then v 6 0 (i + 1) else nI (v 6 0 k).toNatClampNeg).toNatClampNeg = (v 6 0 p).toNatClampNeg ∧ p = (if i < k then i else if i < 16 then i + 1 else k) := by
      intro i hi
      by_cases h1 : i < k
      · exact ⟨i, hi, by rw [if_pos h1], by rw [if_pos h1]⟩
      · by_cases h2 : i < 16
        · exact ⟨i + 1, by omega, by rw [if_neg h1, if_pos h2], by rw [if_neg h1, if_pos h2]⟩
        · exact ⟨k, by omega, by rw [if_neg h1, if_neg h2, hf], by rw [if_neg h1, if_neg h2]⟩
    obtain ⟨p, hp, ep, pp⟩ := key i hi
    obtain ⟨q, hq, eq, qq⟩ := key j hj
    rw [ep, eq] at hij
    have := h.inj p q hp hq hij
    rw [pp, qq] at this
    by_cases h1 : i < k <;> by_cases h2 : j < k <;> by_cases h3 : i < 16 <;> by_cases h4 : j < 16 <;> simp [h1, h2, h3, h4] at this <;> omega
  · rw [g4 16 (by decide), if_neg (by omega), if_neg (by decide)]

theorem xcopy_ex {v : fw_V} {f g : Nat} (hfg : f ≠ g) : (∀ c i k, i ≠ g → xf_Fm_copyFrom v g f c i k = v c i k) ∧ (∀ c i k, c ≠ 7 → c ≠ 8 → xf_Fm_copyFrom v g f c i k = v c i k) ∧ (∀ k, k < 4 → xf_Fm_copyFrom v g f 7 g k = v 7 f k) ∧ (∀ t, t < 7 → xf_Fm_copyFrom v g f 8 g t = v 8 f t) := by
  have s7 : (7 : Int32).toNatClampNeg = 7 := by decide
  have s0 : (0 : Int32).toNatClampNeg = 0 := by decide
  refine ⟨fun c i k h => ?_, fun c i k h7 h8 => ?_, fun k hk => ?_, fun t ht => ?_⟩
  · unfold xf_Fm_copyFrom; (try dsimp only); rw [fw_row_ne (fun q => h q.2), xset_i h]
  · unfold xf_Fm_copyFrom; (try dsimp only); rw [fw_row_c h8, xset_o h7 h8]
  · unfold xf_Fm_copyFrom; (try dsimp only); rw [fw_row_c (by decide)]
    rcases (show k = 0 ∨ k = 1 ∨ k = 2 ∨ k = 3 by omega) with rfl | rfl | rfl | rfl
    · exact xset_70
    · exact xset_71
    · exact xset_72
    · exact xset_73
  · unfold xf_Fm_copyFrom; (try dsimp only); rw [fw_row_s]
    unfold va_cpy
    rw [s7, s0, if_pos ⟨Nat.zero_le _, by omega⟩, xset_i hfg, Nat.sub_zero, Nat.zero_add]
/-- a frame is there once more, for both -/
theorem Wr_copy {v w : fw_V} {k n : Nat} (h : Wr v w) (en : v 5 0 2 = nI n) (hn : n < 16) (hk : k < n) :
    Wr (xf_Wi_copyToEnd v (nI k)) (fw_up (mf_Mo_move w (nI k) (w 0 0 10)) 0 0 10 (mf_Mo_move w (nI k) (w 0 0 10) 0 0 10 + 1)) ∧ (∀ c i k', c ≠ 5 → c ≠ 7 → c ≠ 8 → xf_Wi_copyToEnd v (nI k) c i k' = v c i k') ∧ xf_Wi_copyToEnd v (nI k) 5 0 2 = nI (n + 1) := by
  have ew : w 0 0 10 = nI n := by rw [← h.sz]; exact en
  have hne : (v 6 0 k).toNatClampNeg ≠ (v 6 0 n).toNatClampNeg := fun q => by
    have := h.inj k n (by omega) (by omega) q
    omega
  obtain ⟨c1, c2, c3, c4⟩ := xcopy_ex (v := v) hne
  obtain ⟨m4, m5, m6, m7, m8a, m8b⟩ := mmove_ex (w := w) (a := k) (b := n) (by omega) hn
  have ex : xf_Wi_copyToEnd v (nI k) = fw_up (xf_Fm_copyFrom v (v 6 0 n).toNatClampNeg (v 6 0 k).toNatClampNeg) 5 0 2 (nI (n + 1)) := by
    unfold xf_Wi_copyToEnd
    dsimp only
    rw [en, nI_clamp (by omega), nI_clamp (by omega), c2 5 0 2 (by decide) (by decide), en, nI_1]
  rw [ew, mmove_c (by decide) (by decide) (by decide) (by decide) (by decide), ew, nI_1, ex]
  have g : ∀ c i k', c ≠ 5 → c ≠ 7 → c ≠ 8 → fw_up (xf_Fm_copyFrom v (v 6 0 n).toNatClampNeg (v 6 0 k).toNatClampNeg) 5 0 2 (nI (n + 1)) c i k' = v c i k' := fun c i k' h5 h7 h8 => by rw [fw_up_c h5, c2 c i k' h7 h8]
  refine ⟨⟨?_, ?_, ?_, ?_, fun j hj => ?_, fun j hj => ?_, fun i j hi hj => ?_⟩, g, fw_up_s⟩
  · rw [fw_up_s, fw_up_s]
  · rw [fw_up_s]; exact vp_in_nI (by omega) (by decide)
  · rw [fw_up_k (by decide), c2 5 0 3 (by decide) (by decide), fw_up_k (by decide), mmove_c (by decide) (by decide) (by decide) (by decide) (by decide)]; exact h.st
  · rw [fw_up_k (by decide), c2 5 0 4 (by decide) (by decide), fw_up_k (by decide), mmove_c (by decide) (by decide) (by decide) (by decide) (by decide)]; exact h.ls
  · rw [fw_up_s, nI_clamp (by omega)] at hj
    unfold Fj
    rw [g 6 0 j (by decide) (by decide) (by decide), fw_up_c (c := 5) (c' := 7) (by decide), fw_up_c (c := 5) (c' := 7) (by decide), fw_up_c (c := 5) (c' := 7) (by decide), fw_up_c (c := 5) (c' := 7) (by decide), fw_up_c (c := 0) (c' := 4) (by decide), fw_up_c (c := 0) (c' := 5) (by decide), fw_up_c (c := 0) (c' := 6) (by decide), fw_up_c (c := 0) (c' := 7) (by decide), m4, m5, m6, m7]
    obtain ⟨f0, f1, f2, f3, f8⟩ := h.fr k (by rw [en, nI_clamp (by omega)]; omega)
    by_cases hjn : j = n
    · subst hjn
      rw [if_pos rfl, if_pos rfl, if_pos rfl, if_pos rfl, c3 0 (by decide), c3 1 (by decide), c3 2 (by decide), c3 3 (by decide)]
      exact ⟨f0, f1, f2, f3, fun t ht => by rw [fw_up_c (by decide), c4 t ht, fw_up_c (by decide), m8a t ht]; exact f8 t ht⟩
    · have hjf : (v 6 0 j).toNatClampNeg ≠ (v 6 0 n).toNatClampNeg := fun q => hjn (h.inj j n (by omega) (by omega) q)
      obtain ⟨f0, f1, f2, f3, f8⟩ := h.fr j (by rw [en, nI_clamp (by omega)]; omega)
      rw [if_neg hjn, if_neg hjn, if_neg hjn, if_neg hjn, c1 7 _ 0 hjf, c1 7 _ 1 hjf, c1 7 _ 2 hjf, c1 7 _ 3 hjf]
      exact ⟨f0, f1, f2, f3, fun t ht => by rw [fw_up_c (by decide), c1 8 _ t hjf, fw_up_c (by decide), m8b j t hjn ht]; exact f8 t ht⟩
  · rw [g 6 0 j (by decide) (by decide) (by decide)]; exact h.lt j hj
  · rw [g 6 0 i (by decide) (by decide) (by decide), g 6 0 j (by decide) (by decide) (by decide)]; exact h.inj i j hi hj


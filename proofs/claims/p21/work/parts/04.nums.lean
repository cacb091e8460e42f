/-! small rows on numbers and on what a flat world's state says behind a write -/
theorem fw_top {p : Program} {l : Launch} {e : Env} {R : Room} {s : State} {m : MethodId} {args : Array Value} {below : List Frame} {meth : Method} {c0 : Code} {H : Heap} {locs : List Loc} {cells slots : Nat} {Q : State → Prop} {pc : Nat} {ls : Array Slot} {rest : List Value} {x y : Int32} (h : x = y) (k : W p l e R s m args below meth c0 H locs cells slots Q (F0 m pc ls (.int y :: rest))) : W p l e R s m args below meth c0 H locs cells slots Q (F0 m pc ls (.int x :: rest)) := by
  subst h
  exact k
theorem fw_pdI : parseFieldDescriptor "I" = some .int := by decide +kernel
theorem fw_up_c {v : fw_V} {c i k c' i' k' : Nat} {x : Int32} (h : c' ≠ c) : fw_up v c i k x c' i' k' = v c' i' k' := if_neg (fun q => h q.1)
theorem fw_up_i {v : fw_V} {c i k c' i' k' : Nat} {x : Int32} (h : i' ≠ i) : fw_up v c i k x c' i' k' = v c' i' k' := if_neg (fun q => h q.2.1)
theorem fw_up_k {v : fw_V} {c i k c' i' k' : Nat} {x : Int32} (h : k' ≠ k) : fw_up v c i k x c' i' k' = v c' i' k' := if_neg (fun q => h q.2.2)
theorem fw_up_s {v : fw_V} {c i k : Nat} {x : Int32} : fw_up v c i k x c i k = x := if_pos ⟨rfl, rfl, rfl⟩
theorem fw_up_ne {v : fw_V} {c i k c' i' k' : Nat} {x : Int32} (h : ¬ (c' = c ∧ i' = i ∧ k' = k)) : fw_up v c i k x c' i' k' = v c' i' k' := if_neg h
theorem fw_row_c {v : fw_V} {c i c' i' k' : Nat} {g : Nat → Int32} (h : c' ≠ c) : fw_row v c i g c' i' k' = v c' i' k' := if_neg (fun q => h q.1)
theorem fw_row_s {v : fw_V} {c i k : Nat} {g : Nat → Int32} : fw_row v c i g c i k = g k := if_pos ⟨rfl, rfl⟩
theorem fw_row_ne {v : fw_V} {c i c' i' k' : Nat} {g : Nat → Int32} (h : ¬ (c' = c ∧ i' = i)) : fw_row v c i g c' i' k' = v c' i' k' := if_neg h
theorem fw_inc {x : Int32} {n : Nat} (h : decide (¬ (x < 0 ∨ n ≤ x.toNatClampNeg)) = true) : vp_in x n := show ¬ (x < 0 ∨ n ≤ x.toNatClampNeg) from of_decide_eq_true h
theorem fw_inm {x : Int32} {a b : Nat} (h : vp_in x a) (hab : a ≤ b) : vp_in x b := by
  rw [vp_in_iff] at h ⊢
  omega
theorem fw_inlt {x : Int32} {n : Nat} (h : vp_in x n) : x.toNatClampNeg < n := Nat.not_le.mp fun q => h (Or.inr q)
theorem fw_lt {x y : Int32} (c : ¬ y ≤ x) : x.toInt < y.toInt := by
  rw [Int32.le_iff_toInt_le] at c
  omega
theorem fw_in3 {x B : Int32} {b : Nat} (h0 : 0 ≤ x.toInt) (c : ¬ B ≤ x) (hB : B.toInt = (b : Int) := by decide) : vp_in x b := by
  rw [vp_in_iff]
  have := fw_lt c
  omega
theorem fw_in1 {x B : Int32} {n b : Nat} (h : vp_in x n) (c : ¬ B ≤ x) (hB : B.toInt = (b : Int) := by decide) : vp_in x b := fw_in3 (vp_in_iff.mp h).1 c hB
theorem fw_ge0 {x : Int32} (h : ¬ x < 0) : 0 ≤ x.toInt := by
  rw [Int32.lt_iff_toInt_lt] at h
  have e0 : (0 : Int32).toInt = 0 := by decide
  omega
theorem fw_in2 {x B : Int32} {b : Nat} (h0 : ¬ x < 0) (c : ¬ B ≤ x) (hB : B.toInt = (b : Int) := by decide) : vp_in x b := fw_in3 (fw_ge0 h0) c hB
theorem fw_nI {x : Int32} (h : 0 ≤ x.toInt) : ∃ j : Nat, j < 2 ^ 31 ∧ x = nI j ∧ x.toInt = j := by
  obtain ⟨j, hj, e⟩ := nI_of (x := x) (by
    rw [Int32.lt_iff_toInt_lt]
    have e0 : (0 : Int32).toInt = 0 := by decide
    omega)
  exact ⟨j, hj, e, by rw [e, nI_toInt hj]⟩
theorem fw_inp1 {x : Int32} {n : Nat} (h : vp_in x n) (hn : n < 2147483647) : vp_in (x + 1) (n + 1) := by
  obtain ⟨j, hj, e⟩ := vp_in_of h (by omega)
  rw [e, nI_1]
  exact vp_in_nI (by omega) (by omega)
theorem fw_posp1 {x : Int32} {n : Nat} (h : vp_in x n) (hn : n < 2147483647) : 0 < (x + 1).toInt := by
  obtain ⟨j, hj, e⟩ := vp_in_of h (by omega)
  rw [e, nI_1, nI_toInt (by omega)]
  omega
theorem fw_inm1 {x : Int32} {n : Nat} (h : vp_in x (n + 1)) (hp : 0 < x.toInt) : vp_in (x - 1) n := by
  have hx : x.toInt < 2 ^ 31 := Int32.toInt_lt x
  obtain ⟨j, hj, e, ej⟩ := fw_nI (x := x) (by omega)
  have h2 := vp_in_iff.mp h
  obtain ⟨k, rfl⟩ : ∃ k, j = k + 1 := ⟨j - 1, by omega⟩
  rw [e, nI_pred, vp_in_iff, nI_toInt (by omega)]
  omega
theorem fw_pos {x : Int32} {n : Nat} (h : vp_in x n) (c : ¬ x = 0) : 0 < x.toInt := by
  have h1 := (vp_in_iff.mp h).1
  rcases Int.lt_or_eq_of_le h1 with q | q
  · exact q
  · exact absurd (Int32.toInt_inj.mp (by rw [← q]; decide)) c
theorem fw_ley {y X : Int32} {n : Nat} (h : vp_in y n) (hn : (n : Int) ≤ X.toInt + 1) : y ≤ X := by
  rw [Int32.le_iff_toInt_le]
  have := vp_in_iff.mp h
  omega
theorem fw_start {x B : Int32} {b n : Nat} (hB : B.toInt = (b : Int)) (h : vp_in x (b + 1)) (hn : b < n) : 0 ≤ x.toInt ∧ x.toInt ≤ B.toInt ∧ B.toInt < x.toInt + (n : Int) := by
  have := vp_in_iff.mp h
  omega
theorem fw_start0 {B : Int32} (h : (1 : Int32).toInt ≤ B.toInt ∧ B.toInt ≤ (8 : Int32).toInt) : 0 ≤ (0 : Int32).toInt ∧ (0 : Int32).toInt ≤ B.toInt ∧ B.toInt < (0 : Int32).toInt + ((10 : Nat) : Int) := by
  have e0 : (0 : Int32).toInt = 0 := by decide
  have e1 : (1 : Int32).toInt = 1 := by decide
  have e8 : (8 : Int32).toInt = 8 := by decide
  omega
theorem fw_step {x B : Int32} {n : Nat} (c : ¬ B ≤ x) (h : 0 ≤ x.toInt ∧ x.toInt ≤ B.toInt ∧ B.toInt < x.toInt + ((n + 1 : Nat) : Int)) : 0 ≤ (x + 1).toInt ∧ (x + 1).toInt ≤ B.toInt ∧ B.toInt < (x + 1).toInt + (n : Int) := by
  have h1 := fw_lt c
  have h2 : B.toInt < 2 ^ 31 := Int32.toInt_lt B
  obtain ⟨j, hj, e, ej⟩ := fw_nI h.1
  have e2 : (x + 1).toInt = x.toInt + 1 := by rw [ej, e, nI_1, nI_toInt (by omega)]; omega
  omega
theorem fw_rem8 {x : Int32} (h : 0 ≤ x.toInt) : vp_in (x - x / 8 * 8) 8 := by
  obtain ⟨j, hj, e, -⟩ := fw_nI h
  rw [e, show (8 : Int32) = nI 8 from rfl, pk_rem hj (by decide) (by decide)]
  exact vp_in_nI (Nat.mod_lt _ (by decide)) (by decide)
theorem fw_pred {x : Int32} {n : Nat} (h : vp_in x n) (hn : n < 2 ^ 31) : (x - 1).toInt = x.toInt - 1 := by
  have h2 := vp_in_iff.mp h
  obtain ⟨j, hj, e, ej⟩ := fw_nI (x := x) h2.1
  cases j with
  | zero => rw [e]; decide
  | succ k => rw [e, nI_pred, nI_toInt (by omega), nI_toInt hj]; omega
theorem fw_inadd {x y : Int32} {n m : Nat} (hx : vp_in x n) (hy : vp_in y m) (h : n + m < 2147483648) : vp_in (x + y) (n + m - 1) := by
  obtain ⟨i, hi, ei⟩ := vp_in_of hx (by omega)
  obtain ⟨j, hj, ej⟩ := vp_in_of hy (by omega)
  rw [ei, ej, nI_add]
  exact vp_in_nI (by omega) (by omega)
theorem fw_inmul {c x : Int32} {k n m : Nat} (hc : c = nI k) (hx : vp_in x n) (hm : k * (n - 1) + 1 = m) (h : n < 2147483648 ∧ m < 2147483648) : vp_in (c * x) m := by
  obtain ⟨i, hi, ei⟩ := vp_in_of hx h.1
  rw [ei, hc, pk_mul]
  have h1 : k * i ≤ k * (n - 1) := Nat.mul_le_mul_left k (by omega)
  exact vp_in_nI (by omega) h.2
theorem fw_p1 {x : Int32} (h : vp_in (x + 1) 9) : x.toInt = (x + 1).toInt - 1 := by
  have e : x = (x + 1) - 1 := by
    apply Int32.toBitVec_inj.mp
    simp
  have h2 := fw_pred h (by decide)
  rw [← e] at h2
  exact h2
theorem fw_m8 {x : Int32} (h : vp_in (x + 1) 9) (c : ¬ x < 0) : vp_in x 8 := by
  have h1 := fw_p1 h
  have h2 := vp_in_iff.mp h
  have h3 := fw_ge0 c
  rw [vp_in_iff]; omega
theorem fw_m8' {x : Int32} (h : vp_in (x + 1) 9) (c : 0 ≤ x) : vp_in x 8 := fw_m8 h (Int32.not_lt.mpr c)
theorem fw_m8s {x : Int32} (h : vp_in x 9) : vp_in ((x - 1) + 1) 9 := by
  have e : (x - 1) + 1 = x := by
    apply Int32.toBitVec_inj.mp
    simp
  rw [e]; exact h
theorem fw_one {x : Int32} (h : vp_in x 2) (c : ¬ x = 0) : x = 1 := by
  obtain ⟨j, hj, e⟩ := vp_in_of h (by decide)
  rcases (show j = 0 ∨ j = 1 by omega) with rfl | rfl
  · exact absurd e c
  · exact e
theorem fw_inne {x c : Int32} {n : Nat} (h : vp_in x (n + 1)) (hne : ¬ x = c) (hc : c.toInt = (n : Int)) : vp_in x n := by
  have h1 := vp_in_iff.mp h
  rw [vp_in_iff]
  have h2 : x.toInt ≠ (n : Int) := fun q => hne (Int32.toInt_inj.mp (by rw [q, hc]))
  omega
theorem fw_hn {x B : Int32} {b n : Nat} (hB : B.toInt = (b : Int)) (h : 0 ≤ x.toInt ∧ x.toInt ≤ B.toInt ∧ B.toInt < x.toInt + (n : Int)) : vp_in x (b + 1) := by
  rw [vp_in_iff]; omega
theorem fw_ltpos {x y : Int32} {n : Nat} (h : vp_in x n) (h2 : x.toInt < y.toInt) : 0 < y.toInt := by
  have := vp_in_iff.mp h
  omega
theorem fw_ltb {x y : Int32} {n : Nat} (h0 : 0 ≤ x.toInt) (c : ¬ y ≤ x) (hy : vp_in y (n + 1)) : vp_in x n := by
  have h1 := fw_lt c
  have h2 := vp_in_iff.mp hy
  rw [vp_in_iff]; omega
theorem fw_gt0 {x : Int32} (c : ¬ x ≤ 0) : 0 < x.toInt := by
  rw [Int32.le_iff_toInt_le] at c
  have e0 : (0 : Int32).toInt = 0 := by decide
  omega


theorem mr0_12 {c i k : Nat} (hc : c ≠ 0 ∧ c ≠ 4 ∧ c ≠ 5 ∧ c ≠ 6 ∧ c ≠ 7 ∧ c ≠ 8 ∧ c ≠ 9 ∧ c ≠ 49) (hi : ¬ (k = 0 ∧ 12 ≤ c ∧ c ≤ 23)) (hg : ¬ (c = 27 ∧ 0 ≤ k ∧ k < 6)) (v : fw_V) (x : Int32) : fw_up v 12 0 0 x c i k = v c i k := fw_up_ne (fun q => hi ⟨q.2.2, by omega, by omega⟩)
theorem mr0_13 {c i k : Nat} (hc : c ≠ 0 ∧ c ≠ 4 ∧ c ≠ 5 ∧ c ≠ 6 ∧ c ≠ 7 ∧ c ≠ 8 ∧ c ≠ 9 ∧ c ≠ 49) (hi : ¬ (k = 0 ∧ 12 ≤ c ∧ c ≤ 23)) (hg : ¬ (c = 27 ∧ 0 ≤ k ∧ k < 6)) (v : fw_V) (x : Int32) : fw_up v 13 0 0 x c i k = v c i k := fw_up_ne (fun q => hi ⟨q.2.2, by omega, by omega⟩)
theorem mr0_14 {c i k : Nat} (hc : c ≠ 0 ∧ c ≠ 4 ∧ c ≠ 5 ∧ c ≠ 6 ∧ c ≠ 7 ∧ c ≠ 8 ∧ c ≠ 9 ∧ c ≠ 49) (hi : ¬ (k = 0 ∧ 12 ≤ c ∧ c ≤ 23)) (hg : ¬ (c = 27 ∧ 0 ≤ k ∧ k < 6)) (v : fw_V) (x : Int32) : fw_up v 14 0 0 x c i k = v c i k := fw_up_ne (fun q => hi ⟨q.2.2, by omega, by omega⟩)
theorem mr0_15 {c i k : Nat} (hc : c ≠ 0 ∧ c ≠ 4 ∧ c ≠ 5 ∧ c ≠ 6 ∧ c ≠ 7 ∧ c ≠ 8 ∧ c ≠ 9 ∧ c ≠ 49) (hi : ¬ (k = 0 ∧ 12 ≤ c ∧ c ≤ 23)) (hg : ¬ (c = 27 ∧ 0 ≤ k ∧ k < 6)) (v : fw_V) (x : Int32) : fw_up v 15 0 0 x c i k = v c i k := fw_up_ne (fun q => hi ⟨q.2.2, by omega, by omega⟩)
theorem mr0_16 {c i k : Nat} (hc : c ≠ 0 ∧ c ≠ 4 ∧ c ≠ 5 ∧ c ≠ 6 ∧ c ≠ 7 ∧ c ≠ 8 ∧ c ≠ 9 ∧ c ≠ 49) (hi : ¬ (k = 0 ∧ 12 ≤ c ∧ c ≤ 23)) (hg : ¬ (c = 27 ∧ 0 ≤ k ∧ k < 6)) (v : fw_V) (x : Int32) : fw_up v 16 0 0 x c i k = v c i k := fw_up_ne (fun q => hi ⟨q.2.2, by omega, by omega⟩)
theorem mr0_17 {c i k : Nat} (hc : c ≠ 0 ∧ c ≠ 4 ∧ c ≠ 5 ∧ c ≠ 6 ∧ c ≠ 7 ∧ c ≠ 8 ∧ c ≠ 9 ∧ c ≠ 49) (hi : ¬ (k = 0 ∧ 12 ≤ c ∧ c ≤ 23)) (hg : ¬ (c = 27 ∧ 0 ≤ k ∧ k < 6)) (v : fw_V) (x : Int32) : fw_up v 17 0 0 x c i k = v c i k := fw_up_ne (fun q => hi ⟨q.2.2, by omega, by omega⟩)
theorem mr0_18 {c i k : Nat} (hc : c ≠ 0 ∧ c ≠ 4 ∧ c ≠ 5 ∧ c ≠ 6 ∧ c ≠ 7 ∧ c ≠ 8 ∧ c ≠ 9 ∧ c ≠ 49) (hi : ¬ (k = 0 ∧ 12 ≤ c ∧ c ≤ 23)) (hg : ¬ (c = 27 ∧ 0 ≤ k ∧ k < 6)) (v : fw_V) (x : Int32) : fw_up v 18 0 0 x c i k = v c i k := fw_up_ne (fun q => hi ⟨q.2.2, by omega, by omega⟩)
theorem mr0_19 {c i k : Nat} (hc : c ≠ 0 ∧ c ≠ 4 ∧ c ≠ 5 ∧ c ≠ 6 ∧ c ≠ 7 ∧ c ≠ 8 ∧ c ≠ 9 ∧ c ≠ 49) (hi : ¬ (k = 0 ∧ 12 ≤ c ∧ c ≤ 23)) (hg : ¬ (c = 27 ∧ 0 ≤ k ∧ k < 6)) (v : fw_V) (x : Int32) : fw_up v 19 0 0 x c i k = v c i k := fw_up_ne (fun q => hi ⟨q.2.2, by omega, by omega⟩)
theorem mr0_20 {c i k : Nat} (hc : c ≠ 0 ∧ c ≠ 4 ∧ c ≠ 5 ∧ c ≠ 6 ∧ c ≠ 7 ∧ c ≠ 8 ∧ c ≠ 9 ∧ c ≠ 49) (hi : ¬ (k = 0 ∧ 12 ≤ c ∧ c ≤ 23)) (hg : ¬ (c = 27 ∧ 0 ≤ k ∧ k < 6)) (v : fw_V) (x : Int32) : fw_up v 20 0 0 x c i k = v c i k := fw_up_ne (fun q => hi ⟨q.2.2, by omega, by omega⟩)
theorem mr0_21 {c i k : Nat} (hc : c ≠ 0 ∧ c ≠ 4 ∧ c ≠ 5 ∧ c ≠ 6 ∧ c ≠ 7 ∧ c ≠ 8 ∧ c ≠ 9 ∧ c ≠ 49) (hi : ¬ (k = 0 ∧ 12 ≤ c ∧ c ≤ 23)) (hg : ¬ (c = 27 ∧ 0 ≤ k ∧ k < 6)) (v : fw_V) (x : Int32) : fw_up v 21 0 0 x c i k = v c i k := fw_up_ne (fun q => hi ⟨q.2.2, by omega, by omega⟩)
theorem mr0_22 {c i k : Nat} (hc : c ≠ 0 ∧ c ≠ 4 ∧ c ≠ 5 ∧ c ≠ 6 ∧ c ≠ 7 ∧ c ≠ 8 ∧ c ≠ 9 ∧ c ≠ 49) (hi : ¬ (k = 0 ∧ 12 ≤ c ∧ c ≤ 23)) (hg : ¬ (c = 27 ∧ 0 ≤ k ∧ k < 6)) (v : fw_V) (x : Int32) : fw_up v 22 0 0 x c i k = v c i k := fw_up_ne (fun q => hi ⟨q.2.2, by omega, by omega⟩)
theorem mr0_23 {c i k : Nat} (hc : c ≠ 0 ∧ c ≠ 4 ∧ c ≠ 5 ∧ c ≠ 6 ∧ c ≠ 7 ∧ c ≠ 8 ∧ c ≠ 9 ∧ c ≠ 49) (hi : ¬ (k = 0 ∧ 12 ≤ c ∧ c ≤ 23)) (hg : ¬ (c = 27 ∧ 0 ≤ k ∧ k < 6)) (v : fw_V) (x : Int32) : fw_up v 23 0 0 x c i k = v c i k := fw_up_ne (fun q => hi ⟨q.2.2, by omega, by omega⟩)
theorem mr0_27_0 {c i k : Nat} (hc : c ≠ 0 ∧ c ≠ 4 ∧ c ≠ 5 ∧ c ≠ 6 ∧ c ≠ 7 ∧ c ≠ 8 ∧ c ≠ 9 ∧ c ≠ 49) (hi : ¬ (k = 0 ∧ 12 ≤ c ∧ c ≤ 23)) (hg : ¬ (c = 27 ∧ 0 ≤ k ∧ k < 6)) (v : fw_V) (x : Int32) : fw_up v 27 0 0 x c i k = v c i k := fw_up_ne (fun q => hg ⟨q.1, by omega, by omega⟩)
theorem mr0_27_1 {c i k : Nat} (hc : c ≠ 0 ∧ c ≠ 4 ∧ c ≠ 5 ∧ c ≠ 6 ∧ c ≠ 7 ∧ c ≠ 8 ∧ c ≠ 9 ∧ c ≠ 49) (hi : ¬ (k = 0 ∧ 12 ≤ c ∧ c ≤ 23)) (hg : ¬ (c = 27 ∧ 0 ≤ k ∧ k < 6)) (v : fw_V) (x : Int32) : fw_up v 27 0 1 x c i k = v c i k := fw_up_ne (fun q => hg ⟨q.1, by omega, by omega⟩)
theorem mr0_27_2 {c i k : Nat} (hc : c ≠ 0 ∧ c ≠ 4 ∧ c ≠ 5 ∧ c ≠ 6 ∧ c ≠ 7 ∧ c ≠ 8 ∧ c ≠ 9 ∧ c ≠ 49) (hi : ¬ (k = 0 ∧ 12 ≤ c ∧ c ≤ 23)) (hg : ¬ (c = 27 ∧ 0 ≤ k ∧ k < 6)) (v : fw_V) (x : Int32) : fw_up v 27 0 2 x c i k = v c i k := fw_up_ne (fun q => hg ⟨q.1, by omega, by omega⟩)
theorem mr0_27_3 {c i k : Nat} (hc : c ≠ 0 ∧ c ≠ 4 ∧ c ≠ 5 ∧ c ≠ 6 ∧ c ≠ 7 ∧ c ≠ 8 ∧ c ≠ 9 ∧ c ≠ 49) (hi : ¬ (k = 0 ∧ 12 ≤ c ∧ c ≤ 23)) (hg : ¬ (c = 27 ∧ 0 ≤ k ∧ k < 6)) (v : fw_V) (x : Int32) : fw_up v 27 0 3 x c i k = v c i k := fw_up_ne (fun q => hg ⟨q.1, by omega, by omega⟩)
theorem mr0_27_4 {c i k : Nat} (hc : c ≠ 0 ∧ c ≠ 4 ∧ c ≠ 5 ∧ c ≠ 6 ∧ c ≠ 7 ∧ c ≠ 8 ∧ c ≠ 9 ∧ c ≠ 49) (hi : ¬ (k = 0 ∧ 12 ≤ c ∧ c ≤ 23)) (hg : ¬ (c = 27 ∧ 0 ≤ k ∧ k < 6)) (v : fw_V) (x : Int32) : fw_up v 27 0 4 x c i k = v c i k := fw_up_ne (fun q => hg ⟨q.1, by omega, by omega⟩)
theorem mr0_27_5 {c i k : Nat} (hc : c ≠ 0 ∧ c ≠ 4 ∧ c ≠ 5 ∧ c ≠ 6 ∧ c ≠ 7 ∧ c ≠ 8 ∧ c ≠ 9 ∧ c ≠ 49) (hi : ¬ (k = 0 ∧ 12 ≤ c ∧ c ≤ 23)) (hg : ¬ (c = 27 ∧ 0 ≤ k ∧ k < 6)) (v : fw_V) (x : Int32) : fw_up v 27 0 5 x c i k = v c i k := fw_up_ne (fun q => hg ⟨q.1, by omega, by omega⟩)
theorem mr0_0 {c i k : Nat} (hc : c ≠ 0 ∧ c ≠ 4 ∧ c ≠ 5 ∧ c ≠ 6 ∧ c ≠ 7 ∧ c ≠ 8 ∧ c ≠ 9 ∧ c ≠ 49) (hi : ¬ (k = 0 ∧ 12 ≤ c ∧ c ≤ 23)) (hg : ¬ (c = 27 ∧ 0 ≤ k ∧ k < 6)) (v : fw_V) (y k0 : Nat) (x : Int32) : fw_up v 0 y k0 x c i k = v c i k := fw_up_c hc.1
theorem mr0_9 {c i k : Nat} (hc : c ≠ 0 ∧ c ≠ 4 ∧ c ≠ 5 ∧ c ≠ 6 ∧ c ≠ 7 ∧ c ≠ 8 ∧ c ≠ 9 ∧ c ≠ 49) (hi : ¬ (k = 0 ∧ 12 ≤ c ∧ c ≤ 23)) (hg : ¬ (c = 27 ∧ 0 ≤ k ∧ k < 6)) (v : fw_V) (y k0 : Nat) (x : Int32) : fw_up v 9 y k0 x c i k = v c i k := fw_up_c hc.2.2.2.2.2.2.1
theorem mr0_49 {c i k : Nat} (hc : c ≠ 0 ∧ c ≠ 4 ∧ c ≠ 5 ∧ c ≠ 6 ∧ c ≠ 7 ∧ c ≠ 8 ∧ c ≠ 9 ∧ c ≠ 49) (hi : ¬ (k = 0 ∧ 12 ≤ c ∧ c ≤ 23)) (hg : ¬ (c = 27 ∧ 0 ≤ k ∧ k < 6)) (v : fw_V) (y k0 : Nat) (x : Int32) : fw_up v 49 y k0 x c i k = v c i k := fw_up_c hc.2.2.2.2.2.2.2
theorem mr0_send {c i k : Nat} (hc : c ≠ 0 ∧ c ≠ 4 ∧ c ≠ 5 ∧ c ≠ 6 ∧ c ≠ 7 ∧ c ≠ 8 ∧ c ≠ 9 ∧ c ≠ 49) (hi : ¬ (k = 0 ∧ 12 ≤ c ∧ c ≤ 23)) (hg : ¬ (c = 27 ∧ 0 ≤ k ∧ k < 6)) (v : fw_V) (a b c' d : Int32) : mf_Mo_send v a b c' d c i k = v c i k := msend_c hc.1 hc.2.1 hc.2.2.1 hc.2.2.2.1 hc.2.2.2.2.1 hc.2.2.2.2.2.1 hc.2.2.2.2.2.2.1
theorem mr0_Mo_enter_0 {c i k : Nat} (hc : c ≠ 0 ∧ c ≠ 4 ∧ c ≠ 5 ∧ c ≠ 6 ∧ c ≠ 7 ∧ c ≠ 8 ∧ c ≠ 9 ∧ c ≠ 49) (hi : ¬ (k = 0 ∧ 12 ≤ c ∧ c ≤ 23)) (hg : ¬ (c = 27 ∧ 0 ≤ k ∧ k < 6)) : ∀ (v0 : fw_V) (a2 : Int32), mf_Mo_enter_0 v0 a2 c i k = v0 c i k := by
  intro v0 a2
  unfold mf_Mo_enter_0
  (try dsimp only)
  all_goals ((repeat' split) <;> (first | with_reducible rfl | (simp only [mr0_12 hc hi hg, mr0_13 hc hi hg, mr0_14 hc hi hg, mr0_15 hc hi hg, mr0_16 hc hi hg, mr0_17 hc hi hg, mr0_18 hc hi hg, mr0_19 hc hi hg, mr0_20 hc hi hg, mr0_21 hc hi hg, mr0_22 hc hi hg, mr0_23 hc hi hg, mr0_27_0 hc hi hg, mr0_27_1 hc hi hg, mr0_27_2 hc hi hg, mr0_27_3 hc hi hg, mr0_27_4 hc hi hg, mr0_27_5 hc hi hg, mr0_0 hc hi hg, mr0_9 hc hi hg, mr0_49 hc hi hg, mr0_send hc hi hg]; done)))
theorem mr0_Mo_ask_0 {c i k : Nat} (hc : c ≠ 0 ∧ c ≠ 4 ∧ c ≠ 5 ∧ c ≠ 6 ∧ c ≠ 7 ∧ c ≠ 8 ∧ c ≠ 9 ∧ c ≠ 49) (hi : ¬ (k = 0 ∧ 12 ≤ c ∧ c ≤ 23)) (hg : ¬ (c = 27 ∧ 0 ≤ k ∧ k < 6)) : ∀ (v0 : fw_V), mf_Mo_ask_0 v0 c i k = v0 c i k := by
  intro v0
  unfold mf_Mo_ask_0
  (try dsimp only)
  all_goals ((repeat' split) <;> (first | with_reducible rfl | (simp only [mr0_12 hc hi hg, mr0_13 hc hi hg, mr0_14 hc hi hg, mr0_15 hc hi hg, mr0_16 hc hi hg, mr0_17 hc hi hg, mr0_18 hc hi hg, mr0_19 hc hi hg, mr0_20 hc hi hg, mr0_21 hc hi hg, mr0_22 hc hi hg, mr0_23 hc hi hg, mr0_27_0 hc hi hg, mr0_27_1 hc hi hg, mr0_27_2 hc hi hg, mr0_27_3 hc hi hg, mr0_27_4 hc hi hg, mr0_27_5 hc hi hg, mr0_0 hc hi hg, mr0_9 hc hi hg, mr0_49 hc hi hg, mr0_send hc hi hg, mr0_send hc hi hg]; done)))
theorem mr0_Mo_shut_0 {c i k : Nat} (hc : c ≠ 0 ∧ c ≠ 4 ∧ c ≠ 5 ∧ c ≠ 6 ∧ c ≠ 7 ∧ c ≠ 8 ∧ c ≠ 9 ∧ c ≠ 49) (hi : ¬ (k = 0 ∧ 12 ≤ c ∧ c ≤ 23)) (hg : ¬ (c = 27 ∧ 0 ≤ k ∧ k < 6)) : ∀ (v0 : fw_V), mf_Mo_shut_0 v0 c i k = v0 c i k := by
  intro v0
  unfold mf_Mo_shut_0
  (try dsimp only)
  all_goals ((repeat' split) <;> (first | with_reducible rfl | (simp only [mr0_12 hc hi hg, mr0_13 hc hi hg, mr0_14 hc hi hg, mr0_15 hc hi hg, mr0_16 hc hi hg, mr0_17 hc hi hg, mr0_18 hc hi hg, mr0_19 hc hi hg, mr0_20 hc hi hg, mr0_21 hc hi hg, mr0_22 hc hi hg, mr0_23 hc hi hg, mr0_27_0 hc hi hg, mr0_27_1 hc hi hg, mr0_27_2 hc hi hg, mr0_27_3 hc hi hg, mr0_27_4 hc hi hg, mr0_27_5 hc hi hg, mr0_0 hc hi hg, mr0_9 hc hi hg, mr0_49 hc hi hg, mr0_send hc hi hg, mr0_Mo_enter_0 hc hi hg]; done)))
theorem mr0_Mo_breakOff_0 {c i k : Nat} (hc : c ≠ 0 ∧ c ≠ 4 ∧ c ≠ 5 ∧ c ≠ 6 ∧ c ≠ 7 ∧ c ≠ 8 ∧ c ≠ 9 ∧ c ≠ 49) (hi : ¬ (k = 0 ∧ 12 ≤ c ∧ c ≤ 23)) (hg : ¬ (c = 27 ∧ 0 ≤ k ∧ k < 6)) : ∀ (v0 : fw_V), mf_Mo_breakOff_0 v0 c i k = v0 c i k := by
  intro v0
  unfold mf_Mo_breakOff_0
  (try dsimp only)
  all_goals ((repeat' split) <;> (first | with_reducible rfl | (simp only [mr0_12 hc hi hg, mr0_13 hc hi hg, mr0_14 hc hi hg, mr0_15 hc hi hg, mr0_16 hc hi hg, mr0_17 hc hi hg, mr0_18 hc hi hg, mr0_19 hc hi hg, mr0_20 hc hi hg, mr0_21 hc hi hg, mr0_22 hc hi hg, mr0_23 hc hi hg, mr0_27_0 hc hi hg, mr0_27_1 hc hi hg, mr0_27_2 hc hi hg, mr0_27_3 hc hi hg, mr0_27_4 hc hi hg, mr0_27_5 hc hi hg, mr0_0 hc hi hg, mr0_9 hc hi hg, mr0_49 hc hi hg, mr0_send hc hi hg, mr0_Mo_shut_0 hc hi hg, mr0_send hc hi hg]; done)))
theorem mr0_Mo_write_0_j2 {c i k : Nat} (hc : c ≠ 0 ∧ c ≠ 4 ∧ c ≠ 5 ∧ c ≠ 6 ∧ c ≠ 7 ∧ c ≠ 8 ∧ c ≠ 9 ∧ c ≠ 49) (hi : ¬ (k = 0 ∧ 12 ≤ c ∧ c ≤ 23)) (hg : ¬ (c = 27 ∧ 0 ≤ k ∧ k < 6)) : ∀ (v : fw_V) (a2 : Int32) (x3 : Int32), mf_Mo_write_0_j2 v a2 x3 c i k = v c i k := by
  intro v a2 x3
  unfold mf_Mo_write_0_j2
  (try dsimp only)
  all_goals ((repeat' split) <;> (first | with_reducible rfl | (simp only [mr0_12 hc hi hg, mr0_13 hc hi hg, mr0_14 hc hi hg, mr0_15 hc hi hg, mr0_16 hc hi hg, mr0_17 hc hi hg, mr0_18 hc hi hg, mr0_19 hc hi hg, mr0_20 hc hi hg, mr0_21 hc hi hg, mr0_22 hc hi hg, mr0_23 hc hi hg, mr0_27_0 hc hi hg, mr0_27_1 hc hi hg, mr0_27_2 hc hi hg, mr0_27_3 hc hi hg, mr0_27_4 hc hi hg, mr0_27_5 hc hi hg, mr0_0 hc hi hg, mr0_9 hc hi hg, mr0_49 hc hi hg, mr0_send hc hi hg, mr0_Mo_enter_0 hc hi hg, mr0_Mo_ask_0 hc hi hg]; done)))
theorem mr0_Mo_write_0_j3 {c i k : Nat} (hc : c ≠ 0 ∧ c ≠ 4 ∧ c ≠ 5 ∧ c ≠ 6 ∧ c ≠ 7 ∧ c ≠ 8 ∧ c ≠ 9 ∧ c ≠ 49) (hi : ¬ (k = 0 ∧ 12 ≤ c ∧ c ≤ 23)) (hg : ¬ (c = 27 ∧ 0 ≤ k ∧ k < 6)) : ∀ (v : fw_V) (a2 : Int32) (x3 : Int32), mf_Mo_write_0_j3 v a2 x3 c i k = v c i k := by
  intro v a2 x3
  unfold mf_Mo_write_0_j3
  (try dsimp only)
  all_goals ((repeat' split) <;> (first | with_reducible rfl | (simp only [mr0_12 hc hi hg, mr0_13 hc hi hg, mr0_14 hc hi hg, mr0_15 hc hi hg, mr0_16 hc hi hg, mr0_17 hc hi hg, mr0_18 hc hi hg, mr0_19 hc hi hg, mr0_20 hc hi hg, mr0_21 hc hi hg, mr0_22 hc hi hg, mr0_23 hc hi hg, mr0_27_0 hc hi hg, mr0_27_1 hc hi hg, mr0_27_2 hc hi hg, mr0_27_3 hc hi hg, mr0_27_4 hc hi hg, mr0_27_5 hc hi hg, mr0_0 hc hi hg, mr0_9 hc hi hg, mr0_49 hc hi hg, mr0_send hc hi hg, mr0_Mo_enter_0 hc hi hg, mr0_Mo_ask_0 hc hi hg]; done)))
theorem mr0_Mo_write_0_j1 {c i k : Nat} (hc : c ≠ 0 ∧ c ≠ 4 ∧ c ≠ 5 ∧ c ≠ 6 ∧ c ≠ 7 ∧ c ≠ 8 ∧ c ≠ 9 ∧ c ≠ 49) (hi : ¬ (k = 0 ∧ 12 ≤ c ∧ c ≤ 23)) (hg : ¬ (c = 27 ∧ 0 ≤ k ∧ k < 6)) : ∀ (n : Nat) (v : fw_V) (a2 : Int32) (x3 : Int32), mf_Mo_write_0_j1 n v a2 x3 c i k = v c i k := by
  intro n
  induction n with
  | zero => intros; rfl
  | succ n ih =>
    intro v a2 x3
    unfold mf_Mo_write_0_j1
    (try dsimp only)
    all_goals ((repeat' split) <;> (first | with_reducible rfl | (simp only [ih, mr0_12 hc hi hg, mr0_13 hc hi hg, mr0_14 hc hi hg, mr0_15 hc hi hg, mr0_16 hc hi hg, mr0_17 hc hi hg, mr0_18 hc hi hg, mr0_19 hc hi hg, mr0_20 hc hi hg, mr0_21 hc hi hg, mr0_22 hc hi hg, mr0_23 hc hi hg, mr0_27_0 hc hi hg, mr0_27_1 hc hi hg, mr0_27_2 hc hi hg, mr0_27_3 hc hi hg, mr0_27_4 hc hi hg, mr0_27_5 hc hi hg, mr0_0 hc hi hg, mr0_9 hc hi hg, mr0_49 hc hi hg, mr0_send hc hi hg, mr0_Mo_write_0_j2 hc hi hg, mr0_Mo_write_0_j3 hc hi hg]; done)))
theorem mr0_Mo_write_0 {c i k : Nat} (hc : c ≠ 0 ∧ c ≠ 4 ∧ c ≠ 5 ∧ c ≠ 6 ∧ c ≠ 7 ∧ c ≠ 8 ∧ c ≠ 9 ∧ c ≠ 49) (hi : ¬ (k = 0 ∧ 12 ≤ c ∧ c ≤ 23)) (hg : ¬ (c = 27 ∧ 0 ≤ k ∧ k < 6)) : ∀ (v0 : fw_V) (a2 : Int32), mf_Mo_write_0 v0 a2 c i k = v0 c i k := by
  intro v0 a2
  unfold mf_Mo_write_0
  (try dsimp only)
  all_goals ((repeat' split) <;> (first | with_reducible rfl | (simp only [mr0_12 hc hi hg, mr0_13 hc hi hg, mr0_14 hc hi hg, mr0_15 hc hi hg, mr0_16 hc hi hg, mr0_17 hc hi hg, mr0_18 hc hi hg, mr0_19 hc hi hg, mr0_20 hc hi hg, mr0_21 hc hi hg, mr0_22 hc hi hg, mr0_23 hc hi hg, mr0_27_0 hc hi hg, mr0_27_1 hc hi hg, mr0_27_2 hc hi hg, mr0_27_3 hc hi hg, mr0_27_4 hc hi hg, mr0_27_5 hc hi hg, mr0_0 hc hi hg, mr0_9 hc hi hg, mr0_49 hc hi hg, mr0_send hc hi hg, mr0_Mo_write_0_j1 hc hi hg]; done)))
theorem mr0_Mo_tell_0_j2 {c i k : Nat} (hc : c ≠ 0 ∧ c ≠ 4 ∧ c ≠ 5 ∧ c ≠ 6 ∧ c ≠ 7 ∧ c ≠ 8 ∧ c ≠ 9 ∧ c ≠ 49) (hi : ¬ (k = 0 ∧ 12 ≤ c ∧ c ≤ 23)) (hg : ¬ (c = 27 ∧ 0 ≤ k ∧ k < 6)) : ∀ (v : fw_V) (a2 : Int32) (x3 : Int32) (x4 : Int32) (x90 : Int32), mf_Mo_tell_0_j2 v a2 x3 x4 x90 c i k = v c i k := by
  intro v a2 x3 x4 x90
  unfold mf_Mo_tell_0_j2
  (try dsimp only)
  all_goals ((repeat' split) <;> (first | with_reducible rfl | (simp only [mr0_12 hc hi hg, mr0_13 hc hi hg, mr0_14 hc hi hg, mr0_15 hc hi hg, mr0_16 hc hi hg, mr0_17 hc hi hg, mr0_18 hc hi hg, mr0_19 hc hi hg, mr0_20 hc hi hg, mr0_21 hc hi hg, mr0_22 hc hi hg, mr0_23 hc hi hg, mr0_27_0 hc hi hg, mr0_27_1 hc hi hg, mr0_27_2 hc hi hg, mr0_27_3 hc hi hg, mr0_27_4 hc hi hg, mr0_27_5 hc hi hg, mr0_0 hc hi hg, mr0_9 hc hi hg, mr0_49 hc hi hg, mr0_send hc hi hg]; done)))
theorem mr0_Mo_tell_0_j1 {c i k : Nat} (hc : c ≠ 0 ∧ c ≠ 4 ∧ c ≠ 5 ∧ c ≠ 6 ∧ c ≠ 7 ∧ c ≠ 8 ∧ c ≠ 9 ∧ c ≠ 49) (hi : ¬ (k = 0 ∧ 12 ≤ c ∧ c ≤ 23)) (hg : ¬ (c = 27 ∧ 0 ≤ k ∧ k < 6)) : ∀ (v : fw_V) (a2 : Int32) (x3 : Int32) (x4 : Int32), mf_Mo_tell_0_j1 v a2 x3 x4 c i k = v c i k := by
  intro v a2 x3 x4
  unfold mf_Mo_tell_0_j1
  (try dsimp only)
  all_goals ((repeat' split) <;> (first | with_reducible rfl | (simp only [mr0_12 hc hi hg, mr0_13 hc hi hg, mr0_14 hc hi hg, mr0_15 hc hi hg, mr0_16 hc hi hg, mr0_17 hc hi hg, mr0_18 hc hi hg, mr0_19 hc hi hg, mr0_20 hc hi hg, mr0_21 hc hi hg, mr0_22 hc hi hg, mr0_23 hc hi hg, mr0_27_0 hc hi hg, mr0_27_1 hc hi hg, mr0_27_2 hc hi hg, mr0_27_3 hc hi hg, mr0_27_4 hc hi hg, mr0_27_5 hc hi hg, mr0_0 hc hi hg, mr0_9 hc hi hg, mr0_49 hc hi hg, mr0_send hc hi hg, mr0_Mo_tell_0_j2 hc hi hg]; done)))
theorem mr0_Mo_tell_0 {c i k : Nat} (hc : c ≠ 0 ∧ c ≠ 4 ∧ c ≠ 5 ∧ c ≠ 6 ∧ c ≠ 7 ∧ c ≠ 8 ∧ c ≠ 9 ∧ c ≠ 49) (hi : ¬ (k = 0 ∧ 12 ≤ c ∧ c ≤ 23)) (hg : ¬ (c = 27 ∧ 0 ≤ k ∧ k < 6)) : ∀ (v0 : fw_V) (a2 : Int32), mf_Mo_tell_0 v0 a2 c i k = v0 c i k := by
  intro v0 a2
  unfold mf_Mo_tell_0
  (try dsimp only)
  all_goals ((repeat' split) <;> (first | with_reducible rfl | (simp only [mr0_12 hc hi hg, mr0_13 hc hi hg, mr0_14 hc hi hg, mr0_15 hc hi hg, mr0_16 hc hi hg, mr0_17 hc hi hg, mr0_18 hc hi hg, mr0_19 hc hi hg, mr0_20 hc hi hg, mr0_21 hc hi hg, mr0_22 hc hi hg, mr0_23 hc hi hg, mr0_27_0 hc hi hg, mr0_27_1 hc hi hg, mr0_27_2 hc hi hg, mr0_27_3 hc hi hg, mr0_27_4 hc hi hg, mr0_27_5 hc hi hg, mr0_0 hc hi hg, mr0_9 hc hi hg, mr0_49 hc hi hg, mr0_send hc hi hg, mr0_Mo_tell_0_j1 hc hi hg, mr0_Mo_tell_0_j2 hc hi hg]; done)))
theorem mr0_Mo_hears_0_j6 {c i k : Nat} (hc : c ≠ 0 ∧ c ≠ 4 ∧ c ≠ 5 ∧ c ≠ 6 ∧ c ≠ 7 ∧ c ≠ 8 ∧ c ≠ 9 ∧ c ≠ 49) (hi : ¬ (k = 0 ∧ 12 ≤ c ∧ c ≤ 23)) (hg : ¬ (c = 27 ∧ 0 ≤ k ∧ k < 6)) : ∀ (v0 : fw_V) (a2 : Int32) (a3 : Int32), mf_Mo_hears_0_j6 v0 a2 a3 c i k = v0 c i k := by
  intro v0 a2 a3
  unfold mf_Mo_hears_0_j6
  (try dsimp only)
  all_goals ((repeat' split) <;> (first | with_reducible rfl | (simp only [mr0_12 hc hi hg, mr0_13 hc hi hg, mr0_14 hc hi hg, mr0_15 hc hi hg, mr0_16 hc hi hg, mr0_17 hc hi hg, mr0_18 hc hi hg, mr0_19 hc hi hg, mr0_20 hc hi hg, mr0_21 hc hi hg, mr0_22 hc hi hg, mr0_23 hc hi hg, mr0_27_0 hc hi hg, mr0_27_1 hc hi hg, mr0_27_2 hc hi hg, mr0_27_3 hc hi hg, mr0_27_4 hc hi hg, mr0_27_5 hc hi hg, mr0_0 hc hi hg, mr0_9 hc hi hg, mr0_49 hc hi hg, mr0_send hc hi hg, mr0_send hc hi hg, mr0_Mo_tell_0 hc hi hg, mr0_Mo_shut_0 hc hi hg]; done)))
theorem mr0_Mo_hears_0_j5 {c i k : Nat} (hc : c ≠ 0 ∧ c ≠ 4 ∧ c ≠ 5 ∧ c ≠ 6 ∧ c ≠ 7 ∧ c ≠ 8 ∧ c ≠ 9 ∧ c ≠ 49) (hi : ¬ (k = 0 ∧ 12 ≤ c ∧ c ≤ 23)) (hg : ¬ (c = 27 ∧ 0 ≤ k ∧ k < 6)) : ∀ (v0 : fw_V) (a2 : Int32) (a3 : Int32), mf_Mo_hears_0_j5 v0 a2 a3 c i k = v0 c i k := by
  intro v0 a2 a3
  unfold mf_Mo_hears_0_j5
  (try dsimp only)
  all_goals ((repeat' split) <;> (first | with_reducible rfl | (simp only [mr0_12 hc hi hg, mr0_13 hc hi hg, mr0_14 hc hi hg, mr0_15 hc hi hg, mr0_16 hc hi hg, mr0_17 hc hi hg, mr0_18 hc hi hg, mr0_19 hc hi hg, mr0_20 hc hi hg, mr0_21 hc hi hg, mr0_22 hc hi hg, mr0_23 hc hi hg, mr0_27_0 hc hi hg, mr0_27_1 hc hi hg, mr0_27_2 hc hi hg, mr0_27_3 hc hi hg, mr0_27_4 hc hi hg, mr0_27_5 hc hi hg, mr0_0 hc hi hg, mr0_9 hc hi hg, mr0_49 hc hi hg, mr0_send hc hi hg, mr0_Mo_hears_0_j6 hc hi hg]; done)))
theorem mr0_Mo_hears_0_j4 {c i k : Nat} (hc : c ≠ 0 ∧ c ≠ 4 ∧ c ≠ 5 ∧ c ≠ 6 ∧ c ≠ 7 ∧ c ≠ 8 ∧ c ≠ 9 ∧ c ≠ 49) (hi : ¬ (k = 0 ∧ 12 ≤ c ∧ c ≤ 23)) (hg : ¬ (c = 27 ∧ 0 ≤ k ∧ k < 6)) : ∀ (v0 : fw_V) (a2 : Int32) (a3 : Int32), mf_Mo_hears_0_j4 v0 a2 a3 c i k = v0 c i k := by
  intro v0 a2 a3
  unfold mf_Mo_hears_0_j4
  (try dsimp only)
  all_goals ((repeat' split) <;> (first | with_reducible rfl | (simp only [mr0_12 hc hi hg, mr0_13 hc hi hg, mr0_14 hc hi hg, mr0_15 hc hi hg, mr0_16 hc hi hg, mr0_17 hc hi hg, mr0_18 hc hi hg, mr0_19 hc hi hg, mr0_20 hc hi hg, mr0_21 hc hi hg, mr0_22 hc hi hg, mr0_23 hc hi hg, mr0_27_0 hc hi hg, mr0_27_1 hc hi hg, mr0_27_2 hc hi hg, mr0_27_3 hc hi hg, mr0_27_4 hc hi hg, mr0_27_5 hc hi hg, mr0_0 hc hi hg, mr0_9 hc hi hg, mr0_49 hc hi hg, mr0_send hc hi hg, mr0_Mo_hears_0_j5 hc hi hg, mr0_send hc hi hg, mr0_Mo_enter_0 hc hi hg]; done)))
theorem mr0_Mo_hears_0_j3 {c i k : Nat} (hc : c ≠ 0 ∧ c ≠ 4 ∧ c ≠ 5 ∧ c ≠ 6 ∧ c ≠ 7 ∧ c ≠ 8 ∧ c ≠ 9 ∧ c ≠ 49) (hi : ¬ (k = 0 ∧ 12 ≤ c ∧ c ≤ 23)) (hg : ¬ (c = 27 ∧ 0 ≤ k ∧ k < 6)) : ∀ (v0 : fw_V) (a2 : Int32) (a3 : Int32), mf_Mo_hears_0_j3 v0 a2 a3 c i k = v0 c i k := by
  intro v0 a2 a3
  unfold mf_Mo_hears_0_j3
  (try dsimp only)
  all_goals ((repeat' split) <;> (first | with_reducible rfl | (simp only [mr0_12 hc hi hg, mr0_13 hc hi hg, mr0_14 hc hi hg, mr0_15 hc hi hg, mr0_16 hc hi hg, mr0_17 hc hi hg, mr0_18 hc hi hg, mr0_19 hc hi hg, mr0_20 hc hi hg, mr0_21 hc hi hg, mr0_22 hc hi hg, mr0_23 hc hi hg, mr0_27_0 hc hi hg, mr0_27_1 hc hi hg, mr0_27_2 hc hi hg, mr0_27_3 hc hi hg, mr0_27_4 hc hi hg, mr0_27_5 hc hi hg, mr0_0 hc hi hg, mr0_9 hc hi hg, mr0_49 hc hi hg, mr0_send hc hi hg, mr0_Mo_enter_0 hc hi hg, mr0_Mo_hears_0_j4 hc hi hg]; done)))
theorem mr0_Mo_hears_0_j2 {c i k : Nat} (hc : c ≠ 0 ∧ c ≠ 4 ∧ c ≠ 5 ∧ c ≠ 6 ∧ c ≠ 7 ∧ c ≠ 8 ∧ c ≠ 9 ∧ c ≠ 49) (hi : ¬ (k = 0 ∧ 12 ≤ c ∧ c ≤ 23)) (hg : ¬ (c = 27 ∧ 0 ≤ k ∧ k < 6)) : ∀ (v0 : fw_V) (a2 : Int32) (a3 : Int32), mf_Mo_hears_0_j2 v0 a2 a3 c i k = v0 c i k := by
  intro v0 a2 a3
  unfold mf_Mo_hears_0_j2
  (try dsimp only)
  all_goals ((repeat' split) <;> (first | with_reducible rfl | (simp only [mr0_12 hc hi hg, mr0_13 hc hi hg, mr0_14 hc hi hg, mr0_15 hc hi hg, mr0_16 hc hi hg, mr0_17 hc hi hg, mr0_18 hc hi hg, mr0_19 hc hi hg, mr0_20 hc hi hg, mr0_21 hc hi hg, mr0_22 hc hi hg, mr0_23 hc hi hg, mr0_27_0 hc hi hg, mr0_27_1 hc hi hg, mr0_27_2 hc hi hg, mr0_27_3 hc hi hg, mr0_27_4 hc hi hg, mr0_27_5 hc hi hg, mr0_0 hc hi hg, mr0_9 hc hi hg, mr0_49 hc hi hg, mr0_send hc hi hg, mr0_Mo_write_0 hc hi hg, mr0_Mo_hears_0_j3 hc hi hg]; done)))
theorem mr0_Mo_hears_0_j1 {c i k : Nat} (hc : c ≠ 0 ∧ c ≠ 4 ∧ c ≠ 5 ∧ c ≠ 6 ∧ c ≠ 7 ∧ c ≠ 8 ∧ c ≠ 9 ∧ c ≠ 49) (hi : ¬ (k = 0 ∧ 12 ≤ c ∧ c ≤ 23)) (hg : ¬ (c = 27 ∧ 0 ≤ k ∧ k < 6)) : ∀ (v0 : fw_V) (a2 : Int32) (a3 : Int32), mf_Mo_hears_0_j1 v0 a2 a3 c i k = v0 c i k := by
  intro v0 a2 a3
  unfold mf_Mo_hears_0_j1
  (try dsimp only)
  all_goals ((repeat' split) <;> (first | with_reducible rfl | (simp only [mr0_12 hc hi hg, mr0_13 hc hi hg, mr0_14 hc hi hg, mr0_15 hc hi hg, mr0_16 hc hi hg, mr0_17 hc hi hg, mr0_18 hc hi hg, mr0_19 hc hi hg, mr0_20 hc hi hg, mr0_21 hc hi hg, mr0_22 hc hi hg, mr0_23 hc hi hg, mr0_27_0 hc hi hg, mr0_27_1 hc hi hg, mr0_27_2 hc hi hg, mr0_27_3 hc hi hg, mr0_27_4 hc hi hg, mr0_27_5 hc hi hg, mr0_0 hc hi hg, mr0_9 hc hi hg, mr0_49 hc hi hg, mr0_send hc hi hg, mr0_Mo_shut_0 hc hi hg, mr0_Mo_hears_0_j2 hc hi hg]; done)))
theorem mr0_Mo_hears_0 {c i k : Nat} (hc : c ≠ 0 ∧ c ≠ 4 ∧ c ≠ 5 ∧ c ≠ 6 ∧ c ≠ 7 ∧ c ≠ 8 ∧ c ≠ 9 ∧ c ≠ 49) (hi : ¬ (k = 0 ∧ 12 ≤ c ∧ c ≤ 23)) (hg : ¬ (c = 27 ∧ 0 ≤ k ∧ k < 6)) : ∀ (v0 : fw_V) (a2 : Int32) (a3 : Int32), mf_Mo_hears_0 v0 a2 a3 c i k = v0 c i k := by
  intro v0 a2 a3
  unfold mf_Mo_hears_0
  (try dsimp only)
  all_goals ((repeat' split) <;> (first | with_reducible rfl | (simp only [mr0_12 hc hi hg, mr0_13 hc hi hg, mr0_14 hc hi hg, mr0_15 hc hi hg, mr0_16 hc hi hg, mr0_17 hc hi hg, mr0_18 hc hi hg, mr0_19 hc hi hg, mr0_20 hc hi hg, mr0_21 hc hi hg, mr0_22 hc hi hg, mr0_23 hc hi hg, mr0_27_0 hc hi hg, mr0_27_1 hc hi hg, mr0_27_2 hc hi hg, mr0_27_3 hc hi hg, mr0_27_4 hc hi hg, mr0_27_5 hc hi hg, mr0_0 hc hi hg, mr0_9 hc hi hg, mr0_49 hc hi hg, mr0_send hc hi hg, mr0_Mo_write_0 hc hi hg, mr0_Mo_hears_0_j1 hc hi hg]; done)))
theorem mr0_Mo_beat_0_j25 {c i k : Nat} (hc : c ≠ 0 ∧ c ≠ 4 ∧ c ≠ 5 ∧ c ≠ 6 ∧ c ≠ 7 ∧ c ≠ 8 ∧ c ≠ 9 ∧ c ≠ 49) (hi : ¬ (k = 0 ∧ 12 ≤ c ∧ c ≤ 23)) (hg : ¬ (c = 27 ∧ 0 ≤ k ∧ k < 6)) : ∀ (v : fw_V), mf_Mo_beat_0_j25 v c i k = v c i k := by
  intro v
  unfold mf_Mo_beat_0_j25
  (try dsimp only)
  all_goals ((repeat' split) <;> (first | with_reducible rfl | (simp only [mr0_12 hc hi hg, mr0_13 hc hi hg, mr0_14 hc hi hg, mr0_15 hc hi hg, mr0_16 hc hi hg, mr0_17 hc hi hg, mr0_18 hc hi hg, mr0_19 hc hi hg, mr0_20 hc hi hg, mr0_21 hc hi hg, mr0_22 hc hi hg, mr0_23 hc hi hg, mr0_27_0 hc hi hg, mr0_27_1 hc hi hg, mr0_27_2 hc hi hg, mr0_27_3 hc hi hg, mr0_27_4 hc hi hg, mr0_27_5 hc hi hg, mr0_0 hc hi hg, mr0_9 hc hi hg, mr0_49 hc hi hg, mr0_send hc hi hg, mr0_send hc hi hg]; done)))
theorem mr0_Mo_beat_0_j24 {c i k : Nat} (hc : c ≠ 0 ∧ c ≠ 4 ∧ c ≠ 5 ∧ c ≠ 6 ∧ c ≠ 7 ∧ c ≠ 8 ∧ c ≠ 9 ∧ c ≠ 49) (hi : ¬ (k = 0 ∧ 12 ≤ c ∧ c ≤ 23)) (hg : ¬ (c = 27 ∧ 0 ≤ k ∧ k < 6)) : ∀ (v : fw_V), mf_Mo_beat_0_j24 v c i k = v c i k := by
  intro v
  unfold mf_Mo_beat_0_j24
  (try dsimp only)
  all_goals ((repeat' split) <;> (first | with_reducible rfl | (simp only [mr0_12 hc hi hg, mr0_13 hc hi hg, mr0_14 hc hi hg, mr0_15 hc hi hg, mr0_16 hc hi hg, mr0_17 hc hi hg, mr0_18 hc hi hg, mr0_19 hc hi hg, mr0_20 hc hi hg, mr0_21 hc hi hg, mr0_22 hc hi hg, mr0_23 hc hi hg, mr0_27_0 hc hi hg, mr0_27_1 hc hi hg, mr0_27_2 hc hi hg, mr0_27_3 hc hi hg, mr0_27_4 hc hi hg, mr0_27_5 hc hi hg, mr0_0 hc hi hg, mr0_9 hc hi hg, mr0_49 hc hi hg, mr0_send hc hi hg, mr0_Mo_beat_0_j25 hc hi hg]; done)))
theorem mr0_Mo_beat_0_j23 {c i k : Nat} (hc : c ≠ 0 ∧ c ≠ 4 ∧ c ≠ 5 ∧ c ≠ 6 ∧ c ≠ 7 ∧ c ≠ 8 ∧ c ≠ 9 ∧ c ≠ 49) (hi : ¬ (k = 0 ∧ 12 ≤ c ∧ c ≤ 23)) (hg : ¬ (c = 27 ∧ 0 ≤ k ∧ k < 6)) : ∀ (v : fw_V), mf_Mo_beat_0_j23 v c i k = v c i k := by
  intro v
  unfold mf_Mo_beat_0_j23
  (try dsimp only)
  all_goals ((repeat' split) <;> (first | with_reducible rfl | (simp only [mr0_12 hc hi hg, mr0_13 hc hi hg, mr0_14 hc hi hg, mr0_15 hc hi hg, mr0_16 hc hi hg, mr0_17 hc hi hg, mr0_18 hc hi hg, mr0_19 hc hi hg, mr0_20 hc hi hg, mr0_21 hc hi hg, mr0_22 hc hi hg, mr0_23 hc hi hg, mr0_27_0 hc hi hg, mr0_27_1 hc hi hg, mr0_27_2 hc hi hg, mr0_27_3 hc hi hg, mr0_27_4 hc hi hg, mr0_27_5 hc hi hg, mr0_0 hc hi hg, mr0_9 hc hi hg, mr0_49 hc hi hg, mr0_send hc hi hg, mr0_Mo_beat_0_j24 hc hi hg]; done)))
theorem mr0_Mo_beat_0_j22 {c i k : Nat} (hc : c ≠ 0 ∧ c ≠ 4 ∧ c ≠ 5 ∧ c ≠ 6 ∧ c ≠ 7 ∧ c ≠ 8 ∧ c ≠ 9 ∧ c ≠ 49) (hi : ¬ (k = 0 ∧ 12 ≤ c ∧ c ≤ 23)) (hg : ¬ (c = 27 ∧ 0 ≤ k ∧ k < 6)) : ∀ (v : fw_V), mf_Mo_beat_0_j22 v c i k = v c i k := by
  intro v
  unfold mf_Mo_beat_0_j22
  (try dsimp only)
  all_goals ((repeat' split) <;> (first | with_reducible rfl | (simp only [mr0_12 hc hi hg, mr0_13 hc hi hg, mr0_14 hc hi hg, mr0_15 hc hi hg, mr0_16 hc hi hg, mr0_17 hc hi hg, mr0_18 hc hi hg, mr0_19 hc hi hg, mr0_20 hc hi hg, mr0_21 hc hi hg, mr0_22 hc hi hg, mr0_23 hc hi hg, mr0_27_0 hc hi hg, mr0_27_1 hc hi hg, mr0_27_2 hc hi hg, mr0_27_3 hc hi hg, mr0_27_4 hc hi hg, mr0_27_5 hc hi hg, mr0_0 hc hi hg, mr0_9 hc hi hg, mr0_49 hc hi hg, mr0_send hc hi hg, mr0_Mo_beat_0_j23 hc hi hg]; done)))
theorem mr0_Mo_beat_0_j27 {c i k : Nat} (hc : c ≠ 0 ∧ c ≠ 4 ∧ c ≠ 5 ∧ c ≠ 6 ∧ c ≠ 7 ∧ c ≠ 8 ∧ c ≠ 9 ∧ c ≠ 49) (hi : ¬ (k = 0 ∧ 12 ≤ c ∧ c ≤ 23)) (hg : ¬ (c = 27 ∧ 0 ≤ k ∧ k < 6)) : ∀ (v : fw_V) (x90 : Int32), mf_Mo_beat_0_j27 v x90 c i k = v c i k := by
  intro v x90
  unfold mf_Mo_beat_0_j27
  (try dsimp only)
  all_goals ((repeat' split) <;> (first | with_reducible rfl | (simp only [mr0_12 hc hi hg, mr0_13 hc hi hg, mr0_14 hc hi hg, mr0_15 hc hi hg, mr0_16 hc hi hg, mr0_17 hc hi hg, mr0_18 hc hi hg, mr0_19 hc hi hg, mr0_20 hc hi hg, mr0_21 hc hi hg, mr0_22 hc hi hg, mr0_23 hc hi hg, mr0_27_0 hc hi hg, mr0_27_1 hc hi hg, mr0_27_2 hc hi hg, mr0_27_3 hc hi hg, mr0_27_4 hc hi hg, mr0_27_5 hc hi hg, mr0_0 hc hi hg, mr0_9 hc hi hg, mr0_49 hc hi hg, mr0_send hc hi hg, mr0_Mo_beat_0_j25 hc hi hg]; done)))
theorem mr0_Mo_beat_0_j26 {c i k : Nat} (hc : c ≠ 0 ∧ c ≠ 4 ∧ c ≠ 5 ∧ c ≠ 6 ∧ c ≠ 7 ∧ c ≠ 8 ∧ c ≠ 9 ∧ c ≠ 49) (hi : ¬ (k = 0 ∧ 12 ≤ c ∧ c ≤ 23)) (hg : ¬ (c = 27 ∧ 0 ≤ k ∧ k < 6)) : ∀ (v : fw_V), mf_Mo_beat_0_j26 v c i k = v c i k := by
  intro v
  unfold mf_Mo_beat_0_j26
  (try dsimp only)
  all_goals ((repeat' split) <;> (first | with_reducible rfl | (simp only [mr0_12 hc hi hg, mr0_13 hc hi hg, mr0_14 hc hi hg, mr0_15 hc hi hg, mr0_16 hc hi hg, mr0_17 hc hi hg, mr0_18 hc hi hg, mr0_19 hc hi hg, mr0_20 hc hi hg, mr0_21 hc hi hg, mr0_22 hc hi hg, mr0_23 hc hi hg, mr0_27_0 hc hi hg, mr0_27_1 hc hi hg, mr0_27_2 hc hi hg, mr0_27_3 hc hi hg, mr0_27_4 hc hi hg, mr0_27_5 hc hi hg, mr0_0 hc hi hg, mr0_9 hc hi hg, mr0_49 hc hi hg, mr0_send hc hi hg, mr0_Mo_beat_0_j27 hc hi hg]; done)))
theorem mr0_Mo_beat_0_j21 {c i k : Nat} (hc : c ≠ 0 ∧ c ≠ 4 ∧ c ≠ 5 ∧ c ≠ 6 ∧ c ≠ 7 ∧ c ≠ 8 ∧ c ≠ 9 ∧ c ≠ 49) (hi : ¬ (k = 0 ∧ 12 ≤ c ∧ c ≤ 23)) (hg : ¬ (c = 27 ∧ 0 ≤ k ∧ k < 6)) : ∀ (v : fw_V), mf_Mo_beat_0_j21 v c i k = v c i k := by
  intro v
  unfold mf_Mo_beat_0_j21
  (try dsimp only)
  all_goals ((repeat' split) <;> (first | with_reducible rfl | (simp only [mr0_12 hc hi hg, mr0_13 hc hi hg, mr0_14 hc hi hg, mr0_15 hc hi hg, mr0_16 hc hi hg, mr0_17 hc hi hg, mr0_18 hc hi hg, mr0_19 hc hi hg, mr0_20 hc hi hg, mr0_21 hc hi hg, mr0_22 hc hi hg, mr0_23 hc hi hg, mr0_27_0 hc hi hg, mr0_27_1 hc hi hg, mr0_27_2 hc hi hg, mr0_27_3 hc hi hg, mr0_27_4 hc hi hg, mr0_27_5 hc hi hg, mr0_0 hc hi hg, mr0_9 hc hi hg, mr0_49 hc hi hg, mr0_send hc hi hg, mr0_Mo_beat_0_j22 hc hi hg, mr0_Mo_beat_0_j26 hc hi hg]; done)))
theorem mr0_Mo_beat_0_j20 {c i k : Nat} (hc : c ≠ 0 ∧ c ≠ 4 ∧ c ≠ 5 ∧ c ≠ 6 ∧ c ≠ 7 ∧ c ≠ 8 ∧ c ≠ 9 ∧ c ≠ 49) (hi : ¬ (k = 0 ∧ 12 ≤ c ∧ c ≤ 23)) (hg : ¬ (c = 27 ∧ 0 ≤ k ∧ k < 6)) : ∀ (v : fw_V), mf_Mo_beat_0_j20 v c i k = v c i k := by
  intro v
  unfold mf_Mo_beat_0_j20
  (try dsimp only)
  all_goals ((repeat' split) <;> (first | with_reducible rfl | (simp only [mr0_12 hc hi hg, mr0_13 hc hi hg, mr0_14 hc hi hg, mr0_15 hc hi hg, mr0_16 hc hi hg, mr0_17 hc hi hg, mr0_18 hc hi hg, mr0_19 hc hi hg, mr0_20 hc hi hg, mr0_21 hc hi hg, mr0_22 hc hi hg, mr0_23 hc hi hg, mr0_27_0 hc hi hg, mr0_27_1 hc hi hg, mr0_27_2 hc hi hg, mr0_27_3 hc hi hg, mr0_27_4 hc hi hg, mr0_27_5 hc hi hg, mr0_0 hc hi hg, mr0_9 hc hi hg, mr0_49 hc hi hg, mr0_send hc hi hg, mr0_Mo_beat_0_j21 hc hi hg]; done)))
theorem mr0_Mo_beat_0_j19 {c i k : Nat} (hc : c ≠ 0 ∧ c ≠ 4 ∧ c ≠ 5 ∧ c ≠ 6 ∧ c ≠ 7 ∧ c ≠ 8 ∧ c ≠ 9 ∧ c ≠ 49) (hi : ¬ (k = 0 ∧ 12 ≤ c ∧ c ≤ 23)) (hg : ¬ (c = 27 ∧ 0 ≤ k ∧ k < 6)) : ∀ (v : fw_V), mf_Mo_beat_0_j19 v c i k = v c i k := by
  intro v
  unfold mf_Mo_beat_0_j19
  (try dsimp only)
  all_goals ((repeat' split) <;> (first | with_reducible rfl | (simp only [mr0_12 hc hi hg, mr0_13 hc hi hg, mr0_14 hc hi hg, mr0_15 hc hi hg, mr0_16 hc hi hg, mr0_17 hc hi hg, mr0_18 hc hi hg, mr0_19 hc hi hg, mr0_20 hc hi hg, mr0_21 hc hi hg, mr0_22 hc hi hg, mr0_23 hc hi hg, mr0_27_0 hc hi hg, mr0_27_1 hc hi hg, mr0_27_2 hc hi hg, mr0_27_3 hc hi hg, mr0_27_4 hc hi hg, mr0_27_5 hc hi hg, mr0_0 hc hi hg, mr0_9 hc hi hg, mr0_49 hc hi hg, mr0_send hc hi hg, mr0_Mo_beat_0_j20 hc hi hg]; done)))
theorem mr0_Mo_beat_0_j18 {c i k : Nat} (hc : c ≠ 0 ∧ c ≠ 4 ∧ c ≠ 5 ∧ c ≠ 6 ∧ c ≠ 7 ∧ c ≠ 8 ∧ c ≠ 9 ∧ c ≠ 49) (hi : ¬ (k = 0 ∧ 12 ≤ c ∧ c ≤ 23)) (hg : ¬ (c = 27 ∧ 0 ≤ k ∧ k < 6)) : ∀ (v : fw_V), mf_Mo_beat_0_j18 v c i k = v c i k := by
  intro v
  unfold mf_Mo_beat_0_j18
  (try dsimp only)
  all_goals ((repeat' split) <;> (first | with_reducible rfl | (simp only [mr0_12 hc hi hg, mr0_13 hc hi hg, mr0_14 hc hi hg, mr0_15 hc hi hg, mr0_16 hc hi hg, mr0_17 hc hi hg, mr0_18 hc hi hg, mr0_19 hc hi hg, mr0_20 hc hi hg, mr0_21 hc hi hg, mr0_22 hc hi hg, mr0_23 hc hi hg, mr0_27_0 hc hi hg, mr0_27_1 hc hi hg, mr0_27_2 hc hi hg, mr0_27_3 hc hi hg, mr0_27_4 hc hi hg, mr0_27_5 hc hi hg, mr0_0 hc hi hg, mr0_9 hc hi hg, mr0_49 hc hi hg, mr0_send hc hi hg, mr0_Mo_beat_0_j19 hc hi hg]; done)))
theorem mr0_Mo_beat_0_j29 {c i k : Nat} (hc : c ≠ 0 ∧ c ≠ 4 ∧ c ≠ 5 ∧ c ≠ 6 ∧ c ≠ 7 ∧ c ≠ 8 ∧ c ≠ 9 ∧ c ≠ 49) (hi : ¬ (k = 0 ∧ 12 ≤ c ∧ c ≤ 23)) (hg : ¬ (c = 27 ∧ 0 ≤ k ∧ k < 6)) : ∀ (v : fw_V) (x90 : Int32), mf_Mo_beat_0_j29 v x90 c i k = v c i k := by
  intro v x90
  unfold mf_Mo_beat_0_j29
  (try dsimp only)
  all_goals ((repeat' split) <;> (first | with_reducible rfl | (simp only [mr0_12 hc hi hg, mr0_13 hc hi hg, mr0_14 hc hi hg, mr0_15 hc hi hg, mr0_16 hc hi hg, mr0_17 hc hi hg, mr0_18 hc hi hg, mr0_19 hc hi hg, mr0_20 hc hi hg, mr0_21 hc hi hg, mr0_22 hc hi hg, mr0_23 hc hi hg, mr0_27_0 hc hi hg, mr0_27_1 hc hi hg, mr0_27_2 hc hi hg, mr0_27_3 hc hi hg, mr0_27_4 hc hi hg, mr0_27_5 hc hi hg, mr0_0 hc hi hg, mr0_9 hc hi hg, mr0_49 hc hi hg, mr0_send hc hi hg, mr0_Mo_beat_0_j21 hc hi hg]; done)))
theorem mr0_Mo_beat_0_j28 {c i k : Nat} (hc : c ≠ 0 ∧ c ≠ 4 ∧ c ≠ 5 ∧ c ≠ 6 ∧ c ≠ 7 ∧ c ≠ 8 ∧ c ≠ 9 ∧ c ≠ 49) (hi : ¬ (k = 0 ∧ 12 ≤ c ∧ c ≤ 23)) (hg : ¬ (c = 27 ∧ 0 ≤ k ∧ k < 6)) : ∀ (v : fw_V), mf_Mo_beat_0_j28 v c i k = v c i k := by
  intro v
  unfold mf_Mo_beat_0_j28
  (try dsimp only)
  all_goals ((repeat' split) <;> (first | with_reducible rfl | (simp only [mr0_12 hc hi hg, mr0_13 hc hi hg, mr0_14 hc hi hg, mr0_15 hc hi hg, mr0_16 hc hi hg, mr0_17 hc hi hg, mr0_18 hc hi hg, mr0_19 hc hi hg, mr0_20 hc hi hg, mr0_21 hc hi hg, mr0_22 hc hi hg, mr0_23 hc hi hg, mr0_27_0 hc hi hg, mr0_27_1 hc hi hg, mr0_27_2 hc hi hg, mr0_27_3 hc hi hg, mr0_27_4 hc hi hg, mr0_27_5 hc hi hg, mr0_0 hc hi hg, mr0_9 hc hi hg, mr0_49 hc hi hg, mr0_send hc hi hg, mr0_Mo_beat_0_j29 hc hi hg]; done)))
theorem mr0_Mo_beat_0_j17 {c i k : Nat} (hc : c ≠ 0 ∧ c ≠ 4 ∧ c ≠ 5 ∧ c ≠ 6 ∧ c ≠ 7 ∧ c ≠ 8 ∧ c ≠ 9 ∧ c ≠ 49) (hi : ¬ (k = 0 ∧ 12 ≤ c ∧ c ≤ 23)) (hg : ¬ (c = 27 ∧ 0 ≤ k ∧ k < 6)) : ∀ (v : fw_V), mf_Mo_beat_0_j17 v c i k = v c i k := by
  intro v
  unfold mf_Mo_beat_0_j17
  (try dsimp only)
  all_goals ((repeat' split) <;> (first | with_reducible rfl | (simp only [mr0_12 hc hi hg, mr0_13 hc hi hg, mr0_14 hc hi hg, mr0_15 hc hi hg, mr0_16 hc hi hg, mr0_17 hc hi hg, mr0_18 hc hi hg, mr0_19 hc hi hg, mr0_20 hc hi hg, mr0_21 hc hi hg, mr0_22 hc hi hg, mr0_23 hc hi hg, mr0_27_0 hc hi hg, mr0_27_1 hc hi hg, mr0_27_2 hc hi hg, mr0_27_3 hc hi hg, mr0_27_4 hc hi hg, mr0_27_5 hc hi hg, mr0_0 hc hi hg, mr0_9 hc hi hg, mr0_49 hc hi hg, mr0_send hc hi hg, mr0_Mo_beat_0_j18 hc hi hg, mr0_Mo_beat_0_j28 hc hi hg]; done)))
theorem mr0_Mo_beat_0_j16 {c i k : Nat} (hc : c ≠ 0 ∧ c ≠ 4 ∧ c ≠ 5 ∧ c ≠ 6 ∧ c ≠ 7 ∧ c ≠ 8 ∧ c ≠ 9 ∧ c ≠ 49) (hi : ¬ (k = 0 ∧ 12 ≤ c ∧ c ≤ 23)) (hg : ¬ (c = 27 ∧ 0 ≤ k ∧ k < 6)) : ∀ (v : fw_V), mf_Mo_beat_0_j16 v c i k = v c i k := by
  intro v
  unfold mf_Mo_beat_0_j16
  (try dsimp only)
  all_goals ((repeat' split) <;> (first | with_reducible rfl | (simp only [mr0_12 hc hi hg, mr0_13 hc hi hg, mr0_14 hc hi hg, mr0_15 hc hi hg, mr0_16 hc hi hg, mr0_17 hc hi hg, mr0_18 hc hi hg, mr0_19 hc hi hg, mr0_20 hc hi hg, mr0_21 hc hi hg, mr0_22 hc hi hg, mr0_23 hc hi hg, mr0_27_0 hc hi hg, mr0_27_1 hc hi hg, mr0_27_2 hc hi hg, mr0_27_3 hc hi hg, mr0_27_4 hc hi hg, mr0_27_5 hc hi hg, mr0_0 hc hi hg, mr0_9 hc hi hg, mr0_49 hc hi hg, mr0_send hc hi hg, mr0_Mo_beat_0_j17 hc hi hg]; done)))
theorem mr0_Mo_beat_0_j15 {c i k : Nat} (hc : c ≠ 0 ∧ c ≠ 4 ∧ c ≠ 5 ∧ c ≠ 6 ∧ c ≠ 7 ∧ c ≠ 8 ∧ c ≠ 9 ∧ c ≠ 49) (hi : ¬ (k = 0 ∧ 12 ≤ c ∧ c ≤ 23)) (hg : ¬ (c = 27 ∧ 0 ≤ k ∧ k < 6)) : ∀ (v : fw_V), mf_Mo_beat_0_j15 v c i k = v c i k := by
  intro v
  unfold mf_Mo_beat_0_j15
  (try dsimp only)
  all_goals ((repeat' split) <;> (first | with_reducible rfl | (simp only [mr0_12 hc hi hg, mr0_13 hc hi hg, mr0_14 hc hi hg, mr0_15 hc hi hg, mr0_16 hc hi hg, mr0_17 hc hi hg, mr0_18 hc hi hg, mr0_19 hc hi hg, mr0_20 hc hi hg, mr0_21 hc hi hg, mr0_22 hc hi hg, mr0_23 hc hi hg, mr0_27_0 hc hi hg, mr0_27_1 hc hi hg, mr0_27_2 hc hi hg, mr0_27_3 hc hi hg, mr0_27_4 hc hi hg, mr0_27_5 hc hi hg, mr0_0 hc hi hg, mr0_9 hc hi hg, mr0_49 hc hi hg, mr0_send hc hi hg, mr0_Mo_beat_0_j16 hc hi hg]; done)))
theorem mr0_Mo_beat_0_j14 {c i k : Nat} (hc : c ≠ 0 ∧ c ≠ 4 ∧ c ≠ 5 ∧ c ≠ 6 ∧ c ≠ 7 ∧ c ≠ 8 ∧ c ≠ 9 ∧ c ≠ 49) (hi : ¬ (k = 0 ∧ 12 ≤ c ∧ c ≤ 23)) (hg : ¬ (c = 27 ∧ 0 ≤ k ∧ k < 6)) : ∀ (v : fw_V), mf_Mo_beat_0_j14 v c i k = v c i k := by
  intro v
  unfold mf_Mo_beat_0_j14
  (try dsimp only)
  all_goals ((repeat' split) <;> (first | with_reducible rfl | (simp only [mr0_12 hc hi hg, mr0_13 hc hi hg, mr0_14 hc hi hg, mr0_15 hc hi hg, mr0_16 hc hi hg, mr0_17 hc hi hg, mr0_18 hc hi hg, mr0_19 hc hi hg, mr0_20 hc hi hg, mr0_21 hc hi hg, mr0_22 hc hi hg, mr0_23 hc hi hg, mr0_27_0 hc hi hg, mr0_27_1 hc hi hg, mr0_27_2 hc hi hg, mr0_27_3 hc hi hg, mr0_27_4 hc hi hg, mr0_27_5 hc hi hg, mr0_0 hc hi hg, mr0_9 hc hi hg, mr0_49 hc hi hg, mr0_send hc hi hg, mr0_Mo_beat_0_j15 hc hi hg]; done)))
theorem mr0_Mo_beat_0_j31 {c i k : Nat} (hc : c ≠ 0 ∧ c ≠ 4 ∧ c ≠ 5 ∧ c ≠ 6 ∧ c ≠ 7 ∧ c ≠ 8 ∧ c ≠ 9 ∧ c ≠ 49) (hi : ¬ (k = 0 ∧ 12 ≤ c ∧ c ≤ 23)) (hg : ¬ (c = 27 ∧ 0 ≤ k ∧ k < 6)) : ∀ (v : fw_V) (x90 : Int32), mf_Mo_beat_0_j31 v x90 c i k = v c i k := by
  intro v x90
  unfold mf_Mo_beat_0_j31
  (try dsimp only)
  all_goals ((repeat' split) <;> (first | with_reducible rfl | (simp only [mr0_12 hc hi hg, mr0_13 hc hi hg, mr0_14 hc hi hg, mr0_15 hc hi hg, mr0_16 hc hi hg, mr0_17 hc hi hg, mr0_18 hc hi hg, mr0_19 hc hi hg, mr0_20 hc hi hg, mr0_21 hc hi hg, mr0_22 hc hi hg, mr0_23 hc hi hg, mr0_27_0 hc hi hg, mr0_27_1 hc hi hg, mr0_27_2 hc hi hg, mr0_27_3 hc hi hg, mr0_27_4 hc hi hg, mr0_27_5 hc hi hg, mr0_0 hc hi hg, mr0_9 hc hi hg, mr0_49 hc hi hg, mr0_send hc hi hg, mr0_Mo_beat_0_j17 hc hi hg]; done)))
theorem mr0_Mo_beat_0_j30 {c i k : Nat} (hc : c ≠ 0 ∧ c ≠ 4 ∧ c ≠ 5 ∧ c ≠ 6 ∧ c ≠ 7 ∧ c ≠ 8 ∧ c ≠ 9 ∧ c ≠ 49) (hi : ¬ (k = 0 ∧ 12 ≤ c ∧ c ≤ 23)) (hg : ¬ (c = 27 ∧ 0 ≤ k ∧ k < 6)) : ∀ (v : fw_V), mf_Mo_beat_0_j30 v c i k = v c i k := by
  intro v
  unfold mf_Mo_beat_0_j30
  (try dsimp only)
  all_goals ((repeat' split) <;> (first | with_reducible rfl | (simp only [mr0_12 hc hi hg, mr0_13 hc hi hg, mr0_14 hc hi hg, mr0_15 hc hi hg, mr0_16 hc hi hg, mr0_17 hc hi hg, mr0_18 hc hi hg, mr0_19 hc hi hg, mr0_20 hc hi hg, mr0_21 hc hi hg, mr0_22 hc hi hg, mr0_23 hc hi hg, mr0_27_0 hc hi hg, mr0_27_1 hc hi hg, mr0_27_2 hc hi hg, mr0_27_3 hc hi hg, mr0_27_4 hc hi hg, mr0_27_5 hc hi hg, mr0_0 hc hi hg, mr0_9 hc hi hg, mr0_49 hc hi hg, mr0_send hc hi hg, mr0_Mo_beat_0_j31 hc hi hg]; done)))
theorem mr0_Mo_beat_0_j13 {c i k : Nat} (hc : c ≠ 0 ∧ c ≠ 4 ∧ c ≠ 5 ∧ c ≠ 6 ∧ c ≠ 7 ∧ c ≠ 8 ∧ c ≠ 9 ∧ c ≠ 49) (hi : ¬ (k = 0 ∧ 12 ≤ c ∧ c ≤ 23)) (hg : ¬ (c = 27 ∧ 0 ≤ k ∧ k < 6)) : ∀ (v : fw_V), mf_Mo_beat_0_j13 v c i k = v c i k := by
  intro v
  unfold mf_Mo_beat_0_j13
  (try dsimp only)
  all_goals ((repeat' split) <;> (first | with_reducible rfl | (simp only [mr0_12 hc hi hg, mr0_13 hc hi hg, mr0_14 hc hi hg, mr0_15 hc hi hg, mr0_16 hc hi hg, mr0_17 hc hi hg, mr0_18 hc hi hg, mr0_19 hc hi hg, mr0_20 hc hi hg, mr0_21 hc hi hg, mr0_22 hc hi hg, mr0_23 hc hi hg, mr0_27_0 hc hi hg, mr0_27_1 hc hi hg, mr0_27_2 hc hi hg, mr0_27_3 hc hi hg, mr0_27_4 hc hi hg, mr0_27_5 hc hi hg, mr0_0 hc hi hg, mr0_9 hc hi hg, mr0_49 hc hi hg, mr0_send hc hi hg, mr0_Mo_beat_0_j14 hc hi hg, mr0_Mo_beat_0_j30 hc hi hg]; done)))
theorem mr0_Mo_beat_0_j12 {c i k : Nat} (hc : c ≠ 0 ∧ c ≠ 4 ∧ c ≠ 5 ∧ c ≠ 6 ∧ c ≠ 7 ∧ c ≠ 8 ∧ c ≠ 9 ∧ c ≠ 49) (hi : ¬ (k = 0 ∧ 12 ≤ c ∧ c ≤ 23)) (hg : ¬ (c = 27 ∧ 0 ≤ k ∧ k < 6)) : ∀ (v : fw_V), mf_Mo_beat_0_j12 v c i k = v c i k := by
  intro v
  unfold mf_Mo_beat_0_j12
  (try dsimp only)
  all_goals ((repeat' split) <;> (first | with_reducible rfl | (simp only [mr0_12 hc hi hg, mr0_13 hc hi hg, mr0_14 hc hi hg, mr0_15 hc hi hg, mr0_16 hc hi hg, mr0_17 hc hi hg, mr0_18 hc hi hg, mr0_19 hc hi hg, mr0_20 hc hi hg, mr0_21 hc hi hg, mr0_22 hc hi hg, mr0_23 hc hi hg, mr0_27_0 hc hi hg, mr0_27_1 hc hi hg, mr0_27_2 hc hi hg, mr0_27_3 hc hi hg, mr0_27_4 hc hi hg, mr0_27_5 hc hi hg, mr0_0 hc hi hg, mr0_9 hc hi hg, mr0_49 hc hi hg, mr0_send hc hi hg, mr0_Mo_beat_0_j13 hc hi hg]; done)))
theorem mr0_Mo_beat_0_j11 {c i k : Nat} (hc : c ≠ 0 ∧ c ≠ 4 ∧ c ≠ 5 ∧ c ≠ 6 ∧ c ≠ 7 ∧ c ≠ 8 ∧ c ≠ 9 ∧ c ≠ 49) (hi : ¬ (k = 0 ∧ 12 ≤ c ∧ c ≤ 23)) (hg : ¬ (c = 27 ∧ 0 ≤ k ∧ k < 6)) : ∀ (v : fw_V), mf_Mo_beat_0_j11 v c i k = v c i k := by
  intro v
  unfold mf_Mo_beat_0_j11
  (try dsimp only)
  all_goals ((repeat' split) <;> (first | with_reducible rfl | (simp only [mr0_12 hc hi hg, mr0_13 hc hi hg, mr0_14 hc hi hg, mr0_15 hc hi hg, mr0_16 hc hi hg, mr0_17 hc hi hg, mr0_18 hc hi hg, mr0_19 hc hi hg, mr0_20 hc hi hg, mr0_21 hc hi hg, mr0_22 hc hi hg, mr0_23 hc hi hg, mr0_27_0 hc hi hg, mr0_27_1 hc hi hg, mr0_27_2 hc hi hg, mr0_27_3 hc hi hg, mr0_27_4 hc hi hg, mr0_27_5 hc hi hg, mr0_0 hc hi hg, mr0_9 hc hi hg, mr0_49 hc hi hg, mr0_send hc hi hg, mr0_Mo_beat_0_j12 hc hi hg]; done)))
theorem mr0_Mo_beat_0_j10 {c i k : Nat} (hc : c ≠ 0 ∧ c ≠ 4 ∧ c ≠ 5 ∧ c ≠ 6 ∧ c ≠ 7 ∧ c ≠ 8 ∧ c ≠ 9 ∧ c ≠ 49) (hi : ¬ (k = 0 ∧ 12 ≤ c ∧ c ≤ 23)) (hg : ¬ (c = 27 ∧ 0 ≤ k ∧ k < 6)) : ∀ (v : fw_V), mf_Mo_beat_0_j10 v c i k = v c i k := by
  intro v
  unfold mf_Mo_beat_0_j10
  (try dsimp only)
  all_goals ((repeat' split) <;> (first | with_reducible rfl | (simp only [mr0_12 hc hi hg, mr0_13 hc hi hg, mr0_14 hc hi hg, mr0_15 hc hi hg, mr0_16 hc hi hg, mr0_17 hc hi hg, mr0_18 hc hi hg, mr0_19 hc hi hg, mr0_20 hc hi hg, mr0_21 hc hi hg, mr0_22 hc hi hg, mr0_23 hc hi hg, mr0_27_0 hc hi hg, mr0_27_1 hc hi hg, mr0_27_2 hc hi hg, mr0_27_3 hc hi hg, mr0_27_4 hc hi hg, mr0_27_5 hc hi hg, mr0_0 hc hi hg, mr0_9 hc hi hg, mr0_49 hc hi hg, mr0_send hc hi hg, mr0_Mo_beat_0_j11 hc hi hg]; done)))
theorem mr0_Mo_beat_0_j33 {c i k : Nat} (hc : c ≠ 0 ∧ c ≠ 4 ∧ c ≠ 5 ∧ c ≠ 6 ∧ c ≠ 7 ∧ c ≠ 8 ∧ c ≠ 9 ∧ c ≠ 49) (hi : ¬ (k = 0 ∧ 12 ≤ c ∧ c ≤ 23)) (hg : ¬ (c = 27 ∧ 0 ≤ k ∧ k < 6)) : ∀ (v : fw_V) (x90 : Int32), mf_Mo_beat_0_j33 v x90 c i k = v c i k := by
  intro v x90
  unfold mf_Mo_beat_0_j33
  (try dsimp only)
  all_goals ((repeat' split) <;> (first | with_reducible rfl | (simp only [mr0_12 hc hi hg, mr0_13 hc hi hg, mr0_14 hc hi hg, mr0_15 hc hi hg, mr0_16 hc hi hg, mr0_17 hc hi hg, mr0_18 hc hi hg, mr0_19 hc hi hg, mr0_20 hc hi hg, mr0_21 hc hi hg, mr0_22 hc hi hg, mr0_23 hc hi hg, mr0_27_0 hc hi hg, mr0_27_1 hc hi hg, mr0_27_2 hc hi hg, mr0_27_3 hc hi hg, mr0_27_4 hc hi hg, mr0_27_5 hc hi hg, mr0_0 hc hi hg, mr0_9 hc hi hg, mr0_49 hc hi hg, mr0_send hc hi hg, mr0_Mo_beat_0_j13 hc hi hg]; done)))
theorem mr0_Mo_beat_0_j32 {c i k : Nat} (hc : c ≠ 0 ∧ c ≠ 4 ∧ c ≠ 5 ∧ c ≠ 6 ∧ c ≠ 7 ∧ c ≠ 8 ∧ c ≠ 9 ∧ c ≠ 49) (hi : ¬ (k = 0 ∧ 12 ≤ c ∧ c ≤ 23)) (hg : ¬ (c = 27 ∧ 0 ≤ k ∧ k < 6)) : ∀ (v : fw_V), mf_Mo_beat_0_j32 v c i k = v c i k := by
  intro v
  unfold mf_Mo_beat_0_j32
  (try dsimp only)
  all_goals ((repeat' split) <;> (first | with_reducible rfl | (simp only [mr0_12 hc hi hg, mr0_13 hc hi hg, mr0_14 hc hi hg, mr0_15 hc hi hg, mr0_16 hc hi hg, mr0_17 hc hi hg, mr0_18 hc hi hg, mr0_19 hc hi hg, mr0_20 hc hi hg, mr0_21 hc hi hg, mr0_22 hc hi hg, mr0_23 hc hi hg, mr0_27_0 hc hi hg, mr0_27_1 hc hi hg, mr0_27_2 hc hi hg, mr0_27_3 hc hi hg, mr0_27_4 hc hi hg, mr0_27_5 hc hi hg, mr0_0 hc hi hg, mr0_9 hc hi hg, mr0_49 hc hi hg, mr0_send hc hi hg, mr0_Mo_beat_0_j33 hc hi hg]; done)))
theorem mr0_Mo_beat_0_j9 {c i k : Nat} (hc : c ≠ 0 ∧ c ≠ 4 ∧ c ≠ 5 ∧ c ≠ 6 ∧ c ≠ 7 ∧ c ≠ 8 ∧ c ≠ 9 ∧ c ≠ 49) (hi : ¬ (k = 0 ∧ 12 ≤ c ∧ c ≤ 23)) (hg : ¬ (c = 27 ∧ 0 ≤ k ∧ k < 6)) : ∀ (v : fw_V), mf_Mo_beat_0_j9 v c i k = v c i k := by
  intro v
  unfold mf_Mo_beat_0_j9
  (try dsimp only)
  all_goals ((repeat' split) <;> (first | with_reducible rfl | (simp only [mr0_12 hc hi hg, mr0_13 hc hi hg, mr0_14 hc hi hg, mr0_15 hc hi hg, mr0_16 hc hi hg, mr0_17 hc hi hg, mr0_18 hc hi hg, mr0_19 hc hi hg, mr0_20 hc hi hg, mr0_21 hc hi hg, mr0_22 hc hi hg, mr0_23 hc hi hg, mr0_27_0 hc hi hg, mr0_27_1 hc hi hg, mr0_27_2 hc hi hg, mr0_27_3 hc hi hg, mr0_27_4 hc hi hg, mr0_27_5 hc hi hg, mr0_0 hc hi hg, mr0_9 hc hi hg, mr0_49 hc hi hg, mr0_send hc hi hg, mr0_Mo_beat_0_j10 hc hi hg, mr0_Mo_beat_0_j32 hc hi hg]; done)))
theorem mr0_Mo_beat_0_j8 {c i k : Nat} (hc : c ≠ 0 ∧ c ≠ 4 ∧ c ≠ 5 ∧ c ≠ 6 ∧ c ≠ 7 ∧ c ≠ 8 ∧ c ≠ 9 ∧ c ≠ 49) (hi : ¬ (k = 0 ∧ 12 ≤ c ∧ c ≤ 23)) (hg : ¬ (c = 27 ∧ 0 ≤ k ∧ k < 6)) : ∀ (v : fw_V), mf_Mo_beat_0_j8 v c i k = v c i k := by
  intro v
  unfold mf_Mo_beat_0_j8
  (try dsimp only)
  all_goals ((repeat' split) <;> (first | with_reducible rfl | (simp only [mr0_12 hc hi hg, mr0_13 hc hi hg, mr0_14 hc hi hg, mr0_15 hc hi hg, mr0_16 hc hi hg, mr0_17 hc hi hg, mr0_18 hc hi hg, mr0_19 hc hi hg, mr0_20 hc hi hg, mr0_21 hc hi hg, mr0_22 hc hi hg, mr0_23 hc hi hg, mr0_27_0 hc hi hg, mr0_27_1 hc hi hg, mr0_27_2 hc hi hg, mr0_27_3 hc hi hg, mr0_27_4 hc hi hg, mr0_27_5 hc hi hg, mr0_0 hc hi hg, mr0_9 hc hi hg, mr0_49 hc hi hg, mr0_send hc hi hg, mr0_Mo_beat_0_j9 hc hi hg]; done)))
theorem mr0_Mo_beat_0_j7 {c i k : Nat} (hc : c ≠ 0 ∧ c ≠ 4 ∧ c ≠ 5 ∧ c ≠ 6 ∧ c ≠ 7 ∧ c ≠ 8 ∧ c ≠ 9 ∧ c ≠ 49) (hi : ¬ (k = 0 ∧ 12 ≤ c ∧ c ≤ 23)) (hg : ¬ (c = 27 ∧ 0 ≤ k ∧ k < 6)) : ∀ (v : fw_V), mf_Mo_beat_0_j7 v c i k = v c i k := by
  intro v
  unfold mf_Mo_beat_0_j7
  (try dsimp only)
  all_goals ((repeat' split) <;> (first | with_reducible rfl | (simp only [mr0_12 hc hi hg, mr0_13 hc hi hg, mr0_14 hc hi hg, mr0_15 hc hi hg, mr0_16 hc hi hg, mr0_17 hc hi hg, mr0_18 hc hi hg, mr0_19 hc hi hg, mr0_20 hc hi hg, mr0_21 hc hi hg, mr0_22 hc hi hg, mr0_23 hc hi hg, mr0_27_0 hc hi hg, mr0_27_1 hc hi hg, mr0_27_2 hc hi hg, mr0_27_3 hc hi hg, mr0_27_4 hc hi hg, mr0_27_5 hc hi hg, mr0_0 hc hi hg, mr0_9 hc hi hg, mr0_49 hc hi hg, mr0_send hc hi hg, mr0_Mo_beat_0_j8 hc hi hg]; done)))
theorem mr0_Mo_beat_0_j6 {c i k : Nat} (hc : c ≠ 0 ∧ c ≠ 4 ∧ c ≠ 5 ∧ c ≠ 6 ∧ c ≠ 7 ∧ c ≠ 8 ∧ c ≠ 9 ∧ c ≠ 49) (hi : ¬ (k = 0 ∧ 12 ≤ c ∧ c ≤ 23)) (hg : ¬ (c = 27 ∧ 0 ≤ k ∧ k < 6)) : ∀ (v : fw_V), mf_Mo_beat_0_j6 v c i k = v c i k := by
  intro v
  unfold mf_Mo_beat_0_j6
  (try dsimp only)
  all_goals ((repeat' split) <;> (first | with_reducible rfl | (simp only [mr0_12 hc hi hg, mr0_13 hc hi hg, mr0_14 hc hi hg, mr0_15 hc hi hg, mr0_16 hc hi hg, mr0_17 hc hi hg, mr0_18 hc hi hg, mr0_19 hc hi hg, mr0_20 hc hi hg, mr0_21 hc hi hg, mr0_22 hc hi hg, mr0_23 hc hi hg, mr0_27_0 hc hi hg, mr0_27_1 hc hi hg, mr0_27_2 hc hi hg, mr0_27_3 hc hi hg, mr0_27_4 hc hi hg, mr0_27_5 hc hi hg, mr0_0 hc hi hg, mr0_9 hc hi hg, mr0_49 hc hi hg, mr0_send hc hi hg, mr0_Mo_beat_0_j7 hc hi hg]; done)))
theorem mr0_Mo_beat_0_j35 {c i k : Nat} (hc : c ≠ 0 ∧ c ≠ 4 ∧ c ≠ 5 ∧ c ≠ 6 ∧ c ≠ 7 ∧ c ≠ 8 ∧ c ≠ 9 ∧ c ≠ 49) (hi : ¬ (k = 0 ∧ 12 ≤ c ∧ c ≤ 23)) (hg : ¬ (c = 27 ∧ 0 ≤ k ∧ k < 6)) : ∀ (v : fw_V) (x90 : Int32), mf_Mo_beat_0_j35 v x90 c i k = v c i k := by
  intro v x90
  unfold mf_Mo_beat_0_j35
  (try dsimp only)
  all_goals ((repeat' split) <;> (first | with_reducible rfl | (simp only [mr0_12 hc hi hg, mr0_13 hc hi hg, mr0_14 hc hi hg, mr0_15 hc hi hg, mr0_16 hc hi hg, mr0_17 hc hi hg, mr0_18 hc hi hg, mr0_19 hc hi hg, mr0_20 hc hi hg, mr0_21 hc hi hg, mr0_22 hc hi hg, mr0_23 hc hi hg, mr0_27_0 hc hi hg, mr0_27_1 hc hi hg, mr0_27_2 hc hi hg, mr0_27_3 hc hi hg, mr0_27_4 hc hi hg, mr0_27_5 hc hi hg, mr0_0 hc hi hg, mr0_9 hc hi hg, mr0_49 hc hi hg, mr0_send hc hi hg, mr0_Mo_beat_0_j9 hc hi hg]; done)))
theorem mr0_Mo_beat_0_j34 {c i k : Nat} (hc : c ≠ 0 ∧ c ≠ 4 ∧ c ≠ 5 ∧ c ≠ 6 ∧ c ≠ 7 ∧ c ≠ 8 ∧ c ≠ 9 ∧ c ≠ 49) (hi : ¬ (k = 0 ∧ 12 ≤ c ∧ c ≤ 23)) (hg : ¬ (c = 27 ∧ 0 ≤ k ∧ k < 6)) : ∀ (v : fw_V), mf_Mo_beat_0_j34 v c i k = v c i k := by
  intro v
  unfold mf_Mo_beat_0_j34
  (try dsimp only)
  all_goals ((repeat' split) <;> (first | with_reducible rfl | (simp only [mr0_12 hc hi hg, mr0_13 hc hi hg, mr0_14 hc hi hg, mr0_15 hc hi hg, mr0_16 hc hi hg, mr0_17 hc hi hg, mr0_18 hc hi hg, mr0_19 hc hi hg, mr0_20 hc hi hg, mr0_21 hc hi hg, mr0_22 hc hi hg, mr0_23 hc hi hg, mr0_27_0 hc hi hg, mr0_27_1 hc hi hg, mr0_27_2 hc hi hg, mr0_27_3 hc hi hg, mr0_27_4 hc hi hg, mr0_27_5 hc hi hg, mr0_0 hc hi hg, mr0_9 hc hi hg, mr0_49 hc hi hg, mr0_send hc hi hg, mr0_Mo_beat_0_j35 hc hi hg]; done)))
theorem mr0_Mo_beat_0_j5 {c i k : Nat} (hc : c ≠ 0 ∧ c ≠ 4 ∧ c ≠ 5 ∧ c ≠ 6 ∧ c ≠ 7 ∧ c ≠ 8 ∧ c ≠ 9 ∧ c ≠ 49) (hi : ¬ (k = 0 ∧ 12 ≤ c ∧ c ≤ 23)) (hg : ¬ (c = 27 ∧ 0 ≤ k ∧ k < 6)) : ∀ (v : fw_V), mf_Mo_beat_0_j5 v c i k = v c i k := by
  intro v
  unfold mf_Mo_beat_0_j5
  (try dsimp only)
  all_goals ((repeat' split) <;> (first | with_reducible rfl | (simp only [mr0_12 hc hi hg, mr0_13 hc hi hg, mr0_14 hc hi hg, mr0_15 hc hi hg, mr0_16 hc hi hg, mr0_17 hc hi hg, mr0_18 hc hi hg, mr0_19 hc hi hg, mr0_20 hc hi hg, mr0_21 hc hi hg, mr0_22 hc hi hg, mr0_23 hc hi hg, mr0_27_0 hc hi hg, mr0_27_1 hc hi hg, mr0_27_2 hc hi hg, mr0_27_3 hc hi hg, mr0_27_4 hc hi hg, mr0_27_5 hc hi hg, mr0_0 hc hi hg, mr0_9 hc hi hg, mr0_49 hc hi hg, mr0_send hc hi hg, mr0_Mo_beat_0_j6 hc hi hg, mr0_Mo_beat_0_j34 hc hi hg]; done)))
theorem mr0_Mo_beat_0_j4 {c i k : Nat} (hc : c ≠ 0 ∧ c ≠ 4 ∧ c ≠ 5 ∧ c ≠ 6 ∧ c ≠ 7 ∧ c ≠ 8 ∧ c ≠ 9 ∧ c ≠ 49) (hi : ¬ (k = 0 ∧ 12 ≤ c ∧ c ≤ 23)) (hg : ¬ (c = 27 ∧ 0 ≤ k ∧ k < 6)) : ∀ (v : fw_V), mf_Mo_beat_0_j4 v c i k = v c i k := by
  intro v
  unfold mf_Mo_beat_0_j4
  (try dsimp only)
  all_goals ((repeat' split) <;> (first | with_reducible rfl | (simp only [mr0_12 hc hi hg, mr0_13 hc hi hg, mr0_14 hc hi hg, mr0_15 hc hi hg, mr0_16 hc hi hg, mr0_17 hc hi hg, mr0_18 hc hi hg, mr0_19 hc hi hg, mr0_20 hc hi hg, mr0_21 hc hi hg, mr0_22 hc hi hg, mr0_23 hc hi hg, mr0_27_0 hc hi hg, mr0_27_1 hc hi hg, mr0_27_2 hc hi hg, mr0_27_3 hc hi hg, mr0_27_4 hc hi hg, mr0_27_5 hc hi hg, mr0_0 hc hi hg, mr0_9 hc hi hg, mr0_49 hc hi hg, mr0_send hc hi hg, mr0_Mo_beat_0_j5 hc hi hg]; done)))
theorem mr0_Mo_beat_0_j3 {c i k : Nat} (hc : c ≠ 0 ∧ c ≠ 4 ∧ c ≠ 5 ∧ c ≠ 6 ∧ c ≠ 7 ∧ c ≠ 8 ∧ c ≠ 9 ∧ c ≠ 49) (hi : ¬ (k = 0 ∧ 12 ≤ c ∧ c ≤ 23)) (hg : ¬ (c = 27 ∧ 0 ≤ k ∧ k < 6)) : ∀ (v : fw_V), mf_Mo_beat_0_j3 v c i k = v c i k := by
  intro v
  unfold mf_Mo_beat_0_j3
  (try dsimp only)
  all_goals ((repeat' split) <;> (first | with_reducible rfl | (simp only [mr0_12 hc hi hg, mr0_13 hc hi hg, mr0_14 hc hi hg, mr0_15 hc hi hg, mr0_16 hc hi hg, mr0_17 hc hi hg, mr0_18 hc hi hg, mr0_19 hc hi hg, mr0_20 hc hi hg, mr0_21 hc hi hg, mr0_22 hc hi hg, mr0_23 hc hi hg, mr0_27_0 hc hi hg, mr0_27_1 hc hi hg, mr0_27_2 hc hi hg, mr0_27_3 hc hi hg, mr0_27_4 hc hi hg, mr0_27_5 hc hi hg, mr0_0 hc hi hg, mr0_9 hc hi hg, mr0_49 hc hi hg, mr0_send hc hi hg, mr0_Mo_beat_0_j4 hc hi hg]; done)))
theorem mr0_Mo_beat_0_j2 {c i k : Nat} (hc : c ≠ 0 ∧ c ≠ 4 ∧ c ≠ 5 ∧ c ≠ 6 ∧ c ≠ 7 ∧ c ≠ 8 ∧ c ≠ 9 ∧ c ≠ 49) (hi : ¬ (k = 0 ∧ 12 ≤ c ∧ c ≤ 23)) (hg : ¬ (c = 27 ∧ 0 ≤ k ∧ k < 6)) : ∀ (v : fw_V), mf_Mo_beat_0_j2 v c i k = v c i k := by
  intro v
  unfold mf_Mo_beat_0_j2
  (try dsimp only)
  all_goals ((repeat' split) <;> (first | with_reducible rfl | (simp only [mr0_12 hc hi hg, mr0_13 hc hi hg, mr0_14 hc hi hg, mr0_15 hc hi hg, mr0_16 hc hi hg, mr0_17 hc hi hg, mr0_18 hc hi hg, mr0_19 hc hi hg, mr0_20 hc hi hg, mr0_21 hc hi hg, mr0_22 hc hi hg, mr0_23 hc hi hg, mr0_27_0 hc hi hg, mr0_27_1 hc hi hg, mr0_27_2 hc hi hg, mr0_27_3 hc hi hg, mr0_27_4 hc hi hg, mr0_27_5 hc hi hg, mr0_0 hc hi hg, mr0_9 hc hi hg, mr0_49 hc hi hg, mr0_send hc hi hg, mr0_Mo_beat_0_j3 hc hi hg]; done)))
theorem mr0_Mo_beat_0_j37 {c i k : Nat} (hc : c ≠ 0 ∧ c ≠ 4 ∧ c ≠ 5 ∧ c ≠ 6 ∧ c ≠ 7 ∧ c ≠ 8 ∧ c ≠ 9 ∧ c ≠ 49) (hi : ¬ (k = 0 ∧ 12 ≤ c ∧ c ≤ 23)) (hg : ¬ (c = 27 ∧ 0 ≤ k ∧ k < 6)) : ∀ (v : fw_V) (x90 : Int32), mf_Mo_beat_0_j37 v x90 c i k = v c i k := by
  intro v x90
  unfold mf_Mo_beat_0_j37
  (try dsimp only)
  all_goals ((repeat' split) <;> (first | with_reducible rfl | (simp only [mr0_12 hc hi hg, mr0_13 hc hi hg, mr0_14 hc hi hg, mr0_15 hc hi hg, mr0_16 hc hi hg, mr0_17 hc hi hg, mr0_18 hc hi hg, mr0_19 hc hi hg, mr0_20 hc hi hg, mr0_21 hc hi hg, mr0_22 hc hi hg, mr0_23 hc hi hg, mr0_27_0 hc hi hg, mr0_27_1 hc hi hg, mr0_27_2 hc hi hg, mr0_27_3 hc hi hg, mr0_27_4 hc hi hg, mr0_27_5 hc hi hg, mr0_0 hc hi hg, mr0_9 hc hi hg, mr0_49 hc hi hg, mr0_send hc hi hg, mr0_Mo_beat_0_j5 hc hi hg]; done)))
theorem mr0_Mo_beat_0_j36 {c i k : Nat} (hc : c ≠ 0 ∧ c ≠ 4 ∧ c ≠ 5 ∧ c ≠ 6 ∧ c ≠ 7 ∧ c ≠ 8 ∧ c ≠ 9 ∧ c ≠ 49) (hi : ¬ (k = 0 ∧ 12 ≤ c ∧ c ≤ 23)) (hg : ¬ (c = 27 ∧ 0 ≤ k ∧ k < 6)) : ∀ (v : fw_V), mf_Mo_beat_0_j36 v c i k = v c i k := by
  intro v
  unfold mf_Mo_beat_0_j36
  (try dsimp only)
  all_goals ((repeat' split) <;> (first | with_reducible rfl | (simp only [mr0_12 hc hi hg, mr0_13 hc hi hg, mr0_14 hc hi hg, mr0_15 hc hi hg, mr0_16 hc hi hg, mr0_17 hc hi hg, mr0_18 hc hi hg, mr0_19 hc hi hg, mr0_20 hc hi hg, mr0_21 hc hi hg, mr0_22 hc hi hg, mr0_23 hc hi hg, mr0_27_0 hc hi hg, mr0_27_1 hc hi hg, mr0_27_2 hc hi hg, mr0_27_3 hc hi hg, mr0_27_4 hc hi hg, mr0_27_5 hc hi hg, mr0_0 hc hi hg, mr0_9 hc hi hg, mr0_49 hc hi hg, mr0_send hc hi hg, mr0_Mo_beat_0_j37 hc hi hg]; done)))
theorem mr0_Mo_beat_0_j1 {c i k : Nat} (hc : c ≠ 0 ∧ c ≠ 4 ∧ c ≠ 5 ∧ c ≠ 6 ∧ c ≠ 7 ∧ c ≠ 8 ∧ c ≠ 9 ∧ c ≠ 49) (hi : ¬ (k = 0 ∧ 12 ≤ c ∧ c ≤ 23)) (hg : ¬ (c = 27 ∧ 0 ≤ k ∧ k < 6)) : ∀ (v : fw_V), mf_Mo_beat_0_j1 v c i k = v c i k := by
  intro v
  unfold mf_Mo_beat_0_j1
  (try dsimp only)
  all_goals ((repeat' split) <;> (first | with_reducible rfl | (simp only [mr0_12 hc hi hg, mr0_13 hc hi hg, mr0_14 hc hi hg, mr0_15 hc hi hg, mr0_16 hc hi hg, mr0_17 hc hi hg, mr0_18 hc hi hg, mr0_19 hc hi hg, mr0_20 hc hi hg, mr0_21 hc hi hg, mr0_22 hc hi hg, mr0_23 hc hi hg, mr0_27_0 hc hi hg, mr0_27_1 hc hi hg, mr0_27_2 hc hi hg, mr0_27_3 hc hi hg, mr0_27_4 hc hi hg, mr0_27_5 hc hi hg, mr0_0 hc hi hg, mr0_9 hc hi hg, mr0_49 hc hi hg, mr0_send hc hi hg, mr0_Mo_beat_0_j2 hc hi hg, mr0_Mo_beat_0_j36 hc hi hg]; done)))
theorem mr0_Mo_beat_0 {c i k : Nat} (hc : c ≠ 0 ∧ c ≠ 4 ∧ c ≠ 5 ∧ c ≠ 6 ∧ c ≠ 7 ∧ c ≠ 8 ∧ c ≠ 9 ∧ c ≠ 49) (hi : ¬ (k = 0 ∧ 12 ≤ c ∧ c ≤ 23)) (hg : ¬ (c = 27 ∧ 0 ≤ k ∧ k < 6)) : ∀ (v0 : fw_V), mf_Mo_beat_0 v0 c i k = v0 c i k := by
  intro v0
  unfold mf_Mo_beat_0
  (try dsimp only)
  all_goals ((repeat' split) <;> (first | with_reducible rfl | (simp only [mr0_12 hc hi hg, mr0_13 hc hi hg, mr0_14 hc hi hg, mr0_15 hc hi hg, mr0_16 hc hi hg, mr0_17 hc hi hg, mr0_18 hc hi hg, mr0_19 hc hi hg, mr0_20 hc hi hg, mr0_21 hc hi hg, mr0_22 hc hi hg, mr0_23 hc hi hg, mr0_27_0 hc hi hg, mr0_27_1 hc hi hg, mr0_27_2 hc hi hg, mr0_27_3 hc hi hg, mr0_27_4 hc hi hg, mr0_27_5 hc hi hg, mr0_0 hc hi hg, mr0_9 hc hi hg, mr0_49 hc hi hg, mr0_send hc hi hg, mr0_Mo_breakOff_0 hc hi hg, mr0_Mo_beat_0_j1 hc hi hg, mr0_Mo_ask_0 hc hi hg]; done)))
theorem mr1_12 {c i k : Nat} (hc : c ≠ 0 ∧ c ≠ 4 ∧ c ≠ 5 ∧ c ≠ 6 ∧ c ≠ 7 ∧ c ≠ 8 ∧ c ≠ 9 ∧ c ≠ 49) (hi : ¬ (k = 1 ∧ 12 ≤ c ∧ c ≤ 23)) (hg : ¬ (c = 27 ∧ 6 ≤ k ∧ k < 12)) (v : fw_V) (x : Int32) : fw_up v 12 0 1 x c i k = v c i k := fw_up_ne (fun q => hi ⟨q.2.2, by omega, by omega⟩)
theorem mr1_13 {c i k : Nat} (hc : c ≠ 0 ∧ c ≠ 4 ∧ c ≠ 5 ∧ c ≠ 6 ∧ c ≠ 7 ∧ c ≠ 8 ∧ c ≠ 9 ∧ c ≠ 49) (hi : ¬ (k = 1 ∧ 12 ≤ c ∧ c ≤ 23)) (hg : ¬ (c = 27 ∧ 6 ≤ k ∧ k < 12)) (v : fw_V) (x : Int32) : fw_up v 13 0 1 x c i k = v c i k := fw_up_ne (fun q => hi ⟨q.2.2, by omega, by omega⟩)
theorem mr1_14 {c i k : Nat} (hc : c ≠ 0 ∧ c ≠ 4 ∧ c ≠ 5 ∧ c ≠ 6 ∧ c ≠ 7 ∧ c ≠ 8 ∧ c ≠ 9 ∧ c ≠ 49) (hi : ¬ (k = 1 ∧ 12 ≤ c ∧ c ≤ 23)) (hg : ¬ (c = 27 ∧ 6 ≤ k ∧ k < 12)) (v : fw_V) (x : Int32) : fw_up v 14 0 1 x c i k = v c i k := fw_up_ne (fun q => hi ⟨q.2.2, by omega, by omega⟩)
theorem mr1_15 {c i k : Nat} (hc : c ≠ 0 ∧ c ≠ 4 ∧ c ≠ 5 ∧ c ≠ 6 ∧ c ≠ 7 ∧ c ≠ 8 ∧ c ≠ 9 ∧ c ≠ 49) (hi : ¬ (k = 1 ∧ 12 ≤ c ∧ c ≤ 23)) (hg : ¬ (c = 27 ∧ 6 ≤ k ∧ k < 12)) (v : fw_V) (x : Int32) : fw_up v 15 0 1 x c i k = v c i k := fw_up_ne (fun q => hi ⟨q.2.2, by omega, by omega⟩)
theorem mr1_16 {c i k : Nat} (hc : c ≠ 0 ∧ c ≠ 4 ∧ c ≠ 5 ∧ c ≠ 6 ∧ c ≠ 7 ∧ c ≠ 8 ∧ c ≠ 9 ∧ c ≠ 49) (hi : ¬ (k = 1 ∧ 12 ≤ c ∧ c ≤ 23)) (hg : ¬ (c = 27 ∧ 6 ≤ k ∧ k < 12)) (v : fw_V) (x : Int32) : fw_up v 16 0 1 x c i k = v c i k := fw_up_ne (fun q => hi ⟨q.2.2, by omega, by omega⟩)
theorem mr1_17 {c i k : Nat} (hc : c ≠ 0 ∧ c ≠ 4 ∧ c ≠ 5 ∧ c ≠ 6 ∧ c ≠ 7 ∧ c ≠ 8 ∧ c ≠ 9 ∧ c ≠ 49) (hi : ¬ (k = 1 ∧ 12 ≤ c ∧ c ≤ 23)) (hg : ¬ (c = 27 ∧ 6 ≤ k ∧ k < 12)) (v : fw_V) (x : Int32) : fw_up v 17 0 1 x c i k = v c i k := fw_up_ne (fun q => hi ⟨q.2.2, by omega, by omega⟩)
theorem mr1_18 {c i k : Nat} (hc : c ≠ 0 ∧ c ≠ 4 ∧ c ≠ 5 ∧ c ≠ 6 ∧ c ≠ 7 ∧ c ≠ 8 ∧ c ≠ 9 ∧ c ≠ 49) (hi : ¬ (k = 1 ∧ 12 ≤ c ∧ c ≤ 23)) (hg : ¬ (c = 27 ∧ 6 ≤ k ∧ k < 12)) (v : fw_V) (x : Int32) : fw_up v 18 0 1 x c i k = v c i k := fw_up_ne (fun q => hi ⟨q.2.2, by omega, by omega⟩)
theorem mr1_19 {c i k : Nat} (hc : c ≠ 0 ∧ c ≠ 4 ∧ c ≠ 5 ∧ c ≠ 6 ∧ c ≠ 7 ∧ c ≠ 8 ∧ c ≠ 9 ∧ c ≠ 49) (hi : ¬ (k = 1 ∧ 12 ≤ c ∧ c ≤ 23)) (hg : ¬ (c = 27 ∧ 6 ≤ k ∧ k < 12)) (v : fw_V) (x : Int32) : fw_up v 19 0 1 x c i k = v c i k := fw_up_ne (fun q => hi ⟨q.2.2, by omega, by omega⟩)
theorem mr1_20 {c i k : Nat} (hc : c ≠ 0 ∧ c ≠ 4 ∧ c ≠ 5 ∧ c ≠ 6 ∧ c ≠ 7 ∧ c ≠ 8 ∧ c ≠ 9 ∧ c ≠ 49) (hi : ¬ (k = 1 ∧ 12 ≤ c ∧ c ≤ 23)) (hg : ¬ (c = 27 ∧ 6 ≤ k ∧ k < 12)) (v : fw_V) (x : Int32) : fw_up v 20 0 1 x c i k = v c i k := fw_up_ne (fun q => hi ⟨q.2.2, by omega, by omega⟩)
theorem mr1_21 {c i k : Nat} (hc : c ≠ 0 ∧ c ≠ 4 ∧ c ≠ 5 ∧ c ≠ 6 ∧ c ≠ 7 ∧ c ≠ 8 ∧ c ≠ 9 ∧ c ≠ 49) (hi : ¬ (k = 1 ∧ 12 ≤ c ∧ c ≤ 23)) (hg : ¬ (c = 27 ∧ 6 ≤ k ∧ k < 12)) (v : fw_V) (x : Int32) : fw_up v 21 0 1 x c i k = v c i k := fw_up_ne (fun q => hi ⟨q.2.2, by omega, by omega⟩)
theorem mr1_22 {c i k : Nat} (hc : c ≠ 0 ∧ c ≠ 4 ∧ c ≠ 5 ∧ c ≠ 6 ∧ c ≠ 7 ∧ c ≠ 8 ∧ c ≠ 9 ∧ c ≠ 49) (hi : ¬ (k = 1 ∧ 12 ≤ c ∧ c ≤ 23)) (hg : ¬ (c = 27 ∧ 6 ≤ k ∧ k < 12)) (v : fw_V) (x : Int32) : fw_up v 22 0 1 x c i k = v c i k := fw_up_ne (fun q => hi ⟨q.2.2, by omega, by omega⟩)
theorem mr1_23 {c i k : Nat} (hc : c ≠ 0 ∧ c ≠ 4 ∧ c ≠ 5 ∧ c ≠ 6 ∧ c ≠ 7 ∧ c ≠ 8 ∧ c ≠ 9 ∧ c ≠ 49) (hi : ¬ (k = 1 ∧ 12 ≤ c ∧ c ≤ 23)) (hg : ¬ (c = 27 ∧ 6 ≤ k ∧ k < 12)) (v : fw_V) (x : Int32) : fw_up v 23 0 1 x c i k = v c i k := fw_up_ne (fun q => hi ⟨q.2.2, by omega, by omega⟩)
theorem mr1_27_6 {c i k : Nat} (hc : c ≠ 0 ∧ c ≠ 4 ∧ c ≠ 5 ∧ c ≠ 6 ∧ c ≠ 7 ∧ c ≠ 8 ∧ c ≠ 9 ∧ c ≠ 49) (hi : ¬ (k = 1 ∧ 12 ≤ c ∧ c ≤ 23)) (hg : ¬ (c = 27 ∧ 6 ≤ k ∧ k < 12)) (v : fw_V) (x : Int32) : fw_up v 27 0 6 x c i k = v c i k := fw_up_ne (fun q => hg ⟨q.1, by omega, by omega⟩)
theorem mr1_27_7 {c i k : Nat} (hc : c ≠ 0 ∧ c ≠ 4 ∧ c ≠ 5 ∧ c ≠ 6 ∧ c ≠ 7 ∧ c ≠ 8 ∧ c ≠ 9 ∧ c ≠ 49) (hi : ¬ (k = 1 ∧ 12 ≤ c ∧ c ≤ 23)) (hg : ¬ (c = 27 ∧ 6 ≤ k ∧ k < 12)) (v : fw_V) (x : Int32) : fw_up v 27 0 7 x c i k = v c i k := fw_up_ne (fun q => hg ⟨q.1, by omega, by omega⟩)
theorem mr1_27_8 {c i k : Nat} (hc : c ≠ 0 ∧ c ≠ 4 ∧ c ≠ 5 ∧ c ≠ 6 ∧ c ≠ 7 ∧ c ≠ 8 ∧ c ≠ 9 ∧ c ≠ 49) (hi : ¬ (k = 1 ∧ 12 ≤ c ∧ c ≤ 23)) (hg : ¬ (c = 27 ∧ 6 ≤ k ∧ k < 12)) (v : fw_V) (x : Int32) : fw_up v 27 0 8 x c i k = v c i k := fw_up_ne (fun q => hg ⟨q.1, by omega, by omega⟩)
theorem mr1_27_9 {c i k : Nat} (hc : c ≠ 0 ∧ c ≠ 4 ∧ c ≠ 5 ∧ c ≠ 6 ∧ c ≠ 7 ∧ c ≠ 8 ∧ c ≠ 9 ∧ c ≠ 49) (hi : ¬ (k = 1 ∧ 12 ≤ c ∧ c ≤ 23)) (hg : ¬ (c = 27 ∧ 6 ≤ k ∧ k < 12)) (v : fw_V) (x : Int32) : fw_up v 27 0 9 x c i k = v c i k := fw_up_ne (fun q => hg ⟨q.1, by omega, by omega⟩)
theorem mr1_27_10 {c i k : Nat} (hc : c ≠ 0 ∧ c ≠ 4 ∧ c ≠ 5 ∧ c ≠ 6 ∧ c ≠ 7 ∧ c ≠ 8 ∧ c ≠ 9 ∧ c ≠ 49) (hi : ¬ (k = 1 ∧ 12 ≤ c ∧ c ≤ 23)) (hg : ¬ (c = 27 ∧ 6 ≤ k ∧ k < 12)) (v : fw_V) (x : Int32) : fw_up v 27 0 10 x c i k = v c i k := fw_up_ne (fun q => hg ⟨q.1, by omega, by omega⟩)
theorem mr1_27_11 {c i k : Nat} (hc : c ≠ 0 ∧ c ≠ 4 ∧ c ≠ 5 ∧ c ≠ 6 ∧ c ≠ 7 ∧ c ≠ 8 ∧ c ≠ 9 ∧ c ≠ 49) (hi : ¬ (k = 1 ∧ 12 ≤ c ∧ c ≤ 23)) (hg : ¬ (c = 27 ∧ 6 ≤ k ∧ k < 12)) (v : fw_V) (x : Int32) : fw_up v 27 0 11 x c i k = v c i k := fw_up_ne (fun q => hg ⟨q.1, by omega, by omega⟩)
theorem mr1_0 {c i k : Nat} (hc : c ≠ 0 ∧ c ≠ 4 ∧ c ≠ 5 ∧ c ≠ 6 ∧ c ≠ 7 ∧ c ≠ 8 ∧ c ≠ 9 ∧ c ≠ 49) (hi : ¬ (k = 1 ∧ 12 ≤ c ∧ c ≤ 23)) (hg : ¬ (c = 27 ∧ 6 ≤ k ∧ k < 12)) (v : fw_V) (y k0 : Nat) (x : Int32) : fw_up v 0 y k0 x c i k = v c i k := fw_up_c hc.1
theorem mr1_9 {c i k : Nat} (hc : c ≠ 0 ∧ c ≠ 4 ∧ c ≠ 5 ∧ c ≠ 6 ∧ c ≠ 7 ∧ c ≠ 8 ∧ c ≠ 9 ∧ c ≠ 49) (hi : ¬ (k = 1 ∧ 12 ≤ c ∧ c ≤ 23)) (hg : ¬ (c = 27 ∧ 6 ≤ k ∧ k < 12)) (v : fw_V) (y k0 : Nat) (x : Int32) : fw_up v 9 y k0 x c i k = v c i k := fw_up_c hc.2.2.2.2.2.2.1
theorem mr1_49 {c i k : Nat} (hc : c ≠ 0 ∧ c ≠ 4 ∧ c ≠ 5 ∧ c ≠ 6 ∧ c ≠ 7 ∧ c ≠ 8 ∧ c ≠ 9 ∧ c ≠ 49) (hi : ¬ (k = 1 ∧ 12 ≤ c ∧ c ≤ 23)) (hg : ¬ (c = 27 ∧ 6 ≤ k ∧ k < 12)) (v : fw_V) (y k0 : Nat) (x : Int32) : fw_up v 49 y k0 x c i k = v c i k := fw_up_c hc.2.2.2.2.2.2.2
theorem mr1_send {c i k : Nat} (hc : c ≠ 0 ∧ c ≠ 4 ∧ c ≠ 5 ∧ c ≠ 6 ∧ c ≠ 7 ∧ c ≠ 8 ∧ c ≠ 9 ∧ c ≠ 49) (hi : ¬ (k = 1 ∧ 12 ≤ c ∧ c ≤ 23)) (hg : ¬ (c = 27 ∧ 6 ≤ k ∧ k < 12)) (v : fw_V) (a b c' d : Int32) : mf_Mo_send v a b c' d c i k = v c i k := msend_c hc.1 hc.2.1 hc.2.2.1 hc.2.2.2.1 hc.2.2.2.2.1 hc.2.2.2.2.2.1 hc.2.2.2.2.2.2.1
theorem mr1_Mo_enter_1 {c i k : Nat} (hc : c ≠ 0 ∧ c ≠ 4 ∧ c ≠ 5 ∧ c ≠ 6 ∧ c ≠ 7 ∧ c ≠ 8 ∧ c ≠ 9 ∧ c ≠ 49) (hi : ¬ (k = 1 ∧ 12 ≤ c ∧ c ≤ 23)) (hg : ¬ (c = 27 ∧ 6 ≤ k ∧ k < 12)) : ∀ (v0 : fw_V) (a2 : Int32), mf_Mo_enter_1 v0 a2 c i k = v0 c i k := by
  intro v0 a2
  unfold mf_Mo_enter_1
  (try dsimp only)
  all_goals ((repeat' split) <;> (first | with_reducible rfl | (simp only [mr1_12 hc hi hg, mr1_13 hc hi hg, mr1_14 hc hi hg, mr1_15 hc hi hg, mr1_16 hc hi hg, mr1_17 hc hi hg, mr1_18 hc hi hg, mr1_19 hc hi hg, mr1_20 hc hi hg, mr1_21 hc hi hg, mr1_22 hc hi hg, mr1_23 hc hi hg, mr1_27_6 hc hi hg, mr1_27_7 hc hi hg, mr1_27_8 hc hi hg, mr1_27_9 hc hi hg, mr1_27_10 hc hi hg, mr1_27_11 hc hi hg, mr1_0 hc hi hg, mr1_9 hc hi hg, mr1_49 hc hi hg, mr1_send hc hi hg]; done)))
theorem mr1_Mo_ask_1 {c i k : Nat} (hc : c ≠ 0 ∧ c ≠ 4 ∧ c ≠ 5 ∧ c ≠ 6 ∧ c ≠ 7 ∧ c ≠ 8 ∧ c ≠ 9 ∧ c ≠ 49) (hi : ¬ (k = 1 ∧ 12 ≤ c ∧ c ≤ 23)) (hg : ¬ (c = 27 ∧ 6 ≤ k ∧ k < 12)) : ∀ (v0 : fw_V), mf_Mo_ask_1 v0 c i k = v0 c i k := by
  intro v0
  unfold mf_Mo_ask_1
  (try dsimp only)
  all_goals ((repeat' split) <;> (first | with_reducible rfl | (simp only [mr1_12 hc hi hg, mr1_13 hc hi hg, mr1_14 hc hi hg, mr1_15 hc hi hg, mr1_16 hc hi hg, mr1_17 hc hi hg, mr1_18 hc hi hg, mr1_19 hc hi hg, mr1_20 hc hi hg, mr1_21 hc hi hg, mr1_22 hc hi hg, mr1_23 hc hi hg, mr1_27_6 hc hi hg, mr1_27_7 hc hi hg, mr1_27_8 hc hi hg, mr1_27_9 hc hi hg, mr1_27_10 hc hi hg, mr1_27_11 hc hi hg, mr1_0 hc hi hg, mr1_9 hc hi hg, mr1_49 hc hi hg, mr1_send hc hi hg, mr1_send hc hi hg]; done)))
theorem mr1_Mo_shut_1 {c i k : Nat} (hc : c ≠ 0 ∧ c ≠ 4 ∧ c ≠ 5 ∧ c ≠ 6 ∧ c ≠ 7 ∧ c ≠ 8 ∧ c ≠ 9 ∧ c ≠ 49) (hi : ¬ (k = 1 ∧ 12 ≤ c ∧ c ≤ 23)) (hg : ¬ (c = 27 ∧ 6 ≤ k ∧ k < 12)) : ∀ (v0 : fw_V), mf_Mo_shut_1 v0 c i k = v0 c i k := by
  intro v0
  unfold mf_Mo_shut_1
  (try dsimp only)
  all_goals ((repeat' split) <;> (first | with_reducible rfl | (simp only [mr1_12 hc hi hg, mr1_13 hc hi hg, mr1_14 hc hi hg, mr1_15 hc hi hg, mr1_16 hc hi hg, mr1_17 hc hi hg, mr1_18 hc hi hg, mr1_19 hc hi hg, mr1_20 hc hi hg, mr1_21 hc hi hg, mr1_22 hc hi hg, mr1_23 hc hi hg, mr1_27_6 hc hi hg, mr1_27_7 hc hi hg, mr1_27_8 hc hi hg, mr1_27_9 hc hi hg, mr1_27_10 hc hi hg, mr1_27_11 hc hi hg, mr1_0 hc hi hg, mr1_9 hc hi hg, mr1_49 hc hi hg, mr1_send hc hi hg, mr1_Mo_enter_1 hc hi hg]; done)))
theorem mr1_Mo_breakOff_1 {c i k : Nat} (hc : c ≠ 0 ∧ c ≠ 4 ∧ c ≠ 5 ∧ c ≠ 6 ∧ c ≠ 7 ∧ c ≠ 8 ∧ c ≠ 9 ∧ c ≠ 49) (hi : ¬ (k = 1 ∧ 12 ≤ c ∧ c ≤ 23)) (hg : ¬ (c = 27 ∧ 6 ≤ k ∧ k < 12)) : ∀ (v0 : fw_V), mf_Mo_breakOff_1 v0 c i k = v0 c i k := by
  intro v0
  unfold mf_Mo_breakOff_1
  (try dsimp only)
  all_goals ((repeat' split) <;> (first | with_reducible rfl | (simp only [mr1_12 hc hi hg, mr1_13 hc hi hg, mr1_14 hc hi hg, mr1_15 hc hi hg, mr1_16 hc hi hg, mr1_17 hc hi hg, mr1_18 hc hi hg, mr1_19 hc hi hg, mr1_20 hc hi hg, mr1_21 hc hi hg, mr1_22 hc hi hg, mr1_23 hc hi hg, mr1_27_6 hc hi hg, mr1_27_7 hc hi hg, mr1_27_8 hc hi hg, mr1_27_9 hc hi hg, mr1_27_10 hc hi hg, mr1_27_11 hc hi hg, mr1_0 hc hi hg, mr1_9 hc hi hg, mr1_49 hc hi hg, mr1_send hc hi hg, mr1_Mo_shut_1 hc hi hg, mr1_send hc hi hg]; done)))
theorem mr1_Mo_write_1_j2 {c i k : Nat} (hc : c ≠ 0 ∧ c ≠ 4 ∧ c ≠ 5 ∧ c ≠ 6 ∧ c ≠ 7 ∧ c ≠ 8 ∧ c ≠ 9 ∧ c ≠ 49) (hi : ¬ (k = 1 ∧ 12 ≤ c ∧ c ≤ 23)) (hg : ¬ (c = 27 ∧ 6 ≤ k ∧ k < 12)) : ∀ (v : fw_V) (a2 : Int32) (x3 : Int32), mf_Mo_write_1_j2 v a2 x3 c i k = v c i k := by
  intro v a2 x3
  unfold mf_Mo_write_1_j2
  (try dsimp only)
  all_goals ((repeat' split) <;> (first | with_reducible rfl | (simp only [mr1_12 hc hi hg, mr1_13 hc hi hg, mr1_14 hc hi hg, mr1_15 hc hi hg, mr1_16 hc hi hg, mr1_17 hc hi hg, mr1_18 hc hi hg, mr1_19 hc hi hg, mr1_20 hc hi hg, mr1_21 hc hi hg, mr1_22 hc hi hg, mr1_23 hc hi hg, mr1_27_6 hc hi hg, mr1_27_7 hc hi hg, mr1_27_8 hc hi hg, mr1_27_9 hc hi hg, mr1_27_10 hc hi hg, mr1_27_11 hc hi hg, mr1_0 hc hi hg, mr1_9 hc hi hg, mr1_49 hc hi hg, mr1_send hc hi hg, mr1_Mo_enter_1 hc hi hg, mr1_Mo_ask_1 hc hi hg]; done)))
theorem mr1_Mo_write_1_j3 {c i k : Nat} (hc : c ≠ 0 ∧ c ≠ 4 ∧ c ≠ 5 ∧ c ≠ 6 ∧ c ≠ 7 ∧ c ≠ 8 ∧ c ≠ 9 ∧ c ≠ 49) (hi : ¬ (k = 1 ∧ 12 ≤ c ∧ c ≤ 23)) (hg : ¬ (c = 27 ∧ 6 ≤ k ∧ k < 12)) : ∀ (v : fw_V) (a2 : Int32) (x3 : Int32), mf_Mo_write_1_j3 v a2 x3 c i k = v c i k := by
  intro v a2 x3
  unfold mf_Mo_write_1_j3
  (try dsimp only)
  all_goals ((repeat' split) <;> (first | with_reducible rfl | (simp only [mr1_12 hc hi hg, mr1_13 hc hi hg, mr1_14 hc hi hg, mr1_15 hc hi hg, mr1_16 hc hi hg, mr1_17 hc hi hg, mr1_18 hc hi hg, mr1_19 hc hi hg, mr1_20 hc hi hg, mr1_21 hc hi hg, mr1_22 hc hi hg, mr1_23 hc hi hg, mr1_27_6 hc hi hg, mr1_27_7 hc hi hg, mr1_27_8 hc hi hg, mr1_27_9 hc hi hg, mr1_27_10 hc hi hg, mr1_27_11 hc hi hg, mr1_0 hc hi hg, mr1_9 hc hi hg, mr1_49 hc hi hg, mr1_send hc hi hg, mr1_Mo_enter_1 hc hi hg, mr1_Mo_ask_1 hc hi hg]; done)))
theorem mr1_Mo_write_1_j1 {c i k : Nat} (hc : c ≠ 0 ∧ c ≠ 4 ∧ c ≠ 5 ∧ c ≠ 6 ∧ c ≠ 7 ∧ c ≠ 8 ∧ c ≠ 9 ∧ c ≠ 49) (hi : ¬ (k = 1 ∧ 12 ≤ c ∧ c ≤ 23)) (hg : ¬ (c = 27 ∧ 6 ≤ k ∧ k < 12)) : ∀ (n : Nat) (v : fw_V) (a2 : Int32) (x3 : Int32), mf_Mo_write_1_j1 n v a2 x3 c i k = v c i k := by
  intro n
  induction n with
  | zero => intros; rfl
  | succ n ih =>
    intro v a2 x3
    unfold mf_Mo_write_1_j1
    (try dsimp only)
    all_goals ((repeat' split) <;> (first | with_reducible rfl | (simp only [ih, mr1_12 hc hi hg, mr1_13 hc hi hg, mr1_14 hc hi hg, mr1_15 hc hi hg, mr1_16 hc hi hg, mr1_17 hc hi hg, mr1_18 hc hi hg, mr1_19 hc hi hg, mr1_20 hc hi hg, mr1_21 hc hi hg, mr1_22 hc hi hg, mr1_23 hc hi hg, mr1_27_6 hc hi hg, mr1_27_7 hc hi hg, mr1_27_8 hc hi hg, mr1_27_9 hc hi hg, mr1_27_10 hc hi hg, mr1_27_11 hc hi hg, mr1_0 hc hi hg, mr1_9 hc hi hg, mr1_49 hc hi hg, mr1_send hc hi hg, mr1_Mo_write_1_j2 hc hi hg, mr1_Mo_write_1_j3 hc hi hg]; done)))
theorem mr1_Mo_write_1 {c i k : Nat} (hc : c ≠ 0 ∧ c ≠ 4 ∧ c ≠ 5 ∧ c ≠ 6 ∧ c ≠ 7 ∧ c ≠ 8 ∧ c ≠ 9 ∧ c ≠ 49) (hi : ¬ (k = 1 ∧ 12 ≤ c ∧ c ≤ 23)) (hg : ¬ (c = 27 ∧ 6 ≤ k ∧ k < 12)) : ∀ (v0 : fw_V) (a2 : Int32), mf_Mo_write_1 v0 a2 c i k = v0 c i k := by
  intro v0 a2
  unfold mf_Mo_write_1
  (try dsimp only)
  all_goals ((repeat' split) <;> (first | with_reducible rfl | (simp only [mr1_12 hc hi hg, mr1_13 hc hi hg, mr1_14 hc hi hg, mr1_15 hc hi hg, mr1_16 hc hi hg, mr1_17 hc hi hg, mr1_18 hc hi hg, mr1_19 hc hi hg, mr1_20 hc hi hg, mr1_21 hc hi hg, mr1_22 hc hi hg, mr1_23 hc hi hg, mr1_27_6 hc hi hg, mr1_27_7 hc hi hg, mr1_27_8 hc hi hg, mr1_27_9 hc hi hg, mr1_27_10 hc hi hg, mr1_27_11 hc hi hg, mr1_0 hc hi hg, mr1_9 hc hi hg, mr1_49 hc hi hg, mr1_send hc hi hg, mr1_Mo_write_1_j1 hc hi hg]; done)))
theorem mr1_Mo_tell_1_j2 {c i k : Nat} (hc : c ≠ 0 ∧ c ≠ 4 ∧ c ≠ 5 ∧ c ≠ 6 ∧ c ≠ 7 ∧ c ≠ 8 ∧ c ≠ 9 ∧ c ≠ 49) (hi : ¬ (k = 1 ∧ 12 ≤ c ∧ c ≤ 23)) (hg : ¬ (c = 27 ∧ 6 ≤ k ∧ k < 12)) : ∀ (v : fw_V) (a2 : Int32) (x3 : Int32) (x4 : Int32) (x90 : Int32), mf_Mo_tell_1_j2 v a2 x3 x4 x90 c i k = v c i k := by
  intro v a2 x3 x4 x90
  unfold mf_Mo_tell_1_j2
  (try dsimp only)
  all_goals ((repeat' split) <;> (first | with_reducible rfl | (simp only [mr1_12 hc hi hg, mr1_13 hc hi hg, mr1_14 hc hi hg, mr1_15 hc hi hg, mr1_16 hc hi hg, mr1_17 hc hi hg, mr1_18 hc hi hg, mr1_19 hc hi hg, mr1_20 hc hi hg, mr1_21 hc hi hg, mr1_22 hc hi hg, mr1_23 hc hi hg, mr1_27_6 hc hi hg, mr1_27_7 hc hi hg, mr1_27_8 hc hi hg, mr1_27_9 hc hi hg, mr1_27_10 hc hi hg, mr1_27_11 hc hi hg, mr1_0 hc hi hg, mr1_9 hc hi hg, mr1_49 hc hi hg, mr1_send hc hi hg]; done)))
theorem mr1_Mo_tell_1_j1 {c i k : Nat} (hc : c ≠ 0 ∧ c ≠ 4 ∧ c ≠ 5 ∧ c ≠ 6 ∧ c ≠ 7 ∧ c ≠ 8 ∧ c ≠ 9 ∧ c ≠ 49) (hi : ¬ (k = 1 ∧ 12 ≤ c ∧ c ≤ 23)) (hg : ¬ (c = 27 ∧ 6 ≤ k ∧ k < 12)) : ∀ (v : fw_V) (a2 : Int32) (x3 : Int32) (x4 : Int32), mf_Mo_tell_1_j1 v a2 x3 x4 c i k = v c i k := by
  intro v a2 x3 x4
  unfold mf_Mo_tell_1_j1
  (try dsimp only)
  all_goals ((repeat' split) <;> (first | with_reducible rfl | (simp only [mr1_12 hc hi hg, mr1_13 hc hi hg, mr1_14 hc hi hg, mr1_15 hc hi hg, mr1_16 hc hi hg, mr1_17 hc hi hg, mr1_18 hc hi hg, mr1_19 hc hi hg, mr1_20 hc hi hg, mr1_21 hc hi hg, mr1_22 hc hi hg, mr1_23 hc hi hg, mr1_27_6 hc hi hg, mr1_27_7 hc hi hg, mr1_27_8 hc hi hg, mr1_27_9 hc hi hg, mr1_27_10 hc hi hg, mr1_27_11 hc hi hg, mr1_0 hc hi hg, mr1_9 hc hi hg, mr1_49 hc hi hg, mr1_send hc hi hg, mr1_Mo_tell_1_j2 hc hi hg]; done)))
theorem mr1_Mo_tell_1 {c i k : Nat} (hc : c ≠ 0 ∧ c ≠ 4 ∧ c ≠ 5 ∧ c ≠ 6 ∧ c ≠ 7 ∧ c ≠ 8 ∧ c ≠ 9 ∧ c ≠ 49) (hi : ¬ (k = 1 ∧ 12 ≤ c ∧ c ≤ 23)) (hg : ¬ (c = 27 ∧ 6 ≤ k ∧ k < 12)) : ∀ (v0 : fw_V) (a2 : Int32), mf_Mo_tell_1 v0 a2 c i k = v0 c i k := by
  intro v0 a2
  unfold mf_Mo_tell_1
  (try dsimp only)
  all_goals ((repeat' split) <;> (first | with_reducible rfl | (simp only [mr1_12 hc hi hg, mr1_13 hc hi hg, mr1_14 hc hi hg, mr1_15 hc hi hg, mr1_16 hc hi hg, mr1_17 hc hi hg, mr1_18 hc hi hg, mr1_19 hc hi hg, mr1_20 hc hi hg, mr1_21 hc hi hg, mr1_22 hc hi hg, mr1_23 hc hi hg, mr1_27_6 hc hi hg, mr1_27_7 hc hi hg, mr1_27_8 hc hi hg, mr1_27_9 hc hi hg, mr1_27_10 hc hi hg, mr1_27_11 hc hi hg, mr1_0 hc hi hg, mr1_9 hc hi hg, mr1_49 hc hi hg, mr1_send hc hi hg, mr1_Mo_tell_1_j1 hc hi hg, mr1_Mo_tell_1_j2 hc hi hg]; done)))
theorem mr1_Mo_hears_1_j6 {c i k : Nat} (hc : c ≠ 0 ∧ c ≠ 4 ∧ c ≠ 5 ∧ c ≠ 6 ∧ c ≠ 7 ∧ c ≠ 8 ∧ c ≠ 9 ∧ c ≠ 49) (hi : ¬ (k = 1 ∧ 12 ≤ c ∧ c ≤ 23)) (hg : ¬ (c = 27 ∧ 6 ≤ k ∧ k < 12)) : ∀ (v0 : fw_V) (a2 : Int32) (a3 : Int32), mf_Mo_hears_1_j6 v0 a2 a3 c i k = v0 c i k := by
  intro v0 a2 a3
  unfold mf_Mo_hears_1_j6
  (try dsimp only)
  all_goals ((repeat' split) <;> (first | with_reducible rfl | (simp only [mr1_12 hc hi hg, mr1_13 hc hi hg, mr1_14 hc hi hg, mr1_15 hc hi hg, mr1_16 hc hi hg, mr1_17 hc hi hg, mr1_18 hc hi hg, mr1_19 hc hi hg, mr1_20 hc hi hg, mr1_21 hc hi hg, mr1_22 hc hi hg, mr1_23 hc hi hg, mr1_27_6 hc hi hg, mr1_27_7 hc hi hg, mr1_27_8 hc hi hg, mr1_27_9 hc hi hg, mr1_27_10 hc hi hg, mr1_27_11 hc hi hg, mr1_0 hc hi hg, mr1_9 hc hi hg, mr1_49 hc hi hg, mr1_send hc hi hg, mr1_send hc hi hg, mr1_Mo_tell_1 hc hi hg, mr1_Mo_shut_1 hc hi hg]; done)))
theorem mr1_Mo_hears_1_j5 {c i k : Nat} (hc : c ≠ 0 ∧ c ≠ 4 ∧ c ≠ 5 ∧ c ≠ 6 ∧ c ≠ 7 ∧ c ≠ 8 ∧ c ≠ 9 ∧ c ≠ 49) (hi : ¬ (k = 1 ∧ 12 ≤ c ∧ c ≤ 23)) (hg : ¬ (c = 27 ∧ 6 ≤ k ∧ k < 12)) : ∀ (v0 : fw_V) (a2 : Int32) (a3 : Int32), mf_Mo_hears_1_j5 v0 a2 a3 c i k = v0 c i k := by
  intro v0 a2 a3
  unfold mf_Mo_hears_1_j5
  (try dsimp only)
  all_goals ((repeat' split) <;> (first | with_reducible rfl | (simp only [mr1_12 hc hi hg, mr1_13 hc hi hg, mr1_14 hc hi hg, mr1_15 hc hi hg, mr1_16 hc hi hg, mr1_17 hc hi hg, mr1_18 hc hi hg, mr1_19 hc hi hg, mr1_20 hc hi hg, mr1_21 hc hi hg, mr1_22 hc hi hg, mr1_23 hc hi hg, mr1_27_6 hc hi hg, mr1_27_7 hc hi hg, mr1_27_8 hc hi hg, mr1_27_9 hc hi hg, mr1_27_10 hc hi hg, mr1_27_11 hc hi hg, mr1_0 hc hi hg, mr1_9 hc hi hg, mr1_49 hc hi hg, mr1_send hc hi hg, mr1_Mo_hears_1_j6 hc hi hg]; done)))
theorem mr1_Mo_hears_1_j4 {c i k : Nat} (hc : c ≠ 0 ∧ c ≠ 4 ∧ c ≠ 5 ∧ c ≠ 6 ∧ c ≠ 7 ∧ c ≠ 8 ∧ c ≠ 9 ∧ c ≠ 49) (hi : ¬ (k = 1 ∧ 12 ≤ c ∧ c ≤ 23)) (hg : ¬ (c = 27 ∧ 6 ≤ k ∧ k < 12)) : ∀ (v0 : fw_V) (a2 : Int32) (a3 : Int32), mf_Mo_hears_1_j4 v0 a2 a3 c i k = v0 c i k := by
  intro v0 a2 a3
  unfold mf_Mo_hears_1_j4
  (try dsimp only)
  all_goals ((repeat' split) <;> (first | with_reducible rfl | (simp only [mr1_12 hc hi hg, mr1_13 hc hi hg, mr1_14 hc hi hg, mr1_15 hc hi hg, mr1_16 hc hi hg, mr1_17 hc hi hg, mr1_18 hc hi hg, mr1_19 hc hi hg, mr1_20 hc hi hg, mr1_21 hc hi hg, mr1_22 hc hi hg, mr1_23 hc hi hg, mr1_27_6 hc hi hg, mr1_27_7 hc hi hg, mr1_27_8 hc hi hg, mr1_27_9 hc hi hg, mr1_27_10 hc hi hg, mr1_27_11 hc hi hg, mr1_0 hc hi hg, mr1_9 hc hi hg, mr1_49 hc hi hg, mr1_send hc hi hg, mr1_Mo_hears_1_j5 hc hi hg, mr1_send hc hi hg, mr1_Mo_enter_1 hc hi hg]; done)))
theorem mr1_Mo_hears_1_j3 {c i k : Nat} (hc : c ≠ 0 ∧ c ≠ 4 ∧ c ≠ 5 ∧ c ≠ 6 ∧ c ≠ 7 ∧ c ≠ 8 ∧ c ≠ 9 ∧ c ≠ 49) (hi : ¬ (k = 1 ∧ 12 ≤ c ∧ c ≤ 23)) (hg : ¬ (c = 27 ∧ 6 ≤ k ∧ k < 12)) : ∀ (v0 : fw_V) (a2 : Int32) (a3 : Int32), mf_Mo_hears_1_j3 v0 a2 a3 c i k = v0 c i k := by
  intro v0 a2 a3
  unfold mf_Mo_hears_1_j3
  (try dsimp only)
  all_goals ((repeat' split) <;> (first | with_reducible rfl | (simp only [mr1_12 hc hi hg, mr1_13 hc hi hg, mr1_14 hc hi hg, mr1_15 hc hi hg, mr1_16 hc hi hg, mr1_17 hc hi hg, mr1_18 hc hi hg, mr1_19 hc hi hg, mr1_20 hc hi hg, mr1_21 hc hi hg, mr1_22 hc hi hg, mr1_23 hc hi hg, mr1_27_6 hc hi hg, mr1_27_7 hc hi hg, mr1_27_8 hc hi hg, mr1_27_9 hc hi hg, mr1_27_10 hc hi hg, mr1_27_11 hc hi hg, mr1_0 hc hi hg, mr1_9 hc hi hg, mr1_49 hc hi hg, mr1_send hc hi hg, mr1_Mo_enter_1 hc hi hg, mr1_Mo_hears_1_j4 hc hi hg]; done)))
theorem mr1_Mo_hears_1_j2 {c i k : Nat} (hc : c ≠ 0 ∧ c ≠ 4 ∧ c ≠ 5 ∧ c ≠ 6 ∧ c ≠ 7 ∧ c ≠ 8 ∧ c ≠ 9 ∧ c ≠ 49) (hi : ¬ (k = 1 ∧ 12 ≤ c ∧ c ≤ 23)) (hg : ¬ (c = 27 ∧ 6 ≤ k ∧ k < 12)) : ∀ (v0 : fw_V) (a2 : Int32) (a3 : Int32), mf_Mo_hears_1_j2 v0 a2 a3 c i k = v0 c i k := by
  intro v0 a2 a3
  unfold mf_Mo_hears_1_j2
  (try dsimp only)
  all_goals ((repeat' split) <;> (first | with_reducible rfl | (simp only [mr1_12 hc hi hg, mr1_13 hc hi hg, mr1_14 hc hi hg, mr1_15 hc hi hg, mr1_16 hc hi hg, mr1_17 hc hi hg, mr1_18 hc hi hg, mr1_19 hc hi hg, mr1_20 hc hi hg, mr1_21 hc hi hg, mr1_22 hc hi hg, mr1_23 hc hi hg, mr1_27_6 hc hi hg, mr1_27_7 hc hi hg, mr1_27_8 hc hi hg, mr1_27_9 hc hi hg, mr1_27_10 hc hi hg, mr1_27_11 hc hi hg, mr1_0 hc hi hg, mr1_9 hc hi hg, mr1_49 hc hi hg, mr1_send hc hi hg, mr1_Mo_write_1 hc hi hg, mr1_Mo_hears_1_j3 hc hi hg]; done)))
theorem mr1_Mo_hears_1_j1 {c i k : Nat} (hc : c ≠ 0 ∧ c ≠ 4 ∧ c ≠ 5 ∧ c ≠ 6 ∧ c ≠ 7 ∧ c ≠ 8 ∧ c ≠ 9 ∧ c ≠ 49) (hi : ¬ (k = 1 ∧ 12 ≤ c ∧ c ≤ 23)) (hg : ¬ (c = 27 ∧ 6 ≤ k ∧ k < 12)) : ∀ (v0 : fw_V) (a2 : Int32) (a3 : Int32), mf_Mo_hears_1_j1 v0 a2 a3 c i k = v0 c i k := by
  intro v0 a2 a3
  unfold mf_Mo_hears_1_j1
  (try dsimp only)
  all_goals ((repeat' split) <;> (first | with_reducible rfl | (simp only [mr1_12 hc hi hg, mr1_13 hc hi hg, mr1_14 hc hi hg, mr1_15 hc hi hg, mr1_16 hc hi hg, mr1_17 hc hi hg, mr1_18 hc hi hg, mr1_19 hc hi hg, mr1_20 hc hi hg, mr1_21 hc hi hg, mr1_22 hc hi hg, mr1_23 hc hi hg, mr1_27_6 hc hi hg, mr1_27_7 hc hi hg, mr1_27_8 hc hi hg, mr1_27_9 hc hi hg, mr1_27_10 hc hi hg, mr1_27_11 hc hi hg, mr1_0 hc hi hg, mr1_9 hc hi hg, mr1_49 hc hi hg, mr1_send hc hi hg, mr1_Mo_shut_1 hc hi hg, mr1_Mo_hears_1_j2 hc hi hg]; done)))
theorem mr1_Mo_hears_1 {c i k : Nat} (hc : c ≠ 0 ∧ c ≠ 4 ∧ c ≠ 5 ∧ c ≠ 6 ∧ c ≠ 7 ∧ c ≠ 8 ∧ c ≠ 9 ∧ c ≠ 49) (hi : ¬ (k = 1 ∧ 12 ≤ c ∧ c ≤ 23)) (hg : ¬ (c = 27 ∧ 6 ≤ k ∧ k < 12)) : ∀ (v0 : fw_V) (a2 : Int32) (a3 : Int32), mf_Mo_hears_1 v0 a2 a3 c i k = v0 c i k := by
  intro v0 a2 a3
  unfold mf_Mo_hears_1
  (try dsimp only)
  all_goals ((repeat' split) <;> (first | with_reducible rfl | (simp only [mr1_12 hc hi hg, mr1_13 hc hi hg, mr1_14 hc hi hg, mr1_15 hc hi hg, mr1_16 hc hi hg, mr1_17 hc hi hg, mr1_18 hc hi hg, mr1_19 hc hi hg, mr1_20 hc hi hg, mr1_21 hc hi hg, mr1_22 hc hi hg, mr1_23 hc hi hg, mr1_27_6 hc hi hg, mr1_27_7 hc hi hg, mr1_27_8 hc hi hg, mr1_27_9 hc hi hg, mr1_27_10 hc hi hg, mr1_27_11 hc hi hg, mr1_0 hc hi hg, mr1_9 hc hi hg, mr1_49 hc hi hg, mr1_send hc hi hg, mr1_Mo_write_1 hc hi hg, mr1_Mo_hears_1_j1 hc hi hg]; done)))
theorem mr1_Mo_beat_1_j25 {c i k : Nat} (hc : c ≠ 0 ∧ c ≠ 4 ∧ c ≠ 5 ∧ c ≠ 6 ∧ c ≠ 7 ∧ c ≠ 8 ∧ c ≠ 9 ∧ c ≠ 49) (hi : ¬ (k = 1 ∧ 12 ≤ c ∧ c ≤ 23)) (hg : ¬ (c = 27 ∧ 6 ≤ k ∧ k < 12)) : ∀ (v : fw_V), mf_Mo_beat_1_j25 v c i k = v c i k := by
  intro v
  unfold mf_Mo_beat_1_j25
  (try dsimp only)
  all_goals ((repeat' split) <;> (first | with_reducible rfl | (simp only [mr1_12 hc hi hg, mr1_13 hc hi hg, mr1_14 hc hi hg, mr1_15 hc hi hg, mr1_16 hc hi hg, mr1_17 hc hi hg, mr1_18 hc hi hg, mr1_19 hc hi hg, mr1_20 hc hi hg, mr1_21 hc hi hg, mr1_22 hc hi hg, mr1_23 hc hi hg, mr1_27_6 hc hi hg, mr1_27_7 hc hi hg, mr1_27_8 hc hi hg, mr1_27_9 hc hi hg, mr1_27_10 hc hi hg, mr1_27_11 hc hi hg, mr1_0 hc hi hg, mr1_9 hc hi hg, mr1_49 hc hi hg, mr1_send hc hi hg, mr1_send hc hi hg]; done)))
theorem mr1_Mo_beat_1_j24 {c i k : Nat} (hc : c ≠ 0 ∧ c ≠ 4 ∧ c ≠ 5 ∧ c ≠ 6 ∧ c ≠ 7 ∧ c ≠ 8 ∧ c ≠ 9 ∧ c ≠ 49) (hi : ¬ (k = 1 ∧ 12 ≤ c ∧ c ≤ 23)) (hg : ¬ (c = 27 ∧ 6 ≤ k ∧ k < 12)) : ∀ (v : fw_V), mf_Mo_beat_1_j24 v c i k = v c i k := by
  intro v
  unfold mf_Mo_beat_1_j24
  (try dsimp only)
  all_goals ((repeat' split) <;> (first | with_reducible rfl | (simp only [mr1_12 hc hi hg, mr1_13 hc hi hg, mr1_14 hc hi hg, mr1_15 hc hi hg, mr1_16 hc hi hg, mr1_17 hc hi hg, mr1_18 hc hi hg, mr1_19 hc hi hg, mr1_20 hc hi hg, mr1_21 hc hi hg, mr1_22 hc hi hg, mr1_23 hc hi hg, mr1_27_6 hc hi hg, mr1_27_7 hc hi hg, mr1_27_8 hc hi hg, mr1_27_9 hc hi hg, mr1_27_10 hc hi hg, mr1_27_11 hc hi hg, mr1_0 hc hi hg, mr1_9 hc hi hg, mr1_49 hc hi hg, mr1_send hc hi hg, mr1_Mo_beat_1_j25 hc hi hg]; done)))
theorem mr1_Mo_beat_1_j23 {c i k : Nat} (hc : c ≠ 0 ∧ c ≠ 4 ∧ c ≠ 5 ∧ c ≠ 6 ∧ c ≠ 7 ∧ c ≠ 8 ∧ c ≠ 9 ∧ c ≠ 49) (hi : ¬ (k = 1 ∧ 12 ≤ c ∧ c ≤ 23)) (hg : ¬ (c = 27 ∧ 6 ≤ k ∧ k < 12)) : ∀ (v : fw_V), mf_Mo_beat_1_j23 v c i k = v c i k := by
  intro v
  unfold mf_Mo_beat_1_j23
  (try dsimp only)
  all_goals ((repeat' split) <;> (first | with_reducible rfl | (simp only [mr1_12 hc hi hg, mr1_13 hc hi hg, mr1_14 hc hi hg, mr1_15 hc hi hg, mr1_16 hc hi hg, mr1_17 hc hi hg, mr1_18 hc hi hg, mr1_19 hc hi hg, mr1_20 hc hi hg, mr1_21 hc hi hg, mr1_22 hc hi hg, mr1_23 hc hi hg, mr1_27_6 hc hi hg, mr1_27_7 hc hi hg, mr1_27_8 hc hi hg, mr1_27_9 hc hi hg, mr1_27_10 hc hi hg, mr1_27_11 hc hi hg, mr1_0 hc hi hg, mr1_9 hc hi hg, mr1_49 hc hi hg, mr1_send hc hi hg, mr1_Mo_beat_1_j24 hc hi hg]; done)))
theorem mr1_Mo_beat_1_j22 {c i k : Nat} (hc : c ≠ 0 ∧ c ≠ 4 ∧ c ≠ 5 ∧ c ≠ 6 ∧ c ≠ 7 ∧ c ≠ 8 ∧ c ≠ 9 ∧ c ≠ 49) (hi : ¬ (k = 1 ∧ 12 ≤ c ∧ c ≤ 23)) (hg : ¬ (c = 27 ∧ 6 ≤ k ∧ k < 12)) : ∀ (v : fw_V), mf_Mo_beat_1_j22 v c i k = v c i k := by
  intro v
  unfold mf_Mo_beat_1_j22
  (try dsimp only)
  all_goals ((repeat' split) <;> (first | with_reducible rfl | (simp only [mr1_12 hc hi hg, mr1_13 hc hi hg, mr1_14 hc hi hg, mr1_15 hc hi hg, mr1_16 hc hi hg, mr1_17 hc hi hg, mr1_18 hc hi hg, mr1_19 hc hi hg, mr1_20 hc hi hg, mr1_21 hc hi hg, mr1_22 hc hi hg, mr1_23 hc hi hg, mr1_27_6 hc hi hg, mr1_27_7 hc hi hg, mr1_27_8 hc hi hg, mr1_27_9 hc hi hg, mr1_27_10 hc hi hg, mr1_27_11 hc hi hg, mr1_0 hc hi hg, mr1_9 hc hi hg, mr1_49 hc hi hg, mr1_send hc hi hg, mr1_Mo_beat_1_j23 hc hi hg]; done)))
theorem mr1_Mo_beat_1_j27 {c i k : Nat} (hc : c ≠ 0 ∧ c ≠ 4 ∧ c ≠ 5 ∧ c ≠ 6 ∧ c ≠ 7 ∧ c ≠ 8 ∧ c ≠ 9 ∧ c ≠ 49) (hi : ¬ (k = 1 ∧ 12 ≤ c ∧ c ≤ 23)) (hg : ¬ (c = 27 ∧ 6 ≤ k ∧ k < 12)) : ∀ (v : fw_V) (x90 : Int32), mf_Mo_beat_1_j27 v x90 c i k = v c i k := by
  intro v x90
  unfold mf_Mo_beat_1_j27
  (try dsimp only)
  all_goals ((repeat' split) <;> (first | with_reducible rfl | (simp only [mr1_12 hc hi hg, mr1_13 hc hi hg, mr1_14 hc hi hg, mr1_15 hc hi hg, mr1_16 hc hi hg, mr1_17 hc hi hg, mr1_18 hc hi hg, mr1_19 hc hi hg, mr1_20 hc hi hg, mr1_21 hc hi hg, mr1_22 hc hi hg, mr1_23 hc hi hg, mr1_27_6 hc hi hg, mr1_27_7 hc hi hg, mr1_27_8 hc hi hg, mr1_27_9 hc hi hg, mr1_27_10 hc hi hg, mr1_27_11 hc hi hg, mr1_0 hc hi hg, mr1_9 hc hi hg, mr1_49 hc hi hg, mr1_send hc hi hg, mr1_Mo_beat_1_j25 hc hi hg]; done)))
theorem mr1_Mo_beat_1_j26 {c i k : Nat} (hc : c ≠ 0 ∧ c ≠ 4 ∧ c ≠ 5 ∧ c ≠ 6 ∧ c ≠ 7 ∧ c ≠ 8 ∧ c ≠ 9 ∧ c ≠ 49) (hi : ¬ (k = 1 ∧ 12 ≤ c ∧ c ≤ 23)) (hg : ¬ (c = 27 ∧ 6 ≤ k ∧ k < 12)) : ∀ (v : fw_V), mf_Mo_beat_1_j26 v c i k = v c i k := by
  intro v
  unfold mf_Mo_beat_1_j26
  (try dsimp only)
  all_goals ((repeat' split) <;> (first | with_reducible rfl | (simp only [mr1_12 hc hi hg, mr1_13 hc hi hg, mr1_14 hc hi hg, mr1_15 hc hi hg, mr1_16 hc hi hg, mr1_17 hc hi hg, mr1_18 hc hi hg, mr1_19 hc hi hg, mr1_20 hc hi hg, mr1_21 hc hi hg, mr1_22 hc hi hg, mr1_23 hc hi hg, mr1_27_6 hc hi hg, mr1_27_7 hc hi hg, mr1_27_8 hc hi hg, mr1_27_9 hc hi hg, mr1_27_10 hc hi hg, mr1_27_11 hc hi hg, mr1_0 hc hi hg, mr1_9 hc hi hg, mr1_49 hc hi hg, mr1_send hc hi hg, mr1_Mo_beat_1_j27 hc hi hg]; done)))
theorem mr1_Mo_beat_1_j21 {c i k : Nat} (hc : c ≠ 0 ∧ c ≠ 4 ∧ c ≠ 5 ∧ c ≠ 6 ∧ c ≠ 7 ∧ c ≠ 8 ∧ c ≠ 9 ∧ c ≠ 49) (hi : ¬ (k = 1 ∧ 12 ≤ c ∧ c ≤ 23)) (hg : ¬ (c = 27 ∧ 6 ≤ k ∧ k < 12)) : ∀ (v : fw_V), mf_Mo_beat_1_j21 v c i k = v c i k := by
  intro v
  unfold mf_Mo_beat_1_j21
  (try dsimp only)
  all_goals ((repeat' split) <;> (first | with_reducible rfl | (simp only [mr1_12 hc hi hg, mr1_13 hc hi hg, mr1_14 hc hi hg, mr1_15 hc hi hg, mr1_16 hc hi hg, mr1_17 hc hi hg, mr1_18 hc hi hg, mr1_19 hc hi hg, mr1_20 hc hi hg, mr1_21 hc hi hg, mr1_22 hc hi hg, mr1_23 hc hi hg, mr1_27_6 hc hi hg, mr1_27_7 hc hi hg, mr1_27_8 hc hi hg, mr1_27_9 hc hi hg, mr1_27_10 hc hi hg, mr1_27_11 hc hi hg, mr1_0 hc hi hg, mr1_9 hc hi hg, mr1_49 hc hi hg, mr1_send hc hi hg, mr1_Mo_beat_1_j22 hc hi hg, mr1_Mo_beat_1_j26 hc hi hg]; done)))
theorem mr1_Mo_beat_1_j20 {c i k : Nat} (hc : c ≠ 0 ∧ c ≠ 4 ∧ c ≠ 5 ∧ c ≠ 6 ∧ c ≠ 7 ∧ c ≠ 8 ∧ c ≠ 9 ∧ c ≠ 49) (hi : ¬ (k = 1 ∧ 12 ≤ c ∧ c ≤ 23)) (hg : ¬ (c = 27 ∧ 6 ≤ k ∧ k < 12)) : ∀ (v : fw_V), mf_Mo_beat_1_j20 v c i k = v c i k := by
  intro v
  unfold mf_Mo_beat_1_j20
  (try dsimp only)
  all_goals ((repeat' split) <;> (first | with_reducible rfl | (simp only [mr1_12 hc hi hg, mr1_13 hc hi hg, mr1_14 hc hi hg, mr1_15 hc hi hg, mr1_16 hc hi hg, mr1_17 hc hi hg, mr1_18 hc hi hg, mr1_19 hc hi hg, mr1_20 hc hi hg, mr1_21 hc hi hg, mr1_22 hc hi hg, mr1_23 hc hi hg, mr1_27_6 hc hi hg, mr1_27_7 hc hi hg, mr1_27_8 hc hi hg, mr1_27_9 hc hi hg, mr1_27_10 hc hi hg, mr1_27_11 hc hi hg, mr1_0 hc hi hg, mr1_9 hc hi hg, mr1_49 hc hi hg, mr1_send hc hi hg, mr1_Mo_beat_1_j21 hc hi hg]; done)))
theorem mr1_Mo_beat_1_j19 {c i k : Nat} (hc : c ≠ 0 ∧ c ≠ 4 ∧ c ≠ 5 ∧ c ≠ 6 ∧ c ≠ 7 ∧ c ≠ 8 ∧ c ≠ 9 ∧ c ≠ 49) (hi : ¬ (k = 1 ∧ 12 ≤ c ∧ c ≤ 23)) (hg : ¬ (c = 27 ∧ 6 ≤ k ∧ k < 12)) : ∀ (v : fw_V), mf_Mo_beat_1_j19 v c i k = v c i k := by
  intro v
  unfold mf_Mo_beat_1_j19
  (try dsimp only)
  all_goals ((repeat' split) <;> (first | with_reducible rfl | (simp only [mr1_12 hc hi hg, mr1_13 hc hi hg, mr1_14 hc hi hg, mr1_15 hc hi hg, mr1_16 hc hi hg, mr1_17 hc hi hg, mr1_18 hc hi hg, mr1_19 hc hi hg, mr1_20 hc hi hg, mr1_21 hc hi hg, mr1_22 hc hi hg, mr1_23 hc hi hg, mr1_27_6 hc hi hg, mr1_27_7 hc hi hg, mr1_27_8 hc hi hg, mr1_27_9 hc hi hg, mr1_27_10 hc hi hg, mr1_27_11 hc hi hg, mr1_0 hc hi hg, mr1_9 hc hi hg, mr1_49 hc hi hg, mr1_send hc hi hg, mr1_Mo_beat_1_j20 hc hi hg]; done)))
theorem mr1_Mo_beat_1_j18 {c i k : Nat} (hc : c ≠ 0 ∧ c ≠ 4 ∧ c ≠ 5 ∧ c ≠ 6 ∧ c ≠ 7 ∧ c ≠ 8 ∧ c ≠ 9 ∧ c ≠ 49) (hi : ¬ (k = 1 ∧ 12 ≤ c ∧ c ≤ 23)) (hg : ¬ (c = 27 ∧ 6 ≤ k ∧ k < 12)) : ∀ (v : fw_V), mf_Mo_beat_1_j18 v c i k = v c i k := by
  intro v
  unfold mf_Mo_beat_1_j18
  (try dsimp only)
  all_goals ((repeat' split) <;> (first | with_reducible rfl | (simp only [mr1_12 hc hi hg, mr1_13 hc hi hg, mr1_14 hc hi hg, mr1_15 hc hi hg, mr1_16 hc hi hg, mr1_17 hc hi hg, mr1_18 hc hi hg, mr1_19 hc hi hg, mr1_20 hc hi hg, mr1_21 hc hi hg, mr1_22 hc hi hg, mr1_23 hc hi hg, mr1_27_6 hc hi hg, mr1_27_7 hc hi hg, mr1_27_8 hc hi hg, mr1_27_9 hc hi hg, mr1_27_10 hc hi hg, mr1_27_11 hc hi hg, mr1_0 hc hi hg, mr1_9 hc hi hg, mr1_49 hc hi hg, mr1_send hc hi hg, mr1_Mo_beat_1_j19 hc hi hg]; done)))
theorem mr1_Mo_beat_1_j29 {c i k : Nat} (hc : c ≠ 0 ∧ c ≠ 4 ∧ c ≠ 5 ∧ c ≠ 6 ∧ c ≠ 7 ∧ c ≠ 8 ∧ c ≠ 9 ∧ c ≠ 49) (hi : ¬ (k = 1 ∧ 12 ≤ c ∧ c ≤ 23)) (hg : ¬ (c = 27 ∧ 6 ≤ k ∧ k < 12)) : ∀ (v : fw_V) (x90 : Int32), mf_Mo_beat_1_j29 v x90 c i k = v c i k := by
  intro v x90
  unfold mf_Mo_beat_1_j29
  (try dsimp only)
  all_goals ((repeat' split) <;> (first | with_reducible rfl | (simp only [mr1_12 hc hi hg, mr1_13 hc hi hg, mr1_14 hc hi hg, mr1_15 hc hi hg, mr1_16 hc hi hg, mr1_17 hc hi hg, mr1_18 hc hi hg, mr1_19 hc hi hg, mr1_20 hc hi hg, mr1_21 hc hi hg, mr1_22 hc hi hg, mr1_23 hc hi hg, mr1_27_6 hc hi hg, mr1_27_7 hc hi hg, mr1_27_8 hc hi hg, mr1_27_9 hc hi hg, mr1_27_10 hc hi hg, mr1_27_11 hc hi hg, mr1_0 hc hi hg, mr1_9 hc hi hg, mr1_49 hc hi hg, mr1_send hc hi hg, mr1_Mo_beat_1_j21 hc hi hg]; done)))
theorem mr1_Mo_beat_1_j28 {c i k : Nat} (hc : c ≠ 0 ∧ c ≠ 4 ∧ c ≠ 5 ∧ c ≠ 6 ∧ c ≠ 7 ∧ c ≠ 8 ∧ c ≠ 9 ∧ c ≠ 49) (hi : ¬ (k = 1 ∧ 12 ≤ c ∧ c ≤ 23)) (hg : ¬ (c = 27 ∧ 6 ≤ k ∧ k < 12)) : ∀ (v : fw_V), mf_Mo_beat_1_j28 v c i k = v c i k := by
  intro v
  unfold mf_Mo_beat_1_j28
  (try dsimp only)
  all_goals ((repeat' split) <;> (first | with_reducible rfl | (simp only [mr1_12 hc hi hg, mr1_13 hc hi hg, mr1_14 hc hi hg, mr1_15 hc hi hg, mr1_16 hc hi hg, mr1_17 hc hi hg, mr1_18 hc hi hg, mr1_19 hc hi hg, mr1_20 hc hi hg, mr1_21 hc hi hg, mr1_22 hc hi hg, mr1_23 hc hi hg, mr1_27_6 hc hi hg, mr1_27_7 hc hi hg, mr1_27_8 hc hi hg, mr1_27_9 hc hi hg, mr1_27_10 hc hi hg, mr1_27_11 hc hi hg, mr1_0 hc hi hg, mr1_9 hc hi hg, mr1_49 hc hi hg, mr1_send hc hi hg, mr1_Mo_beat_1_j29 hc hi hg]; done)))
theorem mr1_Mo_beat_1_j17 {c i k : Nat} (hc : c ≠ 0 ∧ c ≠ 4 ∧ c ≠ 5 ∧ c ≠ 6 ∧ c ≠ 7 ∧ c ≠ 8 ∧ c ≠ 9 ∧ c ≠ 49) (hi : ¬ (k = 1 ∧ 12 ≤ c ∧ c ≤ 23)) (hg : ¬ (c = 27 ∧ 6 ≤ k ∧ k < 12)) : ∀ (v : fw_V), mf_Mo_beat_1_j17 v c i k = v c i k := by
  intro v
  unfold mf_Mo_beat_1_j17
  (try dsimp only)
  all_goals ((repeat' split) <;> (first | with_reducible rfl | (simp only [mr1_12 hc hi hg, mr1_13 hc hi hg, mr1_14 hc hi hg, mr1_15 hc hi hg, mr1_16 hc hi hg, mr1_17 hc hi hg, mr1_18 hc hi hg, mr1_19 hc hi hg, mr1_20 hc hi hg, mr1_21 hc hi hg, mr1_22 hc hi hg, mr1_23 hc hi hg, mr1_27_6 hc hi hg, mr1_27_7 hc hi hg, mr1_27_8 hc hi hg, mr1_27_9 hc hi hg, mr1_27_10 hc hi hg, mr1_27_11 hc hi hg, mr1_0 hc hi hg, mr1_9 hc hi hg, mr1_49 hc hi hg, mr1_send hc hi hg, mr1_Mo_beat_1_j18 hc hi hg, mr1_Mo_beat_1_j28 hc hi hg]; done)))
theorem mr1_Mo_beat_1_j16 {c i k : Nat} (hc : c ≠ 0 ∧ c ≠ 4 ∧ c ≠ 5 ∧ c ≠ 6 ∧ c ≠ 7 ∧ c ≠ 8 ∧ c ≠ 9 ∧ c ≠ 49) (hi : ¬ (k = 1 ∧ 12 ≤ c ∧ c ≤ 23)) (hg : ¬ (c = 27 ∧ 6 ≤ k ∧ k < 12)) : ∀ (v : fw_V), mf_Mo_beat_1_j16 v c i k = v c i k := by
  intro v
  unfold mf_Mo_beat_1_j16
  (try dsimp only)
  all_goals ((repeat' split) <;> (first | with_reducible rfl | (simp only [mr1_12 hc hi hg, mr1_13 hc hi hg, mr1_14 hc hi hg, mr1_15 hc hi hg, mr1_16 hc hi hg, mr1_17 hc hi hg, mr1_18 hc hi hg, mr1_19 hc hi hg, mr1_20 hc hi hg, mr1_21 hc hi hg, mr1_22 hc hi hg, mr1_23 hc hi hg, mr1_27_6 hc hi hg, mr1_27_7 hc hi hg, mr1_27_8 hc hi hg, mr1_27_9 hc hi hg, mr1_27_10 hc hi hg, mr1_27_11 hc hi hg, mr1_0 hc hi hg, mr1_9 hc hi hg, mr1_49 hc hi hg, mr1_send hc hi hg, mr1_Mo_beat_1_j17 hc hi hg]; done)))
theorem mr1_Mo_beat_1_j15 {c i k : Nat} (hc : c ≠ 0 ∧ c ≠ 4 ∧ c ≠ 5 ∧ c ≠ 6 ∧ c ≠ 7 ∧ c ≠ 8 ∧ c ≠ 9 ∧ c ≠ 49) (hi : ¬ (k = 1 ∧ 12 ≤ c ∧ c ≤ 23)) (hg : ¬ (c = 27 ∧ 6 ≤ k ∧ k < 12)) : ∀ (v : fw_V), mf_Mo_beat_1_j15 v c i k = v c i k := by
  intro v
  unfold mf_Mo_beat_1_j15
  (try dsimp only)
  all_goals ((repeat' split) <;> (first | with_reducible rfl | (simp only [mr1_12 hc hi hg, mr1_13 hc hi hg, mr1_14 hc hi hg, mr1_15 hc hi hg, mr1_16 hc hi hg, mr1_17 hc hi hg, mr1_18 hc hi hg, mr1_19 hc hi hg, mr1_20 hc hi hg, mr1_21 hc hi hg, mr1_22 hc hi hg, mr1_23 hc hi hg, mr1_27_6 hc hi hg, mr1_27_7 hc hi hg, mr1_27_8 hc hi hg, mr1_27_9 hc hi hg, mr1_27_10 hc hi hg, mr1_27_11 hc hi hg, mr1_0 hc hi hg, mr1_9 hc hi hg, mr1_49 hc hi hg, mr1_send hc hi hg, mr1_Mo_beat_1_j16 hc hi hg]; done)))
theorem mr1_Mo_beat_1_j14 {c i k : Nat} (hc : c ≠ 0 ∧ c ≠ 4 ∧ c ≠ 5 ∧ c ≠ 6 ∧ c ≠ 7 ∧ c ≠ 8 ∧ c ≠ 9 ∧ c ≠ 49) (hi : ¬ (k = 1 ∧ 12 ≤ c ∧ c ≤ 23)) (hg : ¬ (c = 27 ∧ 6 ≤ k ∧ k < 12)) : ∀ (v : fw_V), mf_Mo_beat_1_j14 v c i k = v c i k := by
  intro v
  unfold mf_Mo_beat_1_j14
  (try dsimp only)
  all_goals ((repeat' split) <;> (first | with_reducible rfl | (simp only [mr1_12 hc hi hg, mr1_13 hc hi hg, mr1_14 hc hi hg, mr1_15 hc hi hg, mr1_16 hc hi hg, mr1_17 hc hi hg, mr1_18 hc hi hg, mr1_19 hc hi hg, mr1_20 hc hi hg, mr1_21 hc hi hg, mr1_22 hc hi hg, mr1_23 hc hi hg, mr1_27_6 hc hi hg, mr1_27_7 hc hi hg, mr1_27_8 hc hi hg, mr1_27_9 hc hi hg, mr1_27_10 hc hi hg, mr1_27_11 hc hi hg, mr1_0 hc hi hg, mr1_9 hc hi hg, mr1_49 hc hi hg, mr1_send hc hi hg, mr1_Mo_beat_1_j15 hc hi hg]; done)))
theorem mr1_Mo_beat_1_j31 {c i k : Nat} (hc : c ≠ 0 ∧ c ≠ 4 ∧ c ≠ 5 ∧ c ≠ 6 ∧ c ≠ 7 ∧ c ≠ 8 ∧ c ≠ 9 ∧ c ≠ 49) (hi : ¬ (k = 1 ∧ 12 ≤ c ∧ c ≤ 23)) (hg : ¬ (c = 27 ∧ 6 ≤ k ∧ k < 12)) : ∀ (v : fw_V) (x90 : Int32), mf_Mo_beat_1_j31 v x90 c i k = v c i k := by
  intro v x90
  unfold mf_Mo_beat_1_j31
  (try dsimp only)
  all_goals ((repeat' split) <;> (first | with_reducible rfl | (simp only [mr1_12 hc hi hg, mr1_13 hc hi hg, mr1_14 hc hi hg, mr1_15 hc hi hg, mr1_16 hc hi hg, mr1_17 hc hi hg, mr1_18 hc hi hg, mr1_19 hc hi hg, mr1_20 hc hi hg, mr1_21 hc hi hg, mr1_22 hc hi hg, mr1_23 hc hi hg, mr1_27_6 hc hi hg, mr1_27_7 hc hi hg, mr1_27_8 hc hi hg, mr1_27_9 hc hi hg, mr1_27_10 hc hi hg, mr1_27_11 hc hi hg, mr1_0 hc hi hg, mr1_9 hc hi hg, mr1_49 hc hi hg, mr1_send hc hi hg, mr1_Mo_beat_1_j17 hc hi hg]; done)))
theorem mr1_Mo_beat_1_j30 {c i k : Nat} (hc : c ≠ 0 ∧ c ≠ 4 ∧ c ≠ 5 ∧ c ≠ 6 ∧ c ≠ 7 ∧ c ≠ 8 ∧ c ≠ 9 ∧ c ≠ 49) (hi : ¬ (k = 1 ∧ 12 ≤ c ∧ c ≤ 23)) (hg : ¬ (c = 27 ∧ 6 ≤ k ∧ k < 12)) : ∀ (v : fw_V), mf_Mo_beat_1_j30 v c i k = v c i k := by
  intro v
  unfold mf_Mo_beat_1_j30
  (try dsimp only)
  all_goals ((repeat' split) <;> (first | with_reducible rfl | (simp only [mr1_12 hc hi hg, mr1_13 hc hi hg, mr1_14 hc hi hg, mr1_15 hc hi hg, mr1_16 hc hi hg, mr1_17 hc hi hg, mr1_18 hc hi hg, mr1_19 hc hi hg, mr1_20 hc hi hg, mr1_21 hc hi hg, mr1_22 hc hi hg, mr1_23 hc hi hg, mr1_27_6 hc hi hg, mr1_27_7 hc hi hg, mr1_27_8 hc hi hg, mr1_27_9 hc hi hg, mr1_27_10 hc hi hg, mr1_27_11 hc hi hg, mr1_0 hc hi hg, mr1_9 hc hi hg, mr1_49 hc hi hg, mr1_send hc hi hg, mr1_Mo_beat_1_j31 hc hi hg]; done)))
theorem mr1_Mo_beat_1_j13 {c i k : Nat} (hc : c ≠ 0 ∧ c ≠ 4 ∧ c ≠ 5 ∧ c ≠ 6 ∧ c ≠ 7 ∧ c ≠ 8 ∧ c ≠ 9 ∧ c ≠ 49) (hi : ¬ (k = 1 ∧ 12 ≤ c ∧ c ≤ 23)) (hg : ¬ (c = 27 ∧ 6 ≤ k ∧ k < 12)) : ∀ (v : fw_V), mf_Mo_beat_1_j13 v c i k = v c i k := by
  intro v
  unfold mf_Mo_beat_1_j13
  (try dsimp only)
  all_goals ((repeat' split) <;> (first | with_reducible rfl | (simp only [mr1_12 hc hi hg, mr1_13 hc hi hg, mr1_14 hc hi hg, mr1_15 hc hi hg, mr1_16 hc hi hg, mr1_17 hc hi hg, mr1_18 hc hi hg, mr1_19 hc hi hg, mr1_20 hc hi hg, mr1_21 hc hi hg, mr1_22 hc hi hg, mr1_23 hc hi hg, mr1_27_6 hc hi hg, mr1_27_7 hc hi hg, mr1_27_8 hc hi hg, mr1_27_9 hc hi hg, mr1_27_10 hc hi hg, mr1_27_11 hc hi hg, mr1_0 hc hi hg, mr1_9 hc hi hg, mr1_49 hc hi hg, mr1_send hc hi hg, mr1_Mo_beat_1_j14 hc hi hg, mr1_Mo_beat_1_j30 hc hi hg]; done)))
theorem mr1_Mo_beat_1_j12 {c i k : Nat} (hc : c ≠ 0 ∧ c ≠ 4 ∧ c ≠ 5 ∧ c ≠ 6 ∧ c ≠ 7 ∧ c ≠ 8 ∧ c ≠ 9 ∧ c ≠ 49) (hi : ¬ (k = 1 ∧ 12 ≤ c ∧ c ≤ 23)) (hg : ¬ (c = 27 ∧ 6 ≤ k ∧ k < 12)) : ∀ (v : fw_V), mf_Mo_beat_1_j12 v c i k = v c i k := by
  intro v
  unfold mf_Mo_beat_1_j12
  (try dsimp only)
  all_goals ((repeat' split) <;> (first | with_reducible rfl | (simp only [mr1_12 hc hi hg, mr1_13 hc hi hg, mr1_14 hc hi hg, mr1_15 hc hi hg, mr1_16 hc hi hg, mr1_17 hc hi hg, mr1_18 hc hi hg, mr1_19 hc hi hg, mr1_20 hc hi hg, mr1_21 hc hi hg, mr1_22 hc hi hg, mr1_23 hc hi hg, mr1_27_6 hc hi hg, mr1_27_7 hc hi hg, mr1_27_8 hc hi hg, mr1_27_9 hc hi hg, mr1_27_10 hc hi hg, mr1_27_11 hc hi hg, mr1_0 hc hi hg, mr1_9 hc hi hg, mr1_49 hc hi hg, mr1_send hc hi hg, mr1_Mo_beat_1_j13 hc hi hg]; done)))
theorem mr1_Mo_beat_1_j11 {c i k : Nat} (hc : c ≠ 0 ∧ c ≠ 4 ∧ c ≠ 5 ∧ c ≠ 6 ∧ c ≠ 7 ∧ c ≠ 8 ∧ c ≠ 9 ∧ c ≠ 49) (hi : ¬ (k = 1 ∧ 12 ≤ c ∧ c ≤ 23)) (hg : ¬ (c = 27 ∧ 6 ≤ k ∧ k < 12)) : ∀ (v : fw_V), mf_Mo_beat_1_j11 v c i k = v c i k := by
  intro v
  unfold mf_Mo_beat_1_j11
  (try dsimp only)
  all_goals ((repeat' split) <;> (first | with_reducible rfl | (simp only [mr1_12 hc hi hg, mr1_13 hc hi hg, mr1_14 hc hi hg, mr1_15 hc hi hg, mr1_16 hc hi hg, mr1_17 hc hi hg, mr1_18 hc hi hg, mr1_19 hc hi hg, mr1_20 hc hi hg, mr1_21 hc hi hg, mr1_22 hc hi hg, mr1_23 hc hi hg, mr1_27_6 hc hi hg, mr1_27_7 hc hi hg, mr1_27_8 hc hi hg, mr1_27_9 hc hi hg, mr1_27_10 hc hi hg, mr1_27_11 hc hi hg, mr1_0 hc hi hg, mr1_9 hc hi hg, mr1_49 hc hi hg, mr1_send hc hi hg, mr1_Mo_beat_1_j12 hc hi hg]; done)))
theorem mr1_Mo_beat_1_j10 {c i k : Nat} (hc : c ≠ 0 ∧ c ≠ 4 ∧ c ≠ 5 ∧ c ≠ 6 ∧ c ≠ 7 ∧ c ≠ 8 ∧ c ≠ 9 ∧ c ≠ 49) (hi : ¬ (k = 1 ∧ 12 ≤ c ∧ c ≤ 23)) (hg : ¬ (c = 27 ∧ 6 ≤ k ∧ k < 12)) : ∀ (v : fw_V), mf_Mo_beat_1_j10 v c i k = v c i k := by
  intro v
  unfold mf_Mo_beat_1_j10
  (try dsimp only)
  all_goals ((repeat' split) <;> (first | with_reducible rfl | (simp only [mr1_12 hc hi hg, mr1_13 hc hi hg, mr1_14 hc hi hg, mr1_15 hc hi hg, mr1_16 hc hi hg, mr1_17 hc hi hg, mr1_18 hc hi hg, mr1_19 hc hi hg, mr1_20 hc hi hg, mr1_21 hc hi hg, mr1_22 hc hi hg, mr1_23 hc hi hg, mr1_27_6 hc hi hg, mr1_27_7 hc hi hg, mr1_27_8 hc hi hg, mr1_27_9 hc hi hg, mr1_27_10 hc hi hg, mr1_27_11 hc hi hg, mr1_0 hc hi hg, mr1_9 hc hi hg, mr1_49 hc hi hg, mr1_send hc hi hg, mr1_Mo_beat_1_j11 hc hi hg]; done)))
theorem mr1_Mo_beat_1_j33 {c i k : Nat} (hc : c ≠ 0 ∧ c ≠ 4 ∧ c ≠ 5 ∧ c ≠ 6 ∧ c ≠ 7 ∧ c ≠ 8 ∧ c ≠ 9 ∧ c ≠ 49) (hi : ¬ (k = 1 ∧ 12 ≤ c ∧ c ≤ 23)) (hg : ¬ (c = 27 ∧ 6 ≤ k ∧ k < 12)) : ∀ (v : fw_V) (x90 : Int32), mf_Mo_beat_1_j33 v x90 c i k = v c i k := by
  intro v x90
  unfold mf_Mo_beat_1_j33
  (try dsimp only)
  all_goals ((repeat' split) <;> (first | with_reducible rfl | (simp only [mr1_12 hc hi hg, mr1_13 hc hi hg, mr1_14 hc hi hg, mr1_15 hc hi hg, mr1_16 hc hi hg, mr1_17 hc hi hg, mr1_18 hc hi hg, mr1_19 hc hi hg, mr1_20 hc hi hg, mr1_21 hc hi hg, mr1_22 hc hi hg, mr1_23 hc hi hg, mr1_27_6 hc hi hg, mr1_27_7 hc hi hg, mr1_27_8 hc hi hg, mr1_27_9 hc hi hg, mr1_27_10 hc hi hg, mr1_27_11 hc hi hg, mr1_0 hc hi hg, mr1_9 hc hi hg, mr1_49 hc hi hg, mr1_send hc hi hg, mr1_Mo_beat_1_j13 hc hi hg]; done)))
theorem mr1_Mo_beat_1_j32 {c i k : Nat} (hc : c ≠ 0 ∧ c ≠ 4 ∧ c ≠ 5 ∧ c ≠ 6 ∧ c ≠ 7 ∧ c ≠ 8 ∧ c ≠ 9 ∧ c ≠ 49) (hi : ¬ (k = 1 ∧ 12 ≤ c ∧ c ≤ 23)) (hg : ¬ (c = 27 ∧ 6 ≤ k ∧ k < 12)) : ∀ (v : fw_V), mf_Mo_beat_1_j32 v c i k = v c i k := by
  intro v
  unfold mf_Mo_beat_1_j32
  (try dsimp only)
  all_goals ((repeat' split) <;> (first | with_reducible rfl | (simp only [mr1_12 hc hi hg, mr1_13 hc hi hg, mr1_14 hc hi hg, mr1_15 hc hi hg, mr1_16 hc hi hg, mr1_17 hc hi hg, mr1_18 hc hi hg, mr1_19 hc hi hg, mr1_20 hc hi hg, mr1_21 hc hi hg, mr1_22 hc hi hg, mr1_23 hc hi hg, mr1_27_6 hc hi hg, mr1_27_7 hc hi hg, mr1_27_8 hc hi hg, mr1_27_9 hc hi hg, mr1_27_10 hc hi hg, mr1_27_11 hc hi hg, mr1_0 hc hi hg, mr1_9 hc hi hg, mr1_49 hc hi hg, mr1_send hc hi hg, mr1_Mo_beat_1_j33 hc hi hg]; done)))
theorem mr1_Mo_beat_1_j9 {c i k : Nat} (hc : c ≠ 0 ∧ c ≠ 4 ∧ c ≠ 5 ∧ c ≠ 6 ∧ c ≠ 7 ∧ c ≠ 8 ∧ c ≠ 9 ∧ c ≠ 49) (hi : ¬ (k = 1 ∧ 12 ≤ c ∧ c ≤ 23)) (hg : ¬ (c = 27 ∧ 6 ≤ k ∧ k < 12)) : ∀ (v : fw_V), mf_Mo_beat_1_j9 v c i k = v c i k := by
  intro v
  unfold mf_Mo_beat_1_j9
  (try dsimp only)
  all_goals ((repeat' split) <;> (first | with_reducible rfl | (simp only [mr1_12 hc hi hg, mr1_13 hc hi hg, mr1_14 hc hi hg, mr1_15 hc hi hg, mr1_16 hc hi hg, mr1_17 hc hi hg, mr1_18 hc hi hg, mr1_19 hc hi hg, mr1_20 hc hi hg, mr1_21 hc hi hg, mr1_22 hc hi hg, mr1_23 hc hi hg, mr1_27_6 hc hi hg, mr1_27_7 hc hi hg, mr1_27_8 hc hi hg, mr1_27_9 hc hi hg, mr1_27_10 hc hi hg, mr1_27_11 hc hi hg, mr1_0 hc hi hg, mr1_9 hc hi hg, mr1_49 hc hi hg, mr1_send hc hi hg, mr1_Mo_beat_1_j10 hc hi hg, mr1_Mo_beat_1_j32 hc hi hg]; done)))
theorem mr1_Mo_beat_1_j8 {c i k : Nat} (hc : c ≠ 0 ∧ c ≠ 4 ∧ c ≠ 5 ∧ c ≠ 6 ∧ c ≠ 7 ∧ c ≠ 8 ∧ c ≠ 9 ∧ c ≠ 49) (hi : ¬ (k = 1 ∧ 12 ≤ c ∧ c ≤ 23)) (hg : ¬ (c = 27 ∧ 6 ≤ k ∧ k < 12)) : ∀ (v : fw_V), mf_Mo_beat_1_j8 v c i k = v c i k := by
  intro v
  unfold mf_Mo_beat_1_j8
  (try dsimp only)
  all_goals ((repeat' split) <;> (first | with_reducible rfl | (simp only [mr1_12 hc hi hg, mr1_13 hc hi hg, mr1_14 hc hi hg, mr1_15 hc hi hg, mr1_16 hc hi hg, mr1_17 hc hi hg, mr1_18 hc hi hg, mr1_19 hc hi hg, mr1_20 hc hi hg, mr1_21 hc hi hg, mr1_22 hc hi hg, mr1_23 hc hi hg, mr1_27_6 hc hi hg, mr1_27_7 hc hi hg, mr1_27_8 hc hi hg, mr1_27_9 hc hi hg, mr1_27_10 hc hi hg, mr1_27_11 hc hi hg, mr1_0 hc hi hg, mr1_9 hc hi hg, mr1_49 hc hi hg, mr1_send hc hi hg, mr1_Mo_beat_1_j9 hc hi hg]; done)))
theorem mr1_Mo_beat_1_j7 {c i k : Nat} (hc : c ≠ 0 ∧ c ≠ 4 ∧ c ≠ 5 ∧ c ≠ 6 ∧ c ≠ 7 ∧ c ≠ 8 ∧ c ≠ 9 ∧ c ≠ 49) (hi : ¬ (k = 1 ∧ 12 ≤ c ∧ c ≤ 23)) (hg : ¬ (c = 27 ∧ 6 ≤ k ∧ k < 12)) : ∀ (v : fw_V), mf_Mo_beat_1_j7 v c i k = v c i k := by
  intro v
  unfold mf_Mo_beat_1_j7
  (try dsimp only)
  all_goals ((repeat' split) <;> (first | with_reducible rfl | (simp only [mr1_12 hc hi hg, mr1_13 hc hi hg, mr1_14 hc hi hg, mr1_15 hc hi hg, mr1_16 hc hi hg, mr1_17 hc hi hg, mr1_18 hc hi hg, mr1_19 hc hi hg, mr1_20 hc hi hg, mr1_21 hc hi hg, mr1_22 hc hi hg, mr1_23 hc hi hg, mr1_27_6 hc hi hg, mr1_27_7 hc hi hg, mr1_27_8 hc hi hg, mr1_27_9 hc hi hg, mr1_27_10 hc hi hg, mr1_27_11 hc hi hg, mr1_0 hc hi hg, mr1_9 hc hi hg, mr1_49 hc hi hg, mr1_send hc hi hg, mr1_Mo_beat_1_j8 hc hi hg]; done)))
theorem mr1_Mo_beat_1_j6 {c i k : Nat} (hc : c ≠ 0 ∧ c ≠ 4 ∧ c ≠ 5 ∧ c ≠ 6 ∧ c ≠ 7 ∧ c ≠ 8 ∧ c ≠ 9 ∧ c ≠ 49) (hi : ¬ (k = 1 ∧ 12 ≤ c ∧ c ≤ 23)) (hg : ¬ (c = 27 ∧ 6 ≤ k ∧ k < 12)) : ∀ (v : fw_V), mf_Mo_beat_1_j6 v c i k = v c i k := by
  intro v
  unfold mf_Mo_beat_1_j6
  (try dsimp only)
  all_goals ((repeat' split) <;> (first | with_reducible rfl | (simp only [mr1_12 hc hi hg, mr1_13 hc hi hg, mr1_14 hc hi hg, mr1_15 hc hi hg, mr1_16 hc hi hg, mr1_17 hc hi hg, mr1_18 hc hi hg, mr1_19 hc hi hg, mr1_20 hc hi hg, mr1_21 hc hi hg, mr1_22 hc hi hg, mr1_23 hc hi hg, mr1_27_6 hc hi hg, mr1_27_7 hc hi hg, mr1_27_8 hc hi hg, mr1_27_9 hc hi hg, mr1_27_10 hc hi hg, mr1_27_11 hc hi hg, mr1_0 hc hi hg, mr1_9 hc hi hg, mr1_49 hc hi hg, mr1_send hc hi hg, mr1_Mo_beat_1_j7 hc hi hg]; done)))
theorem mr1_Mo_beat_1_j35 {c i k : Nat} (hc : c ≠ 0 ∧ c ≠ 4 ∧ c ≠ 5 ∧ c ≠ 6 ∧ c ≠ 7 ∧ c ≠ 8 ∧ c ≠ 9 ∧ c ≠ 49) (hi : ¬ (k = 1 ∧ 12 ≤ c ∧ c ≤ 23)) (hg : ¬ (c = 27 ∧ 6 ≤ k ∧ k < 12)) : ∀ (v : fw_V) (x90 : Int32), mf_Mo_beat_1_j35 v x90 c i k = v c i k := by
  intro v x90
  unfold mf_Mo_beat_1_j35
  (try dsimp only)
  all_goals ((repeat' split) <;> (first | with_reducible rfl | (simp only [mr1_12 hc hi hg, mr1_13 hc hi hg, mr1_14 hc hi hg, mr1_15 hc hi hg, mr1_16 hc hi hg, mr1_17 hc hi hg, mr1_18 hc hi hg, mr1_19 hc hi hg, mr1_20 hc hi hg, mr1_21 hc hi hg, mr1_22 hc hi hg, mr1_23 hc hi hg, mr1_27_6 hc hi hg, mr1_27_7 hc hi hg, mr1_27_8 hc hi hg, mr1_27_9 hc hi hg, mr1_27_10 hc hi hg, mr1_27_11 hc hi hg, mr1_0 hc hi hg, mr1_9 hc hi hg, mr1_49 hc hi hg, mr1_send hc hi hg, mr1_Mo_beat_1_j9 hc hi hg]; done)))
theorem mr1_Mo_beat_1_j34 {c i k : Nat} (hc : c ≠ 0 ∧ c ≠ 4 ∧ c ≠ 5 ∧ c ≠ 6 ∧ c ≠ 7 ∧ c ≠ 8 ∧ c ≠ 9 ∧ c ≠ 49) (hi : ¬ (k = 1 ∧ 12 ≤ c ∧ c ≤ 23)) (hg : ¬ (c = 27 ∧ 6 ≤ k ∧ k < 12)) : ∀ (v : fw_V), mf_Mo_beat_1_j34 v c i k = v c i k := by
  intro v
  unfold mf_Mo_beat_1_j34
  (try dsimp only)
  all_goals ((repeat' split) <;> (first | with_reducible rfl | (simp only [mr1_12 hc hi hg, mr1_13 hc hi hg, mr1_14 hc hi hg, mr1_15 hc hi hg, mr1_16 hc hi hg, mr1_17 hc hi hg, mr1_18 hc hi hg, mr1_19 hc hi hg, mr1_20 hc hi hg, mr1_21 hc hi hg, mr1_22 hc hi hg, mr1_23 hc hi hg, mr1_27_6 hc hi hg, mr1_27_7 hc hi hg, mr1_27_8 hc hi hg, mr1_27_9 hc hi hg, mr1_27_10 hc hi hg, mr1_27_11 hc hi hg, mr1_0 hc hi hg, mr1_9 hc hi hg, mr1_49 hc hi hg, mr1_send hc hi hg, mr1_Mo_beat_1_j35 hc hi hg]; done)))
theorem mr1_Mo_beat_1_j5 {c i k : Nat} (hc : c ≠ 0 ∧ c ≠ 4 ∧ c ≠ 5 ∧ c ≠ 6 ∧ c ≠ 7 ∧ c ≠ 8 ∧ c ≠ 9 ∧ c ≠ 49) (hi : ¬ (k = 1 ∧ 12 ≤ c ∧ c ≤ 23)) (hg : ¬ (c = 27 ∧ 6 ≤ k ∧ k < 12)) : ∀ (v : fw_V), mf_Mo_beat_1_j5 v c i k = v c i k := by
  intro v
  unfold mf_Mo_beat_1_j5
  (try dsimp only)
  all_goals ((repeat' split) <;> (first | with_reducible rfl | (simp only [mr1_12 hc hi hg, mr1_13 hc hi hg, mr1_14 hc hi hg, mr1_15 hc hi hg, mr1_16 hc hi hg, mr1_17 hc hi hg, mr1_18 hc hi hg, mr1_19 hc hi hg, mr1_20 hc hi hg, mr1_21 hc hi hg, mr1_22 hc hi hg, mr1_23 hc hi hg, mr1_27_6 hc hi hg, mr1_27_7 hc hi hg, mr1_27_8 hc hi hg, mr1_27_9 hc hi hg, mr1_27_10 hc hi hg, mr1_27_11 hc hi hg, mr1_0 hc hi hg, mr1_9 hc hi hg, mr1_49 hc hi hg, mr1_send hc hi hg, mr1_Mo_beat_1_j6 hc hi hg, mr1_Mo_beat_1_j34 hc hi hg]; done)))
theorem mr1_Mo_beat_1_j4 {c i k : Nat} (hc : c ≠ 0 ∧ c ≠ 4 ∧ c ≠ 5 ∧ c ≠ 6 ∧ c ≠ 7 ∧ c ≠ 8 ∧ c ≠ 9 ∧ c ≠ 49) (hi : ¬ (k = 1 ∧ 12 ≤ c ∧ c ≤ 23)) (hg : ¬ (c = 27 ∧ 6 ≤ k ∧ k < 12)) : ∀ (v : fw_V), mf_Mo_beat_1_j4 v c i k = v c i k := by
  intro v
  unfold mf_Mo_beat_1_j4
  (try dsimp only)
  all_goals ((repeat' split) <;> (first | with_reducible rfl | (simp only [mr1_12 hc hi hg, mr1_13 hc hi hg, mr1_14 hc hi hg, mr1_15 hc hi hg, mr1_16 hc hi hg, mr1_17 hc hi hg, mr1_18 hc hi hg, mr1_19 hc hi hg, mr1_20 hc hi hg, mr1_21 hc hi hg, mr1_22 hc hi hg, mr1_23 hc hi hg, mr1_27_6 hc hi hg, mr1_27_7 hc hi hg, mr1_27_8 hc hi hg, mr1_27_9 hc hi hg, mr1_27_10 hc hi hg, mr1_27_11 hc hi hg, mr1_0 hc hi hg, mr1_9 hc hi hg, mr1_49 hc hi hg, mr1_send hc hi hg, mr1_Mo_beat_1_j5 hc hi hg]; done)))
theorem mr1_Mo_beat_1_j3 {c i k : Nat} (hc : c ≠ 0 ∧ c ≠ 4 ∧ c ≠ 5 ∧ c ≠ 6 ∧ c ≠ 7 ∧ c ≠ 8 ∧ c ≠ 9 ∧ c ≠ 49) (hi : ¬ (k = 1 ∧ 12 ≤ c ∧ c ≤ 23)) (hg : ¬ (c = 27 ∧ 6 ≤ k ∧ k < 12)) : ∀ (v : fw_V), mf_Mo_beat_1_j3 v c i k = v c i k := by
  intro v
  unfold mf_Mo_beat_1_j3
  (try dsimp only)
  all_goals ((repeat' split) <;> (first | with_reducible rfl | (simp only [mr1_12 hc hi hg, mr1_13 hc hi hg, mr1_14 hc hi hg, mr1_15 hc hi hg, mr1_16 hc hi hg, mr1_17 hc hi hg, mr1_18 hc hi hg, mr1_19 hc hi hg, mr1_20 hc hi hg, mr1_21 hc hi hg, mr1_22 hc hi hg, mr1_23 hc hi hg, mr1_27_6 hc hi hg, mr1_27_7 hc hi hg, mr1_27_8 hc hi hg, mr1_27_9 hc hi hg, mr1_27_10 hc hi hg, mr1_27_11 hc hi hg, mr1_0 hc hi hg, mr1_9 hc hi hg, mr1_49 hc hi hg, mr1_send hc hi hg, mr1_Mo_beat_1_j4 hc hi hg]; done)))
theorem mr1_Mo_beat_1_j2 {c i k : Nat} (hc : c ≠ 0 ∧ c ≠ 4 ∧ c ≠ 5 ∧ c ≠ 6 ∧ c ≠ 7 ∧ c ≠ 8 ∧ c ≠ 9 ∧ c ≠ 49) (hi : ¬ (k = 1 ∧ 12 ≤ c ∧ c ≤ 23)) (hg : ¬ (c = 27 ∧ 6 ≤ k ∧ k < 12)) : ∀ (v : fw_V), mf_Mo_beat_1_j2 v c i k = v c i k := by
  intro v
  unfold mf_Mo_beat_1_j2
  (try dsimp only)
  all_goals ((repeat' split) <;> (first | with_reducible rfl | (simp only [mr1_12 hc hi hg, mr1_13 hc hi hg, mr1_14 hc hi hg, mr1_15 hc hi hg, mr1_16 hc hi hg, mr1_17 hc hi hg, mr1_18 hc hi hg, mr1_19 hc hi hg, mr1_20 hc hi hg, mr1_21 hc hi hg, mr1_22 hc hi hg, mr1_23 hc hi hg, mr1_27_6 hc hi hg, mr1_27_7 hc hi hg, mr1_27_8 hc hi hg, mr1_27_9 hc hi hg, mr1_27_10 hc hi hg, mr1_27_11 hc hi hg, mr1_0 hc hi hg, mr1_9 hc hi hg, mr1_49 hc hi hg, mr1_send hc hi hg, mr1_Mo_beat_1_j3 hc hi hg]; done)))
theorem mr1_Mo_beat_1_j37 {c i k : Nat} (hc : c ≠ 0 ∧ c ≠ 4 ∧ c ≠ 5 ∧ c ≠ 6 ∧ c ≠ 7 ∧ c ≠ 8 ∧ c ≠ 9 ∧ c ≠ 49) (hi : ¬ (k = 1 ∧ 12 ≤ c ∧ c ≤ 23)) (hg : ¬ (c = 27 ∧ 6 ≤ k ∧ k < 12)) : ∀ (v : fw_V) (x90 : Int32), mf_Mo_beat_1_j37 v x90 c i k = v c i k := by
  intro v x90
  unfold mf_Mo_beat_1_j37
  (try dsimp only)
  all_goals ((repeat' split) <;> (first | with_reducible rfl | (simp only [mr1_12 hc hi hg, mr1_13 hc hi hg, mr1_14 hc hi hg, mr1_15 hc hi hg, mr1_16 hc hi hg, mr1_17 hc hi hg, mr1_18 hc hi hg, mr1_19 hc hi hg, mr1_20 hc hi hg, mr1_21 hc hi hg, mr1_22 hc hi hg, mr1_23 hc hi hg, mr1_27_6 hc hi hg, mr1_27_7 hc hi hg, mr1_27_8 hc hi hg, mr1_27_9 hc hi hg, mr1_27_10 hc hi hg, mr1_27_11 hc hi hg, mr1_0 hc hi hg, mr1_9 hc hi hg, mr1_49 hc hi hg, mr1_send hc hi hg, mr1_Mo_beat_1_j5 hc hi hg]; done)))
theorem mr1_Mo_beat_1_j36 {c i k : Nat} (hc : c ≠ 0 ∧ c ≠ 4 ∧ c ≠ 5 ∧ c ≠ 6 ∧ c ≠ 7 ∧ c ≠ 8 ∧ c ≠ 9 ∧ c ≠ 49) (hi : ¬ (k = 1 ∧ 12 ≤ c ∧ c ≤ 23)) (hg : ¬ (c = 27 ∧ 6 ≤ k ∧ k < 12)) : ∀ (v : fw_V), mf_Mo_beat_1_j36 v c i k = v c i k := by
  intro v
  unfold mf_Mo_beat_1_j36
  (try dsimp only)
  all_goals ((repeat' split) <;> (first | with_reducible rfl | (simp only [mr1_12 hc hi hg, mr1_13 hc hi hg, mr1_14 hc hi hg, mr1_15 hc hi hg, mr1_16 hc hi hg, mr1_17 hc hi hg, mr1_18 hc hi hg, mr1_19 hc hi hg, mr1_20 hc hi hg, mr1_21 hc hi hg, mr1_22 hc hi hg, mr1_23 hc hi hg, mr1_27_6 hc hi hg, mr1_27_7 hc hi hg, mr1_27_8 hc hi hg, mr1_27_9 hc hi hg, mr1_27_10 hc hi hg, mr1_27_11 hc hi hg, mr1_0 hc hi hg, mr1_9 hc hi hg, mr1_49 hc hi hg, mr1_send hc hi hg, mr1_Mo_beat_1_j37 hc hi hg]; done)))
theorem mr1_Mo_beat_1_j1 {c i k : Nat} (hc : c ≠ 0 ∧ c ≠ 4 ∧ c ≠ 5 ∧ c ≠ 6 ∧ c ≠ 7 ∧ c ≠ 8 ∧ c ≠ 9 ∧ c ≠ 49) (hi : ¬ (k = 1 ∧ 12 ≤ c ∧ c ≤ 23)) (hg : ¬ (c = 27 ∧ 6 ≤ k ∧ k < 12)) : ∀ (v : fw_V), mf_Mo_beat_1_j1 v c i k = v c i k := by
  intro v
  unfold mf_Mo_beat_1_j1
  (try dsimp only)
  all_goals ((repeat' split) <;> (first | with_reducible rfl | (simp only [mr1_12 hc hi hg, mr1_13 hc hi hg, mr1_14 hc hi hg, mr1_15 hc hi hg, mr1_16 hc hi hg, mr1_17 hc hi hg, mr1_18 hc hi hg, mr1_19 hc hi hg, mr1_20 hc hi hg, mr1_21 hc hi hg, mr1_22 hc hi hg, mr1_23 hc hi hg, mr1_27_6 hc hi hg, mr1_27_7 hc hi hg, mr1_27_8 hc hi hg, mr1_27_9 hc hi hg, mr1_27_10 hc hi hg, mr1_27_11 hc hi hg, mr1_0 hc hi hg, mr1_9 hc hi hg, mr1_49 hc hi hg, mr1_send hc hi hg, mr1_Mo_beat_1_j2 hc hi hg, mr1_Mo_beat_1_j36 hc hi hg]; done)))
theorem mr1_Mo_beat_1 {c i k : Nat} (hc : c ≠ 0 ∧ c ≠ 4 ∧ c ≠ 5 ∧ c ≠ 6 ∧ c ≠ 7 ∧ c ≠ 8 ∧ c ≠ 9 ∧ c ≠ 49) (hi : ¬ (k = 1 ∧ 12 ≤ c ∧ c ≤ 23)) (hg : ¬ (c = 27 ∧ 6 ≤ k ∧ k < 12)) : ∀ (v0 : fw_V), mf_Mo_beat_1 v0 c i k = v0 c i k := by
  intro v0
  unfold mf_Mo_beat_1
  (try dsimp only)
  all_goals ((repeat' split) <;> (first | with_reducible rfl | (simp only [mr1_12 hc hi hg, mr1_13 hc hi hg, mr1_14 hc hi hg, mr1_15 hc hi hg, mr1_16 hc hi hg, mr1_17 hc hi hg, mr1_18 hc hi hg, mr1_19 hc hi hg, mr1_20 hc hi hg, mr1_21 hc hi hg, mr1_22 hc hi hg, mr1_23 hc hi hg, mr1_27_6 hc hi hg, mr1_27_7 hc hi hg, mr1_27_8 hc hi hg, mr1_27_9 hc hi hg, mr1_27_10 hc hi hg, mr1_27_11 hc hi hg, mr1_0 hc hi hg, mr1_9 hc hi hg, mr1_49 hc hi hg, mr1_send hc hi hg, mr1_Mo_breakOff_1 hc hi hg, mr1_Mo_beat_1_j1 hc hi hg, mr1_Mo_ask_1 hc hi hg]; done)))

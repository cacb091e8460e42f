theorem ro_13 {r c i k : Nat} (hc : c ≠ 5 ∧ c ≠ 7 ∧ c ≠ 8 ∧ c ≠ 9 ∧ c ≠ 10) (hi : ¬ (i = r ∧ (c = 13 ∨ c = 14 ∨ c = 18))) (v : fw_V) (k0 : Nat) (x : Int32) : fw_up v 13 r k0 x c i k = v c i k := fw_up_ne (fun q => hi ⟨q.2.1, Or.inl q.1⟩)
theorem ro_14 {r c i k : Nat} (hc : c ≠ 5 ∧ c ≠ 7 ∧ c ≠ 8 ∧ c ≠ 9 ∧ c ≠ 10) (hi : ¬ (i = r ∧ (c = 13 ∨ c = 14 ∨ c = 18))) (v : fw_V) (k0 : Nat) (x : Int32) : fw_up v 14 r k0 x c i k = v c i k := fw_up_ne (fun q => hi ⟨q.2.1, Or.inr (Or.inl q.1)⟩)
theorem ro_18 {r c i k : Nat} (hc : c ≠ 5 ∧ c ≠ 7 ∧ c ≠ 8 ∧ c ≠ 9 ∧ c ≠ 10) (hi : ¬ (i = r ∧ (c = 13 ∨ c = 14 ∨ c = 18))) (v : fw_V) (g : Nat → Int32) : fw_row v 18 r g c i k = v c i k := fw_row_ne (fun q => hi ⟨q.2, Or.inr (Or.inr q.1)⟩)
theorem ro_8 {r c i k : Nat} (hc : c ≠ 5 ∧ c ≠ 7 ∧ c ≠ 8 ∧ c ≠ 9 ∧ c ≠ 10) (hi : ¬ (i = r ∧ (c = 13 ∨ c = 14 ∨ c = 18))) (v : fw_V) (y k0 : Nat) (x : Int32) : fw_up v 8 y k0 x c i k = v c i k := fw_up_c hc.2.2.1
theorem ro_9 {r c i k : Nat} (hc : c ≠ 5 ∧ c ≠ 7 ∧ c ≠ 8 ∧ c ≠ 9 ∧ c ≠ 10) (hi : ¬ (i = r ∧ (c = 13 ∨ c = 14 ∨ c = 18))) (v : fw_V) (y k0 : Nat) (x : Int32) : fw_up v 9 y k0 x c i k = v c i k := fw_up_c hc.2.2.2.1
theorem ro_10 {r c i k : Nat} (hc : c ≠ 5 ∧ c ≠ 7 ∧ c ≠ 8 ∧ c ≠ 9 ∧ c ≠ 10) (hi : ¬ (i = r ∧ (c = 13 ∨ c = 14 ∨ c = 18))) (v : fw_V) (y k0 : Nat) (x : Int32) : fw_up v 10 y k0 x c i k = v c i k := fw_up_c hc.2.2.2.2
theorem ro_send {r c i k : Nat} (hc : c ≠ 5 ∧ c ≠ 7 ∧ c ≠ 8 ∧ c ≠ 9 ∧ c ≠ 10) (hi : ¬ (i = r ∧ (c = 13 ∨ c = 14 ∨ c = 18))) (v : fw_V) (a b c' d : Int32) : (xf_Wi_send v a b c' d).2 c i k = v c i k := xsend_c hc.1 hc.2.1 hc.2.2.1
theorem ro_Re_enter {r c i k : Nat} (hc : c ≠ 5 ∧ c ≠ 7 ∧ c ≠ 8 ∧ c ≠ 9 ∧ c ≠ 10) (hi : ¬ (i = r ∧ (c = 13 ∨ c = 14 ∨ c = 18))) : ∀ (v0 : fw_V) (a1 : Int32), xf_Re_enter v0 r a1 c i k = v0 c i k := by
  intro v0 a1
  unfold xf_Re_enter
  (try dsimp only)
  all_goals ((repeat' split) <;> (first | with_reducible rfl | (simp only [ro_13 hc hi, ro_14 hc hi, ro_18 hc hi, ro_8 hc hi, ro_9 hc hi, ro_10 hc hi, ro_send hc hi]; done)))
theorem ro_Re_shut {r c i k : Nat} (hc : c ≠ 5 ∧ c ≠ 7 ∧ c ≠ 8 ∧ c ≠ 9 ∧ c ≠ 10) (hi : ¬ (i = r ∧ (c = 13 ∨ c = 14 ∨ c = 18))) : ∀ (v0 : fw_V), xf_Re_shut v0 r c i k = v0 c i k := by
  intro v0
  unfold xf_Re_shut
  (try dsimp only)
  all_goals ((repeat' split) <;> (first | with_reducible rfl | (simp only [ro_13 hc hi, ro_14 hc hi, ro_18 hc hi, ro_8 hc hi, ro_9 hc hi, ro_10 hc hi, ro_send hc hi, ro_Re_enter hc hi]; done)))
theorem ro_Re_abort {r c i k : Nat} (hc : c ≠ 5 ∧ c ≠ 7 ∧ c ≠ 8 ∧ c ≠ 9 ∧ c ≠ 10) (hi : ¬ (i = r ∧ (c = 13 ∨ c = 14 ∨ c = 18))) : ∀ (v0 : fw_V), xf_Re_abort v0 r c i k = v0 c i k := by
  intro v0
  unfold xf_Re_abort
  (try dsimp only)
  all_goals ((repeat' split) <;> (first | with_reducible rfl | (simp only [ro_13 hc hi, ro_14 hc hi, ro_18 hc hi, ro_8 hc hi, ro_9 hc hi, ro_10 hc hi, ro_send hc hi, ro_send hc hi, ro_Re_shut hc hi]; done)))
theorem ro_Re_sendConnect_j4 {r c i k : Nat} (hc : c ≠ 5 ∧ c ≠ 7 ∧ c ≠ 8 ∧ c ≠ 9 ∧ c ≠ 10) (hi : ¬ (i = r ∧ (c = 13 ∨ c = 14 ∨ c = 18))) : ∀ (v : fw_V) (k1 : Nat), xf_Re_sendConnect_j4 v r k1 c i k = v c i k := by
  intro v k1
  unfold xf_Re_sendConnect_j4
  (try dsimp only)
  all_goals ((repeat' split) <;> (first | with_reducible rfl | (simp only [ro_13 hc hi, ro_14 hc hi, ro_18 hc hi, ro_8 hc hi, ro_9 hc hi, ro_10 hc hi, ro_send hc hi]; done)))
theorem ro_Re_sendConnect_j3 {r c i k : Nat} (hc : c ≠ 5 ∧ c ≠ 7 ∧ c ≠ 8 ∧ c ≠ 9 ∧ c ≠ 10) (hi : ¬ (i = r ∧ (c = 13 ∨ c = 14 ∨ c = 18))) : ∀ (v : fw_V) (k1 : Nat), xf_Re_sendConnect_j3 v r k1 c i k = v c i k := by
  intro v k1
  unfold xf_Re_sendConnect_j3
  (try dsimp only)
  all_goals ((repeat' split) <;> (first | with_reducible rfl | (simp only [ro_13 hc hi, ro_14 hc hi, ro_18 hc hi, ro_8 hc hi, ro_9 hc hi, ro_10 hc hi, ro_send hc hi, ro_Re_sendConnect_j4 hc hi]; done)))
theorem ro_Re_sendConnect_j2 {r c i k : Nat} (hc : c ≠ 5 ∧ c ≠ 7 ∧ c ≠ 8 ∧ c ≠ 9 ∧ c ≠ 10) (hi : ¬ (i = r ∧ (c = 13 ∨ c = 14 ∨ c = 18))) : ∀ (v : fw_V) (k1 : Nat), xf_Re_sendConnect_j2 v r k1 c i k = v c i k := by
  intro v k1
  unfold xf_Re_sendConnect_j2
  (try dsimp only)
  all_goals ((repeat' split) <;> (first | with_reducible rfl | (simp only [ro_13 hc hi, ro_14 hc hi, ro_18 hc hi, ro_8 hc hi, ro_9 hc hi, ro_10 hc hi, ro_send hc hi, ro_Re_sendConnect_j3 hc hi]; done)))
theorem ro_Re_sendConnect_j1 {r c i k : Nat} (hc : c ≠ 5 ∧ c ≠ 7 ∧ c ≠ 8 ∧ c ≠ 9 ∧ c ≠ 10) (hi : ¬ (i = r ∧ (c = 13 ∨ c = 14 ∨ c = 18))) : ∀ (v : fw_V) (k1 : Nat), xf_Re_sendConnect_j1 v r k1 c i k = v c i k := by
  intro v k1
  unfold xf_Re_sendConnect_j1
  (try dsimp only)
  all_goals ((repeat' split) <;> (first | with_reducible rfl | (simp only [ro_13 hc hi, ro_14 hc hi, ro_18 hc hi, ro_8 hc hi, ro_9 hc hi, ro_10 hc hi, ro_send hc hi, ro_Re_sendConnect_j2 hc hi]; done)))
theorem ro_Re_sendConnect {r c i k : Nat} (hc : c ≠ 5 ∧ c ≠ 7 ∧ c ≠ 8 ∧ c ≠ 9 ∧ c ≠ 10) (hi : ¬ (i = r ∧ (c = 13 ∨ c = 14 ∨ c = 18))) : ∀ (v0 : fw_V), xf_Re_sendConnect v0 r c i k = v0 c i k := by
  intro v0
  unfold xf_Re_sendConnect
  (try dsimp only)
  all_goals ((repeat' split) <;> (first | with_reducible rfl | (simp only [ro_13 hc hi, ro_14 hc hi, ro_18 hc hi, ro_8 hc hi, ro_9 hc hi, ro_10 hc hi, ro_send hc hi, ro_send hc hi, ro_Re_sendConnect_j1 hc hi]; done)))
theorem ro_Re_sendRequest {r c i k : Nat} (hc : c ≠ 5 ∧ c ≠ 7 ∧ c ≠ 8 ∧ c ≠ 9 ∧ c ≠ 10) (hi : ¬ (i = r ∧ (c = 13 ∨ c = 14 ∨ c = 18))) : ∀ (v0 : fw_V), xf_Re_sendRequest v0 r c i k = v0 c i k := by
  intro v0
  unfold xf_Re_sendRequest
  (try dsimp only)
  all_goals ((repeat' split) <;> (first | with_reducible rfl | (simp only [ro_13 hc hi, ro_14 hc hi, ro_18 hc hi, ro_8 hc hi, ro_9 hc hi, ro_10 hc hi, ro_send hc hi, ro_send hc hi, ro_Re_sendConnect hc hi]; done)))
theorem ro_Re_begin {r c i k : Nat} (hc : c ≠ 5 ∧ c ≠ 7 ∧ c ≠ 8 ∧ c ≠ 9 ∧ c ≠ 10) (hi : ¬ (i = r ∧ (c = 13 ∨ c = 14 ∨ c = 18))) : ∀ (v0 : fw_V) (a1 : Int32), xf_Re_begin v0 r a1 c i k = v0 c i k := by
  intro v0 a1
  unfold xf_Re_begin
  (try dsimp only)
  all_goals ((repeat' split) <;> (first | with_reducible rfl | (simp only [ro_13 hc hi, ro_14 hc hi, ro_18 hc hi, ro_8 hc hi, ro_9 hc hi, ro_10 hc hi, ro_send hc hi, ro_Re_enter hc hi, ro_Re_sendRequest hc hi]; done)))
theorem ro_Re_end {r c i k : Nat} (hc : c ≠ 5 ∧ c ≠ 7 ∧ c ≠ 8 ∧ c ≠ 9 ∧ c ≠ 10) (hi : ¬ (i = r ∧ (c = 13 ∨ c = 14 ∨ c = 18))) : ∀ (v0 : fw_V), (xf_Re_end v0 r).2 c i k = v0 c i k := by
  intro v0
  unfold xf_Re_end
  (try dsimp only)
  all_goals ((repeat' split) <;> (first | with_reducible rfl | (simp only [ro_13 hc hi, ro_14 hc hi, ro_18 hc hi, ro_8 hc hi, ro_9 hc hi, ro_10 hc hi, ro_send hc hi, ro_Re_shut hc hi, ro_Re_abort hc hi]; done)))
theorem ro_Re_deviceFound {r c i k : Nat} (hc : c ≠ 5 ∧ c ≠ 7 ∧ c ≠ 8 ∧ c ≠ 9 ∧ c ≠ 10) (hi : ¬ (i = r ∧ (c = 13 ∨ c = 14 ∨ c = 18))) : ∀ (v0 : fw_V) (k1 : Nat), xf_Re_deviceFound v0 r k1 c i k = v0 c i k := by
  intro v0 k1
  unfold xf_Re_deviceFound
  (try dsimp only)
  all_goals ((repeat' split) <;> (first | with_reducible rfl | (simp only [ro_13 hc hi, ro_14 hc hi, ro_18 hc hi, ro_8 hc hi, ro_9 hc hi, ro_10 hc hi, ro_send hc hi, ro_Re_enter hc hi, ro_Re_sendRequest hc hi]; done)))
theorem ro_Re_goOnWriting_j1 {r c i k : Nat} (hc : c ≠ 5 ∧ c ≠ 7 ∧ c ≠ 8 ∧ c ≠ 9 ∧ c ≠ 10) (hi : ¬ (i = r ∧ (c = 13 ∨ c = 14 ∨ c = 18))) : ∀ (n : Nat) (v : fw_V) (a1 : Int32) (x2 : Int32), xf_Re_goOnWriting_j1 n v r a1 x2 c i k = v c i k := by
  intro n
  induction n with
  | zero => intros; rfl
  | succ n ih =>
    intro v a1 x2
    unfold xf_Re_goOnWriting_j1
    (try dsimp only)
    all_goals ((repeat' split) <;> (first | with_reducible rfl | (simp only [ih, ro_13 hc hi, ro_14 hc hi, ro_18 hc hi, ro_8 hc hi, ro_9 hc hi, ro_10 hc hi, ro_send hc hi, ro_Re_enter hc hi]; done)))
theorem ro_Re_goOnWriting {r c i k : Nat} (hc : c ≠ 5 ∧ c ≠ 7 ∧ c ≠ 8 ∧ c ≠ 9 ∧ c ≠ 10) (hi : ¬ (i = r ∧ (c = 13 ∨ c = 14 ∨ c = 18))) : ∀ (v0 : fw_V) (a1 : Int32), xf_Re_goOnWriting v0 r a1 c i k = v0 c i k := by
  intro v0 a1
  unfold xf_Re_goOnWriting
  (try dsimp only)
  all_goals ((repeat' split) <;> (first | with_reducible rfl | (simp only [ro_13 hc hi, ro_14 hc hi, ro_18 hc hi, ro_8 hc hi, ro_9 hc hi, ro_10 hc hi, ro_send hc hi, ro_Re_goOnWriting_j1 hc hi]; done)))
theorem ro_Re_accepted {r c i k : Nat} (hc : c ≠ 5 ∧ c ≠ 7 ∧ c ≠ 8 ∧ c ≠ 9 ∧ c ≠ 10) (hi : ¬ (i = r ∧ (c = 13 ∨ c = 14 ∨ c = 18))) : ∀ (v0 : fw_V) (a1 : Int32), xf_Re_accepted v0 r a1 c i k = v0 c i k := by
  intro v0 a1
  unfold xf_Re_accepted
  (try dsimp only)
  all_goals ((repeat' split) <;> (first | with_reducible rfl | (simp only [ro_13 hc hi, ro_14 hc hi, ro_18 hc hi, ro_8 hc hi, ro_9 hc hi, ro_10 hc hi, ro_send hc hi, ro_Re_goOnWriting hc hi, ro_Re_sendRequest hc hi]; done)))
theorem ro_Re_refused {r c i k : Nat} (hc : c ≠ 5 ∧ c ≠ 7 ∧ c ≠ 8 ∧ c ≠ 9 ∧ c ≠ 10) (hi : ¬ (i = r ∧ (c = 13 ∨ c = 14 ∨ c = 18))) : ∀ (v0 : fw_V), xf_Re_refused v0 r c i k = v0 c i k := by
  intro v0
  unfold xf_Re_refused
  (try dsimp only)
  all_goals ((repeat' split) <;> (first | with_reducible rfl | (simp only [ro_13 hc hi, ro_14 hc hi, ro_18 hc hi, ro_8 hc hi, ro_9 hc hi, ro_10 hc hi, ro_send hc hi, ro_Re_shut hc hi]; done)))
theorem ro_Re_written {r c i k : Nat} (hc : c ≠ 5 ∧ c ≠ 7 ∧ c ≠ 8 ∧ c ≠ 9 ∧ c ≠ 10) (hi : ¬ (i = r ∧ (c = 13 ∨ c = 14 ∨ c = 18))) : ∀ (v0 : fw_V) (a1 : Int32), xf_Re_written v0 r a1 c i k = v0 c i k := by
  intro v0 a1
  unfold xf_Re_written
  (try dsimp only)
  all_goals ((repeat' split) <;> (first | with_reducible rfl | (simp only [ro_13 hc hi, ro_14 hc hi, ro_18 hc hi, ro_8 hc hi, ro_9 hc hi, ro_10 hc hi, ro_send hc hi, ro_Re_goOnWriting hc hi, ro_Re_sendRequest hc hi]; done)))
theorem ro_Re_ended {r c i k : Nat} (hc : c ≠ 5 ∧ c ≠ 7 ∧ c ≠ 8 ∧ c ≠ 9 ∧ c ≠ 10) (hi : ¬ (i = r ∧ (c = 13 ∨ c = 14 ∨ c = 18))) : ∀ (v0 : fw_V), xf_Re_ended v0 r c i k = v0 c i k := by
  intro v0
  unfold xf_Re_ended
  (try dsimp only)
  all_goals ((repeat' split) <;> (first | with_reducible rfl | (simp only [ro_13 hc hi, ro_14 hc hi, ro_18 hc hi, ro_8 hc hi, ro_9 hc hi, ro_10 hc hi, ro_send hc hi, ro_Re_enter hc hi]; done)))
theorem ro_Cy_restart {r c i k : Nat} (hc : c ≠ 5 ∧ c ≠ 7 ∧ c ≠ 8 ∧ c ≠ 9 ∧ c ≠ 10) (hi : ¬ (i = r ∧ (c = 13 ∨ c = 14 ∨ c = 18))) : ∀ (v0 : fw_V), xf_Cy_restart v0 r c i k = v0 c i k := by
  intro v0
  unfold xf_Cy_restart
  (try dsimp only)
  all_goals ((repeat' split) <;> (first | with_reducible rfl | (simp only [ro_13 hc hi, ro_14 hc hi, ro_18 hc hi, ro_8 hc hi, ro_9 hc hi, ro_10 hc hi, ro_send hc hi]; done)))
theorem ro_Re_deviceReady {r c i k : Nat} (hc : c ≠ 5 ∧ c ≠ 7 ∧ c ≠ 8 ∧ c ≠ 9 ∧ c ≠ 10) (hi : ¬ (i = r ∧ (c = 13 ∨ c = 14 ∨ c = 18))) : ∀ (v0 : fw_V), xf_Re_deviceReady v0 r c i k = v0 c i k := by
  intro v0
  unfold xf_Re_deviceReady
  (try dsimp only)
  all_goals ((repeat' split) <;> (first | with_reducible rfl | (simp only [ro_13 hc hi, ro_14 hc hi, ro_18 hc hi, ro_8 hc hi, ro_9 hc hi, ro_10 hc hi, ro_send hc hi, ro_Cy_restart hc hi, ro_Re_enter hc hi, ro_send hc hi]; done)))
theorem ro_Cy_takes {r c i k : Nat} (hc : c ≠ 5 ∧ c ≠ 7 ∧ c ≠ 8 ∧ c ≠ 9 ∧ c ≠ 10) (hi : ¬ (i = r ∧ (c = 13 ∨ c = 14 ∨ c = 18))) : ∀ (v0 : fw_V) (a1 : Int32), (xf_Cy_takes v0 r a1).2 c i k = v0 c i k := by
  intro v0 a1
  unfold xf_Cy_takes
  (try dsimp only)
  all_goals ((repeat' split) <;> (first | with_reducible rfl | (simp only [ro_13 hc hi, ro_14 hc hi, ro_18 hc hi, ro_8 hc hi, ro_9 hc hi, ro_10 hc hi, ro_send hc hi]; done)))
theorem ro_Re_takeInput {r c i k : Nat} (hc : c ≠ 5 ∧ c ≠ 7 ∧ c ≠ 8 ∧ c ≠ 9 ∧ c ≠ 10) (hi : ¬ (i = r ∧ (c = 13 ∨ c = 14 ∨ c = 18))) : ∀ (v0 : fw_V) (k1 : Nat), xf_Re_takeInput v0 r k1 c i k = v0 c i k := by
  intro v0 k1
  unfold xf_Re_takeInput
  (try dsimp only)
  all_goals ((repeat' split) <;> (first | with_reducible rfl | (simp only [ro_13 hc hi, ro_14 hc hi, ro_18 hc hi, ro_8 hc hi, ro_9 hc hi, ro_10 hc hi, ro_send hc hi, ro_Cy_takes hc hi]; done)))
theorem ro_AL_add {r c i k : Nat} (hc : c ≠ 5 ∧ c ≠ 7 ∧ c ≠ 8 ∧ c ≠ 9 ∧ c ≠ 10) (hi : ¬ (i = r ∧ (c = 13 ∨ c = 14 ∨ c = 18))) : ∀ (v0 : fw_V) (a1 : Int32) (a2 : Int32) (a3 : Int32), xf_AL_add v0 a1 a2 a3 c i k = v0 c i k := by
  intro v0 a1 a2 a3
  unfold xf_AL_add
  (try dsimp only)
  all_goals ((repeat' split) <;> (first | with_reducible rfl | (simp only [ro_13 hc hi, ro_14 hc hi, ro_18 hc hi, ro_8 hc hi, ro_9 hc hi, ro_10 hc hi, ro_send hc hi]; done)))
theorem ro_Re_takeAlarm {r c i k : Nat} (hc : c ≠ 5 ∧ c ≠ 7 ∧ c ≠ 8 ∧ c ≠ 9 ∧ c ≠ 10) (hi : ¬ (i = r ∧ (c = 13 ∨ c = 14 ∨ c = 18))) : ∀ (v0 : fw_V) (k1 : Nat), xf_Re_takeAlarm v0 r k1 c i k = v0 c i k := by
  intro v0 k1
  unfold xf_Re_takeAlarm
  (try dsimp only)
  all_goals ((repeat' split) <;> (first | with_reducible rfl | (simp only [ro_13 hc hi, ro_14 hc hi, ro_18 hc hi, ro_8 hc hi, ro_9 hc hi, ro_10 hc hi, ro_send hc hi, ro_send hc hi, ro_AL_add hc hi]; done)))
theorem ro_Re_receive {r c i k : Nat} (hc : c ≠ 5 ∧ c ≠ 7 ∧ c ≠ 8 ∧ c ≠ 9 ∧ c ≠ 10) (hi : ¬ (i = r ∧ (c = 13 ∨ c = 14 ∨ c = 18))) : ∀ (v0 : fw_V) (k1 : Nat), xf_Re_receive v0 r k1 c i k = v0 c i k := by
  intro v0 k1
  unfold xf_Re_receive
  (try dsimp only)
  all_goals ((repeat' split) <;> (first | with_reducible rfl | (simp only [ro_13 hc hi, ro_14 hc hi, ro_18 hc hi, ro_8 hc hi, ro_9 hc hi, ro_10 hc hi, ro_send hc hi, ro_Re_deviceFound hc hi, ro_Re_accepted hc hi, ro_Re_refused hc hi, ro_Re_written hc hi, ro_Re_ended hc hi, ro_Re_deviceReady hc hi, ro_Re_takeInput hc hi, ro_Re_takeAlarm hc hi, ro_Re_shut hc hi]; done)))
theorem ro_Cy_nextToSend {r c i k : Nat} (hc : c ≠ 5 ∧ c ≠ 7 ∧ c ≠ 8 ∧ c ≠ 9 ∧ c ≠ 10) (hi : ¬ (i = r ∧ (c = 13 ∨ c = 14 ∨ c = 18))) : ∀ (v0 : fw_V), (xf_Cy_nextToSend v0 r).2 c i k = v0 c i k := by
  intro v0
  unfold xf_Cy_nextToSend
  (try dsimp only)
  all_goals ((repeat' split) <;> (first | with_reducible rfl | (simp only [ro_13 hc hi, ro_14 hc hi, ro_18 hc hi, ro_8 hc hi, ro_9 hc hi, ro_10 hc hi, ro_send hc hi]; done)))
theorem ro_Re_sendOutput_j10 {r c i k : Nat} (hc : c ≠ 5 ∧ c ≠ 7 ∧ c ≠ 8 ∧ c ≠ 9 ∧ c ≠ 10) (hi : ¬ (i = r ∧ (c = 13 ∨ c = 14 ∨ c = 18))) : ∀ (v : fw_V) (k1 : Nat), xf_Re_sendOutput_j10 v r k1 c i k = v c i k := by
  intro v k1
  unfold xf_Re_sendOutput_j10
  (try dsimp only)
  all_goals ((repeat' split) <;> (first | with_reducible rfl | (simp only [ro_13 hc hi, ro_14 hc hi, ro_18 hc hi, ro_8 hc hi, ro_9 hc hi, ro_10 hc hi, ro_send hc hi]; done)))
theorem ro_Re_sendOutput_j12 {r c i k : Nat} (hc : c ≠ 5 ∧ c ≠ 7 ∧ c ≠ 8 ∧ c ≠ 9 ∧ c ≠ 10) (hi : ¬ (i = r ∧ (c = 13 ∨ c = 14 ∨ c = 18))) : ∀ (v : fw_V) (k1 : Nat) (x3 : Int32), xf_Re_sendOutput_j12 v r k1 x3 c i k = v c i k := by
  intro v k1 x3
  unfold xf_Re_sendOutput_j12
  (try dsimp only)
  all_goals ((repeat' split) <;> (first | with_reducible rfl | (simp only [ro_13 hc hi, ro_14 hc hi, ro_18 hc hi, ro_8 hc hi, ro_9 hc hi, ro_10 hc hi, ro_send hc hi, ro_Re_sendOutput_j10 hc hi]; done)))
theorem ro_Re_sendOutput_j11 {r c i k : Nat} (hc : c ≠ 5 ∧ c ≠ 7 ∧ c ≠ 8 ∧ c ≠ 9 ∧ c ≠ 10) (hi : ¬ (i = r ∧ (c = 13 ∨ c = 14 ∨ c = 18))) : ∀ (v : fw_V) (k1 : Nat) (x3 : Int32), xf_Re_sendOutput_j11 v r k1 x3 c i k = v c i k := by
  intro v k1 x3
  unfold xf_Re_sendOutput_j11
  (try dsimp only)
  all_goals ((repeat' split) <;> (first | with_reducible rfl | (simp only [ro_13 hc hi, ro_14 hc hi, ro_18 hc hi, ro_8 hc hi, ro_9 hc hi, ro_10 hc hi, ro_send hc hi, ro_Re_sendOutput_j10 hc hi, ro_Re_sendOutput_j12 hc hi]; done)))
theorem ro_Re_sendOutput_j9 {r c i k : Nat} (hc : c ≠ 5 ∧ c ≠ 7 ∧ c ≠ 8 ∧ c ≠ 9 ∧ c ≠ 10) (hi : ¬ (i = r ∧ (c = 13 ∨ c = 14 ∨ c = 18))) : ∀ (v : fw_V) (k1 : Nat) (x3 : Int32), xf_Re_sendOutput_j9 v r k1 x3 c i k = v c i k := by
  intro v k1 x3
  unfold xf_Re_sendOutput_j9
  (try dsimp only)
  all_goals ((repeat' split) <;> (first | with_reducible rfl | (simp only [ro_13 hc hi, ro_14 hc hi, ro_18 hc hi, ro_8 hc hi, ro_9 hc hi, ro_10 hc hi, ro_send hc hi, ro_Re_sendOutput_j10 hc hi, ro_Re_sendOutput_j11 hc hi]; done)))
theorem ro_Re_sendOutput_j8 {r c i k : Nat} (hc : c ≠ 5 ∧ c ≠ 7 ∧ c ≠ 8 ∧ c ≠ 9 ∧ c ≠ 10) (hi : ¬ (i = r ∧ (c = 13 ∨ c = 14 ∨ c = 18))) : ∀ (v : fw_V) (k1 : Nat) (x90 : Int32), xf_Re_sendOutput_j8 v r k1 x90 c i k = v c i k := by
  intro v k1 x90
  unfold xf_Re_sendOutput_j8
  (try dsimp only)
  all_goals ((repeat' split) <;> (first | with_reducible rfl | (simp only [ro_13 hc hi, ro_14 hc hi, ro_18 hc hi, ro_8 hc hi, ro_9 hc hi, ro_10 hc hi, ro_send hc hi, ro_Re_sendOutput_j9 hc hi]; done)))
theorem ro_Re_sendOutput_j14 {r c i k : Nat} (hc : c ≠ 5 ∧ c ≠ 7 ∧ c ≠ 8 ∧ c ≠ 9 ∧ c ≠ 10) (hi : ¬ (i = r ∧ (c = 13 ∨ c = 14 ∨ c = 18))) : ∀ (v : fw_V) (k1 : Nat), xf_Re_sendOutput_j14 v r k1 c i k = v c i k := by
  intro v k1
  unfold xf_Re_sendOutput_j14
  (try dsimp only)
  all_goals ((repeat' split) <;> (first | with_reducible rfl | (simp only [ro_13 hc hi, ro_14 hc hi, ro_18 hc hi, ro_8 hc hi, ro_9 hc hi, ro_10 hc hi, ro_send hc hi, ro_Re_sendOutput_j10 hc hi]; done)))
theorem ro_Re_sendOutput_j13 {r c i k : Nat} (hc : c ≠ 5 ∧ c ≠ 7 ∧ c ≠ 8 ∧ c ≠ 9 ∧ c ≠ 10) (hi : ¬ (i = r ∧ (c = 13 ∨ c = 14 ∨ c = 18))) : ∀ (v : fw_V) (k1 : Nat), xf_Re_sendOutput_j13 v r k1 c i k = v c i k := by
  intro v k1
  unfold xf_Re_sendOutput_j13
  (try dsimp only)
  all_goals ((repeat' split) <;> (first | with_reducible rfl | (simp only [ro_13 hc hi, ro_14 hc hi, ro_18 hc hi, ro_8 hc hi, ro_9 hc hi, ro_10 hc hi, ro_send hc hi, ro_Re_sendOutput_j14 hc hi]; done)))
theorem ro_Re_sendOutput_j7 {r c i k : Nat} (hc : c ≠ 5 ∧ c ≠ 7 ∧ c ≠ 8 ∧ c ≠ 9 ∧ c ≠ 10) (hi : ¬ (i = r ∧ (c = 13 ∨ c = 14 ∨ c = 18))) : ∀ (v : fw_V) (k1 : Nat), xf_Re_sendOutput_j7 v r k1 c i k = v c i k := by
  intro v k1
  unfold xf_Re_sendOutput_j7
  (try dsimp only)
  all_goals ((repeat' split) <;> (first | with_reducible rfl | (simp only [ro_13 hc hi, ro_14 hc hi, ro_18 hc hi, ro_8 hc hi, ro_9 hc hi, ro_10 hc hi, ro_send hc hi, ro_Re_sendOutput_j8 hc hi, ro_Re_sendOutput_j13 hc hi]; done)))
theorem ro_Re_sendOutput_j16 {r c i k : Nat} (hc : c ≠ 5 ∧ c ≠ 7 ∧ c ≠ 8 ∧ c ≠ 9 ∧ c ≠ 10) (hi : ¬ (i = r ∧ (c = 13 ∨ c = 14 ∨ c = 18))) : ∀ (v : fw_V) (k1 : Nat) (x3 : Int32), xf_Re_sendOutput_j16 v r k1 x3 c i k = v c i k := by
  intro v k1 x3
  unfold xf_Re_sendOutput_j16
  (try dsimp only)
  all_goals ((repeat' split) <;> (first | with_reducible rfl | (simp only [ro_13 hc hi, ro_14 hc hi, ro_18 hc hi, ro_8 hc hi, ro_9 hc hi, ro_10 hc hi, ro_send hc hi, ro_Re_sendOutput_j7 hc hi]; done)))
theorem ro_Re_sendOutput_j15 {r c i k : Nat} (hc : c ≠ 5 ∧ c ≠ 7 ∧ c ≠ 8 ∧ c ≠ 9 ∧ c ≠ 10) (hi : ¬ (i = r ∧ (c = 13 ∨ c = 14 ∨ c = 18))) : ∀ (v : fw_V) (k1 : Nat) (x3 : Int32), xf_Re_sendOutput_j15 v r k1 x3 c i k = v c i k := by
  intro v k1 x3
  unfold xf_Re_sendOutput_j15
  (try dsimp only)
  all_goals ((repeat' split) <;> (first | with_reducible rfl | (simp only [ro_13 hc hi, ro_14 hc hi, ro_18 hc hi, ro_8 hc hi, ro_9 hc hi, ro_10 hc hi, ro_send hc hi, ro_Re_sendOutput_j7 hc hi, ro_Re_sendOutput_j16 hc hi]; done)))
theorem ro_Re_sendOutput_j6 {r c i k : Nat} (hc : c ≠ 5 ∧ c ≠ 7 ∧ c ≠ 8 ∧ c ≠ 9 ∧ c ≠ 10) (hi : ¬ (i = r ∧ (c = 13 ∨ c = 14 ∨ c = 18))) : ∀ (v : fw_V) (k1 : Nat) (x3 : Int32), xf_Re_sendOutput_j6 v r k1 x3 c i k = v c i k := by
  intro v k1 x3
  unfold xf_Re_sendOutput_j6
  (try dsimp only)
  all_goals ((repeat' split) <;> (first | with_reducible rfl | (simp only [ro_13 hc hi, ro_14 hc hi, ro_18 hc hi, ro_8 hc hi, ro_9 hc hi, ro_10 hc hi, ro_send hc hi, ro_Re_sendOutput_j7 hc hi, ro_Re_sendOutput_j15 hc hi]; done)))
theorem ro_Re_sendOutput_j5 {r c i k : Nat} (hc : c ≠ 5 ∧ c ≠ 7 ∧ c ≠ 8 ∧ c ≠ 9 ∧ c ≠ 10) (hi : ¬ (i = r ∧ (c = 13 ∨ c = 14 ∨ c = 18))) : ∀ (v : fw_V) (k1 : Nat) (x90 : Int32), xf_Re_sendOutput_j5 v r k1 x90 c i k = v c i k := by
  intro v k1 x90
  unfold xf_Re_sendOutput_j5
  (try dsimp only)
  all_goals ((repeat' split) <;> (first | with_reducible rfl | (simp only [ro_13 hc hi, ro_14 hc hi, ro_18 hc hi, ro_8 hc hi, ro_9 hc hi, ro_10 hc hi, ro_send hc hi, ro_Re_sendOutput_j6 hc hi]; done)))
theorem ro_Re_sendOutput_j18 {r c i k : Nat} (hc : c ≠ 5 ∧ c ≠ 7 ∧ c ≠ 8 ∧ c ≠ 9 ∧ c ≠ 10) (hi : ¬ (i = r ∧ (c = 13 ∨ c = 14 ∨ c = 18))) : ∀ (v : fw_V) (k1 : Nat), xf_Re_sendOutput_j18 v r k1 c i k = v c i k := by
  intro v k1
  unfold xf_Re_sendOutput_j18
  (try dsimp only)
  all_goals ((repeat' split) <;> (first | with_reducible rfl | (simp only [ro_13 hc hi, ro_14 hc hi, ro_18 hc hi, ro_8 hc hi, ro_9 hc hi, ro_10 hc hi, ro_send hc hi, ro_Re_sendOutput_j7 hc hi]; done)))
theorem ro_Re_sendOutput_j17 {r c i k : Nat} (hc : c ≠ 5 ∧ c ≠ 7 ∧ c ≠ 8 ∧ c ≠ 9 ∧ c ≠ 10) (hi : ¬ (i = r ∧ (c = 13 ∨ c = 14 ∨ c = 18))) : ∀ (v : fw_V) (k1 : Nat), xf_Re_sendOutput_j17 v r k1 c i k = v c i k := by
  intro v k1
  unfold xf_Re_sendOutput_j17
  (try dsimp only)
  all_goals ((repeat' split) <;> (first | with_reducible rfl | (simp only [ro_13 hc hi, ro_14 hc hi, ro_18 hc hi, ro_8 hc hi, ro_9 hc hi, ro_10 hc hi, ro_send hc hi, ro_Re_sendOutput_j18 hc hi]; done)))
theorem ro_Re_sendOutput_j4 {r c i k : Nat} (hc : c ≠ 5 ∧ c ≠ 7 ∧ c ≠ 8 ∧ c ≠ 9 ∧ c ≠ 10) (hi : ¬ (i = r ∧ (c = 13 ∨ c = 14 ∨ c = 18))) : ∀ (v : fw_V) (k1 : Nat), xf_Re_sendOutput_j4 v r k1 c i k = v c i k := by
  intro v k1
  unfold xf_Re_sendOutput_j4
  (try dsimp only)
  all_goals ((repeat' split) <;> (first | with_reducible rfl | (simp only [ro_13 hc hi, ro_14 hc hi, ro_18 hc hi, ro_8 hc hi, ro_9 hc hi, ro_10 hc hi, ro_send hc hi, ro_Re_sendOutput_j5 hc hi, ro_Re_sendOutput_j17 hc hi]; done)))
theorem ro_Re_sendOutput_j20 {r c i k : Nat} (hc : c ≠ 5 ∧ c ≠ 7 ∧ c ≠ 8 ∧ c ≠ 9 ∧ c ≠ 10) (hi : ¬ (i = r ∧ (c = 13 ∨ c = 14 ∨ c = 18))) : ∀ (v : fw_V) (k1 : Nat) (x3 : Int32), xf_Re_sendOutput_j20 v r k1 x3 c i k = v c i k := by
  intro v k1 x3
  unfold xf_Re_sendOutput_j20
  (try dsimp only)
  all_goals ((repeat' split) <;> (first | with_reducible rfl | (simp only [ro_13 hc hi, ro_14 hc hi, ro_18 hc hi, ro_8 hc hi, ro_9 hc hi, ro_10 hc hi, ro_send hc hi, ro_Re_sendOutput_j4 hc hi]; done)))
theorem ro_Re_sendOutput_j19 {r c i k : Nat} (hc : c ≠ 5 ∧ c ≠ 7 ∧ c ≠ 8 ∧ c ≠ 9 ∧ c ≠ 10) (hi : ¬ (i = r ∧ (c = 13 ∨ c = 14 ∨ c = 18))) : ∀ (v : fw_V) (k1 : Nat) (x3 : Int32), xf_Re_sendOutput_j19 v r k1 x3 c i k = v c i k := by
  intro v k1 x3
  unfold xf_Re_sendOutput_j19
  (try dsimp only)
  all_goals ((repeat' split) <;> (first | with_reducible rfl | (simp only [ro_13 hc hi, ro_14 hc hi, ro_18 hc hi, ro_8 hc hi, ro_9 hc hi, ro_10 hc hi, ro_send hc hi, ro_Re_sendOutput_j4 hc hi, ro_Re_sendOutput_j20 hc hi]; done)))
theorem ro_Re_sendOutput_j3 {r c i k : Nat} (hc : c ≠ 5 ∧ c ≠ 7 ∧ c ≠ 8 ∧ c ≠ 9 ∧ c ≠ 10) (hi : ¬ (i = r ∧ (c = 13 ∨ c = 14 ∨ c = 18))) : ∀ (v : fw_V) (k1 : Nat) (x3 : Int32), xf_Re_sendOutput_j3 v r k1 x3 c i k = v c i k := by
  intro v k1 x3
  unfold xf_Re_sendOutput_j3
  (try dsimp only)
  all_goals ((repeat' split) <;> (first | with_reducible rfl | (simp only [ro_13 hc hi, ro_14 hc hi, ro_18 hc hi, ro_8 hc hi, ro_9 hc hi, ro_10 hc hi, ro_send hc hi, ro_Re_sendOutput_j4 hc hi, ro_Re_sendOutput_j19 hc hi]; done)))
theorem ro_Re_sendOutput_j2 {r c i k : Nat} (hc : c ≠ 5 ∧ c ≠ 7 ∧ c ≠ 8 ∧ c ≠ 9 ∧ c ≠ 10) (hi : ¬ (i = r ∧ (c = 13 ∨ c = 14 ∨ c = 18))) : ∀ (v : fw_V) (k1 : Nat) (x90 : Int32), xf_Re_sendOutput_j2 v r k1 x90 c i k = v c i k := by
  intro v k1 x90
  unfold xf_Re_sendOutput_j2
  (try dsimp only)
  all_goals ((repeat' split) <;> (first | with_reducible rfl | (simp only [ro_13 hc hi, ro_14 hc hi, ro_18 hc hi, ro_8 hc hi, ro_9 hc hi, ro_10 hc hi, ro_send hc hi, ro_Re_sendOutput_j3 hc hi]; done)))
theorem ro_Re_sendOutput_j22 {r c i k : Nat} (hc : c ≠ 5 ∧ c ≠ 7 ∧ c ≠ 8 ∧ c ≠ 9 ∧ c ≠ 10) (hi : ¬ (i = r ∧ (c = 13 ∨ c = 14 ∨ c = 18))) : ∀ (v : fw_V) (k1 : Nat), xf_Re_sendOutput_j22 v r k1 c i k = v c i k := by
  intro v k1
  unfold xf_Re_sendOutput_j22
  (try dsimp only)
  all_goals ((repeat' split) <;> (first | with_reducible rfl | (simp only [ro_13 hc hi, ro_14 hc hi, ro_18 hc hi, ro_8 hc hi, ro_9 hc hi, ro_10 hc hi, ro_send hc hi, ro_Re_sendOutput_j4 hc hi]; done)))
theorem ro_Re_sendOutput_j21 {r c i k : Nat} (hc : c ≠ 5 ∧ c ≠ 7 ∧ c ≠ 8 ∧ c ≠ 9 ∧ c ≠ 10) (hi : ¬ (i = r ∧ (c = 13 ∨ c = 14 ∨ c = 18))) : ∀ (v : fw_V) (k1 : Nat), xf_Re_sendOutput_j21 v r k1 c i k = v c i k := by
  intro v k1
  unfold xf_Re_sendOutput_j21
  (try dsimp only)
  all_goals ((repeat' split) <;> (first | with_reducible rfl | (simp only [ro_13 hc hi, ro_14 hc hi, ro_18 hc hi, ro_8 hc hi, ro_9 hc hi, ro_10 hc hi, ro_send hc hi, ro_Re_sendOutput_j22 hc hi]; done)))
theorem ro_Re_sendOutput_j1 {r c i k : Nat} (hc : c ≠ 5 ∧ c ≠ 7 ∧ c ≠ 8 ∧ c ≠ 9 ∧ c ≠ 10) (hi : ¬ (i = r ∧ (c = 13 ∨ c = 14 ∨ c = 18))) : ∀ (v : fw_V) (k1 : Nat), xf_Re_sendOutput_j1 v r k1 c i k = v c i k := by
  intro v k1
  unfold xf_Re_sendOutput_j1
  (try dsimp only)
  all_goals ((repeat' split) <;> (first | with_reducible rfl | (simp only [ro_13 hc hi, ro_14 hc hi, ro_18 hc hi, ro_8 hc hi, ro_9 hc hi, ro_10 hc hi, ro_send hc hi, ro_Re_sendOutput_j2 hc hi, ro_Re_sendOutput_j21 hc hi]; done)))
theorem ro_Re_sendOutput {r c i k : Nat} (hc : c ≠ 5 ∧ c ≠ 7 ∧ c ≠ 8 ∧ c ≠ 9 ∧ c ≠ 10) (hi : ¬ (i = r ∧ (c = 13 ∨ c = 14 ∨ c = 18))) : ∀ (v0 : fw_V), xf_Re_sendOutput v0 r c i k = v0 c i k := by
  intro v0
  unfold xf_Re_sendOutput
  (try dsimp only)
  all_goals ((repeat' split) <;> (first | with_reducible rfl | (simp only [ro_13 hc hi, ro_14 hc hi, ro_18 hc hi, ro_8 hc hi, ro_9 hc hi, ro_10 hc hi, ro_send hc hi, ro_Cy_nextToSend hc hi, ro_send hc hi, ro_Re_sendOutput_j1 hc hi]; done)))
theorem ro_Re_passTickInData {r c i k : Nat} (hc : c ≠ 5 ∧ c ≠ 7 ∧ c ≠ 8 ∧ c ≠ 9 ∧ c ≠ 10) (hi : ¬ (i = r ∧ (c = 13 ∨ c = 14 ∨ c = 18))) : ∀ (v0 : fw_V), xf_Re_passTickInData v0 r c i k = v0 c i k := by
  intro v0
  unfold xf_Re_passTickInData
  (try dsimp only)
  all_goals ((repeat' split) <;> (first | with_reducible rfl | (simp only [ro_13 hc hi, ro_14 hc hi, ro_18 hc hi, ro_8 hc hi, ro_9 hc hi, ro_10 hc hi, ro_send hc hi, ro_Re_sendOutput hc hi, ro_Re_abort hc hi]; done)))
theorem ro_Re_requestAgain {r c i k : Nat} (hc : c ≠ 5 ∧ c ≠ 7 ∧ c ≠ 8 ∧ c ≠ 9 ∧ c ≠ 10) (hi : ¬ (i = r ∧ (c = 13 ∨ c = 14 ∨ c = 18))) : ∀ (v0 : fw_V), xf_Re_requestAgain v0 r c i k = v0 c i k := by
  intro v0
  unfold xf_Re_requestAgain
  (try dsimp only)
  all_goals ((repeat' split) <;> (first | with_reducible rfl | (simp only [ro_13 hc hi, ro_14 hc hi, ro_18 hc hi, ro_8 hc hi, ro_9 hc hi, ro_10 hc hi, ro_send hc hi, ro_Re_shut hc hi, ro_Re_abort hc hi, ro_Re_sendRequest hc hi]; done)))
theorem ro_Re_passTick {r c i k : Nat} (hc : c ≠ 5 ∧ c ≠ 7 ∧ c ≠ 8 ∧ c ≠ 9 ∧ c ≠ 10) (hi : ¬ (i = r ∧ (c = 13 ∨ c = 14 ∨ c = 18))) : ∀ (v0 : fw_V), xf_Re_passTick v0 r c i k = v0 c i k := by
  intro v0
  unfold xf_Re_passTick
  (try dsimp only)
  all_goals ((repeat' split) <;> (first | with_reducible rfl | (simp only [ro_13 hc hi, ro_14 hc hi, ro_18 hc hi, ro_8 hc hi, ro_9 hc hi, ro_10 hc hi, ro_send hc hi, ro_Re_passTickInData hc hi, ro_Re_abort hc hi, ro_Re_requestAgain hc hi]; done)))
theorem do_19 {r c i k : Nat} (hc : c ≠ 5 ∧ c ≠ 7 ∧ c ≠ 8) (hi : ¬ ((i = r ∧ 19 ≤ c) ∨ (i = r + 2 ∧ c = 14))) (v : fw_V) (k0 : Nat) (x : Int32) : fw_up v 19 r k0 x c i k = v c i k := fw_up_ne (fun q => hi (Or.inl ⟨q.2.1, by omega⟩))
theorem do_20 {r c i k : Nat} (hc : c ≠ 5 ∧ c ≠ 7 ∧ c ≠ 8) (hi : ¬ ((i = r ∧ 19 ≤ c) ∨ (i = r + 2 ∧ c = 14))) (v : fw_V) (k0 : Nat) (x : Int32) : fw_up v 20 r k0 x c i k = v c i k := fw_up_ne (fun q => hi (Or.inl ⟨q.2.1, by omega⟩))
theorem do_21 {r c i k : Nat} (hc : c ≠ 5 ∧ c ≠ 7 ∧ c ≠ 8) (hi : ¬ ((i = r ∧ 19 ≤ c) ∨ (i = r + 2 ∧ c = 14))) (v : fw_V) (k0 : Nat) (x : Int32) : fw_up v 21 r k0 x c i k = v c i k := fw_up_ne (fun q => hi (Or.inl ⟨q.2.1, by omega⟩))
theorem do_22 {r c i k : Nat} (hc : c ≠ 5 ∧ c ≠ 7 ∧ c ≠ 8) (hi : ¬ ((i = r ∧ 19 ≤ c) ∨ (i = r + 2 ∧ c = 14))) (v : fw_V) (k0 : Nat) (x : Int32) : fw_up v 22 r k0 x c i k = v c i k := fw_up_ne (fun q => hi (Or.inl ⟨q.2.1, by omega⟩))
theorem do_23 {r c i k : Nat} (hc : c ≠ 5 ∧ c ≠ 7 ∧ c ≠ 8) (hi : ¬ ((i = r ∧ 19 ≤ c) ∨ (i = r + 2 ∧ c = 14))) (v : fw_V) (k0 : Nat) (x : Int32) : fw_up v 23 r k0 x c i k = v c i k := fw_up_ne (fun q => hi (Or.inl ⟨q.2.1, by omega⟩))
theorem do_25 {r c i k : Nat} (hc : c ≠ 5 ∧ c ≠ 7 ∧ c ≠ 8) (hi : ¬ ((i = r ∧ 19 ≤ c) ∨ (i = r + 2 ∧ c = 14))) (v : fw_V) (k0 : Nat) (x : Int32) : fw_up v 25 r k0 x c i k = v c i k := fw_up_ne (fun q => hi (Or.inl ⟨q.2.1, by omega⟩))
theorem do_26 {r c i k : Nat} (hc : c ≠ 5 ∧ c ≠ 7 ∧ c ≠ 8) (hi : ¬ ((i = r ∧ 19 ≤ c) ∨ (i = r + 2 ∧ c = 14))) (v : fw_V) (k0 : Nat) (x : Int32) : fw_up v 26 r k0 x c i k = v c i k := fw_up_ne (fun q => hi (Or.inl ⟨q.2.1, by omega⟩))
theorem do_27 {r c i k : Nat} (hc : c ≠ 5 ∧ c ≠ 7 ∧ c ≠ 8) (hi : ¬ ((i = r ∧ 19 ≤ c) ∨ (i = r + 2 ∧ c = 14))) (v : fw_V) (k0 : Nat) (x : Int32) : fw_up v 27 r k0 x c i k = v c i k := fw_up_ne (fun q => hi (Or.inl ⟨q.2.1, by omega⟩))
theorem do_r27 {r c i k : Nat} (hc : c ≠ 5 ∧ c ≠ 7 ∧ c ≠ 8) (hi : ¬ ((i = r ∧ 19 ≤ c) ∨ (i = r + 2 ∧ c = 14))) (v : fw_V) (g : Nat → Int32) : fw_row v 27 r g c i k = v c i k := fw_row_ne (fun q => hi (Or.inl ⟨q.2, by omega⟩))
theorem do_14 {r c i k : Nat} (hc : c ≠ 5 ∧ c ≠ 7 ∧ c ≠ 8) (hi : ¬ ((i = r ∧ 19 ≤ c) ∨ (i = r + 2 ∧ c = 14))) (v : fw_V) (k0 : Nat) (x : Int32) : fw_up v 14 (r + 2) k0 x c i k = v c i k := fw_up_ne (fun q => hi (Or.inr ⟨q.2.1, q.1⟩))
theorem do_8 {r c i k : Nat} (hc : c ≠ 5 ∧ c ≠ 7 ∧ c ≠ 8) (hi : ¬ ((i = r ∧ 19 ≤ c) ∨ (i = r + 2 ∧ c = 14))) (v : fw_V) (y k0 : Nat) (x : Int32) : fw_up v 8 y k0 x c i k = v c i k := fw_up_c hc.2.2
theorem do_send {r c i k : Nat} (hc : c ≠ 5 ∧ c ≠ 7 ∧ c ≠ 8) (hi : ¬ ((i = r ∧ 19 ≤ c) ∨ (i = r + 2 ∧ c = 14))) (v : fw_V) (a b c' d : Int32) : (xf_Wi_send v a b c' d).2 c i k = v c i k := xsend_c hc.1 hc.2.1 hc.2.2
theorem do_Cy_restart {r c i k : Nat} (hc : c ≠ 5 ∧ c ≠ 7 ∧ c ≠ 8) (hi : ¬ ((i = r ∧ 19 ≤ c) ∨ (i = r + 2 ∧ c = 14))) (v : fw_V) : xf_Cy_restart v (r + 2) c i k = v c i k := by
  unfold xf_Cy_restart
  (try dsimp only)
  simp only [do_14 hc hi]
theorem do_Cy_takes {r c i k : Nat} (hc : c ≠ 5 ∧ c ≠ 7 ∧ c ≠ 8) (hi : ¬ ((i = r ∧ 19 ≤ c) ∨ (i = r + 2 ∧ c = 14))) (v : fw_V) (a1 : Int32) : (xf_Cy_takes v (r + 2) a1).2 c i k = v c i k := by
  unfold xf_Cy_takes
  (try dsimp only)
  all_goals ((repeat' split) <;> (first | with_reducible rfl | (simp only [do_14 hc hi]; done)))
theorem do_Cy_nextToSend {r c i k : Nat} (hc : c ≠ 5 ∧ c ≠ 7 ∧ c ≠ 8) (hi : ¬ ((i = r ∧ 19 ≤ c) ∨ (i = r + 2 ∧ c = 14))) (v : fw_V) : (xf_Cy_nextToSend v (r + 2)).2 c i k = v c i k := by
  unfold xf_Cy_nextToSend
  (try dsimp only)
  all_goals ((repeat' split) <;> (first | with_reducible rfl | (simp only [do_14 hc hi]; done)))
theorem do_De_showFallback_j7 {r c i k : Nat} (hc : c ≠ 5 ∧ c ≠ 7 ∧ c ≠ 8) (hi : ¬ ((i = r ∧ 19 ≤ c) ∨ (i = r + 2 ∧ c = 14))) : ∀ (v : fw_V) (a1 : Int32) (x2 : Int32), xf_De_showFallback_j7 v r a1 x2 c i k = v c i k := by
  intro v a1 x2
  unfold xf_De_showFallback_j7
  (try dsimp only)
  all_goals ((repeat' split) <;> (first | with_reducible rfl | (simp only [do_19 hc hi, do_20 hc hi, do_21 hc hi, do_22 hc hi, do_23 hc hi, do_25 hc hi, do_26 hc hi, do_27 hc hi, do_r27 hc hi, do_14 hc hi, do_8 hc hi, do_send hc hi]; done)))
theorem do_De_showFallback_j6 {r c i k : Nat} (hc : c ≠ 5 ∧ c ≠ 7 ∧ c ≠ 8) (hi : ¬ ((i = r ∧ 19 ≤ c) ∨ (i = r + 2 ∧ c = 14))) : ∀ (v : fw_V) (a1 : Int32) (x2 : Int32), xf_De_showFallback_j6 v r a1 x2 c i k = v c i k := by
  intro v a1 x2
  unfold xf_De_showFallback_j6
  (try dsimp only)
  all_goals ((repeat' split) <;> (first | with_reducible rfl | (simp only [do_19 hc hi, do_20 hc hi, do_21 hc hi, do_22 hc hi, do_23 hc hi, do_25 hc hi, do_26 hc hi, do_27 hc hi, do_r27 hc hi, do_14 hc hi, do_8 hc hi, do_send hc hi, do_De_showFallback_j7 hc hi]; done)))
theorem do_De_showFallback_j5 {r c i k : Nat} (hc : c ≠ 5 ∧ c ≠ 7 ∧ c ≠ 8) (hi : ¬ ((i = r ∧ 19 ≤ c) ∨ (i = r + 2 ∧ c = 14))) : ∀ (v : fw_V) (a1 : Int32) (x2 : Int32) (x4 : Int32), xf_De_showFallback_j5 v r a1 x2 x4 c i k = v c i k := by
  intro v a1 x2 x4
  unfold xf_De_showFallback_j5
  (try dsimp only)
  all_goals ((repeat' split) <;> (first | with_reducible rfl | (simp only [do_19 hc hi, do_20 hc hi, do_21 hc hi, do_22 hc hi, do_23 hc hi, do_25 hc hi, do_26 hc hi, do_27 hc hi, do_r27 hc hi, do_14 hc hi, do_8 hc hi, do_send hc hi, do_De_showFallback_j6 hc hi]; done)))
theorem do_De_showFallback_j4 {r c i k : Nat} (hc : c ≠ 5 ∧ c ≠ 7 ∧ c ≠ 8) (hi : ¬ ((i = r ∧ 19 ≤ c) ∨ (i = r + 2 ∧ c = 14))) : ∀ (v : fw_V) (a1 : Int32) (x2 : Int32), xf_De_showFallback_j4 v r a1 x2 c i k = v c i k := by
  intro v a1 x2
  unfold xf_De_showFallback_j4
  (try dsimp only)
  all_goals ((repeat' split) <;> (first | with_reducible rfl | (simp only [do_19 hc hi, do_20 hc hi, do_21 hc hi, do_22 hc hi, do_23 hc hi, do_25 hc hi, do_26 hc hi, do_27 hc hi, do_r27 hc hi, do_14 hc hi, do_8 hc hi, do_send hc hi, do_De_showFallback_j5 hc hi, do_De_showFallback_j6 hc hi]; done)))
theorem do_De_showFallback_j3 {r c i k : Nat} (hc : c ≠ 5 ∧ c ≠ 7 ∧ c ≠ 8) (hi : ¬ ((i = r ∧ 19 ≤ c) ∨ (i = r + 2 ∧ c = 14))) : ∀ (v : fw_V) (a1 : Int32) (x2 : Int32), xf_De_showFallback_j3 v r a1 x2 c i k = v c i k := by
  intro v a1 x2
  unfold xf_De_showFallback_j3
  (try dsimp only)
  all_goals ((repeat' split) <;> (first | with_reducible rfl | (simp only [do_19 hc hi, do_20 hc hi, do_21 hc hi, do_22 hc hi, do_23 hc hi, do_25 hc hi, do_26 hc hi, do_27 hc hi, do_r27 hc hi, do_14 hc hi, do_8 hc hi, do_send hc hi, do_De_showFallback_j4 hc hi]; done)))
theorem do_De_showFallback_j2 {r c i k : Nat} (hc : c ≠ 5 ∧ c ≠ 7 ∧ c ≠ 8) (hi : ¬ ((i = r ∧ 19 ≤ c) ∨ (i = r + 2 ∧ c = 14))) : ∀ (v : fw_V) (a1 : Int32) (x2 : Int32) (x4 : Int32), xf_De_showFallback_j2 v r a1 x2 x4 c i k = v c i k := by
  intro v a1 x2 x4
  unfold xf_De_showFallback_j2
  (try dsimp only)
  all_goals ((repeat' split) <;> (first | with_reducible rfl | (simp only [do_19 hc hi, do_20 hc hi, do_21 hc hi, do_22 hc hi, do_23 hc hi, do_25 hc hi, do_26 hc hi, do_27 hc hi, do_r27 hc hi, do_14 hc hi, do_8 hc hi, do_send hc hi, do_De_showFallback_j3 hc hi]; done)))
theorem do_De_showFallback_j1 {r c i k : Nat} (hc : c ≠ 5 ∧ c ≠ 7 ∧ c ≠ 8) (hi : ¬ ((i = r ∧ 19 ≤ c) ∨ (i = r + 2 ∧ c = 14))) : ∀ (v : fw_V) (a1 : Int32) (x2 : Int32), xf_De_showFallback_j1 v r a1 x2 c i k = v c i k := by
  intro v a1 x2
  unfold xf_De_showFallback_j1
  (try dsimp only)
  all_goals ((repeat' split) <;> (first | with_reducible rfl | (simp only [do_19 hc hi, do_20 hc hi, do_21 hc hi, do_22 hc hi, do_23 hc hi, do_25 hc hi, do_26 hc hi, do_27 hc hi, do_r27 hc hi, do_14 hc hi, do_8 hc hi, do_send hc hi, do_De_showFallback_j2 hc hi, do_De_showFallback_j3 hc hi]; done)))
theorem do_De_showFallback {r c i k : Nat} (hc : c ≠ 5 ∧ c ≠ 7 ∧ c ≠ 8) (hi : ¬ ((i = r ∧ 19 ≤ c) ∨ (i = r + 2 ∧ c = 14))) : ∀ (v0 : fw_V) (a1 : Int32), xf_De_showFallback v0 r a1 c i k = v0 c i k := by
  intro v0 a1
  unfold xf_De_showFallback
  (try dsimp only)
  all_goals ((repeat' split) <;> (first | with_reducible rfl | (simp only [do_19 hc hi, do_20 hc hi, do_21 hc hi, do_22 hc hi, do_23 hc hi, do_25 hc hi, do_26 hc hi, do_27 hc hi, do_r27 hc hi, do_14 hc hi, do_8 hc hi, do_send hc hi, do_De_showFallback_j1 hc hi]; done)))
theorem do_AQ_add {r c i k : Nat} (hc : c ≠ 5 ∧ c ≠ 7 ∧ c ≠ 8) (hi : ¬ ((i = r ∧ 19 ≤ c) ∨ (i = r + 2 ∧ c = 14))) : ∀ (v0 : fw_V) (a1 : Int32) (a2 : Int32), xf_AQ_add v0 r a1 a2 c i k = v0 c i k := by
  intro v0 a1 a2
  unfold xf_AQ_add
  (try dsimp only)
  all_goals ((repeat' split) <;> (first | with_reducible rfl | (simp only [do_19 hc hi, do_20 hc hi, do_21 hc hi, do_22 hc hi, do_23 hc hi, do_25 hc hi, do_26 hc hi, do_27 hc hi, do_r27 hc hi, do_14 hc hi, do_8 hc hi, do_send hc hi]; done)))
theorem do_De_changeModule_j1 {r c i k : Nat} (hc : c ≠ 5 ∧ c ≠ 7 ∧ c ≠ 8) (hi : ¬ ((i = r ∧ 19 ≤ c) ∨ (i = r + 2 ∧ c = 14))) : ∀ (v : fw_V) (a1 : Int32) (a2 : Int32) (x92 : Int32), xf_De_changeModule_j1 v r a1 a2 x92 c i k = v c i k := by
  intro v a1 a2 x92
  unfold xf_De_changeModule_j1
  (try dsimp only)
  all_goals ((repeat' split) <;> (first | with_reducible rfl | (simp only [do_19 hc hi, do_20 hc hi, do_21 hc hi, do_22 hc hi, do_23 hc hi, do_25 hc hi, do_26 hc hi, do_27 hc hi, do_r27 hc hi, do_14 hc hi, do_8 hc hi, do_send hc hi, do_AQ_add hc hi]; done)))
theorem do_De_changeModule_j2 {r c i k : Nat} (hc : c ≠ 5 ∧ c ≠ 7 ∧ c ≠ 8) (hi : ¬ ((i = r ∧ 19 ≤ c) ∨ (i = r + 2 ∧ c = 14))) : ∀ (v : fw_V) (a1 : Int32) (a2 : Int32) (x92 : Int32), xf_De_changeModule_j2 v r a1 a2 x92 c i k = v c i k := by
  intro v a1 a2 x92
  unfold xf_De_changeModule_j2
  (try dsimp only)
  all_goals ((repeat' split) <;> (first | with_reducible rfl | (simp only [do_19 hc hi, do_20 hc hi, do_21 hc hi, do_22 hc hi, do_23 hc hi, do_25 hc hi, do_26 hc hi, do_27 hc hi, do_r27 hc hi, do_14 hc hi, do_8 hc hi, do_send hc hi, do_AQ_add hc hi]; done)))
theorem do_De_changeModule {r c i k : Nat} (hc : c ≠ 5 ∧ c ≠ 7 ∧ c ≠ 8) (hi : ¬ ((i = r ∧ 19 ≤ c) ∨ (i = r + 2 ∧ c = 14))) : ∀ (v0 : fw_V) (a1 : Int32) (a2 : Int32), xf_De_changeModule v0 r a1 a2 c i k = v0 c i k := by
  intro v0 a1 a2
  unfold xf_De_changeModule
  (try dsimp only)
  all_goals ((repeat' split) <;> (first | with_reducible rfl | (simp only [do_19 hc hi, do_20 hc hi, do_21 hc hi, do_22 hc hi, do_23 hc hi, do_25 hc hi, do_26 hc hi, do_27 hc hi, do_r27 hc hi, do_14 hc hi, do_8 hc hi, do_send hc hi, do_De_showFallback hc hi, do_De_changeModule_j1 hc hi, do_De_changeModule_j2 hc hi]; done)))
theorem do_De_answerSeek {r c i k : Nat} (hc : c ≠ 5 ∧ c ≠ 7 ∧ c ≠ 8) (hi : ¬ ((i = r ∧ 19 ≤ c) ∨ (i = r + 2 ∧ c = 14))) : ∀ (v0 : fw_V) (a1 : Int32), xf_De_answerSeek v0 r a1 c i k = v0 c i k := by
  intro v0 a1
  unfold xf_De_answerSeek
  (try dsimp only)
  all_goals ((repeat' split) <;> (first | with_reducible rfl | (simp only [do_19 hc hi, do_20 hc hi, do_21 hc hi, do_22 hc hi, do_23 hc hi, do_25 hc hi, do_26 hc hi, do_27 hc hi, do_r27 hc hi, do_14 hc hi, do_8 hc hi, do_send hc hi, do_send hc hi]; done)))
theorem do_De_connect_j10 {r c i k : Nat} (hc : c ≠ 5 ∧ c ≠ 7 ∧ c ≠ 8) (hi : ¬ ((i = r ∧ 19 ≤ c) ∨ (i = r + 2 ∧ c = 14))) : ∀ (v : fw_V) (k1 : Nat), xf_De_connect_j10 v r k1 c i k = v c i k := by
  intro v k1
  unfold xf_De_connect_j10
  (try dsimp only)
  all_goals ((repeat' split) <;> (first | with_reducible rfl | (simp only [do_19 hc hi, do_20 hc hi, do_21 hc hi, do_22 hc hi, do_23 hc hi, do_25 hc hi, do_26 hc hi, do_27 hc hi, do_r27 hc hi, do_14 hc hi, do_8 hc hi, do_send hc hi]; done)))
theorem do_De_connect_j9 {r c i k : Nat} (hc : c ≠ 5 ∧ c ≠ 7 ∧ c ≠ 8) (hi : ¬ ((i = r ∧ 19 ≤ c) ∨ (i = r + 2 ∧ c = 14))) : ∀ (v : fw_V) (k1 : Nat), xf_De_connect_j9 v r k1 c i k = v c i k := by
  intro v k1
  unfold xf_De_connect_j9
  (try dsimp only)
  all_goals ((repeat' split) <;> (first | with_reducible rfl | (simp only [do_19 hc hi, do_20 hc hi, do_21 hc hi, do_22 hc hi, do_23 hc hi, do_25 hc hi, do_26 hc hi, do_27 hc hi, do_r27 hc hi, do_14 hc hi, do_8 hc hi, do_send hc hi, do_De_connect_j10 hc hi]; done)))
theorem do_De_connect_j8 {r c i k : Nat} (hc : c ≠ 5 ∧ c ≠ 7 ∧ c ≠ 8) (hi : ¬ ((i = r ∧ 19 ≤ c) ∨ (i = r + 2 ∧ c = 14))) : ∀ (v : fw_V) (k1 : Nat), xf_De_connect_j8 v r k1 c i k = v c i k := by
  intro v k1
  unfold xf_De_connect_j8
  (try dsimp only)
  all_goals ((repeat' split) <;> (first | with_reducible rfl | (simp only [do_19 hc hi, do_20 hc hi, do_21 hc hi, do_22 hc hi, do_23 hc hi, do_25 hc hi, do_26 hc hi, do_27 hc hi, do_r27 hc hi, do_14 hc hi, do_8 hc hi, do_send hc hi, do_De_connect_j9 hc hi]; done)))
theorem do_De_connect_j11 {r c i k : Nat} (hc : c ≠ 5 ∧ c ≠ 7 ∧ c ≠ 8) (hi : ¬ ((i = r ∧ 19 ≤ c) ∨ (i = r + 2 ∧ c = 14))) : ∀ (v : fw_V) (k1 : Nat), xf_De_connect_j11 v r k1 c i k = v c i k := by
  intro v k1
  unfold xf_De_connect_j11
  (try dsimp only)
  all_goals ((repeat' split) <;> (first | with_reducible rfl | (simp only [do_19 hc hi, do_20 hc hi, do_21 hc hi, do_22 hc hi, do_23 hc hi, do_25 hc hi, do_26 hc hi, do_27 hc hi, do_r27 hc hi, do_14 hc hi, do_8 hc hi, do_send hc hi, do_De_connect_j10 hc hi]; done)))
theorem do_De_connect_j7 {r c i k : Nat} (hc : c ≠ 5 ∧ c ≠ 7 ∧ c ≠ 8) (hi : ¬ ((i = r ∧ 19 ≤ c) ∨ (i = r + 2 ∧ c = 14))) : ∀ (v : fw_V) (k1 : Nat), xf_De_connect_j7 v r k1 c i k = v c i k := by
  intro v k1
  unfold xf_De_connect_j7
  (try dsimp only)
  all_goals ((repeat' split) <;> (first | with_reducible rfl | (simp only [do_19 hc hi, do_20 hc hi, do_21 hc hi, do_22 hc hi, do_23 hc hi, do_25 hc hi, do_26 hc hi, do_27 hc hi, do_r27 hc hi, do_14 hc hi, do_8 hc hi, do_send hc hi, do_De_connect_j8 hc hi, do_De_connect_j11 hc hi]; done)))
theorem do_De_connect_j6 {r c i k : Nat} (hc : c ≠ 5 ∧ c ≠ 7 ∧ c ≠ 8) (hi : ¬ ((i = r ∧ 19 ≤ c) ∨ (i = r + 2 ∧ c = 14))) : ∀ (v : fw_V) (k1 : Nat), xf_De_connect_j6 v r k1 c i k = v c i k := by
  intro v k1
  unfold xf_De_connect_j6
  (try dsimp only)
  all_goals ((repeat' split) <;> (first | with_reducible rfl | (simp only [do_19 hc hi, do_20 hc hi, do_21 hc hi, do_22 hc hi, do_23 hc hi, do_25 hc hi, do_26 hc hi, do_27 hc hi, do_r27 hc hi, do_14 hc hi, do_8 hc hi, do_send hc hi, do_De_connect_j7 hc hi]; done)))
theorem do_De_connect_j5 {r c i k : Nat} (hc : c ≠ 5 ∧ c ≠ 7 ∧ c ≠ 8) (hi : ¬ ((i = r ∧ 19 ≤ c) ∨ (i = r + 2 ∧ c = 14))) : ∀ (v : fw_V) (k1 : Nat), xf_De_connect_j5 v r k1 c i k = v c i k := by
  intro v k1
  unfold xf_De_connect_j5
  (try dsimp only)
  all_goals ((repeat' split) <;> (first | with_reducible rfl | (simp only [do_19 hc hi, do_20 hc hi, do_21 hc hi, do_22 hc hi, do_23 hc hi, do_25 hc hi, do_26 hc hi, do_27 hc hi, do_r27 hc hi, do_14 hc hi, do_8 hc hi, do_send hc hi, do_De_connect_j6 hc hi]; done)))
theorem do_De_connect_j12 {r c i k : Nat} (hc : c ≠ 5 ∧ c ≠ 7 ∧ c ≠ 8) (hi : ¬ ((i = r ∧ 19 ≤ c) ∨ (i = r + 2 ∧ c = 14))) : ∀ (v : fw_V) (k1 : Nat), xf_De_connect_j12 v r k1 c i k = v c i k := by
  intro v k1
  unfold xf_De_connect_j12
  (try dsimp only)
  all_goals ((repeat' split) <;> (first | with_reducible rfl | (simp only [do_19 hc hi, do_20 hc hi, do_21 hc hi, do_22 hc hi, do_23 hc hi, do_25 hc hi, do_26 hc hi, do_27 hc hi, do_r27 hc hi, do_14 hc hi, do_8 hc hi, do_send hc hi, do_De_connect_j7 hc hi]; done)))
theorem do_De_connect_j4 {r c i k : Nat} (hc : c ≠ 5 ∧ c ≠ 7 ∧ c ≠ 8) (hi : ¬ ((i = r ∧ 19 ≤ c) ∨ (i = r + 2 ∧ c = 14))) : ∀ (v : fw_V) (k1 : Nat), xf_De_connect_j4 v r k1 c i k = v c i k := by
  intro v k1
  unfold xf_De_connect_j4
  (try dsimp only)
  all_goals ((repeat' split) <;> (first | with_reducible rfl | (simp only [do_19 hc hi, do_20 hc hi, do_21 hc hi, do_22 hc hi, do_23 hc hi, do_25 hc hi, do_26 hc hi, do_27 hc hi, do_r27 hc hi, do_14 hc hi, do_8 hc hi, do_send hc hi, do_De_connect_j5 hc hi, do_De_connect_j12 hc hi]; done)))
theorem do_De_connect_j3 {r c i k : Nat} (hc : c ≠ 5 ∧ c ≠ 7 ∧ c ≠ 8) (hi : ¬ ((i = r ∧ 19 ≤ c) ∨ (i = r + 2 ∧ c = 14))) : ∀ (v : fw_V) (k1 : Nat), xf_De_connect_j3 v r k1 c i k = v c i k := by
  intro v k1
  unfold xf_De_connect_j3
  (try dsimp only)
  all_goals ((repeat' split) <;> (first | with_reducible rfl | (simp only [do_19 hc hi, do_20 hc hi, do_21 hc hi, do_22 hc hi, do_23 hc hi, do_25 hc hi, do_26 hc hi, do_27 hc hi, do_r27 hc hi, do_14 hc hi, do_8 hc hi, do_send hc hi, do_De_connect_j4 hc hi]; done)))
theorem do_De_connect_j2 {r c i k : Nat} (hc : c ≠ 5 ∧ c ≠ 7 ∧ c ≠ 8) (hi : ¬ ((i = r ∧ 19 ≤ c) ∨ (i = r + 2 ∧ c = 14))) : ∀ (v : fw_V) (k1 : Nat), xf_De_connect_j2 v r k1 c i k = v c i k := by
  intro v k1
  unfold xf_De_connect_j2
  (try dsimp only)
  all_goals ((repeat' split) <;> (first | with_reducible rfl | (simp only [do_19 hc hi, do_20 hc hi, do_21 hc hi, do_22 hc hi, do_23 hc hi, do_25 hc hi, do_26 hc hi, do_27 hc hi, do_r27 hc hi, do_14 hc hi, do_8 hc hi, do_send hc hi, do_De_connect_j3 hc hi]; done)))
theorem do_De_connect_j13 {r c i k : Nat} (hc : c ≠ 5 ∧ c ≠ 7 ∧ c ≠ 8) (hi : ¬ ((i = r ∧ 19 ≤ c) ∨ (i = r + 2 ∧ c = 14))) : ∀ (v : fw_V) (k1 : Nat), xf_De_connect_j13 v r k1 c i k = v c i k := by
  intro v k1
  unfold xf_De_connect_j13
  (try dsimp only)
  all_goals ((repeat' split) <;> (first | with_reducible rfl | (simp only [do_19 hc hi, do_20 hc hi, do_21 hc hi, do_22 hc hi, do_23 hc hi, do_25 hc hi, do_26 hc hi, do_27 hc hi, do_r27 hc hi, do_14 hc hi, do_8 hc hi, do_send hc hi, do_De_connect_j4 hc hi]; done)))
theorem do_De_connect_j1 {r c i k : Nat} (hc : c ≠ 5 ∧ c ≠ 7 ∧ c ≠ 8) (hi : ¬ ((i = r ∧ 19 ≤ c) ∨ (i = r + 2 ∧ c = 14))) : ∀ (v : fw_V) (k1 : Nat), xf_De_connect_j1 v r k1 c i k = v c i k := by
  intro v k1
  unfold xf_De_connect_j1
  (try dsimp only)
  all_goals ((repeat' split) <;> (first | with_reducible rfl | (simp only [do_19 hc hi, do_20 hc hi, do_21 hc hi, do_22 hc hi, do_23 hc hi, do_25 hc hi, do_26 hc hi, do_27 hc hi, do_r27 hc hi, do_14 hc hi, do_8 hc hi, do_send hc hi, do_De_connect_j2 hc hi, do_De_connect_j13 hc hi]; done)))
theorem do_De_connect {r c i k : Nat} (hc : c ≠ 5 ∧ c ≠ 7 ∧ c ≠ 8) (hi : ¬ ((i = r ∧ 19 ≤ c) ∨ (i = r + 2 ∧ c = 14))) : ∀ (v0 : fw_V) (k1 : Nat), xf_De_connect v0 r k1 c i k = v0 c i k := by
  intro v0 k1
  unfold xf_De_connect
  (try dsimp only)
  all_goals ((repeat' split) <;> (first | with_reducible rfl | (simp only [do_19 hc hi, do_20 hc hi, do_21 hc hi, do_22 hc hi, do_23 hc hi, do_25 hc hi, do_26 hc hi, do_27 hc hi, do_r27 hc hi, do_14 hc hi, do_8 hc hi, do_send hc hi, do_De_connect_j1 hc hi]; done)))
theorem do_De_answerConnect_j2 {r c i k : Nat} (hc : c ≠ 5 ∧ c ≠ 7 ∧ c ≠ 8) (hi : ¬ ((i = r ∧ 19 ≤ c) ∨ (i = r + 2 ∧ c = 14))) : ∀ (v : fw_V) (k1 : Nat), xf_De_answerConnect_j2 v r k1 c i k = v c i k := by
  intro v k1
  unfold xf_De_answerConnect_j2
  (try dsimp only)
  all_goals ((repeat' split) <;> (first | with_reducible rfl | (simp only [do_19 hc hi, do_20 hc hi, do_21 hc hi, do_22 hc hi, do_23 hc hi, do_25 hc hi, do_26 hc hi, do_27 hc hi, do_r27 hc hi, do_14 hc hi, do_8 hc hi, do_send hc hi, do_De_connect hc hi, do_send hc hi]; done)))
theorem do_De_answerConnect_j1 {r c i k : Nat} (hc : c ≠ 5 ∧ c ≠ 7 ∧ c ≠ 8) (hi : ¬ ((i = r ∧ 19 ≤ c) ∨ (i = r + 2 ∧ c = 14))) : ∀ (v : fw_V) (k1 : Nat), xf_De_answerConnect_j1 v r k1 c i k = v c i k := by
  intro v k1
  unfold xf_De_answerConnect_j1
  (try dsimp only)
  all_goals ((repeat' split) <;> (first | with_reducible rfl | (simp only [do_19 hc hi, do_20 hc hi, do_21 hc hi, do_22 hc hi, do_23 hc hi, do_25 hc hi, do_26 hc hi, do_27 hc hi, do_r27 hc hi, do_14 hc hi, do_8 hc hi, do_send hc hi, do_De_answerConnect_j2 hc hi]; done)))
theorem do_De_answerConnect {r c i k : Nat} (hc : c ≠ 5 ∧ c ≠ 7 ∧ c ≠ 8) (hi : ¬ ((i = r ∧ 19 ≤ c) ∨ (i = r + 2 ∧ c = 14))) : ∀ (v0 : fw_V) (k1 : Nat), xf_De_answerConnect v0 r k1 c i k = v0 c i k := by
  intro v0 k1
  unfold xf_De_answerConnect
  (try dsimp only)
  all_goals ((repeat' split) <;> (first | with_reducible rfl | (simp only [do_19 hc hi, do_20 hc hi, do_21 hc hi, do_22 hc hi, do_23 hc hi, do_25 hc hi, do_26 hc hi, do_27 hc hi, do_r27 hc hi, do_14 hc hi, do_8 hc hi, do_send hc hi, do_De_answerConnect_j1 hc hi, do_send hc hi]; done)))
theorem do_De_keepParameter {r c i k : Nat} (hc : c ≠ 5 ∧ c ≠ 7 ∧ c ≠ 8) (hi : ¬ ((i = r ∧ 19 ≤ c) ∨ (i = r + 2 ∧ c = 14))) : ∀ (v0 : fw_V) (k1 : Nat), xf_De_keepParameter v0 r k1 c i k = v0 c i k := by
  intro v0 k1
  unfold xf_De_keepParameter
  (try dsimp only)
  all_goals ((repeat' split) <;> (first | with_reducible rfl | (simp only [do_19 hc hi, do_20 hc hi, do_21 hc hi, do_22 hc hi, do_23 hc hi, do_25 hc hi, do_26 hc hi, do_27 hc hi, do_r27 hc hi, do_14 hc hi, do_8 hc hi, do_send hc hi, do_send hc hi]; done)))
theorem do_De_answerEnd_j1 {r c i k : Nat} (hc : c ≠ 5 ∧ c ≠ 7 ∧ c ≠ 8) (hi : ¬ ((i = r ∧ 19 ≤ c) ∨ (i = r + 2 ∧ c = 14))) : ∀ (v : fw_V), xf_De_answerEnd_j1 v r c i k = v c i k := by
  intro v
  unfold xf_De_answerEnd_j1
  (try dsimp only)
  all_goals ((repeat' split) <;> (first | with_reducible rfl | (simp only [do_19 hc hi, do_20 hc hi, do_21 hc hi, do_22 hc hi, do_23 hc hi, do_25 hc hi, do_26 hc hi, do_27 hc hi, do_r27 hc hi, do_14 hc hi, do_8 hc hi, do_send hc hi, do_send hc hi]; done)))
theorem do_AQ_clear {r c i k : Nat} (hc : c ≠ 5 ∧ c ≠ 7 ∧ c ≠ 8) (hi : ¬ ((i = r ∧ 19 ≤ c) ∨ (i = r + 2 ∧ c = 14))) : ∀ (v0 : fw_V), xf_AQ_clear v0 r c i k = v0 c i k := by
  intro v0
  unfold xf_AQ_clear
  (try dsimp only)
  all_goals ((repeat' split) <;> (first | with_reducible rfl | (simp only [do_19 hc hi, do_20 hc hi, do_21 hc hi, do_22 hc hi, do_23 hc hi, do_25 hc hi, do_26 hc hi, do_27 hc hi, do_r27 hc hi, do_14 hc hi, do_8 hc hi, do_send hc hi]; done)))
theorem do_De_becomeIdle_j1 {r c i k : Nat} (hc : c ≠ 5 ∧ c ≠ 7 ∧ c ≠ 8) (hi : ¬ ((i = r ∧ 19 ≤ c) ∨ (i = r + 2 ∧ c = 14))) : ∀ (v : fw_V), xf_De_becomeIdle_j1 v r c i k = v c i k := by
  intro v
  unfold xf_De_becomeIdle_j1
  (try dsimp only)
  all_goals ((repeat' split) <;> (first | with_reducible rfl | (simp only [do_19 hc hi, do_20 hc hi, do_21 hc hi, do_22 hc hi, do_23 hc hi, do_25 hc hi, do_26 hc hi, do_27 hc hi, do_r27 hc hi, do_14 hc hi, do_8 hc hi, do_send hc hi, do_AQ_clear hc hi]; done)))
theorem do_De_becomeIdle_j5 {r c i k : Nat} (hc : c ≠ 5 ∧ c ≠ 7 ∧ c ≠ 8) (hi : ¬ ((i = r ∧ 19 ≤ c) ∨ (i = r + 2 ∧ c = 14))) : ∀ (v : fw_V), xf_De_becomeIdle_j5 v r c i k = v c i k := by
  intro v
  unfold xf_De_becomeIdle_j5
  (try dsimp only)
  all_goals ((repeat' split) <;> (first | with_reducible rfl | (simp only [do_19 hc hi, do_20 hc hi, do_21 hc hi, do_22 hc hi, do_23 hc hi, do_25 hc hi, do_26 hc hi, do_27 hc hi, do_r27 hc hi, do_14 hc hi, do_8 hc hi, do_send hc hi, do_De_becomeIdle_j1 hc hi]; done)))
theorem do_De_becomeIdle_j4 {r c i k : Nat} (hc : c ≠ 5 ∧ c ≠ 7 ∧ c ≠ 8) (hi : ¬ ((i = r ∧ 19 ≤ c) ∨ (i = r + 2 ∧ c = 14))) : ∀ (v : fw_V), xf_De_becomeIdle_j4 v r c i k = v c i k := by
  intro v
  unfold xf_De_becomeIdle_j4
  (try dsimp only)
  all_goals ((repeat' split) <;> (first | with_reducible rfl | (simp only [do_19 hc hi, do_20 hc hi, do_21 hc hi, do_22 hc hi, do_23 hc hi, do_25 hc hi, do_26 hc hi, do_27 hc hi, do_r27 hc hi, do_14 hc hi, do_8 hc hi, do_send hc hi, do_De_showFallback hc hi, do_De_becomeIdle_j5 hc hi]; done)))
theorem do_De_becomeIdle_j3 {r c i k : Nat} (hc : c ≠ 5 ∧ c ≠ 7 ∧ c ≠ 8) (hi : ¬ ((i = r ∧ 19 ≤ c) ∨ (i = r + 2 ∧ c = 14))) : ∀ (v : fw_V), xf_De_becomeIdle_j3 v r c i k = v c i k := by
  intro v
  unfold xf_De_becomeIdle_j3
  (try dsimp only)
  all_goals ((repeat' split) <;> (first | with_reducible rfl | (simp only [do_19 hc hi, do_20 hc hi, do_21 hc hi, do_22 hc hi, do_23 hc hi, do_25 hc hi, do_26 hc hi, do_27 hc hi, do_r27 hc hi, do_14 hc hi, do_8 hc hi, do_send hc hi, do_De_showFallback hc hi, do_De_becomeIdle_j4 hc hi]; done)))
theorem do_De_becomeIdle_j2 {r c i k : Nat} (hc : c ≠ 5 ∧ c ≠ 7 ∧ c ≠ 8) (hi : ¬ ((i = r ∧ 19 ≤ c) ∨ (i = r + 2 ∧ c = 14))) : ∀ (v : fw_V), xf_De_becomeIdle_j2 v r c i k = v c i k := by
  intro v
  unfold xf_De_becomeIdle_j2
  (try dsimp only)
  all_goals ((repeat' split) <;> (first | with_reducible rfl | (simp only [do_19 hc hi, do_20 hc hi, do_21 hc hi, do_22 hc hi, do_23 hc hi, do_25 hc hi, do_26 hc hi, do_27 hc hi, do_r27 hc hi, do_14 hc hi, do_8 hc hi, do_send hc hi, do_De_showFallback hc hi, do_De_becomeIdle_j3 hc hi]; done)))
theorem do_De_becomeIdle {r c i k : Nat} (hc : c ≠ 5 ∧ c ≠ 7 ∧ c ≠ 8) (hi : ¬ ((i = r ∧ 19 ≤ c) ∨ (i = r + 2 ∧ c = 14))) : ∀ (v0 : fw_V), xf_De_becomeIdle v0 r c i k = v0 c i k := by
  intro v0
  unfold xf_De_becomeIdle
  (try dsimp only)
  all_goals ((repeat' split) <;> (first | with_reducible rfl | (simp only [do_19 hc hi, do_20 hc hi, do_21 hc hi, do_22 hc hi, do_23 hc hi, do_25 hc hi, do_26 hc hi, do_27 hc hi, do_r27 hc hi, do_14 hc hi, do_8 hc hi, do_send hc hi, do_De_becomeIdle_j2 hc hi, do_De_becomeIdle_j1 hc hi]; done)))
theorem do_De_abort {r c i k : Nat} (hc : c ≠ 5 ∧ c ≠ 7 ∧ c ≠ 8) (hi : ¬ ((i = r ∧ 19 ≤ c) ∨ (i = r + 2 ∧ c = 14))) : ∀ (v0 : fw_V), xf_De_abort v0 r c i k = v0 c i k := by
  intro v0
  unfold xf_De_abort
  (try dsimp only)
  all_goals ((repeat' split) <;> (first | with_reducible rfl | (simp only [do_19 hc hi, do_20 hc hi, do_21 hc hi, do_22 hc hi, do_23 hc hi, do_25 hc hi, do_26 hc hi, do_27 hc hi, do_r27 hc hi, do_14 hc hi, do_8 hc hi, do_send hc hi, do_send hc hi, do_De_becomeIdle hc hi]; done)))
theorem do_De_answerEnd {r c i k : Nat} (hc : c ≠ 5 ∧ c ≠ 7 ∧ c ≠ 8) (hi : ¬ ((i = r ∧ 19 ≤ c) ∨ (i = r + 2 ∧ c = 14))) : ∀ (v0 : fw_V), xf_De_answerEnd v0 r c i k = v0 c i k := by
  intro v0
  unfold xf_De_answerEnd
  (try dsimp only)
  all_goals ((repeat' split) <;> (first | with_reducible rfl | (simp only [do_19 hc hi, do_20 hc hi, do_21 hc hi, do_22 hc hi, do_23 hc hi, do_25 hc hi, do_26 hc hi, do_27 hc hi, do_r27 hc hi, do_14 hc hi, do_8 hc hi, do_send hc hi, do_De_answerEnd_j1 hc hi, do_De_abort hc hi]; done)))
theorem do_De_beginData {r c i k : Nat} (hc : c ≠ 5 ∧ c ≠ 7 ∧ c ≠ 8) (hi : ¬ ((i = r ∧ 19 ≤ c) ∨ (i = r + 2 ∧ c = 14))) : ∀ (v0 : fw_V), xf_De_beginData v0 r c i k = v0 c i k := by
  intro v0
  unfold xf_De_beginData
  (try dsimp only)
  all_goals ((repeat' split) <;> (first | with_reducible rfl | (simp only [do_19 hc hi, do_20 hc hi, do_21 hc hi, do_22 hc hi, do_23 hc hi, do_25 hc hi, do_26 hc hi, do_27 hc hi, do_r27 hc hi, do_14 hc hi, do_8 hc hi, do_send hc hi, do_Cy_restart hc hi]; done)))
theorem do_De_takeOutput_j7 {r c i k : Nat} (hc : c ≠ 5 ∧ c ≠ 7 ∧ c ≠ 8) (hi : ¬ ((i = r ∧ 19 ≤ c) ∨ (i = r + 2 ∧ c = 14))) : ∀ (v : fw_V) (k1 : Nat), xf_De_takeOutput_j7 v r k1 c i k = v c i k := by
  intro v k1
  unfold xf_De_takeOutput_j7
  (try dsimp only)
  all_goals ((repeat' split) <;> (first | with_reducible rfl | (simp only [do_19 hc hi, do_20 hc hi, do_21 hc hi, do_22 hc hi, do_23 hc hi, do_25 hc hi, do_26 hc hi, do_27 hc hi, do_r27 hc hi, do_14 hc hi, do_8 hc hi, do_send hc hi]; done)))
theorem do_De_takeOutput_j6 {r c i k : Nat} (hc : c ≠ 5 ∧ c ≠ 7 ∧ c ≠ 8) (hi : ¬ ((i = r ∧ 19 ≤ c) ∨ (i = r + 2 ∧ c = 14))) : ∀ (v : fw_V) (k1 : Nat), xf_De_takeOutput_j6 v r k1 c i k = v c i k := by
  intro v k1
  unfold xf_De_takeOutput_j6
  (try dsimp only)
  all_goals ((repeat' split) <;> (first | with_reducible rfl | (simp only [do_19 hc hi, do_20 hc hi, do_21 hc hi, do_22 hc hi, do_23 hc hi, do_25 hc hi, do_26 hc hi, do_27 hc hi, do_r27 hc hi, do_14 hc hi, do_8 hc hi, do_send hc hi, do_De_takeOutput_j7 hc hi]; done)))
theorem do_De_showRow_j5 {r c i k : Nat} (hc : c ≠ 5 ∧ c ≠ 7 ∧ c ≠ 8) (hi : ¬ ((i = r ∧ 19 ≤ c) ∨ (i = r + 2 ∧ c = 14))) : ∀ (v : fw_V) (k1 : Nat) (a2 : Int32) (x3 : Int32), xf_De_showRow_j5 v r k1 a2 x3 c i k = v c i k := by
  intro v k1 a2 x3
  unfold xf_De_showRow_j5
  (try dsimp only)
  all_goals ((repeat' split) <;> (first | with_reducible rfl | (simp only [do_19 hc hi, do_20 hc hi, do_21 hc hi, do_22 hc hi, do_23 hc hi, do_25 hc hi, do_26 hc hi, do_27 hc hi, do_r27 hc hi, do_14 hc hi, do_8 hc hi, do_send hc hi]; done)))
theorem do_De_showRow_j4 {r c i k : Nat} (hc : c ≠ 5 ∧ c ≠ 7 ∧ c ≠ 8) (hi : ¬ ((i = r ∧ 19 ≤ c) ∨ (i = r + 2 ∧ c = 14))) : ∀ (v : fw_V) (k1 : Nat) (a2 : Int32) (x3 : Int32) (x91 : Int32), xf_De_showRow_j4 v r k1 a2 x3 x91 c i k = v c i k := by
  intro v k1 a2 x3 x91
  unfold xf_De_showRow_j4
  (try dsimp only)
  all_goals ((repeat' split) <;> (first | with_reducible rfl | (simp only [do_19 hc hi, do_20 hc hi, do_21 hc hi, do_22 hc hi, do_23 hc hi, do_25 hc hi, do_26 hc hi, do_27 hc hi, do_r27 hc hi, do_14 hc hi, do_8 hc hi, do_send hc hi, do_De_showRow_j5 hc hi]; done)))
theorem do_De_showRow_j6 {r c i k : Nat} (hc : c ≠ 5 ∧ c ≠ 7 ∧ c ≠ 8) (hi : ¬ ((i = r ∧ 19 ≤ c) ∨ (i = r + 2 ∧ c = 14))) : ∀ (v : fw_V) (k1 : Nat) (a2 : Int32) (x3 : Int32) (x90 : Int32) (x91 : Int32), xf_De_showRow_j6 v r k1 a2 x3 x90 x91 c i k = v c i k := by
  intro v k1 a2 x3 x90 x91
  unfold xf_De_showRow_j6
  (try dsimp only)
  all_goals ((repeat' split) <;> (first | with_reducible rfl | (simp only [do_19 hc hi, do_20 hc hi, do_21 hc hi, do_22 hc hi, do_23 hc hi, do_25 hc hi, do_26 hc hi, do_27 hc hi, do_r27 hc hi, do_14 hc hi, do_8 hc hi, do_send hc hi, do_De_showRow_j5 hc hi]; done)))
theorem do_De_showRow_j3 {r c i k : Nat} (hc : c ≠ 5 ∧ c ≠ 7 ∧ c ≠ 8) (hi : ¬ ((i = r ∧ 19 ≤ c) ∨ (i = r + 2 ∧ c = 14))) : ∀ (v : fw_V) (k1 : Nat) (a2 : Int32) (x3 : Int32), xf_De_showRow_j3 v r k1 a2 x3 c i k = v c i k := by
  intro v k1 a2 x3
  unfold xf_De_showRow_j3
  (try dsimp only)
  all_goals ((repeat' split) <;> (first | with_reducible rfl | (simp only [do_19 hc hi, do_20 hc hi, do_21 hc hi, do_22 hc hi, do_23 hc hi, do_25 hc hi, do_26 hc hi, do_27 hc hi, do_r27 hc hi, do_14 hc hi, do_8 hc hi, do_send hc hi, do_De_showRow_j4 hc hi, do_De_showRow_j6 hc hi]; done)))
theorem do_De_showRow_j2 {r c i k : Nat} (hc : c ≠ 5 ∧ c ≠ 7 ∧ c ≠ 8) (hi : ¬ ((i = r ∧ 19 ≤ c) ∨ (i = r + 2 ∧ c = 14))) : ∀ (v : fw_V) (k1 : Nat) (a2 : Int32) (x3 : Int32) (x91 : Int32), xf_De_showRow_j2 v r k1 a2 x3 x91 c i k = v c i k := by
  intro v k1 a2 x3 x91
  unfold xf_De_showRow_j2
  (try dsimp only)
  all_goals ((repeat' split) <;> (first | with_reducible rfl | (simp only [do_19 hc hi, do_20 hc hi, do_21 hc hi, do_22 hc hi, do_23 hc hi, do_25 hc hi, do_26 hc hi, do_27 hc hi, do_r27 hc hi, do_14 hc hi, do_8 hc hi, do_send hc hi, do_De_showRow_j3 hc hi]; done)))
theorem do_De_showRow_j7 {r c i k : Nat} (hc : c ≠ 5 ∧ c ≠ 7 ∧ c ≠ 8) (hi : ¬ ((i = r ∧ 19 ≤ c) ∨ (i = r + 2 ∧ c = 14))) : ∀ (v : fw_V) (k1 : Nat) (a2 : Int32) (x3 : Int32) (x90 : Int32) (x91 : Int32), xf_De_showRow_j7 v r k1 a2 x3 x90 x91 c i k = v c i k := by
  intro v k1 a2 x3 x90 x91
  unfold xf_De_showRow_j7
  (try dsimp only)
  all_goals ((repeat' split) <;> (first | with_reducible rfl | (simp only [do_19 hc hi, do_20 hc hi, do_21 hc hi, do_22 hc hi, do_23 hc hi, do_25 hc hi, do_26 hc hi, do_27 hc hi, do_r27 hc hi, do_14 hc hi, do_8 hc hi, do_send hc hi, do_De_showRow_j3 hc hi]; done)))
theorem do_De_showRow_j1 {r c i k : Nat} (hc : c ≠ 5 ∧ c ≠ 7 ∧ c ≠ 8) (hi : ¬ ((i = r ∧ 19 ≤ c) ∨ (i = r + 2 ∧ c = 14))) : ∀ (v : fw_V) (k1 : Nat) (a2 : Int32) (x3 : Int32), xf_De_showRow_j1 v r k1 a2 x3 c i k = v c i k := by
  intro v k1 a2 x3
  unfold xf_De_showRow_j1
  (try dsimp only)
  all_goals ((repeat' split) <;> (first | with_reducible rfl | (simp only [do_19 hc hi, do_20 hc hi, do_21 hc hi, do_22 hc hi, do_23 hc hi, do_25 hc hi, do_26 hc hi, do_27 hc hi, do_r27 hc hi, do_14 hc hi, do_8 hc hi, do_send hc hi, do_De_showRow_j2 hc hi, do_De_showRow_j7 hc hi]; done)))
theorem do_De_showRow {r c i k : Nat} (hc : c ≠ 5 ∧ c ≠ 7 ∧ c ≠ 8) (hi : ¬ ((i = r ∧ 19 ≤ c) ∨ (i = r + 2 ∧ c = 14))) : ∀ (v0 : fw_V) (k1 : Nat) (a2 : Int32), xf_De_showRow v0 r k1 a2 c i k = v0 c i k := by
  intro v0 k1 a2
  unfold xf_De_showRow
  (try dsimp only)
  all_goals ((repeat' split) <;> (first | with_reducible rfl | (simp only [do_19 hc hi, do_20 hc hi, do_21 hc hi, do_22 hc hi, do_23 hc hi, do_25 hc hi, do_26 hc hi, do_27 hc hi, do_r27 hc hi, do_14 hc hi, do_8 hc hi, do_send hc hi, do_De_showRow_j1 hc hi]; done)))
theorem do_De_takeOutput_j5 {r c i k : Nat} (hc : c ≠ 5 ∧ c ≠ 7 ∧ c ≠ 8) (hi : ¬ ((i = r ∧ 19 ≤ c) ∨ (i = r + 2 ∧ c = 14))) : ∀ (v : fw_V) (k1 : Nat), xf_De_takeOutput_j5 v r k1 c i k = v c i k := by
  intro v k1
  unfold xf_De_takeOutput_j5
  (try dsimp only)
  all_goals ((repeat' split) <;> (first | with_reducible rfl | (simp only [do_19 hc hi, do_20 hc hi, do_21 hc hi, do_22 hc hi, do_23 hc hi, do_25 hc hi, do_26 hc hi, do_27 hc hi, do_r27 hc hi, do_14 hc hi, do_8 hc hi, do_send hc hi, do_De_takeOutput_j6 hc hi, do_De_showRow hc hi]; done)))
theorem do_De_takeOutput_j4 {r c i k : Nat} (hc : c ≠ 5 ∧ c ≠ 7 ∧ c ≠ 8) (hi : ¬ ((i = r ∧ 19 ≤ c) ∨ (i = r + 2 ∧ c = 14))) : ∀ (v : fw_V) (k1 : Nat), xf_De_takeOutput_j4 v r k1 c i k = v c i k := by
  intro v k1
  unfold xf_De_takeOutput_j4
  (try dsimp only)
  all_goals ((repeat' split) <;> (first | with_reducible rfl | (simp only [do_19 hc hi, do_20 hc hi, do_21 hc hi, do_22 hc hi, do_23 hc hi, do_25 hc hi, do_26 hc hi, do_27 hc hi, do_r27 hc hi, do_14 hc hi, do_8 hc hi, do_send hc hi, do_De_takeOutput_j5 hc hi]; done)))
theorem do_De_takeOutput_j3 {r c i k : Nat} (hc : c ≠ 5 ∧ c ≠ 7 ∧ c ≠ 8) (hi : ¬ ((i = r ∧ 19 ≤ c) ∨ (i = r + 2 ∧ c = 14))) : ∀ (v : fw_V) (k1 : Nat), xf_De_takeOutput_j3 v r k1 c i k = v c i k := by
  intro v k1
  unfold xf_De_takeOutput_j3
  (try dsimp only)
  all_goals ((repeat' split) <;> (first | with_reducible rfl | (simp only [do_19 hc hi, do_20 hc hi, do_21 hc hi, do_22 hc hi, do_23 hc hi, do_25 hc hi, do_26 hc hi, do_27 hc hi, do_r27 hc hi, do_14 hc hi, do_8 hc hi, do_send hc hi, do_De_takeOutput_j4 hc hi, do_De_showRow hc hi]; done)))
theorem do_De_takeOutput_j2 {r c i k : Nat} (hc : c ≠ 5 ∧ c ≠ 7 ∧ c ≠ 8) (hi : ¬ ((i = r ∧ 19 ≤ c) ∨ (i = r + 2 ∧ c = 14))) : ∀ (v : fw_V) (k1 : Nat), xf_De_takeOutput_j2 v r k1 c i k = v c i k := by
  intro v k1
  unfold xf_De_takeOutput_j2
  (try dsimp only)
  all_goals ((repeat' split) <;> (first | with_reducible rfl | (simp only [do_19 hc hi, do_20 hc hi, do_21 hc hi, do_22 hc hi, do_23 hc hi, do_25 hc hi, do_26 hc hi, do_27 hc hi, do_r27 hc hi, do_14 hc hi, do_8 hc hi, do_send hc hi, do_De_takeOutput_j3 hc hi]; done)))
theorem do_De_takeOutput_j1 {r c i k : Nat} (hc : c ≠ 5 ∧ c ≠ 7 ∧ c ≠ 8) (hi : ¬ ((i = r ∧ 19 ≤ c) ∨ (i = r + 2 ∧ c = 14))) : ∀ (v : fw_V) (k1 : Nat), xf_De_takeOutput_j1 v r k1 c i k = v c i k := by
  intro v k1
  unfold xf_De_takeOutput_j1
  (try dsimp only)
  all_goals ((repeat' split) <;> (first | with_reducible rfl | (simp only [do_19 hc hi, do_20 hc hi, do_21 hc hi, do_22 hc hi, do_23 hc hi, do_25 hc hi, do_26 hc hi, do_27 hc hi, do_r27 hc hi, do_14 hc hi, do_8 hc hi, do_send hc hi, do_De_takeOutput_j2 hc hi, do_De_showRow hc hi]; done)))
theorem do_De_takeOutput {r c i k : Nat} (hc : c ≠ 5 ∧ c ≠ 7 ∧ c ≠ 8) (hi : ¬ ((i = r ∧ 19 ≤ c) ∨ (i = r + 2 ∧ c = 14))) : ∀ (v0 : fw_V) (k1 : Nat), xf_De_takeOutput v0 r k1 c i k = v0 c i k := by
  intro v0 k1
  unfold xf_De_takeOutput
  (try dsimp only)
  all_goals ((repeat' split) <;> (first | with_reducible rfl | (simp only [do_19 hc hi, do_20 hc hi, do_21 hc hi, do_22 hc hi, do_23 hc hi, do_25 hc hi, do_26 hc hi, do_27 hc hi, do_r27 hc hi, do_14 hc hi, do_8 hc hi, do_send hc hi, do_Cy_takes hc hi, do_De_takeOutput_j1 hc hi]; done)))
theorem do_AQ_taken_j4 {r c i k : Nat} (hc : c ≠ 5 ∧ c ≠ 7 ∧ c ≠ 8) (hi : ¬ ((i = r ∧ 19 ≤ c) ∨ (i = r + 2 ∧ c = 14))) : ∀ (v : fw_V) (a1 : Int32), xf_AQ_taken_j4 v r a1 c i k = v c i k := by
  intro v a1
  unfold xf_AQ_taken_j4
  (try dsimp only)
  all_goals ((repeat' split) <;> (first | with_reducible rfl | (simp only [do_19 hc hi, do_20 hc hi, do_21 hc hi, do_22 hc hi, do_23 hc hi, do_25 hc hi, do_26 hc hi, do_27 hc hi, do_r27 hc hi, do_14 hc hi, do_8 hc hi, do_send hc hi]; done)))
theorem do_AQ_taken_j3 {r c i k : Nat} (hc : c ≠ 5 ∧ c ≠ 7 ∧ c ≠ 8) (hi : ¬ ((i = r ∧ 19 ≤ c) ∨ (i = r + 2 ∧ c = 14))) : ∀ (v : fw_V) (a1 : Int32), xf_AQ_taken_j3 v r a1 c i k = v c i k := by
  intro v a1
  unfold xf_AQ_taken_j3
  (try dsimp only)
  all_goals ((repeat' split) <;> (first | with_reducible rfl | (simp only [do_19 hc hi, do_20 hc hi, do_21 hc hi, do_22 hc hi, do_23 hc hi, do_25 hc hi, do_26 hc hi, do_27 hc hi, do_r27 hc hi, do_14 hc hi, do_8 hc hi, do_send hc hi, do_AQ_taken_j4 hc hi]; done)))
theorem do_AQ_taken_j2 {r c i k : Nat} (hc : c ≠ 5 ∧ c ≠ 7 ∧ c ≠ 8) (hi : ¬ ((i = r ∧ 19 ≤ c) ∨ (i = r + 2 ∧ c = 14))) : ∀ (v : fw_V) (a1 : Int32), xf_AQ_taken_j2 v r a1 c i k = v c i k := by
  intro v a1
  unfold xf_AQ_taken_j2
  (try dsimp only)
  all_goals ((repeat' split) <;> (first | with_reducible rfl | (simp only [do_19 hc hi, do_20 hc hi, do_21 hc hi, do_22 hc hi, do_23 hc hi, do_25 hc hi, do_26 hc hi, do_27 hc hi, do_r27 hc hi, do_14 hc hi, do_8 hc hi, do_send hc hi, do_AQ_taken_j3 hc hi]; done)))
theorem do_AQ_taken_j1 {r c i k : Nat} (hc : c ≠ 5 ∧ c ≠ 7 ∧ c ≠ 8) (hi : ¬ ((i = r ∧ 19 ≤ c) ∨ (i = r + 2 ∧ c = 14))) : ∀ (v : fw_V) (a1 : Int32), xf_AQ_taken_j1 v r a1 c i k = v c i k := by
  intro v a1
  unfold xf_AQ_taken_j1
  (try dsimp only)
  all_goals ((repeat' split) <;> (first | with_reducible rfl | (simp only [do_19 hc hi, do_20 hc hi, do_21 hc hi, do_22 hc hi, do_23 hc hi, do_25 hc hi, do_26 hc hi, do_27 hc hi, do_r27 hc hi, do_14 hc hi, do_8 hc hi, do_send hc hi, do_AQ_taken_j2 hc hi]; done)))
theorem do_AQ_taken {r c i k : Nat} (hc : c ≠ 5 ∧ c ≠ 7 ∧ c ≠ 8) (hi : ¬ ((i = r ∧ 19 ≤ c) ∨ (i = r + 2 ∧ c = 14))) : ∀ (v0 : fw_V) (a1 : Int32), xf_AQ_taken v0 r a1 c i k = v0 c i k := by
  intro v0 a1
  unfold xf_AQ_taken
  (try dsimp only)
  all_goals ((repeat' split) <;> (first | with_reducible rfl | (simp only [do_19 hc hi, do_20 hc hi, do_21 hc hi, do_22 hc hi, do_23 hc hi, do_25 hc hi, do_26 hc hi, do_27 hc hi, do_r27 hc hi, do_14 hc hi, do_8 hc hi, do_send hc hi, do_AQ_taken_j1 hc hi]; done)))
theorem do_De_receive {r c i k : Nat} (hc : c ≠ 5 ∧ c ≠ 7 ∧ c ≠ 8) (hi : ¬ ((i = r ∧ 19 ≤ c) ∨ (i = r + 2 ∧ c = 14))) : ∀ (v0 : fw_V) (k1 : Nat), xf_De_receive v0 r k1 c i k = v0 c i k := by
  intro v0 k1
  unfold xf_De_receive
  (try dsimp only)
  all_goals ((repeat' split) <;> (first | with_reducible rfl | (simp only [do_19 hc hi, do_20 hc hi, do_21 hc hi, do_22 hc hi, do_23 hc hi, do_25 hc hi, do_26 hc hi, do_27 hc hi, do_r27 hc hi, do_14 hc hi, do_8 hc hi, do_send hc hi, do_De_answerSeek hc hi, do_De_answerConnect hc hi, do_De_keepParameter hc hi, do_De_answerEnd hc hi, do_De_beginData hc hi, do_De_takeOutput hc hi, do_AQ_taken hc hi, do_De_becomeIdle hc hi]; done)))
theorem do_AQ_isDueThisTick_j1 {r c i k : Nat} (hc : c ≠ 5 ∧ c ≠ 7 ∧ c ≠ 8) (hi : ¬ ((i = r ∧ 19 ≤ c) ∨ (i = r + 2 ∧ c = 14))) : ∀ (v : fw_V) (x90 : Int32), (xf_AQ_isDueThisTick_j1 v r x90).2 c i k = v c i k := by
  intro v x90
  unfold xf_AQ_isDueThisTick_j1
  (try dsimp only)
  all_goals ((repeat' split) <;> (first | with_reducible rfl | (simp only [do_19 hc hi, do_20 hc hi, do_21 hc hi, do_22 hc hi, do_23 hc hi, do_25 hc hi, do_26 hc hi, do_27 hc hi, do_r27 hc hi, do_14 hc hi, do_8 hc hi, do_send hc hi]; done)))
theorem do_AQ_isDueThisTick_j2 {r c i k : Nat} (hc : c ≠ 5 ∧ c ≠ 7 ∧ c ≠ 8) (hi : ¬ ((i = r ∧ 19 ≤ c) ∨ (i = r + 2 ∧ c = 14))) : ∀ (v : fw_V), (xf_AQ_isDueThisTick_j2 v r).2 c i k = v c i k := by
  intro v
  unfold xf_AQ_isDueThisTick_j2
  (try dsimp only)
  all_goals ((repeat' split) <;> (first | with_reducible rfl | (simp only [do_19 hc hi, do_20 hc hi, do_21 hc hi, do_22 hc hi, do_23 hc hi, do_25 hc hi, do_26 hc hi, do_27 hc hi, do_r27 hc hi, do_14 hc hi, do_8 hc hi, do_send hc hi]; done)))
theorem do_AQ_isDueThisTick {r c i k : Nat} (hc : c ≠ 5 ∧ c ≠ 7 ∧ c ≠ 8) (hi : ¬ ((i = r ∧ 19 ≤ c) ∨ (i = r + 2 ∧ c = 14))) : ∀ (v0 : fw_V), (xf_AQ_isDueThisTick v0 r).2 c i k = v0 c i k := by
  intro v0
  unfold xf_AQ_isDueThisTick
  (try dsimp only)
  all_goals ((repeat' split) <;> (first | with_reducible rfl | (simp only [do_19 hc hi, do_20 hc hi, do_21 hc hi, do_22 hc hi, do_23 hc hi, do_25 hc hi, do_26 hc hi, do_27 hc hi, do_r27 hc hi, do_14 hc hi, do_8 hc hi, do_send hc hi, do_AQ_isDueThisTick_j1 hc hi, do_AQ_isDueThisTick_j2 hc hi]; done)))
theorem do_De_sendInput_j7 {r c i k : Nat} (hc : c ≠ 5 ∧ c ≠ 7 ∧ c ≠ 8) (hi : ¬ ((i = r ∧ 19 ≤ c) ∨ (i = r + 2 ∧ c = 14))) : ∀ (v : fw_V) (k1 : Nat), xf_De_sendInput_j7 v r k1 c i k = v c i k := by
  intro v k1
  unfold xf_De_sendInput_j7
  (try dsimp only)
  all_goals ((repeat' split) <;> (first | with_reducible rfl | (simp only [do_19 hc hi, do_20 hc hi, do_21 hc hi, do_22 hc hi, do_23 hc hi, do_25 hc hi, do_26 hc hi, do_27 hc hi, do_r27 hc hi, do_14 hc hi, do_8 hc hi, do_send hc hi]; done)))
theorem do_De_sendInput_j6 {r c i k : Nat} (hc : c ≠ 5 ∧ c ≠ 7 ∧ c ≠ 8) (hi : ¬ ((i = r ∧ 19 ≤ c) ∨ (i = r + 2 ∧ c = 14))) : ∀ (v : fw_V) (k1 : Nat), xf_De_sendInput_j6 v r k1 c i k = v c i k := by
  intro v k1
  unfold xf_De_sendInput_j6
  (try dsimp only)
  all_goals ((repeat' split) <;> (first | with_reducible rfl | (simp only [do_19 hc hi, do_20 hc hi, do_21 hc hi, do_22 hc hi, do_23 hc hi, do_25 hc hi, do_26 hc hi, do_27 hc hi, do_r27 hc hi, do_14 hc hi, do_8 hc hi, do_send hc hi, do_De_sendInput_j7 hc hi]; done)))
theorem do_De_copySensed_j3 {r c i k : Nat} (hc : c ≠ 5 ∧ c ≠ 7 ∧ c ≠ 8) (hi : ¬ ((i = r ∧ 19 ≤ c) ∨ (i = r + 2 ∧ c = 14))) : ∀ (v : fw_V) (k1 : Nat) (a2 : Int32) (x3 : Int32), xf_De_copySensed_j3 v r k1 a2 x3 c i k = v c i k := by
  intro v k1 a2 x3
  unfold xf_De_copySensed_j3
  (try dsimp only)
  all_goals ((repeat' split) <;> (first | with_reducible rfl | (simp only [do_19 hc hi, do_20 hc hi, do_21 hc hi, do_22 hc hi, do_23 hc hi, do_25 hc hi, do_26 hc hi, do_27 hc hi, do_r27 hc hi, do_14 hc hi, do_8 hc hi, do_send hc hi]; done)))
theorem do_De_copySensed_j2 {r c i k : Nat} (hc : c ≠ 5 ∧ c ≠ 7 ∧ c ≠ 8) (hi : ¬ ((i = r ∧ 19 ≤ c) ∨ (i = r + 2 ∧ c = 14))) : ∀ (v : fw_V) (k1 : Nat) (a2 : Int32) (x3 : Int32), xf_De_copySensed_j2 v r k1 a2 x3 c i k = v c i k := by
  intro v k1 a2 x3
  unfold xf_De_copySensed_j2
  (try dsimp only)
  all_goals ((repeat' split) <;> (first | with_reducible rfl | (simp only [do_19 hc hi, do_20 hc hi, do_21 hc hi, do_22 hc hi, do_23 hc hi, do_25 hc hi, do_26 hc hi, do_27 hc hi, do_r27 hc hi, do_14 hc hi, do_8 hc hi, do_send hc hi, do_De_copySensed_j3 hc hi]; done)))
theorem do_De_copySensed_j1 {r c i k : Nat} (hc : c ≠ 5 ∧ c ≠ 7 ∧ c ≠ 8) (hi : ¬ ((i = r ∧ 19 ≤ c) ∨ (i = r + 2 ∧ c = 14))) : ∀ (v : fw_V) (k1 : Nat) (a2 : Int32) (x3 : Int32), xf_De_copySensed_j1 v r k1 a2 x3 c i k = v c i k := by
  intro v k1 a2 x3
  unfold xf_De_copySensed_j1
  (try dsimp only)
  all_goals ((repeat' split) <;> (first | with_reducible rfl | (simp only [do_19 hc hi, do_20 hc hi, do_21 hc hi, do_22 hc hi, do_23 hc hi, do_25 hc hi, do_26 hc hi, do_27 hc hi, do_r27 hc hi, do_14 hc hi, do_8 hc hi, do_send hc hi, do_De_copySensed_j2 hc hi]; done)))
theorem do_De_copySensed {r c i k : Nat} (hc : c ≠ 5 ∧ c ≠ 7 ∧ c ≠ 8) (hi : ¬ ((i = r ∧ 19 ≤ c) ∨ (i = r + 2 ∧ c = 14))) : ∀ (v0 : fw_V) (k1 : Nat) (a2 : Int32), xf_De_copySensed v0 r k1 a2 c i k = v0 c i k := by
  intro v0 k1 a2
  unfold xf_De_copySensed
  (try dsimp only)
  all_goals ((repeat' split) <;> (first | with_reducible rfl | (simp only [do_19 hc hi, do_20 hc hi, do_21 hc hi, do_22 hc hi, do_23 hc hi, do_25 hc hi, do_26 hc hi, do_27 hc hi, do_r27 hc hi, do_14 hc hi, do_8 hc hi, do_send hc hi, do_De_copySensed_j1 hc hi]; done)))
theorem do_De_sendInput_j9 {r c i k : Nat} (hc : c ≠ 5 ∧ c ≠ 7 ∧ c ≠ 8) (hi : ¬ ((i = r ∧ 19 ≤ c) ∨ (i = r + 2 ∧ c = 14))) : ∀ (v : fw_V) (k1 : Nat) (x2 : Int32), xf_De_sendInput_j9 v r k1 x2 c i k = v c i k := by
  intro v k1 x2
  unfold xf_De_sendInput_j9
  (try dsimp only)
  all_goals ((repeat' split) <;> (first | with_reducible rfl | (simp only [do_19 hc hi, do_20 hc hi, do_21 hc hi, do_22 hc hi, do_23 hc hi, do_25 hc hi, do_26 hc hi, do_27 hc hi, do_r27 hc hi, do_14 hc hi, do_8 hc hi, do_send hc hi]; done)))
theorem do_De_sendInput_j8 {r c i k : Nat} (hc : c ≠ 5 ∧ c ≠ 7 ∧ c ≠ 8) (hi : ¬ ((i = r ∧ 19 ≤ c) ∨ (i = r + 2 ∧ c = 14))) : ∀ (v : fw_V) (k1 : Nat) (x2 : Int32), xf_De_sendInput_j8 v r k1 x2 c i k = v c i k := by
  intro v k1 x2
  unfold xf_De_sendInput_j8
  (try dsimp only)
  all_goals ((repeat' split) <;> (first | with_reducible rfl | (simp only [do_19 hc hi, do_20 hc hi, do_21 hc hi, do_22 hc hi, do_23 hc hi, do_25 hc hi, do_26 hc hi, do_27 hc hi, do_r27 hc hi, do_14 hc hi, do_8 hc hi, do_send hc hi, do_De_sendInput_j9 hc hi]; done)))
theorem do_De_sendInput_j5 {r c i k : Nat} (hc : c ≠ 5 ∧ c ≠ 7 ∧ c ≠ 8) (hi : ¬ ((i = r ∧ 19 ≤ c) ∨ (i = r + 2 ∧ c = 14))) : ∀ (v : fw_V) (k1 : Nat), xf_De_sendInput_j5 v r k1 c i k = v c i k := by
  intro v k1
  unfold xf_De_sendInput_j5
  (try dsimp only)
  all_goals ((repeat' split) <;> (first | with_reducible rfl | (simp only [do_19 hc hi, do_20 hc hi, do_21 hc hi, do_22 hc hi, do_23 hc hi, do_25 hc hi, do_26 hc hi, do_27 hc hi, do_r27 hc hi, do_14 hc hi, do_8 hc hi, do_send hc hi, do_De_sendInput_j6 hc hi, do_De_copySensed hc hi, do_De_sendInput_j8 hc hi]; done)))
theorem do_De_sendInput_j4 {r c i k : Nat} (hc : c ≠ 5 ∧ c ≠ 7 ∧ c ≠ 8) (hi : ¬ ((i = r ∧ 19 ≤ c) ∨ (i = r + 2 ∧ c = 14))) : ∀ (v : fw_V) (k1 : Nat), xf_De_sendInput_j4 v r k1 c i k = v c i k := by
  intro v k1
  unfold xf_De_sendInput_j4
  (try dsimp only)
  all_goals ((repeat' split) <;> (first | with_reducible rfl | (simp only [do_19 hc hi, do_20 hc hi, do_21 hc hi, do_22 hc hi, do_23 hc hi, do_25 hc hi, do_26 hc hi, do_27 hc hi, do_r27 hc hi, do_14 hc hi, do_8 hc hi, do_send hc hi, do_De_sendInput_j5 hc hi]; done)))
theorem do_De_sendInput_j11 {r c i k : Nat} (hc : c ≠ 5 ∧ c ≠ 7 ∧ c ≠ 8) (hi : ¬ ((i = r ∧ 19 ≤ c) ∨ (i = r + 2 ∧ c = 14))) : ∀ (v : fw_V) (k1 : Nat) (x2 : Int32), xf_De_sendInput_j11 v r k1 x2 c i k = v c i k := by
  intro v k1 x2
  unfold xf_De_sendInput_j11
  (try dsimp only)
  all_goals ((repeat' split) <;> (first | with_reducible rfl | (simp only [do_19 hc hi, do_20 hc hi, do_21 hc hi, do_22 hc hi, do_23 hc hi, do_25 hc hi, do_26 hc hi, do_27 hc hi, do_r27 hc hi, do_14 hc hi, do_8 hc hi, do_send hc hi, do_De_sendInput_j8 hc hi, do_De_copySensed hc hi]; done)))
theorem do_De_sendInput_j10 {r c i k : Nat} (hc : c ≠ 5 ∧ c ≠ 7 ∧ c ≠ 8) (hi : ¬ ((i = r ∧ 19 ≤ c) ∨ (i = r + 2 ∧ c = 14))) : ∀ (v : fw_V) (k1 : Nat) (x2 : Int32), xf_De_sendInput_j10 v r k1 x2 c i k = v c i k := by
  intro v k1 x2
  unfold xf_De_sendInput_j10
  (try dsimp only)
  all_goals ((repeat' split) <;> (first | with_reducible rfl | (simp only [do_19 hc hi, do_20 hc hi, do_21 hc hi, do_22 hc hi, do_23 hc hi, do_25 hc hi, do_26 hc hi, do_27 hc hi, do_r27 hc hi, do_14 hc hi, do_8 hc hi, do_send hc hi, do_De_sendInput_j11 hc hi]; done)))
theorem do_De_sendInput_j3 {r c i k : Nat} (hc : c ≠ 5 ∧ c ≠ 7 ∧ c ≠ 8) (hi : ¬ ((i = r ∧ 19 ≤ c) ∨ (i = r + 2 ∧ c = 14))) : ∀ (v : fw_V) (k1 : Nat), xf_De_sendInput_j3 v r k1 c i k = v c i k := by
  intro v k1
  unfold xf_De_sendInput_j3
  (try dsimp only)
  all_goals ((repeat' split) <;> (first | with_reducible rfl | (simp only [do_19 hc hi, do_20 hc hi, do_21 hc hi, do_22 hc hi, do_23 hc hi, do_25 hc hi, do_26 hc hi, do_27 hc hi, do_r27 hc hi, do_14 hc hi, do_8 hc hi, do_send hc hi, do_De_sendInput_j4 hc hi, do_De_copySensed hc hi, do_De_sendInput_j10 hc hi]; done)))
theorem do_De_sendInput_j2 {r c i k : Nat} (hc : c ≠ 5 ∧ c ≠ 7 ∧ c ≠ 8) (hi : ¬ ((i = r ∧ 19 ≤ c) ∨ (i = r + 2 ∧ c = 14))) : ∀ (v : fw_V) (k1 : Nat), xf_De_sendInput_j2 v r k1 c i k = v c i k := by
  intro v k1
  unfold xf_De_sendInput_j2
  (try dsimp only)
  all_goals ((repeat' split) <;> (first | with_reducible rfl | (simp only [do_19 hc hi, do_20 hc hi, do_21 hc hi, do_22 hc hi, do_23 hc hi, do_25 hc hi, do_26 hc hi, do_27 hc hi, do_r27 hc hi, do_14 hc hi, do_8 hc hi, do_send hc hi, do_De_sendInput_j3 hc hi]; done)))
theorem do_De_sendInput_j13 {r c i k : Nat} (hc : c ≠ 5 ∧ c ≠ 7 ∧ c ≠ 8) (hi : ¬ ((i = r ∧ 19 ≤ c) ∨ (i = r + 2 ∧ c = 14))) : ∀ (v : fw_V) (k1 : Nat) (x2 : Int32), xf_De_sendInput_j13 v r k1 x2 c i k = v c i k := by
  intro v k1 x2
  unfold xf_De_sendInput_j13
  (try dsimp only)
  all_goals ((repeat' split) <;> (first | with_reducible rfl | (simp only [do_19 hc hi, do_20 hc hi, do_21 hc hi, do_22 hc hi, do_23 hc hi, do_25 hc hi, do_26 hc hi, do_27 hc hi, do_r27 hc hi, do_14 hc hi, do_8 hc hi, do_send hc hi, do_De_sendInput_j10 hc hi, do_De_copySensed hc hi]; done)))
theorem do_De_sendInput_j12 {r c i k : Nat} (hc : c ≠ 5 ∧ c ≠ 7 ∧ c ≠ 8) (hi : ¬ ((i = r ∧ 19 ≤ c) ∨ (i = r + 2 ∧ c = 14))) : ∀ (v : fw_V) (k1 : Nat) (x2 : Int32), xf_De_sendInput_j12 v r k1 x2 c i k = v c i k := by
  intro v k1 x2
  unfold xf_De_sendInput_j12
  (try dsimp only)
  all_goals ((repeat' split) <;> (first | with_reducible rfl | (simp only [do_19 hc hi, do_20 hc hi, do_21 hc hi, do_22 hc hi, do_23 hc hi, do_25 hc hi, do_26 hc hi, do_27 hc hi, do_r27 hc hi, do_14 hc hi, do_8 hc hi, do_send hc hi, do_De_sendInput_j13 hc hi]; done)))
theorem do_De_sendInput_j1 {r c i k : Nat} (hc : c ≠ 5 ∧ c ≠ 7 ∧ c ≠ 8) (hi : ¬ ((i = r ∧ 19 ≤ c) ∨ (i = r + 2 ∧ c = 14))) : ∀ (v : fw_V) (k1 : Nat), xf_De_sendInput_j1 v r k1 c i k = v c i k := by
  intro v k1
  unfold xf_De_sendInput_j1
  (try dsimp only)
  all_goals ((repeat' split) <;> (first | with_reducible rfl | (simp only [do_19 hc hi, do_20 hc hi, do_21 hc hi, do_22 hc hi, do_23 hc hi, do_25 hc hi, do_26 hc hi, do_27 hc hi, do_r27 hc hi, do_14 hc hi, do_8 hc hi, do_send hc hi, do_De_sendInput_j2 hc hi, do_De_copySensed hc hi, do_De_sendInput_j12 hc hi]; done)))
theorem do_De_sendInput {r c i k : Nat} (hc : c ≠ 5 ∧ c ≠ 7 ∧ c ≠ 8) (hi : ¬ ((i = r ∧ 19 ≤ c) ∨ (i = r + 2 ∧ c = 14))) : ∀ (v0 : fw_V), xf_De_sendInput v0 r c i k = v0 c i k := by
  intro v0
  unfold xf_De_sendInput
  (try dsimp only)
  all_goals ((repeat' split) <;> (first | with_reducible rfl | (simp only [do_19 hc hi, do_20 hc hi, do_21 hc hi, do_22 hc hi, do_23 hc hi, do_25 hc hi, do_26 hc hi, do_27 hc hi, do_r27 hc hi, do_14 hc hi, do_8 hc hi, do_send hc hi, do_Cy_nextToSend hc hi, do_send hc hi, do_De_sendInput_j1 hc hi]; done)))
theorem do_De_sendAlarm {r c i k : Nat} (hc : c ≠ 5 ∧ c ≠ 7 ∧ c ≠ 8) (hi : ¬ ((i = r ∧ 19 ≤ c) ∨ (i = r + 2 ∧ c = 14))) : ∀ (v0 : fw_V), xf_De_sendAlarm v0 r c i k = v0 c i k := by
  intro v0
  unfold xf_De_sendAlarm
  (try dsimp only)
  all_goals ((repeat' split) <;> (first | with_reducible rfl | (simp only [do_19 hc hi, do_20 hc hi, do_21 hc hi, do_22 hc hi, do_23 hc hi, do_25 hc hi, do_26 hc hi, do_27 hc hi, do_r27 hc hi, do_14 hc hi, do_8 hc hi, do_send hc hi, do_send hc hi]; done)))
theorem do_De_passTickInData {r c i k : Nat} (hc : c ≠ 5 ∧ c ≠ 7 ∧ c ≠ 8) (hi : ¬ ((i = r ∧ 19 ≤ c) ∨ (i = r + 2 ∧ c = 14))) : ∀ (v0 : fw_V), xf_De_passTickInData v0 r c i k = v0 c i k := by
  intro v0
  unfold xf_De_passTickInData
  (try dsimp only)
  all_goals ((repeat' split) <;> (first | with_reducible rfl | (simp only [do_19 hc hi, do_20 hc hi, do_21 hc hi, do_22 hc hi, do_23 hc hi, do_25 hc hi, do_26 hc hi, do_27 hc hi, do_r27 hc hi, do_14 hc hi, do_8 hc hi, do_send hc hi, do_AQ_isDueThisTick hc hi, do_De_sendInput hc hi, do_De_sendAlarm hc hi, do_De_abort hc hi]; done)))
theorem do_De_readyAgain {r c i k : Nat} (hc : c ≠ 5 ∧ c ≠ 7 ∧ c ≠ 8) (hi : ¬ ((i = r ∧ 19 ≤ c) ∨ (i = r + 2 ∧ c = 14))) : ∀ (v0 : fw_V), xf_De_readyAgain v0 r c i k = v0 c i k := by
  intro v0
  unfold xf_De_readyAgain
  (try dsimp only)
  all_goals ((repeat' split) <;> (first | with_reducible rfl | (simp only [do_19 hc hi, do_20 hc hi, do_21 hc hi, do_22 hc hi, do_23 hc hi, do_25 hc hi, do_26 hc hi, do_27 hc hi, do_r27 hc hi, do_14 hc hi, do_8 hc hi, do_send hc hi, do_De_abort hc hi, do_send hc hi]; done)))
theorem do_De_passTick {r c i k : Nat} (hc : c ≠ 5 ∧ c ≠ 7 ∧ c ≠ 8) (hi : ¬ ((i = r ∧ 19 ≤ c) ∨ (i = r + 2 ∧ c = 14))) : ∀ (v0 : fw_V), xf_De_passTick v0 r c i k = v0 c i k := by
  intro v0
  unfold xf_De_passTick
  (try dsimp only)
  all_goals ((repeat' split) <;> (first | with_reducible rfl | (simp only [do_19 hc hi, do_20 hc hi, do_21 hc hi, do_22 hc hi, do_23 hc hi, do_25 hc hi, do_26 hc hi, do_27 hc hi, do_r27 hc hi, do_14 hc hi, do_8 hc hi, do_send hc hi, do_De_passTickInData hc hi, do_De_readyAgain hc hi, do_De_becomeIdle hc hi]; done)))
theorem do_De_setFallback {r c i k : Nat} (hc : c ≠ 5 ∧ c ≠ 7 ∧ c ≠ 8) (hi : ¬ ((i = r ∧ 19 ≤ c) ∨ (i = r + 2 ∧ c = 14))) : ∀ (v0 : fw_V) (a1 : Int32) (a2 : Int32), xf_De_setFallback v0 r a1 a2 c i k = v0 c i k := by
  intro v0 a1 a2
  unfold xf_De_setFallback
  (try dsimp only)
  all_goals ((repeat' split) <;> (first | with_reducible rfl | (simp only [do_19 hc hi, do_20 hc hi, do_21 hc hi, do_22 hc hi, do_23 hc hi, do_25 hc hi, do_26 hc hi, do_27 hc hi, do_r27 hc hi, do_14 hc hi, do_8 hc hi, do_send hc hi]; done)))

theorem xl_Re_enter {c i k : Nat} (hc : c = 9 ∨ c = 10) : ∀ (v0 : fw_V) (r : Nat) (a1 : Int32), (xf_Re_enter v0 r a1) c i k = v0 c i k := by
  intro v0 r a1
  unfold xf_Re_enter
  (try dsimp only)
  all_goals ((repeat' split) <;> (first | with_reducible rfl | (simp only [fw_up_ne (c := 13) (i := r) (k := 10) (c' := c) (i' := i) (k' := k) (by omega), fw_up_ne (c := 13) (i := r) (k := 15) (c' := c) (i' := i) (k' := k) (by omega), fw_up_ne (c := 13) (i := r) (k := 16) (c' := c) (i' := i) (k' := k) (by omega), xsend_c (c' := c) (by omega) (by omega) (by omega)]; done)))
theorem xl_Re_shut {c i k : Nat} (hc : c = 9 ∨ c = 10) : ∀ (v0 : fw_V) (r : Nat), (xf_Re_shut v0 r) c i k = v0 c i k := by
  intro v0 r
  unfold xf_Re_shut
  (try dsimp only)
  all_goals ((repeat' split) <;> (first | with_reducible rfl | (simp only [fw_up_ne (c := 13) (i := r) (k := 11) (c' := c) (i' := i) (k' := k) (by omega), fw_up_ne (c := 13) (i := r) (k := 12) (c' := c) (i' := i) (k' := k) (by omega), fw_up_ne (c := 13) (i := r) (k := 14) (c' := c) (i' := i) (k' := k) (by omega), fw_row_c (c := 18) (c' := c) (by omega), xsend_c (c' := c) (by omega) (by omega) (by omega), xl_Re_enter hc]; done)))
theorem xl_Re_abort {c i k : Nat} (hc : c = 9 ∨ c = 10) : ∀ (v0 : fw_V) (r : Nat), (xf_Re_abort v0 r) c i k = v0 c i k := by
  intro v0 r
  unfold xf_Re_abort
  (try dsimp only)
  all_goals ((repeat' split) <;> (first | with_reducible rfl | (simp only [xsend_c (c' := c) (by omega) (by omega) (by omega), xl_Re_shut hc]; done)))
theorem xl_Re_sendConnect_j4 {c i k : Nat} (hc : c = 9 ∨ c = 10) : ∀ (v : fw_V) (r : Nat) (k1 : Nat), (xf_Re_sendConnect_j4 v r k1) c i k = v c i k := by
  intro v r k1
  unfold xf_Re_sendConnect_j4
  (try dsimp only)
  all_goals ((repeat' split) <;> (first | with_reducible rfl | (simp only [xsend_c (c' := c) (by omega) (by omega) (by omega)]; done)))
theorem xl_Re_sendConnect_j3 {c i k : Nat} (hc : c = 9 ∨ c = 10) : ∀ (v : fw_V) (r : Nat) (k1 : Nat), (xf_Re_sendConnect_j3 v r k1) c i k = v c i k := by
  intro v r k1
  unfold xf_Re_sendConnect_j3
  (try dsimp only)
  all_goals ((repeat' split) <;> (first | with_reducible rfl | (simp only [fw_up_ne (c := 8) (i := k1) (k := 2) (c' := c) (i' := i) (k' := k) (by omega), xsend_c (c' := c) (by omega) (by omega) (by omega), xl_Re_sendConnect_j4 hc]; done)))
theorem xl_Re_sendConnect_j2 {c i k : Nat} (hc : c = 9 ∨ c = 10) : ∀ (v : fw_V) (r : Nat) (k1 : Nat), (xf_Re_sendConnect_j2 v r k1) c i k = v c i k := by
  intro v r k1
  unfold xf_Re_sendConnect_j2
  (try dsimp only)
  all_goals ((repeat' split) <;> (first | with_reducible rfl | (simp only [fw_up_ne (c := 8) (i := k1) (k := 1) (c' := c) (i' := i) (k' := k) (by omega), xsend_c (c' := c) (by omega) (by omega) (by omega), xl_Re_sendConnect_j3 hc]; done)))
theorem xl_Re_sendConnect_j1 {c i k : Nat} (hc : c = 9 ∨ c = 10) : ∀ (v : fw_V) (r : Nat) (k1 : Nat), (xf_Re_sendConnect_j1 v r k1) c i k = v c i k := by
  intro v r k1
  unfold xf_Re_sendConnect_j1
  (try dsimp only)
  all_goals ((repeat' split) <;> (first | with_reducible rfl | (simp only [fw_up_ne (c := 8) (i := k1) (k := 0) (c' := c) (i' := i) (k' := k) (by omega), xsend_c (c' := c) (by omega) (by omega) (by omega), xl_Re_sendConnect_j2 hc]; done)))
theorem xl_Re_sendConnect {c i k : Nat} (hc : c = 9 ∨ c = 10) : ∀ (v0 : fw_V) (r : Nat), (xf_Re_sendConnect v0 r) c i k = v0 c i k := by
  intro v0 r
  unfold xf_Re_sendConnect
  (try dsimp only)
  all_goals ((repeat' split) <;> (first | with_reducible rfl | (simp only [xsend_c (c' := c) (by omega) (by omega) (by omega), xl_Re_sendConnect_j1 hc]; done)))
theorem xl_Re_sendRequest {c i k : Nat} (hc : c = 9 ∨ c = 10) : ∀ (v0 : fw_V) (r : Nat), (xf_Re_sendRequest v0 r) c i k = v0 c i k := by
  intro v0 r
  unfold xf_Re_sendRequest
  (try dsimp only)
  all_goals ((repeat' split) <;> (first | with_reducible rfl | (simp only [fw_up_c (c := 8) (c' := c) (by omega), xsend_c (c' := c) (by omega) (by omega) (by omega), xl_Re_sendConnect hc]; done)))
theorem xl_Re_goOnWriting_j1 {c i k : Nat} (hc : c = 9 ∨ c = 10) : ∀ (n : Nat) (v : fw_V) (r : Nat) (a1 : Int32) (x2 : Int32), (xf_Re_goOnWriting_j1 n v r a1 x2) c i k = v c i k := by
  intro n
  induction n with
  | zero => intros; rfl
  | succ n ih =>
    intro v r a1 x2
    unfold xf_Re_goOnWriting_j1
    (try dsimp only)
    all_goals ((repeat' split) <;> (first | with_reducible rfl | (simp only [ih, fw_up_ne (c := 13) (i := r) (k := 17) (c' := c) (i' := i) (k' := k) (by omega), xsend_c (c' := c) (by omega) (by omega) (by omega), xl_Re_enter hc]; done)))
theorem xl_Re_goOnWriting {c i k : Nat} (hc : c = 9 ∨ c = 10) : ∀ (v0 : fw_V) (r : Nat) (a1 : Int32), (xf_Re_goOnWriting v0 r a1) c i k = v0 c i k := by
  intro v0 r a1
  unfold xf_Re_goOnWriting
  (try dsimp only)
  all_goals ((repeat' split) <;> (first | with_reducible rfl | (simp only [xsend_c (c' := c) (by omega) (by omega) (by omega), xl_Re_goOnWriting_j1 hc]; done)))
theorem xl_Cy_restart {c i k : Nat} (hc : c = 9 ∨ c = 10) : ∀ (v0 : fw_V) (r : Nat), (xf_Cy_restart v0 r) c i k = v0 c i k := by
  intro v0 r
  unfold xf_Cy_restart
  (try dsimp only)
  all_goals ((repeat' split) <;> (first | with_reducible rfl | (simp only [fw_up_ne (c := 14) (i := r) (k := 0) (c' := c) (i' := i) (k' := k) (by omega), fw_up_ne (c := 14) (i := r) (k := 1) (c' := c) (i' := i) (k' := k) (by omega), xsend_c (c' := c) (by omega) (by omega) (by omega)]; done)))
theorem xl_Re_deviceReady {c i k : Nat} (hc : c = 9 ∨ c = 10) : ∀ (v0 : fw_V) (r : Nat), (xf_Re_deviceReady v0 r) c i k = v0 c i k := by
  intro v0 r
  unfold xf_Re_deviceReady
  (try dsimp only)
  all_goals ((repeat' split) <;> (first | with_reducible rfl | (simp only [xsend_c (c' := c) (by omega) (by omega) (by omega), xl_Cy_restart hc, xl_Re_enter hc]; done)))
theorem xl_Cy_takes {c i k : Nat} (hc : c = 9 ∨ c = 10) : ∀ (v0 : fw_V) (r : Nat) (a1 : Int32), (xf_Cy_takes v0 r a1).2 c i k = v0 c i k := by
  intro v0 r a1
  unfold xf_Cy_takes
  (try dsimp only)
  all_goals ((repeat' split) <;> (first | with_reducible rfl | (simp only [fw_up_ne (c := 14) (i := r) (k := 1) (c' := c) (i' := i) (k' := k) (by omega), xsend_c (c' := c) (by omega) (by omega) (by omega)]; done)))
theorem xl_Re_takeInput {c i k : Nat} (hc : c = 9 ∨ c = 10) : ∀ (v0 : fw_V) (r : Nat) (k1 : Nat), (xf_Re_takeInput v0 r k1) c i k = v0 c i k := by
  intro v0 r k1
  unfold xf_Re_takeInput
  (try dsimp only)
  all_goals ((repeat' split) <;> (first | with_reducible rfl | (simp only [fw_up_ne (c := 13) (i := r) (k := 14) (c' := c) (i' := i) (k' := k) (by omega), fw_up_ne (c := 13) (i := r) (k := 15) (c' := c) (i' := i) (k' := k) (by omega), fw_row_c (c := 18) (c' := c) (by omega), xsend_c (c' := c) (by omega) (by omega) (by omega), xl_Cy_takes hc]; done)))
theorem xl_Cy_nextToSend {c i k : Nat} (hc : c = 9 ∨ c = 10) : ∀ (v0 : fw_V) (r : Nat), (xf_Cy_nextToSend v0 r).2 c i k = v0 c i k := by
  intro v0 r
  unfold xf_Cy_nextToSend
  (try dsimp only)
  all_goals ((repeat' split) <;> (first | with_reducible rfl | (simp only [fw_up_ne (c := 14) (i := r) (k := 0) (c' := c) (i' := i) (k' := k) (by omega), xsend_c (c' := c) (by omega) (by omega) (by omega)]; done)))
theorem xl_Re_sendOutput_j10 {c i k : Nat} (hc : c = 9 ∨ c = 10) : ∀ (v : fw_V) (r : Nat) (k1 : Nat), (xf_Re_sendOutput_j10 v r k1) c i k = v c i k := by
  intro v r k1
  unfold xf_Re_sendOutput_j10
  (try dsimp only)
  all_goals ((repeat' split) <;> (first | with_reducible rfl | (simp only [xsend_c (c' := c) (by omega) (by omega) (by omega)]; done)))
theorem xl_Re_sendOutput_j12 {c i k : Nat} (hc : c = 9 ∨ c = 10) : ∀ (v : fw_V) (r : Nat) (k1 : Nat) (x3 : Int32), (xf_Re_sendOutput_j12 v r k1 x3) c i k = v c i k := by
  intro v r k1 x3
  unfold xf_Re_sendOutput_j12
  (try dsimp only)
  all_goals ((repeat' split) <;> (first | with_reducible rfl | (simp only [xsend_c (c' := c) (by omega) (by omega) (by omega), xl_Re_sendOutput_j10 hc]; done)))
theorem xl_Re_sendOutput_j11 {c i k : Nat} (hc : c = 9 ∨ c = 10) : ∀ (v : fw_V) (r : Nat) (k1 : Nat) (x3 : Int32), (xf_Re_sendOutput_j11 v r k1 x3) c i k = v c i k := by
  intro v r k1 x3
  unfold xf_Re_sendOutput_j11
  (try dsimp only)
  all_goals ((repeat' split) <;> (first | with_reducible rfl | (simp only [fw_up_ne (c := 8) (i := k1) (k := 5) (c' := c) (i' := i) (k' := k) (by omega), xsend_c (c' := c) (by omega) (by omega) (by omega), xl_Re_sendOutput_j10 hc, xl_Re_sendOutput_j12 hc]; done)))
theorem xl_Re_sendOutput_j9 {c i k : Nat} (hc : c = 9 ∨ c = 10) : ∀ (v : fw_V) (r : Nat) (k1 : Nat) (x3 : Int32), (xf_Re_sendOutput_j9 v r k1 x3) c i k = v c i k := by
  intro v r k1 x3
  unfold xf_Re_sendOutput_j9
  (try dsimp only)
  all_goals ((repeat' split) <;> (first | with_reducible rfl | (simp only [fw_up_ne (c := 8) (i := k1) (k := 4) (c' := c) (i' := i) (k' := k) (by omega), xsend_c (c' := c) (by omega) (by omega) (by omega), xl_Re_sendOutput_j10 hc, xl_Re_sendOutput_j11 hc]; done)))
theorem xl_Re_sendOutput_j8 {c i k : Nat} (hc : c = 9 ∨ c = 10) : ∀ (v : fw_V) (r : Nat) (k1 : Nat) (x90 : Int32), (xf_Re_sendOutput_j8 v r k1 x90) c i k = v c i k := by
  intro v r k1 x90
  unfold xf_Re_sendOutput_j8
  (try dsimp only)
  all_goals ((repeat' split) <;> (first | with_reducible rfl | (simp only [xsend_c (c' := c) (by omega) (by omega) (by omega), xl_Re_sendOutput_j9 hc]; done)))
theorem xl_Re_sendOutput_j14 {c i k : Nat} (hc : c = 9 ∨ c = 10) : ∀ (v : fw_V) (r : Nat) (k1 : Nat), (xf_Re_sendOutput_j14 v r k1) c i k = v c i k := by
  intro v r k1
  unfold xf_Re_sendOutput_j14
  (try dsimp only)
  all_goals ((repeat' split) <;> (first | with_reducible rfl | (simp only [xsend_c (c' := c) (by omega) (by omega) (by omega), xl_Re_sendOutput_j10 hc]; done)))
theorem xl_Re_sendOutput_j13 {c i k : Nat} (hc : c = 9 ∨ c = 10) : ∀ (v : fw_V) (r : Nat) (k1 : Nat), (xf_Re_sendOutput_j13 v r k1) c i k = v c i k := by
  intro v r k1
  unfold xf_Re_sendOutput_j13
  (try dsimp only)
  all_goals ((repeat' split) <;> (first | with_reducible rfl | (simp only [xsend_c (c' := c) (by omega) (by omega) (by omega), xl_Re_sendOutput_j14 hc]; done)))
theorem xl_Re_sendOutput_j7 {c i k : Nat} (hc : c = 9 ∨ c = 10) : ∀ (v : fw_V) (r : Nat) (k1 : Nat), (xf_Re_sendOutput_j7 v r k1) c i k = v c i k := by
  intro v r k1
  unfold xf_Re_sendOutput_j7
  (try dsimp only)
  all_goals ((repeat' split) <;> (first | with_reducible rfl | (simp only [xsend_c (c' := c) (by omega) (by omega) (by omega), xl_Re_sendOutput_j8 hc, xl_Re_sendOutput_j13 hc]; done)))
theorem xl_Re_sendOutput_j16 {c i k : Nat} (hc : c = 9 ∨ c = 10) : ∀ (v : fw_V) (r : Nat) (k1 : Nat) (x3 : Int32), (xf_Re_sendOutput_j16 v r k1 x3) c i k = v c i k := by
  intro v r k1 x3
  unfold xf_Re_sendOutput_j16
  (try dsimp only)
  all_goals ((repeat' split) <;> (first | with_reducible rfl | (simp only [xsend_c (c' := c) (by omega) (by omega) (by omega), xl_Re_sendOutput_j7 hc]; done)))
theorem xl_Re_sendOutput_j15 {c i k : Nat} (hc : c = 9 ∨ c = 10) : ∀ (v : fw_V) (r : Nat) (k1 : Nat) (x3 : Int32), (xf_Re_sendOutput_j15 v r k1 x3) c i k = v c i k := by
  intro v r k1 x3
  unfold xf_Re_sendOutput_j15
  (try dsimp only)
  all_goals ((repeat' split) <;> (first | with_reducible rfl | (simp only [fw_up_ne (c := 8) (i := k1) (k := 3) (c' := c) (i' := i) (k' := k) (by omega), xsend_c (c' := c) (by omega) (by omega) (by omega), xl_Re_sendOutput_j7 hc, xl_Re_sendOutput_j16 hc]; done)))
theorem xl_Re_sendOutput_j6 {c i k : Nat} (hc : c = 9 ∨ c = 10) : ∀ (v : fw_V) (r : Nat) (k1 : Nat) (x3 : Int32), (xf_Re_sendOutput_j6 v r k1 x3) c i k = v c i k := by
  intro v r k1 x3
  unfold xf_Re_sendOutput_j6
  (try dsimp only)
  all_goals ((repeat' split) <;> (first | with_reducible rfl | (simp only [fw_up_ne (c := 8) (i := k1) (k := 2) (c' := c) (i' := i) (k' := k) (by omega), xsend_c (c' := c) (by omega) (by omega) (by omega), xl_Re_sendOutput_j7 hc, xl_Re_sendOutput_j15 hc]; done)))
theorem xl_Re_sendOutput_j5 {c i k : Nat} (hc : c = 9 ∨ c = 10) : ∀ (v : fw_V) (r : Nat) (k1 : Nat) (x90 : Int32), (xf_Re_sendOutput_j5 v r k1 x90) c i k = v c i k := by
  intro v r k1 x90
  unfold xf_Re_sendOutput_j5
  (try dsimp only)
  all_goals ((repeat' split) <;> (first | with_reducible rfl | (simp only [xsend_c (c' := c) (by omega) (by omega) (by omega), xl_Re_sendOutput_j6 hc]; done)))
theorem xl_Re_sendOutput_j18 {c i k : Nat} (hc : c = 9 ∨ c = 10) : ∀ (v : fw_V) (r : Nat) (k1 : Nat), (xf_Re_sendOutput_j18 v r k1) c i k = v c i k := by
  intro v r k1
  unfold xf_Re_sendOutput_j18
  (try dsimp only)
  all_goals ((repeat' split) <;> (first | with_reducible rfl | (simp only [xsend_c (c' := c) (by omega) (by omega) (by omega), xl_Re_sendOutput_j7 hc]; done)))
theorem xl_Re_sendOutput_j17 {c i k : Nat} (hc : c = 9 ∨ c = 10) : ∀ (v : fw_V) (r : Nat) (k1 : Nat), (xf_Re_sendOutput_j17 v r k1) c i k = v c i k := by
  intro v r k1
  unfold xf_Re_sendOutput_j17
  (try dsimp only)
  all_goals ((repeat' split) <;> (first | with_reducible rfl | (simp only [xsend_c (c' := c) (by omega) (by omega) (by omega), xl_Re_sendOutput_j18 hc]; done)))
theorem xl_Re_sendOutput_j4 {c i k : Nat} (hc : c = 9 ∨ c = 10) : ∀ (v : fw_V) (r : Nat) (k1 : Nat), (xf_Re_sendOutput_j4 v r k1) c i k = v c i k := by
  intro v r k1
  unfold xf_Re_sendOutput_j4
  (try dsimp only)
  all_goals ((repeat' split) <;> (first | with_reducible rfl | (simp only [xsend_c (c' := c) (by omega) (by omega) (by omega), xl_Re_sendOutput_j5 hc, xl_Re_sendOutput_j17 hc]; done)))
theorem xl_Re_sendOutput_j20 {c i k : Nat} (hc : c = 9 ∨ c = 10) : ∀ (v : fw_V) (r : Nat) (k1 : Nat) (x3 : Int32), (xf_Re_sendOutput_j20 v r k1 x3) c i k = v c i k := by
  intro v r k1 x3
  unfold xf_Re_sendOutput_j20
  (try dsimp only)
  all_goals ((repeat' split) <;> (first | with_reducible rfl | (simp only [xsend_c (c' := c) (by omega) (by omega) (by omega), xl_Re_sendOutput_j4 hc]; done)))
theorem xl_Re_sendOutput_j19 {c i k : Nat} (hc : c = 9 ∨ c = 10) : ∀ (v : fw_V) (r : Nat) (k1 : Nat) (x3 : Int32), (xf_Re_sendOutput_j19 v r k1 x3) c i k = v c i k := by
  intro v r k1 x3
  unfold xf_Re_sendOutput_j19
  (try dsimp only)
  all_goals ((repeat' split) <;> (first | with_reducible rfl | (simp only [fw_up_ne (c := 8) (i := k1) (k := 1) (c' := c) (i' := i) (k' := k) (by omega), xsend_c (c' := c) (by omega) (by omega) (by omega), xl_Re_sendOutput_j4 hc, xl_Re_sendOutput_j20 hc]; done)))
theorem xl_Re_sendOutput_j3 {c i k : Nat} (hc : c = 9 ∨ c = 10) : ∀ (v : fw_V) (r : Nat) (k1 : Nat) (x3 : Int32), (xf_Re_sendOutput_j3 v r k1 x3) c i k = v c i k := by
  intro v r k1 x3
  unfold xf_Re_sendOutput_j3
  (try dsimp only)
  all_goals ((repeat' split) <;> (first | with_reducible rfl | (simp only [fw_up_ne (c := 8) (i := k1) (k := 0) (c' := c) (i' := i) (k' := k) (by omega), xsend_c (c' := c) (by omega) (by omega) (by omega), xl_Re_sendOutput_j4 hc, xl_Re_sendOutput_j19 hc]; done)))
theorem xl_Re_sendOutput_j2 {c i k : Nat} (hc : c = 9 ∨ c = 10) : ∀ (v : fw_V) (r : Nat) (k1 : Nat) (x90 : Int32), (xf_Re_sendOutput_j2 v r k1 x90) c i k = v c i k := by
  intro v r k1 x90
  unfold xf_Re_sendOutput_j2
  (try dsimp only)
  all_goals ((repeat' split) <;> (first | with_reducible rfl | (simp only [xsend_c (c' := c) (by omega) (by omega) (by omega), xl_Re_sendOutput_j3 hc]; done)))
theorem xl_Re_sendOutput_j22 {c i k : Nat} (hc : c = 9 ∨ c = 10) : ∀ (v : fw_V) (r : Nat) (k1 : Nat), (xf_Re_sendOutput_j22 v r k1) c i k = v c i k := by
  intro v r k1
  unfold xf_Re_sendOutput_j22
  (try dsimp only)
  all_goals ((repeat' split) <;> (first | with_reducible rfl | (simp only [xsend_c (c' := c) (by omega) (by omega) (by omega), xl_Re_sendOutput_j4 hc]; done)))
theorem xl_Re_sendOutput_j21 {c i k : Nat} (hc : c = 9 ∨ c = 10) : ∀ (v : fw_V) (r : Nat) (k1 : Nat), (xf_Re_sendOutput_j21 v r k1) c i k = v c i k := by
  intro v r k1
  unfold xf_Re_sendOutput_j21
  (try dsimp only)
  all_goals ((repeat' split) <;> (first | with_reducible rfl | (simp only [xsend_c (c' := c) (by omega) (by omega) (by omega), xl_Re_sendOutput_j22 hc]; done)))
theorem xl_Re_sendOutput_j1 {c i k : Nat} (hc : c = 9 ∨ c = 10) : ∀ (v : fw_V) (r : Nat) (k1 : Nat), (xf_Re_sendOutput_j1 v r k1) c i k = v c i k := by
  intro v r k1
  unfold xf_Re_sendOutput_j1
  (try dsimp only)
  all_goals ((repeat' split) <;> (first | with_reducible rfl | (simp only [xsend_c (c' := c) (by omega) (by omega) (by omega), xl_Re_sendOutput_j2 hc, xl_Re_sendOutput_j21 hc]; done)))
theorem xl_Re_sendOutput {c i k : Nat} (hc : c = 9 ∨ c = 10) : ∀ (v0 : fw_V) (r : Nat), (xf_Re_sendOutput v0 r) c i k = v0 c i k := by
  intro v0 r
  unfold xf_Re_sendOutput
  (try dsimp only)
  all_goals ((repeat' split) <;> (first | with_reducible rfl | (simp only [xsend_c (c' := c) (by omega) (by omega) (by omega), xl_Cy_nextToSend hc, xl_Re_sendOutput_j1 hc]; done)))
theorem xl_Re_passTickInData {c i k : Nat} (hc : c = 9 ∨ c = 10) : ∀ (v0 : fw_V) (r : Nat), (xf_Re_passTickInData v0 r) c i k = v0 c i k := by
  intro v0 r
  unfold xf_Re_passTickInData
  (try dsimp only)
  all_goals ((repeat' split) <;> (first | with_reducible rfl | (simp only [fw_up_ne (c := 13) (i := r) (k := 19) (c' := c) (i' := i) (k' := k) (by omega), xsend_c (c' := c) (by omega) (by omega) (by omega), xl_Re_sendOutput hc, xl_Re_abort hc]; done)))
theorem xl_Re_requestAgain {c i k : Nat} (hc : c = 9 ∨ c = 10) : ∀ (v0 : fw_V) (r : Nat), (xf_Re_requestAgain v0 r) c i k = v0 c i k := by
  intro v0 r
  unfold xf_Re_requestAgain
  (try dsimp only)
  all_goals ((repeat' split) <;> (first | with_reducible rfl | (simp only [fw_up_ne (c := 13) (i := r) (k := 16) (c' := c) (i' := i) (k' := k) (by omega), fw_up_ne (c := 13) (i := r) (k := 15) (c' := c) (i' := i) (k' := k) (by omega), xsend_c (c' := c) (by omega) (by omega) (by omega), xl_Re_shut hc, xl_Re_abort hc, xl_Re_sendRequest hc]; done)))
theorem xl_Re_passTick {c i k : Nat} (hc : c = 9 ∨ c = 10) : ∀ (v0 : fw_V) (r : Nat), (xf_Re_passTick v0 r) c i k = v0 c i k := by
  intro v0 r
  unfold xf_Re_passTick
  (try dsimp only)
  all_goals ((repeat' split) <;> (first | with_reducible rfl | (simp only [fw_up_ne (c := 13) (i := r) (k := 15) (c' := c) (i' := i) (k' := k) (by omega), xsend_c (c' := c) (by omega) (by omega) (by omega), xl_Re_passTickInData hc, xl_Re_abort hc, xl_Re_requestAgain hc]; done)))
theorem xl_Re_begin {c i k : Nat} (hc : c = 9 ∨ c = 10) : ∀ (v0 : fw_V) (r : Nat) (a1 : Int32), (xf_Re_begin v0 r a1) c i k = v0 c i k := by
  intro v0 r a1
  unfold xf_Re_begin
  (try dsimp only)
  all_goals ((repeat' split) <;> (first | with_reducible rfl | (simp only [fw_up_ne (c := 13) (i := r) (k := 11) (c' := c) (i' := i) (k' := k) (by omega), fw_up_ne (c := 13) (i := r) (k := 13) (c' := c) (i' := i) (k' := k) (by omega), fw_up_ne (c := 13) (i := r) (k := 18) (c' := c) (i' := i) (k' := k) (by omega), xsend_c (c' := c) (by omega) (by omega) (by omega), xl_Re_enter hc, xl_Re_sendRequest hc]; done)))
theorem xl_Re_end {c i k : Nat} (hc : c = 9 ∨ c = 10) : ∀ (v0 : fw_V) (r : Nat), (xf_Re_end v0 r).2 c i k = v0 c i k := by
  intro v0 r
  unfold xf_Re_end
  (try dsimp only)
  all_goals ((repeat' split) <;> (first | with_reducible rfl | (simp only [xsend_c (c' := c) (by omega) (by omega) (by omega), xl_Re_shut hc, xl_Re_abort hc]; done)))
theorem xq_Re_enter {c i k : Nat} (hc : c = 13 ∧ k = 19) : ∀ (v0 : fw_V) (r : Nat) (a1 : Int32), (xf_Re_enter v0 r a1) c i k = v0 c i k := by
  intro v0 r a1
  unfold xf_Re_enter
  (try dsimp only)
  all_goals ((repeat' split) <;> (first | with_reducible rfl | (simp only [fw_up_ne (c := 13) (i := r) (k := 10) (c' := c) (i' := i) (k' := k) (by omega), fw_up_ne (c := 13) (i := r) (k := 15) (c' := c) (i' := i) (k' := k) (by omega), fw_up_ne (c := 13) (i := r) (k := 16) (c' := c) (i' := i) (k' := k) (by omega), xsend_c (c' := c) (by omega) (by omega) (by omega)]; done)))
theorem xq_Re_shut {c i k : Nat} (hc : c = 13 ∧ k = 19) : ∀ (v0 : fw_V) (r : Nat), (xf_Re_shut v0 r) c i k = v0 c i k := by
  intro v0 r
  unfold xf_Re_shut
  (try dsimp only)
  all_goals ((repeat' split) <;> (first | with_reducible rfl | (simp only [fw_up_ne (c := 13) (i := r) (k := 11) (c' := c) (i' := i) (k' := k) (by omega), fw_up_ne (c := 13) (i := r) (k := 12) (c' := c) (i' := i) (k' := k) (by omega), fw_up_ne (c := 13) (i := r) (k := 14) (c' := c) (i' := i) (k' := k) (by omega), fw_row_c (c := 18) (c' := c) (by omega), xsend_c (c' := c) (by omega) (by omega) (by omega), xq_Re_enter hc]; done)))
theorem xq_Re_abort {c i k : Nat} (hc : c = 13 ∧ k = 19) : ∀ (v0 : fw_V) (r : Nat), (xf_Re_abort v0 r) c i k = v0 c i k := by
  intro v0 r
  unfold xf_Re_abort
  (try dsimp only)
  all_goals ((repeat' split) <;> (first | with_reducible rfl | (simp only [xsend_c (c' := c) (by omega) (by omega) (by omega), xq_Re_shut hc]; done)))
theorem xq_Re_sendConnect_j4 {c i k : Nat} (hc : c = 13 ∧ k = 19) : ∀ (v : fw_V) (r : Nat) (k1 : Nat), (xf_Re_sendConnect_j4 v r k1) c i k = v c i k := by
  intro v r k1
  unfold xf_Re_sendConnect_j4
  (try dsimp only)
  all_goals ((repeat' split) <;> (first | with_reducible rfl | (simp only [xsend_c (c' := c) (by omega) (by omega) (by omega)]; done)))
theorem xq_Re_sendConnect_j3 {c i k : Nat} (hc : c = 13 ∧ k = 19) : ∀ (v : fw_V) (r : Nat) (k1 : Nat), (xf_Re_sendConnect_j3 v r k1) c i k = v c i k := by
  intro v r k1
  unfold xf_Re_sendConnect_j3
  (try dsimp only)
  all_goals ((repeat' split) <;> (first | with_reducible rfl | (simp only [fw_up_ne (c := 8) (i := k1) (k := 2) (c' := c) (i' := i) (k' := k) (by omega), xsend_c (c' := c) (by omega) (by omega) (by omega), xq_Re_sendConnect_j4 hc]; done)))
theorem xq_Re_sendConnect_j2 {c i k : Nat} (hc : c = 13 ∧ k = 19) : ∀ (v : fw_V) (r : Nat) (k1 : Nat), (xf_Re_sendConnect_j2 v r k1) c i k = v c i k := by
  intro v r k1
  unfold xf_Re_sendConnect_j2
  (try dsimp only)
  all_goals ((repeat' split) <;> (first | with_reducible rfl | (simp only [fw_up_ne (c := 8) (i := k1) (k := 1) (c' := c) (i' := i) (k' := k) (by omega), xsend_c (c' := c) (by omega) (by omega) (by omega), xq_Re_sendConnect_j3 hc]; done)))
theorem xq_Re_sendConnect_j1 {c i k : Nat} (hc : c = 13 ∧ k = 19) : ∀ (v : fw_V) (r : Nat) (k1 : Nat), (xf_Re_sendConnect_j1 v r k1) c i k = v c i k := by
  intro v r k1
  unfold xf_Re_sendConnect_j1
  (try dsimp only)
  all_goals ((repeat' split) <;> (first | with_reducible rfl | (simp only [fw_up_ne (c := 8) (i := k1) (k := 0) (c' := c) (i' := i) (k' := k) (by omega), xsend_c (c' := c) (by omega) (by omega) (by omega), xq_Re_sendConnect_j2 hc]; done)))
theorem xq_Re_sendConnect {c i k : Nat} (hc : c = 13 ∧ k = 19) : ∀ (v0 : fw_V) (r : Nat), (xf_Re_sendConnect v0 r) c i k = v0 c i k := by
  intro v0 r
  unfold xf_Re_sendConnect
  (try dsimp only)
  all_goals ((repeat' split) <;> (first | with_reducible rfl | (simp only [xsend_c (c' := c) (by omega) (by omega) (by omega), xq_Re_sendConnect_j1 hc]; done)))
theorem xq_Re_sendRequest {c i k : Nat} (hc : c = 13 ∧ k = 19) : ∀ (v0 : fw_V) (r : Nat), (xf_Re_sendRequest v0 r) c i k = v0 c i k := by
  intro v0 r
  unfold xf_Re_sendRequest
  (try dsimp only)
  all_goals ((repeat' split) <;> (first | with_reducible rfl | (simp only [fw_up_c (c := 8) (c' := c) (by omega), xsend_c (c' := c) (by omega) (by omega) (by omega), xq_Re_sendConnect hc]; done)))
theorem xq_Re_deviceFound {c i k : Nat} (hc : c = 13 ∧ k = 19) : ∀ (v0 : fw_V) (r : Nat) (k1 : Nat), (xf_Re_deviceFound v0 r k1) c i k = v0 c i k := by
  intro v0 r k1
  unfold xf_Re_deviceFound
  (try dsimp only)
  all_goals ((repeat' split) <;> (first | with_reducible rfl | (simp only [fw_up_ne (c := 13) (i := r) (k := 12) (c' := c) (i' := i) (k' := k) (by omega), xsend_c (c' := c) (by omega) (by omega) (by omega), xq_Re_enter hc, xq_Re_sendRequest hc]; done)))
theorem xq_Re_goOnWriting_j1 {c i k : Nat} (hc : c = 13 ∧ k = 19) : ∀ (n : Nat) (v : fw_V) (r : Nat) (a1 : Int32) (x2 : Int32), (xf_Re_goOnWriting_j1 n v r a1 x2) c i k = v c i k := by
  intro n
  induction n with
  | zero => intros; rfl
  | succ n ih =>
    intro v r a1 x2
    unfold xf_Re_goOnWriting_j1
    (try dsimp only)
    all_goals ((repeat' split) <;> (first | with_reducible rfl | (simp only [ih, fw_up_ne (c := 13) (i := r) (k := 17) (c' := c) (i' := i) (k' := k) (by omega), xsend_c (c' := c) (by omega) (by omega) (by omega), xq_Re_enter hc]; done)))
theorem xq_Re_goOnWriting {c i k : Nat} (hc : c = 13 ∧ k = 19) : ∀ (v0 : fw_V) (r : Nat) (a1 : Int32), (xf_Re_goOnWriting v0 r a1) c i k = v0 c i k := by
  intro v0 r a1
  unfold xf_Re_goOnWriting
  (try dsimp only)
  all_goals ((repeat' split) <;> (first | with_reducible rfl | (simp only [xsend_c (c' := c) (by omega) (by omega) (by omega), xq_Re_goOnWriting_j1 hc]; done)))
theorem xq_Re_accepted {c i k : Nat} (hc : c = 13 ∧ k = 19) : ∀ (v0 : fw_V) (r : Nat) (a1 : Int32), (xf_Re_accepted v0 r a1) c i k = v0 c i k := by
  intro v0 r a1
  unfold xf_Re_accepted
  (try dsimp only)
  all_goals ((repeat' split) <;> (first | with_reducible rfl | (simp only [fw_up_ne (c := 13) (i := r) (k := 13) (c' := c) (i' := i) (k' := k) (by omega), xsend_c (c' := c) (by omega) (by omega) (by omega), xq_Re_goOnWriting hc, xq_Re_sendRequest hc]; done)))
theorem xq_Re_refused {c i k : Nat} (hc : c = 13 ∧ k = 19) : ∀ (v0 : fw_V) (r : Nat), (xf_Re_refused v0 r) c i k = v0 c i k := by
  intro v0 r
  unfold xf_Re_refused
  (try dsimp only)
  all_goals ((repeat' split) <;> (first | with_reducible rfl | (simp only [xsend_c (c' := c) (by omega) (by omega) (by omega), xq_Re_shut hc]; done)))
theorem xq_Re_written {c i k : Nat} (hc : c = 13 ∧ k = 19) : ∀ (v0 : fw_V) (r : Nat) (a1 : Int32), (xf_Re_written v0 r a1) c i k = v0 c i k := by
  intro v0 r a1
  unfold xf_Re_written
  (try dsimp only)
  all_goals ((repeat' split) <;> (first | with_reducible rfl | (simp only [xsend_c (c' := c) (by omega) (by omega) (by omega), xq_Re_goOnWriting hc, xq_Re_sendRequest hc]; done)))
theorem xq_Re_ended {c i k : Nat} (hc : c = 13 ∧ k = 19) : ∀ (v0 : fw_V) (r : Nat), (xf_Re_ended v0 r) c i k = v0 c i k := by
  intro v0 r
  unfold xf_Re_ended
  (try dsimp only)
  all_goals ((repeat' split) <;> (first | with_reducible rfl | (simp only [xsend_c (c' := c) (by omega) (by omega) (by omega), xq_Re_enter hc]; done)))
theorem xq_Cy_restart {c i k : Nat} (hc : c = 13 ∧ k = 19) : ∀ (v0 : fw_V) (r : Nat), (xf_Cy_restart v0 r) c i k = v0 c i k := by
  intro v0 r
  unfold xf_Cy_restart
  (try dsimp only)
  all_goals ((repeat' split) <;> (first | with_reducible rfl | (simp only [fw_up_ne (c := 14) (i := r) (k := 0) (c' := c) (i' := i) (k' := k) (by omega), fw_up_ne (c := 14) (i := r) (k := 1) (c' := c) (i' := i) (k' := k) (by omega), xsend_c (c' := c) (by omega) (by omega) (by omega)]; done)))
theorem xq_Re_deviceReady {c i k : Nat} (hc : c = 13 ∧ k = 19) : ∀ (v0 : fw_V) (r : Nat), (xf_Re_deviceReady v0 r) c i k = v0 c i k := by
  intro v0 r
  unfold xf_Re_deviceReady
  (try dsimp only)
  all_goals ((repeat' split) <;> (first | with_reducible rfl | (simp only [xsend_c (c' := c) (by omega) (by omega) (by omega), xq_Cy_restart hc, xq_Re_enter hc]; done)))
theorem xq_Cy_takes {c i k : Nat} (hc : c = 13 ∧ k = 19) : ∀ (v0 : fw_V) (r : Nat) (a1 : Int32), (xf_Cy_takes v0 r a1).2 c i k = v0 c i k := by
  intro v0 r a1
  unfold xf_Cy_takes
  (try dsimp only)
  all_goals ((repeat' split) <;> (first | with_reducible rfl | (simp only [fw_up_ne (c := 14) (i := r) (k := 1) (c' := c) (i' := i) (k' := k) (by omega), xsend_c (c' := c) (by omega) (by omega) (by omega)]; done)))
theorem xq_Re_takeInput {c i k : Nat} (hc : c = 13 ∧ k = 19) : ∀ (v0 : fw_V) (r : Nat) (k1 : Nat), (xf_Re_takeInput v0 r k1) c i k = v0 c i k := by
  intro v0 r k1
  unfold xf_Re_takeInput
  (try dsimp only)
  all_goals ((repeat' split) <;> (first | with_reducible rfl | (simp only [fw_up_ne (c := 13) (i := r) (k := 14) (c' := c) (i' := i) (k' := k) (by omega), fw_up_ne (c := 13) (i := r) (k := 15) (c' := c) (i' := i) (k' := k) (by omega), fw_row_c (c := 18) (c' := c) (by omega), xsend_c (c' := c) (by omega) (by omega) (by omega), xq_Cy_takes hc]; done)))
theorem xq_AL_add {c i k : Nat} (hc : c = 13 ∧ k = 19) : ∀ (v0 : fw_V) (a1 : Int32) (a2 : Int32) (a3 : Int32), (xf_AL_add v0 a1 a2 a3) c i k = v0 c i k := by
  intro v0 a1 a2 a3
  unfold xf_AL_add
  (try dsimp only)
  all_goals ((repeat' split) <;> (first | with_reducible rfl | (simp only [fw_up_c (c := 10) (c' := c) (by omega), fw_up_ne (c := 9) (i := 0) (k := 1) (c' := c) (i' := i) (k' := k) (by omega), xsend_c (c' := c) (by omega) (by omega) (by omega)]; done)))
theorem xq_Re_takeAlarm {c i k : Nat} (hc : c = 13 ∧ k = 19) : ∀ (v0 : fw_V) (r : Nat) (k1 : Nat), (xf_Re_takeAlarm v0 r k1) c i k = v0 c i k := by
  intro v0 r k1
  unfold xf_Re_takeAlarm
  (try dsimp only)
  all_goals ((repeat' split) <;> (first | with_reducible rfl | (simp only [fw_up_ne (c := 13) (i := r) (k := 18) (c' := c) (i' := i) (k' := k) (by omega), fw_up_ne (c := 13) (i := r) (k := 13) (c' := c) (i' := i) (k' := k) (by omega), xsend_c (c' := c) (by omega) (by omega) (by omega), xq_AL_add hc]; done)))
theorem xq_Re_receive {c i k : Nat} (hc : c = 13 ∧ k = 19) : ∀ (v0 : fw_V) (r : Nat) (k1 : Nat), (xf_Re_receive v0 r k1) c i k = v0 c i k := by
  intro v0 r k1
  unfold xf_Re_receive
  (try dsimp only)
  all_goals ((repeat' split) <;> (first | with_reducible rfl | (simp only [xsend_c (c' := c) (by omega) (by omega) (by omega), xq_Re_deviceFound hc, xq_Re_accepted hc, xq_Re_refused hc, xq_Re_written hc, xq_Re_ended hc, xq_Re_deviceReady hc, xq_Re_takeInput hc, xq_Re_takeAlarm hc, xq_Re_shut hc]; done)))
theorem xq_Re_begin {c i k : Nat} (hc : c = 13 ∧ k = 19) : ∀ (v0 : fw_V) (r : Nat) (a1 : Int32), (xf_Re_begin v0 r a1) c i k = v0 c i k := by
  intro v0 r a1
  unfold xf_Re_begin
  (try dsimp only)
  all_goals ((repeat' split) <;> (first | with_reducible rfl | (simp only [fw_up_ne (c := 13) (i := r) (k := 11) (c' := c) (i' := i) (k' := k) (by omega), fw_up_ne (c := 13) (i := r) (k := 13) (c' := c) (i' := i) (k' := k) (by omega), fw_up_ne (c := 13) (i := r) (k := 18) (c' := c) (i' := i) (k' := k) (by omega), xsend_c (c' := c) (by omega) (by omega) (by omega), xq_Re_enter hc, xq_Re_sendRequest hc]; done)))
theorem xq_Re_end {c i k : Nat} (hc : c = 13 ∧ k = 19) : ∀ (v0 : fw_V) (r : Nat), (xf_Re_end v0 r).2 c i k = v0 c i k := by
  intro v0 r
  unfold xf_Re_end
  (try dsimp only)
  all_goals ((repeat' split) <;> (first | with_reducible rfl | (simp only [xsend_c (c' := c) (by omega) (by omega) (by omega), xq_Re_shut hc, xq_Re_abort hc]; done)))
theorem xq_Cy_nextToSend {c i k : Nat} (hc : c = 13 ∧ k = 19) : ∀ (v0 : fw_V) (r : Nat), (xf_Cy_nextToSend v0 r).2 c i k = v0 c i k := by
  intro v0 r
  unfold xf_Cy_nextToSend
  (try dsimp only)
  all_goals ((repeat' split) <;> (first | with_reducible rfl | (simp only [fw_up_ne (c := 14) (i := r) (k := 0) (c' := c) (i' := i) (k' := k) (by omega), xsend_c (c' := c) (by omega) (by omega) (by omega)]; done)))
theorem xq_Re_sendOutput_j10 {c i k : Nat} (hc : c = 13 ∧ k = 19) : ∀ (v : fw_V) (r : Nat) (k1 : Nat), (xf_Re_sendOutput_j10 v r k1) c i k = v c i k := by
  intro v r k1
  unfold xf_Re_sendOutput_j10
  (try dsimp only)
  all_goals ((repeat' split) <;> (first | with_reducible rfl | (simp only [xsend_c (c' := c) (by omega) (by omega) (by omega)]; done)))
theorem xq_Re_sendOutput_j12 {c i k : Nat} (hc : c = 13 ∧ k = 19) : ∀ (v : fw_V) (r : Nat) (k1 : Nat) (x3 : Int32), (xf_Re_sendOutput_j12 v r k1 x3) c i k = v c i k := by
  intro v r k1 x3
  unfold xf_Re_sendOutput_j12
  (try dsimp only)
  all_goals ((repeat' split) <;> (first | with_reducible rfl | (simp only [xsend_c (c' := c) (by omega) (by omega) (by omega), xq_Re_sendOutput_j10 hc]; done)))
theorem xq_Re_sendOutput_j11 {c i k : Nat} (hc : c = 13 ∧ k = 19) : ∀ (v : fw_V) (r : Nat) (k1 : Nat) (x3 : Int32), (xf_Re_sendOutput_j11 v r k1 x3) c i k = v c i k := by
  intro v r k1 x3
  unfold xf_Re_sendOutput_j11
  (try dsimp only)
  all_goals ((repeat' split) <;> (first | with_reducible rfl | (simp only [fw_up_ne (c := 8) (i := k1) (k := 5) (c' := c) (i' := i) (k' := k) (by omega), xsend_c (c' := c) (by omega) (by omega) (by omega), xq_Re_sendOutput_j10 hc, xq_Re_sendOutput_j12 hc]; done)))
theorem xq_Re_sendOutput_j9 {c i k : Nat} (hc : c = 13 ∧ k = 19) : ∀ (v : fw_V) (r : Nat) (k1 : Nat) (x3 : Int32), (xf_Re_sendOutput_j9 v r k1 x3) c i k = v c i k := by
  intro v r k1 x3
  unfold xf_Re_sendOutput_j9
  (try dsimp only)
  all_goals ((repeat' split) <;> (first | with_reducible rfl | (simp only [fw_up_ne (c := 8) (i := k1) (k := 4) (c' := c) (i' := i) (k' := k) (by omega), xsend_c (c' := c) (by omega) (by omega) (by omega), xq_Re_sendOutput_j10 hc, xq_Re_sendOutput_j11 hc]; done)))
theorem xq_Re_sendOutput_j8 {c i k : Nat} (hc : c = 13 ∧ k = 19) : ∀ (v : fw_V) (r : Nat) (k1 : Nat) (x90 : Int32), (xf_Re_sendOutput_j8 v r k1 x90) c i k = v c i k := by
  intro v r k1 x90
  unfold xf_Re_sendOutput_j8
  (try dsimp only)
  all_goals ((repeat' split) <;> (first | with_reducible rfl | (simp only [xsend_c (c' := c) (by omega) (by omega) (by omega), xq_Re_sendOutput_j9 hc]; done)))
theorem xq_Re_sendOutput_j14 {c i k : Nat} (hc : c = 13 ∧ k = 19) : ∀ (v : fw_V) (r : Nat) (k1 : Nat), (xf_Re_sendOutput_j14 v r k1) c i k = v c i k := by
  intro v r k1
  unfold xf_Re_sendOutput_j14
  (try dsimp only)
  all_goals ((repeat' split) <;> (first | with_reducible rfl | (simp only [xsend_c (c' := c) (by omega) (by omega) (by omega), xq_Re_sendOutput_j10 hc]; done)))
theorem xq_Re_sendOutput_j13 {c i k : Nat} (hc : c = 13 ∧ k = 19) : ∀ (v : fw_V) (r : Nat) (k1 : Nat), (xf_Re_sendOutput_j13 v r k1) c i k = v c i k := by
  intro v r k1
  unfold xf_Re_sendOutput_j13
  (try dsimp only)
  all_goals ((repeat' split) <;> (first | with_reducible rfl | (simp only [xsend_c (c' := c) (by omega) (by omega) (by omega), xq_Re_sendOutput_j14 hc]; done)))
theorem xq_Re_sendOutput_j7 {c i k : Nat} (hc : c = 13 ∧ k = 19) : ∀ (v : fw_V) (r : Nat) (k1 : Nat), (xf_Re_sendOutput_j7 v r k1) c i k = v c i k := by
  intro v r k1
  unfold xf_Re_sendOutput_j7
  (try dsimp only)
  all_goals ((repeat' split) <;> (first | with_reducible rfl | (simp only [xsend_c (c' := c) (by omega) (by omega) (by omega), xq_Re_sendOutput_j8 hc, xq_Re_sendOutput_j13 hc]; done)))
theorem xq_Re_sendOutput_j16 {c i k : Nat} (hc : c = 13 ∧ k = 19) : ∀ (v : fw_V) (r : Nat) (k1 : Nat) (x3 : Int32), (xf_Re_sendOutput_j16 v r k1 x3) c i k = v c i k := by
  intro v r k1 x3
  unfold xf_Re_sendOutput_j16
  (try dsimp only)
  all_goals ((repeat' split) <;> (first | with_reducible rfl | (simp only [xsend_c (c' := c) (by omega) (by omega) (by omega), xq_Re_sendOutput_j7 hc]; done)))
theorem xq_Re_sendOutput_j15 {c i k : Nat} (hc : c = 13 ∧ k = 19) : ∀ (v : fw_V) (r : Nat) (k1 : Nat) (x3 : Int32), (xf_Re_sendOutput_j15 v r k1 x3) c i k = v c i k := by
  intro v r k1 x3
  unfold xf_Re_sendOutput_j15
  (try dsimp only)
  all_goals ((repeat' split) <;> (first | with_reducible rfl | (simp only [fw_up_ne (c := 8) (i := k1) (k := 3) (c' := c) (i' := i) (k' := k) (by omega), xsend_c (c' := c) (by omega) (by omega) (by omega), xq_Re_sendOutput_j7 hc, xq_Re_sendOutput_j16 hc]; done)))
theorem xq_Re_sendOutput_j6 {c i k : Nat} (hc : c = 13 ∧ k = 19) : ∀ (v : fw_V) (r : Nat) (k1 : Nat) (x3 : Int32), (xf_Re_sendOutput_j6 v r k1 x3) c i k = v c i k := by
  intro v r k1 x3
  unfold xf_Re_sendOutput_j6
  (try dsimp only)
  all_goals ((repeat' split) <;> (first | with_reducible rfl | (simp only [fw_up_ne (c := 8) (i := k1) (k := 2) (c' := c) (i' := i) (k' := k) (by omega), xsend_c (c' := c) (by omega) (by omega) (by omega), xq_Re_sendOutput_j7 hc, xq_Re_sendOutput_j15 hc]; done)))
theorem xq_Re_sendOutput_j5 {c i k : Nat} (hc : c = 13 ∧ k = 19) : ∀ (v : fw_V) (r : Nat) (k1 : Nat) (x90 : Int32), (xf_Re_sendOutput_j5 v r k1 x90) c i k = v c i k := by
  intro v r k1 x90
  unfold xf_Re_sendOutput_j5
  (try dsimp only)
  all_goals ((repeat' split) <;> (first | with_reducible rfl | (simp only [xsend_c (c' := c) (by omega) (by omega) (by omega), xq_Re_sendOutput_j6 hc]; done)))
theorem xq_Re_sendOutput_j18 {c i k : Nat} (hc : c = 13 ∧ k = 19) : ∀ (v : fw_V) (r : Nat) (k1 : Nat), (xf_Re_sendOutput_j18 v r k1) c i k = v c i k := by
  intro v r k1
  unfold xf_Re_sendOutput_j18
  (try dsimp only)
  all_goals ((repeat' split) <;> (first | with_reducible rfl | (simp only [xsend_c (c' := c) (by omega) (by omega) (by omega), xq_Re_sendOutput_j7 hc]; done)))
theorem xq_Re_sendOutput_j17 {c i k : Nat} (hc : c = 13 ∧ k = 19) : ∀ (v : fw_V) (r : Nat) (k1 : Nat), (xf_Re_sendOutput_j17 v r k1) c i k = v c i k := by
  intro v r k1
  unfold xf_Re_sendOutput_j17
  (try dsimp only)
  all_goals ((repeat' split) <;> (first | with_reducible rfl | (simp only [xsend_c (c' := c) (by omega) (by omega) (by omega), xq_Re_sendOutput_j18 hc]; done)))
theorem xq_Re_sendOutput_j4 {c i k : Nat} (hc : c = 13 ∧ k = 19) : ∀ (v : fw_V) (r : Nat) (k1 : Nat), (xf_Re_sendOutput_j4 v r k1) c i k = v c i k := by
  intro v r k1
  unfold xf_Re_sendOutput_j4
  (try dsimp only)
  all_goals ((repeat' split) <;> (first | with_reducible rfl | (simp only [xsend_c (c' := c) (by omega) (by omega) (by omega), xq_Re_sendOutput_j5 hc, xq_Re_sendOutput_j17 hc]; done)))
theorem xq_Re_sendOutput_j20 {c i k : Nat} (hc : c = 13 ∧ k = 19) : ∀ (v : fw_V) (r : Nat) (k1 : Nat) (x3 : Int32), (xf_Re_sendOutput_j20 v r k1 x3) c i k = v c i k := by
  intro v r k1 x3
  unfold xf_Re_sendOutput_j20
  (try dsimp only)
  all_goals ((repeat' split) <;> (first | with_reducible rfl | (simp only [xsend_c (c' := c) (by omega) (by omega) (by omega), xq_Re_sendOutput_j4 hc]; done)))
theorem xq_Re_sendOutput_j19 {c i k : Nat} (hc : c = 13 ∧ k = 19) : ∀ (v : fw_V) (r : Nat) (k1 : Nat) (x3 : Int32), (xf_Re_sendOutput_j19 v r k1 x3) c i k = v c i k := by
  intro v r k1 x3
  unfold xf_Re_sendOutput_j19
  (try dsimp only)
  all_goals ((repeat' split) <;> (first | with_reducible rfl | (simp only [fw_up_ne (c := 8) (i := k1) (k := 1) (c' := c) (i' := i) (k' := k) (by omega), xsend_c (c' := c) (by omega) (by omega) (by omega), xq_Re_sendOutput_j4 hc, xq_Re_sendOutput_j20 hc]; done)))
theorem xq_Re_sendOutput_j3 {c i k : Nat} (hc : c = 13 ∧ k = 19) : ∀ (v : fw_V) (r : Nat) (k1 : Nat) (x3 : Int32), (xf_Re_sendOutput_j3 v r k1 x3) c i k = v c i k := by
  intro v r k1 x3
  unfold xf_Re_sendOutput_j3
  (try dsimp only)
  all_goals ((repeat' split) <;> (first | with_reducible rfl | (simp only [fw_up_ne (c := 8) (i := k1) (k := 0) (c' := c) (i' := i) (k' := k) (by omega), xsend_c (c' := c) (by omega) (by omega) (by omega), xq_Re_sendOutput_j4 hc, xq_Re_sendOutput_j19 hc]; done)))
theorem xq_Re_sendOutput_j2 {c i k : Nat} (hc : c = 13 ∧ k = 19) : ∀ (v : fw_V) (r : Nat) (k1 : Nat) (x90 : Int32), (xf_Re_sendOutput_j2 v r k1 x90) c i k = v c i k := by
  intro v r k1 x90
  unfold xf_Re_sendOutput_j2
  (try dsimp only)
  all_goals ((repeat' split) <;> (first | with_reducible rfl | (simp only [xsend_c (c' := c) (by omega) (by omega) (by omega), xq_Re_sendOutput_j3 hc]; done)))
theorem xq_Re_sendOutput_j22 {c i k : Nat} (hc : c = 13 ∧ k = 19) : ∀ (v : fw_V) (r : Nat) (k1 : Nat), (xf_Re_sendOutput_j22 v r k1) c i k = v c i k := by
  intro v r k1
  unfold xf_Re_sendOutput_j22
  (try dsimp only)
  all_goals ((repeat' split) <;> (first | with_reducible rfl | (simp only [xsend_c (c' := c) (by omega) (by omega) (by omega), xq_Re_sendOutput_j4 hc]; done)))
theorem xq_Re_sendOutput_j21 {c i k : Nat} (hc : c = 13 ∧ k = 19) : ∀ (v : fw_V) (r : Nat) (k1 : Nat), (xf_Re_sendOutput_j21 v r k1) c i k = v c i k := by
  intro v r k1
  unfold xf_Re_sendOutput_j21
  (try dsimp only)
  all_goals ((repeat' split) <;> (first | with_reducible rfl | (simp only [xsend_c (c' := c) (by omega) (by omega) (by omega), xq_Re_sendOutput_j22 hc]; done)))
theorem xq_Re_sendOutput_j1 {c i k : Nat} (hc : c = 13 ∧ k = 19) : ∀ (v : fw_V) (r : Nat) (k1 : Nat), (xf_Re_sendOutput_j1 v r k1) c i k = v c i k := by
  intro v r k1
  unfold xf_Re_sendOutput_j1
  (try dsimp only)
  all_goals ((repeat' split) <;> (first | with_reducible rfl | (simp only [xsend_c (c' := c) (by omega) (by omega) (by omega), xq_Re_sendOutput_j2 hc, xq_Re_sendOutput_j21 hc]; done)))
theorem xq_Re_sendOutput {c i k : Nat} (hc : c = 13 ∧ k = 19) : ∀ (v0 : fw_V) (r : Nat), (xf_Re_sendOutput v0 r) c i k = v0 c i k := by
  intro v0 r
  unfold xf_Re_sendOutput
  (try dsimp only)
  all_goals ((repeat' split) <;> (first | with_reducible rfl | (simp only [xsend_c (c' := c) (by omega) (by omega) (by omega), xq_Cy_nextToSend hc, xq_Re_sendOutput_j1 hc]; done)))
theorem ml_Mo_enter_0 {c i k : Nat} (hc : c = 49) : ∀ (v0 : fw_V) (a2 : Int32), (mf_Mo_enter_0 v0 a2) c i k = v0 c i k := by
  intro v0 a2
  unfold mf_Mo_enter_0
  (try dsimp only)
  all_goals ((repeat' split) <;> (first | with_reducible rfl | (simp only [fw_up_ne (c := 12) (i := 0) (k := 0) (c' := c) (i' := i) (k' := k) (by omega), fw_up_ne (c := 18) (i := 0) (k := 0) (c' := c) (i' := i) (k' := k) (by omega), fw_up_ne (c := 19) (i := 0) (k := 0) (c' := c) (i' := i) (k' := k) (by omega), msend_c (c' := c) (by omega) (by omega) (by omega) (by omega) (by omega) (by omega) (by omega)]; done)))
theorem ml_Mo_ask_0 {c i k : Nat} (hc : c = 49) : ∀ (v0 : fw_V), (mf_Mo_ask_0 v0) c i k = v0 c i k := by
  intro v0
  unfold mf_Mo_ask_0
  (try dsimp only)
  all_goals ((repeat' split) <;> (first | with_reducible rfl | (simp only [fw_up_ne (c := 18) (i := 0) (k := 0) (c' := c) (i' := i) (k' := k) (by omega), fw_up_ne (c := 9) (i := 0) (k := 0) (c' := c) (i' := i) (k' := k) (by omega), fw_up_ne (c := 9) (i := 0) (k := 1) (c' := c) (i' := i) (k' := k) (by omega), fw_up_ne (c := 9) (i := 0) (k := 2) (c' := c) (i' := i) (k' := k) (by omega), msend_c (c' := c) (by omega) (by omega) (by omega) (by omega) (by omega) (by omega) (by omega)]; done)))
theorem ml_Mo_shut_0 {c i k : Nat} (hc : c = 49) : ∀ (v0 : fw_V), (mf_Mo_shut_0 v0) c i k = v0 c i k := by
  intro v0
  unfold mf_Mo_shut_0
  (try dsimp only)
  all_goals ((repeat' split) <;> (first | with_reducible rfl | (simp only [fw_up_ne (c := 13) (i := 0) (k := 0) (c' := c) (i' := i) (k' := k) (by omega), fw_up_ne (c := 15) (i := 0) (k := 0) (c' := c) (i' := i) (k' := k) (by omega), fw_up_ne (c := 16) (i := 0) (k := 0) (c' := c) (i' := i) (k' := k) (by omega), fw_up_ne (c := 17) (i := 0) (k := 0) (c' := c) (i' := i) (k' := k) (by omega), fw_up_ne (c := 27) (i := 0) (k := 0) (c' := c) (i' := i) (k' := k) (by omega), fw_up_ne (c := 27) (i := 0) (k := 1) (c' := c) (i' := i) (k' := k) (by omega), fw_up_ne (c := 27) (i := 0) (k := 2) (c' := c) (i' := i) (k' := k) (by omega), fw_up_ne (c := 27) (i := 0) (k := 3) (c' := c) (i' := i) (k' := k) (by omega), fw_up_ne (c := 27) (i := 0) (k := 4) (c' := c) (i' := i) (k' := k) (by omega), fw_up_ne (c := 27) (i := 0) (k := 5) (c' := c) (i' := i) (k' := k) (by omega), msend_c (c' := c) (by omega) (by omega) (by omega) (by omega) (by omega) (by omega) (by omega), ml_Mo_enter_0 hc]; done)))
theorem ml_Mo_write_0_j2 {c i k : Nat} (hc : c = 49) : ∀ (v : fw_V) (a2 : Int32) (x3 : Int32), (mf_Mo_write_0_j2 v a2 x3) c i k = v c i k := by
  intro v a2 x3
  unfold mf_Mo_write_0_j2
  (try dsimp only)
  all_goals ((repeat' split) <;> (first | with_reducible rfl | (simp only [fw_up_ne (c := 20) (i := 0) (k := 0) (c' := c) (i' := i) (k' := k) (by omega), msend_c (c' := c) (by omega) (by omega) (by omega) (by omega) (by omega) (by omega) (by omega), ml_Mo_enter_0 hc, ml_Mo_ask_0 hc]; done)))
theorem ml_Mo_write_0_j3 {c i k : Nat} (hc : c = 49) : ∀ (v : fw_V) (a2 : Int32) (x3 : Int32), (mf_Mo_write_0_j3 v a2 x3) c i k = v c i k := by
  intro v a2 x3
  unfold mf_Mo_write_0_j3
  (try dsimp only)
  all_goals ((repeat' split) <;> (first | with_reducible rfl | (simp only [fw_up_ne (c := 20) (i := 0) (k := 0) (c' := c) (i' := i) (k' := k) (by omega), msend_c (c' := c) (by omega) (by omega) (by omega) (by omega) (by omega) (by omega) (by omega), ml_Mo_enter_0 hc, ml_Mo_ask_0 hc]; done)))
theorem ml_Mo_write_0_j1 {c i k : Nat} (hc : c = 49) : ∀ (n : Nat) (v : fw_V) (a2 : Int32) (x3 : Int32), (mf_Mo_write_0_j1 n v a2 x3) c i k = v c i k := by
  intro n
  induction n with
  | zero => intros; rfl
  | succ n ih =>
    intro v a2 x3
    unfold mf_Mo_write_0_j1
    (try dsimp only)
    all_goals ((repeat' split) <;> (first | with_reducible rfl | (simp only [ih, msend_c (c' := c) (by omega) (by omega) (by omega) (by omega) (by omega) (by omega) (by omega), ml_Mo_write_0_j2 hc, ml_Mo_write_0_j3 hc]; done)))
theorem ml_Mo_write_0 {c i k : Nat} (hc : c = 49) : ∀ (v0 : fw_V) (a2 : Int32), (mf_Mo_write_0 v0 a2) c i k = v0 c i k := by
  intro v0 a2
  unfold mf_Mo_write_0
  (try dsimp only)
  all_goals ((repeat' split) <;> (first | with_reducible rfl | (simp only [msend_c (c' := c) (by omega) (by omega) (by omega) (by omega) (by omega) (by omega) (by omega), ml_Mo_write_0_j1 hc]; done)))
theorem ml_Mo_breakOff_0 {c i k : Nat} (hc : c = 49) : ∀ (v0 : fw_V), (mf_Mo_breakOff_0 v0) c i k = v0 c i k := by
  intro v0
  unfold mf_Mo_breakOff_0
  (try dsimp only)
  all_goals ((repeat' split) <;> (first | with_reducible rfl | (simp only [msend_c (c' := c) (by omega) (by omega) (by omega) (by omega) (by omega) (by omega) (by omega), ml_Mo_shut_0 hc]; done)))
theorem ml_Mo_beat_0_j25 {c i k : Nat} (hc : c = 49) : ∀ (v : fw_V), (mf_Mo_beat_0_j25 v) c i k = v c i k := by
  intro v
  unfold mf_Mo_beat_0_j25
  (try dsimp only)
  all_goals ((repeat' split) <;> (first | with_reducible rfl | (simp only [fw_up_ne (c := 21) (i := 0) (k := 0) (c' := c) (i' := i) (k' := k) (by omega), msend_c (c' := c) (by omega) (by omega) (by omega) (by omega) (by omega) (by omega) (by omega)]; done)))
theorem ml_Mo_beat_0_j24 {c i k : Nat} (hc : c = 49) : ∀ (v : fw_V), (mf_Mo_beat_0_j24 v) c i k = v c i k := by
  intro v
  unfold mf_Mo_beat_0_j24
  (try dsimp only)
  all_goals ((repeat' split) <;> (first | with_reducible rfl | (simp only [fw_up_ne (c := 9) (i := 0) (k := 5) (c' := c) (i' := i) (k' := k) (by omega), msend_c (c' := c) (by omega) (by omega) (by omega) (by omega) (by omega) (by omega) (by omega), ml_Mo_beat_0_j25 hc]; done)))
theorem ml_Mo_beat_0_j23 {c i k : Nat} (hc : c = 49) : ∀ (v : fw_V), (mf_Mo_beat_0_j23 v) c i k = v c i k := by
  intro v
  unfold mf_Mo_beat_0_j23
  (try dsimp only)
  all_goals ((repeat' split) <;> (first | with_reducible rfl | (simp only [msend_c (c' := c) (by omega) (by omega) (by omega) (by omega) (by omega) (by omega) (by omega), ml_Mo_beat_0_j24 hc]; done)))
theorem ml_Mo_beat_0_j22 {c i k : Nat} (hc : c = 49) : ∀ (v : fw_V), (mf_Mo_beat_0_j22 v) c i k = v c i k := by
  intro v
  unfold mf_Mo_beat_0_j22
  (try dsimp only)
  all_goals ((repeat' split) <;> (first | with_reducible rfl | (simp only [msend_c (c' := c) (by omega) (by omega) (by omega) (by omega) (by omega) (by omega) (by omega), ml_Mo_beat_0_j23 hc]; done)))
theorem ml_Mo_beat_0_j27 {c i k : Nat} (hc : c = 49) : ∀ (v : fw_V) (x90 : Int32), (mf_Mo_beat_0_j27 v x90) c i k = v c i k := by
  intro v x90
  unfold mf_Mo_beat_0_j27
  (try dsimp only)
  all_goals ((repeat' split) <;> (first | with_reducible rfl | (simp only [fw_up_ne (c := 9) (i := 0) (k := 5) (c' := c) (i' := i) (k' := k) (by omega), msend_c (c' := c) (by omega) (by omega) (by omega) (by omega) (by omega) (by omega) (by omega), ml_Mo_beat_0_j25 hc]; done)))
theorem ml_Mo_beat_0_j26 {c i k : Nat} (hc : c = 49) : ∀ (v : fw_V), (mf_Mo_beat_0_j26 v) c i k = v c i k := by
  intro v
  unfold mf_Mo_beat_0_j26
  (try dsimp only)
  all_goals ((repeat' split) <;> (first | with_reducible rfl | (simp only [msend_c (c' := c) (by omega) (by omega) (by omega) (by omega) (by omega) (by omega) (by omega), ml_Mo_beat_0_j27 hc]; done)))
theorem ml_Mo_beat_0_j21 {c i k : Nat} (hc : c = 49) : ∀ (v : fw_V), (mf_Mo_beat_0_j21 v) c i k = v c i k := by
  intro v
  unfold mf_Mo_beat_0_j21
  (try dsimp only)
  all_goals ((repeat' split) <;> (first | with_reducible rfl | (simp only [msend_c (c' := c) (by omega) (by omega) (by omega) (by omega) (by omega) (by omega) (by omega), ml_Mo_beat_0_j22 hc, ml_Mo_beat_0_j26 hc]; done)))
theorem ml_Mo_beat_0_j20 {c i k : Nat} (hc : c = 49) : ∀ (v : fw_V), (mf_Mo_beat_0_j20 v) c i k = v c i k := by
  intro v
  unfold mf_Mo_beat_0_j20
  (try dsimp only)
  all_goals ((repeat' split) <;> (first | with_reducible rfl | (simp only [fw_up_ne (c := 9) (i := 0) (k := 4) (c' := c) (i' := i) (k' := k) (by omega), msend_c (c' := c) (by omega) (by omega) (by omega) (by omega) (by omega) (by omega) (by omega), ml_Mo_beat_0_j21 hc]; done)))
theorem ml_Mo_beat_0_j19 {c i k : Nat} (hc : c = 49) : ∀ (v : fw_V), (mf_Mo_beat_0_j19 v) c i k = v c i k := by
  intro v
  unfold mf_Mo_beat_0_j19
  (try dsimp only)
  all_goals ((repeat' split) <;> (first | with_reducible rfl | (simp only [msend_c (c' := c) (by omega) (by omega) (by omega) (by omega) (by omega) (by omega) (by omega), ml_Mo_beat_0_j20 hc]; done)))
theorem ml_Mo_beat_0_j18 {c i k : Nat} (hc : c = 49) : ∀ (v : fw_V), (mf_Mo_beat_0_j18 v) c i k = v c i k := by
  intro v
  unfold mf_Mo_beat_0_j18
  (try dsimp only)
  all_goals ((repeat' split) <;> (first | with_reducible rfl | (simp only [msend_c (c' := c) (by omega) (by omega) (by omega) (by omega) (by omega) (by omega) (by omega), ml_Mo_beat_0_j19 hc]; done)))
theorem ml_Mo_beat_0_j29 {c i k : Nat} (hc : c = 49) : ∀ (v : fw_V) (x90 : Int32), (mf_Mo_beat_0_j29 v x90) c i k = v c i k := by
  intro v x90
  unfold mf_Mo_beat_0_j29
  (try dsimp only)
  all_goals ((repeat' split) <;> (first | with_reducible rfl | (simp only [fw_up_ne (c := 9) (i := 0) (k := 4) (c' := c) (i' := i) (k' := k) (by omega), msend_c (c' := c) (by omega) (by omega) (by omega) (by omega) (by omega) (by omega) (by omega), ml_Mo_beat_0_j21 hc]; done)))
theorem ml_Mo_beat_0_j28 {c i k : Nat} (hc : c = 49) : ∀ (v : fw_V), (mf_Mo_beat_0_j28 v) c i k = v c i k := by
  intro v
  unfold mf_Mo_beat_0_j28
  (try dsimp only)
  all_goals ((repeat' split) <;> (first | with_reducible rfl | (simp only [msend_c (c' := c) (by omega) (by omega) (by omega) (by omega) (by omega) (by omega) (by omega), ml_Mo_beat_0_j29 hc]; done)))
theorem ml_Mo_beat_0_j17 {c i k : Nat} (hc : c = 49) : ∀ (v : fw_V), (mf_Mo_beat_0_j17 v) c i k = v c i k := by
  intro v
  unfold mf_Mo_beat_0_j17
  (try dsimp only)
  all_goals ((repeat' split) <;> (first | with_reducible rfl | (simp only [msend_c (c' := c) (by omega) (by omega) (by omega) (by omega) (by omega) (by omega) (by omega), ml_Mo_beat_0_j18 hc, ml_Mo_beat_0_j28 hc]; done)))
theorem ml_Mo_beat_0_j16 {c i k : Nat} (hc : c = 49) : ∀ (v : fw_V), (mf_Mo_beat_0_j16 v) c i k = v c i k := by
  intro v
  unfold mf_Mo_beat_0_j16
  (try dsimp only)
  all_goals ((repeat' split) <;> (first | with_reducible rfl | (simp only [fw_up_ne (c := 9) (i := 0) (k := 3) (c' := c) (i' := i) (k' := k) (by omega), msend_c (c' := c) (by omega) (by omega) (by omega) (by omega) (by omega) (by omega) (by omega), ml_Mo_beat_0_j17 hc]; done)))
theorem ml_Mo_beat_0_j15 {c i k : Nat} (hc : c = 49) : ∀ (v : fw_V), (mf_Mo_beat_0_j15 v) c i k = v c i k := by
  intro v
  unfold mf_Mo_beat_0_j15
  (try dsimp only)
  all_goals ((repeat' split) <;> (first | with_reducible rfl | (simp only [msend_c (c' := c) (by omega) (by omega) (by omega) (by omega) (by omega) (by omega) (by omega), ml_Mo_beat_0_j16 hc]; done)))
theorem ml_Mo_beat_0_j14 {c i k : Nat} (hc : c = 49) : ∀ (v : fw_V), (mf_Mo_beat_0_j14 v) c i k = v c i k := by
  intro v
  unfold mf_Mo_beat_0_j14
  (try dsimp only)
  all_goals ((repeat' split) <;> (first | with_reducible rfl | (simp only [msend_c (c' := c) (by omega) (by omega) (by omega) (by omega) (by omega) (by omega) (by omega), ml_Mo_beat_0_j15 hc]; done)))
theorem ml_Mo_beat_0_j31 {c i k : Nat} (hc : c = 49) : ∀ (v : fw_V) (x90 : Int32), (mf_Mo_beat_0_j31 v x90) c i k = v c i k := by
  intro v x90
  unfold mf_Mo_beat_0_j31
  (try dsimp only)
  all_goals ((repeat' split) <;> (first | with_reducible rfl | (simp only [fw_up_ne (c := 9) (i := 0) (k := 3) (c' := c) (i' := i) (k' := k) (by omega), msend_c (c' := c) (by omega) (by omega) (by omega) (by omega) (by omega) (by omega) (by omega), ml_Mo_beat_0_j17 hc]; done)))
theorem ml_Mo_beat_0_j30 {c i k : Nat} (hc : c = 49) : ∀ (v : fw_V), (mf_Mo_beat_0_j30 v) c i k = v c i k := by
  intro v
  unfold mf_Mo_beat_0_j30
  (try dsimp only)
  all_goals ((repeat' split) <;> (first | with_reducible rfl | (simp only [msend_c (c' := c) (by omega) (by omega) (by omega) (by omega) (by omega) (by omega) (by omega), ml_Mo_beat_0_j31 hc]; done)))
theorem ml_Mo_beat_0_j13 {c i k : Nat} (hc : c = 49) : ∀ (v : fw_V), (mf_Mo_beat_0_j13 v) c i k = v c i k := by
  intro v
  unfold mf_Mo_beat_0_j13
  (try dsimp only)
  all_goals ((repeat' split) <;> (first | with_reducible rfl | (simp only [msend_c (c' := c) (by omega) (by omega) (by omega) (by omega) (by omega) (by omega) (by omega), ml_Mo_beat_0_j14 hc, ml_Mo_beat_0_j30 hc]; done)))
theorem ml_Mo_beat_0_j12 {c i k : Nat} (hc : c = 49) : ∀ (v : fw_V), (mf_Mo_beat_0_j12 v) c i k = v c i k := by
  intro v
  unfold mf_Mo_beat_0_j12
  (try dsimp only)
  all_goals ((repeat' split) <;> (first | with_reducible rfl | (simp only [fw_up_ne (c := 9) (i := 0) (k := 2) (c' := c) (i' := i) (k' := k) (by omega), msend_c (c' := c) (by omega) (by omega) (by omega) (by omega) (by omega) (by omega) (by omega), ml_Mo_beat_0_j13 hc]; done)))
theorem ml_Mo_beat_0_j11 {c i k : Nat} (hc : c = 49) : ∀ (v : fw_V), (mf_Mo_beat_0_j11 v) c i k = v c i k := by
  intro v
  unfold mf_Mo_beat_0_j11
  (try dsimp only)
  all_goals ((repeat' split) <;> (first | with_reducible rfl | (simp only [msend_c (c' := c) (by omega) (by omega) (by omega) (by omega) (by omega) (by omega) (by omega), ml_Mo_beat_0_j12 hc]; done)))
theorem ml_Mo_beat_0_j10 {c i k : Nat} (hc : c = 49) : ∀ (v : fw_V), (mf_Mo_beat_0_j10 v) c i k = v c i k := by
  intro v
  unfold mf_Mo_beat_0_j10
  (try dsimp only)
  all_goals ((repeat' split) <;> (first | with_reducible rfl | (simp only [msend_c (c' := c) (by omega) (by omega) (by omega) (by omega) (by omega) (by omega) (by omega), ml_Mo_beat_0_j11 hc]; done)))
theorem ml_Mo_beat_0_j33 {c i k : Nat} (hc : c = 49) : ∀ (v : fw_V) (x90 : Int32), (mf_Mo_beat_0_j33 v x90) c i k = v c i k := by
  intro v x90
  unfold mf_Mo_beat_0_j33
  (try dsimp only)
  all_goals ((repeat' split) <;> (first | with_reducible rfl | (simp only [fw_up_ne (c := 9) (i := 0) (k := 2) (c' := c) (i' := i) (k' := k) (by omega), msend_c (c' := c) (by omega) (by omega) (by omega) (by omega) (by omega) (by omega) (by omega), ml_Mo_beat_0_j13 hc]; done)))
theorem ml_Mo_beat_0_j32 {c i k : Nat} (hc : c = 49) : ∀ (v : fw_V), (mf_Mo_beat_0_j32 v) c i k = v c i k := by
  intro v
  unfold mf_Mo_beat_0_j32
  (try dsimp only)
  all_goals ((repeat' split) <;> (first | with_reducible rfl | (simp only [msend_c (c' := c) (by omega) (by omega) (by omega) (by omega) (by omega) (by omega) (by omega), ml_Mo_beat_0_j33 hc]; done)))
theorem ml_Mo_beat_0_j9 {c i k : Nat} (hc : c = 49) : ∀ (v : fw_V), (mf_Mo_beat_0_j9 v) c i k = v c i k := by
  intro v
  unfold mf_Mo_beat_0_j9
  (try dsimp only)
  all_goals ((repeat' split) <;> (first | with_reducible rfl | (simp only [msend_c (c' := c) (by omega) (by omega) (by omega) (by omega) (by omega) (by omega) (by omega), ml_Mo_beat_0_j10 hc, ml_Mo_beat_0_j32 hc]; done)))
theorem ml_Mo_beat_0_j8 {c i k : Nat} (hc : c = 49) : ∀ (v : fw_V), (mf_Mo_beat_0_j8 v) c i k = v c i k := by
  intro v
  unfold mf_Mo_beat_0_j8
  (try dsimp only)
  all_goals ((repeat' split) <;> (first | with_reducible rfl | (simp only [fw_up_ne (c := 9) (i := 0) (k := 1) (c' := c) (i' := i) (k' := k) (by omega), msend_c (c' := c) (by omega) (by omega) (by omega) (by omega) (by omega) (by omega) (by omega), ml_Mo_beat_0_j9 hc]; done)))
theorem ml_Mo_beat_0_j7 {c i k : Nat} (hc : c = 49) : ∀ (v : fw_V), (mf_Mo_beat_0_j7 v) c i k = v c i k := by
  intro v
  unfold mf_Mo_beat_0_j7
  (try dsimp only)
  all_goals ((repeat' split) <;> (first | with_reducible rfl | (simp only [msend_c (c' := c) (by omega) (by omega) (by omega) (by omega) (by omega) (by omega) (by omega), ml_Mo_beat_0_j8 hc]; done)))
theorem ml_Mo_beat_0_j6 {c i k : Nat} (hc : c = 49) : ∀ (v : fw_V), (mf_Mo_beat_0_j6 v) c i k = v c i k := by
  intro v
  unfold mf_Mo_beat_0_j6
  (try dsimp only)
  all_goals ((repeat' split) <;> (first | with_reducible rfl | (simp only [msend_c (c' := c) (by omega) (by omega) (by omega) (by omega) (by omega) (by omega) (by omega), ml_Mo_beat_0_j7 hc]; done)))
theorem ml_Mo_beat_0_j35 {c i k : Nat} (hc : c = 49) : ∀ (v : fw_V) (x90 : Int32), (mf_Mo_beat_0_j35 v x90) c i k = v c i k := by
  intro v x90
  unfold mf_Mo_beat_0_j35
  (try dsimp only)
  all_goals ((repeat' split) <;> (first | with_reducible rfl | (simp only [fw_up_ne (c := 9) (i := 0) (k := 1) (c' := c) (i' := i) (k' := k) (by omega), msend_c (c' := c) (by omega) (by omega) (by omega) (by omega) (by omega) (by omega) (by omega), ml_Mo_beat_0_j9 hc]; done)))
theorem ml_Mo_beat_0_j34 {c i k : Nat} (hc : c = 49) : ∀ (v : fw_V), (mf_Mo_beat_0_j34 v) c i k = v c i k := by
  intro v
  unfold mf_Mo_beat_0_j34
  (try dsimp only)
  all_goals ((repeat' split) <;> (first | with_reducible rfl | (simp only [msend_c (c' := c) (by omega) (by omega) (by omega) (by omega) (by omega) (by omega) (by omega), ml_Mo_beat_0_j35 hc]; done)))
theorem ml_Mo_beat_0_j5 {c i k : Nat} (hc : c = 49) : ∀ (v : fw_V), (mf_Mo_beat_0_j5 v) c i k = v c i k := by
  intro v
  unfold mf_Mo_beat_0_j5
  (try dsimp only)
  all_goals ((repeat' split) <;> (first | with_reducible rfl | (simp only [msend_c (c' := c) (by omega) (by omega) (by omega) (by omega) (by omega) (by omega) (by omega), ml_Mo_beat_0_j6 hc, ml_Mo_beat_0_j34 hc]; done)))
theorem ml_Mo_beat_0_j4 {c i k : Nat} (hc : c = 49) : ∀ (v : fw_V), (mf_Mo_beat_0_j4 v) c i k = v c i k := by
  intro v
  unfold mf_Mo_beat_0_j4
  (try dsimp only)
  all_goals ((repeat' split) <;> (first | with_reducible rfl | (simp only [fw_up_ne (c := 9) (i := 0) (k := 0) (c' := c) (i' := i) (k' := k) (by omega), msend_c (c' := c) (by omega) (by omega) (by omega) (by omega) (by omega) (by omega) (by omega), ml_Mo_beat_0_j5 hc]; done)))
theorem ml_Mo_beat_0_j3 {c i k : Nat} (hc : c = 49) : ∀ (v : fw_V), (mf_Mo_beat_0_j3 v) c i k = v c i k := by
  intro v
  unfold mf_Mo_beat_0_j3
  (try dsimp only)
  all_goals ((repeat' split) <;> (first | with_reducible rfl | (simp only [msend_c (c' := c) (by omega) (by omega) (by omega) (by omega) (by omega) (by omega) (by omega), ml_Mo_beat_0_j4 hc]; done)))
theorem ml_Mo_beat_0_j2 {c i k : Nat} (hc : c = 49) : ∀ (v : fw_V), (mf_Mo_beat_0_j2 v) c i k = v c i k := by
  intro v
  unfold mf_Mo_beat_0_j2
  (try dsimp only)
  all_goals ((repeat' split) <;> (first | with_reducible rfl | (simp only [msend_c (c' := c) (by omega) (by omega) (by omega) (by omega) (by omega) (by omega) (by omega), ml_Mo_beat_0_j3 hc]; done)))
theorem ml_Mo_beat_0_j37 {c i k : Nat} (hc : c = 49) : ∀ (v : fw_V) (x90 : Int32), (mf_Mo_beat_0_j37 v x90) c i k = v c i k := by
  intro v x90
  unfold mf_Mo_beat_0_j37
  (try dsimp only)
  all_goals ((repeat' split) <;> (first | with_reducible rfl | (simp only [fw_up_ne (c := 9) (i := 0) (k := 0) (c' := c) (i' := i) (k' := k) (by omega), msend_c (c' := c) (by omega) (by omega) (by omega) (by omega) (by omega) (by omega) (by omega), ml_Mo_beat_0_j5 hc]; done)))
theorem ml_Mo_beat_0_j36 {c i k : Nat} (hc : c = 49) : ∀ (v : fw_V), (mf_Mo_beat_0_j36 v) c i k = v c i k := by
  intro v
  unfold mf_Mo_beat_0_j36
  (try dsimp only)
  all_goals ((repeat' split) <;> (first | with_reducible rfl | (simp only [msend_c (c' := c) (by omega) (by omega) (by omega) (by omega) (by omega) (by omega) (by omega), ml_Mo_beat_0_j37 hc]; done)))
theorem ml_Mo_beat_0_j1 {c i k : Nat} (hc : c = 49) : ∀ (v : fw_V), (mf_Mo_beat_0_j1 v) c i k = v c i k := by
  intro v
  unfold mf_Mo_beat_0_j1
  (try dsimp only)
  all_goals ((repeat' split) <;> (first | with_reducible rfl | (simp only [msend_c (c' := c) (by omega) (by omega) (by omega) (by omega) (by omega) (by omega) (by omega), ml_Mo_beat_0_j2 hc, ml_Mo_beat_0_j36 hc]; done)))
theorem ml_Mo_beat_0 {c i k : Nat} (hc : c = 49) : ∀ (v0 : fw_V), (mf_Mo_beat_0 v0) c i k = v0 c i k := by
  intro v0
  unfold mf_Mo_beat_0
  (try dsimp only)
  all_goals ((repeat' split) <;> (first | with_reducible rfl | (simp only [fw_up_ne (c := 18) (i := 0) (k := 0) (c' := c) (i' := i) (k' := k) (by omega), fw_up_ne (c := 0) (i := 0) (k := 56) (c' := c) (i' := i) (k' := k) (by omega), fw_up_ne (c := 19) (i := 0) (k := 0) (c' := c) (i' := i) (k' := k) (by omega), msend_c (c' := c) (by omega) (by omega) (by omega) (by omega) (by omega) (by omega) (by omega), ml_Mo_breakOff_0 hc, ml_Mo_beat_0_j1 hc, ml_Mo_ask_0 hc]; done)))
theorem ml_Mo_enter_1 {c i k : Nat} (hc : c = 49) : ∀ (v0 : fw_V) (a2 : Int32), (mf_Mo_enter_1 v0 a2) c i k = v0 c i k := by
  intro v0 a2
  unfold mf_Mo_enter_1
  (try dsimp only)
  all_goals ((repeat' split) <;> (first | with_reducible rfl | (simp only [fw_up_ne (c := 12) (i := 0) (k := 1) (c' := c) (i' := i) (k' := k) (by omega), fw_up_ne (c := 18) (i := 0) (k := 1) (c' := c) (i' := i) (k' := k) (by omega), fw_up_ne (c := 19) (i := 0) (k := 1) (c' := c) (i' := i) (k' := k) (by omega), msend_c (c' := c) (by omega) (by omega) (by omega) (by omega) (by omega) (by omega) (by omega)]; done)))
theorem ml_Mo_ask_1 {c i k : Nat} (hc : c = 49) : ∀ (v0 : fw_V), (mf_Mo_ask_1 v0) c i k = v0 c i k := by
  intro v0
  unfold mf_Mo_ask_1
  (try dsimp only)
  all_goals ((repeat' split) <;> (first | with_reducible rfl | (simp only [fw_up_ne (c := 18) (i := 0) (k := 1) (c' := c) (i' := i) (k' := k) (by omega), fw_up_ne (c := 9) (i := 0) (k := 0) (c' := c) (i' := i) (k' := k) (by omega), fw_up_ne (c := 9) (i := 0) (k := 1) (c' := c) (i' := i) (k' := k) (by omega), fw_up_ne (c := 9) (i := 0) (k := 2) (c' := c) (i' := i) (k' := k) (by omega), msend_c (c' := c) (by omega) (by omega) (by omega) (by omega) (by omega) (by omega) (by omega)]; done)))
theorem ml_Mo_shut_1 {c i k : Nat} (hc : c = 49) : ∀ (v0 : fw_V), (mf_Mo_shut_1 v0) c i k = v0 c i k := by
  intro v0
  unfold mf_Mo_shut_1
  (try dsimp only)
  all_goals ((repeat' split) <;> (first | with_reducible rfl | (simp only [fw_up_ne (c := 13) (i := 0) (k := 1) (c' := c) (i' := i) (k' := k) (by omega), fw_up_ne (c := 15) (i := 0) (k := 1) (c' := c) (i' := i) (k' := k) (by omega), fw_up_ne (c := 16) (i := 0) (k := 1) (c' := c) (i' := i) (k' := k) (by omega), fw_up_ne (c := 17) (i := 0) (k := 1) (c' := c) (i' := i) (k' := k) (by omega), fw_up_ne (c := 27) (i := 0) (k := 6) (c' := c) (i' := i) (k' := k) (by omega), fw_up_ne (c := 27) (i := 0) (k := 7) (c' := c) (i' := i) (k' := k) (by omega), fw_up_ne (c := 27) (i := 0) (k := 8) (c' := c) (i' := i) (k' := k) (by omega), fw_up_ne (c := 27) (i := 0) (k := 9) (c' := c) (i' := i) (k' := k) (by omega), fw_up_ne (c := 27) (i := 0) (k := 10) (c' := c) (i' := i) (k' := k) (by omega), fw_up_ne (c := 27) (i := 0) (k := 11) (c' := c) (i' := i) (k' := k) (by omega), msend_c (c' := c) (by omega) (by omega) (by omega) (by omega) (by omega) (by omega) (by omega), ml_Mo_enter_1 hc]; done)))
theorem ml_Mo_write_1_j2 {c i k : Nat} (hc : c = 49) : ∀ (v : fw_V) (a2 : Int32) (x3 : Int32), (mf_Mo_write_1_j2 v a2 x3) c i k = v c i k := by
  intro v a2 x3
  unfold mf_Mo_write_1_j2
  (try dsimp only)
  all_goals ((repeat' split) <;> (first | with_reducible rfl | (simp only [fw_up_ne (c := 20) (i := 0) (k := 1) (c' := c) (i' := i) (k' := k) (by omega), msend_c (c' := c) (by omega) (by omega) (by omega) (by omega) (by omega) (by omega) (by omega), ml_Mo_enter_1 hc, ml_Mo_ask_1 hc]; done)))
theorem ml_Mo_write_1_j3 {c i k : Nat} (hc : c = 49) : ∀ (v : fw_V) (a2 : Int32) (x3 : Int32), (mf_Mo_write_1_j3 v a2 x3) c i k = v c i k := by
  intro v a2 x3
  unfold mf_Mo_write_1_j3
  (try dsimp only)
  all_goals ((repeat' split) <;> (first | with_reducible rfl | (simp only [fw_up_ne (c := 20) (i := 0) (k := 1) (c' := c) (i' := i) (k' := k) (by omega), msend_c (c' := c) (by omega) (by omega) (by omega) (by omega) (by omega) (by omega) (by omega), ml_Mo_enter_1 hc, ml_Mo_ask_1 hc]; done)))
theorem ml_Mo_write_1_j1 {c i k : Nat} (hc : c = 49) : ∀ (n : Nat) (v : fw_V) (a2 : Int32) (x3 : Int32), (mf_Mo_write_1_j1 n v a2 x3) c i k = v c i k := by
  intro n
  induction n with
  | zero => intros; rfl
  | succ n ih =>
    intro v a2 x3
    unfold mf_Mo_write_1_j1
    (try dsimp only)
    all_goals ((repeat' split) <;> (first | with_reducible rfl | (simp only [ih, msend_c (c' := c) (by omega) (by omega) (by omega) (by omega) (by omega) (by omega) (by omega), ml_Mo_write_1_j2 hc, ml_Mo_write_1_j3 hc]; done)))
theorem ml_Mo_write_1 {c i k : Nat} (hc : c = 49) : ∀ (v0 : fw_V) (a2 : Int32), (mf_Mo_write_1 v0 a2) c i k = v0 c i k := by
  intro v0 a2
  unfold mf_Mo_write_1
  (try dsimp only)
  all_goals ((repeat' split) <;> (first | with_reducible rfl | (simp only [msend_c (c' := c) (by omega) (by omega) (by omega) (by omega) (by omega) (by omega) (by omega), ml_Mo_write_1_j1 hc]; done)))
theorem ml_Mo_breakOff_1 {c i k : Nat} (hc : c = 49) : ∀ (v0 : fw_V), (mf_Mo_breakOff_1 v0) c i k = v0 c i k := by
  intro v0
  unfold mf_Mo_breakOff_1
  (try dsimp only)
  all_goals ((repeat' split) <;> (first | with_reducible rfl | (simp only [msend_c (c' := c) (by omega) (by omega) (by omega) (by omega) (by omega) (by omega) (by omega), ml_Mo_shut_1 hc]; done)))
theorem ml_Mo_beat_1_j25 {c i k : Nat} (hc : c = 49) : ∀ (v : fw_V), (mf_Mo_beat_1_j25 v) c i k = v c i k := by
  intro v
  unfold mf_Mo_beat_1_j25
  (try dsimp only)
  all_goals ((repeat' split) <;> (first | with_reducible rfl | (simp only [fw_up_ne (c := 21) (i := 0) (k := 1) (c' := c) (i' := i) (k' := k) (by omega), msend_c (c' := c) (by omega) (by omega) (by omega) (by omega) (by omega) (by omega) (by omega)]; done)))
theorem ml_Mo_beat_1_j24 {c i k : Nat} (hc : c = 49) : ∀ (v : fw_V), (mf_Mo_beat_1_j24 v) c i k = v c i k := by
  intro v
  unfold mf_Mo_beat_1_j24
  (try dsimp only)
  all_goals ((repeat' split) <;> (first | with_reducible rfl | (simp only [fw_up_ne (c := 9) (i := 0) (k := 5) (c' := c) (i' := i) (k' := k) (by omega), msend_c (c' := c) (by omega) (by omega) (by omega) (by omega) (by omega) (by omega) (by omega), ml_Mo_beat_1_j25 hc]; done)))
theorem ml_Mo_beat_1_j23 {c i k : Nat} (hc : c = 49) : ∀ (v : fw_V), (mf_Mo_beat_1_j23 v) c i k = v c i k := by
  intro v
  unfold mf_Mo_beat_1_j23
  (try dsimp only)
  all_goals ((repeat' split) <;> (first | with_reducible rfl | (simp only [msend_c (c' := c) (by omega) (by omega) (by omega) (by omega) (by omega) (by omega) (by omega), ml_Mo_beat_1_j24 hc]; done)))
theorem ml_Mo_beat_1_j22 {c i k : Nat} (hc : c = 49) : ∀ (v : fw_V), (mf_Mo_beat_1_j22 v) c i k = v c i k := by
  intro v
  unfold mf_Mo_beat_1_j22
  (try dsimp only)
  all_goals ((repeat' split) <;> (first | with_reducible rfl | (simp only [msend_c (c' := c) (by omega) (by omega) (by omega) (by omega) (by omega) (by omega) (by omega), ml_Mo_beat_1_j23 hc]; done)))
theorem ml_Mo_beat_1_j27 {c i k : Nat} (hc : c = 49) : ∀ (v : fw_V) (x90 : Int32), (mf_Mo_beat_1_j27 v x90) c i k = v c i k := by
  intro v x90
  unfold mf_Mo_beat_1_j27
  (try dsimp only)
  all_goals ((repeat' split) <;> (first | with_reducible rfl | (simp only [fw_up_ne (c := 9) (i := 0) (k := 5) (c' := c) (i' := i) (k' := k) (by omega), msend_c (c' := c) (by omega) (by omega) (by omega) (by omega) (by omega) (by omega) (by omega), ml_Mo_beat_1_j25 hc]; done)))
theorem ml_Mo_beat_1_j26 {c i k : Nat} (hc : c = 49) : ∀ (v : fw_V), (mf_Mo_beat_1_j26 v) c i k = v c i k := by
  intro v
  unfold mf_Mo_beat_1_j26
  (try dsimp only)
  all_goals ((repeat' split) <;> (first | with_reducible rfl | (simp only [msend_c (c' := c) (by omega) (by omega) (by omega) (by omega) (by omega) (by omega) (by omega), ml_Mo_beat_1_j27 hc]; done)))
theorem ml_Mo_beat_1_j21 {c i k : Nat} (hc : c = 49) : ∀ (v : fw_V), (mf_Mo_beat_1_j21 v) c i k = v c i k := by
  intro v
  unfold mf_Mo_beat_1_j21
  (try dsimp only)
  all_goals ((repeat' split) <;> (first | with_reducible rfl | (simp only [msend_c (c' := c) (by omega) (by omega) (by omega) (by omega) (by omega) (by omega) (by omega), ml_Mo_beat_1_j22 hc, ml_Mo_beat_1_j26 hc]; done)))
theorem ml_Mo_beat_1_j20 {c i k : Nat} (hc : c = 49) : ∀ (v : fw_V), (mf_Mo_beat_1_j20 v) c i k = v c i k := by
  intro v
  unfold mf_Mo_beat_1_j20
  (try dsimp only)
  all_goals ((repeat' split) <;> (first | with_reducible rfl | (simp only [fw_up_ne (c := 9) (i := 0) (k := 4) (c' := c) (i' := i) (k' := k) (by omega), msend_c (c' := c) (by omega) (by omega) (by omega) (by omega) (by omega) (by omega) (by omega), ml_Mo_beat_1_j21 hc]; done)))
theorem ml_Mo_beat_1_j19 {c i k : Nat} (hc : c = 49) : ∀ (v : fw_V), (mf_Mo_beat_1_j19 v) c i k = v c i k := by
  intro v
  unfold mf_Mo_beat_1_j19
  (try dsimp only)
  all_goals ((repeat' split) <;> (first | with_reducible rfl | (simp only [msend_c (c' := c) (by omega) (by omega) (by omega) (by omega) (by omega) (by omega) (by omega), ml_Mo_beat_1_j20 hc]; done)))
theorem ml_Mo_beat_1_j18 {c i k : Nat} (hc : c = 49) : ∀ (v : fw_V), (mf_Mo_beat_1_j18 v) c i k = v c i k := by
  intro v
  unfold mf_Mo_beat_1_j18
  (try dsimp only)
  all_goals ((repeat' split) <;> (first | with_reducible rfl | (simp only [msend_c (c' := c) (by omega) (by omega) (by omega) (by omega) (by omega) (by omega) (by omega), ml_Mo_beat_1_j19 hc]; done)))
theorem ml_Mo_beat_1_j29 {c i k : Nat} (hc : c = 49) : ∀ (v : fw_V) (x90 : Int32), (mf_Mo_beat_1_j29 v x90) c i k = v c i k := by
  intro v x90
  unfold mf_Mo_beat_1_j29
  (try dsimp only)
  all_goals ((repeat' split) <;> (first | with_reducible rfl | (simp only [fw_up_ne (c := 9) (i := 0) (k := 4) (c' := c) (i' := i) (k' := k) (by omega), msend_c (c' := c) (by omega) (by omega) (by omega) (by omega) (by omega) (by omega) (by omega), ml_Mo_beat_1_j21 hc]; done)))
theorem ml_Mo_beat_1_j28 {c i k : Nat} (hc : c = 49) : ∀ (v : fw_V), (mf_Mo_beat_1_j28 v) c i k = v c i k := by
  intro v
  unfold mf_Mo_beat_1_j28
  (try dsimp only)
  all_goals ((repeat' split) <;> (first | with_reducible rfl | (simp only [msend_c (c' := c) (by omega) (by omega) (by omega) (by omega) (by omega) (by omega) (by omega), ml_Mo_beat_1_j29 hc]; done)))
theorem ml_Mo_beat_1_j17 {c i k : Nat} (hc : c = 49) : ∀ (v : fw_V), (mf_Mo_beat_1_j17 v) c i k = v c i k := by
  intro v
  unfold mf_Mo_beat_1_j17
  (try dsimp only)
  all_goals ((repeat' split) <;> (first | with_reducible rfl | (simp only [msend_c (c' := c) (by omega) (by omega) (by omega) (by omega) (by omega) (by omega) (by omega), ml_Mo_beat_1_j18 hc, ml_Mo_beat_1_j28 hc]; done)))
theorem ml_Mo_beat_1_j16 {c i k : Nat} (hc : c = 49) : ∀ (v : fw_V), (mf_Mo_beat_1_j16 v) c i k = v c i k := by
  intro v
  unfold mf_Mo_beat_1_j16
  (try dsimp only)
  all_goals ((repeat' split) <;> (first | with_reducible rfl | (simp only [fw_up_ne (c := 9) (i := 0) (k := 3) (c' := c) (i' := i) (k' := k) (by omega), msend_c (c' := c) (by omega) (by omega) (by omega) (by omega) (by omega) (by omega) (by omega), ml_Mo_beat_1_j17 hc]; done)))
theorem ml_Mo_beat_1_j15 {c i k : Nat} (hc : c = 49) : ∀ (v : fw_V), (mf_Mo_beat_1_j15 v) c i k = v c i k := by
  intro v
  unfold mf_Mo_beat_1_j15
  (try dsimp only)
  all_goals ((repeat' split) <;> (first | with_reducible rfl | (simp only [msend_c (c' := c) (by omega) (by omega) (by omega) (by omega) (by omega) (by omega) (by omega), ml_Mo_beat_1_j16 hc]; done)))
theorem ml_Mo_beat_1_j14 {c i k : Nat} (hc : c = 49) : ∀ (v : fw_V), (mf_Mo_beat_1_j14 v) c i k = v c i k := by
  intro v
  unfold mf_Mo_beat_1_j14
  (try dsimp only)
  all_goals ((repeat' split) <;> (first | with_reducible rfl | (simp only [msend_c (c' := c) (by omega) (by omega) (by omega) (by omega) (by omega) (by omega) (by omega), ml_Mo_beat_1_j15 hc]; done)))
theorem ml_Mo_beat_1_j31 {c i k : Nat} (hc : c = 49) : ∀ (v : fw_V) (x90 : Int32), (mf_Mo_beat_1_j31 v x90) c i k = v c i k := by
  intro v x90
  unfold mf_Mo_beat_1_j31
  (try dsimp only)
  all_goals ((repeat' split) <;> (first | with_reducible rfl | (simp only [fw_up_ne (c := 9) (i := 0) (k := 3) (c' := c) (i' := i) (k' := k) (by omega), msend_c (c' := c) (by omega) (by omega) (by omega) (by omega) (by omega) (by omega) (by omega), ml_Mo_beat_1_j17 hc]; done)))
theorem ml_Mo_beat_1_j30 {c i k : Nat} (hc : c = 49) : ∀ (v : fw_V), (mf_Mo_beat_1_j30 v) c i k = v c i k := by
  intro v
  unfold mf_Mo_beat_1_j30
  (try dsimp only)
  all_goals ((repeat' split) <;> (first | with_reducible rfl | (simp only [msend_c (c' := c) (by omega) (by omega) (by omega) (by omega) (by omega) (by omega) (by omega), ml_Mo_beat_1_j31 hc]; done)))
theorem ml_Mo_beat_1_j13 {c i k : Nat} (hc : c = 49) : ∀ (v : fw_V), (mf_Mo_beat_1_j13 v) c i k = v c i k := by
  intro v
  unfold mf_Mo_beat_1_j13
  (try dsimp only)
  all_goals ((repeat' split) <;> (first | with_reducible rfl | (simp only [msend_c (c' := c) (by omega) (by omega) (by omega) (by omega) (by omega) (by omega) (by omega), ml_Mo_beat_1_j14 hc, ml_Mo_beat_1_j30 hc]; done)))
theorem ml_Mo_beat_1_j12 {c i k : Nat} (hc : c = 49) : ∀ (v : fw_V), (mf_Mo_beat_1_j12 v) c i k = v c i k := by
  intro v
  unfold mf_Mo_beat_1_j12
  (try dsimp only)
  all_goals ((repeat' split) <;> (first | with_reducible rfl | (simp only [fw_up_ne (c := 9) (i := 0) (k := 2) (c' := c) (i' := i) (k' := k) (by omega), msend_c (c' := c) (by omega) (by omega) (by omega) (by omega) (by omega) (by omega) (by omega), ml_Mo_beat_1_j13 hc]; done)))
theorem ml_Mo_beat_1_j11 {c i k : Nat} (hc : c = 49) : ∀ (v : fw_V), (mf_Mo_beat_1_j11 v) c i k = v c i k := by
  intro v
  unfold mf_Mo_beat_1_j11
  (try dsimp only)
  all_goals ((repeat' split) <;> (first | with_reducible rfl | (simp only [msend_c (c' := c) (by omega) (by omega) (by omega) (by omega) (by omega) (by omega) (by omega), ml_Mo_beat_1_j12 hc]; done)))
theorem ml_Mo_beat_1_j10 {c i k : Nat} (hc : c = 49) : ∀ (v : fw_V), (mf_Mo_beat_1_j10 v) c i k = v c i k := by
  intro v
  unfold mf_Mo_beat_1_j10
  (try dsimp only)
  all_goals ((repeat' split) <;> (first | with_reducible rfl | (simp only [msend_c (c' := c) (by omega) (by omega) (by omega) (by omega) (by omega) (by omega) (by omega), ml_Mo_beat_1_j11 hc]; done)))
theorem ml_Mo_beat_1_j33 {c i k : Nat} (hc : c = 49) : ∀ (v : fw_V) (x90 : Int32), (mf_Mo_beat_1_j33 v x90) c i k = v c i k := by
  intro v x90
  unfold mf_Mo_beat_1_j33
  (try dsimp only)
  all_goals ((repeat' split) <;> (first | with_reducible rfl | (simp only [fw_up_ne (c := 9) (i := 0) (k := 2) (c' := c) (i' := i) (k' := k) (by omega), msend_c (c' := c) (by omega) (by omega) (by omega) (by omega) (by omega) (by omega) (by omega), ml_Mo_beat_1_j13 hc]; done)))
theorem ml_Mo_beat_1_j32 {c i k : Nat} (hc : c = 49) : ∀ (v : fw_V), (mf_Mo_beat_1_j32 v) c i k = v c i k := by
  intro v
  unfold mf_Mo_beat_1_j32
  (try dsimp only)
  all_goals ((repeat' split) <;> (first | with_reducible rfl | (simp only [msend_c (c' := c) (by omega) (by omega) (by omega) (by omega) (by omega) (by omega) (by omega), ml_Mo_beat_1_j33 hc]; done)))
theorem ml_Mo_beat_1_j9 {c i k : Nat} (hc : c = 49) : ∀ (v : fw_V), (mf_Mo_beat_1_j9 v) c i k = v c i k := by
  intro v
  unfold mf_Mo_beat_1_j9
  (try dsimp only)
  all_goals ((repeat' split) <;> (first | with_reducible rfl | (simp only [msend_c (c' := c) (by omega) (by omega) (by omega) (by omega) (by omega) (by omega) (by omega), ml_Mo_beat_1_j10 hc, ml_Mo_beat_1_j32 hc]; done)))
theorem ml_Mo_beat_1_j8 {c i k : Nat} (hc : c = 49) : ∀ (v : fw_V), (mf_Mo_beat_1_j8 v) c i k = v c i k := by
  intro v
  unfold mf_Mo_beat_1_j8
  (try dsimp only)
  all_goals ((repeat' split) <;> (first | with_reducible rfl | (simp only [fw_up_ne (c := 9) (i := 0) (k := 1) (c' := c) (i' := i) (k' := k) (by omega), msend_c (c' := c) (by omega) (by omega) (by omega) (by omega) (by omega) (by omega) (by omega), ml_Mo_beat_1_j9 hc]; done)))
theorem ml_Mo_beat_1_j7 {c i k : Nat} (hc : c = 49) : ∀ (v : fw_V), (mf_Mo_beat_1_j7 v) c i k = v c i k := by
  intro v
  unfold mf_Mo_beat_1_j7
  (try dsimp only)
  all_goals ((repeat' split) <;> (first | with_reducible rfl | (simp only [msend_c (c' := c) (by omega) (by omega) (by omega) (by omega) (by omega) (by omega) (by omega), ml_Mo_beat_1_j8 hc]; done)))
theorem ml_Mo_beat_1_j6 {c i k : Nat} (hc : c = 49) : ∀ (v : fw_V), (mf_Mo_beat_1_j6 v) c i k = v c i k := by
  intro v
  unfold mf_Mo_beat_1_j6
  (try dsimp only)
  all_goals ((repeat' split) <;> (first | with_reducible rfl | (simp only [msend_c (c' := c) (by omega) (by omega) (by omega) (by omega) (by omega) (by omega) (by omega), ml_Mo_beat_1_j7 hc]; done)))
theorem ml_Mo_beat_1_j35 {c i k : Nat} (hc : c = 49) : ∀ (v : fw_V) (x90 : Int32), (mf_Mo_beat_1_j35 v x90) c i k = v c i k := by
  intro v x90
  unfold mf_Mo_beat_1_j35
  (try dsimp only)
  all_goals ((repeat' split) <;> (first | with_reducible rfl | (simp only [fw_up_ne (c := 9) (i := 0) (k := 1) (c' := c) (i' := i) (k' := k) (by omega), msend_c (c' := c) (by omega) (by omega) (by omega) (by omega) (by omega) (by omega) (by omega), ml_Mo_beat_1_j9 hc]; done)))
theorem ml_Mo_beat_1_j34 {c i k : Nat} (hc : c = 49) : ∀ (v : fw_V), (mf_Mo_beat_1_j34 v) c i k = v c i k := by
  intro v
  unfold mf_Mo_beat_1_j34
  (try dsimp only)
  all_goals ((repeat' split) <;> (first | with_reducible rfl | (simp only [msend_c (c' := c) (by omega) (by omega) (by omega) (by omega) (by omega) (by omega) (by omega), ml_Mo_beat_1_j35 hc]; done)))
theorem ml_Mo_beat_1_j5 {c i k : Nat} (hc : c = 49) : ∀ (v : fw_V), (mf_Mo_beat_1_j5 v) c i k = v c i k := by
  intro v
  unfold mf_Mo_beat_1_j5
  (try dsimp only)
  all_goals ((repeat' split) <;> (first | with_reducible rfl | (simp only [msend_c (c' := c) (by omega) (by omega) (by omega) (by omega) (by omega) (by omega) (by omega), ml_Mo_beat_1_j6 hc, ml_Mo_beat_1_j34 hc]; done)))
theorem ml_Mo_beat_1_j4 {c i k : Nat} (hc : c = 49) : ∀ (v : fw_V), (mf_Mo_beat_1_j4 v) c i k = v c i k := by
  intro v
  unfold mf_Mo_beat_1_j4
  (try dsimp only)
  all_goals ((repeat' split) <;> (first | with_reducible rfl | (simp only [fw_up_ne (c := 9) (i := 0) (k := 0) (c' := c) (i' := i) (k' := k) (by omega), msend_c (c' := c) (by omega) (by omega) (by omega) (by omega) (by omega) (by omega) (by omega), ml_Mo_beat_1_j5 hc]; done)))
theorem ml_Mo_beat_1_j3 {c i k : Nat} (hc : c = 49) : ∀ (v : fw_V), (mf_Mo_beat_1_j3 v) c i k = v c i k := by
  intro v
  unfold mf_Mo_beat_1_j3
  (try dsimp only)
  all_goals ((repeat' split) <;> (first | with_reducible rfl | (simp only [msend_c (c' := c) (by omega) (by omega) (by omega) (by omega) (by omega) (by omega) (by omega), ml_Mo_beat_1_j4 hc]; done)))
theorem ml_Mo_beat_1_j2 {c i k : Nat} (hc : c = 49) : ∀ (v : fw_V), (mf_Mo_beat_1_j2 v) c i k = v c i k := by
  intro v
  unfold mf_Mo_beat_1_j2
  (try dsimp only)
  all_goals ((repeat' split) <;> (first | with_reducible rfl | (simp only [msend_c (c' := c) (by omega) (by omega) (by omega) (by omega) (by omega) (by omega) (by omega), ml_Mo_beat_1_j3 hc]; done)))
theorem ml_Mo_beat_1_j37 {c i k : Nat} (hc : c = 49) : ∀ (v : fw_V) (x90 : Int32), (mf_Mo_beat_1_j37 v x90) c i k = v c i k := by
  intro v x90
  unfold mf_Mo_beat_1_j37
  (try dsimp only)
  all_goals ((repeat' split) <;> (first | with_reducible rfl | (simp only [fw_up_ne (c := 9) (i := 0) (k := 0) (c' := c) (i' := i) (k' := k) (by omega), msend_c (c' := c) (by omega) (by omega) (by omega) (by omega) (by omega) (by omega) (by omega), ml_Mo_beat_1_j5 hc]; done)))
theorem ml_Mo_beat_1_j36 {c i k : Nat} (hc : c = 49) : ∀ (v : fw_V), (mf_Mo_beat_1_j36 v) c i k = v c i k := by
  intro v
  unfold mf_Mo_beat_1_j36
  (try dsimp only)
  all_goals ((repeat' split) <;> (first | with_reducible rfl | (simp only [msend_c (c' := c) (by omega) (by omega) (by omega) (by omega) (by omega) (by omega) (by omega), ml_Mo_beat_1_j37 hc]; done)))
theorem ml_Mo_beat_1_j1 {c i k : Nat} (hc : c = 49) : ∀ (v : fw_V), (mf_Mo_beat_1_j1 v) c i k = v c i k := by
  intro v
  unfold mf_Mo_beat_1_j1
  (try dsimp only)
  all_goals ((repeat' split) <;> (first | with_reducible rfl | (simp only [msend_c (c' := c) (by omega) (by omega) (by omega) (by omega) (by omega) (by omega) (by omega), ml_Mo_beat_1_j2 hc, ml_Mo_beat_1_j36 hc]; done)))
theorem ml_Mo_beat_1 {c i k : Nat} (hc : c = 49) : ∀ (v0 : fw_V), (mf_Mo_beat_1 v0) c i k = v0 c i k := by
  intro v0
  unfold mf_Mo_beat_1
  (try dsimp only)
  all_goals ((repeat' split) <;> (first | with_reducible rfl | (simp only [fw_up_ne (c := 18) (i := 0) (k := 1) (c' := c) (i' := i) (k' := k) (by omega), fw_up_ne (c := 0) (i := 0) (k := 56) (c' := c) (i' := i) (k' := k) (by omega), fw_up_ne (c := 19) (i := 0) (k := 1) (c' := c) (i' := i) (k' := k) (by omega), msend_c (c' := c) (by omega) (by omega) (by omega) (by omega) (by omega) (by omega) (by omega), ml_Mo_breakOff_1 hc, ml_Mo_beat_1_j1 hc, ml_Mo_ask_1 hc]; done)))
theorem mz_Mo_enter_0 {k : Nat} (hc : k ≠ 10 ∧ k ≠ 50 ∧ k ≠ 51 ∧ k ≠ 55 ∧ k ≠ 56) : ∀ (v0 : fw_V) (a2 : Int32), (mf_Mo_enter_0 v0 a2) 0 0 k = v0 0 0 k := by
  intro v0 a2
  unfold mf_Mo_enter_0
  (try dsimp only)
  all_goals ((repeat' split) <;> (first | with_reducible rfl | (simp only [fw_up_ne (c := 12) (i := 0) (k := 0) (c' := 0) (i' := 0) (k' := k) (by omega), fw_up_ne (c := 18) (i := 0) (k := 0) (c' := 0) (i' := 0) (k' := k) (by omega), fw_up_ne (c := 19) (i := 0) (k := 0) (c' := 0) (i' := 0) (k' := k) (by omega), msend_0k (i := 0) (k := k) (by omega) (by omega) (by omega)]; done)))
theorem mz_Mo_ask_0 {k : Nat} (hc : k ≠ 10 ∧ k ≠ 50 ∧ k ≠ 51 ∧ k ≠ 55 ∧ k ≠ 56) : ∀ (v0 : fw_V), (mf_Mo_ask_0 v0) 0 0 k = v0 0 0 k := by
  intro v0
  unfold mf_Mo_ask_0
  (try dsimp only)
  all_goals ((repeat' split) <;> (first | with_reducible rfl | (simp only [fw_up_ne (c := 18) (i := 0) (k := 0) (c' := 0) (i' := 0) (k' := k) (by omega), fw_up_ne (c := 9) (i := 0) (k := 0) (c' := 0) (i' := 0) (k' := k) (by omega), fw_up_ne (c := 9) (i := 0) (k := 1) (c' := 0) (i' := 0) (k' := k) (by omega), fw_up_ne (c := 9) (i := 0) (k := 2) (c' := 0) (i' := 0) (k' := k) (by omega), msend_0k (i := 0) (k := k) (by omega) (by omega) (by omega)]; done)))
theorem mz_Mo_shut_0 {k : Nat} (hc : k ≠ 10 ∧ k ≠ 50 ∧ k ≠ 51 ∧ k ≠ 55 ∧ k ≠ 56) : ∀ (v0 : fw_V), (mf_Mo_shut_0 v0) 0 0 k = v0 0 0 k := by
  intro v0
  unfold mf_Mo_shut_0
  (try dsimp only)
  all_goals ((repeat' split) <;> (first | with_reducible rfl | (simp only [fw_up_ne (c := 13) (i := 0) (k := 0) (c' := 0) (i' := 0) (k' := k) (by omega), fw_up_ne (c := 15) (i := 0) (k := 0) (c' := 0) (i' := 0) (k' := k) (by omega), fw_up_ne (c := 16) (i := 0) (k := 0) (c' := 0) (i' := 0) (k' := k) (by omega), fw_up_ne (c := 17) (i := 0) (k := 0) (c' := 0) (i' := 0) (k' := k) (by omega), fw_up_ne (c := 27) (i := 0) (k := 0) (c' := 0) (i' := 0) (k' := k) (by omega), fw_up_ne (c := 27) (i := 0) (k := 1) (c' := 0) (i' := 0) (k' := k) (by omega), fw_up_ne (c := 27) (i := 0) (k := 2) (c' := 0) (i' := 0) (k' := k) (by omega), fw_up_ne (c := 27) (i := 0) (k := 3) (c' := 0) (i' := 0) (k' := k) (by omega), fw_up_ne (c := 27) (i := 0) (k := 4) (c' := 0) (i' := 0) (k' := k) (by omega), fw_up_ne (c := 27) (i := 0) (k := 5) (c' := 0) (i' := 0) (k' := k) (by omega), msend_0k (i := 0) (k := k) (by omega) (by omega) (by omega), mz_Mo_enter_0 hc]; done)))
theorem mz_Mo_write_0_j2 {k : Nat} (hc : k ≠ 10 ∧ k ≠ 50 ∧ k ≠ 51 ∧ k ≠ 55 ∧ k ≠ 56) : ∀ (v : fw_V) (a2 : Int32) (x3 : Int32), (mf_Mo_write_0_j2 v a2 x3) 0 0 k = v 0 0 k := by
  intro v a2 x3
  unfold mf_Mo_write_0_j2
  (try dsimp only)
  all_goals ((repeat' split) <;> (first | with_reducible rfl | (simp only [fw_up_ne (c := 20) (i := 0) (k := 0) (c' := 0) (i' := 0) (k' := k) (by omega), msend_0k (i := 0) (k := k) (by omega) (by omega) (by omega), mz_Mo_enter_0 hc, mz_Mo_ask_0 hc]; done)))
theorem mz_Mo_write_0_j3 {k : Nat} (hc : k ≠ 10 ∧ k ≠ 50 ∧ k ≠ 51 ∧ k ≠ 55 ∧ k ≠ 56) : ∀ (v : fw_V) (a2 : Int32) (x3 : Int32), (mf_Mo_write_0_j3 v a2 x3) 0 0 k = v 0 0 k := by
  intro v a2 x3
  unfold mf_Mo_write_0_j3
  (try dsimp only)
  all_goals ((repeat' split) <;> (first | with_reducible rfl | (simp only [fw_up_ne (c := 20) (i := 0) (k := 0) (c' := 0) (i' := 0) (k' := k) (by omega), msend_0k (i := 0) (k := k) (by omega) (by omega) (by omega), mz_Mo_enter_0 hc, mz_Mo_ask_0 hc]; done)))
theorem mz_Mo_write_0_j1 {k : Nat} (hc : k ≠ 10 ∧ k ≠ 50 ∧ k ≠ 51 ∧ k ≠ 55 ∧ k ≠ 56) : ∀ (n : Nat) (v : fw_V) (a2 : Int32) (x3 : Int32), (mf_Mo_write_0_j1 n v a2 x3) 0 0 k = v 0 0 k := by
  intro n
  induction n with
  | zero => intros; rfl
  | succ n ih =>
    intro v a2 x3
    unfold mf_Mo_write_0_j1
    (try dsimp only)
    all_goals ((repeat' split) <;> (first | with_reducible rfl | (simp only [ih, msend_0k (i := 0) (k := k) (by omega) (by omega) (by omega), mz_Mo_write_0_j2 hc, mz_Mo_write_0_j3 hc]; done)))
theorem mz_Mo_write_0 {k : Nat} (hc : k ≠ 10 ∧ k ≠ 50 ∧ k ≠ 51 ∧ k ≠ 55 ∧ k ≠ 56) : ∀ (v0 : fw_V) (a2 : Int32), (mf_Mo_write_0 v0 a2) 0 0 k = v0 0 0 k := by
  intro v0 a2
  unfold mf_Mo_write_0
  (try dsimp only)
  all_goals ((repeat' split) <;> (first | with_reducible rfl | (simp only [msend_0k (i := 0) (k := k) (by omega) (by omega) (by omega), mz_Mo_write_0_j1 hc]; done)))
theorem mz_Mo_breakOff_0 {k : Nat} (hc : k ≠ 10 ∧ k ≠ 50 ∧ k ≠ 51 ∧ k ≠ 55 ∧ k ≠ 56) : ∀ (v0 : fw_V), (mf_Mo_breakOff_0 v0) 0 0 k = v0 0 0 k := by
  intro v0
  unfold mf_Mo_breakOff_0
  (try dsimp only)
  all_goals ((repeat' split) <;> (first | with_reducible rfl | (simp only [msend_0k (i := 0) (k := k) (by omega) (by omega) (by omega), mz_Mo_shut_0 hc]; done)))
theorem mz_Mo_tell_0_j2 {k : Nat} (hc : k ≠ 10 ∧ k ≠ 50 ∧ k ≠ 51 ∧ k ≠ 55 ∧ k ≠ 56) : ∀ (v : fw_V) (a2 : Int32) (x3 : Int32) (x4 : Int32) (x90 : Int32), (mf_Mo_tell_0_j2 v a2 x3 x4 x90) 0 0 k = v 0 0 k := by
  intro v a2 x3 x4 x90
  unfold mf_Mo_tell_0_j2
  (try dsimp only)
  all_goals ((repeat' split) <;> (first | with_reducible rfl | (simp only [fw_up_ne (c := 16) (i := 0) (k := 0) (c' := 0) (i' := 0) (k' := k) (by omega), fw_up_ne (c := 49) (i := 0) (k := 7) (c' := 0) (i' := 0) (k' := k) (by omega), fw_up_ne (c := 49) (i := 0) (k := 6) (c' := 0) (i' := 0) (k' := k) (by omega), fw_up_ne (c := 49) (i := 0) (k := 5) (c' := 0) (i' := 0) (k' := k) (by omega), fw_up_ne (c := 49) (i := 0) (k := 4) (c' := 0) (i' := 0) (k' := k) (by omega), fw_up_ne (c := 49) (i := 0) (k := 3) (c' := 0) (i' := 0) (k' := k) (by omega), fw_up_ne (c := 49) (i := 0) (k := 2) (c' := 0) (i' := 0) (k' := k) (by omega), fw_up_ne (c := 49) (i := 0) (k := 1) (c' := 0) (i' := 0) (k' := k) (by omega), fw_up_ne (c := 49) (i := 0) (k := 0) (c' := 0) (i' := 0) (k' := k) (by omega), fw_up_ne (c := 0) (i := 0) (k := 55) (c' := 0) (i' := 0) (k' := k) (by omega), msend_0k (i := 0) (k := k) (by omega) (by omega) (by omega)]; done)))
theorem mz_Mo_tell_0_j1 {k : Nat} (hc : k ≠ 10 ∧ k ≠ 50 ∧ k ≠ 51 ∧ k ≠ 55 ∧ k ≠ 56) : ∀ (v : fw_V) (a2 : Int32) (x3 : Int32) (x4 : Int32), (mf_Mo_tell_0_j1 v a2 x3 x4) 0 0 k = v 0 0 k := by
  intro v a2 x3 x4
  unfold mf_Mo_tell_0_j1
  (try dsimp only)
  all_goals ((repeat' split) <;> (first | with_reducible rfl | (simp only [msend_0k (i := 0) (k := k) (by omega) (by omega) (by omega), mz_Mo_tell_0_j2 hc]; done)))
theorem mz_Mo_tell_0 {k : Nat} (hc : k ≠ 10 ∧ k ≠ 50 ∧ k ≠ 51 ∧ k ≠ 55 ∧ k ≠ 56) : ∀ (v0 : fw_V) (a2 : Int32), (mf_Mo_tell_0 v0 a2) 0 0 k = v0 0 0 k := by
  intro v0 a2
  unfold mf_Mo_tell_0
  (try dsimp only)
  all_goals ((repeat' split) <;> (first | with_reducible rfl | (simp only [fw_up_ne (c := 23) (i := 0) (k := 0) (c' := 0) (i' := 0) (k' := k) (by omega), msend_0k (i := 0) (k := k) (by omega) (by omega) (by omega), mz_Mo_tell_0_j1 hc, mz_Mo_tell_0_j2 hc]; done)))
theorem mz_Mo_hears_0_j6 {k : Nat} (hc : k ≠ 10 ∧ k ≠ 50 ∧ k ≠ 51 ∧ k ≠ 55 ∧ k ≠ 56) : ∀ (v0 : fw_V) (a2 : Int32) (a3 : Int32), (mf_Mo_hears_0_j6 v0 a2 a3) 0 0 k = v0 0 0 k := by
  intro v0 a2 a3
  unfold mf_Mo_hears_0_j6
  (try dsimp only)
  all_goals ((repeat' split) <;> (first | with_reducible rfl | (simp only [msend_0k (i := 0) (k := k) (by omega) (by omega) (by omega), mz_Mo_tell_0 hc, mz_Mo_shut_0 hc]; done)))
theorem mz_Mo_hears_0_j5 {k : Nat} (hc : k ≠ 10 ∧ k ≠ 50 ∧ k ≠ 51 ∧ k ≠ 55 ∧ k ≠ 56) : ∀ (v0 : fw_V) (a2 : Int32) (a3 : Int32), (mf_Mo_hears_0_j5 v0 a2 a3) 0 0 k = v0 0 0 k := by
  intro v0 a2 a3
  unfold mf_Mo_hears_0_j5
  (try dsimp only)
  all_goals ((repeat' split) <;> (first | with_reducible rfl | (simp only [fw_up_ne (c := 22) (i := 0) (k := 0) (c' := 0) (i' := 0) (k' := k) (by omega), fw_up_ne (c := 18) (i := 0) (k := 0) (c' := 0) (i' := 0) (k' := k) (by omega), fw_up_ne (c := 17) (i := 0) (k := 0) (c' := 0) (i' := 0) (k' := k) (by omega), fw_up_ne (c := 27) (i := 0) (k := 0) (c' := 0) (i' := 0) (k' := k) (by omega), fw_up_ne (c := 27) (i := 0) (k := 1) (c' := 0) (i' := 0) (k' := k) (by omega), fw_up_ne (c := 27) (i := 0) (k := 2) (c' := 0) (i' := 0) (k' := k) (by omega), fw_up_ne (c := 27) (i := 0) (k := 3) (c' := 0) (i' := 0) (k' := k) (by omega), fw_up_ne (c := 27) (i := 0) (k := 4) (c' := 0) (i' := 0) (k' := k) (by omega), fw_up_ne (c := 27) (i := 0) (k := 5) (c' := 0) (i' := 0) (k' := k) (by omega), msend_0k (i := 0) (k := k) (by omega) (by omega) (by omega), mz_Mo_hears_0_j6 hc]; done)))
theorem mz_Mo_hears_0_j4 {k : Nat} (hc : k ≠ 10 ∧ k ≠ 50 ∧ k ≠ 51 ∧ k ≠ 55 ∧ k ≠ 56) : ∀ (v0 : fw_V) (a2 : Int32) (a3 : Int32), (mf_Mo_hears_0_j4 v0 a2 a3) 0 0 k = v0 0 0 k := by
  intro v0 a2 a3
  unfold mf_Mo_hears_0_j4
  (try dsimp only)
  all_goals ((repeat' split) <;> (first | with_reducible rfl | (simp only [fw_up_ne (c := 21) (i := 0) (k := 0) (c' := 0) (i' := 0) (k' := k) (by omega), fw_up_ne (c := 22) (i := 0) (k := 0) (c' := 0) (i' := 0) (k' := k) (by omega), fw_up_ne (c := 17) (i := 0) (k := 0) (c' := 0) (i' := 0) (k' := k) (by omega), msend_0k (i := 0) (k := k) (by omega) (by omega) (by omega), mz_Mo_hears_0_j5 hc, mz_Mo_enter_0 hc]; done)))
theorem mz_Mo_hears_0_j3 {k : Nat} (hc : k ≠ 10 ∧ k ≠ 50 ∧ k ≠ 51 ∧ k ≠ 55 ∧ k ≠ 56) : ∀ (v0 : fw_V) (a2 : Int32) (a3 : Int32), (mf_Mo_hears_0_j3 v0 a2 a3) 0 0 k = v0 0 0 k := by
  intro v0 a2 a3
  unfold mf_Mo_hears_0_j3
  (try dsimp only)
  all_goals ((repeat' split) <;> (first | with_reducible rfl | (simp only [msend_0k (i := 0) (k := k) (by omega) (by omega) (by omega), mz_Mo_enter_0 hc, mz_Mo_hears_0_j4 hc]; done)))
theorem mz_Mo_hears_0_j2 {k : Nat} (hc : k ≠ 10 ∧ k ≠ 50 ∧ k ≠ 51 ∧ k ≠ 55 ∧ k ≠ 56) : ∀ (v0 : fw_V) (a2 : Int32) (a3 : Int32), (mf_Mo_hears_0_j2 v0 a2 a3) 0 0 k = v0 0 0 k := by
  intro v0 a2 a3
  unfold mf_Mo_hears_0_j2
  (try dsimp only)
  all_goals ((repeat' split) <;> (first | with_reducible rfl | (simp only [msend_0k (i := 0) (k := k) (by omega) (by omega) (by omega), mz_Mo_write_0 hc, mz_Mo_hears_0_j3 hc]; done)))
theorem mz_Mo_hears_0_j1 {k : Nat} (hc : k ≠ 10 ∧ k ≠ 50 ∧ k ≠ 51 ∧ k ≠ 55 ∧ k ≠ 56) : ∀ (v0 : fw_V) (a2 : Int32) (a3 : Int32), (mf_Mo_hears_0_j1 v0 a2 a3) 0 0 k = v0 0 0 k := by
  intro v0 a2 a3
  unfold mf_Mo_hears_0_j1
  (try dsimp only)
  all_goals ((repeat' split) <;> (first | with_reducible rfl | (simp only [msend_0k (i := 0) (k := k) (by omega) (by omega) (by omega), mz_Mo_shut_0 hc, mz_Mo_hears_0_j2 hc]; done)))
theorem mz_Mo_hears_0 {k : Nat} (hc : k ≠ 10 ∧ k ≠ 50 ∧ k ≠ 51 ∧ k ≠ 55 ∧ k ≠ 56) : ∀ (v0 : fw_V) (a2 : Int32) (a3 : Int32), (mf_Mo_hears_0 v0 a2 a3) 0 0 k = v0 0 0 k := by
  intro v0 a2 a3
  unfold mf_Mo_hears_0
  (try dsimp only)
  all_goals ((repeat' split) <;> (first | with_reducible rfl | (simp only [fw_up_ne (c := 16) (i := 0) (k := 0) (c' := 0) (i' := 0) (k' := k) (by omega), msend_0k (i := 0) (k := k) (by omega) (by omega) (by omega), mz_Mo_write_0 hc, mz_Mo_hears_0_j1 hc]; done)))
theorem mz_Mo_beat_0_j25 {k : Nat} (hc : k ≠ 10 ∧ k ≠ 50 ∧ k ≠ 51 ∧ k ≠ 55 ∧ k ≠ 56) : ∀ (v : fw_V), (mf_Mo_beat_0_j25 v) 0 0 k = v 0 0 k := by
  intro v
  unfold mf_Mo_beat_0_j25
  (try dsimp only)
  all_goals ((repeat' split) <;> (first | with_reducible rfl | (simp only [fw_up_ne (c := 21) (i := 0) (k := 0) (c' := 0) (i' := 0) (k' := k) (by omega), msend_0k (i := 0) (k := k) (by omega) (by omega) (by omega)]; done)))
theorem mz_Mo_beat_0_j24 {k : Nat} (hc : k ≠ 10 ∧ k ≠ 50 ∧ k ≠ 51 ∧ k ≠ 55 ∧ k ≠ 56) : ∀ (v : fw_V), (mf_Mo_beat_0_j24 v) 0 0 k = v 0 0 k := by
  intro v
  unfold mf_Mo_beat_0_j24
  (try dsimp only)
  all_goals ((repeat' split) <;> (first | with_reducible rfl | (simp only [fw_up_ne (c := 9) (i := 0) (k := 5) (c' := 0) (i' := 0) (k' := k) (by omega), msend_0k (i := 0) (k := k) (by omega) (by omega) (by omega), mz_Mo_beat_0_j25 hc]; done)))
theorem mz_Mo_beat_0_j23 {k : Nat} (hc : k ≠ 10 ∧ k ≠ 50 ∧ k ≠ 51 ∧ k ≠ 55 ∧ k ≠ 56) : ∀ (v : fw_V), (mf_Mo_beat_0_j23 v) 0 0 k = v 0 0 k := by
  intro v
  unfold mf_Mo_beat_0_j23
  (try dsimp only)
  all_goals ((repeat' split) <;> (first | with_reducible rfl | (simp only [msend_0k (i := 0) (k := k) (by omega) (by omega) (by omega), mz_Mo_beat_0_j24 hc]; done)))
theorem mz_Mo_beat_0_j22 {k : Nat} (hc : k ≠ 10 ∧ k ≠ 50 ∧ k ≠ 51 ∧ k ≠ 55 ∧ k ≠ 56) : ∀ (v : fw_V), (mf_Mo_beat_0_j22 v) 0 0 k = v 0 0 k := by
  intro v
  unfold mf_Mo_beat_0_j22
  (try dsimp only)
  all_goals ((repeat' split) <;> (first | with_reducible rfl | (simp only [msend_0k (i := 0) (k := k) (by omega) (by omega) (by omega), mz_Mo_beat_0_j23 hc]; done)))
theorem mz_Mo_beat_0_j27 {k : Nat} (hc : k ≠ 10 ∧ k ≠ 50 ∧ k ≠ 51 ∧ k ≠ 55 ∧ k ≠ 56) : ∀ (v : fw_V) (x90 : Int32), (mf_Mo_beat_0_j27 v x90) 0 0 k = v 0 0 k := by
  intro v x90
  unfold mf_Mo_beat_0_j27
  (try dsimp only)
  all_goals ((repeat' split) <;> (first | with_reducible rfl | (simp only [fw_up_ne (c := 9) (i := 0) (k := 5) (c' := 0) (i' := 0) (k' := k) (by omega), msend_0k (i := 0) (k := k) (by omega) (by omega) (by omega), mz_Mo_beat_0_j25 hc]; done)))
theorem mz_Mo_beat_0_j26 {k : Nat} (hc : k ≠ 10 ∧ k ≠ 50 ∧ k ≠ 51 ∧ k ≠ 55 ∧ k ≠ 56) : ∀ (v : fw_V), (mf_Mo_beat_0_j26 v) 0 0 k = v 0 0 k := by
  intro v
  unfold mf_Mo_beat_0_j26
  (try dsimp only)
  all_goals ((repeat' split) <;> (first | with_reducible rfl | (simp only [msend_0k (i := 0) (k := k) (by omega) (by omega) (by omega), mz_Mo_beat_0_j27 hc]; done)))
theorem mz_Mo_beat_0_j21 {k : Nat} (hc : k ≠ 10 ∧ k ≠ 50 ∧ k ≠ 51 ∧ k ≠ 55 ∧ k ≠ 56) : ∀ (v : fw_V), (mf_Mo_beat_0_j21 v) 0 0 k = v 0 0 k := by
  intro v
  unfold mf_Mo_beat_0_j21
  (try dsimp only)
  all_goals ((repeat' split) <;> (first | with_reducible rfl | (simp only [msend_0k (i := 0) (k := k) (by omega) (by omega) (by omega), mz_Mo_beat_0_j22 hc, mz_Mo_beat_0_j26 hc]; done)))
theorem mz_Mo_beat_0_j20 {k : Nat} (hc : k ≠ 10 ∧ k ≠ 50 ∧ k ≠ 51 ∧ k ≠ 55 ∧ k ≠ 56) : ∀ (v : fw_V), (mf_Mo_beat_0_j20 v) 0 0 k = v 0 0 k := by
  intro v
  unfold mf_Mo_beat_0_j20
  (try dsimp only)
  all_goals ((repeat' split) <;> (first | with_reducible rfl | (simp only [fw_up_ne (c := 9) (i := 0) (k := 4) (c' := 0) (i' := 0) (k' := k) (by omega), msend_0k (i := 0) (k := k) (by omega) (by omega) (by omega), mz_Mo_beat_0_j21 hc]; done)))
theorem mz_Mo_beat_0_j19 {k : Nat} (hc : k ≠ 10 ∧ k ≠ 50 ∧ k ≠ 51 ∧ k ≠ 55 ∧ k ≠ 56) : ∀ (v : fw_V), (mf_Mo_beat_0_j19 v) 0 0 k = v 0 0 k := by
  intro v
  unfold mf_Mo_beat_0_j19
  (try dsimp only)
  all_goals ((repeat' split) <;> (first | with_reducible rfl | (simp only [msend_0k (i := 0) (k := k) (by omega) (by omega) (by omega), mz_Mo_beat_0_j20 hc]; done)))
theorem mz_Mo_beat_0_j18 {k : Nat} (hc : k ≠ 10 ∧ k ≠ 50 ∧ k ≠ 51 ∧ k ≠ 55 ∧ k ≠ 56) : ∀ (v : fw_V), (mf_Mo_beat_0_j18 v) 0 0 k = v 0 0 k := by
  intro v
  unfold mf_Mo_beat_0_j18
  (try dsimp only)
  all_goals ((repeat' split) <;> (first | with_reducible rfl | (simp only [msend_0k (i := 0) (k := k) (by omega) (by omega) (by omega), mz_Mo_beat_0_j19 hc]; done)))
theorem mz_Mo_beat_0_j29 {k : Nat} (hc : k ≠ 10 ∧ k ≠ 50 ∧ k ≠ 51 ∧ k ≠ 55 ∧ k ≠ 56) : ∀ (v : fw_V) (x90 : Int32), (mf_Mo_beat_0_j29 v x90) 0 0 k = v 0 0 k := by
  intro v x90
  unfold mf_Mo_beat_0_j29
  (try dsimp only)
  all_goals ((repeat' split) <;> (first | with_reducible rfl | (simp only [fw_up_ne (c := 9) (i := 0) (k := 4) (c' := 0) (i' := 0) (k' := k) (by omega), msend_0k (i := 0) (k := k) (by omega) (by omega) (by omega), mz_Mo_beat_0_j21 hc]; done)))
theorem mz_Mo_beat_0_j28 {k : Nat} (hc : k ≠ 10 ∧ k ≠ 50 ∧ k ≠ 51 ∧ k ≠ 55 ∧ k ≠ 56) : ∀ (v : fw_V), (mf_Mo_beat_0_j28 v) 0 0 k = v 0 0 k := by
  intro v
  unfold mf_Mo_beat_0_j28
  (try dsimp only)
  all_goals ((repeat' split) <;> (first | with_reducible rfl | (simp only [msend_0k (i := 0) (k := k) (by omega) (by omega) (by omega), mz_Mo_beat_0_j29 hc]; done)))
theorem mz_Mo_beat_0_j17 {k : Nat} (hc : k ≠ 10 ∧ k ≠ 50 ∧ k ≠ 51 ∧ k ≠ 55 ∧ k ≠ 56) : ∀ (v : fw_V), (mf_Mo_beat_0_j17 v) 0 0 k = v 0 0 k := by
  intro v
  unfold mf_Mo_beat_0_j17
  (try dsimp only)
  all_goals ((repeat' split) <;> (first | with_reducible rfl | (simp only [msend_0k (i := 0) (k := k) (by omega) (by omega) (by omega), mz_Mo_beat_0_j18 hc, mz_Mo_beat_0_j28 hc]; done)))
theorem mz_Mo_beat_0_j16 {k : Nat} (hc : k ≠ 10 ∧ k ≠ 50 ∧ k ≠ 51 ∧ k ≠ 55 ∧ k ≠ 56) : ∀ (v : fw_V), (mf_Mo_beat_0_j16 v) 0 0 k = v 0 0 k := by
  intro v
  unfold mf_Mo_beat_0_j16
  (try dsimp only)
  all_goals ((repeat' split) <;> (first | with_reducible rfl | (simp only [fw_up_ne (c := 9) (i := 0) (k := 3) (c' := 0) (i' := 0) (k' := k) (by omega), msend_0k (i := 0) (k := k) (by omega) (by omega) (by omega), mz_Mo_beat_0_j17 hc]; done)))
theorem mz_Mo_beat_0_j15 {k : Nat} (hc : k ≠ 10 ∧ k ≠ 50 ∧ k ≠ 51 ∧ k ≠ 55 ∧ k ≠ 56) : ∀ (v : fw_V), (mf_Mo_beat_0_j15 v) 0 0 k = v 0 0 k := by
  intro v
  unfold mf_Mo_beat_0_j15
  (try dsimp only)
  all_goals ((repeat' split) <;> (first | with_reducible rfl | (simp only [msend_0k (i := 0) (k := k) (by omega) (by omega) (by omega), mz_Mo_beat_0_j16 hc]; done)))
theorem mz_Mo_beat_0_j14 {k : Nat} (hc : k ≠ 10 ∧ k ≠ 50 ∧ k ≠ 51 ∧ k ≠ 55 ∧ k ≠ 56) : ∀ (v : fw_V), (mf_Mo_beat_0_j14 v) 0 0 k = v 0 0 k := by
  intro v
  unfold mf_Mo_beat_0_j14
  (try dsimp only)
  all_goals ((repeat' split) <;> (first | with_reducible rfl | (simp only [msend_0k (i := 0) (k := k) (by omega) (by omega) (by omega), mz_Mo_beat_0_j15 hc]; done)))
theorem mz_Mo_beat_0_j31 {k : Nat} (hc : k ≠ 10 ∧ k ≠ 50 ∧ k ≠ 51 ∧ k ≠ 55 ∧ k ≠ 56) : ∀ (v : fw_V) (x90 : Int32), (mf_Mo_beat_0_j31 v x90) 0 0 k = v 0 0 k := by
  intro v x90
  unfold mf_Mo_beat_0_j31
  (try dsimp only)
  all_goals ((repeat' split) <;> (first | with_reducible rfl | (simp only [fw_up_ne (c := 9) (i := 0) (k := 3) (c' := 0) (i' := 0) (k' := k) (by omega), msend_0k (i := 0) (k := k) (by omega) (by omega) (by omega), mz_Mo_beat_0_j17 hc]; done)))
theorem mz_Mo_beat_0_j30 {k : Nat} (hc : k ≠ 10 ∧ k ≠ 50 ∧ k ≠ 51 ∧ k ≠ 55 ∧ k ≠ 56) : ∀ (v : fw_V), (mf_Mo_beat_0_j30 v) 0 0 k = v 0 0 k := by
  intro v
  unfold mf_Mo_beat_0_j30
  (try dsimp only)
  all_goals ((repeat' split) <;> (first | with_reducible rfl | (simp only [msend_0k (i := 0) (k := k) (by omega) (by omega) (by omega), mz_Mo_beat_0_j31 hc]; done)))
theorem mz_Mo_beat_0_j13 {k : Nat} (hc : k ≠ 10 ∧ k ≠ 50 ∧ k ≠ 51 ∧ k ≠ 55 ∧ k ≠ 56) : ∀ (v : fw_V), (mf_Mo_beat_0_j13 v) 0 0 k = v 0 0 k := by
  intro v
  unfold mf_Mo_beat_0_j13
  (try dsimp only)
  all_goals ((repeat' split) <;> (first | with_reducible rfl | (simp only [msend_0k (i := 0) (k := k) (by omega) (by omega) (by omega), mz_Mo_beat_0_j14 hc, mz_Mo_beat_0_j30 hc]; done)))
theorem mz_Mo_beat_0_j12 {k : Nat} (hc : k ≠ 10 ∧ k ≠ 50 ∧ k ≠ 51 ∧ k ≠ 55 ∧ k ≠ 56) : ∀ (v : fw_V), (mf_Mo_beat_0_j12 v) 0 0 k = v 0 0 k := by
  intro v
  unfold mf_Mo_beat_0_j12
  (try dsimp only)
  all_goals ((repeat' split) <;> (first | with_reducible rfl | (simp only [fw_up_ne (c := 9) (i := 0) (k := 2) (c' := 0) (i' := 0) (k' := k) (by omega), msend_0k (i := 0) (k := k) (by omega) (by omega) (by omega), mz_Mo_beat_0_j13 hc]; done)))
theorem mz_Mo_beat_0_j11 {k : Nat} (hc : k ≠ 10 ∧ k ≠ 50 ∧ k ≠ 51 ∧ k ≠ 55 ∧ k ≠ 56) : ∀ (v : fw_V), (mf_Mo_beat_0_j11 v) 0 0 k = v 0 0 k := by
  intro v
  unfold mf_Mo_beat_0_j11
  (try dsimp only)
  all_goals ((repeat' split) <;> (first | with_reducible rfl | (simp only [msend_0k (i := 0) (k := k) (by omega) (by omega) (by omega), mz_Mo_beat_0_j12 hc]; done)))
theorem mz_Mo_beat_0_j10 {k : Nat} (hc : k ≠ 10 ∧ k ≠ 50 ∧ k ≠ 51 ∧ k ≠ 55 ∧ k ≠ 56) : ∀ (v : fw_V), (mf_Mo_beat_0_j10 v) 0 0 k = v 0 0 k := by
  intro v
  unfold mf_Mo_beat_0_j10
  (try dsimp only)
  all_goals ((repeat' split) <;> (first | with_reducible rfl | (simp only [msend_0k (i := 0) (k := k) (by omega) (by omega) (by omega), mz_Mo_beat_0_j11 hc]; done)))
theorem mz_Mo_beat_0_j33 {k : Nat} (hc : k ≠ 10 ∧ k ≠ 50 ∧ k ≠ 51 ∧ k ≠ 55 ∧ k ≠ 56) : ∀ (v : fw_V) (x90 : Int32), (mf_Mo_beat_0_j33 v x90) 0 0 k = v 0 0 k := by
  intro v x90
  unfold mf_Mo_beat_0_j33
  (try dsimp only)
  all_goals ((repeat' split) <;> (first | with_reducible rfl | (simp only [fw_up_ne (c := 9) (i := 0) (k := 2) (c' := 0) (i' := 0) (k' := k) (by omega), msend_0k (i := 0) (k := k) (by omega) (by omega) (by omega), mz_Mo_beat_0_j13 hc]; done)))
theorem mz_Mo_beat_0_j32 {k : Nat} (hc : k ≠ 10 ∧ k ≠ 50 ∧ k ≠ 51 ∧ k ≠ 55 ∧ k ≠ 56) : ∀ (v : fw_V), (mf_Mo_beat_0_j32 v) 0 0 k = v 0 0 k := by
  intro v
  unfold mf_Mo_beat_0_j32
  (try dsimp only)
  all_goals ((repeat' split) <;> (first | with_reducible rfl | (simp only [msend_0k (i := 0) (k := k) (by omega) (by omega) (by omega), mz_Mo_beat_0_j33 hc]; done)))
theorem mz_Mo_beat_0_j9 {k : Nat} (hc : k ≠ 10 ∧ k ≠ 50 ∧ k ≠ 51 ∧ k ≠ 55 ∧ k ≠ 56) : ∀ (v : fw_V), (mf_Mo_beat_0_j9 v) 0 0 k = v 0 0 k := by
  intro v
  unfold mf_Mo_beat_0_j9
  (try dsimp only)
  all_goals ((repeat' split) <;> (first | with_reducible rfl | (simp only [msend_0k (i := 0) (k := k) (by omega) (by omega) (by omega), mz_Mo_beat_0_j10 hc, mz_Mo_beat_0_j32 hc]; done)))
theorem mz_Mo_beat_0_j8 {k : Nat} (hc : k ≠ 10 ∧ k ≠ 50 ∧ k ≠ 51 ∧ k ≠ 55 ∧ k ≠ 56) : ∀ (v : fw_V), (mf_Mo_beat_0_j8 v) 0 0 k = v 0 0 k := by
  intro v
  unfold mf_Mo_beat_0_j8
  (try dsimp only)
  all_goals ((repeat' split) <;> (first | with_reducible rfl | (simp only [fw_up_ne (c := 9) (i := 0) (k := 1) (c' := 0) (i' := 0) (k' := k) (by omega), msend_0k (i := 0) (k := k) (by omega) (by omega) (by omega), mz_Mo_beat_0_j9 hc]; done)))
theorem mz_Mo_beat_0_j7 {k : Nat} (hc : k ≠ 10 ∧ k ≠ 50 ∧ k ≠ 51 ∧ k ≠ 55 ∧ k ≠ 56) : ∀ (v : fw_V), (mf_Mo_beat_0_j7 v) 0 0 k = v 0 0 k := by
  intro v
  unfold mf_Mo_beat_0_j7
  (try dsimp only)
  all_goals ((repeat' split) <;> (first | with_reducible rfl | (simp only [msend_0k (i := 0) (k := k) (by omega) (by omega) (by omega), mz_Mo_beat_0_j8 hc]; done)))
theorem mz_Mo_beat_0_j6 {k : Nat} (hc : k ≠ 10 ∧ k ≠ 50 ∧ k ≠ 51 ∧ k ≠ 55 ∧ k ≠ 56) : ∀ (v : fw_V), (mf_Mo_beat_0_j6 v) 0 0 k = v 0 0 k := by
  intro v
  unfold mf_Mo_beat_0_j6
  (try dsimp only)
  all_goals ((repeat' split) <;> (first | with_reducible rfl | (simp only [msend_0k (i := 0) (k := k) (by omega) (by omega) (by omega), mz_Mo_beat_0_j7 hc]; done)))
theorem mz_Mo_beat_0_j35 {k : Nat} (hc : k ≠ 10 ∧ k ≠ 50 ∧ k ≠ 51 ∧ k ≠ 55 ∧ k ≠ 56) : ∀ (v : fw_V) (x90 : Int32), (mf_Mo_beat_0_j35 v x90) 0 0 k = v 0 0 k := by
  intro v x90
  unfold mf_Mo_beat_0_j35
  (try dsimp only)
  all_goals ((repeat' split) <;> (first | with_reducible rfl | (simp only [fw_up_ne (c := 9) (i := 0) (k := 1) (c' := 0) (i' := 0) (k' := k) (by omega), msend_0k (i := 0) (k := k) (by omega) (by omega) (by omega), mz_Mo_beat_0_j9 hc]; done)))
theorem mz_Mo_beat_0_j34 {k : Nat} (hc : k ≠ 10 ∧ k ≠ 50 ∧ k ≠ 51 ∧ k ≠ 55 ∧ k ≠ 56) : ∀ (v : fw_V), (mf_Mo_beat_0_j34 v) 0 0 k = v 0 0 k := by
  intro v
  unfold mf_Mo_beat_0_j34
  (try dsimp only)
  all_goals ((repeat' split) <;> (first | with_reducible rfl | (simp only [msend_0k (i := 0) (k := k) (by omega) (by omega) (by omega), mz_Mo_beat_0_j35 hc]; done)))
theorem mz_Mo_beat_0_j5 {k : Nat} (hc : k ≠ 10 ∧ k ≠ 50 ∧ k ≠ 51 ∧ k ≠ 55 ∧ k ≠ 56) : ∀ (v : fw_V), (mf_Mo_beat_0_j5 v) 0 0 k = v 0 0 k := by
  intro v
  unfold mf_Mo_beat_0_j5
  (try dsimp only)
  all_goals ((repeat' split) <;> (first | with_reducible rfl | (simp only [msend_0k (i := 0) (k := k) (by omega) (by omega) (by omega), mz_Mo_beat_0_j6 hc, mz_Mo_beat_0_j34 hc]; done)))
theorem mz_Mo_beat_0_j4 {k : Nat} (hc : k ≠ 10 ∧ k ≠ 50 ∧ k ≠ 51 ∧ k ≠ 55 ∧ k ≠ 56) : ∀ (v : fw_V), (mf_Mo_beat_0_j4 v) 0 0 k = v 0 0 k := by
  intro v
  unfold mf_Mo_beat_0_j4
  (try dsimp only)
  all_goals ((repeat' split) <;> (first | with_reducible rfl | (simp only [fw_up_ne (c := 9) (i := 0) (k := 0) (c' := 0) (i' := 0) (k' := k) (by omega), msend_0k (i := 0) (k := k) (by omega) (by omega) (by omega), mz_Mo_beat_0_j5 hc]; done)))
theorem mz_Mo_beat_0_j3 {k : Nat} (hc : k ≠ 10 ∧ k ≠ 50 ∧ k ≠ 51 ∧ k ≠ 55 ∧ k ≠ 56) : ∀ (v : fw_V), (mf_Mo_beat_0_j3 v) 0 0 k = v 0 0 k := by
  intro v
  unfold mf_Mo_beat_0_j3
  (try dsimp only)
  all_goals ((repeat' split) <;> (first | with_reducible rfl | (simp only [msend_0k (i := 0) (k := k) (by omega) (by omega) (by omega), mz_Mo_beat_0_j4 hc]; done)))
theorem mz_Mo_beat_0_j2 {k : Nat} (hc : k ≠ 10 ∧ k ≠ 50 ∧ k ≠ 51 ∧ k ≠ 55 ∧ k ≠ 56) : ∀ (v : fw_V), (mf_Mo_beat_0_j2 v) 0 0 k = v 0 0 k := by
  intro v
  unfold mf_Mo_beat_0_j2
  (try dsimp only)
  all_goals ((repeat' split) <;> (first | with_reducible rfl | (simp only [msend_0k (i := 0) (k := k) (by omega) (by omega) (by omega), mz_Mo_beat_0_j3 hc]; done)))
theorem mz_Mo_beat_0_j37 {k : Nat} (hc : k ≠ 10 ∧ k ≠ 50 ∧ k ≠ 51 ∧ k ≠ 55 ∧ k ≠ 56) : ∀ (v : fw_V) (x90 : Int32), (mf_Mo_beat_0_j37 v x90) 0 0 k = v 0 0 k := by
  intro v x90
  unfold mf_Mo_beat_0_j37
  (try dsimp only)
  all_goals ((repeat' split) <;> (first | with_reducible rfl | (simp only [fw_up_ne (c := 9) (i := 0) (k := 0) (c' := 0) (i' := 0) (k' := k) (by omega), msend_0k (i := 0) (k := k) (by omega) (by omega) (by omega), mz_Mo_beat_0_j5 hc]; done)))
theorem mz_Mo_beat_0_j36 {k : Nat} (hc : k ≠ 10 ∧ k ≠ 50 ∧ k ≠ 51 ∧ k ≠ 55 ∧ k ≠ 56) : ∀ (v : fw_V), (mf_Mo_beat_0_j36 v) 0 0 k = v 0 0 k := by
  intro v
  unfold mf_Mo_beat_0_j36
  (try dsimp only)
  all_goals ((repeat' split) <;> (first | with_reducible rfl | (simp only [msend_0k (i := 0) (k := k) (by omega) (by omega) (by omega), mz_Mo_beat_0_j37 hc]; done)))
theorem mz_Mo_beat_0_j1 {k : Nat} (hc : k ≠ 10 ∧ k ≠ 50 ∧ k ≠ 51 ∧ k ≠ 55 ∧ k ≠ 56) : ∀ (v : fw_V), (mf_Mo_beat_0_j1 v) 0 0 k = v 0 0 k := by
  intro v
  unfold mf_Mo_beat_0_j1
  (try dsimp only)
  all_goals ((repeat' split) <;> (first | with_reducible rfl | (simp only [msend_0k (i := 0) (k := k) (by omega) (by omega) (by omega), mz_Mo_beat_0_j2 hc, mz_Mo_beat_0_j36 hc]; done)))
theorem mz_Mo_beat_0 {k : Nat} (hc : k ≠ 10 ∧ k ≠ 50 ∧ k ≠ 51 ∧ k ≠ 55 ∧ k ≠ 56) : ∀ (v0 : fw_V), (mf_Mo_beat_0 v0) 0 0 k = v0 0 0 k := by
  intro v0
  unfold mf_Mo_beat_0
  (try dsimp only)
  all_goals ((repeat' split) <;> (first | with_reducible rfl | (simp only [fw_up_ne (c := 18) (i := 0) (k := 0) (c' := 0) (i' := 0) (k' := k) (by omega), fw_up_ne (c := 0) (i := 0) (k := 56) (c' := 0) (i' := 0) (k' := k) (by omega), fw_up_ne (c := 19) (i := 0) (k := 0) (c' := 0) (i' := 0) (k' := k) (by omega), msend_0k (i := 0) (k := k) (by omega) (by omega) (by omega), mz_Mo_breakOff_0 hc, mz_Mo_beat_0_j1 hc, mz_Mo_ask_0 hc]; done)))
theorem mz_Mo_mark_0_j2 {k : Nat} (hc : k ≠ 10 ∧ k ≠ 50 ∧ k ≠ 51 ∧ k ≠ 55 ∧ k ≠ 56) : ∀ (v0 : fw_V) (a2 : Int32), (mf_Mo_mark_0_j2 v0 a2) 0 0 k = v0 0 0 k := by
  intro v0 a2
  unfold mf_Mo_mark_0_j2
  (try dsimp only)
  all_goals ((repeat' split) <;> (first | with_reducible rfl | (simp only [fw_up_ne (c := 31) (i := 0) (k := 0) (c' := 0) (i' := 0) (k' := k) (by omega), msend_0k (i := 0) (k := k) (by omega) (by omega) (by omega)]; done)))
theorem mz_Mo_mark_0_j1 {k : Nat} (hc : k ≠ 10 ∧ k ≠ 50 ∧ k ≠ 51 ∧ k ≠ 55 ∧ k ≠ 56) : ∀ (v0 : fw_V) (a2 : Int32), (mf_Mo_mark_0_j1 v0 a2) 0 0 k = v0 0 0 k := by
  intro v0 a2
  unfold mf_Mo_mark_0_j1
  (try dsimp only)
  all_goals ((repeat' split) <;> (first | with_reducible rfl | (simp only [msend_0k (i := 0) (k := k) (by omega) (by omega) (by omega), mz_Mo_mark_0_j2 hc]; done)))
theorem mz_Mo_mark_0_j3 {k : Nat} (hc : k ≠ 10 ∧ k ≠ 50 ∧ k ≠ 51 ∧ k ≠ 55 ∧ k ≠ 56) : ∀ (v0 : fw_V) (a2 : Int32), (mf_Mo_mark_0_j3 v0 a2) 0 0 k = v0 0 0 k := by
  intro v0 a2
  unfold mf_Mo_mark_0_j3
  (try dsimp only)
  all_goals ((repeat' split) <;> (first | with_reducible rfl | (simp only [fw_up_ne (c := 31) (i := 0) (k := 0) (c' := 0) (i' := 0) (k' := k) (by omega), msend_0k (i := 0) (k := k) (by omega) (by omega) (by omega)]; done)))
theorem mz_Mo_mark_0 {k : Nat} (hc : k ≠ 10 ∧ k ≠ 50 ∧ k ≠ 51 ∧ k ≠ 55 ∧ k ≠ 56) : ∀ (v0 : fw_V) (a2 : Int32), (mf_Mo_mark_0 v0 a2) 0 0 k = v0 0 0 k := by
  intro v0 a2
  unfold mf_Mo_mark_0
  (try dsimp only)
  all_goals ((repeat' split) <;> (first | with_reducible rfl | (simp only [msend_0k (i := 0) (k := k) (by omega) (by omega) (by omega), mz_Mo_mark_0_j1 hc, mz_Mo_mark_0_j3 hc]; done)))
theorem mz_Mo_replace_0_j8 {k : Nat} (hc : k ≠ 10 ∧ k ≠ 50 ∧ k ≠ 51 ∧ k ≠ 55 ∧ k ≠ 56) : ∀ (v : fw_V) (a2 : Int32) (x4 : Int32), (mf_Mo_replace_0_j8 v a2 x4) 0 0 k = v 0 0 k := by
  intro v a2 x4
  unfold mf_Mo_replace_0_j8
  (try dsimp only)
  all_goals ((repeat' split) <;> (first | with_reducible rfl | (simp only [msend_0k (i := 0) (k := k) (by omega) (by omega) (by omega)]; done)))
theorem mz_Mo_replace_0_j7 {k : Nat} (hc : k ≠ 10 ∧ k ≠ 50 ∧ k ≠ 51 ∧ k ≠ 55 ∧ k ≠ 56) : ∀ (v : fw_V) (a2 : Int32) (x4 : Int32), (mf_Mo_replace_0_j7 v a2 x4) 0 0 k = v 0 0 k := by
  intro v a2 x4
  unfold mf_Mo_replace_0_j7
  (try dsimp only)
  all_goals ((repeat' split) <;> (first | with_reducible rfl | (simp only [msend_0k (i := 0) (k := k) (by omega) (by omega) (by omega), mz_Mo_replace_0_j8 hc]; done)))
theorem mz_Mo_replace_0_j6 {k : Nat} (hc : k ≠ 10 ∧ k ≠ 50 ∧ k ≠ 51 ∧ k ≠ 55 ∧ k ≠ 56) : ∀ (v : fw_V) (a2 : Int32) (x4 : Int32), (mf_Mo_replace_0_j6 v a2 x4) 0 0 k = v 0 0 k := by
  intro v a2 x4
  unfold mf_Mo_replace_0_j6
  (try dsimp only)
  all_goals ((repeat' split) <;> (first | with_reducible rfl | (simp only [fw_up_c (c := 46) (c' := 0) (by decide), msend_0k (i := 0) (k := k) (by omega) (by omega) (by omega), mz_Mo_replace_0_j7 hc]; done)))
theorem mz_Mo_replace_0_j5 {k : Nat} (hc : k ≠ 10 ∧ k ≠ 50 ∧ k ≠ 51 ∧ k ≠ 55 ∧ k ≠ 56) : ∀ (v : fw_V) (a2 : Int32) (x4 : Int32), (mf_Mo_replace_0_j5 v a2 x4) 0 0 k = v 0 0 k := by
  intro v a2 x4
  unfold mf_Mo_replace_0_j5
  (try dsimp only)
  all_goals ((repeat' split) <;> (first | with_reducible rfl | (simp only [fw_up_c (c := 46) (c' := 0) (by decide), msend_0k (i := 0) (k := k) (by omega) (by omega) (by omega), mz_Mo_replace_0_j6 hc, mz_Mo_replace_0_j7 hc]; done)))
theorem mz_Mo_replace_0_j4 {k : Nat} (hc : k ≠ 10 ∧ k ≠ 50 ∧ k ≠ 51 ∧ k ≠ 55 ∧ k ≠ 56) : ∀ (v : fw_V) (a2 : Int32) (x4 : Int32), (mf_Mo_replace_0_j4 v a2 x4) 0 0 k = v 0 0 k := by
  intro v a2 x4
  unfold mf_Mo_replace_0_j4
  (try dsimp only)
  all_goals ((repeat' split) <;> (first | with_reducible rfl | (simp only [msend_0k (i := 0) (k := k) (by omega) (by omega) (by omega), mz_Mo_replace_0_j5 hc]; done)))
theorem mz_Mo_replace_0_j3 {k : Nat} (hc : k ≠ 10 ∧ k ≠ 50 ∧ k ≠ 51 ∧ k ≠ 55 ∧ k ≠ 56) : ∀ (v0 : fw_V) (a2 : Int32), (mf_Mo_replace_0_j3 v0 a2) 0 0 k = v0 0 0 k := by
  intro v0 a2
  unfold mf_Mo_replace_0_j3
  (try dsimp only)
  all_goals ((repeat' split) <;> (first | with_reducible rfl | (simp only [fw_up_c (c := 46) (c' := 0) (by decide), msend_0k (i := 0) (k := k) (by omega) (by omega) (by omega), mz_Mo_replace_0_j4 hc]; done)))
theorem mz_Mo_replace_0_j11 {k : Nat} (hc : k ≠ 10 ∧ k ≠ 50 ∧ k ≠ 51 ∧ k ≠ 55 ∧ k ≠ 56) : ∀ (v0 : fw_V) (a2 : Int32), (mf_Mo_replace_0_j11 v0 a2) 0 0 k = v0 0 0 k := by
  intro v0 a2
  unfold mf_Mo_replace_0_j11
  (try dsimp only)
  all_goals ((repeat' split) <;> (first | with_reducible rfl | (simp only [fw_up_c (c := 46) (c' := 0) (by decide), msend_0k (i := 0) (k := k) (by omega) (by omega) (by omega), mz_Mo_replace_0_j7 hc]; done)))
theorem mz_Mo_replace_0_j13 {k : Nat} (hc : k ≠ 10 ∧ k ≠ 50 ∧ k ≠ 51 ∧ k ≠ 55 ∧ k ≠ 56) : ∀ (v0 : fw_V) (a2 : Int32), (mf_Mo_replace_0_j13 v0 a2) 0 0 k = v0 0 0 k := by
  intro v0 a2
  unfold mf_Mo_replace_0_j13
  (try dsimp only)
  all_goals ((repeat' split) <;> (first | with_reducible rfl | (simp only [msend_0k (i := 0) (k := k) (by omega) (by omega) (by omega)]; done)))
theorem mz_Mo_replace_0_j12 {k : Nat} (hc : k ≠ 10 ∧ k ≠ 50 ∧ k ≠ 51 ∧ k ≠ 55 ∧ k ≠ 56) : ∀ (v0 : fw_V) (a2 : Int32), (mf_Mo_replace_0_j12 v0 a2) 0 0 k = v0 0 0 k := by
  intro v0 a2
  unfold mf_Mo_replace_0_j12
  (try dsimp only)
  all_goals ((repeat' split) <;> (first | with_reducible rfl | (simp only [msend_0k (i := 0) (k := k) (by omega) (by omega) (by omega), mz_Mo_replace_0_j13 hc]; done)))
theorem mz_Mo_replace_0_j10 {k : Nat} (hc : k ≠ 10 ∧ k ≠ 50 ∧ k ≠ 51 ∧ k ≠ 55 ∧ k ≠ 56) : ∀ (v0 : fw_V) (a2 : Int32), (mf_Mo_replace_0_j10 v0 a2) 0 0 k = v0 0 0 k := by
  intro v0 a2
  unfold mf_Mo_replace_0_j10
  (try dsimp only)
  all_goals ((repeat' split) <;> (first | with_reducible rfl | (simp only [fw_up_c (c := 46) (c' := 0) (by decide), msend_0k (i := 0) (k := k) (by omega) (by omega) (by omega), mz_Mo_replace_0_j11 hc, mz_Mo_replace_0_j7 hc, mz_Mo_replace_0_j12 hc]; done)))
theorem mz_Mo_replace_0_j9 {k : Nat} (hc : k ≠ 10 ∧ k ≠ 50 ∧ k ≠ 51 ∧ k ≠ 55 ∧ k ≠ 56) : ∀ (v0 : fw_V) (a2 : Int32), (mf_Mo_replace_0_j9 v0 a2) 0 0 k = v0 0 0 k := by
  intro v0 a2
  unfold mf_Mo_replace_0_j9
  (try dsimp only)
  all_goals ((repeat' split) <;> (first | with_reducible rfl | (simp only [msend_0k (i := 0) (k := k) (by omega) (by omega) (by omega), mz_Mo_replace_0_j10 hc]; done)))
theorem mz_Mo_replace_0_j2 {k : Nat} (hc : k ≠ 10 ∧ k ≠ 50 ∧ k ≠ 51 ∧ k ≠ 55 ∧ k ≠ 56) : ∀ (v0 : fw_V) (a2 : Int32), (mf_Mo_replace_0_j2 v0 a2) 0 0 k = v0 0 0 k := by
  intro v0 a2
  unfold mf_Mo_replace_0_j2
  (try dsimp only)
  all_goals ((repeat' split) <;> (first | with_reducible rfl | (simp only [fw_up_c (c := 46) (c' := 0) (by decide), msend_0k (i := 0) (k := k) (by omega) (by omega) (by omega), mz_Mo_replace_0_j3 hc, mz_Mo_replace_0_j4 hc, mz_Mo_replace_0_j9 hc]; done)))
theorem mz_Mo_replace_0_j1 {k : Nat} (hc : k ≠ 10 ∧ k ≠ 50 ∧ k ≠ 51 ∧ k ≠ 55 ∧ k ≠ 56) : ∀ (v0 : fw_V) (a2 : Int32), (mf_Mo_replace_0_j1 v0 a2) 0 0 k = v0 0 0 k := by
  intro v0 a2
  unfold mf_Mo_replace_0_j1
  (try dsimp only)
  all_goals ((repeat' split) <;> (first | with_reducible rfl | (simp only [msend_0k (i := 0) (k := k) (by omega) (by omega) (by omega), mz_Mo_replace_0_j2 hc]; done)))
theorem mz_Mo_replace_0_j21 {k : Nat} (hc : k ≠ 10 ∧ k ≠ 50 ∧ k ≠ 51 ∧ k ≠ 55 ∧ k ≠ 56) : ∀ (v : fw_V) (a2 : Int32), (mf_Mo_replace_0_j21 v a2) 0 0 k = v 0 0 k := by
  intro v a2
  unfold mf_Mo_replace_0_j21
  (try dsimp only)
  all_goals ((repeat' split) <;> (first | with_reducible rfl | (simp only [msend_0k (i := 0) (k := k) (by omega) (by omega) (by omega)]; done)))
theorem mz_Mo_replace_0_j20 {k : Nat} (hc : k ≠ 10 ∧ k ≠ 50 ∧ k ≠ 51 ∧ k ≠ 55 ∧ k ≠ 56) : ∀ (v : fw_V) (a2 : Int32), (mf_Mo_replace_0_j20 v a2) 0 0 k = v 0 0 k := by
  intro v a2
  unfold mf_Mo_replace_0_j20
  (try dsimp only)
  all_goals ((repeat' split) <;> (first | with_reducible rfl | (simp only [msend_0k (i := 0) (k := k) (by omega) (by omega) (by omega), mz_Mo_replace_0_j21 hc]; done)))
theorem mz_Mo_replace_0_j19 {k : Nat} (hc : k ≠ 10 ∧ k ≠ 50 ∧ k ≠ 51 ∧ k ≠ 55 ∧ k ≠ 56) : ∀ (v : fw_V) (a2 : Int32), (mf_Mo_replace_0_j19 v a2) 0 0 k = v 0 0 k := by
  intro v a2
  unfold mf_Mo_replace_0_j19
  (try dsimp only)
  all_goals ((repeat' split) <;> (first | with_reducible rfl | (simp only [fw_up_c (c := 46) (c' := 0) (by decide), msend_0k (i := 0) (k := k) (by omega) (by omega) (by omega), mz_Mo_replace_0_j20 hc]; done)))
theorem mz_Mo_replace_0_j18 {k : Nat} (hc : k ≠ 10 ∧ k ≠ 50 ∧ k ≠ 51 ∧ k ≠ 55 ∧ k ≠ 56) : ∀ (v : fw_V) (a2 : Int32), (mf_Mo_replace_0_j18 v a2) 0 0 k = v 0 0 k := by
  intro v a2
  unfold mf_Mo_replace_0_j18
  (try dsimp only)
  all_goals ((repeat' split) <;> (first | with_reducible rfl | (simp only [msend_0k (i := 0) (k := k) (by omega) (by omega) (by omega), mz_Mo_replace_0_j19 hc]; done)))
theorem mz_Mo_replace_0_j17 {k : Nat} (hc : k ≠ 10 ∧ k ≠ 50 ∧ k ≠ 51 ∧ k ≠ 55 ∧ k ≠ 56) : ∀ (v : fw_V) (a2 : Int32), (mf_Mo_replace_0_j17 v a2) 0 0 k = v 0 0 k := by
  intro v a2
  unfold mf_Mo_replace_0_j17
  (try dsimp only)
  all_goals ((repeat' split) <;> (first | with_reducible rfl | (simp only [msend_0k (i := 0) (k := k) (by omega) (by omega) (by omega), mz_Mo_replace_0_j18 hc]; done)))
theorem mz_Mo_replace_0_j16 {k : Nat} (hc : k ≠ 10 ∧ k ≠ 50 ∧ k ≠ 51 ∧ k ≠ 55 ∧ k ≠ 56) : ∀ (v0 : fw_V) (a2 : Int32), (mf_Mo_replace_0_j16 v0 a2) 0 0 k = v0 0 0 k := by
  intro v0 a2
  unfold mf_Mo_replace_0_j16
  (try dsimp only)
  all_goals ((repeat' split) <;> (first | with_reducible rfl | (simp only [fw_up_c (c := 46) (c' := 0) (by decide), msend_0k (i := 0) (k := k) (by omega) (by omega) (by omega), mz_Mo_replace_0_j17 hc]; done)))
theorem mz_Mo_replace_0_j15 {k : Nat} (hc : k ≠ 10 ∧ k ≠ 50 ∧ k ≠ 51 ∧ k ≠ 55 ∧ k ≠ 56) : ∀ (v0 : fw_V) (a2 : Int32), (mf_Mo_replace_0_j15 v0 a2) 0 0 k = v0 0 0 k := by
  intro v0 a2
  unfold mf_Mo_replace_0_j15
  (try dsimp only)
  all_goals ((repeat' split) <;> (first | with_reducible rfl | (simp only [msend_0k (i := 0) (k := k) (by omega) (by omega) (by omega), mz_Mo_replace_0_j16 hc]; done)))
theorem mz_Mo_replace_0_j14 {k : Nat} (hc : k ≠ 10 ∧ k ≠ 50 ∧ k ≠ 51 ∧ k ≠ 55 ∧ k ≠ 56) : ∀ (v0 : fw_V) (a2 : Int32), (mf_Mo_replace_0_j14 v0 a2) 0 0 k = v0 0 0 k := by
  intro v0 a2
  unfold mf_Mo_replace_0_j14
  (try dsimp only)
  all_goals ((repeat' split) <;> (first | with_reducible rfl | (simp only [msend_0k (i := 0) (k := k) (by omega) (by omega) (by omega), mz_Mo_replace_0_j15 hc]; done)))
theorem mz_Mo_replace_0 {k : Nat} (hc : k ≠ 10 ∧ k ≠ 50 ∧ k ≠ 51 ∧ k ≠ 55 ∧ k ≠ 56) : ∀ (v0 : fw_V) (a2 : Int32), (mf_Mo_replace_0 v0 a2) 0 0 k = v0 0 0 k := by
  intro v0 a2
  unfold mf_Mo_replace_0
  (try dsimp only)
  all_goals ((repeat' split) <;> (first | with_reducible rfl | (simp only [msend_0k (i := 0) (k := k) (by omega) (by omega) (by omega), mz_Mo_replace_0_j1 hc, mz_Mo_replace_0_j14 hc]; done)))
theorem mz_Mo_reply_0 {k : Nat} (hc : k ≠ 10 ∧ k ≠ 50 ∧ k ≠ 51 ∧ k ≠ 55 ∧ k ≠ 56) : ∀ (v0 : fw_V) (a2 : Int32) (a3 : Int32), (mf_Mo_reply_0 v0 a2 a3) 0 0 k = v0 0 0 k := by
  intro v0 a2 a3
  unfold mf_Mo_reply_0
  (try dsimp only)
  all_goals ((repeat' split) <;> (first | with_reducible rfl | (simp only [msend_0k (i := 0) (k := k) (by omega) (by omega) (by omega)]; done)))
theorem mz_Mo_connect_0_j1 {k : Nat} (hc : k ≠ 10 ∧ k ≠ 50 ∧ k ≠ 51 ∧ k ≠ 55 ∧ k ≠ 56) : ∀ (v0 : fw_V) (a2 : Int32), (mf_Mo_connect_0_j1 v0 a2) 0 0 k = v0 0 0 k := by
  intro v0 a2
  unfold mf_Mo_connect_0_j1
  (try dsimp only)
  all_goals ((repeat' split) <;> (first | with_reducible rfl | (simp only [fw_up_ne (c := 28) (i := 0) (k := 0) (c' := 0) (i' := 0) (k' := k) (by omega), fw_up_ne (c := 29) (i := 0) (k := 0) (c' := 0) (i' := 0) (k' := k) (by omega), fw_up_ne (c := 32) (i := 0) (k := 0) (c' := 0) (i' := 0) (k' := k) (by omega), fw_up_ne (c := 43) (i := 0) (k := 0) (c' := 0) (i' := 0) (k' := k) (by omega), fw_up_ne (c := 44) (i := 0) (k := 0) (c' := 0) (i' := 0) (k' := k) (by omega), fw_up_ne (c := 43) (i := 0) (k := 1) (c' := 0) (i' := 0) (k' := k) (by omega), fw_up_ne (c := 44) (i := 0) (k := 1) (c' := 0) (i' := 0) (k' := k) (by omega), fw_up_ne (c := 43) (i := 0) (k := 2) (c' := 0) (i' := 0) (k' := k) (by omega), fw_up_ne (c := 44) (i := 0) (k := 2) (c' := 0) (i' := 0) (k' := k) (by omega), msend_0k (i := 0) (k := k) (by omega) (by omega) (by omega), mz_Mo_mark_0 hc, mz_Mo_reply_0 hc]; done)))
theorem mz_Mo_connect_0 {k : Nat} (hc : k ≠ 10 ∧ k ≠ 50 ∧ k ≠ 51 ∧ k ≠ 55 ∧ k ≠ 56) : ∀ (v0 : fw_V) (a2 : Int32), (mf_Mo_connect_0 v0 a2) 0 0 k = v0 0 0 k := by
  intro v0 a2
  unfold mf_Mo_connect_0
  (try dsimp only)
  all_goals ((repeat' split) <;> (first | with_reducible rfl | (simp only [msend_0k (i := 0) (k := k) (by omega) (by omega) (by omega), mz_Mo_connect_0_j1 hc]; done)))
theorem mz_Mo_obeys_0_j44 {k : Nat} (hc : k ≠ 10 ∧ k ≠ 50 ∧ k ≠ 51 ∧ k ≠ 55 ∧ k ≠ 56) : ∀ (v0 : fw_V) (a2 : Int32) (a3 : Int32), (mf_Mo_obeys_0_j44 v0 a2 a3) 0 0 k = v0 0 0 k := by
  intro v0 a2 a3
  unfold mf_Mo_obeys_0_j44
  (try dsimp only)
  all_goals ((repeat' split) <;> (first | with_reducible rfl | (simp only [fw_up_ne (c := 28) (i := 0) (k := 0) (c' := 0) (i' := 0) (k' := k) (by omega), fw_up_ne (c := 32) (i := 0) (k := 0) (c' := 0) (i' := 0) (k' := k) (by omega), fw_up_ne (c := 33) (i := 0) (k := 0) (c' := 0) (i' := 0) (k' := k) (by omega), msend_0k (i := 0) (k := k) (by omega) (by omega) (by omega), mz_Mo_reply_0 hc]; done)))
theorem mz_Mo_obeys_0_j43 {k : Nat} (hc : k ≠ 10 ∧ k ≠ 50 ∧ k ≠ 51 ∧ k ≠ 55 ∧ k ≠ 56) : ∀ (v0 : fw_V) (a2 : Int32) (a3 : Int32), (mf_Mo_obeys_0_j43 v0 a2 a3) 0 0 k = v0 0 0 k := by
  intro v0 a2 a3
  unfold mf_Mo_obeys_0_j43
  (try dsimp only)
  all_goals ((repeat' split) <;> (first | with_reducible rfl | (simp only [msend_0k (i := 0) (k := k) (by omega) (by omega) (by omega), mz_Mo_obeys_0_j44 hc]; done)))
theorem mz_Mo_obeys_0_j42 {k : Nat} (hc : k ≠ 10 ∧ k ≠ 50 ∧ k ≠ 51 ∧ k ≠ 55 ∧ k ≠ 56) : ∀ (v0 : fw_V) (a2 : Int32) (a3 : Int32), (mf_Mo_obeys_0_j42 v0 a2 a3) 0 0 k = v0 0 0 k := by
  intro v0 a2 a3
  unfold mf_Mo_obeys_0_j42
  (try dsimp only)
  all_goals ((repeat' split) <;> (first | with_reducible rfl | (simp only [msend_0k (i := 0) (k := k) (by omega) (by omega) (by omega), mz_Mo_obeys_0_j43 hc]; done)))
theorem mz_Mo_rest_0_j7 {k : Nat} (hc : k ≠ 10 ∧ k ≠ 50 ∧ k ≠ 51 ∧ k ≠ 55 ∧ k ≠ 56) : ∀ (v : fw_V), (mf_Mo_rest_0_j7 v) 0 0 k = v 0 0 k := by
  intro v
  unfold mf_Mo_rest_0_j7
  (try dsimp only)
  all_goals ((repeat' split) <;> (first | with_reducible rfl | (simp only [msend_0k (i := 0) (k := k) (by omega) (by omega) (by omega)]; done)))
theorem mz_Mo_rest_0_j6 {k : Nat} (hc : k ≠ 10 ∧ k ≠ 50 ∧ k ≠ 51 ∧ k ≠ 55 ∧ k ≠ 56) : ∀ (v : fw_V), (mf_Mo_rest_0_j6 v) 0 0 k = v 0 0 k := by
  intro v
  unfold mf_Mo_rest_0_j6
  (try dsimp only)
  all_goals ((repeat' split) <;> (first | with_reducible rfl | (simp only [msend_0k (i := 0) (k := k) (by omega) (by omega) (by omega), mz_Mo_replace_0 hc, mz_Mo_rest_0_j7 hc]; done)))
theorem mz_Mo_rest_0_j5 {k : Nat} (hc : k ≠ 10 ∧ k ≠ 50 ∧ k ≠ 51 ∧ k ≠ 55 ∧ k ≠ 56) : ∀ (v : fw_V), (mf_Mo_rest_0_j5 v) 0 0 k = v 0 0 k := by
  intro v
  unfold mf_Mo_rest_0_j5
  (try dsimp only)
  all_goals ((repeat' split) <;> (first | with_reducible rfl | (simp only [msend_0k (i := 0) (k := k) (by omega) (by omega) (by omega), mz_Mo_replace_0 hc, mz_Mo_rest_0_j6 hc]; done)))
theorem mz_Mo_rest_0_j4 {k : Nat} (hc : k ≠ 10 ∧ k ≠ 50 ∧ k ≠ 51 ∧ k ≠ 55 ∧ k ≠ 56) : ∀ (v : fw_V), (mf_Mo_rest_0_j4 v) 0 0 k = v 0 0 k := by
  intro v
  unfold mf_Mo_rest_0_j4
  (try dsimp only)
  all_goals ((repeat' split) <;> (first | with_reducible rfl | (simp only [msend_0k (i := 0) (k := k) (by omega) (by omega) (by omega), mz_Mo_replace_0 hc, mz_Mo_rest_0_j5 hc]; done)))
theorem mz_Mo_rest_0_j3 {k : Nat} (hc : k ≠ 10 ∧ k ≠ 50 ∧ k ≠ 51 ∧ k ≠ 55 ∧ k ≠ 56) : ∀ (v0 : fw_V), (mf_Mo_rest_0_j3 v0) 0 0 k = v0 0 0 k := by
  intro v0
  unfold mf_Mo_rest_0_j3
  (try dsimp only)
  all_goals ((repeat' split) <;> (first | with_reducible rfl | (simp only [fw_up_ne (c := 28) (i := 0) (k := 0) (c' := 0) (i' := 0) (k' := k) (by omega), fw_up_ne (c := 29) (i := 0) (k := 0) (c' := 0) (i' := 0) (k' := k) (by omega), fw_up_ne (c := 31) (i := 0) (k := 0) (c' := 0) (i' := 0) (k' := k) (by omega), fw_up_ne (c := 32) (i := 0) (k := 0) (c' := 0) (i' := 0) (k' := k) (by omega), fw_up_ne (c := 37) (i := 0) (k := 0) (c' := 0) (i' := 0) (k' := k) (by omega), fw_up_ne (c := 36) (i := 0) (k := 0) (c' := 0) (i' := 0) (k' := k) (by omega), fw_up_ne (c := 43) (i := 0) (k := 0) (c' := 0) (i' := 0) (k' := k) (by omega), fw_up_ne (c := 44) (i := 0) (k := 0) (c' := 0) (i' := 0) (k' := k) (by omega), fw_up_ne (c := 43) (i := 0) (k := 1) (c' := 0) (i' := 0) (k' := k) (by omega), fw_up_ne (c := 44) (i := 0) (k := 1) (c' := 0) (i' := 0) (k' := k) (by omega), fw_up_ne (c := 43) (i := 0) (k := 2) (c' := 0) (i' := 0) (k' := k) (by omega), fw_up_ne (c := 44) (i := 0) (k := 2) (c' := 0) (i' := 0) (k' := k) (by omega), msend_0k (i := 0) (k := k) (by omega) (by omega) (by omega), mz_Mo_rest_0_j4 hc]; done)))
theorem mz_Mo_rest_0_j2 {k : Nat} (hc : k ≠ 10 ∧ k ≠ 50 ∧ k ≠ 51 ∧ k ≠ 55 ∧ k ≠ 56) : ∀ (v : fw_V), (mf_Mo_rest_0_j2 v) 0 0 k = v 0 0 k := by
  intro v
  unfold mf_Mo_rest_0_j2
  (try dsimp only)
  all_goals ((repeat' split) <;> (first | with_reducible rfl | (simp only [msend_0k (i := 0) (k := k) (by omega) (by omega) (by omega)]; done)))
theorem mz_Mo_rest_0_j1 {k : Nat} (hc : k ≠ 10 ∧ k ≠ 50 ∧ k ≠ 51 ∧ k ≠ 55 ∧ k ≠ 56) : ∀ (v0 : fw_V), (mf_Mo_rest_0_j1 v0) 0 0 k = v0 0 0 k := by
  intro v0
  unfold mf_Mo_rest_0_j1
  (try dsimp only)
  all_goals ((repeat' split) <;> (first | with_reducible rfl | (simp only [fw_up_ne (c := 28) (i := 0) (k := 0) (c' := 0) (i' := 0) (k' := k) (by omega), fw_up_ne (c := 29) (i := 0) (k := 0) (c' := 0) (i' := 0) (k' := k) (by omega), fw_up_ne (c := 31) (i := 0) (k := 0) (c' := 0) (i' := 0) (k' := k) (by omega), fw_up_ne (c := 32) (i := 0) (k := 0) (c' := 0) (i' := 0) (k' := k) (by omega), fw_up_ne (c := 37) (i := 0) (k := 0) (c' := 0) (i' := 0) (k' := k) (by omega), fw_up_ne (c := 36) (i := 0) (k := 0) (c' := 0) (i' := 0) (k' := k) (by omega), fw_up_ne (c := 43) (i := 0) (k := 0) (c' := 0) (i' := 0) (k' := k) (by omega), fw_up_ne (c := 44) (i := 0) (k := 0) (c' := 0) (i' := 0) (k' := k) (by omega), fw_up_ne (c := 43) (i := 0) (k := 1) (c' := 0) (i' := 0) (k' := k) (by omega), fw_up_ne (c := 44) (i := 0) (k := 1) (c' := 0) (i' := 0) (k' := k) (by omega), fw_up_ne (c := 43) (i := 0) (k := 2) (c' := 0) (i' := 0) (k' := k) (by omega), fw_up_ne (c := 44) (i := 0) (k := 2) (c' := 0) (i' := 0) (k' := k) (by omega), msend_0k (i := 0) (k := k) (by omega) (by omega) (by omega), mz_Mo_rest_0_j2 hc]; done)))
theorem mz_Mo_rest_0 {k : Nat} (hc : k ≠ 10 ∧ k ≠ 50 ∧ k ≠ 51 ∧ k ≠ 55 ∧ k ≠ 56) : ∀ (v0 : fw_V), (mf_Mo_rest_0 v0) 0 0 k = v0 0 0 k := by
  intro v0
  unfold mf_Mo_rest_0
  (try dsimp only)
  all_goals ((repeat' split) <;> (first | with_reducible rfl | (simp only [msend_0k (i := 0) (k := k) (by omega) (by omega) (by omega), mz_Mo_rest_0_j3 hc, mz_Mo_rest_0_j1 hc]; done)))
theorem mz_Mo_quit_0 {k : Nat} (hc : k ≠ 10 ∧ k ≠ 50 ∧ k ≠ 51 ∧ k ≠ 55 ∧ k ≠ 56) : ∀ (v0 : fw_V), (mf_Mo_quit_0 v0) 0 0 k = v0 0 0 k := by
  intro v0
  unfold mf_Mo_quit_0
  (try dsimp only)
  all_goals ((repeat' split) <;> (first | with_reducible rfl | (simp only [msend_0k (i := 0) (k := k) (by omega) (by omega) (by omega), mz_Mo_reply_0 hc, mz_Mo_rest_0 hc]; done)))
theorem mz_Mo_obeys_0_j46 {k : Nat} (hc : k ≠ 10 ∧ k ≠ 50 ∧ k ≠ 51 ∧ k ≠ 55 ∧ k ≠ 56) : ∀ (v0 : fw_V) (a2 : Int32) (a3 : Int32), (mf_Mo_obeys_0_j46 v0 a2 a3) 0 0 k = v0 0 0 k := by
  intro v0 a2 a3
  unfold mf_Mo_obeys_0_j46
  (try dsimp only)
  all_goals ((repeat' split) <;> (first | with_reducible rfl | (simp only [msend_0k (i := 0) (k := k) (by omega) (by omega) (by omega), mz_Mo_quit_0 hc]; done)))
theorem mz_Mo_obeys_0_j45 {k : Nat} (hc : k ≠ 10 ∧ k ≠ 50 ∧ k ≠ 51 ∧ k ≠ 55 ∧ k ≠ 56) : ∀ (v0 : fw_V) (a2 : Int32) (a3 : Int32), (mf_Mo_obeys_0_j45 v0 a2 a3) 0 0 k = v0 0 0 k := by
  intro v0 a2 a3
  unfold mf_Mo_obeys_0_j45
  (try dsimp only)
  all_goals ((repeat' split) <;> (first | with_reducible rfl | (simp only [msend_0k (i := 0) (k := k) (by omega) (by omega) (by omega), mz_Mo_obeys_0_j46 hc]; done)))
theorem mz_Mo_obeys_0_j41 {k : Nat} (hc : k ≠ 10 ∧ k ≠ 50 ∧ k ≠ 51 ∧ k ≠ 55 ∧ k ≠ 56) : ∀ (v0 : fw_V) (a2 : Int32) (a3 : Int32), (mf_Mo_obeys_0_j41 v0 a2 a3) 0 0 k = v0 0 0 k := by
  intro v0 a2 a3
  unfold mf_Mo_obeys_0_j41
  (try dsimp only)
  all_goals ((repeat' split) <;> (first | with_reducible rfl | (simp only [msend_0k (i := 0) (k := k) (by omega) (by omega) (by omega), mz_Mo_obeys_0_j42 hc, mz_Mo_obeys_0_j45 hc]; done)))
theorem mz_Mo_obeys_0_j40 {k : Nat} (hc : k ≠ 10 ∧ k ≠ 50 ∧ k ≠ 51 ∧ k ≠ 55 ∧ k ≠ 56) : ∀ (v0 : fw_V) (a2 : Int32) (a3 : Int32), (mf_Mo_obeys_0_j40 v0 a2 a3) 0 0 k = v0 0 0 k := by
  intro v0 a2 a3
  unfold mf_Mo_obeys_0_j40
  (try dsimp only)
  all_goals ((repeat' split) <;> (first | with_reducible rfl | (simp only [msend_0k (i := 0) (k := k) (by omega) (by omega) (by omega), mz_Mo_obeys_0_j41 hc]; done)))
theorem mz_Mo_obeys_0_j39 {k : Nat} (hc : k ≠ 10 ∧ k ≠ 50 ∧ k ≠ 51 ∧ k ≠ 55 ∧ k ≠ 56) : ∀ (v0 : fw_V) (a2 : Int32) (a3 : Int32), (mf_Mo_obeys_0_j39 v0 a2 a3) 0 0 k = v0 0 0 k := by
  intro v0 a2 a3
  unfold mf_Mo_obeys_0_j39
  (try dsimp only)
  all_goals ((repeat' split) <;> (first | with_reducible rfl | (simp only [msend_0k (i := 0) (k := k) (by omega) (by omega) (by omega), mz_Mo_obeys_0_j40 hc]; done)))
theorem mz_Mo_obeys_0_j50 {k : Nat} (hc : k ≠ 10 ∧ k ≠ 50 ∧ k ≠ 51 ∧ k ≠ 55 ∧ k ≠ 56) : ∀ (v0 : fw_V) (a2 : Int32) (a3 : Int32), (mf_Mo_obeys_0_j50 v0 a2 a3) 0 0 k = v0 0 0 k := by
  intro v0 a2 a3
  unfold mf_Mo_obeys_0_j50
  (try dsimp only)
  all_goals ((repeat' split) <;> (first | with_reducible rfl | (simp only [msend_0k (i := 0) (k := k) (by omega) (by omega) (by omega), mz_Mo_obeys_0_j46 hc]; done)))
theorem mz_Mo_obeys_0_j49 {k : Nat} (hc : k ≠ 10 ∧ k ≠ 50 ∧ k ≠ 51 ∧ k ≠ 55 ∧ k ≠ 56) : ∀ (v0 : fw_V) (a2 : Int32) (a3 : Int32), (mf_Mo_obeys_0_j49 v0 a2 a3) 0 0 k = v0 0 0 k := by
  intro v0 a2 a3
  unfold mf_Mo_obeys_0_j49
  (try dsimp only)
  all_goals ((repeat' split) <;> (first | with_reducible rfl | (simp only [msend_0k (i := 0) (k := k) (by omega) (by omega) (by omega), mz_Mo_obeys_0_j50 hc]; done)))
theorem mz_Mo_obeys_0_j51 {k : Nat} (hc : k ≠ 10 ∧ k ≠ 50 ∧ k ≠ 51 ∧ k ≠ 55 ∧ k ≠ 56) : ∀ (v0 : fw_V) (a2 : Int32) (a3 : Int32), (mf_Mo_obeys_0_j51 v0 a2 a3) 0 0 k = v0 0 0 k := by
  intro v0 a2 a3
  unfold mf_Mo_obeys_0_j51
  (try dsimp only)
  all_goals ((repeat' split) <;> (first | with_reducible rfl | (simp only [msend_0k (i := 0) (k := k) (by omega) (by omega) (by omega), mz_Mo_obeys_0_j46 hc]; done)))
theorem mz_Mo_obeys_0_j48 {k : Nat} (hc : k ≠ 10 ∧ k ≠ 50 ∧ k ≠ 51 ∧ k ≠ 55 ∧ k ≠ 56) : ∀ (v0 : fw_V) (a2 : Int32) (a3 : Int32), (mf_Mo_obeys_0_j48 v0 a2 a3) 0 0 k = v0 0 0 k := by
  intro v0 a2 a3
  unfold mf_Mo_obeys_0_j48
  (try dsimp only)
  all_goals ((repeat' split) <;> (first | with_reducible rfl | (simp only [msend_0k (i := 0) (k := k) (by omega) (by omega) (by omega), mz_Mo_obeys_0_j49 hc, mz_Mo_obeys_0_j51 hc]; done)))
theorem mz_Mo_obeys_0_j47 {k : Nat} (hc : k ≠ 10 ∧ k ≠ 50 ∧ k ≠ 51 ∧ k ≠ 55 ∧ k ≠ 56) : ∀ (v0 : fw_V) (a2 : Int32) (a3 : Int32), (mf_Mo_obeys_0_j47 v0 a2 a3) 0 0 k = v0 0 0 k := by
  intro v0 a2 a3
  unfold mf_Mo_obeys_0_j47
  (try dsimp only)
  all_goals ((repeat' split) <;> (first | with_reducible rfl | (simp only [msend_0k (i := 0) (k := k) (by omega) (by omega) (by omega), mz_Mo_obeys_0_j48 hc]; done)))
theorem mz_Mo_obeys_0_j38 {k : Nat} (hc : k ≠ 10 ∧ k ≠ 50 ∧ k ≠ 51 ∧ k ≠ 55 ∧ k ≠ 56) : ∀ (v0 : fw_V) (a2 : Int32) (a3 : Int32), (mf_Mo_obeys_0_j38 v0 a2 a3) 0 0 k = v0 0 0 k := by
  intro v0 a2 a3
  unfold mf_Mo_obeys_0_j38
  (try dsimp only)
  all_goals ((repeat' split) <;> (first | with_reducible rfl | (simp only [msend_0k (i := 0) (k := k) (by omega) (by omega) (by omega), mz_Mo_obeys_0_j39 hc, mz_Mo_obeys_0_j47 hc]; done)))
theorem mz_Mo_obeys_0_j37 {k : Nat} (hc : k ≠ 10 ∧ k ≠ 50 ∧ k ≠ 51 ∧ k ≠ 55 ∧ k ≠ 56) : ∀ (v0 : fw_V) (a2 : Int32) (a3 : Int32), (mf_Mo_obeys_0_j37 v0 a2 a3) 0 0 k = v0 0 0 k := by
  intro v0 a2 a3
  unfold mf_Mo_obeys_0_j37
  (try dsimp only)
  all_goals ((repeat' split) <;> (first | with_reducible rfl | (simp only [msend_0k (i := 0) (k := k) (by omega) (by omega) (by omega), mz_Mo_obeys_0_j38 hc]; done)))
theorem mz_Mo_obeys_0_j36 {k : Nat} (hc : k ≠ 10 ∧ k ≠ 50 ∧ k ≠ 51 ∧ k ≠ 55 ∧ k ≠ 56) : ∀ (v0 : fw_V) (a2 : Int32) (a3 : Int32), (mf_Mo_obeys_0_j36 v0 a2 a3) 0 0 k = v0 0 0 k := by
  intro v0 a2 a3
  unfold mf_Mo_obeys_0_j36
  (try dsimp only)
  all_goals ((repeat' split) <;> (first | with_reducible rfl | (simp only [msend_0k (i := 0) (k := k) (by omega) (by omega) (by omega), mz_Mo_obeys_0_j37 hc]; done)))
theorem mz_Mo_obeys_0_j55 {k : Nat} (hc : k ≠ 10 ∧ k ≠ 50 ∧ k ≠ 51 ∧ k ≠ 55 ∧ k ≠ 56) : ∀ (v0 : fw_V) (a2 : Int32) (a3 : Int32), (mf_Mo_obeys_0_j55 v0 a2 a3) 0 0 k = v0 0 0 k := by
  intro v0 a2 a3
  unfold mf_Mo_obeys_0_j55
  (try dsimp only)
  all_goals ((repeat' split) <;> (first | with_reducible rfl | (simp only [msend_0k (i := 0) (k := k) (by omega) (by omega) (by omega), mz_Mo_obeys_0_j48 hc]; done)))
theorem mz_Mo_obeys_0_j54 {k : Nat} (hc : k ≠ 10 ∧ k ≠ 50 ∧ k ≠ 51 ∧ k ≠ 55 ∧ k ≠ 56) : ∀ (v0 : fw_V) (a2 : Int32) (a3 : Int32), (mf_Mo_obeys_0_j54 v0 a2 a3) 0 0 k = v0 0 0 k := by
  intro v0 a2 a3
  unfold mf_Mo_obeys_0_j54
  (try dsimp only)
  all_goals ((repeat' split) <;> (first | with_reducible rfl | (simp only [msend_0k (i := 0) (k := k) (by omega) (by omega) (by omega), mz_Mo_obeys_0_j55 hc]; done)))
theorem mz_Mo_obeys_0_j56 {k : Nat} (hc : k ≠ 10 ∧ k ≠ 50 ∧ k ≠ 51 ∧ k ≠ 55 ∧ k ≠ 56) : ∀ (v0 : fw_V) (a2 : Int32) (a3 : Int32), (mf_Mo_obeys_0_j56 v0 a2 a3) 0 0 k = v0 0 0 k := by
  intro v0 a2 a3
  unfold mf_Mo_obeys_0_j56
  (try dsimp only)
  all_goals ((repeat' split) <;> (first | with_reducible rfl | (simp only [msend_0k (i := 0) (k := k) (by omega) (by omega) (by omega), mz_Mo_obeys_0_j48 hc]; done)))
theorem mz_Mo_obeys_0_j53 {k : Nat} (hc : k ≠ 10 ∧ k ≠ 50 ∧ k ≠ 51 ∧ k ≠ 55 ∧ k ≠ 56) : ∀ (v0 : fw_V) (a2 : Int32) (a3 : Int32), (mf_Mo_obeys_0_j53 v0 a2 a3) 0 0 k = v0 0 0 k := by
  intro v0 a2 a3
  unfold mf_Mo_obeys_0_j53
  (try dsimp only)
  all_goals ((repeat' split) <;> (first | with_reducible rfl | (simp only [msend_0k (i := 0) (k := k) (by omega) (by omega) (by omega), mz_Mo_obeys_0_j54 hc, mz_Mo_obeys_0_j56 hc]; done)))
theorem mz_Mo_obeys_0_j52 {k : Nat} (hc : k ≠ 10 ∧ k ≠ 50 ∧ k ≠ 51 ∧ k ≠ 55 ∧ k ≠ 56) : ∀ (v0 : fw_V) (a2 : Int32) (a3 : Int32), (mf_Mo_obeys_0_j52 v0 a2 a3) 0 0 k = v0 0 0 k := by
  intro v0 a2 a3
  unfold mf_Mo_obeys_0_j52
  (try dsimp only)
  all_goals ((repeat' split) <;> (first | with_reducible rfl | (simp only [msend_0k (i := 0) (k := k) (by omega) (by omega) (by omega), mz_Mo_obeys_0_j53 hc]; done)))
theorem mz_Mo_obeys_0_j35 {k : Nat} (hc : k ≠ 10 ∧ k ≠ 50 ∧ k ≠ 51 ∧ k ≠ 55 ∧ k ≠ 56) : ∀ (v0 : fw_V) (a2 : Int32) (a3 : Int32), (mf_Mo_obeys_0_j35 v0 a2 a3) 0 0 k = v0 0 0 k := by
  intro v0 a2 a3
  unfold mf_Mo_obeys_0_j35
  (try dsimp only)
  all_goals ((repeat' split) <;> (first | with_reducible rfl | (simp only [msend_0k (i := 0) (k := k) (by omega) (by omega) (by omega), mz_Mo_obeys_0_j36 hc, mz_Mo_obeys_0_j52 hc]; done)))
theorem mz_Mo_obeys_0_j9 {k : Nat} (hc : k ≠ 10 ∧ k ≠ 50 ∧ k ≠ 51 ∧ k ≠ 55 ∧ k ≠ 56) : ∀ (v : fw_V) (a2 : Int32) (a3 : Int32), (mf_Mo_obeys_0_j9 v a2 a3) 0 0 k = v 0 0 k := by
  intro v a2 a3
  unfold mf_Mo_obeys_0_j9
  (try dsimp only)
  all_goals ((repeat' split) <;> (first | with_reducible rfl | (simp only [msend_0k (i := 0) (k := k) (by omega) (by omega) (by omega)]; done)))
theorem mz_Mo_obeys_0_j8 {k : Nat} (hc : k ≠ 10 ∧ k ≠ 50 ∧ k ≠ 51 ∧ k ≠ 55 ∧ k ≠ 56) : ∀ (v : fw_V) (a2 : Int32) (a3 : Int32), (mf_Mo_obeys_0_j8 v a2 a3) 0 0 k = v 0 0 k := by
  intro v a2 a3
  unfold mf_Mo_obeys_0_j8
  (try dsimp only)
  all_goals ((repeat' split) <;> (first | with_reducible rfl | (simp only [fw_up_ne (c := 47) (i := 0) (k := 2) (c' := 0) (i' := 0) (k' := k) (by omega), fw_up_ne (c := 48) (i := 0) (k := 2) (c' := 0) (i' := 0) (k' := k) (by omega), msend_0k (i := 0) (k := k) (by omega) (by omega) (by omega), mz_Mo_obeys_0_j9 hc]; done)))
theorem mz_Mo_obeys_0_j7 {k : Nat} (hc : k ≠ 10 ∧ k ≠ 50 ∧ k ≠ 51 ∧ k ≠ 55 ∧ k ≠ 56) : ∀ (v : fw_V) (a2 : Int32) (a3 : Int32), (mf_Mo_obeys_0_j7 v a2 a3) 0 0 k = v 0 0 k := by
  intro v a2 a3
  unfold mf_Mo_obeys_0_j7
  (try dsimp only)
  all_goals ((repeat' split) <;> (first | with_reducible rfl | (simp only [fw_up_ne (c := 47) (i := 0) (k := 1) (c' := 0) (i' := 0) (k' := k) (by omega), fw_up_ne (c := 48) (i := 0) (k := 1) (c' := 0) (i' := 0) (k' := k) (by omega), msend_0k (i := 0) (k := k) (by omega) (by omega) (by omega), mz_Mo_obeys_0_j8 hc]; done)))
theorem mz_Mo_obeys_0_j6 {k : Nat} (hc : k ≠ 10 ∧ k ≠ 50 ∧ k ≠ 51 ∧ k ≠ 55 ∧ k ≠ 56) : ∀ (v : fw_V) (a2 : Int32) (a3 : Int32), (mf_Mo_obeys_0_j6 v a2 a3) 0 0 k = v 0 0 k := by
  intro v a2 a3
  unfold mf_Mo_obeys_0_j6
  (try dsimp only)
  all_goals ((repeat' split) <;> (first | with_reducible rfl | (simp only [fw_up_ne (c := 47) (i := 0) (k := 0) (c' := 0) (i' := 0) (k' := k) (by omega), fw_up_ne (c := 48) (i := 0) (k := 0) (c' := 0) (i' := 0) (k' := k) (by omega), msend_0k (i := 0) (k := k) (by omega) (by omega) (by omega), mz_Mo_obeys_0_j7 hc]; done)))
theorem mz_Mo_obeys_0_j61 {k : Nat} (hc : k ≠ 10 ∧ k ≠ 50 ∧ k ≠ 51 ∧ k ≠ 55 ∧ k ≠ 56) : ∀ (v0 : fw_V) (a2 : Int32) (a3 : Int32), (mf_Mo_obeys_0_j61 v0 a2 a3) 0 0 k = v0 0 0 k := by
  intro v0 a2 a3
  unfold mf_Mo_obeys_0_j61
  (try dsimp only)
  all_goals ((repeat' split) <;> (first | with_reducible rfl | (simp only [fw_up_ne (c := 36) (i := 0) (k := 0) (c' := 0) (i' := 0) (k' := k) (by omega), fw_up_ne (c := 37) (i := 0) (k := 0) (c' := 0) (i' := 0) (k' := k) (by omega), msend_0k (i := 0) (k := k) (by omega) (by omega) (by omega), mz_Mo_rest_0 hc, mz_Mo_obeys_0_j6 hc]; done)))
theorem mz_Mo_obeys_0_j22 {k : Nat} (hc : k ≠ 10 ∧ k ≠ 50 ∧ k ≠ 51 ∧ k ≠ 55 ∧ k ≠ 56) : ∀ (v : fw_V) (a2 : Int32) (a3 : Int32), (mf_Mo_obeys_0_j22 v a2 a3) 0 0 k = v 0 0 k := by
  intro v a2 a3
  unfold mf_Mo_obeys_0_j22
  (try dsimp only)
  all_goals ((repeat' split) <;> (first | with_reducible rfl | (simp only [msend_0k (i := 0) (k := k) (by omega) (by omega) (by omega)]; done)))
theorem mz_Mo_obeys_0_j21 {k : Nat} (hc : k ≠ 10 ∧ k ≠ 50 ∧ k ≠ 51 ∧ k ≠ 55 ∧ k ≠ 56) : ∀ (v : fw_V) (a2 : Int32) (a3 : Int32), (mf_Mo_obeys_0_j21 v a2 a3) 0 0 k = v 0 0 k := by
  intro v a2 a3
  unfold mf_Mo_obeys_0_j21
  (try dsimp only)
  all_goals ((repeat' split) <;> (first | with_reducible rfl | (simp only [msend_0k (i := 0) (k := k) (by omega) (by omega) (by omega), mz_Mo_obeys_0_j22 hc]; done)))
theorem mz_Mo_obeys_0_j23 {k : Nat} (hc : k ≠ 10 ∧ k ≠ 50 ∧ k ≠ 51 ∧ k ≠ 55 ∧ k ≠ 56) : ∀ (v : fw_V) (a2 : Int32) (a3 : Int32), (mf_Mo_obeys_0_j23 v a2 a3) 0 0 k = v 0 0 k := by
  intro v a2 a3
  unfold mf_Mo_obeys_0_j23
  (try dsimp only)
  all_goals ((repeat' split) <;> (first | with_reducible rfl | (simp only [fw_up_ne (c := 46) (i := 0) (k := 5) (c' := 0) (i' := 0) (k' := k) (by omega), msend_0k (i := 0) (k := k) (by omega) (by omega) (by omega), mz_Mo_obeys_0_j21 hc]; done)))
theorem mz_Mo_obeys_0_j24 {k : Nat} (hc : k ≠ 10 ∧ k ≠ 50 ∧ k ≠ 51 ∧ k ≠ 55 ∧ k ≠ 56) : ∀ (v : fw_V) (a2 : Int32) (a3 : Int32) (x90 : Int32), (mf_Mo_obeys_0_j24 v a2 a3 x90) 0 0 k = v 0 0 k := by
  intro v a2 a3 x90
  unfold mf_Mo_obeys_0_j24
  (try dsimp only)
  all_goals ((repeat' split) <;> (first | with_reducible rfl | (simp only [fw_up_ne (c := 46) (i := 0) (k := 5) (c' := 0) (i' := 0) (k' := k) (by omega), msend_0k (i := 0) (k := k) (by omega) (by omega) (by omega), mz_Mo_obeys_0_j21 hc]; done)))
theorem mz_Mo_obeys_0_j20 {k : Nat} (hc : k ≠ 10 ∧ k ≠ 50 ∧ k ≠ 51 ∧ k ≠ 55 ∧ k ≠ 56) : ∀ (v : fw_V) (a2 : Int32) (a3 : Int32), (mf_Mo_obeys_0_j20 v a2 a3) 0 0 k = v 0 0 k := by
  intro v a2 a3
  unfold mf_Mo_obeys_0_j20
  (try dsimp only)
  all_goals ((repeat' split) <;> (first | with_reducible rfl | (simp only [msend_0k (i := 0) (k := k) (by omega) (by omega) (by omega), mz_Mo_obeys_0_j21 hc, mz_Mo_obeys_0_j23 hc, mz_Mo_obeys_0_j24 hc]; done)))
theorem mz_Mo_obeys_0_j19 {k : Nat} (hc : k ≠ 10 ∧ k ≠ 50 ∧ k ≠ 51 ∧ k ≠ 55 ∧ k ≠ 56) : ∀ (v : fw_V) (a2 : Int32) (a3 : Int32), (mf_Mo_obeys_0_j19 v a2 a3) 0 0 k = v 0 0 k := by
  intro v a2 a3
  unfold mf_Mo_obeys_0_j19
  (try dsimp only)
  all_goals ((repeat' split) <;> (first | with_reducible rfl | (simp only [msend_0k (i := 0) (k := k) (by omega) (by omega) (by omega), mz_Mo_obeys_0_j20 hc]; done)))
theorem mz_Mo_obeys_0_j25 {k : Nat} (hc : k ≠ 10 ∧ k ≠ 50 ∧ k ≠ 51 ∧ k ≠ 55 ∧ k ≠ 56) : ∀ (v : fw_V) (a2 : Int32) (a3 : Int32), (mf_Mo_obeys_0_j25 v a2 a3) 0 0 k = v 0 0 k := by
  intro v a2 a3
  unfold mf_Mo_obeys_0_j25
  (try dsimp only)
  all_goals ((repeat' split) <;> (first | with_reducible rfl | (simp only [fw_up_ne (c := 46) (i := 0) (k := 4) (c' := 0) (i' := 0) (k' := k) (by omega), msend_0k (i := 0) (k := k) (by omega) (by omega) (by omega), mz_Mo_obeys_0_j19 hc]; done)))
theorem mz_Mo_obeys_0_j26 {k : Nat} (hc : k ≠ 10 ∧ k ≠ 50 ∧ k ≠ 51 ∧ k ≠ 55 ∧ k ≠ 56) : ∀ (v : fw_V) (a2 : Int32) (a3 : Int32) (x90 : Int32), (mf_Mo_obeys_0_j26 v a2 a3 x90) 0 0 k = v 0 0 k := by
  intro v a2 a3 x90
  unfold mf_Mo_obeys_0_j26
  (try dsimp only)
  all_goals ((repeat' split) <;> (first | with_reducible rfl | (simp only [fw_up_ne (c := 46) (i := 0) (k := 4) (c' := 0) (i' := 0) (k' := k) (by omega), msend_0k (i := 0) (k := k) (by omega) (by omega) (by omega), mz_Mo_obeys_0_j19 hc]; done)))
theorem mz_Mo_obeys_0_j18 {k : Nat} (hc : k ≠ 10 ∧ k ≠ 50 ∧ k ≠ 51 ∧ k ≠ 55 ∧ k ≠ 56) : ∀ (v : fw_V) (a2 : Int32) (a3 : Int32), (mf_Mo_obeys_0_j18 v a2 a3) 0 0 k = v 0 0 k := by
  intro v a2 a3
  unfold mf_Mo_obeys_0_j18
  (try dsimp only)
  all_goals ((repeat' split) <;> (first | with_reducible rfl | (simp only [msend_0k (i := 0) (k := k) (by omega) (by omega) (by omega), mz_Mo_obeys_0_j19 hc, mz_Mo_obeys_0_j25 hc, mz_Mo_obeys_0_j26 hc]; done)))
theorem mz_Mo_obeys_0_j17 {k : Nat} (hc : k ≠ 10 ∧ k ≠ 50 ∧ k ≠ 51 ∧ k ≠ 55 ∧ k ≠ 56) : ∀ (v : fw_V) (a2 : Int32) (a3 : Int32), (mf_Mo_obeys_0_j17 v a2 a3) 0 0 k = v 0 0 k := by
  intro v a2 a3
  unfold mf_Mo_obeys_0_j17
  (try dsimp only)
  all_goals ((repeat' split) <;> (first | with_reducible rfl | (simp only [msend_0k (i := 0) (k := k) (by omega) (by omega) (by omega), mz_Mo_obeys_0_j18 hc]; done)))
theorem mz_Mo_obeys_0_j27 {k : Nat} (hc : k ≠ 10 ∧ k ≠ 50 ∧ k ≠ 51 ∧ k ≠ 55 ∧ k ≠ 56) : ∀ (v : fw_V) (a2 : Int32) (a3 : Int32), (mf_Mo_obeys_0_j27 v a2 a3) 0 0 k = v 0 0 k := by
  intro v a2 a3
  unfold mf_Mo_obeys_0_j27
  (try dsimp only)
  all_goals ((repeat' split) <;> (first | with_reducible rfl | (simp only [fw_up_ne (c := 46) (i := 0) (k := 3) (c' := 0) (i' := 0) (k' := k) (by omega), msend_0k (i := 0) (k := k) (by omega) (by omega) (by omega), mz_Mo_obeys_0_j17 hc]; done)))
theorem mz_Mo_obeys_0_j28 {k : Nat} (hc : k ≠ 10 ∧ k ≠ 50 ∧ k ≠ 51 ∧ k ≠ 55 ∧ k ≠ 56) : ∀ (v : fw_V) (a2 : Int32) (a3 : Int32) (x90 : Int32), (mf_Mo_obeys_0_j28 v a2 a3 x90) 0 0 k = v 0 0 k := by
  intro v a2 a3 x90
  unfold mf_Mo_obeys_0_j28
  (try dsimp only)
  all_goals ((repeat' split) <;> (first | with_reducible rfl | (simp only [fw_up_ne (c := 46) (i := 0) (k := 3) (c' := 0) (i' := 0) (k' := k) (by omega), msend_0k (i := 0) (k := k) (by omega) (by omega) (by omega), mz_Mo_obeys_0_j17 hc]; done)))
theorem mz_Mo_obeys_0_j16 {k : Nat} (hc : k ≠ 10 ∧ k ≠ 50 ∧ k ≠ 51 ∧ k ≠ 55 ∧ k ≠ 56) : ∀ (v : fw_V) (a2 : Int32) (a3 : Int32), (mf_Mo_obeys_0_j16 v a2 a3) 0 0 k = v 0 0 k := by
  intro v a2 a3
  unfold mf_Mo_obeys_0_j16
  (try dsimp only)
  all_goals ((repeat' split) <;> (first | with_reducible rfl | (simp only [msend_0k (i := 0) (k := k) (by omega) (by omega) (by omega), mz_Mo_obeys_0_j17 hc, mz_Mo_obeys_0_j27 hc, mz_Mo_obeys_0_j28 hc]; done)))
theorem mz_Mo_obeys_0_j15 {k : Nat} (hc : k ≠ 10 ∧ k ≠ 50 ∧ k ≠ 51 ∧ k ≠ 55 ∧ k ≠ 56) : ∀ (v : fw_V) (a2 : Int32) (a3 : Int32), (mf_Mo_obeys_0_j15 v a2 a3) 0 0 k = v 0 0 k := by
  intro v a2 a3
  unfold mf_Mo_obeys_0_j15
  (try dsimp only)
  all_goals ((repeat' split) <;> (first | with_reducible rfl | (simp only [msend_0k (i := 0) (k := k) (by omega) (by omega) (by omega), mz_Mo_obeys_0_j16 hc]; done)))
theorem mz_Mo_obeys_0_j29 {k : Nat} (hc : k ≠ 10 ∧ k ≠ 50 ∧ k ≠ 51 ∧ k ≠ 55 ∧ k ≠ 56) : ∀ (v : fw_V) (a2 : Int32) (a3 : Int32), (mf_Mo_obeys_0_j29 v a2 a3) 0 0 k = v 0 0 k := by
  intro v a2 a3
  unfold mf_Mo_obeys_0_j29
  (try dsimp only)
  all_goals ((repeat' split) <;> (first | with_reducible rfl | (simp only [fw_up_ne (c := 46) (i := 0) (k := 2) (c' := 0) (i' := 0) (k' := k) (by omega), msend_0k (i := 0) (k := k) (by omega) (by omega) (by omega), mz_Mo_obeys_0_j15 hc]; done)))
theorem mz_Mo_obeys_0_j30 {k : Nat} (hc : k ≠ 10 ∧ k ≠ 50 ∧ k ≠ 51 ∧ k ≠ 55 ∧ k ≠ 56) : ∀ (v : fw_V) (a2 : Int32) (a3 : Int32) (x90 : Int32), (mf_Mo_obeys_0_j30 v a2 a3 x90) 0 0 k = v 0 0 k := by
  intro v a2 a3 x90
  unfold mf_Mo_obeys_0_j30
  (try dsimp only)
  all_goals ((repeat' split) <;> (first | with_reducible rfl | (simp only [fw_up_ne (c := 46) (i := 0) (k := 2) (c' := 0) (i' := 0) (k' := k) (by omega), msend_0k (i := 0) (k := k) (by omega) (by omega) (by omega), mz_Mo_obeys_0_j15 hc]; done)))
theorem mz_Mo_obeys_0_j14 {k : Nat} (hc : k ≠ 10 ∧ k ≠ 50 ∧ k ≠ 51 ∧ k ≠ 55 ∧ k ≠ 56) : ∀ (v : fw_V) (a2 : Int32) (a3 : Int32), (mf_Mo_obeys_0_j14 v a2 a3) 0 0 k = v 0 0 k := by
  intro v a2 a3
  unfold mf_Mo_obeys_0_j14
  (try dsimp only)
  all_goals ((repeat' split) <;> (first | with_reducible rfl | (simp only [msend_0k (i := 0) (k := k) (by omega) (by omega) (by omega), mz_Mo_obeys_0_j15 hc, mz_Mo_obeys_0_j29 hc, mz_Mo_obeys_0_j30 hc]; done)))
theorem mz_Mo_obeys_0_j13 {k : Nat} (hc : k ≠ 10 ∧ k ≠ 50 ∧ k ≠ 51 ∧ k ≠ 55 ∧ k ≠ 56) : ∀ (v : fw_V) (a2 : Int32) (a3 : Int32), (mf_Mo_obeys_0_j13 v a2 a3) 0 0 k = v 0 0 k := by
  intro v a2 a3
  unfold mf_Mo_obeys_0_j13
  (try dsimp only)
  all_goals ((repeat' split) <;> (first | with_reducible rfl | (simp only [msend_0k (i := 0) (k := k) (by omega) (by omega) (by omega), mz_Mo_obeys_0_j14 hc]; done)))
theorem mz_Mo_obeys_0_j31 {k : Nat} (hc : k ≠ 10 ∧ k ≠ 50 ∧ k ≠ 51 ∧ k ≠ 55 ∧ k ≠ 56) : ∀ (v : fw_V) (a2 : Int32) (a3 : Int32), (mf_Mo_obeys_0_j31 v a2 a3) 0 0 k = v 0 0 k := by
  intro v a2 a3
  unfold mf_Mo_obeys_0_j31
  (try dsimp only)
  all_goals ((repeat' split) <;> (first | with_reducible rfl | (simp only [fw_up_ne (c := 46) (i := 0) (k := 1) (c' := 0) (i' := 0) (k' := k) (by omega), msend_0k (i := 0) (k := k) (by omega) (by omega) (by omega), mz_Mo_obeys_0_j13 hc]; done)))
theorem mz_Mo_obeys_0_j32 {k : Nat} (hc : k ≠ 10 ∧ k ≠ 50 ∧ k ≠ 51 ∧ k ≠ 55 ∧ k ≠ 56) : ∀ (v : fw_V) (a2 : Int32) (a3 : Int32) (x90 : Int32), (mf_Mo_obeys_0_j32 v a2 a3 x90) 0 0 k = v 0 0 k := by
  intro v a2 a3 x90
  unfold mf_Mo_obeys_0_j32
  (try dsimp only)
  all_goals ((repeat' split) <;> (first | with_reducible rfl | (simp only [fw_up_ne (c := 46) (i := 0) (k := 1) (c' := 0) (i' := 0) (k' := k) (by omega), msend_0k (i := 0) (k := k) (by omega) (by omega) (by omega), mz_Mo_obeys_0_j13 hc]; done)))
theorem mz_Mo_obeys_0_j12 {k : Nat} (hc : k ≠ 10 ∧ k ≠ 50 ∧ k ≠ 51 ∧ k ≠ 55 ∧ k ≠ 56) : ∀ (v : fw_V) (a2 : Int32) (a3 : Int32), (mf_Mo_obeys_0_j12 v a2 a3) 0 0 k = v 0 0 k := by
  intro v a2 a3
  unfold mf_Mo_obeys_0_j12
  (try dsimp only)
  all_goals ((repeat' split) <;> (first | with_reducible rfl | (simp only [msend_0k (i := 0) (k := k) (by omega) (by omega) (by omega), mz_Mo_obeys_0_j13 hc, mz_Mo_obeys_0_j31 hc, mz_Mo_obeys_0_j32 hc]; done)))
theorem mz_Mo_obeys_0_j11 {k : Nat} (hc : k ≠ 10 ∧ k ≠ 50 ∧ k ≠ 51 ∧ k ≠ 55 ∧ k ≠ 56) : ∀ (v : fw_V) (a2 : Int32) (a3 : Int32), (mf_Mo_obeys_0_j11 v a2 a3) 0 0 k = v 0 0 k := by
  intro v a2 a3
  unfold mf_Mo_obeys_0_j11
  (try dsimp only)
  all_goals ((repeat' split) <;> (first | with_reducible rfl | (simp only [msend_0k (i := 0) (k := k) (by omega) (by omega) (by omega), mz_Mo_obeys_0_j12 hc]; done)))
theorem mz_Mo_obeys_0_j33 {k : Nat} (hc : k ≠ 10 ∧ k ≠ 50 ∧ k ≠ 51 ∧ k ≠ 55 ∧ k ≠ 56) : ∀ (v : fw_V) (a2 : Int32) (a3 : Int32), (mf_Mo_obeys_0_j33 v a2 a3) 0 0 k = v 0 0 k := by
  intro v a2 a3
  unfold mf_Mo_obeys_0_j33
  (try dsimp only)
  all_goals ((repeat' split) <;> (first | with_reducible rfl | (simp only [fw_up_ne (c := 46) (i := 0) (k := 0) (c' := 0) (i' := 0) (k' := k) (by omega), msend_0k (i := 0) (k := k) (by omega) (by omega) (by omega), mz_Mo_obeys_0_j11 hc]; done)))
theorem mz_Mo_obeys_0_j34 {k : Nat} (hc : k ≠ 10 ∧ k ≠ 50 ∧ k ≠ 51 ∧ k ≠ 55 ∧ k ≠ 56) : ∀ (v : fw_V) (a2 : Int32) (a3 : Int32) (x90 : Int32), (mf_Mo_obeys_0_j34 v a2 a3 x90) 0 0 k = v 0 0 k := by
  intro v a2 a3 x90
  unfold mf_Mo_obeys_0_j34
  (try dsimp only)
  all_goals ((repeat' split) <;> (first | with_reducible rfl | (simp only [fw_up_ne (c := 46) (i := 0) (k := 0) (c' := 0) (i' := 0) (k' := k) (by omega), msend_0k (i := 0) (k := k) (by omega) (by omega) (by omega), mz_Mo_obeys_0_j11 hc]; done)))
theorem mz_Mo_obeys_0_j10 {k : Nat} (hc : k ≠ 10 ∧ k ≠ 50 ∧ k ≠ 51 ∧ k ≠ 55 ∧ k ≠ 56) : ∀ (v : fw_V) (a2 : Int32) (a3 : Int32), (mf_Mo_obeys_0_j10 v a2 a3) 0 0 k = v 0 0 k := by
  intro v a2 a3
  unfold mf_Mo_obeys_0_j10
  (try dsimp only)
  all_goals ((repeat' split) <;> (first | with_reducible rfl | (simp only [msend_0k (i := 0) (k := k) (by omega) (by omega) (by omega), mz_Mo_obeys_0_j11 hc, mz_Mo_obeys_0_j33 hc, mz_Mo_obeys_0_j34 hc]; done)))
theorem mz_Mo_obeys_0_j60 {k : Nat} (hc : k ≠ 10 ∧ k ≠ 50 ∧ k ≠ 51 ∧ k ≠ 55 ∧ k ≠ 56) : ∀ (v0 : fw_V) (a2 : Int32) (a3 : Int32), (mf_Mo_obeys_0_j60 v0 a2 a3) 0 0 k = v0 0 0 k := by
  intro v0 a2 a3
  unfold mf_Mo_obeys_0_j60
  (try dsimp only)
  all_goals ((repeat' split) <;> (first | with_reducible rfl | (simp only [fw_up_ne (c := 35) (i := 0) (k := 0) (c' := 0) (i' := 0) (k' := k) (by omega), fw_up_ne (c := 32) (i := 0) (k := 0) (c' := 0) (i' := 0) (k' := k) (by omega), msend_0k (i := 0) (k := k) (by omega) (by omega) (by omega), mz_Mo_obeys_0_j61 hc, mz_Mo_obeys_0_j10 hc]; done)))
theorem mz_Mo_obeys_0_j59 {k : Nat} (hc : k ≠ 10 ∧ k ≠ 50 ∧ k ≠ 51 ∧ k ≠ 55 ∧ k ≠ 56) : ∀ (v0 : fw_V) (a2 : Int32) (a3 : Int32), (mf_Mo_obeys_0_j59 v0 a2 a3) 0 0 k = v0 0 0 k := by
  intro v0 a2 a3
  unfold mf_Mo_obeys_0_j59
  (try dsimp only)
  all_goals ((repeat' split) <;> (first | with_reducible rfl | (simp only [fw_up_ne (c := 28) (i := 0) (k := 0) (c' := 0) (i' := 0) (k' := k) (by omega), fw_up_ne (c := 32) (i := 0) (k := 0) (c' := 0) (i' := 0) (k' := k) (by omega), fw_up_ne (c := 34) (i := 0) (k := 0) (c' := 0) (i' := 0) (k' := k) (by omega), fw_up_ne (c := 35) (i := 0) (k := 0) (c' := 0) (i' := 0) (k' := k) (by omega), fw_up_ne (c := 37) (i := 0) (k := 0) (c' := 0) (i' := 0) (k' := k) (by omega), fw_up_ne (c := 36) (i := 0) (k := 0) (c' := 0) (i' := 0) (k' := k) (by omega), fw_up_ne (c := 39) (i := 0) (k := 0) (c' := 0) (i' := 0) (k' := k) (by omega), msend_0k (i := 0) (k := k) (by omega) (by omega) (by omega), mz_Mo_obeys_0_j60 hc]; done)))
theorem mz_Mo_obeys_0_j58 {k : Nat} (hc : k ≠ 10 ∧ k ≠ 50 ∧ k ≠ 51 ∧ k ≠ 55 ∧ k ≠ 56) : ∀ (v0 : fw_V) (a2 : Int32) (a3 : Int32), (mf_Mo_obeys_0_j58 v0 a2 a3) 0 0 k = v0 0 0 k := by
  intro v0 a2 a3
  unfold mf_Mo_obeys_0_j58
  (try dsimp only)
  all_goals ((repeat' split) <;> (first | with_reducible rfl | (simp only [msend_0k (i := 0) (k := k) (by omega) (by omega) (by omega), mz_Mo_reply_0 hc, mz_Mo_obeys_0_j59 hc]; done)))
theorem mz_Mo_obeys_0_j57 {k : Nat} (hc : k ≠ 10 ∧ k ≠ 50 ∧ k ≠ 51 ∧ k ≠ 55 ∧ k ≠ 56) : ∀ (v0 : fw_V) (a2 : Int32) (a3 : Int32), (mf_Mo_obeys_0_j57 v0 a2 a3) 0 0 k = v0 0 0 k := by
  intro v0 a2 a3
  unfold mf_Mo_obeys_0_j57
  (try dsimp only)
  all_goals ((repeat' split) <;> (first | with_reducible rfl | (simp only [msend_0k (i := 0) (k := k) (by omega) (by omega) (by omega), mz_Mo_obeys_0_j35 hc, mz_Mo_obeys_0_j58 hc]; done)))
theorem mz_Mo_obeys_0_j5 {k : Nat} (hc : k ≠ 10 ∧ k ≠ 50 ∧ k ≠ 51 ∧ k ≠ 55 ∧ k ≠ 56) : ∀ (v0 : fw_V) (a2 : Int32) (a3 : Int32), (mf_Mo_obeys_0_j5 v0 a2 a3) 0 0 k = v0 0 0 k := by
  intro v0 a2 a3
  unfold mf_Mo_obeys_0_j5
  (try dsimp only)
  all_goals ((repeat' split) <;> (first | with_reducible rfl | (simp only [fw_up_ne (c := 36) (i := 0) (k := 0) (c' := 0) (i' := 0) (k' := k) (by omega), fw_up_ne (c := 37) (i := 0) (k := 0) (c' := 0) (i' := 0) (k' := k) (by omega), msend_0k (i := 0) (k := k) (by omega) (by omega) (by omega), mz_Mo_rest_0 hc, mz_Mo_obeys_0_j6 hc]; done)))
theorem mz_Mo_obeys_0_j4 {k : Nat} (hc : k ≠ 10 ∧ k ≠ 50 ∧ k ≠ 51 ∧ k ≠ 55 ∧ k ≠ 56) : ∀ (v0 : fw_V) (a2 : Int32) (a3 : Int32), (mf_Mo_obeys_0_j4 v0 a2 a3) 0 0 k = v0 0 0 k := by
  intro v0 a2 a3
  unfold mf_Mo_obeys_0_j4
  (try dsimp only)
  all_goals ((repeat' split) <;> (first | with_reducible rfl | (simp only [fw_up_ne (c := 35) (i := 0) (k := 0) (c' := 0) (i' := 0) (k' := k) (by omega), fw_up_ne (c := 32) (i := 0) (k := 0) (c' := 0) (i' := 0) (k' := k) (by omega), msend_0k (i := 0) (k := k) (by omega) (by omega) (by omega), mz_Mo_obeys_0_j5 hc, mz_Mo_obeys_0_j10 hc]; done)))
theorem mz_Mo_obeys_0_j3 {k : Nat} (hc : k ≠ 10 ∧ k ≠ 50 ∧ k ≠ 51 ∧ k ≠ 55 ∧ k ≠ 56) : ∀ (v0 : fw_V) (a2 : Int32) (a3 : Int32), (mf_Mo_obeys_0_j3 v0 a2 a3) 0 0 k = v0 0 0 k := by
  intro v0 a2 a3
  unfold mf_Mo_obeys_0_j3
  (try dsimp only)
  all_goals ((repeat' split) <;> (first | with_reducible rfl | (simp only [fw_up_ne (c := 28) (i := 0) (k := 0) (c' := 0) (i' := 0) (k' := k) (by omega), fw_up_ne (c := 32) (i := 0) (k := 0) (c' := 0) (i' := 0) (k' := k) (by omega), fw_up_ne (c := 34) (i := 0) (k := 0) (c' := 0) (i' := 0) (k' := k) (by omega), fw_up_ne (c := 35) (i := 0) (k := 0) (c' := 0) (i' := 0) (k' := k) (by omega), fw_up_ne (c := 37) (i := 0) (k := 0) (c' := 0) (i' := 0) (k' := k) (by omega), fw_up_ne (c := 36) (i := 0) (k := 0) (c' := 0) (i' := 0) (k' := k) (by omega), fw_up_ne (c := 39) (i := 0) (k := 0) (c' := 0) (i' := 0) (k' := k) (by omega), msend_0k (i := 0) (k := k) (by omega) (by omega) (by omega), mz_Mo_obeys_0_j4 hc]; done)))
theorem mz_Mo_obeys_0_j2 {k : Nat} (hc : k ≠ 10 ∧ k ≠ 50 ∧ k ≠ 51 ∧ k ≠ 55 ∧ k ≠ 56) : ∀ (v0 : fw_V) (a2 : Int32) (a3 : Int32), (mf_Mo_obeys_0_j2 v0 a2 a3) 0 0 k = v0 0 0 k := by
  intro v0 a2 a3
  unfold mf_Mo_obeys_0_j2
  (try dsimp only)
  all_goals ((repeat' split) <;> (first | with_reducible rfl | (simp only [msend_0k (i := 0) (k := k) (by omega) (by omega) (by omega), mz_Mo_reply_0 hc, mz_Mo_obeys_0_j3 hc]; done)))
theorem mz_Mo_obeys_0_j1 {k : Nat} (hc : k ≠ 10 ∧ k ≠ 50 ∧ k ≠ 51 ∧ k ≠ 55 ∧ k ≠ 56) : ∀ (v0 : fw_V) (a2 : Int32) (a3 : Int32), (mf_Mo_obeys_0_j1 v0 a2 a3) 0 0 k = v0 0 0 k := by
  intro v0 a2 a3
  unfold mf_Mo_obeys_0_j1
  (try dsimp only)
  all_goals ((repeat' split) <;> (first | with_reducible rfl | (simp only [msend_0k (i := 0) (k := k) (by omega) (by omega) (by omega), mz_Mo_obeys_0_j35 hc, mz_Mo_obeys_0_j2 hc]; done)))
theorem mz_Mo_obeys_0 {k : Nat} (hc : k ≠ 10 ∧ k ≠ 50 ∧ k ≠ 51 ∧ k ≠ 55 ∧ k ≠ 56) : ∀ (v0 : fw_V) (a2 : Int32) (a3 : Int32), (mf_Mo_obeys_0 v0 a2 a3) 0 0 k = v0 0 0 k := by
  intro v0 a2 a3
  unfold mf_Mo_obeys_0
  (try dsimp only)
  all_goals ((repeat' split) <;> (first | with_reducible rfl | (simp only [fw_up_c (c := 44) (c' := 0) (by decide), fw_up_ne (c := 32) (i := 0) (k := 0) (c' := 0) (i' := 0) (k' := k) (by omega), msend_0k (i := 0) (k := k) (by omega) (by omega) (by omega), mz_Mo_reply_0 hc, mz_Mo_obeys_0_j57 hc, mz_Mo_obeys_0_j1 hc]; done)))
theorem mz_Mo_arrives_0 {k : Nat} (hc : k ≠ 10 ∧ k ≠ 50 ∧ k ≠ 51 ∧ k ≠ 55 ∧ k ≠ 56) : ∀ (v0 : fw_V) (a2 : Int32) (a3 : Int32) (a4 : Int32), (mf_Mo_arrives_0 v0 a2 a3 a4) 0 0 k = v0 0 0 k := by
  intro v0 a2 a3 a4
  unfold mf_Mo_arrives_0
  (try dsimp only)
  all_goals ((repeat' split) <;> (first | with_reducible rfl | (simp only [fw_up_ne (c := 9) (i := 0) (k := 0) (c' := 0) (i' := 0) (k' := k) (by omega), msend_0k (i := 0) (k := k) (by omega) (by omega) (by omega), mz_Mo_connect_0 hc, mz_Mo_obeys_0 hc]; done)))
theorem mz_Mo_alarm_0_j2 {k : Nat} (hc : k ≠ 10 ∧ k ≠ 50 ∧ k ≠ 51 ∧ k ≠ 55 ∧ k ≠ 56) : ∀ (v : fw_V), (mf_Mo_alarm_0_j2 v) 0 0 k = v 0 0 k := by
  intro v
  unfold mf_Mo_alarm_0_j2
  (try dsimp only)
  all_goals ((repeat' split) <;> (first | with_reducible rfl | (simp only [fw_up_ne (c := 38) (i := 0) (k := 0) (c' := 0) (i' := 0) (k' := k) (by omega), fw_up_ne (c := 9) (i := 0) (k := 0) (c' := 0) (i' := 0) (k' := k) (by omega), fw_up_ne (c := 9) (i := 0) (k := 1) (c' := 0) (i' := 0) (k' := k) (by omega), msend_0k (i := 0) (k := k) (by omega) (by omega) (by omega), mz_Mo_reply_0 hc]; done)))
theorem mz_Mo_alarm_0_j3 {k : Nat} (hc : k ≠ 10 ∧ k ≠ 50 ∧ k ≠ 51 ∧ k ≠ 55 ∧ k ≠ 56) : ∀ (v0 : fw_V), (mf_Mo_alarm_0_j3 v0) 0 0 k = v0 0 0 k := by
  intro v0
  unfold mf_Mo_alarm_0_j3
  (try dsimp only)
  all_goals ((repeat' split) <;> (first | with_reducible rfl | (simp only [fw_up_ne (c := 39) (i := 0) (k := 0) (c' := 0) (i' := 0) (k' := k) (by omega), fw_up_ne (c := 36) (i := 0) (k := 0) (c' := 0) (i' := 0) (k' := k) (by omega), msend_0k (i := 0) (k := k) (by omega) (by omega) (by omega), mz_Mo_alarm_0_j2 hc]; done)))
theorem mz_Mo_alarm_0_j1 {k : Nat} (hc : k ≠ 10 ∧ k ≠ 50 ∧ k ≠ 51 ∧ k ≠ 55 ∧ k ≠ 56) : ∀ (v0 : fw_V), (mf_Mo_alarm_0_j1 v0) 0 0 k = v0 0 0 k := by
  intro v0
  unfold mf_Mo_alarm_0_j1
  (try dsimp only)
  all_goals ((repeat' split) <;> (first | with_reducible rfl | (simp only [fw_up_ne (c := 39) (i := 0) (k := 0) (c' := 0) (i' := 0) (k' := k) (by omega), fw_up_ne (c := 36) (i := 0) (k := 0) (c' := 0) (i' := 0) (k' := k) (by omega), msend_0k (i := 0) (k := k) (by omega) (by omega) (by omega), mz_Mo_alarm_0_j2 hc]; done)))
theorem mz_Mo_alarm_0 {k : Nat} (hc : k ≠ 10 ∧ k ≠ 50 ∧ k ≠ 51 ∧ k ≠ 55 ∧ k ≠ 56) : ∀ (v0 : fw_V), (mf_Mo_alarm_0 v0) 0 0 k = v0 0 0 k := by
  intro v0
  unfold mf_Mo_alarm_0
  (try dsimp only)
  all_goals ((repeat' split) <;> (first | with_reducible rfl | (simp only [fw_up_ne (c := 38) (i := 0) (k := 0) (c' := 0) (i' := 0) (k' := k) (by omega), msend_0k (i := 0) (k := k) (by omega) (by omega) (by omega), mz_Mo_alarm_0_j3 hc, mz_Mo_alarm_0_j1 hc, mz_Mo_alarm_0_j2 hc]; done)))
theorem mz_Mo_pulse_0_j25 {k : Nat} (hc : k ≠ 10 ∧ k ≠ 50 ∧ k ≠ 51 ∧ k ≠ 55 ∧ k ≠ 56) : ∀ (v : fw_V), (mf_Mo_pulse_0_j25 v) 0 0 k = v 0 0 k := by
  intro v
  unfold mf_Mo_pulse_0_j25
  (try dsimp only)
  all_goals ((repeat' split) <;> (first | with_reducible rfl | (simp only [fw_up_ne (c := 9) (i := 0) (k := 6) (c' := 0) (i' := 0) (k' := k) (by omega), fw_up_ne (c := 34) (i := 0) (k := 0) (c' := 0) (i' := 0) (k' := k) (by omega), msend_0k (i := 0) (k := k) (by omega) (by omega) (by omega), mz_Mo_reply_0 hc]; done)))
theorem mz_Mo_pulse_0_j24 {k : Nat} (hc : k ≠ 10 ∧ k ≠ 50 ∧ k ≠ 51 ∧ k ≠ 55 ∧ k ≠ 56) : ∀ (v : fw_V), (mf_Mo_pulse_0_j24 v) 0 0 k = v 0 0 k := by
  intro v
  unfold mf_Mo_pulse_0_j24
  (try dsimp only)
  all_goals ((repeat' split) <;> (first | with_reducible rfl | (simp only [msend_0k (i := 0) (k := k) (by omega) (by omega) (by omega), mz_Mo_pulse_0_j25 hc]; done)))
theorem mz_Mo_pulse_0_j27 {k : Nat} (hc : k ≠ 10 ∧ k ≠ 50 ∧ k ≠ 51 ∧ k ≠ 55 ∧ k ≠ 56) : ∀ (v : fw_V), (mf_Mo_pulse_0_j27 v) 0 0 k = v 0 0 k := by
  intro v
  unfold mf_Mo_pulse_0_j27
  (try dsimp only)
  all_goals ((repeat' split) <;> (first | with_reducible rfl | (simp only [fw_up_ne (c := 9) (i := 0) (k := 6) (c' := 0) (i' := 0) (k' := k) (by omega), fw_up_ne (c := 34) (i := 0) (k := 0) (c' := 0) (i' := 0) (k' := k) (by omega), msend_0k (i := 0) (k := k) (by omega) (by omega) (by omega), mz_Mo_reply_0 hc]; done)))
theorem mz_Mo_pulse_0_j26 {k : Nat} (hc : k ≠ 10 ∧ k ≠ 50 ∧ k ≠ 51 ∧ k ≠ 55 ∧ k ≠ 56) : ∀ (v : fw_V), (mf_Mo_pulse_0_j26 v) 0 0 k = v 0 0 k := by
  intro v
  unfold mf_Mo_pulse_0_j26
  (try dsimp only)
  all_goals ((repeat' split) <;> (first | with_reducible rfl | (simp only [msend_0k (i := 0) (k := k) (by omega) (by omega) (by omega), mz_Mo_pulse_0_j27 hc]; done)))
theorem mz_Mo_pulse_0_j23 {k : Nat} (hc : k ≠ 10 ∧ k ≠ 50 ∧ k ≠ 51 ∧ k ≠ 55 ∧ k ≠ 56) : ∀ (v : fw_V) (x4 : Int32), (mf_Mo_pulse_0_j23 v x4) 0 0 k = v 0 0 k := by
  intro v x4
  unfold mf_Mo_pulse_0_j23
  (try dsimp only)
  all_goals ((repeat' split) <;> (first | with_reducible rfl | (simp only [fw_up_ne (c := 9) (i := 0) (k := 5) (c' := 0) (i' := 0) (k' := k) (by omega), msend_0k (i := 0) (k := k) (by omega) (by omega) (by omega), mz_Mo_pulse_0_j24 hc, mz_Mo_pulse_0_j26 hc]; done)))
theorem mz_Mo_pulse_0_j22 {k : Nat} (hc : k ≠ 10 ∧ k ≠ 50 ∧ k ≠ 51 ∧ k ≠ 55 ∧ k ≠ 56) : ∀ (v : fw_V) (x4 : Int32), (mf_Mo_pulse_0_j22 v x4) 0 0 k = v 0 0 k := by
  intro v x4
  unfold mf_Mo_pulse_0_j22
  (try dsimp only)
  all_goals ((repeat' split) <;> (first | with_reducible rfl | (simp only [msend_0k (i := 0) (k := k) (by omega) (by omega) (by omega), mz_Mo_pulse_0_j23 hc]; done)))
theorem mz_Mo_pulse_0_j28 {k : Nat} (hc : k ≠ 10 ∧ k ≠ 50 ∧ k ≠ 51 ∧ k ≠ 55 ∧ k ≠ 56) : ∀ (v : fw_V) (x4 : Int32) (x90 : Int32), (mf_Mo_pulse_0_j28 v x4 x90) 0 0 k = v 0 0 k := by
  intro v x4 x90
  unfold mf_Mo_pulse_0_j28
  (try dsimp only)
  all_goals ((repeat' split) <;> (first | with_reducible rfl | (simp only [fw_up_ne (c := 9) (i := 0) (k := 5) (c' := 0) (i' := 0) (k' := k) (by omega), msend_0k (i := 0) (k := k) (by omega) (by omega) (by omega), mz_Mo_pulse_0_j24 hc, mz_Mo_pulse_0_j26 hc]; done)))
theorem mz_Mo_pulse_0_j21 {k : Nat} (hc : k ≠ 10 ∧ k ≠ 50 ∧ k ≠ 51 ∧ k ≠ 55 ∧ k ≠ 56) : ∀ (v : fw_V), (mf_Mo_pulse_0_j21 v) 0 0 k = v 0 0 k := by
  intro v
  unfold mf_Mo_pulse_0_j21
  (try dsimp only)
  all_goals ((repeat' split) <;> (first | with_reducible rfl | (simp only [msend_0k (i := 0) (k := k) (by omega) (by omega) (by omega), mz_Mo_pulse_0_j22 hc, mz_Mo_pulse_0_j28 hc]; done)))
theorem mz_Mo_pulse_0_j20 {k : Nat} (hc : k ≠ 10 ∧ k ≠ 50 ∧ k ≠ 51 ∧ k ≠ 55 ∧ k ≠ 56) : ∀ (v : fw_V), (mf_Mo_pulse_0_j20 v) 0 0 k = v 0 0 k := by
  intro v
  unfold mf_Mo_pulse_0_j20
  (try dsimp only)
  all_goals ((repeat' split) <;> (first | with_reducible rfl | (simp only [msend_0k (i := 0) (k := k) (by omega) (by omega) (by omega), mz_Mo_pulse_0_j21 hc]; done)))
theorem mz_Mo_pulse_0_j33 {k : Nat} (hc : k ≠ 10 ∧ k ≠ 50 ∧ k ≠ 51 ∧ k ≠ 55 ∧ k ≠ 56) : ∀ (v : fw_V), (mf_Mo_pulse_0_j33 v) 0 0 k = v 0 0 k := by
  intro v
  unfold mf_Mo_pulse_0_j33
  (try dsimp only)
  all_goals ((repeat' split) <;> (first | with_reducible rfl | (simp only [msend_0k (i := 0) (k := k) (by omega) (by omega) (by omega), mz_Mo_pulse_0_j27 hc]; done)))
theorem mz_Mo_pulse_0_j34 {k : Nat} (hc : k ≠ 10 ∧ k ≠ 50 ∧ k ≠ 51 ∧ k ≠ 55 ∧ k ≠ 56) : ∀ (v : fw_V), (mf_Mo_pulse_0_j34 v) 0 0 k = v 0 0 k := by
  intro v
  unfold mf_Mo_pulse_0_j34
  (try dsimp only)
  all_goals ((repeat' split) <;> (first | with_reducible rfl | (simp only [msend_0k (i := 0) (k := k) (by omega) (by omega) (by omega), mz_Mo_pulse_0_j27 hc]; done)))
theorem mz_Mo_pulse_0_j32 {k : Nat} (hc : k ≠ 10 ∧ k ≠ 50 ∧ k ≠ 51 ∧ k ≠ 55 ∧ k ≠ 56) : ∀ (v : fw_V) (x4 : Int32), (mf_Mo_pulse_0_j32 v x4) 0 0 k = v 0 0 k := by
  intro v x4
  unfold mf_Mo_pulse_0_j32
  (try dsimp only)
  all_goals ((repeat' split) <;> (first | with_reducible rfl | (simp only [fw_up_ne (c := 9) (i := 0) (k := 5) (c' := 0) (i' := 0) (k' := k) (by omega), msend_0k (i := 0) (k := k) (by omega) (by omega) (by omega), mz_Mo_pulse_0_j33 hc, mz_Mo_pulse_0_j34 hc]; done)))
theorem mz_Mo_pulse_0_j31 {k : Nat} (hc : k ≠ 10 ∧ k ≠ 50 ∧ k ≠ 51 ∧ k ≠ 55 ∧ k ≠ 56) : ∀ (v : fw_V) (x4 : Int32), (mf_Mo_pulse_0_j31 v x4) 0 0 k = v 0 0 k := by
  intro v x4
  unfold mf_Mo_pulse_0_j31
  (try dsimp only)
  all_goals ((repeat' split) <;> (first | with_reducible rfl | (simp only [msend_0k (i := 0) (k := k) (by omega) (by omega) (by omega), mz_Mo_pulse_0_j32 hc]; done)))
theorem mz_Mo_pulse_0_j35 {k : Nat} (hc : k ≠ 10 ∧ k ≠ 50 ∧ k ≠ 51 ∧ k ≠ 55 ∧ k ≠ 56) : ∀ (v : fw_V) (x4 : Int32) (x90 : Int32), (mf_Mo_pulse_0_j35 v x4 x90) 0 0 k = v 0 0 k := by
  intro v x4 x90
  unfold mf_Mo_pulse_0_j35
  (try dsimp only)
  all_goals ((repeat' split) <;> (first | with_reducible rfl | (simp only [fw_up_ne (c := 9) (i := 0) (k := 5) (c' := 0) (i' := 0) (k' := k) (by omega), msend_0k (i := 0) (k := k) (by omega) (by omega) (by omega), mz_Mo_pulse_0_j33 hc, mz_Mo_pulse_0_j34 hc]; done)))
theorem mz_Mo_pulse_0_j30 {k : Nat} (hc : k ≠ 10 ∧ k ≠ 50 ∧ k ≠ 51 ∧ k ≠ 55 ∧ k ≠ 56) : ∀ (v : fw_V), (mf_Mo_pulse_0_j30 v) 0 0 k = v 0 0 k := by
  intro v
  unfold mf_Mo_pulse_0_j30
  (try dsimp only)
  all_goals ((repeat' split) <;> (first | with_reducible rfl | (simp only [msend_0k (i := 0) (k := k) (by omega) (by omega) (by omega), mz_Mo_pulse_0_j31 hc, mz_Mo_pulse_0_j35 hc]; done)))
theorem mz_Mo_pulse_0_j29 {k : Nat} (hc : k ≠ 10 ∧ k ≠ 50 ∧ k ≠ 51 ∧ k ≠ 55 ∧ k ≠ 56) : ∀ (v : fw_V), (mf_Mo_pulse_0_j29 v) 0 0 k = v 0 0 k := by
  intro v
  unfold mf_Mo_pulse_0_j29
  (try dsimp only)
  all_goals ((repeat' split) <;> (first | with_reducible rfl | (simp only [msend_0k (i := 0) (k := k) (by omega) (by omega) (by omega), mz_Mo_pulse_0_j30 hc]; done)))
theorem mz_Mo_pulse_0_j19 {k : Nat} (hc : k ≠ 10 ∧ k ≠ 50 ∧ k ≠ 51 ∧ k ≠ 55 ∧ k ≠ 56) : ∀ (v : fw_V) (x4 : Int32), (mf_Mo_pulse_0_j19 v x4) 0 0 k = v 0 0 k := by
  intro v x4
  unfold mf_Mo_pulse_0_j19
  (try dsimp only)
  all_goals ((repeat' split) <;> (first | with_reducible rfl | (simp only [fw_up_ne (c := 9) (i := 0) (k := 4) (c' := 0) (i' := 0) (k' := k) (by omega), msend_0k (i := 0) (k := k) (by omega) (by omega) (by omega), mz_Mo_pulse_0_j20 hc, mz_Mo_pulse_0_j29 hc]; done)))
theorem mz_Mo_pulse_0_j18 {k : Nat} (hc : k ≠ 10 ∧ k ≠ 50 ∧ k ≠ 51 ∧ k ≠ 55 ∧ k ≠ 56) : ∀ (v : fw_V) (x4 : Int32), (mf_Mo_pulse_0_j18 v x4) 0 0 k = v 0 0 k := by
  intro v x4
  unfold mf_Mo_pulse_0_j18
  (try dsimp only)
  all_goals ((repeat' split) <;> (first | with_reducible rfl | (simp only [msend_0k (i := 0) (k := k) (by omega) (by omega) (by omega), mz_Mo_pulse_0_j19 hc]; done)))
theorem mz_Mo_pulse_0_j36 {k : Nat} (hc : k ≠ 10 ∧ k ≠ 50 ∧ k ≠ 51 ∧ k ≠ 55 ∧ k ≠ 56) : ∀ (v : fw_V) (x4 : Int32) (x90 : Int32), (mf_Mo_pulse_0_j36 v x4 x90) 0 0 k = v 0 0 k := by
  intro v x4 x90
  unfold mf_Mo_pulse_0_j36
  (try dsimp only)
  all_goals ((repeat' split) <;> (first | with_reducible rfl | (simp only [fw_up_ne (c := 9) (i := 0) (k := 4) (c' := 0) (i' := 0) (k' := k) (by omega), msend_0k (i := 0) (k := k) (by omega) (by omega) (by omega), mz_Mo_pulse_0_j20 hc, mz_Mo_pulse_0_j29 hc]; done)))
theorem mz_Mo_pulse_0_j17 {k : Nat} (hc : k ≠ 10 ∧ k ≠ 50 ∧ k ≠ 51 ∧ k ≠ 55 ∧ k ≠ 56) : ∀ (v : fw_V), (mf_Mo_pulse_0_j17 v) 0 0 k = v 0 0 k := by
  intro v
  unfold mf_Mo_pulse_0_j17
  (try dsimp only)
  all_goals ((repeat' split) <;> (first | with_reducible rfl | (simp only [msend_0k (i := 0) (k := k) (by omega) (by omega) (by omega), mz_Mo_pulse_0_j18 hc, mz_Mo_pulse_0_j36 hc]; done)))
theorem mz_Mo_pulse_0_j16 {k : Nat} (hc : k ≠ 10 ∧ k ≠ 50 ∧ k ≠ 51 ∧ k ≠ 55 ∧ k ≠ 56) : ∀ (v : fw_V), (mf_Mo_pulse_0_j16 v) 0 0 k = v 0 0 k := by
  intro v
  unfold mf_Mo_pulse_0_j16
  (try dsimp only)
  all_goals ((repeat' split) <;> (first | with_reducible rfl | (simp only [msend_0k (i := 0) (k := k) (by omega) (by omega) (by omega), mz_Mo_pulse_0_j17 hc]; done)))
theorem mz_Mo_pulse_0_j46 {k : Nat} (hc : k ≠ 10 ∧ k ≠ 50 ∧ k ≠ 51 ∧ k ≠ 55 ∧ k ≠ 56) : ∀ (v : fw_V), (mf_Mo_pulse_0_j46 v) 0 0 k = v 0 0 k := by
  intro v
  unfold mf_Mo_pulse_0_j46
  (try dsimp only)
  all_goals ((repeat' split) <;> (first | with_reducible rfl | (simp only [fw_up_ne (c := 9) (i := 0) (k := 6) (c' := 0) (i' := 0) (k' := k) (by omega), fw_up_ne (c := 34) (i := 0) (k := 0) (c' := 0) (i' := 0) (k' := k) (by omega), msend_0k (i := 0) (k := k) (by omega) (by omega) (by omega), mz_Mo_reply_0 hc]; done)))
theorem mz_Mo_pulse_0_j45 {k : Nat} (hc : k ≠ 10 ∧ k ≠ 50 ∧ k ≠ 51 ∧ k ≠ 55 ∧ k ≠ 56) : ∀ (v : fw_V), (mf_Mo_pulse_0_j45 v) 0 0 k = v 0 0 k := by
  intro v
  unfold mf_Mo_pulse_0_j45
  (try dsimp only)
  all_goals ((repeat' split) <;> (first | with_reducible rfl | (simp only [msend_0k (i := 0) (k := k) (by omega) (by omega) (by omega), mz_Mo_pulse_0_j46 hc]; done)))
theorem mz_Mo_pulse_0_j48 {k : Nat} (hc : k ≠ 10 ∧ k ≠ 50 ∧ k ≠ 51 ∧ k ≠ 55 ∧ k ≠ 56) : ∀ (v : fw_V), (mf_Mo_pulse_0_j48 v) 0 0 k = v 0 0 k := by
  intro v
  unfold mf_Mo_pulse_0_j48
  (try dsimp only)
  all_goals ((repeat' split) <;> (first | with_reducible rfl | (simp only [fw_up_ne (c := 9) (i := 0) (k := 6) (c' := 0) (i' := 0) (k' := k) (by omega), fw_up_ne (c := 34) (i := 0) (k := 0) (c' := 0) (i' := 0) (k' := k) (by omega), msend_0k (i := 0) (k := k) (by omega) (by omega) (by omega), mz_Mo_reply_0 hc]; done)))
theorem mz_Mo_pulse_0_j47 {k : Nat} (hc : k ≠ 10 ∧ k ≠ 50 ∧ k ≠ 51 ∧ k ≠ 55 ∧ k ≠ 56) : ∀ (v : fw_V), (mf_Mo_pulse_0_j47 v) 0 0 k = v 0 0 k := by
  intro v
  unfold mf_Mo_pulse_0_j47
  (try dsimp only)
  all_goals ((repeat' split) <;> (first | with_reducible rfl | (simp only [msend_0k (i := 0) (k := k) (by omega) (by omega) (by omega), mz_Mo_pulse_0_j48 hc]; done)))
theorem mz_Mo_pulse_0_j44 {k : Nat} (hc : k ≠ 10 ∧ k ≠ 50 ∧ k ≠ 51 ∧ k ≠ 55 ∧ k ≠ 56) : ∀ (v : fw_V) (x4 : Int32), (mf_Mo_pulse_0_j44 v x4) 0 0 k = v 0 0 k := by
  intro v x4
  unfold mf_Mo_pulse_0_j44
  (try dsimp only)
  all_goals ((repeat' split) <;> (first | with_reducible rfl | (simp only [fw_up_ne (c := 9) (i := 0) (k := 5) (c' := 0) (i' := 0) (k' := k) (by omega), msend_0k (i := 0) (k := k) (by omega) (by omega) (by omega), mz_Mo_pulse_0_j45 hc, mz_Mo_pulse_0_j47 hc]; done)))
theorem mz_Mo_pulse_0_j43 {k : Nat} (hc : k ≠ 10 ∧ k ≠ 50 ∧ k ≠ 51 ∧ k ≠ 55 ∧ k ≠ 56) : ∀ (v : fw_V) (x4 : Int32), (mf_Mo_pulse_0_j43 v x4) 0 0 k = v 0 0 k := by
  intro v x4
  unfold mf_Mo_pulse_0_j43
  (try dsimp only)
  all_goals ((repeat' split) <;> (first | with_reducible rfl | (simp only [msend_0k (i := 0) (k := k) (by omega) (by omega) (by omega), mz_Mo_pulse_0_j44 hc]; done)))
theorem mz_Mo_pulse_0_j49 {k : Nat} (hc : k ≠ 10 ∧ k ≠ 50 ∧ k ≠ 51 ∧ k ≠ 55 ∧ k ≠ 56) : ∀ (v : fw_V) (x4 : Int32) (x90 : Int32), (mf_Mo_pulse_0_j49 v x4 x90) 0 0 k = v 0 0 k := by
  intro v x4 x90
  unfold mf_Mo_pulse_0_j49
  (try dsimp only)
  all_goals ((repeat' split) <;> (first | with_reducible rfl | (simp only [fw_up_ne (c := 9) (i := 0) (k := 5) (c' := 0) (i' := 0) (k' := k) (by omega), msend_0k (i := 0) (k := k) (by omega) (by omega) (by omega), mz_Mo_pulse_0_j45 hc, mz_Mo_pulse_0_j47 hc]; done)))
theorem mz_Mo_pulse_0_j42 {k : Nat} (hc : k ≠ 10 ∧ k ≠ 50 ∧ k ≠ 51 ∧ k ≠ 55 ∧ k ≠ 56) : ∀ (v : fw_V), (mf_Mo_pulse_0_j42 v) 0 0 k = v 0 0 k := by
  intro v
  unfold mf_Mo_pulse_0_j42
  (try dsimp only)
  all_goals ((repeat' split) <;> (first | with_reducible rfl | (simp only [msend_0k (i := 0) (k := k) (by omega) (by omega) (by omega), mz_Mo_pulse_0_j43 hc, mz_Mo_pulse_0_j49 hc]; done)))
theorem mz_Mo_pulse_0_j41 {k : Nat} (hc : k ≠ 10 ∧ k ≠ 50 ∧ k ≠ 51 ∧ k ≠ 55 ∧ k ≠ 56) : ∀ (v : fw_V), (mf_Mo_pulse_0_j41 v) 0 0 k = v 0 0 k := by
  intro v
  unfold mf_Mo_pulse_0_j41
  (try dsimp only)
  all_goals ((repeat' split) <;> (first | with_reducible rfl | (simp only [msend_0k (i := 0) (k := k) (by omega) (by omega) (by omega), mz_Mo_pulse_0_j42 hc]; done)))
theorem mz_Mo_pulse_0_j54 {k : Nat} (hc : k ≠ 10 ∧ k ≠ 50 ∧ k ≠ 51 ∧ k ≠ 55 ∧ k ≠ 56) : ∀ (v : fw_V), (mf_Mo_pulse_0_j54 v) 0 0 k = v 0 0 k := by
  intro v
  unfold mf_Mo_pulse_0_j54
  (try dsimp only)
  all_goals ((repeat' split) <;> (first | with_reducible rfl | (simp only [msend_0k (i := 0) (k := k) (by omega) (by omega) (by omega), mz_Mo_pulse_0_j48 hc]; done)))
theorem mz_Mo_pulse_0_j55 {k : Nat} (hc : k ≠ 10 ∧ k ≠ 50 ∧ k ≠ 51 ∧ k ≠ 55 ∧ k ≠ 56) : ∀ (v : fw_V), (mf_Mo_pulse_0_j55 v) 0 0 k = v 0 0 k := by
  intro v
  unfold mf_Mo_pulse_0_j55
  (try dsimp only)
  all_goals ((repeat' split) <;> (first | with_reducible rfl | (simp only [msend_0k (i := 0) (k := k) (by omega) (by omega) (by omega), mz_Mo_pulse_0_j48 hc]; done)))
theorem mz_Mo_pulse_0_j53 {k : Nat} (hc : k ≠ 10 ∧ k ≠ 50 ∧ k ≠ 51 ∧ k ≠ 55 ∧ k ≠ 56) : ∀ (v : fw_V) (x4 : Int32), (mf_Mo_pulse_0_j53 v x4) 0 0 k = v 0 0 k := by
  intro v x4
  unfold mf_Mo_pulse_0_j53
  (try dsimp only)
  all_goals ((repeat' split) <;> (first | with_reducible rfl | (simp only [fw_up_ne (c := 9) (i := 0) (k := 5) (c' := 0) (i' := 0) (k' := k) (by omega), msend_0k (i := 0) (k := k) (by omega) (by omega) (by omega), mz_Mo_pulse_0_j54 hc, mz_Mo_pulse_0_j55 hc]; done)))
theorem mz_Mo_pulse_0_j52 {k : Nat} (hc : k ≠ 10 ∧ k ≠ 50 ∧ k ≠ 51 ∧ k ≠ 55 ∧ k ≠ 56) : ∀ (v : fw_V) (x4 : Int32), (mf_Mo_pulse_0_j52 v x4) 0 0 k = v 0 0 k := by
  intro v x4
  unfold mf_Mo_pulse_0_j52
  (try dsimp only)
  all_goals ((repeat' split) <;> (first | with_reducible rfl | (simp only [msend_0k (i := 0) (k := k) (by omega) (by omega) (by omega), mz_Mo_pulse_0_j53 hc]; done)))
theorem mz_Mo_pulse_0_j56 {k : Nat} (hc : k ≠ 10 ∧ k ≠ 50 ∧ k ≠ 51 ∧ k ≠ 55 ∧ k ≠ 56) : ∀ (v : fw_V) (x4 : Int32) (x90 : Int32), (mf_Mo_pulse_0_j56 v x4 x90) 0 0 k = v 0 0 k := by
  intro v x4 x90
  unfold mf_Mo_pulse_0_j56
  (try dsimp only)
  all_goals ((repeat' split) <;> (first | with_reducible rfl | (simp only [fw_up_ne (c := 9) (i := 0) (k := 5) (c' := 0) (i' := 0) (k' := k) (by omega), msend_0k (i := 0) (k := k) (by omega) (by omega) (by omega), mz_Mo_pulse_0_j54 hc, mz_Mo_pulse_0_j55 hc]; done)))
theorem mz_Mo_pulse_0_j51 {k : Nat} (hc : k ≠ 10 ∧ k ≠ 50 ∧ k ≠ 51 ∧ k ≠ 55 ∧ k ≠ 56) : ∀ (v : fw_V), (mf_Mo_pulse_0_j51 v) 0 0 k = v 0 0 k := by
  intro v
  unfold mf_Mo_pulse_0_j51
  (try dsimp only)
  all_goals ((repeat' split) <;> (first | with_reducible rfl | (simp only [msend_0k (i := 0) (k := k) (by omega) (by omega) (by omega), mz_Mo_pulse_0_j52 hc, mz_Mo_pulse_0_j56 hc]; done)))
theorem mz_Mo_pulse_0_j50 {k : Nat} (hc : k ≠ 10 ∧ k ≠ 50 ∧ k ≠ 51 ∧ k ≠ 55 ∧ k ≠ 56) : ∀ (v : fw_V), (mf_Mo_pulse_0_j50 v) 0 0 k = v 0 0 k := by
  intro v
  unfold mf_Mo_pulse_0_j50
  (try dsimp only)
  all_goals ((repeat' split) <;> (first | with_reducible rfl | (simp only [msend_0k (i := 0) (k := k) (by omega) (by omega) (by omega), mz_Mo_pulse_0_j51 hc]; done)))
theorem mz_Mo_pulse_0_j40 {k : Nat} (hc : k ≠ 10 ∧ k ≠ 50 ∧ k ≠ 51 ∧ k ≠ 55 ∧ k ≠ 56) : ∀ (v : fw_V) (x4 : Int32), (mf_Mo_pulse_0_j40 v x4) 0 0 k = v 0 0 k := by
  intro v x4
  unfold mf_Mo_pulse_0_j40
  (try dsimp only)
  all_goals ((repeat' split) <;> (first | with_reducible rfl | (simp only [fw_up_ne (c := 9) (i := 0) (k := 4) (c' := 0) (i' := 0) (k' := k) (by omega), msend_0k (i := 0) (k := k) (by omega) (by omega) (by omega), mz_Mo_pulse_0_j41 hc, mz_Mo_pulse_0_j50 hc]; done)))
theorem mz_Mo_pulse_0_j39 {k : Nat} (hc : k ≠ 10 ∧ k ≠ 50 ∧ k ≠ 51 ∧ k ≠ 55 ∧ k ≠ 56) : ∀ (v : fw_V) (x4 : Int32), (mf_Mo_pulse_0_j39 v x4) 0 0 k = v 0 0 k := by
  intro v x4
  unfold mf_Mo_pulse_0_j39
  (try dsimp only)
  all_goals ((repeat' split) <;> (first | with_reducible rfl | (simp only [msend_0k (i := 0) (k := k) (by omega) (by omega) (by omega), mz_Mo_pulse_0_j40 hc]; done)))
theorem mz_Mo_pulse_0_j57 {k : Nat} (hc : k ≠ 10 ∧ k ≠ 50 ∧ k ≠ 51 ∧ k ≠ 55 ∧ k ≠ 56) : ∀ (v : fw_V) (x4 : Int32) (x90 : Int32), (mf_Mo_pulse_0_j57 v x4 x90) 0 0 k = v 0 0 k := by
  intro v x4 x90
  unfold mf_Mo_pulse_0_j57
  (try dsimp only)
  all_goals ((repeat' split) <;> (first | with_reducible rfl | (simp only [fw_up_ne (c := 9) (i := 0) (k := 4) (c' := 0) (i' := 0) (k' := k) (by omega), msend_0k (i := 0) (k := k) (by omega) (by omega) (by omega), mz_Mo_pulse_0_j41 hc, mz_Mo_pulse_0_j50 hc]; done)))
theorem mz_Mo_pulse_0_j38 {k : Nat} (hc : k ≠ 10 ∧ k ≠ 50 ∧ k ≠ 51 ∧ k ≠ 55 ∧ k ≠ 56) : ∀ (v : fw_V), (mf_Mo_pulse_0_j38 v) 0 0 k = v 0 0 k := by
  intro v
  unfold mf_Mo_pulse_0_j38
  (try dsimp only)
  all_goals ((repeat' split) <;> (first | with_reducible rfl | (simp only [msend_0k (i := 0) (k := k) (by omega) (by omega) (by omega), mz_Mo_pulse_0_j39 hc, mz_Mo_pulse_0_j57 hc]; done)))
theorem mz_Mo_pulse_0_j37 {k : Nat} (hc : k ≠ 10 ∧ k ≠ 50 ∧ k ≠ 51 ∧ k ≠ 55 ∧ k ≠ 56) : ∀ (v : fw_V), (mf_Mo_pulse_0_j37 v) 0 0 k = v 0 0 k := by
  intro v
  unfold mf_Mo_pulse_0_j37
  (try dsimp only)
  all_goals ((repeat' split) <;> (first | with_reducible rfl | (simp only [msend_0k (i := 0) (k := k) (by omega) (by omega) (by omega), mz_Mo_pulse_0_j38 hc]; done)))
theorem mz_Mo_pulse_0_j15 {k : Nat} (hc : k ≠ 10 ∧ k ≠ 50 ∧ k ≠ 51 ∧ k ≠ 55 ∧ k ≠ 56) : ∀ (v : fw_V) (x4 : Int32), (mf_Mo_pulse_0_j15 v x4) 0 0 k = v 0 0 k := by
  intro v x4
  unfold mf_Mo_pulse_0_j15
  (try dsimp only)
  all_goals ((repeat' split) <;> (first | with_reducible rfl | (simp only [fw_up_ne (c := 9) (i := 0) (k := 3) (c' := 0) (i' := 0) (k' := k) (by omega), msend_0k (i := 0) (k := k) (by omega) (by omega) (by omega), mz_Mo_pulse_0_j16 hc, mz_Mo_pulse_0_j37 hc]; done)))
theorem mz_Mo_pulse_0_j14 {k : Nat} (hc : k ≠ 10 ∧ k ≠ 50 ∧ k ≠ 51 ∧ k ≠ 55 ∧ k ≠ 56) : ∀ (v : fw_V) (x4 : Int32), (mf_Mo_pulse_0_j14 v x4) 0 0 k = v 0 0 k := by
  intro v x4
  unfold mf_Mo_pulse_0_j14
  (try dsimp only)
  all_goals ((repeat' split) <;> (first | with_reducible rfl | (simp only [msend_0k (i := 0) (k := k) (by omega) (by omega) (by omega), mz_Mo_pulse_0_j15 hc]; done)))
theorem mz_Mo_pulse_0_j58 {k : Nat} (hc : k ≠ 10 ∧ k ≠ 50 ∧ k ≠ 51 ∧ k ≠ 55 ∧ k ≠ 56) : ∀ (v : fw_V) (x4 : Int32) (x90 : Int32), (mf_Mo_pulse_0_j58 v x4 x90) 0 0 k = v 0 0 k := by
  intro v x4 x90
  unfold mf_Mo_pulse_0_j58
  (try dsimp only)
  all_goals ((repeat' split) <;> (first | with_reducible rfl | (simp only [fw_up_ne (c := 9) (i := 0) (k := 3) (c' := 0) (i' := 0) (k' := k) (by omega), msend_0k (i := 0) (k := k) (by omega) (by omega) (by omega), mz_Mo_pulse_0_j16 hc, mz_Mo_pulse_0_j37 hc]; done)))
theorem mz_Mo_pulse_0_j13 {k : Nat} (hc : k ≠ 10 ∧ k ≠ 50 ∧ k ≠ 51 ∧ k ≠ 55 ∧ k ≠ 56) : ∀ (v : fw_V), (mf_Mo_pulse_0_j13 v) 0 0 k = v 0 0 k := by
  intro v
  unfold mf_Mo_pulse_0_j13
  (try dsimp only)
  all_goals ((repeat' split) <;> (first | with_reducible rfl | (simp only [msend_0k (i := 0) (k := k) (by omega) (by omega) (by omega), mz_Mo_pulse_0_j14 hc, mz_Mo_pulse_0_j58 hc]; done)))
theorem mz_Mo_pulse_0_j12 {k : Nat} (hc : k ≠ 10 ∧ k ≠ 50 ∧ k ≠ 51 ∧ k ≠ 55 ∧ k ≠ 56) : ∀ (v : fw_V), (mf_Mo_pulse_0_j12 v) 0 0 k = v 0 0 k := by
  intro v
  unfold mf_Mo_pulse_0_j12
  (try dsimp only)
  all_goals ((repeat' split) <;> (first | with_reducible rfl | (simp only [msend_0k (i := 0) (k := k) (by omega) (by omega) (by omega), mz_Mo_pulse_0_j13 hc]; done)))
theorem mz_Mo_pulse_0_j63 {k : Nat} (hc : k ≠ 10 ∧ k ≠ 50 ∧ k ≠ 51 ∧ k ≠ 55 ∧ k ≠ 56) : ∀ (v : fw_V), (mf_Mo_pulse_0_j63 v) 0 0 k = v 0 0 k := by
  intro v
  unfold mf_Mo_pulse_0_j63
  (try dsimp only)
  all_goals ((repeat' split) <;> (first | with_reducible rfl | (simp only [msend_0k (i := 0) (k := k) (by omega) (by omega) (by omega), mz_Mo_pulse_0_j38 hc]; done)))
theorem mz_Mo_pulse_0_j64 {k : Nat} (hc : k ≠ 10 ∧ k ≠ 50 ∧ k ≠ 51 ∧ k ≠ 55 ∧ k ≠ 56) : ∀ (v : fw_V), (mf_Mo_pulse_0_j64 v) 0 0 k = v 0 0 k := by
  intro v
  unfold mf_Mo_pulse_0_j64
  (try dsimp only)
  all_goals ((repeat' split) <;> (first | with_reducible rfl | (simp only [msend_0k (i := 0) (k := k) (by omega) (by omega) (by omega), mz_Mo_pulse_0_j38 hc]; done)))
theorem mz_Mo_pulse_0_j62 {k : Nat} (hc : k ≠ 10 ∧ k ≠ 50 ∧ k ≠ 51 ∧ k ≠ 55 ∧ k ≠ 56) : ∀ (v : fw_V) (x4 : Int32), (mf_Mo_pulse_0_j62 v x4) 0 0 k = v 0 0 k := by
  intro v x4
  unfold mf_Mo_pulse_0_j62
  (try dsimp only)
  all_goals ((repeat' split) <;> (first | with_reducible rfl | (simp only [fw_up_ne (c := 9) (i := 0) (k := 3) (c' := 0) (i' := 0) (k' := k) (by omega), msend_0k (i := 0) (k := k) (by omega) (by omega) (by omega), mz_Mo_pulse_0_j63 hc, mz_Mo_pulse_0_j64 hc]; done)))
theorem mz_Mo_pulse_0_j61 {k : Nat} (hc : k ≠ 10 ∧ k ≠ 50 ∧ k ≠ 51 ∧ k ≠ 55 ∧ k ≠ 56) : ∀ (v : fw_V) (x4 : Int32), (mf_Mo_pulse_0_j61 v x4) 0 0 k = v 0 0 k := by
  intro v x4
  unfold mf_Mo_pulse_0_j61
  (try dsimp only)
  all_goals ((repeat' split) <;> (first | with_reducible rfl | (simp only [msend_0k (i := 0) (k := k) (by omega) (by omega) (by omega), mz_Mo_pulse_0_j62 hc]; done)))
theorem mz_Mo_pulse_0_j65 {k : Nat} (hc : k ≠ 10 ∧ k ≠ 50 ∧ k ≠ 51 ∧ k ≠ 55 ∧ k ≠ 56) : ∀ (v : fw_V) (x4 : Int32) (x90 : Int32), (mf_Mo_pulse_0_j65 v x4 x90) 0 0 k = v 0 0 k := by
  intro v x4 x90
  unfold mf_Mo_pulse_0_j65
  (try dsimp only)
  all_goals ((repeat' split) <;> (first | with_reducible rfl | (simp only [fw_up_ne (c := 9) (i := 0) (k := 3) (c' := 0) (i' := 0) (k' := k) (by omega), msend_0k (i := 0) (k := k) (by omega) (by omega) (by omega), mz_Mo_pulse_0_j63 hc, mz_Mo_pulse_0_j64 hc]; done)))
theorem mz_Mo_pulse_0_j60 {k : Nat} (hc : k ≠ 10 ∧ k ≠ 50 ∧ k ≠ 51 ∧ k ≠ 55 ∧ k ≠ 56) : ∀ (v : fw_V), (mf_Mo_pulse_0_j60 v) 0 0 k = v 0 0 k := by
  intro v
  unfold mf_Mo_pulse_0_j60
  (try dsimp only)
  all_goals ((repeat' split) <;> (first | with_reducible rfl | (simp only [msend_0k (i := 0) (k := k) (by omega) (by omega) (by omega), mz_Mo_pulse_0_j61 hc, mz_Mo_pulse_0_j65 hc]; done)))
theorem mz_Mo_pulse_0_j59 {k : Nat} (hc : k ≠ 10 ∧ k ≠ 50 ∧ k ≠ 51 ∧ k ≠ 55 ∧ k ≠ 56) : ∀ (v : fw_V), (mf_Mo_pulse_0_j59 v) 0 0 k = v 0 0 k := by
  intro v
  unfold mf_Mo_pulse_0_j59
  (try dsimp only)
  all_goals ((repeat' split) <;> (first | with_reducible rfl | (simp only [msend_0k (i := 0) (k := k) (by omega) (by omega) (by omega), mz_Mo_pulse_0_j60 hc]; done)))
theorem mz_Mo_pulse_0_j11 {k : Nat} (hc : k ≠ 10 ∧ k ≠ 50 ∧ k ≠ 51 ∧ k ≠ 55 ∧ k ≠ 56) : ∀ (v : fw_V) (x4 : Int32), (mf_Mo_pulse_0_j11 v x4) 0 0 k = v 0 0 k := by
  intro v x4
  unfold mf_Mo_pulse_0_j11
  (try dsimp only)
  all_goals ((repeat' split) <;> (first | with_reducible rfl | (simp only [fw_up_ne (c := 9) (i := 0) (k := 2) (c' := 0) (i' := 0) (k' := k) (by omega), msend_0k (i := 0) (k := k) (by omega) (by omega) (by omega), mz_Mo_pulse_0_j12 hc, mz_Mo_pulse_0_j59 hc]; done)))
theorem mz_Mo_pulse_0_j10 {k : Nat} (hc : k ≠ 10 ∧ k ≠ 50 ∧ k ≠ 51 ∧ k ≠ 55 ∧ k ≠ 56) : ∀ (v : fw_V) (x4 : Int32), (mf_Mo_pulse_0_j10 v x4) 0 0 k = v 0 0 k := by
  intro v x4
  unfold mf_Mo_pulse_0_j10
  (try dsimp only)
  all_goals ((repeat' split) <;> (first | with_reducible rfl | (simp only [msend_0k (i := 0) (k := k) (by omega) (by omega) (by omega), mz_Mo_pulse_0_j11 hc]; done)))
theorem mz_Mo_pulse_0_j66 {k : Nat} (hc : k ≠ 10 ∧ k ≠ 50 ∧ k ≠ 51 ∧ k ≠ 55 ∧ k ≠ 56) : ∀ (v : fw_V) (x4 : Int32) (x90 : Int32), (mf_Mo_pulse_0_j66 v x4 x90) 0 0 k = v 0 0 k := by
  intro v x4 x90
  unfold mf_Mo_pulse_0_j66
  (try dsimp only)
  all_goals ((repeat' split) <;> (first | with_reducible rfl | (simp only [fw_up_ne (c := 9) (i := 0) (k := 2) (c' := 0) (i' := 0) (k' := k) (by omega), msend_0k (i := 0) (k := k) (by omega) (by omega) (by omega), mz_Mo_pulse_0_j12 hc, mz_Mo_pulse_0_j59 hc]; done)))
theorem mz_Mo_pulse_0_j9 {k : Nat} (hc : k ≠ 10 ∧ k ≠ 50 ∧ k ≠ 51 ∧ k ≠ 55 ∧ k ≠ 56) : ∀ (v : fw_V), (mf_Mo_pulse_0_j9 v) 0 0 k = v 0 0 k := by
  intro v
  unfold mf_Mo_pulse_0_j9
  (try dsimp only)
  all_goals ((repeat' split) <;> (first | with_reducible rfl | (simp only [msend_0k (i := 0) (k := k) (by omega) (by omega) (by omega), mz_Mo_pulse_0_j10 hc, mz_Mo_pulse_0_j66 hc]; done)))
theorem mz_Mo_pulse_0_j8 {k : Nat} (hc : k ≠ 10 ∧ k ≠ 50 ∧ k ≠ 51 ∧ k ≠ 55 ∧ k ≠ 56) : ∀ (v : fw_V), (mf_Mo_pulse_0_j8 v) 0 0 k = v 0 0 k := by
  intro v
  unfold mf_Mo_pulse_0_j8
  (try dsimp only)
  all_goals ((repeat' split) <;> (first | with_reducible rfl | (simp only [msend_0k (i := 0) (k := k) (by omega) (by omega) (by omega), mz_Mo_pulse_0_j9 hc]; done)))
theorem mz_Mo_pulse_0_j84 {k : Nat} (hc : k ≠ 10 ∧ k ≠ 50 ∧ k ≠ 51 ∧ k ≠ 55 ∧ k ≠ 56) : ∀ (v : fw_V), (mf_Mo_pulse_0_j84 v) 0 0 k = v 0 0 k := by
  intro v
  unfold mf_Mo_pulse_0_j84
  (try dsimp only)
  all_goals ((repeat' split) <;> (first | with_reducible rfl | (simp only [fw_up_ne (c := 9) (i := 0) (k := 6) (c' := 0) (i' := 0) (k' := k) (by omega), fw_up_ne (c := 34) (i := 0) (k := 0) (c' := 0) (i' := 0) (k' := k) (by omega), msend_0k (i := 0) (k := k) (by omega) (by omega) (by omega), mz_Mo_reply_0 hc]; done)))
theorem mz_Mo_pulse_0_j83 {k : Nat} (hc : k ≠ 10 ∧ k ≠ 50 ∧ k ≠ 51 ∧ k ≠ 55 ∧ k ≠ 56) : ∀ (v : fw_V), (mf_Mo_pulse_0_j83 v) 0 0 k = v 0 0 k := by
  intro v
  unfold mf_Mo_pulse_0_j83
  (try dsimp only)
  all_goals ((repeat' split) <;> (first | with_reducible rfl | (simp only [msend_0k (i := 0) (k := k) (by omega) (by omega) (by omega), mz_Mo_pulse_0_j84 hc]; done)))
theorem mz_Mo_pulse_0_j86 {k : Nat} (hc : k ≠ 10 ∧ k ≠ 50 ∧ k ≠ 51 ∧ k ≠ 55 ∧ k ≠ 56) : ∀ (v : fw_V), (mf_Mo_pulse_0_j86 v) 0 0 k = v 0 0 k := by
  intro v
  unfold mf_Mo_pulse_0_j86
  (try dsimp only)
  all_goals ((repeat' split) <;> (first | with_reducible rfl | (simp only [fw_up_ne (c := 9) (i := 0) (k := 6) (c' := 0) (i' := 0) (k' := k) (by omega), fw_up_ne (c := 34) (i := 0) (k := 0) (c' := 0) (i' := 0) (k' := k) (by omega), msend_0k (i := 0) (k := k) (by omega) (by omega) (by omega), mz_Mo_reply_0 hc]; done)))
theorem mz_Mo_pulse_0_j85 {k : Nat} (hc : k ≠ 10 ∧ k ≠ 50 ∧ k ≠ 51 ∧ k ≠ 55 ∧ k ≠ 56) : ∀ (v : fw_V), (mf_Mo_pulse_0_j85 v) 0 0 k = v 0 0 k := by
  intro v
  unfold mf_Mo_pulse_0_j85
  (try dsimp only)
  all_goals ((repeat' split) <;> (first | with_reducible rfl | (simp only [msend_0k (i := 0) (k := k) (by omega) (by omega) (by omega), mz_Mo_pulse_0_j86 hc]; done)))
theorem mz_Mo_pulse_0_j82 {k : Nat} (hc : k ≠ 10 ∧ k ≠ 50 ∧ k ≠ 51 ∧ k ≠ 55 ∧ k ≠ 56) : ∀ (v : fw_V) (x4 : Int32), (mf_Mo_pulse_0_j82 v x4) 0 0 k = v 0 0 k := by
  intro v x4
  unfold mf_Mo_pulse_0_j82
  (try dsimp only)
  all_goals ((repeat' split) <;> (first | with_reducible rfl | (simp only [fw_up_ne (c := 9) (i := 0) (k := 5) (c' := 0) (i' := 0) (k' := k) (by omega), msend_0k (i := 0) (k := k) (by omega) (by omega) (by omega), mz_Mo_pulse_0_j83 hc, mz_Mo_pulse_0_j85 hc]; done)))
theorem mz_Mo_pulse_0_j81 {k : Nat} (hc : k ≠ 10 ∧ k ≠ 50 ∧ k ≠ 51 ∧ k ≠ 55 ∧ k ≠ 56) : ∀ (v : fw_V) (x4 : Int32), (mf_Mo_pulse_0_j81 v x4) 0 0 k = v 0 0 k := by
  intro v x4
  unfold mf_Mo_pulse_0_j81
  (try dsimp only)
  all_goals ((repeat' split) <;> (first | with_reducible rfl | (simp only [msend_0k (i := 0) (k := k) (by omega) (by omega) (by omega), mz_Mo_pulse_0_j82 hc]; done)))
theorem mz_Mo_pulse_0_j87 {k : Nat} (hc : k ≠ 10 ∧ k ≠ 50 ∧ k ≠ 51 ∧ k ≠ 55 ∧ k ≠ 56) : ∀ (v : fw_V) (x4 : Int32) (x90 : Int32), (mf_Mo_pulse_0_j87 v x4 x90) 0 0 k = v 0 0 k := by
  intro v x4 x90
  unfold mf_Mo_pulse_0_j87
  (try dsimp only)
  all_goals ((repeat' split) <;> (first | with_reducible rfl | (simp only [fw_up_ne (c := 9) (i := 0) (k := 5) (c' := 0) (i' := 0) (k' := k) (by omega), msend_0k (i := 0) (k := k) (by omega) (by omega) (by omega), mz_Mo_pulse_0_j83 hc, mz_Mo_pulse_0_j85 hc]; done)))
theorem mz_Mo_pulse_0_j80 {k : Nat} (hc : k ≠ 10 ∧ k ≠ 50 ∧ k ≠ 51 ∧ k ≠ 55 ∧ k ≠ 56) : ∀ (v : fw_V), (mf_Mo_pulse_0_j80 v) 0 0 k = v 0 0 k := by
  intro v
  unfold mf_Mo_pulse_0_j80
  (try dsimp only)
  all_goals ((repeat' split) <;> (first | with_reducible rfl | (simp only [msend_0k (i := 0) (k := k) (by omega) (by omega) (by omega), mz_Mo_pulse_0_j81 hc, mz_Mo_pulse_0_j87 hc]; done)))
theorem mz_Mo_pulse_0_j79 {k : Nat} (hc : k ≠ 10 ∧ k ≠ 50 ∧ k ≠ 51 ∧ k ≠ 55 ∧ k ≠ 56) : ∀ (v : fw_V), (mf_Mo_pulse_0_j79 v) 0 0 k = v 0 0 k := by
  intro v
  unfold mf_Mo_pulse_0_j79
  (try dsimp only)
  all_goals ((repeat' split) <;> (first | with_reducible rfl | (simp only [msend_0k (i := 0) (k := k) (by omega) (by omega) (by omega), mz_Mo_pulse_0_j80 hc]; done)))
theorem mz_Mo_pulse_0_j92 {k : Nat} (hc : k ≠ 10 ∧ k ≠ 50 ∧ k ≠ 51 ∧ k ≠ 55 ∧ k ≠ 56) : ∀ (v : fw_V), (mf_Mo_pulse_0_j92 v) 0 0 k = v 0 0 k := by
  intro v
  unfold mf_Mo_pulse_0_j92
  (try dsimp only)
  all_goals ((repeat' split) <;> (first | with_reducible rfl | (simp only [msend_0k (i := 0) (k := k) (by omega) (by omega) (by omega), mz_Mo_pulse_0_j86 hc]; done)))
theorem mz_Mo_pulse_0_j93 {k : Nat} (hc : k ≠ 10 ∧ k ≠ 50 ∧ k ≠ 51 ∧ k ≠ 55 ∧ k ≠ 56) : ∀ (v : fw_V), (mf_Mo_pulse_0_j93 v) 0 0 k = v 0 0 k := by
  intro v
  unfold mf_Mo_pulse_0_j93
  (try dsimp only)
  all_goals ((repeat' split) <;> (first | with_reducible rfl | (simp only [msend_0k (i := 0) (k := k) (by omega) (by omega) (by omega), mz_Mo_pulse_0_j86 hc]; done)))
theorem mz_Mo_pulse_0_j91 {k : Nat} (hc : k ≠ 10 ∧ k ≠ 50 ∧ k ≠ 51 ∧ k ≠ 55 ∧ k ≠ 56) : ∀ (v : fw_V) (x4 : Int32), (mf_Mo_pulse_0_j91 v x4) 0 0 k = v 0 0 k := by
  intro v x4
  unfold mf_Mo_pulse_0_j91
  (try dsimp only)
  all_goals ((repeat' split) <;> (first | with_reducible rfl | (simp only [fw_up_ne (c := 9) (i := 0) (k := 5) (c' := 0) (i' := 0) (k' := k) (by omega), msend_0k (i := 0) (k := k) (by omega) (by omega) (by omega), mz_Mo_pulse_0_j92 hc, mz_Mo_pulse_0_j93 hc]; done)))
theorem mz_Mo_pulse_0_j90 {k : Nat} (hc : k ≠ 10 ∧ k ≠ 50 ∧ k ≠ 51 ∧ k ≠ 55 ∧ k ≠ 56) : ∀ (v : fw_V) (x4 : Int32), (mf_Mo_pulse_0_j90 v x4) 0 0 k = v 0 0 k := by
  intro v x4
  unfold mf_Mo_pulse_0_j90
  (try dsimp only)
  all_goals ((repeat' split) <;> (first | with_reducible rfl | (simp only [msend_0k (i := 0) (k := k) (by omega) (by omega) (by omega), mz_Mo_pulse_0_j91 hc]; done)))
theorem mz_Mo_pulse_0_j94 {k : Nat} (hc : k ≠ 10 ∧ k ≠ 50 ∧ k ≠ 51 ∧ k ≠ 55 ∧ k ≠ 56) : ∀ (v : fw_V) (x4 : Int32) (x90 : Int32), (mf_Mo_pulse_0_j94 v x4 x90) 0 0 k = v 0 0 k := by
  intro v x4 x90
  unfold mf_Mo_pulse_0_j94
  (try dsimp only)
  all_goals ((repeat' split) <;> (first | with_reducible rfl | (simp only [fw_up_ne (c := 9) (i := 0) (k := 5) (c' := 0) (i' := 0) (k' := k) (by omega), msend_0k (i := 0) (k := k) (by omega) (by omega) (by omega), mz_Mo_pulse_0_j92 hc, mz_Mo_pulse_0_j93 hc]; done)))
theorem mz_Mo_pulse_0_j89 {k : Nat} (hc : k ≠ 10 ∧ k ≠ 50 ∧ k ≠ 51 ∧ k ≠ 55 ∧ k ≠ 56) : ∀ (v : fw_V), (mf_Mo_pulse_0_j89 v) 0 0 k = v 0 0 k := by
  intro v
  unfold mf_Mo_pulse_0_j89
  (try dsimp only)
  all_goals ((repeat' split) <;> (first | with_reducible rfl | (simp only [msend_0k (i := 0) (k := k) (by omega) (by omega) (by omega), mz_Mo_pulse_0_j90 hc, mz_Mo_pulse_0_j94 hc]; done)))
theorem mz_Mo_pulse_0_j88 {k : Nat} (hc : k ≠ 10 ∧ k ≠ 50 ∧ k ≠ 51 ∧ k ≠ 55 ∧ k ≠ 56) : ∀ (v : fw_V), (mf_Mo_pulse_0_j88 v) 0 0 k = v 0 0 k := by
  intro v
  unfold mf_Mo_pulse_0_j88
  (try dsimp only)
  all_goals ((repeat' split) <;> (first | with_reducible rfl | (simp only [msend_0k (i := 0) (k := k) (by omega) (by omega) (by omega), mz_Mo_pulse_0_j89 hc]; done)))
theorem mz_Mo_pulse_0_j78 {k : Nat} (hc : k ≠ 10 ∧ k ≠ 50 ∧ k ≠ 51 ∧ k ≠ 55 ∧ k ≠ 56) : ∀ (v : fw_V) (x4 : Int32), (mf_Mo_pulse_0_j78 v x4) 0 0 k = v 0 0 k := by
  intro v x4
  unfold mf_Mo_pulse_0_j78
  (try dsimp only)
  all_goals ((repeat' split) <;> (first | with_reducible rfl | (simp only [fw_up_ne (c := 9) (i := 0) (k := 4) (c' := 0) (i' := 0) (k' := k) (by omega), msend_0k (i := 0) (k := k) (by omega) (by omega) (by omega), mz_Mo_pulse_0_j79 hc, mz_Mo_pulse_0_j88 hc]; done)))
theorem mz_Mo_pulse_0_j77 {k : Nat} (hc : k ≠ 10 ∧ k ≠ 50 ∧ k ≠ 51 ∧ k ≠ 55 ∧ k ≠ 56) : ∀ (v : fw_V) (x4 : Int32), (mf_Mo_pulse_0_j77 v x4) 0 0 k = v 0 0 k := by
  intro v x4
  unfold mf_Mo_pulse_0_j77
  (try dsimp only)
  all_goals ((repeat' split) <;> (first | with_reducible rfl | (simp only [msend_0k (i := 0) (k := k) (by omega) (by omega) (by omega), mz_Mo_pulse_0_j78 hc]; done)))
theorem mz_Mo_pulse_0_j95 {k : Nat} (hc : k ≠ 10 ∧ k ≠ 50 ∧ k ≠ 51 ∧ k ≠ 55 ∧ k ≠ 56) : ∀ (v : fw_V) (x4 : Int32) (x90 : Int32), (mf_Mo_pulse_0_j95 v x4 x90) 0 0 k = v 0 0 k := by
  intro v x4 x90
  unfold mf_Mo_pulse_0_j95
  (try dsimp only)
  all_goals ((repeat' split) <;> (first | with_reducible rfl | (simp only [fw_up_ne (c := 9) (i := 0) (k := 4) (c' := 0) (i' := 0) (k' := k) (by omega), msend_0k (i := 0) (k := k) (by omega) (by omega) (by omega), mz_Mo_pulse_0_j79 hc, mz_Mo_pulse_0_j88 hc]; done)))
theorem mz_Mo_pulse_0_j76 {k : Nat} (hc : k ≠ 10 ∧ k ≠ 50 ∧ k ≠ 51 ∧ k ≠ 55 ∧ k ≠ 56) : ∀ (v : fw_V), (mf_Mo_pulse_0_j76 v) 0 0 k = v 0 0 k := by
  intro v
  unfold mf_Mo_pulse_0_j76
  (try dsimp only)
  all_goals ((repeat' split) <;> (first | with_reducible rfl | (simp only [msend_0k (i := 0) (k := k) (by omega) (by omega) (by omega), mz_Mo_pulse_0_j77 hc, mz_Mo_pulse_0_j95 hc]; done)))
theorem mz_Mo_pulse_0_j75 {k : Nat} (hc : k ≠ 10 ∧ k ≠ 50 ∧ k ≠ 51 ∧ k ≠ 55 ∧ k ≠ 56) : ∀ (v : fw_V), (mf_Mo_pulse_0_j75 v) 0 0 k = v 0 0 k := by
  intro v
  unfold mf_Mo_pulse_0_j75
  (try dsimp only)
  all_goals ((repeat' split) <;> (first | with_reducible rfl | (simp only [msend_0k (i := 0) (k := k) (by omega) (by omega) (by omega), mz_Mo_pulse_0_j76 hc]; done)))
theorem mz_Mo_pulse_0_j105 {k : Nat} (hc : k ≠ 10 ∧ k ≠ 50 ∧ k ≠ 51 ∧ k ≠ 55 ∧ k ≠ 56) : ∀ (v : fw_V), (mf_Mo_pulse_0_j105 v) 0 0 k = v 0 0 k := by
  intro v
  unfold mf_Mo_pulse_0_j105
  (try dsimp only)
  all_goals ((repeat' split) <;> (first | with_reducible rfl | (simp only [fw_up_ne (c := 9) (i := 0) (k := 6) (c' := 0) (i' := 0) (k' := k) (by omega), fw_up_ne (c := 34) (i := 0) (k := 0) (c' := 0) (i' := 0) (k' := k) (by omega), msend_0k (i := 0) (k := k) (by omega) (by omega) (by omega), mz_Mo_reply_0 hc]; done)))
theorem mz_Mo_pulse_0_j104 {k : Nat} (hc : k ≠ 10 ∧ k ≠ 50 ∧ k ≠ 51 ∧ k ≠ 55 ∧ k ≠ 56) : ∀ (v : fw_V), (mf_Mo_pulse_0_j104 v) 0 0 k = v 0 0 k := by
  intro v
  unfold mf_Mo_pulse_0_j104
  (try dsimp only)
  all_goals ((repeat' split) <;> (first | with_reducible rfl | (simp only [msend_0k (i := 0) (k := k) (by omega) (by omega) (by omega), mz_Mo_pulse_0_j105 hc]; done)))
theorem mz_Mo_pulse_0_j107 {k : Nat} (hc : k ≠ 10 ∧ k ≠ 50 ∧ k ≠ 51 ∧ k ≠ 55 ∧ k ≠ 56) : ∀ (v : fw_V), (mf_Mo_pulse_0_j107 v) 0 0 k = v 0 0 k := by
  intro v
  unfold mf_Mo_pulse_0_j107
  (try dsimp only)
  all_goals ((repeat' split) <;> (first | with_reducible rfl | (simp only [fw_up_ne (c := 9) (i := 0) (k := 6) (c' := 0) (i' := 0) (k' := k) (by omega), fw_up_ne (c := 34) (i := 0) (k := 0) (c' := 0) (i' := 0) (k' := k) (by omega), msend_0k (i := 0) (k := k) (by omega) (by omega) (by omega), mz_Mo_reply_0 hc]; done)))
theorem mz_Mo_pulse_0_j106 {k : Nat} (hc : k ≠ 10 ∧ k ≠ 50 ∧ k ≠ 51 ∧ k ≠ 55 ∧ k ≠ 56) : ∀ (v : fw_V), (mf_Mo_pulse_0_j106 v) 0 0 k = v 0 0 k := by
  intro v
  unfold mf_Mo_pulse_0_j106
  (try dsimp only)
  all_goals ((repeat' split) <;> (first | with_reducible rfl | (simp only [msend_0k (i := 0) (k := k) (by omega) (by omega) (by omega), mz_Mo_pulse_0_j107 hc]; done)))
theorem mz_Mo_pulse_0_j103 {k : Nat} (hc : k ≠ 10 ∧ k ≠ 50 ∧ k ≠ 51 ∧ k ≠ 55 ∧ k ≠ 56) : ∀ (v : fw_V) (x4 : Int32), (mf_Mo_pulse_0_j103 v x4) 0 0 k = v 0 0 k := by
  intro v x4
  unfold mf_Mo_pulse_0_j103
  (try dsimp only)
  all_goals ((repeat' split) <;> (first | with_reducible rfl | (simp only [fw_up_ne (c := 9) (i := 0) (k := 5) (c' := 0) (i' := 0) (k' := k) (by omega), msend_0k (i := 0) (k := k) (by omega) (by omega) (by omega), mz_Mo_pulse_0_j104 hc, mz_Mo_pulse_0_j106 hc]; done)))
theorem mz_Mo_pulse_0_j102 {k : Nat} (hc : k ≠ 10 ∧ k ≠ 50 ∧ k ≠ 51 ∧ k ≠ 55 ∧ k ≠ 56) : ∀ (v : fw_V) (x4 : Int32), (mf_Mo_pulse_0_j102 v x4) 0 0 k = v 0 0 k := by
  intro v x4
  unfold mf_Mo_pulse_0_j102
  (try dsimp only)
  all_goals ((repeat' split) <;> (first | with_reducible rfl | (simp only [msend_0k (i := 0) (k := k) (by omega) (by omega) (by omega), mz_Mo_pulse_0_j103 hc]; done)))
theorem mz_Mo_pulse_0_j108 {k : Nat} (hc : k ≠ 10 ∧ k ≠ 50 ∧ k ≠ 51 ∧ k ≠ 55 ∧ k ≠ 56) : ∀ (v : fw_V) (x4 : Int32) (x90 : Int32), (mf_Mo_pulse_0_j108 v x4 x90) 0 0 k = v 0 0 k := by
  intro v x4 x90
  unfold mf_Mo_pulse_0_j108
  (try dsimp only)
  all_goals ((repeat' split) <;> (first | with_reducible rfl | (simp only [fw_up_ne (c := 9) (i := 0) (k := 5) (c' := 0) (i' := 0) (k' := k) (by omega), msend_0k (i := 0) (k := k) (by omega) (by omega) (by omega), mz_Mo_pulse_0_j104 hc, mz_Mo_pulse_0_j106 hc]; done)))
theorem mz_Mo_pulse_0_j101 {k : Nat} (hc : k ≠ 10 ∧ k ≠ 50 ∧ k ≠ 51 ∧ k ≠ 55 ∧ k ≠ 56) : ∀ (v : fw_V), (mf_Mo_pulse_0_j101 v) 0 0 k = v 0 0 k := by
  intro v
  unfold mf_Mo_pulse_0_j101
  (try dsimp only)
  all_goals ((repeat' split) <;> (first | with_reducible rfl | (simp only [msend_0k (i := 0) (k := k) (by omega) (by omega) (by omega), mz_Mo_pulse_0_j102 hc, mz_Mo_pulse_0_j108 hc]; done)))
theorem mz_Mo_pulse_0_j100 {k : Nat} (hc : k ≠ 10 ∧ k ≠ 50 ∧ k ≠ 51 ∧ k ≠ 55 ∧ k ≠ 56) : ∀ (v : fw_V), (mf_Mo_pulse_0_j100 v) 0 0 k = v 0 0 k := by
  intro v
  unfold mf_Mo_pulse_0_j100
  (try dsimp only)
  all_goals ((repeat' split) <;> (first | with_reducible rfl | (simp only [msend_0k (i := 0) (k := k) (by omega) (by omega) (by omega), mz_Mo_pulse_0_j101 hc]; done)))
theorem mz_Mo_pulse_0_j113 {k : Nat} (hc : k ≠ 10 ∧ k ≠ 50 ∧ k ≠ 51 ∧ k ≠ 55 ∧ k ≠ 56) : ∀ (v : fw_V), (mf_Mo_pulse_0_j113 v) 0 0 k = v 0 0 k := by
  intro v
  unfold mf_Mo_pulse_0_j113
  (try dsimp only)
  all_goals ((repeat' split) <;> (first | with_reducible rfl | (simp only [msend_0k (i := 0) (k := k) (by omega) (by omega) (by omega), mz_Mo_pulse_0_j107 hc]; done)))
theorem mz_Mo_pulse_0_j114 {k : Nat} (hc : k ≠ 10 ∧ k ≠ 50 ∧ k ≠ 51 ∧ k ≠ 55 ∧ k ≠ 56) : ∀ (v : fw_V), (mf_Mo_pulse_0_j114 v) 0 0 k = v 0 0 k := by
  intro v
  unfold mf_Mo_pulse_0_j114
  (try dsimp only)
  all_goals ((repeat' split) <;> (first | with_reducible rfl | (simp only [msend_0k (i := 0) (k := k) (by omega) (by omega) (by omega), mz_Mo_pulse_0_j107 hc]; done)))
theorem mz_Mo_pulse_0_j112 {k : Nat} (hc : k ≠ 10 ∧ k ≠ 50 ∧ k ≠ 51 ∧ k ≠ 55 ∧ k ≠ 56) : ∀ (v : fw_V) (x4 : Int32), (mf_Mo_pulse_0_j112 v x4) 0 0 k = v 0 0 k := by
  intro v x4
  unfold mf_Mo_pulse_0_j112
  (try dsimp only)
  all_goals ((repeat' split) <;> (first | with_reducible rfl | (simp only [fw_up_ne (c := 9) (i := 0) (k := 5) (c' := 0) (i' := 0) (k' := k) (by omega), msend_0k (i := 0) (k := k) (by omega) (by omega) (by omega), mz_Mo_pulse_0_j113 hc, mz_Mo_pulse_0_j114 hc]; done)))
theorem mz_Mo_pulse_0_j111 {k : Nat} (hc : k ≠ 10 ∧ k ≠ 50 ∧ k ≠ 51 ∧ k ≠ 55 ∧ k ≠ 56) : ∀ (v : fw_V) (x4 : Int32), (mf_Mo_pulse_0_j111 v x4) 0 0 k = v 0 0 k := by
  intro v x4
  unfold mf_Mo_pulse_0_j111
  (try dsimp only)
  all_goals ((repeat' split) <;> (first | with_reducible rfl | (simp only [msend_0k (i := 0) (k := k) (by omega) (by omega) (by omega), mz_Mo_pulse_0_j112 hc]; done)))
theorem mz_Mo_pulse_0_j115 {k : Nat} (hc : k ≠ 10 ∧ k ≠ 50 ∧ k ≠ 51 ∧ k ≠ 55 ∧ k ≠ 56) : ∀ (v : fw_V) (x4 : Int32) (x90 : Int32), (mf_Mo_pulse_0_j115 v x4 x90) 0 0 k = v 0 0 k := by
  intro v x4 x90
  unfold mf_Mo_pulse_0_j115
  (try dsimp only)
  all_goals ((repeat' split) <;> (first | with_reducible rfl | (simp only [fw_up_ne (c := 9) (i := 0) (k := 5) (c' := 0) (i' := 0) (k' := k) (by omega), msend_0k (i := 0) (k := k) (by omega) (by omega) (by omega), mz_Mo_pulse_0_j113 hc, mz_Mo_pulse_0_j114 hc]; done)))
theorem mz_Mo_pulse_0_j110 {k : Nat} (hc : k ≠ 10 ∧ k ≠ 50 ∧ k ≠ 51 ∧ k ≠ 55 ∧ k ≠ 56) : ∀ (v : fw_V), (mf_Mo_pulse_0_j110 v) 0 0 k = v 0 0 k := by
  intro v
  unfold mf_Mo_pulse_0_j110
  (try dsimp only)
  all_goals ((repeat' split) <;> (first | with_reducible rfl | (simp only [msend_0k (i := 0) (k := k) (by omega) (by omega) (by omega), mz_Mo_pulse_0_j111 hc, mz_Mo_pulse_0_j115 hc]; done)))
theorem mz_Mo_pulse_0_j109 {k : Nat} (hc : k ≠ 10 ∧ k ≠ 50 ∧ k ≠ 51 ∧ k ≠ 55 ∧ k ≠ 56) : ∀ (v : fw_V), (mf_Mo_pulse_0_j109 v) 0 0 k = v 0 0 k := by
  intro v
  unfold mf_Mo_pulse_0_j109
  (try dsimp only)
  all_goals ((repeat' split) <;> (first | with_reducible rfl | (simp only [msend_0k (i := 0) (k := k) (by omega) (by omega) (by omega), mz_Mo_pulse_0_j110 hc]; done)))
theorem mz_Mo_pulse_0_j99 {k : Nat} (hc : k ≠ 10 ∧ k ≠ 50 ∧ k ≠ 51 ∧ k ≠ 55 ∧ k ≠ 56) : ∀ (v : fw_V) (x4 : Int32), (mf_Mo_pulse_0_j99 v x4) 0 0 k = v 0 0 k := by
  intro v x4
  unfold mf_Mo_pulse_0_j99
  (try dsimp only)
  all_goals ((repeat' split) <;> (first | with_reducible rfl | (simp only [fw_up_ne (c := 9) (i := 0) (k := 4) (c' := 0) (i' := 0) (k' := k) (by omega), msend_0k (i := 0) (k := k) (by omega) (by omega) (by omega), mz_Mo_pulse_0_j100 hc, mz_Mo_pulse_0_j109 hc]; done)))
theorem mz_Mo_pulse_0_j98 {k : Nat} (hc : k ≠ 10 ∧ k ≠ 50 ∧ k ≠ 51 ∧ k ≠ 55 ∧ k ≠ 56) : ∀ (v : fw_V) (x4 : Int32), (mf_Mo_pulse_0_j98 v x4) 0 0 k = v 0 0 k := by
  intro v x4
  unfold mf_Mo_pulse_0_j98
  (try dsimp only)
  all_goals ((repeat' split) <;> (first | with_reducible rfl | (simp only [msend_0k (i := 0) (k := k) (by omega) (by omega) (by omega), mz_Mo_pulse_0_j99 hc]; done)))
theorem mz_Mo_pulse_0_j116 {k : Nat} (hc : k ≠ 10 ∧ k ≠ 50 ∧ k ≠ 51 ∧ k ≠ 55 ∧ k ≠ 56) : ∀ (v : fw_V) (x4 : Int32) (x90 : Int32), (mf_Mo_pulse_0_j116 v x4 x90) 0 0 k = v 0 0 k := by
  intro v x4 x90
  unfold mf_Mo_pulse_0_j116
  (try dsimp only)
  all_goals ((repeat' split) <;> (first | with_reducible rfl | (simp only [fw_up_ne (c := 9) (i := 0) (k := 4) (c' := 0) (i' := 0) (k' := k) (by omega), msend_0k (i := 0) (k := k) (by omega) (by omega) (by omega), mz_Mo_pulse_0_j100 hc, mz_Mo_pulse_0_j109 hc]; done)))
theorem mz_Mo_pulse_0_j97 {k : Nat} (hc : k ≠ 10 ∧ k ≠ 50 ∧ k ≠ 51 ∧ k ≠ 55 ∧ k ≠ 56) : ∀ (v : fw_V), (mf_Mo_pulse_0_j97 v) 0 0 k = v 0 0 k := by
  intro v
  unfold mf_Mo_pulse_0_j97
  (try dsimp only)
  all_goals ((repeat' split) <;> (first | with_reducible rfl | (simp only [msend_0k (i := 0) (k := k) (by omega) (by omega) (by omega), mz_Mo_pulse_0_j98 hc, mz_Mo_pulse_0_j116 hc]; done)))
theorem mz_Mo_pulse_0_j96 {k : Nat} (hc : k ≠ 10 ∧ k ≠ 50 ∧ k ≠ 51 ∧ k ≠ 55 ∧ k ≠ 56) : ∀ (v : fw_V), (mf_Mo_pulse_0_j96 v) 0 0 k = v 0 0 k := by
  intro v
  unfold mf_Mo_pulse_0_j96
  (try dsimp only)
  all_goals ((repeat' split) <;> (first | with_reducible rfl | (simp only [msend_0k (i := 0) (k := k) (by omega) (by omega) (by omega), mz_Mo_pulse_0_j97 hc]; done)))
theorem mz_Mo_pulse_0_j74 {k : Nat} (hc : k ≠ 10 ∧ k ≠ 50 ∧ k ≠ 51 ∧ k ≠ 55 ∧ k ≠ 56) : ∀ (v : fw_V) (x4 : Int32), (mf_Mo_pulse_0_j74 v x4) 0 0 k = v 0 0 k := by
  intro v x4
  unfold mf_Mo_pulse_0_j74
  (try dsimp only)
  all_goals ((repeat' split) <;> (first | with_reducible rfl | (simp only [fw_up_ne (c := 9) (i := 0) (k := 3) (c' := 0) (i' := 0) (k' := k) (by omega), msend_0k (i := 0) (k := k) (by omega) (by omega) (by omega), mz_Mo_pulse_0_j75 hc, mz_Mo_pulse_0_j96 hc]; done)))
theorem mz_Mo_pulse_0_j73 {k : Nat} (hc : k ≠ 10 ∧ k ≠ 50 ∧ k ≠ 51 ∧ k ≠ 55 ∧ k ≠ 56) : ∀ (v : fw_V) (x4 : Int32), (mf_Mo_pulse_0_j73 v x4) 0 0 k = v 0 0 k := by
  intro v x4
  unfold mf_Mo_pulse_0_j73
  (try dsimp only)
  all_goals ((repeat' split) <;> (first | with_reducible rfl | (simp only [msend_0k (i := 0) (k := k) (by omega) (by omega) (by omega), mz_Mo_pulse_0_j74 hc]; done)))
theorem mz_Mo_pulse_0_j117 {k : Nat} (hc : k ≠ 10 ∧ k ≠ 50 ∧ k ≠ 51 ∧ k ≠ 55 ∧ k ≠ 56) : ∀ (v : fw_V) (x4 : Int32) (x90 : Int32), (mf_Mo_pulse_0_j117 v x4 x90) 0 0 k = v 0 0 k := by
  intro v x4 x90
  unfold mf_Mo_pulse_0_j117
  (try dsimp only)
  all_goals ((repeat' split) <;> (first | with_reducible rfl | (simp only [fw_up_ne (c := 9) (i := 0) (k := 3) (c' := 0) (i' := 0) (k' := k) (by omega), msend_0k (i := 0) (k := k) (by omega) (by omega) (by omega), mz_Mo_pulse_0_j75 hc, mz_Mo_pulse_0_j96 hc]; done)))
theorem mz_Mo_pulse_0_j72 {k : Nat} (hc : k ≠ 10 ∧ k ≠ 50 ∧ k ≠ 51 ∧ k ≠ 55 ∧ k ≠ 56) : ∀ (v : fw_V), (mf_Mo_pulse_0_j72 v) 0 0 k = v 0 0 k := by
  intro v
  unfold mf_Mo_pulse_0_j72
  (try dsimp only)
  all_goals ((repeat' split) <;> (first | with_reducible rfl | (simp only [msend_0k (i := 0) (k := k) (by omega) (by omega) (by omega), mz_Mo_pulse_0_j73 hc, mz_Mo_pulse_0_j117 hc]; done)))
theorem mz_Mo_pulse_0_j71 {k : Nat} (hc : k ≠ 10 ∧ k ≠ 50 ∧ k ≠ 51 ∧ k ≠ 55 ∧ k ≠ 56) : ∀ (v : fw_V), (mf_Mo_pulse_0_j71 v) 0 0 k = v 0 0 k := by
  intro v
  unfold mf_Mo_pulse_0_j71
  (try dsimp only)
  all_goals ((repeat' split) <;> (first | with_reducible rfl | (simp only [msend_0k (i := 0) (k := k) (by omega) (by omega) (by omega), mz_Mo_pulse_0_j72 hc]; done)))
theorem mz_Mo_pulse_0_j122 {k : Nat} (hc : k ≠ 10 ∧ k ≠ 50 ∧ k ≠ 51 ∧ k ≠ 55 ∧ k ≠ 56) : ∀ (v : fw_V), (mf_Mo_pulse_0_j122 v) 0 0 k = v 0 0 k := by
  intro v
  unfold mf_Mo_pulse_0_j122
  (try dsimp only)
  all_goals ((repeat' split) <;> (first | with_reducible rfl | (simp only [msend_0k (i := 0) (k := k) (by omega) (by omega) (by omega), mz_Mo_pulse_0_j97 hc]; done)))
theorem mz_Mo_pulse_0_j123 {k : Nat} (hc : k ≠ 10 ∧ k ≠ 50 ∧ k ≠ 51 ∧ k ≠ 55 ∧ k ≠ 56) : ∀ (v : fw_V), (mf_Mo_pulse_0_j123 v) 0 0 k = v 0 0 k := by
  intro v
  unfold mf_Mo_pulse_0_j123
  (try dsimp only)
  all_goals ((repeat' split) <;> (first | with_reducible rfl | (simp only [msend_0k (i := 0) (k := k) (by omega) (by omega) (by omega), mz_Mo_pulse_0_j97 hc]; done)))
theorem mz_Mo_pulse_0_j121 {k : Nat} (hc : k ≠ 10 ∧ k ≠ 50 ∧ k ≠ 51 ∧ k ≠ 55 ∧ k ≠ 56) : ∀ (v : fw_V) (x4 : Int32), (mf_Mo_pulse_0_j121 v x4) 0 0 k = v 0 0 k := by
  intro v x4
  unfold mf_Mo_pulse_0_j121
  (try dsimp only)
  all_goals ((repeat' split) <;> (first | with_reducible rfl | (simp only [fw_up_ne (c := 9) (i := 0) (k := 3) (c' := 0) (i' := 0) (k' := k) (by omega), msend_0k (i := 0) (k := k) (by omega) (by omega) (by omega), mz_Mo_pulse_0_j122 hc, mz_Mo_pulse_0_j123 hc]; done)))
theorem mz_Mo_pulse_0_j120 {k : Nat} (hc : k ≠ 10 ∧ k ≠ 50 ∧ k ≠ 51 ∧ k ≠ 55 ∧ k ≠ 56) : ∀ (v : fw_V) (x4 : Int32), (mf_Mo_pulse_0_j120 v x4) 0 0 k = v 0 0 k := by
  intro v x4
  unfold mf_Mo_pulse_0_j120
  (try dsimp only)
  all_goals ((repeat' split) <;> (first | with_reducible rfl | (simp only [msend_0k (i := 0) (k := k) (by omega) (by omega) (by omega), mz_Mo_pulse_0_j121 hc]; done)))
theorem mz_Mo_pulse_0_j124 {k : Nat} (hc : k ≠ 10 ∧ k ≠ 50 ∧ k ≠ 51 ∧ k ≠ 55 ∧ k ≠ 56) : ∀ (v : fw_V) (x4 : Int32) (x90 : Int32), (mf_Mo_pulse_0_j124 v x4 x90) 0 0 k = v 0 0 k := by
  intro v x4 x90
  unfold mf_Mo_pulse_0_j124
  (try dsimp only)
  all_goals ((repeat' split) <;> (first | with_reducible rfl | (simp only [fw_up_ne (c := 9) (i := 0) (k := 3) (c' := 0) (i' := 0) (k' := k) (by omega), msend_0k (i := 0) (k := k) (by omega) (by omega) (by omega), mz_Mo_pulse_0_j122 hc, mz_Mo_pulse_0_j123 hc]; done)))
theorem mz_Mo_pulse_0_j119 {k : Nat} (hc : k ≠ 10 ∧ k ≠ 50 ∧ k ≠ 51 ∧ k ≠ 55 ∧ k ≠ 56) : ∀ (v : fw_V), (mf_Mo_pulse_0_j119 v) 0 0 k = v 0 0 k := by
  intro v
  unfold mf_Mo_pulse_0_j119
  (try dsimp only)
  all_goals ((repeat' split) <;> (first | with_reducible rfl | (simp only [msend_0k (i := 0) (k := k) (by omega) (by omega) (by omega), mz_Mo_pulse_0_j120 hc, mz_Mo_pulse_0_j124 hc]; done)))
theorem mz_Mo_pulse_0_j118 {k : Nat} (hc : k ≠ 10 ∧ k ≠ 50 ∧ k ≠ 51 ∧ k ≠ 55 ∧ k ≠ 56) : ∀ (v : fw_V), (mf_Mo_pulse_0_j118 v) 0 0 k = v 0 0 k := by
  intro v
  unfold mf_Mo_pulse_0_j118
  (try dsimp only)
  all_goals ((repeat' split) <;> (first | with_reducible rfl | (simp only [msend_0k (i := 0) (k := k) (by omega) (by omega) (by omega), mz_Mo_pulse_0_j119 hc]; done)))
theorem mz_Mo_pulse_0_j70 {k : Nat} (hc : k ≠ 10 ∧ k ≠ 50 ∧ k ≠ 51 ∧ k ≠ 55 ∧ k ≠ 56) : ∀ (v : fw_V) (x4 : Int32), (mf_Mo_pulse_0_j70 v x4) 0 0 k = v 0 0 k := by
  intro v x4
  unfold mf_Mo_pulse_0_j70
  (try dsimp only)
  all_goals ((repeat' split) <;> (first | with_reducible rfl | (simp only [fw_up_ne (c := 9) (i := 0) (k := 2) (c' := 0) (i' := 0) (k' := k) (by omega), msend_0k (i := 0) (k := k) (by omega) (by omega) (by omega), mz_Mo_pulse_0_j71 hc, mz_Mo_pulse_0_j118 hc]; done)))
theorem mz_Mo_pulse_0_j69 {k : Nat} (hc : k ≠ 10 ∧ k ≠ 50 ∧ k ≠ 51 ∧ k ≠ 55 ∧ k ≠ 56) : ∀ (v : fw_V) (x4 : Int32), (mf_Mo_pulse_0_j69 v x4) 0 0 k = v 0 0 k := by
  intro v x4
  unfold mf_Mo_pulse_0_j69
  (try dsimp only)
  all_goals ((repeat' split) <;> (first | with_reducible rfl | (simp only [msend_0k (i := 0) (k := k) (by omega) (by omega) (by omega), mz_Mo_pulse_0_j70 hc]; done)))
theorem mz_Mo_pulse_0_j125 {k : Nat} (hc : k ≠ 10 ∧ k ≠ 50 ∧ k ≠ 51 ∧ k ≠ 55 ∧ k ≠ 56) : ∀ (v : fw_V) (x4 : Int32) (x90 : Int32), (mf_Mo_pulse_0_j125 v x4 x90) 0 0 k = v 0 0 k := by
  intro v x4 x90
  unfold mf_Mo_pulse_0_j125
  (try dsimp only)
  all_goals ((repeat' split) <;> (first | with_reducible rfl | (simp only [fw_up_ne (c := 9) (i := 0) (k := 2) (c' := 0) (i' := 0) (k' := k) (by omega), msend_0k (i := 0) (k := k) (by omega) (by omega) (by omega), mz_Mo_pulse_0_j71 hc, mz_Mo_pulse_0_j118 hc]; done)))
theorem mz_Mo_pulse_0_j68 {k : Nat} (hc : k ≠ 10 ∧ k ≠ 50 ∧ k ≠ 51 ∧ k ≠ 55 ∧ k ≠ 56) : ∀ (v : fw_V), (mf_Mo_pulse_0_j68 v) 0 0 k = v 0 0 k := by
  intro v
  unfold mf_Mo_pulse_0_j68
  (try dsimp only)
  all_goals ((repeat' split) <;> (first | with_reducible rfl | (simp only [msend_0k (i := 0) (k := k) (by omega) (by omega) (by omega), mz_Mo_pulse_0_j69 hc, mz_Mo_pulse_0_j125 hc]; done)))
theorem mz_Mo_pulse_0_j67 {k : Nat} (hc : k ≠ 10 ∧ k ≠ 50 ∧ k ≠ 51 ∧ k ≠ 55 ∧ k ≠ 56) : ∀ (v : fw_V), (mf_Mo_pulse_0_j67 v) 0 0 k = v 0 0 k := by
  intro v
  unfold mf_Mo_pulse_0_j67
  (try dsimp only)
  all_goals ((repeat' split) <;> (first | with_reducible rfl | (simp only [msend_0k (i := 0) (k := k) (by omega) (by omega) (by omega), mz_Mo_pulse_0_j68 hc]; done)))
theorem mz_Mo_pulse_0_j7 {k : Nat} (hc : k ≠ 10 ∧ k ≠ 50 ∧ k ≠ 51 ∧ k ≠ 55 ∧ k ≠ 56) : ∀ (v : fw_V) (x4 : Int32), (mf_Mo_pulse_0_j7 v x4) 0 0 k = v 0 0 k := by
  intro v x4
  unfold mf_Mo_pulse_0_j7
  (try dsimp only)
  all_goals ((repeat' split) <;> (first | with_reducible rfl | (simp only [fw_up_ne (c := 9) (i := 0) (k := 1) (c' := 0) (i' := 0) (k' := k) (by omega), msend_0k (i := 0) (k := k) (by omega) (by omega) (by omega), mz_Mo_pulse_0_j8 hc, mz_Mo_pulse_0_j67 hc]; done)))
theorem mz_Mo_pulse_0_j6 {k : Nat} (hc : k ≠ 10 ∧ k ≠ 50 ∧ k ≠ 51 ∧ k ≠ 55 ∧ k ≠ 56) : ∀ (v : fw_V) (x4 : Int32), (mf_Mo_pulse_0_j6 v x4) 0 0 k = v 0 0 k := by
  intro v x4
  unfold mf_Mo_pulse_0_j6
  (try dsimp only)
  all_goals ((repeat' split) <;> (first | with_reducible rfl | (simp only [msend_0k (i := 0) (k := k) (by omega) (by omega) (by omega), mz_Mo_pulse_0_j7 hc]; done)))
theorem mz_Mo_pulse_0_j126 {k : Nat} (hc : k ≠ 10 ∧ k ≠ 50 ∧ k ≠ 51 ∧ k ≠ 55 ∧ k ≠ 56) : ∀ (v : fw_V) (x4 : Int32) (x90 : Int32), (mf_Mo_pulse_0_j126 v x4 x90) 0 0 k = v 0 0 k := by
  intro v x4 x90
  unfold mf_Mo_pulse_0_j126
  (try dsimp only)
  all_goals ((repeat' split) <;> (first | with_reducible rfl | (simp only [fw_up_ne (c := 9) (i := 0) (k := 1) (c' := 0) (i' := 0) (k' := k) (by omega), msend_0k (i := 0) (k := k) (by omega) (by omega) (by omega), mz_Mo_pulse_0_j8 hc, mz_Mo_pulse_0_j67 hc]; done)))
theorem mz_Mo_pulse_0_j5 {k : Nat} (hc : k ≠ 10 ∧ k ≠ 50 ∧ k ≠ 51 ∧ k ≠ 55 ∧ k ≠ 56) : ∀ (v : fw_V), (mf_Mo_pulse_0_j5 v) 0 0 k = v 0 0 k := by
  intro v
  unfold mf_Mo_pulse_0_j5
  (try dsimp only)
  all_goals ((repeat' split) <;> (first | with_reducible rfl | (simp only [msend_0k (i := 0) (k := k) (by omega) (by omega) (by omega), mz_Mo_pulse_0_j6 hc, mz_Mo_pulse_0_j126 hc]; done)))
theorem mz_Mo_pulse_0_j4 {k : Nat} (hc : k ≠ 10 ∧ k ≠ 50 ∧ k ≠ 51 ∧ k ≠ 55 ∧ k ≠ 56) : ∀ (v : fw_V), (mf_Mo_pulse_0_j4 v) 0 0 k = v 0 0 k := by
  intro v
  unfold mf_Mo_pulse_0_j4
  (try dsimp only)
  all_goals ((repeat' split) <;> (first | with_reducible rfl | (simp only [msend_0k (i := 0) (k := k) (by omega) (by omega) (by omega), mz_Mo_pulse_0_j5 hc]; done)))
theorem mz_Mo_pulse_0_j131 {k : Nat} (hc : k ≠ 10 ∧ k ≠ 50 ∧ k ≠ 51 ∧ k ≠ 55 ∧ k ≠ 56) : ∀ (v : fw_V), (mf_Mo_pulse_0_j131 v) 0 0 k = v 0 0 k := by
  intro v
  unfold mf_Mo_pulse_0_j131
  (try dsimp only)
  all_goals ((repeat' split) <;> (first | with_reducible rfl | (simp only [msend_0k (i := 0) (k := k) (by omega) (by omega) (by omega), mz_Mo_pulse_0_j68 hc]; done)))
theorem mz_Mo_pulse_0_j132 {k : Nat} (hc : k ≠ 10 ∧ k ≠ 50 ∧ k ≠ 51 ∧ k ≠ 55 ∧ k ≠ 56) : ∀ (v : fw_V), (mf_Mo_pulse_0_j132 v) 0 0 k = v 0 0 k := by
  intro v
  unfold mf_Mo_pulse_0_j132
  (try dsimp only)
  all_goals ((repeat' split) <;> (first | with_reducible rfl | (simp only [msend_0k (i := 0) (k := k) (by omega) (by omega) (by omega), mz_Mo_pulse_0_j68 hc]; done)))
theorem mz_Mo_pulse_0_j130 {k : Nat} (hc : k ≠ 10 ∧ k ≠ 50 ∧ k ≠ 51 ∧ k ≠ 55 ∧ k ≠ 56) : ∀ (v : fw_V) (x4 : Int32), (mf_Mo_pulse_0_j130 v x4) 0 0 k = v 0 0 k := by
  intro v x4
  unfold mf_Mo_pulse_0_j130
  (try dsimp only)
  all_goals ((repeat' split) <;> (first | with_reducible rfl | (simp only [fw_up_ne (c := 9) (i := 0) (k := 1) (c' := 0) (i' := 0) (k' := k) (by omega), msend_0k (i := 0) (k := k) (by omega) (by omega) (by omega), mz_Mo_pulse_0_j131 hc, mz_Mo_pulse_0_j132 hc]; done)))
theorem mz_Mo_pulse_0_j129 {k : Nat} (hc : k ≠ 10 ∧ k ≠ 50 ∧ k ≠ 51 ∧ k ≠ 55 ∧ k ≠ 56) : ∀ (v : fw_V) (x4 : Int32), (mf_Mo_pulse_0_j129 v x4) 0 0 k = v 0 0 k := by
  intro v x4
  unfold mf_Mo_pulse_0_j129
  (try dsimp only)
  all_goals ((repeat' split) <;> (first | with_reducible rfl | (simp only [msend_0k (i := 0) (k := k) (by omega) (by omega) (by omega), mz_Mo_pulse_0_j130 hc]; done)))
theorem mz_Mo_pulse_0_j133 {k : Nat} (hc : k ≠ 10 ∧ k ≠ 50 ∧ k ≠ 51 ∧ k ≠ 55 ∧ k ≠ 56) : ∀ (v : fw_V) (x4 : Int32) (x90 : Int32), (mf_Mo_pulse_0_j133 v x4 x90) 0 0 k = v 0 0 k := by
  intro v x4 x90
  unfold mf_Mo_pulse_0_j133
  (try dsimp only)
  all_goals ((repeat' split) <;> (first | with_reducible rfl | (simp only [fw_up_ne (c := 9) (i := 0) (k := 1) (c' := 0) (i' := 0) (k' := k) (by omega), msend_0k (i := 0) (k := k) (by omega) (by omega) (by omega), mz_Mo_pulse_0_j131 hc, mz_Mo_pulse_0_j132 hc]; done)))
theorem mz_Mo_pulse_0_j128 {k : Nat} (hc : k ≠ 10 ∧ k ≠ 50 ∧ k ≠ 51 ∧ k ≠ 55 ∧ k ≠ 56) : ∀ (v : fw_V), (mf_Mo_pulse_0_j128 v) 0 0 k = v 0 0 k := by
  intro v
  unfold mf_Mo_pulse_0_j128
  (try dsimp only)
  all_goals ((repeat' split) <;> (first | with_reducible rfl | (simp only [msend_0k (i := 0) (k := k) (by omega) (by omega) (by omega), mz_Mo_pulse_0_j129 hc, mz_Mo_pulse_0_j133 hc]; done)))
theorem mz_Mo_pulse_0_j127 {k : Nat} (hc : k ≠ 10 ∧ k ≠ 50 ∧ k ≠ 51 ∧ k ≠ 55 ∧ k ≠ 56) : ∀ (v : fw_V), (mf_Mo_pulse_0_j127 v) 0 0 k = v 0 0 k := by
  intro v
  unfold mf_Mo_pulse_0_j127
  (try dsimp only)
  all_goals ((repeat' split) <;> (first | with_reducible rfl | (simp only [msend_0k (i := 0) (k := k) (by omega) (by omega) (by omega), mz_Mo_pulse_0_j128 hc]; done)))
theorem mz_Mo_pulse_0_j3 {k : Nat} (hc : k ≠ 10 ∧ k ≠ 50 ∧ k ≠ 51 ∧ k ≠ 55 ∧ k ≠ 56) : ∀ (v : fw_V) (x4 : Int32), (mf_Mo_pulse_0_j3 v x4) 0 0 k = v 0 0 k := by
  intro v x4
  unfold mf_Mo_pulse_0_j3
  (try dsimp only)
  all_goals ((repeat' split) <;> (first | with_reducible rfl | (simp only [fw_up_ne (c := 9) (i := 0) (k := 0) (c' := 0) (i' := 0) (k' := k) (by omega), msend_0k (i := 0) (k := k) (by omega) (by omega) (by omega), mz_Mo_pulse_0_j4 hc, mz_Mo_pulse_0_j127 hc]; done)))
theorem mz_Mo_pulse_0_j2 {k : Nat} (hc : k ≠ 10 ∧ k ≠ 50 ∧ k ≠ 51 ∧ k ≠ 55 ∧ k ≠ 56) : ∀ (v : fw_V) (x4 : Int32), (mf_Mo_pulse_0_j2 v x4) 0 0 k = v 0 0 k := by
  intro v x4
  unfold mf_Mo_pulse_0_j2
  (try dsimp only)
  all_goals ((repeat' split) <;> (first | with_reducible rfl | (simp only [msend_0k (i := 0) (k := k) (by omega) (by omega) (by omega), mz_Mo_pulse_0_j3 hc]; done)))
theorem mz_Mo_pulse_0_j134 {k : Nat} (hc : k ≠ 10 ∧ k ≠ 50 ∧ k ≠ 51 ∧ k ≠ 55 ∧ k ≠ 56) : ∀ (v : fw_V) (x4 : Int32) (x90 : Int32), (mf_Mo_pulse_0_j134 v x4 x90) 0 0 k = v 0 0 k := by
  intro v x4 x90
  unfold mf_Mo_pulse_0_j134
  (try dsimp only)
  all_goals ((repeat' split) <;> (first | with_reducible rfl | (simp only [fw_up_ne (c := 9) (i := 0) (k := 0) (c' := 0) (i' := 0) (k' := k) (by omega), msend_0k (i := 0) (k := k) (by omega) (by omega) (by omega), mz_Mo_pulse_0_j4 hc, mz_Mo_pulse_0_j127 hc]; done)))
theorem mz_Mo_pulse_0_j1 {k : Nat} (hc : k ≠ 10 ∧ k ≠ 50 ∧ k ≠ 51 ∧ k ≠ 55 ∧ k ≠ 56) : ∀ (v : fw_V), (mf_Mo_pulse_0_j1 v) 0 0 k = v 0 0 k := by
  intro v
  unfold mf_Mo_pulse_0_j1
  (try dsimp only)
  all_goals ((repeat' split) <;> (first | with_reducible rfl | (simp only [msend_0k (i := 0) (k := k) (by omega) (by omega) (by omega), mz_Mo_pulse_0_j2 hc, mz_Mo_pulse_0_j134 hc]; done)))
theorem mz_Mo_pulse_0 {k : Nat} (hc : k ≠ 10 ∧ k ≠ 50 ∧ k ≠ 51 ∧ k ≠ 55 ∧ k ≠ 56) : ∀ (v0 : fw_V), (mf_Mo_pulse_0 v0) 0 0 k = v0 0 0 k := by
  intro v0
  unfold mf_Mo_pulse_0
  (try dsimp only)
  all_goals ((repeat' split) <;> (first | with_reducible rfl | (simp only [fw_up_ne (c := 32) (i := 0) (k := 0) (c' := 0) (i' := 0) (k' := k) (by omega), fw_up_ne (c := 33) (i := 0) (k := 0) (c' := 0) (i' := 0) (k' := k) (by omega), fw_up_ne (c := 0) (i := 0) (k := 56) (c' := 0) (i' := 0) (k' := k) (by omega), msend_0k (i := 0) (k := k) (by omega) (by omega) (by omega), mz_Mo_rest_0 hc, mz_Mo_quit_0 hc, mz_Mo_reply_0 hc, mz_Mo_alarm_0 hc, mz_Mo_pulse_0_j1 hc]; done)))
theorem mz_Mo_enter_1 {k : Nat} (hc : k ≠ 10 ∧ k ≠ 50 ∧ k ≠ 51 ∧ k ≠ 55 ∧ k ≠ 56) : ∀ (v0 : fw_V) (a2 : Int32), (mf_Mo_enter_1 v0 a2) 0 0 k = v0 0 0 k := by
  intro v0 a2
  unfold mf_Mo_enter_1
  (try dsimp only)
  all_goals ((repeat' split) <;> (first | with_reducible rfl | (simp only [fw_up_ne (c := 12) (i := 0) (k := 1) (c' := 0) (i' := 0) (k' := k) (by omega), fw_up_ne (c := 18) (i := 0) (k := 1) (c' := 0) (i' := 0) (k' := k) (by omega), fw_up_ne (c := 19) (i := 0) (k := 1) (c' := 0) (i' := 0) (k' := k) (by omega), msend_0k (i := 0) (k := k) (by omega) (by omega) (by omega)]; done)))
theorem mz_Mo_ask_1 {k : Nat} (hc : k ≠ 10 ∧ k ≠ 50 ∧ k ≠ 51 ∧ k ≠ 55 ∧ k ≠ 56) : ∀ (v0 : fw_V), (mf_Mo_ask_1 v0) 0 0 k = v0 0 0 k := by
  intro v0
  unfold mf_Mo_ask_1
  (try dsimp only)
  all_goals ((repeat' split) <;> (first | with_reducible rfl | (simp only [fw_up_ne (c := 18) (i := 0) (k := 1) (c' := 0) (i' := 0) (k' := k) (by omega), fw_up_ne (c := 9) (i := 0) (k := 0) (c' := 0) (i' := 0) (k' := k) (by omega), fw_up_ne (c := 9) (i := 0) (k := 1) (c' := 0) (i' := 0) (k' := k) (by omega), fw_up_ne (c := 9) (i := 0) (k := 2) (c' := 0) (i' := 0) (k' := k) (by omega), msend_0k (i := 0) (k := k) (by omega) (by omega) (by omega)]; done)))
theorem mz_Mo_shut_1 {k : Nat} (hc : k ≠ 10 ∧ k ≠ 50 ∧ k ≠ 51 ∧ k ≠ 55 ∧ k ≠ 56) : ∀ (v0 : fw_V), (mf_Mo_shut_1 v0) 0 0 k = v0 0 0 k := by
  intro v0
  unfold mf_Mo_shut_1
  (try dsimp only)
  all_goals ((repeat' split) <;> (first | with_reducible rfl | (simp only [fw_up_ne (c := 13) (i := 0) (k := 1) (c' := 0) (i' := 0) (k' := k) (by omega), fw_up_ne (c := 15) (i := 0) (k := 1) (c' := 0) (i' := 0) (k' := k) (by omega), fw_up_ne (c := 16) (i := 0) (k := 1) (c' := 0) (i' := 0) (k' := k) (by omega), fw_up_ne (c := 17) (i := 0) (k := 1) (c' := 0) (i' := 0) (k' := k) (by omega), fw_up_ne (c := 27) (i := 0) (k := 6) (c' := 0) (i' := 0) (k' := k) (by omega), fw_up_ne (c := 27) (i := 0) (k := 7) (c' := 0) (i' := 0) (k' := k) (by omega), fw_up_ne (c := 27) (i := 0) (k := 8) (c' := 0) (i' := 0) (k' := k) (by omega), fw_up_ne (c := 27) (i := 0) (k := 9) (c' := 0) (i' := 0) (k' := k) (by omega), fw_up_ne (c := 27) (i := 0) (k := 10) (c' := 0) (i' := 0) (k' := k) (by omega), fw_up_ne (c := 27) (i := 0) (k := 11) (c' := 0) (i' := 0) (k' := k) (by omega), msend_0k (i := 0) (k := k) (by omega) (by omega) (by omega), mz_Mo_enter_1 hc]; done)))
theorem mz_Mo_write_1_j2 {k : Nat} (hc : k ≠ 10 ∧ k ≠ 50 ∧ k ≠ 51 ∧ k ≠ 55 ∧ k ≠ 56) : ∀ (v : fw_V) (a2 : Int32) (x3 : Int32), (mf_Mo_write_1_j2 v a2 x3) 0 0 k = v 0 0 k := by
  intro v a2 x3
  unfold mf_Mo_write_1_j2
  (try dsimp only)
  all_goals ((repeat' split) <;> (first | with_reducible rfl | (simp only [fw_up_ne (c := 20) (i := 0) (k := 1) (c' := 0) (i' := 0) (k' := k) (by omega), msend_0k (i := 0) (k := k) (by omega) (by omega) (by omega), mz_Mo_enter_1 hc, mz_Mo_ask_1 hc]; done)))
theorem mz_Mo_write_1_j3 {k : Nat} (hc : k ≠ 10 ∧ k ≠ 50 ∧ k ≠ 51 ∧ k ≠ 55 ∧ k ≠ 56) : ∀ (v : fw_V) (a2 : Int32) (x3 : Int32), (mf_Mo_write_1_j3 v a2 x3) 0 0 k = v 0 0 k := by
  intro v a2 x3
  unfold mf_Mo_write_1_j3
  (try dsimp only)
  all_goals ((repeat' split) <;> (first | with_reducible rfl | (simp only [fw_up_ne (c := 20) (i := 0) (k := 1) (c' := 0) (i' := 0) (k' := k) (by omega), msend_0k (i := 0) (k := k) (by omega) (by omega) (by omega), mz_Mo_enter_1 hc, mz_Mo_ask_1 hc]; done)))
theorem mz_Mo_write_1_j1 {k : Nat} (hc : k ≠ 10 ∧ k ≠ 50 ∧ k ≠ 51 ∧ k ≠ 55 ∧ k ≠ 56) : ∀ (n : Nat) (v : fw_V) (a2 : Int32) (x3 : Int32), (mf_Mo_write_1_j1 n v a2 x3) 0 0 k = v 0 0 k := by
  intro n
  induction n with
  | zero => intros; rfl
  | succ n ih =>
    intro v a2 x3
    unfold mf_Mo_write_1_j1
    (try dsimp only)
    all_goals ((repeat' split) <;> (first | with_reducible rfl | (simp only [ih, msend_0k (i := 0) (k := k) (by omega) (by omega) (by omega), mz_Mo_write_1_j2 hc, mz_Mo_write_1_j3 hc]; done)))
theorem mz_Mo_write_1 {k : Nat} (hc : k ≠ 10 ∧ k ≠ 50 ∧ k ≠ 51 ∧ k ≠ 55 ∧ k ≠ 56) : ∀ (v0 : fw_V) (a2 : Int32), (mf_Mo_write_1 v0 a2) 0 0 k = v0 0 0 k := by
  intro v0 a2
  unfold mf_Mo_write_1
  (try dsimp only)
  all_goals ((repeat' split) <;> (first | with_reducible rfl | (simp only [msend_0k (i := 0) (k := k) (by omega) (by omega) (by omega), mz_Mo_write_1_j1 hc]; done)))
theorem mz_Mo_breakOff_1 {k : Nat} (hc : k ≠ 10 ∧ k ≠ 50 ∧ k ≠ 51 ∧ k ≠ 55 ∧ k ≠ 56) : ∀ (v0 : fw_V), (mf_Mo_breakOff_1 v0) 0 0 k = v0 0 0 k := by
  intro v0
  unfold mf_Mo_breakOff_1
  (try dsimp only)
  all_goals ((repeat' split) <;> (first | with_reducible rfl | (simp only [msend_0k (i := 0) (k := k) (by omega) (by omega) (by omega), mz_Mo_shut_1 hc]; done)))
theorem mz_Mo_tell_1_j2 {k : Nat} (hc : k ≠ 10 ∧ k ≠ 50 ∧ k ≠ 51 ∧ k ≠ 55 ∧ k ≠ 56) : ∀ (v : fw_V) (a2 : Int32) (x3 : Int32) (x4 : Int32) (x90 : Int32), (mf_Mo_tell_1_j2 v a2 x3 x4 x90) 0 0 k = v 0 0 k := by
  intro v a2 x3 x4 x90
  unfold mf_Mo_tell_1_j2
  (try dsimp only)
  all_goals ((repeat' split) <;> (first | with_reducible rfl | (simp only [fw_up_ne (c := 16) (i := 0) (k := 1) (c' := 0) (i' := 0) (k' := k) (by omega), fw_up_ne (c := 49) (i := 0) (k := 7) (c' := 0) (i' := 0) (k' := k) (by omega), fw_up_ne (c := 49) (i := 0) (k := 6) (c' := 0) (i' := 0) (k' := k) (by omega), fw_up_ne (c := 49) (i := 0) (k := 5) (c' := 0) (i' := 0) (k' := k) (by omega), fw_up_ne (c := 49) (i := 0) (k := 4) (c' := 0) (i' := 0) (k' := k) (by omega), fw_up_ne (c := 49) (i := 0) (k := 3) (c' := 0) (i' := 0) (k' := k) (by omega), fw_up_ne (c := 49) (i := 0) (k := 2) (c' := 0) (i' := 0) (k' := k) (by omega), fw_up_ne (c := 49) (i := 0) (k := 1) (c' := 0) (i' := 0) (k' := k) (by omega), fw_up_ne (c := 49) (i := 0) (k := 0) (c' := 0) (i' := 0) (k' := k) (by omega), fw_up_ne (c := 0) (i := 0) (k := 55) (c' := 0) (i' := 0) (k' := k) (by omega), msend_0k (i := 0) (k := k) (by omega) (by omega) (by omega)]; done)))
theorem mz_Mo_tell_1_j1 {k : Nat} (hc : k ≠ 10 ∧ k ≠ 50 ∧ k ≠ 51 ∧ k ≠ 55 ∧ k ≠ 56) : ∀ (v : fw_V) (a2 : Int32) (x3 : Int32) (x4 : Int32), (mf_Mo_tell_1_j1 v a2 x3 x4) 0 0 k = v 0 0 k := by
  intro v a2 x3 x4
  unfold mf_Mo_tell_1_j1
  (try dsimp only)
  all_goals ((repeat' split) <;> (first | with_reducible rfl | (simp only [msend_0k (i := 0) (k := k) (by omega) (by omega) (by omega), mz_Mo_tell_1_j2 hc]; done)))
theorem mz_Mo_tell_1 {k : Nat} (hc : k ≠ 10 ∧ k ≠ 50 ∧ k ≠ 51 ∧ k ≠ 55 ∧ k ≠ 56) : ∀ (v0 : fw_V) (a2 : Int32), (mf_Mo_tell_1 v0 a2) 0 0 k = v0 0 0 k := by
  intro v0 a2
  unfold mf_Mo_tell_1
  (try dsimp only)
  all_goals ((repeat' split) <;> (first | with_reducible rfl | (simp only [fw_up_ne (c := 23) (i := 0) (k := 1) (c' := 0) (i' := 0) (k' := k) (by omega), msend_0k (i := 0) (k := k) (by omega) (by omega) (by omega), mz_Mo_tell_1_j1 hc, mz_Mo_tell_1_j2 hc]; done)))
theorem mz_Mo_hears_1_j6 {k : Nat} (hc : k ≠ 10 ∧ k ≠ 50 ∧ k ≠ 51 ∧ k ≠ 55 ∧ k ≠ 56) : ∀ (v0 : fw_V) (a2 : Int32) (a3 : Int32), (mf_Mo_hears_1_j6 v0 a2 a3) 0 0 k = v0 0 0 k := by
  intro v0 a2 a3
  unfold mf_Mo_hears_1_j6
  (try dsimp only)
  all_goals ((repeat' split) <;> (first | with_reducible rfl | (simp only [msend_0k (i := 0) (k := k) (by omega) (by omega) (by omega), mz_Mo_tell_1 hc, mz_Mo_shut_1 hc]; done)))
theorem mz_Mo_hears_1_j5 {k : Nat} (hc : k ≠ 10 ∧ k ≠ 50 ∧ k ≠ 51 ∧ k ≠ 55 ∧ k ≠ 56) : ∀ (v0 : fw_V) (a2 : Int32) (a3 : Int32), (mf_Mo_hears_1_j5 v0 a2 a3) 0 0 k = v0 0 0 k := by
  intro v0 a2 a3
  unfold mf_Mo_hears_1_j5
  (try dsimp only)
  all_goals ((repeat' split) <;> (first | with_reducible rfl | (simp only [fw_up_ne (c := 22) (i := 0) (k := 1) (c' := 0) (i' := 0) (k' := k) (by omega), fw_up_ne (c := 18) (i := 0) (k := 1) (c' := 0) (i' := 0) (k' := k) (by omega), fw_up_ne (c := 17) (i := 0) (k := 1) (c' := 0) (i' := 0) (k' := k) (by omega), fw_up_ne (c := 27) (i := 0) (k := 6) (c' := 0) (i' := 0) (k' := k) (by omega), fw_up_ne (c := 27) (i := 0) (k := 7) (c' := 0) (i' := 0) (k' := k) (by omega), fw_up_ne (c := 27) (i := 0) (k := 8) (c' := 0) (i' := 0) (k' := k) (by omega), fw_up_ne (c := 27) (i := 0) (k := 9) (c' := 0) (i' := 0) (k' := k) (by omega), fw_up_ne (c := 27) (i := 0) (k := 10) (c' := 0) (i' := 0) (k' := k) (by omega), fw_up_ne (c := 27) (i := 0) (k := 11) (c' := 0) (i' := 0) (k' := k) (by omega), msend_0k (i := 0) (k := k) (by omega) (by omega) (by omega), mz_Mo_hears_1_j6 hc]; done)))
theorem mz_Mo_hears_1_j4 {k : Nat} (hc : k ≠ 10 ∧ k ≠ 50 ∧ k ≠ 51 ∧ k ≠ 55 ∧ k ≠ 56) : ∀ (v0 : fw_V) (a2 : Int32) (a3 : Int32), (mf_Mo_hears_1_j4 v0 a2 a3) 0 0 k = v0 0 0 k := by
  intro v0 a2 a3
  unfold mf_Mo_hears_1_j4
  (try dsimp only)
  all_goals ((repeat' split) <;> (first | with_reducible rfl | (simp only [fw_up_ne (c := 21) (i := 0) (k := 1) (c' := 0) (i' := 0) (k' := k) (by omega), fw_up_ne (c := 22) (i := 0) (k := 1) (c' := 0) (i' := 0) (k' := k) (by omega), fw_up_ne (c := 17) (i := 0) (k := 1) (c' := 0) (i' := 0) (k' := k) (by omega), msend_0k (i := 0) (k := k) (by omega) (by omega) (by omega), mz_Mo_hears_1_j5 hc, mz_Mo_enter_1 hc]; done)))
theorem mz_Mo_hears_1_j3 {k : Nat} (hc : k ≠ 10 ∧ k ≠ 50 ∧ k ≠ 51 ∧ k ≠ 55 ∧ k ≠ 56) : ∀ (v0 : fw_V) (a2 : Int32) (a3 : Int32), (mf_Mo_hears_1_j3 v0 a2 a3) 0 0 k = v0 0 0 k := by
  intro v0 a2 a3
  unfold mf_Mo_hears_1_j3
  (try dsimp only)
  all_goals ((repeat' split) <;> (first | with_reducible rfl | (simp only [msend_0k (i := 0) (k := k) (by omega) (by omega) (by omega), mz_Mo_enter_1 hc, mz_Mo_hears_1_j4 hc]; done)))
theorem mz_Mo_hears_1_j2 {k : Nat} (hc : k ≠ 10 ∧ k ≠ 50 ∧ k ≠ 51 ∧ k ≠ 55 ∧ k ≠ 56) : ∀ (v0 : fw_V) (a2 : Int32) (a3 : Int32), (mf_Mo_hears_1_j2 v0 a2 a3) 0 0 k = v0 0 0 k := by
  intro v0 a2 a3
  unfold mf_Mo_hears_1_j2
  (try dsimp only)
  all_goals ((repeat' split) <;> (first | with_reducible rfl | (simp only [msend_0k (i := 0) (k := k) (by omega) (by omega) (by omega), mz_Mo_write_1 hc, mz_Mo_hears_1_j3 hc]; done)))
theorem mz_Mo_hears_1_j1 {k : Nat} (hc : k ≠ 10 ∧ k ≠ 50 ∧ k ≠ 51 ∧ k ≠ 55 ∧ k ≠ 56) : ∀ (v0 : fw_V) (a2 : Int32) (a3 : Int32), (mf_Mo_hears_1_j1 v0 a2 a3) 0 0 k = v0 0 0 k := by
  intro v0 a2 a3
  unfold mf_Mo_hears_1_j1
  (try dsimp only)
  all_goals ((repeat' split) <;> (first | with_reducible rfl | (simp only [msend_0k (i := 0) (k := k) (by omega) (by omega) (by omega), mz_Mo_shut_1 hc, mz_Mo_hears_1_j2 hc]; done)))
theorem mz_Mo_hears_1 {k : Nat} (hc : k ≠ 10 ∧ k ≠ 50 ∧ k ≠ 51 ∧ k ≠ 55 ∧ k ≠ 56) : ∀ (v0 : fw_V) (a2 : Int32) (a3 : Int32), (mf_Mo_hears_1 v0 a2 a3) 0 0 k = v0 0 0 k := by
  intro v0 a2 a3
  unfold mf_Mo_hears_1
  (try dsimp only)
  all_goals ((repeat' split) <;> (first | with_reducible rfl | (simp only [fw_up_ne (c := 16) (i := 0) (k := 1) (c' := 0) (i' := 0) (k' := k) (by omega), msend_0k (i := 0) (k := k) (by omega) (by omega) (by omega), mz_Mo_write_1 hc, mz_Mo_hears_1_j1 hc]; done)))
theorem mz_Mo_beat_1_j25 {k : Nat} (hc : k ≠ 10 ∧ k ≠ 50 ∧ k ≠ 51 ∧ k ≠ 55 ∧ k ≠ 56) : ∀ (v : fw_V), (mf_Mo_beat_1_j25 v) 0 0 k = v 0 0 k := by
  intro v
  unfold mf_Mo_beat_1_j25
  (try dsimp only)
  all_goals ((repeat' split) <;> (first | with_reducible rfl | (simp only [fw_up_ne (c := 21) (i := 0) (k := 1) (c' := 0) (i' := 0) (k' := k) (by omega), msend_0k (i := 0) (k := k) (by omega) (by omega) (by omega)]; done)))
theorem mz_Mo_beat_1_j24 {k : Nat} (hc : k ≠ 10 ∧ k ≠ 50 ∧ k ≠ 51 ∧ k ≠ 55 ∧ k ≠ 56) : ∀ (v : fw_V), (mf_Mo_beat_1_j24 v) 0 0 k = v 0 0 k := by
  intro v
  unfold mf_Mo_beat_1_j24
  (try dsimp only)
  all_goals ((repeat' split) <;> (first | with_reducible rfl | (simp only [fw_up_ne (c := 9) (i := 0) (k := 5) (c' := 0) (i' := 0) (k' := k) (by omega), msend_0k (i := 0) (k := k) (by omega) (by omega) (by omega), mz_Mo_beat_1_j25 hc]; done)))
theorem mz_Mo_beat_1_j23 {k : Nat} (hc : k ≠ 10 ∧ k ≠ 50 ∧ k ≠ 51 ∧ k ≠ 55 ∧ k ≠ 56) : ∀ (v : fw_V), (mf_Mo_beat_1_j23 v) 0 0 k = v 0 0 k := by
  intro v
  unfold mf_Mo_beat_1_j23
  (try dsimp only)
  all_goals ((repeat' split) <;> (first | with_reducible rfl | (simp only [msend_0k (i := 0) (k := k) (by omega) (by omega) (by omega), mz_Mo_beat_1_j24 hc]; done)))
theorem mz_Mo_beat_1_j22 {k : Nat} (hc : k ≠ 10 ∧ k ≠ 50 ∧ k ≠ 51 ∧ k ≠ 55 ∧ k ≠ 56) : ∀ (v : fw_V), (mf_Mo_beat_1_j22 v) 0 0 k = v 0 0 k := by
  intro v
  unfold mf_Mo_beat_1_j22
  (try dsimp only)
  all_goals ((repeat' split) <;> (first | with_reducible rfl | (simp only [msend_0k (i := 0) (k := k) (by omega) (by omega) (by omega), mz_Mo_beat_1_j23 hc]; done)))
theorem mz_Mo_beat_1_j27 {k : Nat} (hc : k ≠ 10 ∧ k ≠ 50 ∧ k ≠ 51 ∧ k ≠ 55 ∧ k ≠ 56) : ∀ (v : fw_V) (x90 : Int32), (mf_Mo_beat_1_j27 v x90) 0 0 k = v 0 0 k := by
  intro v x90
  unfold mf_Mo_beat_1_j27
  (try dsimp only)
  all_goals ((repeat' split) <;> (first | with_reducible rfl | (simp only [fw_up_ne (c := 9) (i := 0) (k := 5) (c' := 0) (i' := 0) (k' := k) (by omega), msend_0k (i := 0) (k := k) (by omega) (by omega) (by omega), mz_Mo_beat_1_j25 hc]; done)))
theorem mz_Mo_beat_1_j26 {k : Nat} (hc : k ≠ 10 ∧ k ≠ 50 ∧ k ≠ 51 ∧ k ≠ 55 ∧ k ≠ 56) : ∀ (v : fw_V), (mf_Mo_beat_1_j26 v) 0 0 k = v 0 0 k := by
  intro v
  unfold mf_Mo_beat_1_j26
  (try dsimp only)
  all_goals ((repeat' split) <;> (first | with_reducible rfl | (simp only [msend_0k (i := 0) (k := k) (by omega) (by omega) (by omega), mz_Mo_beat_1_j27 hc]; done)))
theorem mz_Mo_beat_1_j21 {k : Nat} (hc : k ≠ 10 ∧ k ≠ 50 ∧ k ≠ 51 ∧ k ≠ 55 ∧ k ≠ 56) : ∀ (v : fw_V), (mf_Mo_beat_1_j21 v) 0 0 k = v 0 0 k := by
  intro v
  unfold mf_Mo_beat_1_j21
  (try dsimp only)
  all_goals ((repeat' split) <;> (first | with_reducible rfl | (simp only [msend_0k (i := 0) (k := k) (by omega) (by omega) (by omega), mz_Mo_beat_1_j22 hc, mz_Mo_beat_1_j26 hc]; done)))
theorem mz_Mo_beat_1_j20 {k : Nat} (hc : k ≠ 10 ∧ k ≠ 50 ∧ k ≠ 51 ∧ k ≠ 55 ∧ k ≠ 56) : ∀ (v : fw_V), (mf_Mo_beat_1_j20 v) 0 0 k = v 0 0 k := by
  intro v
  unfold mf_Mo_beat_1_j20
  (try dsimp only)
  all_goals ((repeat' split) <;> (first | with_reducible rfl | (simp only [fw_up_ne (c := 9) (i := 0) (k := 4) (c' := 0) (i' := 0) (k' := k) (by omega), msend_0k (i := 0) (k := k) (by omega) (by omega) (by omega), mz_Mo_beat_1_j21 hc]; done)))
theorem mz_Mo_beat_1_j19 {k : Nat} (hc : k ≠ 10 ∧ k ≠ 50 ∧ k ≠ 51 ∧ k ≠ 55 ∧ k ≠ 56) : ∀ (v : fw_V), (mf_Mo_beat_1_j19 v) 0 0 k = v 0 0 k := by
  intro v
  unfold mf_Mo_beat_1_j19
  (try dsimp only)
  all_goals ((repeat' split) <;> (first | with_reducible rfl | (simp only [msend_0k (i := 0) (k := k) (by omega) (by omega) (by omega), mz_Mo_beat_1_j20 hc]; done)))
theorem mz_Mo_beat_1_j18 {k : Nat} (hc : k ≠ 10 ∧ k ≠ 50 ∧ k ≠ 51 ∧ k ≠ 55 ∧ k ≠ 56) : ∀ (v : fw_V), (mf_Mo_beat_1_j18 v) 0 0 k = v 0 0 k := by
  intro v
  unfold mf_Mo_beat_1_j18
  (try dsimp only)
  all_goals ((repeat' split) <;> (first | with_reducible rfl | (simp only [msend_0k (i := 0) (k := k) (by omega) (by omega) (by omega), mz_Mo_beat_1_j19 hc]; done)))
theorem mz_Mo_beat_1_j29 {k : Nat} (hc : k ≠ 10 ∧ k ≠ 50 ∧ k ≠ 51 ∧ k ≠ 55 ∧ k ≠ 56) : ∀ (v : fw_V) (x90 : Int32), (mf_Mo_beat_1_j29 v x90) 0 0 k = v 0 0 k := by
  intro v x90
  unfold mf_Mo_beat_1_j29
  (try dsimp only)
  all_goals ((repeat' split) <;> (first | with_reducible rfl | (simp only [fw_up_ne (c := 9) (i := 0) (k := 4) (c' := 0) (i' := 0) (k' := k) (by omega), msend_0k (i := 0) (k := k) (by omega) (by omega) (by omega), mz_Mo_beat_1_j21 hc]; done)))
theorem mz_Mo_beat_1_j28 {k : Nat} (hc : k ≠ 10 ∧ k ≠ 50 ∧ k ≠ 51 ∧ k ≠ 55 ∧ k ≠ 56) : ∀ (v : fw_V), (mf_Mo_beat_1_j28 v) 0 0 k = v 0 0 k := by
  intro v
  unfold mf_Mo_beat_1_j28
  (try dsimp only)
  all_goals ((repeat' split) <;> (first | with_reducible rfl | (simp only [msend_0k (i := 0) (k := k) (by omega) (by omega) (by omega), mz_Mo_beat_1_j29 hc]; done)))
theorem mz_Mo_beat_1_j17 {k : Nat} (hc : k ≠ 10 ∧ k ≠ 50 ∧ k ≠ 51 ∧ k ≠ 55 ∧ k ≠ 56) : ∀ (v : fw_V), (mf_Mo_beat_1_j17 v) 0 0 k = v 0 0 k := by
  intro v
  unfold mf_Mo_beat_1_j17
  (try dsimp only)
  all_goals ((repeat' split) <;> (first | with_reducible rfl | (simp only [msend_0k (i := 0) (k := k) (by omega) (by omega) (by omega), mz_Mo_beat_1_j18 hc, mz_Mo_beat_1_j28 hc]; done)))
theorem mz_Mo_beat_1_j16 {k : Nat} (hc : k ≠ 10 ∧ k ≠ 50 ∧ k ≠ 51 ∧ k ≠ 55 ∧ k ≠ 56) : ∀ (v : fw_V), (mf_Mo_beat_1_j16 v) 0 0 k = v 0 0 k := by
  intro v
  unfold mf_Mo_beat_1_j16
  (try dsimp only)
  all_goals ((repeat' split) <;> (first | with_reducible rfl | (simp only [fw_up_ne (c := 9) (i := 0) (k := 3) (c' := 0) (i' := 0) (k' := k) (by omega), msend_0k (i := 0) (k := k) (by omega) (by omega) (by omega), mz_Mo_beat_1_j17 hc]; done)))
theorem mz_Mo_beat_1_j15 {k : Nat} (hc : k ≠ 10 ∧ k ≠ 50 ∧ k ≠ 51 ∧ k ≠ 55 ∧ k ≠ 56) : ∀ (v : fw_V), (mf_Mo_beat_1_j15 v) 0 0 k = v 0 0 k := by
  intro v
  unfold mf_Mo_beat_1_j15
  (try dsimp only)
  all_goals ((repeat' split) <;> (first | with_reducible rfl | (simp only [msend_0k (i := 0) (k := k) (by omega) (by omega) (by omega), mz_Mo_beat_1_j16 hc]; done)))
theorem mz_Mo_beat_1_j14 {k : Nat} (hc : k ≠ 10 ∧ k ≠ 50 ∧ k ≠ 51 ∧ k ≠ 55 ∧ k ≠ 56) : ∀ (v : fw_V), (mf_Mo_beat_1_j14 v) 0 0 k = v 0 0 k := by
  intro v
  unfold mf_Mo_beat_1_j14
  (try dsimp only)
  all_goals ((repeat' split) <;> (first | with_reducible rfl | (simp only [msend_0k (i := 0) (k := k) (by omega) (by omega) (by omega), mz_Mo_beat_1_j15 hc]; done)))
theorem mz_Mo_beat_1_j31 {k : Nat} (hc : k ≠ 10 ∧ k ≠ 50 ∧ k ≠ 51 ∧ k ≠ 55 ∧ k ≠ 56) : ∀ (v : fw_V) (x90 : Int32), (mf_Mo_beat_1_j31 v x90) 0 0 k = v 0 0 k := by
  intro v x90
  unfold mf_Mo_beat_1_j31
  (try dsimp only)
  all_goals ((repeat' split) <;> (first | with_reducible rfl | (simp only [fw_up_ne (c := 9) (i := 0) (k := 3) (c' := 0) (i' := 0) (k' := k) (by omega), msend_0k (i := 0) (k := k) (by omega) (by omega) (by omega), mz_Mo_beat_1_j17 hc]; done)))
theorem mz_Mo_beat_1_j30 {k : Nat} (hc : k ≠ 10 ∧ k ≠ 50 ∧ k ≠ 51 ∧ k ≠ 55 ∧ k ≠ 56) : ∀ (v : fw_V), (mf_Mo_beat_1_j30 v) 0 0 k = v 0 0 k := by
  intro v
  unfold mf_Mo_beat_1_j30
  (try dsimp only)
  all_goals ((repeat' split) <;> (first | with_reducible rfl | (simp only [msend_0k (i := 0) (k := k) (by omega) (by omega) (by omega), mz_Mo_beat_1_j31 hc]; done)))
theorem mz_Mo_beat_1_j13 {k : Nat} (hc : k ≠ 10 ∧ k ≠ 50 ∧ k ≠ 51 ∧ k ≠ 55 ∧ k ≠ 56) : ∀ (v : fw_V), (mf_Mo_beat_1_j13 v) 0 0 k = v 0 0 k := by
  intro v
  unfold mf_Mo_beat_1_j13
  (try dsimp only)
  all_goals ((repeat' split) <;> (first | with_reducible rfl | (simp only [msend_0k (i := 0) (k := k) (by omega) (by omega) (by omega), mz_Mo_beat_1_j14 hc, mz_Mo_beat_1_j30 hc]; done)))
theorem mz_Mo_beat_1_j12 {k : Nat} (hc : k ≠ 10 ∧ k ≠ 50 ∧ k ≠ 51 ∧ k ≠ 55 ∧ k ≠ 56) : ∀ (v : fw_V), (mf_Mo_beat_1_j12 v) 0 0 k = v 0 0 k := by
  intro v
  unfold mf_Mo_beat_1_j12
  (try dsimp only)
  all_goals ((repeat' split) <;> (first | with_reducible rfl | (simp only [fw_up_ne (c := 9) (i := 0) (k := 2) (c' := 0) (i' := 0) (k' := k) (by omega), msend_0k (i := 0) (k := k) (by omega) (by omega) (by omega), mz_Mo_beat_1_j13 hc]; done)))
theorem mz_Mo_beat_1_j11 {k : Nat} (hc : k ≠ 10 ∧ k ≠ 50 ∧ k ≠ 51 ∧ k ≠ 55 ∧ k ≠ 56) : ∀ (v : fw_V), (mf_Mo_beat_1_j11 v) 0 0 k = v 0 0 k := by
  intro v
  unfold mf_Mo_beat_1_j11
  (try dsimp only)
  all_goals ((repeat' split) <;> (first | with_reducible rfl | (simp only [msend_0k (i := 0) (k := k) (by omega) (by omega) (by omega), mz_Mo_beat_1_j12 hc]; done)))
theorem mz_Mo_beat_1_j10 {k : Nat} (hc : k ≠ 10 ∧ k ≠ 50 ∧ k ≠ 51 ∧ k ≠ 55 ∧ k ≠ 56) : ∀ (v : fw_V), (mf_Mo_beat_1_j10 v) 0 0 k = v 0 0 k := by
  intro v
  unfold mf_Mo_beat_1_j10
  (try dsimp only)
  all_goals ((repeat' split) <;> (first | with_reducible rfl | (simp only [msend_0k (i := 0) (k := k) (by omega) (by omega) (by omega), mz_Mo_beat_1_j11 hc]; done)))
theorem mz_Mo_beat_1_j33 {k : Nat} (hc : k ≠ 10 ∧ k ≠ 50 ∧ k ≠ 51 ∧ k ≠ 55 ∧ k ≠ 56) : ∀ (v : fw_V) (x90 : Int32), (mf_Mo_beat_1_j33 v x90) 0 0 k = v 0 0 k := by
  intro v x90
  unfold mf_Mo_beat_1_j33
  (try dsimp only)
  all_goals ((repeat' split) <;> (first | with_reducible rfl | (simp only [fw_up_ne (c := 9) (i := 0) (k := 2) (c' := 0) (i' := 0) (k' := k) (by omega), msend_0k (i := 0) (k := k) (by omega) (by omega) (by omega), mz_Mo_beat_1_j13 hc]; done)))
theorem mz_Mo_beat_1_j32 {k : Nat} (hc : k ≠ 10 ∧ k ≠ 50 ∧ k ≠ 51 ∧ k ≠ 55 ∧ k ≠ 56) : ∀ (v : fw_V), (mf_Mo_beat_1_j32 v) 0 0 k = v 0 0 k := by
  intro v
  unfold mf_Mo_beat_1_j32
  (try dsimp only)
  all_goals ((repeat' split) <;> (first | with_reducible rfl | (simp only [msend_0k (i := 0) (k := k) (by omega) (by omega) (by omega), mz_Mo_beat_1_j33 hc]; done)))
theorem mz_Mo_beat_1_j9 {k : Nat} (hc : k ≠ 10 ∧ k ≠ 50 ∧ k ≠ 51 ∧ k ≠ 55 ∧ k ≠ 56) : ∀ (v : fw_V), (mf_Mo_beat_1_j9 v) 0 0 k = v 0 0 k := by
  intro v
  unfold mf_Mo_beat_1_j9
  (try dsimp only)
  all_goals ((repeat' split) <;> (first | with_reducible rfl | (simp only [msend_0k (i := 0) (k := k) (by omega) (by omega) (by omega), mz_Mo_beat_1_j10 hc, mz_Mo_beat_1_j32 hc]; done)))
theorem mz_Mo_beat_1_j8 {k : Nat} (hc : k ≠ 10 ∧ k ≠ 50 ∧ k ≠ 51 ∧ k ≠ 55 ∧ k ≠ 56) : ∀ (v : fw_V), (mf_Mo_beat_1_j8 v) 0 0 k = v 0 0 k := by
  intro v
  unfold mf_Mo_beat_1_j8
  (try dsimp only)
  all_goals ((repeat' split) <;> (first | with_reducible rfl | (simp only [fw_up_ne (c := 9) (i := 0) (k := 1) (c' := 0) (i' := 0) (k' := k) (by omega), msend_0k (i := 0) (k := k) (by omega) (by omega) (by omega), mz_Mo_beat_1_j9 hc]; done)))
theorem mz_Mo_beat_1_j7 {k : Nat} (hc : k ≠ 10 ∧ k ≠ 50 ∧ k ≠ 51 ∧ k ≠ 55 ∧ k ≠ 56) : ∀ (v : fw_V), (mf_Mo_beat_1_j7 v) 0 0 k = v 0 0 k := by
  intro v
  unfold mf_Mo_beat_1_j7
  (try dsimp only)
  all_goals ((repeat' split) <;> (first | with_reducible rfl | (simp only [msend_0k (i := 0) (k := k) (by omega) (by omega) (by omega), mz_Mo_beat_1_j8 hc]; done)))
theorem mz_Mo_beat_1_j6 {k : Nat} (hc : k ≠ 10 ∧ k ≠ 50 ∧ k ≠ 51 ∧ k ≠ 55 ∧ k ≠ 56) : ∀ (v : fw_V), (mf_Mo_beat_1_j6 v) 0 0 k = v 0 0 k := by
  intro v
  unfold mf_Mo_beat_1_j6
  (try dsimp only)
  all_goals ((repeat' split) <;> (first | with_reducible rfl | (simp only [msend_0k (i := 0) (k := k) (by omega) (by omega) (by omega), mz_Mo_beat_1_j7 hc]; done)))
theorem mz_Mo_beat_1_j35 {k : Nat} (hc : k ≠ 10 ∧ k ≠ 50 ∧ k ≠ 51 ∧ k ≠ 55 ∧ k ≠ 56) : ∀ (v : fw_V) (x90 : Int32), (mf_Mo_beat_1_j35 v x90) 0 0 k = v 0 0 k := by
  intro v x90
  unfold mf_Mo_beat_1_j35
  (try dsimp only)
  all_goals ((repeat' split) <;> (first | with_reducible rfl | (simp only [fw_up_ne (c := 9) (i := 0) (k := 1) (c' := 0) (i' := 0) (k' := k) (by omega), msend_0k (i := 0) (k := k) (by omega) (by omega) (by omega), mz_Mo_beat_1_j9 hc]; done)))
theorem mz_Mo_beat_1_j34 {k : Nat} (hc : k ≠ 10 ∧ k ≠ 50 ∧ k ≠ 51 ∧ k ≠ 55 ∧ k ≠ 56) : ∀ (v : fw_V), (mf_Mo_beat_1_j34 v) 0 0 k = v 0 0 k := by
  intro v
  unfold mf_Mo_beat_1_j34
  (try dsimp only)
  all_goals ((repeat' split) <;> (first | with_reducible rfl | (simp only [msend_0k (i := 0) (k := k) (by omega) (by omega) (by omega), mz_Mo_beat_1_j35 hc]; done)))
theorem mz_Mo_beat_1_j5 {k : Nat} (hc : k ≠ 10 ∧ k ≠ 50 ∧ k ≠ 51 ∧ k ≠ 55 ∧ k ≠ 56) : ∀ (v : fw_V), (mf_Mo_beat_1_j5 v) 0 0 k = v 0 0 k := by
  intro v
  unfold mf_Mo_beat_1_j5
  (try dsimp only)
  all_goals ((repeat' split) <;> (first | with_reducible rfl | (simp only [msend_0k (i := 0) (k := k) (by omega) (by omega) (by omega), mz_Mo_beat_1_j6 hc, mz_Mo_beat_1_j34 hc]; done)))
theorem mz_Mo_beat_1_j4 {k : Nat} (hc : k ≠ 10 ∧ k ≠ 50 ∧ k ≠ 51 ∧ k ≠ 55 ∧ k ≠ 56) : ∀ (v : fw_V), (mf_Mo_beat_1_j4 v) 0 0 k = v 0 0 k := by
  intro v
  unfold mf_Mo_beat_1_j4
  (try dsimp only)
  all_goals ((repeat' split) <;> (first | with_reducible rfl | (simp only [fw_up_ne (c := 9) (i := 0) (k := 0) (c' := 0) (i' := 0) (k' := k) (by omega), msend_0k (i := 0) (k := k) (by omega) (by omega) (by omega), mz_Mo_beat_1_j5 hc]; done)))
theorem mz_Mo_beat_1_j3 {k : Nat} (hc : k ≠ 10 ∧ k ≠ 50 ∧ k ≠ 51 ∧ k ≠ 55 ∧ k ≠ 56) : ∀ (v : fw_V), (mf_Mo_beat_1_j3 v) 0 0 k = v 0 0 k := by
  intro v
  unfold mf_Mo_beat_1_j3
  (try dsimp only)
  all_goals ((repeat' split) <;> (first | with_reducible rfl | (simp only [msend_0k (i := 0) (k := k) (by omega) (by omega) (by omega), mz_Mo_beat_1_j4 hc]; done)))
theorem mz_Mo_beat_1_j2 {k : Nat} (hc : k ≠ 10 ∧ k ≠ 50 ∧ k ≠ 51 ∧ k ≠ 55 ∧ k ≠ 56) : ∀ (v : fw_V), (mf_Mo_beat_1_j2 v) 0 0 k = v 0 0 k := by
  intro v
  unfold mf_Mo_beat_1_j2
  (try dsimp only)
  all_goals ((repeat' split) <;> (first | with_reducible rfl | (simp only [msend_0k (i := 0) (k := k) (by omega) (by omega) (by omega), mz_Mo_beat_1_j3 hc]; done)))
theorem mz_Mo_beat_1_j37 {k : Nat} (hc : k ≠ 10 ∧ k ≠ 50 ∧ k ≠ 51 ∧ k ≠ 55 ∧ k ≠ 56) : ∀ (v : fw_V) (x90 : Int32), (mf_Mo_beat_1_j37 v x90) 0 0 k = v 0 0 k := by
  intro v x90
  unfold mf_Mo_beat_1_j37
  (try dsimp only)
  all_goals ((repeat' split) <;> (first | with_reducible rfl | (simp only [fw_up_ne (c := 9) (i := 0) (k := 0) (c' := 0) (i' := 0) (k' := k) (by omega), msend_0k (i := 0) (k := k) (by omega) (by omega) (by omega), mz_Mo_beat_1_j5 hc]; done)))
theorem mz_Mo_beat_1_j36 {k : Nat} (hc : k ≠ 10 ∧ k ≠ 50 ∧ k ≠ 51 ∧ k ≠ 55 ∧ k ≠ 56) : ∀ (v : fw_V), (mf_Mo_beat_1_j36 v) 0 0 k = v 0 0 k := by
  intro v
  unfold mf_Mo_beat_1_j36
  (try dsimp only)
  all_goals ((repeat' split) <;> (first | with_reducible rfl | (simp only [msend_0k (i := 0) (k := k) (by omega) (by omega) (by omega), mz_Mo_beat_1_j37 hc]; done)))
theorem mz_Mo_beat_1_j1 {k : Nat} (hc : k ≠ 10 ∧ k ≠ 50 ∧ k ≠ 51 ∧ k ≠ 55 ∧ k ≠ 56) : ∀ (v : fw_V), (mf_Mo_beat_1_j1 v) 0 0 k = v 0 0 k := by
  intro v
  unfold mf_Mo_beat_1_j1
  (try dsimp only)
  all_goals ((repeat' split) <;> (first | with_reducible rfl | (simp only [msend_0k (i := 0) (k := k) (by omega) (by omega) (by omega), mz_Mo_beat_1_j2 hc, mz_Mo_beat_1_j36 hc]; done)))
theorem mz_Mo_beat_1 {k : Nat} (hc : k ≠ 10 ∧ k ≠ 50 ∧ k ≠ 51 ∧ k ≠ 55 ∧ k ≠ 56) : ∀ (v0 : fw_V), (mf_Mo_beat_1 v0) 0 0 k = v0 0 0 k := by
  intro v0
  unfold mf_Mo_beat_1
  (try dsimp only)
  all_goals ((repeat' split) <;> (first | with_reducible rfl | (simp only [fw_up_ne (c := 18) (i := 0) (k := 1) (c' := 0) (i' := 0) (k' := k) (by omega), fw_up_ne (c := 0) (i := 0) (k := 56) (c' := 0) (i' := 0) (k' := k) (by omega), fw_up_ne (c := 19) (i := 0) (k := 1) (c' := 0) (i' := 0) (k' := k) (by omega), msend_0k (i := 0) (k := k) (by omega) (by omega) (by omega), mz_Mo_breakOff_1 hc, mz_Mo_beat_1_j1 hc, mz_Mo_ask_1 hc]; done)))
theorem mz_Mo_mark_1_j2 {k : Nat} (hc : k ≠ 10 ∧ k ≠ 50 ∧ k ≠ 51 ∧ k ≠ 55 ∧ k ≠ 56) : ∀ (v0 : fw_V) (a2 : Int32), (mf_Mo_mark_1_j2 v0 a2) 0 0 k = v0 0 0 k := by
  intro v0 a2
  unfold mf_Mo_mark_1_j2
  (try dsimp only)
  all_goals ((repeat' split) <;> (first | with_reducible rfl | (simp only [fw_up_ne (c := 31) (i := 0) (k := 1) (c' := 0) (i' := 0) (k' := k) (by omega), msend_0k (i := 0) (k := k) (by omega) (by omega) (by omega)]; done)))
theorem mz_Mo_mark_1_j1 {k : Nat} (hc : k ≠ 10 ∧ k ≠ 50 ∧ k ≠ 51 ∧ k ≠ 55 ∧ k ≠ 56) : ∀ (v0 : fw_V) (a2 : Int32), (mf_Mo_mark_1_j1 v0 a2) 0 0 k = v0 0 0 k := by
  intro v0 a2
  unfold mf_Mo_mark_1_j1
  (try dsimp only)
  all_goals ((repeat' split) <;> (first | with_reducible rfl | (simp only [msend_0k (i := 0) (k := k) (by omega) (by omega) (by omega), mz_Mo_mark_1_j2 hc]; done)))
theorem mz_Mo_mark_1_j3 {k : Nat} (hc : k ≠ 10 ∧ k ≠ 50 ∧ k ≠ 51 ∧ k ≠ 55 ∧ k ≠ 56) : ∀ (v0 : fw_V) (a2 : Int32), (mf_Mo_mark_1_j3 v0 a2) 0 0 k = v0 0 0 k := by
  intro v0 a2
  unfold mf_Mo_mark_1_j3
  (try dsimp only)
  all_goals ((repeat' split) <;> (first | with_reducible rfl | (simp only [fw_up_ne (c := 31) (i := 0) (k := 1) (c' := 0) (i' := 0) (k' := k) (by omega), msend_0k (i := 0) (k := k) (by omega) (by omega) (by omega)]; done)))
theorem mz_Mo_mark_1 {k : Nat} (hc : k ≠ 10 ∧ k ≠ 50 ∧ k ≠ 51 ∧ k ≠ 55 ∧ k ≠ 56) : ∀ (v0 : fw_V) (a2 : Int32), (mf_Mo_mark_1 v0 a2) 0 0 k = v0 0 0 k := by
  intro v0 a2
  unfold mf_Mo_mark_1
  (try dsimp only)
  all_goals ((repeat' split) <;> (first | with_reducible rfl | (simp only [msend_0k (i := 0) (k := k) (by omega) (by omega) (by omega), mz_Mo_mark_1_j1 hc, mz_Mo_mark_1_j3 hc]; done)))
theorem mz_Mo_replace_1_j8 {k : Nat} (hc : k ≠ 10 ∧ k ≠ 50 ∧ k ≠ 51 ∧ k ≠ 55 ∧ k ≠ 56) : ∀ (v : fw_V) (a2 : Int32) (x4 : Int32), (mf_Mo_replace_1_j8 v a2 x4) 0 0 k = v 0 0 k := by
  intro v a2 x4
  unfold mf_Mo_replace_1_j8
  (try dsimp only)
  all_goals ((repeat' split) <;> (first | with_reducible rfl | (simp only [msend_0k (i := 0) (k := k) (by omega) (by omega) (by omega)]; done)))
theorem mz_Mo_replace_1_j7 {k : Nat} (hc : k ≠ 10 ∧ k ≠ 50 ∧ k ≠ 51 ∧ k ≠ 55 ∧ k ≠ 56) : ∀ (v : fw_V) (a2 : Int32) (x4 : Int32), (mf_Mo_replace_1_j7 v a2 x4) 0 0 k = v 0 0 k := by
  intro v a2 x4
  unfold mf_Mo_replace_1_j7
  (try dsimp only)
  all_goals ((repeat' split) <;> (first | with_reducible rfl | (simp only [msend_0k (i := 0) (k := k) (by omega) (by omega) (by omega), mz_Mo_replace_1_j8 hc]; done)))
theorem mz_Mo_replace_1_j6 {k : Nat} (hc : k ≠ 10 ∧ k ≠ 50 ∧ k ≠ 51 ∧ k ≠ 55 ∧ k ≠ 56) : ∀ (v : fw_V) (a2 : Int32) (x4 : Int32), (mf_Mo_replace_1_j6 v a2 x4) 0 0 k = v 0 0 k := by
  intro v a2 x4
  unfold mf_Mo_replace_1_j6
  (try dsimp only)
  all_goals ((repeat' split) <;> (first | with_reducible rfl | (simp only [fw_up_c (c := 46) (c' := 0) (by decide), msend_0k (i := 0) (k := k) (by omega) (by omega) (by omega), mz_Mo_replace_1_j7 hc]; done)))
theorem mz_Mo_replace_1_j5 {k : Nat} (hc : k ≠ 10 ∧ k ≠ 50 ∧ k ≠ 51 ∧ k ≠ 55 ∧ k ≠ 56) : ∀ (v : fw_V) (a2 : Int32) (x4 : Int32), (mf_Mo_replace_1_j5 v a2 x4) 0 0 k = v 0 0 k := by
  intro v a2 x4
  unfold mf_Mo_replace_1_j5
  (try dsimp only)
  all_goals ((repeat' split) <;> (first | with_reducible rfl | (simp only [fw_up_c (c := 46) (c' := 0) (by decide), msend_0k (i := 0) (k := k) (by omega) (by omega) (by omega), mz_Mo_replace_1_j6 hc, mz_Mo_replace_1_j7 hc]; done)))
theorem mz_Mo_replace_1_j4 {k : Nat} (hc : k ≠ 10 ∧ k ≠ 50 ∧ k ≠ 51 ∧ k ≠ 55 ∧ k ≠ 56) : ∀ (v : fw_V) (a2 : Int32) (x4 : Int32), (mf_Mo_replace_1_j4 v a2 x4) 0 0 k = v 0 0 k := by
  intro v a2 x4
  unfold mf_Mo_replace_1_j4
  (try dsimp only)
  all_goals ((repeat' split) <;> (first | with_reducible rfl | (simp only [msend_0k (i := 0) (k := k) (by omega) (by omega) (by omega), mz_Mo_replace_1_j5 hc]; done)))
theorem mz_Mo_replace_1_j3 {k : Nat} (hc : k ≠ 10 ∧ k ≠ 50 ∧ k ≠ 51 ∧ k ≠ 55 ∧ k ≠ 56) : ∀ (v0 : fw_V) (a2 : Int32), (mf_Mo_replace_1_j3 v0 a2) 0 0 k = v0 0 0 k := by
  intro v0 a2
  unfold mf_Mo_replace_1_j3
  (try dsimp only)
  all_goals ((repeat' split) <;> (first | with_reducible rfl | (simp only [fw_up_c (c := 46) (c' := 0) (by decide), msend_0k (i := 0) (k := k) (by omega) (by omega) (by omega), mz_Mo_replace_1_j4 hc]; done)))
theorem mz_Mo_replace_1_j11 {k : Nat} (hc : k ≠ 10 ∧ k ≠ 50 ∧ k ≠ 51 ∧ k ≠ 55 ∧ k ≠ 56) : ∀ (v0 : fw_V) (a2 : Int32), (mf_Mo_replace_1_j11 v0 a2) 0 0 k = v0 0 0 k := by
  intro v0 a2
  unfold mf_Mo_replace_1_j11
  (try dsimp only)
  all_goals ((repeat' split) <;> (first | with_reducible rfl | (simp only [fw_up_c (c := 46) (c' := 0) (by decide), msend_0k (i := 0) (k := k) (by omega) (by omega) (by omega), mz_Mo_replace_1_j7 hc]; done)))
theorem mz_Mo_replace_1_j13 {k : Nat} (hc : k ≠ 10 ∧ k ≠ 50 ∧ k ≠ 51 ∧ k ≠ 55 ∧ k ≠ 56) : ∀ (v0 : fw_V) (a2 : Int32), (mf_Mo_replace_1_j13 v0 a2) 0 0 k = v0 0 0 k := by
  intro v0 a2
  unfold mf_Mo_replace_1_j13
  (try dsimp only)
  all_goals ((repeat' split) <;> (first | with_reducible rfl | (simp only [msend_0k (i := 0) (k := k) (by omega) (by omega) (by omega)]; done)))
theorem mz_Mo_replace_1_j12 {k : Nat} (hc : k ≠ 10 ∧ k ≠ 50 ∧ k ≠ 51 ∧ k ≠ 55 ∧ k ≠ 56) : ∀ (v0 : fw_V) (a2 : Int32), (mf_Mo_replace_1_j12 v0 a2) 0 0 k = v0 0 0 k := by
  intro v0 a2
  unfold mf_Mo_replace_1_j12
  (try dsimp only)
  all_goals ((repeat' split) <;> (first | with_reducible rfl | (simp only [msend_0k (i := 0) (k := k) (by omega) (by omega) (by omega), mz_Mo_replace_1_j13 hc]; done)))
theorem mz_Mo_replace_1_j10 {k : Nat} (hc : k ≠ 10 ∧ k ≠ 50 ∧ k ≠ 51 ∧ k ≠ 55 ∧ k ≠ 56) : ∀ (v0 : fw_V) (a2 : Int32), (mf_Mo_replace_1_j10 v0 a2) 0 0 k = v0 0 0 k := by
  intro v0 a2
  unfold mf_Mo_replace_1_j10
  (try dsimp only)
  all_goals ((repeat' split) <;> (first | with_reducible rfl | (simp only [fw_up_c (c := 46) (c' := 0) (by decide), msend_0k (i := 0) (k := k) (by omega) (by omega) (by omega), mz_Mo_replace_1_j11 hc, mz_Mo_replace_1_j7 hc, mz_Mo_replace_1_j12 hc]; done)))
theorem mz_Mo_replace_1_j9 {k : Nat} (hc : k ≠ 10 ∧ k ≠ 50 ∧ k ≠ 51 ∧ k ≠ 55 ∧ k ≠ 56) : ∀ (v0 : fw_V) (a2 : Int32), (mf_Mo_replace_1_j9 v0 a2) 0 0 k = v0 0 0 k := by
  intro v0 a2
  unfold mf_Mo_replace_1_j9
  (try dsimp only)
  all_goals ((repeat' split) <;> (first | with_reducible rfl | (simp only [msend_0k (i := 0) (k := k) (by omega) (by omega) (by omega), mz_Mo_replace_1_j10 hc]; done)))
theorem mz_Mo_replace_1_j2 {k : Nat} (hc : k ≠ 10 ∧ k ≠ 50 ∧ k ≠ 51 ∧ k ≠ 55 ∧ k ≠ 56) : ∀ (v0 : fw_V) (a2 : Int32), (mf_Mo_replace_1_j2 v0 a2) 0 0 k = v0 0 0 k := by
  intro v0 a2
  unfold mf_Mo_replace_1_j2
  (try dsimp only)
  all_goals ((repeat' split) <;> (first | with_reducible rfl | (simp only [fw_up_c (c := 46) (c' := 0) (by decide), msend_0k (i := 0) (k := k) (by omega) (by omega) (by omega), mz_Mo_replace_1_j3 hc, mz_Mo_replace_1_j4 hc, mz_Mo_replace_1_j9 hc]; done)))
theorem mz_Mo_replace_1_j1 {k : Nat} (hc : k ≠ 10 ∧ k ≠ 50 ∧ k ≠ 51 ∧ k ≠ 55 ∧ k ≠ 56) : ∀ (v0 : fw_V) (a2 : Int32), (mf_Mo_replace_1_j1 v0 a2) 0 0 k = v0 0 0 k := by
  intro v0 a2
  unfold mf_Mo_replace_1_j1
  (try dsimp only)
  all_goals ((repeat' split) <;> (first | with_reducible rfl | (simp only [msend_0k (i := 0) (k := k) (by omega) (by omega) (by omega), mz_Mo_replace_1_j2 hc]; done)))
theorem mz_Mo_replace_1_j21 {k : Nat} (hc : k ≠ 10 ∧ k ≠ 50 ∧ k ≠ 51 ∧ k ≠ 55 ∧ k ≠ 56) : ∀ (v : fw_V) (a2 : Int32), (mf_Mo_replace_1_j21 v a2) 0 0 k = v 0 0 k := by
  intro v a2
  unfold mf_Mo_replace_1_j21
  (try dsimp only)
  all_goals ((repeat' split) <;> (first | with_reducible rfl | (simp only [msend_0k (i := 0) (k := k) (by omega) (by omega) (by omega)]; done)))
theorem mz_Mo_replace_1_j20 {k : Nat} (hc : k ≠ 10 ∧ k ≠ 50 ∧ k ≠ 51 ∧ k ≠ 55 ∧ k ≠ 56) : ∀ (v : fw_V) (a2 : Int32), (mf_Mo_replace_1_j20 v a2) 0 0 k = v 0 0 k := by
  intro v a2
  unfold mf_Mo_replace_1_j20
  (try dsimp only)
  all_goals ((repeat' split) <;> (first | with_reducible rfl | (simp only [msend_0k (i := 0) (k := k) (by omega) (by omega) (by omega), mz_Mo_replace_1_j21 hc]; done)))
theorem mz_Mo_replace_1_j19 {k : Nat} (hc : k ≠ 10 ∧ k ≠ 50 ∧ k ≠ 51 ∧ k ≠ 55 ∧ k ≠ 56) : ∀ (v : fw_V) (a2 : Int32), (mf_Mo_replace_1_j19 v a2) 0 0 k = v 0 0 k := by
  intro v a2
  unfold mf_Mo_replace_1_j19
  (try dsimp only)
  all_goals ((repeat' split) <;> (first | with_reducible rfl | (simp only [fw_up_c (c := 46) (c' := 0) (by decide), msend_0k (i := 0) (k := k) (by omega) (by omega) (by omega), mz_Mo_replace_1_j20 hc]; done)))
theorem mz_Mo_replace_1_j18 {k : Nat} (hc : k ≠ 10 ∧ k ≠ 50 ∧ k ≠ 51 ∧ k ≠ 55 ∧ k ≠ 56) : ∀ (v : fw_V) (a2 : Int32), (mf_Mo_replace_1_j18 v a2) 0 0 k = v 0 0 k := by
  intro v a2
  unfold mf_Mo_replace_1_j18
  (try dsimp only)
  all_goals ((repeat' split) <;> (first | with_reducible rfl | (simp only [msend_0k (i := 0) (k := k) (by omega) (by omega) (by omega), mz_Mo_replace_1_j19 hc]; done)))
theorem mz_Mo_replace_1_j17 {k : Nat} (hc : k ≠ 10 ∧ k ≠ 50 ∧ k ≠ 51 ∧ k ≠ 55 ∧ k ≠ 56) : ∀ (v : fw_V) (a2 : Int32), (mf_Mo_replace_1_j17 v a2) 0 0 k = v 0 0 k := by
  intro v a2
  unfold mf_Mo_replace_1_j17
  (try dsimp only)
  all_goals ((repeat' split) <;> (first | with_reducible rfl | (simp only [msend_0k (i := 0) (k := k) (by omega) (by omega) (by omega), mz_Mo_replace_1_j18 hc]; done)))
theorem mz_Mo_replace_1_j16 {k : Nat} (hc : k ≠ 10 ∧ k ≠ 50 ∧ k ≠ 51 ∧ k ≠ 55 ∧ k ≠ 56) : ∀ (v0 : fw_V) (a2 : Int32), (mf_Mo_replace_1_j16 v0 a2) 0 0 k = v0 0 0 k := by
  intro v0 a2
  unfold mf_Mo_replace_1_j16
  (try dsimp only)
  all_goals ((repeat' split) <;> (first | with_reducible rfl | (simp only [fw_up_c (c := 46) (c' := 0) (by decide), msend_0k (i := 0) (k := k) (by omega) (by omega) (by omega), mz_Mo_replace_1_j17 hc]; done)))
theorem mz_Mo_replace_1_j15 {k : Nat} (hc : k ≠ 10 ∧ k ≠ 50 ∧ k ≠ 51 ∧ k ≠ 55 ∧ k ≠ 56) : ∀ (v0 : fw_V) (a2 : Int32), (mf_Mo_replace_1_j15 v0 a2) 0 0 k = v0 0 0 k := by
  intro v0 a2
  unfold mf_Mo_replace_1_j15
  (try dsimp only)
  all_goals ((repeat' split) <;> (first | with_reducible rfl | (simp only [msend_0k (i := 0) (k := k) (by omega) (by omega) (by omega), mz_Mo_replace_1_j16 hc]; done)))
theorem mz_Mo_replace_1_j14 {k : Nat} (hc : k ≠ 10 ∧ k ≠ 50 ∧ k ≠ 51 ∧ k ≠ 55 ∧ k ≠ 56) : ∀ (v0 : fw_V) (a2 : Int32), (mf_Mo_replace_1_j14 v0 a2) 0 0 k = v0 0 0 k := by
  intro v0 a2
  unfold mf_Mo_replace_1_j14
  (try dsimp only)
  all_goals ((repeat' split) <;> (first | with_reducible rfl | (simp only [msend_0k (i := 0) (k := k) (by omega) (by omega) (by omega), mz_Mo_replace_1_j15 hc]; done)))
theorem mz_Mo_replace_1 {k : Nat} (hc : k ≠ 10 ∧ k ≠ 50 ∧ k ≠ 51 ∧ k ≠ 55 ∧ k ≠ 56) : ∀ (v0 : fw_V) (a2 : Int32), (mf_Mo_replace_1 v0 a2) 0 0 k = v0 0 0 k := by
  intro v0 a2
  unfold mf_Mo_replace_1
  (try dsimp only)
  all_goals ((repeat' split) <;> (first | with_reducible rfl | (simp only [msend_0k (i := 0) (k := k) (by omega) (by omega) (by omega), mz_Mo_replace_1_j1 hc, mz_Mo_replace_1_j14 hc]; done)))
theorem mz_Mo_reply_1 {k : Nat} (hc : k ≠ 10 ∧ k ≠ 50 ∧ k ≠ 51 ∧ k ≠ 55 ∧ k ≠ 56) : ∀ (v0 : fw_V) (a2 : Int32) (a3 : Int32), (mf_Mo_reply_1 v0 a2 a3) 0 0 k = v0 0 0 k := by
  intro v0 a2 a3
  unfold mf_Mo_reply_1
  (try dsimp only)
  all_goals ((repeat' split) <;> (first | with_reducible rfl | (simp only [msend_0k (i := 0) (k := k) (by omega) (by omega) (by omega)]; done)))
theorem mz_Mo_connect_1_j1 {k : Nat} (hc : k ≠ 10 ∧ k ≠ 50 ∧ k ≠ 51 ∧ k ≠ 55 ∧ k ≠ 56) : ∀ (v0 : fw_V) (a2 : Int32), (mf_Mo_connect_1_j1 v0 a2) 0 0 k = v0 0 0 k := by
  intro v0 a2
  unfold mf_Mo_connect_1_j1
  (try dsimp only)
  all_goals ((repeat' split) <;> (first | with_reducible rfl | (simp only [fw_up_ne (c := 28) (i := 0) (k := 1) (c' := 0) (i' := 0) (k' := k) (by omega), fw_up_ne (c := 29) (i := 0) (k := 1) (c' := 0) (i' := 0) (k' := k) (by omega), fw_up_ne (c := 32) (i := 0) (k := 1) (c' := 0) (i' := 0) (k' := k) (by omega), fw_up_ne (c := 43) (i := 0) (k := 3) (c' := 0) (i' := 0) (k' := k) (by omega), fw_up_ne (c := 44) (i := 0) (k := 3) (c' := 0) (i' := 0) (k' := k) (by omega), fw_up_ne (c := 43) (i := 0) (k := 4) (c' := 0) (i' := 0) (k' := k) (by omega), fw_up_ne (c := 44) (i := 0) (k := 4) (c' := 0) (i' := 0) (k' := k) (by omega), fw_up_ne (c := 43) (i := 0) (k := 5) (c' := 0) (i' := 0) (k' := k) (by omega), fw_up_ne (c := 44) (i := 0) (k := 5) (c' := 0) (i' := 0) (k' := k) (by omega), msend_0k (i := 0) (k := k) (by omega) (by omega) (by omega), mz_Mo_mark_1 hc, mz_Mo_reply_1 hc]; done)))
theorem mz_Mo_connect_1 {k : Nat} (hc : k ≠ 10 ∧ k ≠ 50 ∧ k ≠ 51 ∧ k ≠ 55 ∧ k ≠ 56) : ∀ (v0 : fw_V) (a2 : Int32), (mf_Mo_connect_1 v0 a2) 0 0 k = v0 0 0 k := by
  intro v0 a2
  unfold mf_Mo_connect_1
  (try dsimp only)
  all_goals ((repeat' split) <;> (first | with_reducible rfl | (simp only [msend_0k (i := 0) (k := k) (by omega) (by omega) (by omega), mz_Mo_connect_1_j1 hc]; done)))
theorem mz_Mo_obeys_1_j44 {k : Nat} (hc : k ≠ 10 ∧ k ≠ 50 ∧ k ≠ 51 ∧ k ≠ 55 ∧ k ≠ 56) : ∀ (v0 : fw_V) (a2 : Int32) (a3 : Int32), (mf_Mo_obeys_1_j44 v0 a2 a3) 0 0 k = v0 0 0 k := by
  intro v0 a2 a3
  unfold mf_Mo_obeys_1_j44
  (try dsimp only)
  all_goals ((repeat' split) <;> (first | with_reducible rfl | (simp only [fw_up_ne (c := 28) (i := 0) (k := 1) (c' := 0) (i' := 0) (k' := k) (by omega), fw_up_ne (c := 32) (i := 0) (k := 1) (c' := 0) (i' := 0) (k' := k) (by omega), fw_up_ne (c := 33) (i := 0) (k := 1) (c' := 0) (i' := 0) (k' := k) (by omega), msend_0k (i := 0) (k := k) (by omega) (by omega) (by omega), mz_Mo_reply_1 hc]; done)))
theorem mz_Mo_obeys_1_j43 {k : Nat} (hc : k ≠ 10 ∧ k ≠ 50 ∧ k ≠ 51 ∧ k ≠ 55 ∧ k ≠ 56) : ∀ (v0 : fw_V) (a2 : Int32) (a3 : Int32), (mf_Mo_obeys_1_j43 v0 a2 a3) 0 0 k = v0 0 0 k := by
  intro v0 a2 a3
  unfold mf_Mo_obeys_1_j43
  (try dsimp only)
  all_goals ((repeat' split) <;> (first | with_reducible rfl | (simp only [msend_0k (i := 0) (k := k) (by omega) (by omega) (by omega), mz_Mo_obeys_1_j44 hc]; done)))
theorem mz_Mo_obeys_1_j42 {k : Nat} (hc : k ≠ 10 ∧ k ≠ 50 ∧ k ≠ 51 ∧ k ≠ 55 ∧ k ≠ 56) : ∀ (v0 : fw_V) (a2 : Int32) (a3 : Int32), (mf_Mo_obeys_1_j42 v0 a2 a3) 0 0 k = v0 0 0 k := by
  intro v0 a2 a3
  unfold mf_Mo_obeys_1_j42
  (try dsimp only)
  all_goals ((repeat' split) <;> (first | with_reducible rfl | (simp only [msend_0k (i := 0) (k := k) (by omega) (by omega) (by omega), mz_Mo_obeys_1_j43 hc]; done)))
theorem mz_Mo_rest_1_j7 {k : Nat} (hc : k ≠ 10 ∧ k ≠ 50 ∧ k ≠ 51 ∧ k ≠ 55 ∧ k ≠ 56) : ∀ (v : fw_V), (mf_Mo_rest_1_j7 v) 0 0 k = v 0 0 k := by
  intro v
  unfold mf_Mo_rest_1_j7
  (try dsimp only)
  all_goals ((repeat' split) <;> (first | with_reducible rfl | (simp only [msend_0k (i := 0) (k := k) (by omega) (by omega) (by omega)]; done)))
theorem mz_Mo_rest_1_j6 {k : Nat} (hc : k ≠ 10 ∧ k ≠ 50 ∧ k ≠ 51 ∧ k ≠ 55 ∧ k ≠ 56) : ∀ (v : fw_V), (mf_Mo_rest_1_j6 v) 0 0 k = v 0 0 k := by
  intro v
  unfold mf_Mo_rest_1_j6
  (try dsimp only)
  all_goals ((repeat' split) <;> (first | with_reducible rfl | (simp only [msend_0k (i := 0) (k := k) (by omega) (by omega) (by omega), mz_Mo_replace_1 hc, mz_Mo_rest_1_j7 hc]; done)))
theorem mz_Mo_rest_1_j5 {k : Nat} (hc : k ≠ 10 ∧ k ≠ 50 ∧ k ≠ 51 ∧ k ≠ 55 ∧ k ≠ 56) : ∀ (v : fw_V), (mf_Mo_rest_1_j5 v) 0 0 k = v 0 0 k := by
  intro v
  unfold mf_Mo_rest_1_j5
  (try dsimp only)
  all_goals ((repeat' split) <;> (first | with_reducible rfl | (simp only [msend_0k (i := 0) (k := k) (by omega) (by omega) (by omega), mz_Mo_replace_1 hc, mz_Mo_rest_1_j6 hc]; done)))
theorem mz_Mo_rest_1_j4 {k : Nat} (hc : k ≠ 10 ∧ k ≠ 50 ∧ k ≠ 51 ∧ k ≠ 55 ∧ k ≠ 56) : ∀ (v : fw_V), (mf_Mo_rest_1_j4 v) 0 0 k = v 0 0 k := by
  intro v
  unfold mf_Mo_rest_1_j4
  (try dsimp only)
  all_goals ((repeat' split) <;> (first | with_reducible rfl | (simp only [msend_0k (i := 0) (k := k) (by omega) (by omega) (by omega), mz_Mo_replace_1 hc, mz_Mo_rest_1_j5 hc]; done)))
theorem mz_Mo_rest_1_j3 {k : Nat} (hc : k ≠ 10 ∧ k ≠ 50 ∧ k ≠ 51 ∧ k ≠ 55 ∧ k ≠ 56) : ∀ (v0 : fw_V), (mf_Mo_rest_1_j3 v0) 0 0 k = v0 0 0 k := by
  intro v0
  unfold mf_Mo_rest_1_j3
  (try dsimp only)
  all_goals ((repeat' split) <;> (first | with_reducible rfl | (simp only [fw_up_ne (c := 28) (i := 0) (k := 1) (c' := 0) (i' := 0) (k' := k) (by omega), fw_up_ne (c := 29) (i := 0) (k := 1) (c' := 0) (i' := 0) (k' := k) (by omega), fw_up_ne (c := 31) (i := 0) (k := 1) (c' := 0) (i' := 0) (k' := k) (by omega), fw_up_ne (c := 32) (i := 0) (k := 1) (c' := 0) (i' := 0) (k' := k) (by omega), fw_up_ne (c := 37) (i := 0) (k := 1) (c' := 0) (i' := 0) (k' := k) (by omega), fw_up_ne (c := 36) (i := 0) (k := 1) (c' := 0) (i' := 0) (k' := k) (by omega), fw_up_ne (c := 43) (i := 0) (k := 3) (c' := 0) (i' := 0) (k' := k) (by omega), fw_up_ne (c := 44) (i := 0) (k := 3) (c' := 0) (i' := 0) (k' := k) (by omega), fw_up_ne (c := 43) (i := 0) (k := 4) (c' := 0) (i' := 0) (k' := k) (by omega), fw_up_ne (c := 44) (i := 0) (k := 4) (c' := 0) (i' := 0) (k' := k) (by omega), fw_up_ne (c := 43) (i := 0) (k := 5) (c' := 0) (i' := 0) (k' := k) (by omega), fw_up_ne (c := 44) (i := 0) (k := 5) (c' := 0) (i' := 0) (k' := k) (by omega), msend_0k (i := 0) (k := k) (by omega) (by omega) (by omega), mz_Mo_rest_1_j4 hc]; done)))
theorem mz_Mo_rest_1_j2 {k : Nat} (hc : k ≠ 10 ∧ k ≠ 50 ∧ k ≠ 51 ∧ k ≠ 55 ∧ k ≠ 56) : ∀ (v : fw_V), (mf_Mo_rest_1_j2 v) 0 0 k = v 0 0 k := by
  intro v
  unfold mf_Mo_rest_1_j2
  (try dsimp only)
  all_goals ((repeat' split) <;> (first | with_reducible rfl | (simp only [msend_0k (i := 0) (k := k) (by omega) (by omega) (by omega)]; done)))
theorem mz_Mo_rest_1_j1 {k : Nat} (hc : k ≠ 10 ∧ k ≠ 50 ∧ k ≠ 51 ∧ k ≠ 55 ∧ k ≠ 56) : ∀ (v0 : fw_V), (mf_Mo_rest_1_j1 v0) 0 0 k = v0 0 0 k := by
  intro v0
  unfold mf_Mo_rest_1_j1
  (try dsimp only)
  all_goals ((repeat' split) <;> (first | with_reducible rfl | (simp only [fw_up_ne (c := 28) (i := 0) (k := 1) (c' := 0) (i' := 0) (k' := k) (by omega), fw_up_ne (c := 29) (i := 0) (k := 1) (c' := 0) (i' := 0) (k' := k) (by omega), fw_up_ne (c := 31) (i := 0) (k := 1) (c' := 0) (i' := 0) (k' := k) (by omega), fw_up_ne (c := 32) (i := 0) (k := 1) (c' := 0) (i' := 0) (k' := k) (by omega), fw_up_ne (c := 37) (i := 0) (k := 1) (c' := 0) (i' := 0) (k' := k) (by omega), fw_up_ne (c := 36) (i := 0) (k := 1) (c' := 0) (i' := 0) (k' := k) (by omega), fw_up_ne (c := 43) (i := 0) (k := 3) (c' := 0) (i' := 0) (k' := k) (by omega), fw_up_ne (c := 44) (i := 0) (k := 3) (c' := 0) (i' := 0) (k' := k) (by omega), fw_up_ne (c := 43) (i := 0) (k := 4) (c' := 0) (i' := 0) (k' := k) (by omega), fw_up_ne (c := 44) (i := 0) (k := 4) (c' := 0) (i' := 0) (k' := k) (by omega), fw_up_ne (c := 43) (i := 0) (k := 5) (c' := 0) (i' := 0) (k' := k) (by omega), fw_up_ne (c := 44) (i := 0) (k := 5) (c' := 0) (i' := 0) (k' := k) (by omega), msend_0k (i := 0) (k := k) (by omega) (by omega) (by omega), mz_Mo_rest_1_j2 hc]; done)))
theorem mz_Mo_rest_1 {k : Nat} (hc : k ≠ 10 ∧ k ≠ 50 ∧ k ≠ 51 ∧ k ≠ 55 ∧ k ≠ 56) : ∀ (v0 : fw_V), (mf_Mo_rest_1 v0) 0 0 k = v0 0 0 k := by
  intro v0
  unfold mf_Mo_rest_1
  (try dsimp only)
  all_goals ((repeat' split) <;> (first | with_reducible rfl | (simp only [msend_0k (i := 0) (k := k) (by omega) (by omega) (by omega), mz_Mo_rest_1_j3 hc, mz_Mo_rest_1_j1 hc]; done)))
theorem mz_Mo_quit_1 {k : Nat} (hc : k ≠ 10 ∧ k ≠ 50 ∧ k ≠ 51 ∧ k ≠ 55 ∧ k ≠ 56) : ∀ (v0 : fw_V), (mf_Mo_quit_1 v0) 0 0 k = v0 0 0 k := by
  intro v0
  unfold mf_Mo_quit_1
  (try dsimp only)
  all_goals ((repeat' split) <;> (first | with_reducible rfl | (simp only [msend_0k (i := 0) (k := k) (by omega) (by omega) (by omega), mz_Mo_reply_1 hc, mz_Mo_rest_1 hc]; done)))
theorem mz_Mo_obeys_1_j46 {k : Nat} (hc : k ≠ 10 ∧ k ≠ 50 ∧ k ≠ 51 ∧ k ≠ 55 ∧ k ≠ 56) : ∀ (v0 : fw_V) (a2 : Int32) (a3 : Int32), (mf_Mo_obeys_1_j46 v0 a2 a3) 0 0 k = v0 0 0 k := by
  intro v0 a2 a3
  unfold mf_Mo_obeys_1_j46
  (try dsimp only)
  all_goals ((repeat' split) <;> (first | with_reducible rfl | (simp only [msend_0k (i := 0) (k := k) (by omega) (by omega) (by omega), mz_Mo_quit_1 hc]; done)))
theorem mz_Mo_obeys_1_j45 {k : Nat} (hc : k ≠ 10 ∧ k ≠ 50 ∧ k ≠ 51 ∧ k ≠ 55 ∧ k ≠ 56) : ∀ (v0 : fw_V) (a2 : Int32) (a3 : Int32), (mf_Mo_obeys_1_j45 v0 a2 a3) 0 0 k = v0 0 0 k := by
  intro v0 a2 a3
  unfold mf_Mo_obeys_1_j45
  (try dsimp only)
  all_goals ((repeat' split) <;> (first | with_reducible rfl | (simp only [msend_0k (i := 0) (k := k) (by omega) (by omega) (by omega), mz_Mo_obeys_1_j46 hc]; done)))
theorem mz_Mo_obeys_1_j41 {k : Nat} (hc : k ≠ 10 ∧ k ≠ 50 ∧ k ≠ 51 ∧ k ≠ 55 ∧ k ≠ 56) : ∀ (v0 : fw_V) (a2 : Int32) (a3 : Int32), (mf_Mo_obeys_1_j41 v0 a2 a3) 0 0 k = v0 0 0 k := by
  intro v0 a2 a3
  unfold mf_Mo_obeys_1_j41
  (try dsimp only)
  all_goals ((repeat' split) <;> (first | with_reducible rfl | (simp only [msend_0k (i := 0) (k := k) (by omega) (by omega) (by omega), mz_Mo_obeys_1_j42 hc, mz_Mo_obeys_1_j45 hc]; done)))
theorem mz_Mo_obeys_1_j40 {k : Nat} (hc : k ≠ 10 ∧ k ≠ 50 ∧ k ≠ 51 ∧ k ≠ 55 ∧ k ≠ 56) : ∀ (v0 : fw_V) (a2 : Int32) (a3 : Int32), (mf_Mo_obeys_1_j40 v0 a2 a3) 0 0 k = v0 0 0 k := by
  intro v0 a2 a3
  unfold mf_Mo_obeys_1_j40
  (try dsimp only)
  all_goals ((repeat' split) <;> (first | with_reducible rfl | (simp only [msend_0k (i := 0) (k := k) (by omega) (by omega) (by omega), mz_Mo_obeys_1_j41 hc]; done)))
theorem mz_Mo_obeys_1_j39 {k : Nat} (hc : k ≠ 10 ∧ k ≠ 50 ∧ k ≠ 51 ∧ k ≠ 55 ∧ k ≠ 56) : ∀ (v0 : fw_V) (a2 : Int32) (a3 : Int32), (mf_Mo_obeys_1_j39 v0 a2 a3) 0 0 k = v0 0 0 k := by
  intro v0 a2 a3
  unfold mf_Mo_obeys_1_j39
  (try dsimp only)
  all_goals ((repeat' split) <;> (first | with_reducible rfl | (simp only [msend_0k (i := 0) (k := k) (by omega) (by omega) (by omega), mz_Mo_obeys_1_j40 hc]; done)))
theorem mz_Mo_obeys_1_j50 {k : Nat} (hc : k ≠ 10 ∧ k ≠ 50 ∧ k ≠ 51 ∧ k ≠ 55 ∧ k ≠ 56) : ∀ (v0 : fw_V) (a2 : Int32) (a3 : Int32), (mf_Mo_obeys_1_j50 v0 a2 a3) 0 0 k = v0 0 0 k := by
  intro v0 a2 a3
  unfold mf_Mo_obeys_1_j50
  (try dsimp only)
  all_goals ((repeat' split) <;> (first | with_reducible rfl | (simp only [msend_0k (i := 0) (k := k) (by omega) (by omega) (by omega), mz_Mo_obeys_1_j46 hc]; done)))
theorem mz_Mo_obeys_1_j49 {k : Nat} (hc : k ≠ 10 ∧ k ≠ 50 ∧ k ≠ 51 ∧ k ≠ 55 ∧ k ≠ 56) : ∀ (v0 : fw_V) (a2 : Int32) (a3 : Int32), (mf_Mo_obeys_1_j49 v0 a2 a3) 0 0 k = v0 0 0 k := by
  intro v0 a2 a3
  unfold mf_Mo_obeys_1_j49
  (try dsimp only)
  all_goals ((repeat' split) <;> (first | with_reducible rfl | (simp only [msend_0k (i := 0) (k := k) (by omega) (by omega) (by omega), mz_Mo_obeys_1_j50 hc]; done)))
theorem mz_Mo_obeys_1_j51 {k : Nat} (hc : k ≠ 10 ∧ k ≠ 50 ∧ k ≠ 51 ∧ k ≠ 55 ∧ k ≠ 56) : ∀ (v0 : fw_V) (a2 : Int32) (a3 : Int32), (mf_Mo_obeys_1_j51 v0 a2 a3) 0 0 k = v0 0 0 k := by
  intro v0 a2 a3
  unfold mf_Mo_obeys_1_j51
  (try dsimp only)
  all_goals ((repeat' split) <;> (first | with_reducible rfl | (simp only [msend_0k (i := 0) (k := k) (by omega) (by omega) (by omega), mz_Mo_obeys_1_j46 hc]; done)))
theorem mz_Mo_obeys_1_j48 {k : Nat} (hc : k ≠ 10 ∧ k ≠ 50 ∧ k ≠ 51 ∧ k ≠ 55 ∧ k ≠ 56) : ∀ (v0 : fw_V) (a2 : Int32) (a3 : Int32), (mf_Mo_obeys_1_j48 v0 a2 a3) 0 0 k = v0 0 0 k := by
  intro v0 a2 a3
  unfold mf_Mo_obeys_1_j48
  (try dsimp only)
  all_goals ((repeat' split) <;> (first | with_reducible rfl | (simp only [msend_0k (i := 0) (k := k) (by omega) (by omega) (by omega), mz_Mo_obeys_1_j49 hc, mz_Mo_obeys_1_j51 hc]; done)))
theorem mz_Mo_obeys_1_j47 {k : Nat} (hc : k ≠ 10 ∧ k ≠ 50 ∧ k ≠ 51 ∧ k ≠ 55 ∧ k ≠ 56) : ∀ (v0 : fw_V) (a2 : Int32) (a3 : Int32), (mf_Mo_obeys_1_j47 v0 a2 a3) 0 0 k = v0 0 0 k := by
  intro v0 a2 a3
  unfold mf_Mo_obeys_1_j47
  (try dsimp only)
  all_goals ((repeat' split) <;> (first | with_reducible rfl | (simp only [msend_0k (i := 0) (k := k) (by omega) (by omega) (by omega), mz_Mo_obeys_1_j48 hc]; done)))
theorem mz_Mo_obeys_1_j38 {k : Nat} (hc : k ≠ 10 ∧ k ≠ 50 ∧ k ≠ 51 ∧ k ≠ 55 ∧ k ≠ 56) : ∀ (v0 : fw_V) (a2 : Int32) (a3 : Int32), (mf_Mo_obeys_1_j38 v0 a2 a3) 0 0 k = v0 0 0 k := by
  intro v0 a2 a3
  unfold mf_Mo_obeys_1_j38
  (try dsimp only)
  all_goals ((repeat' split) <;> (first | with_reducible rfl | (simp only [msend_0k (i := 0) (k := k) (by omega) (by omega) (by omega), mz_Mo_obeys_1_j39 hc, mz_Mo_obeys_1_j47 hc]; done)))
theorem mz_Mo_obeys_1_j37 {k : Nat} (hc : k ≠ 10 ∧ k ≠ 50 ∧ k ≠ 51 ∧ k ≠ 55 ∧ k ≠ 56) : ∀ (v0 : fw_V) (a2 : Int32) (a3 : Int32), (mf_Mo_obeys_1_j37 v0 a2 a3) 0 0 k = v0 0 0 k := by
  intro v0 a2 a3
  unfold mf_Mo_obeys_1_j37
  (try dsimp only)
  all_goals ((repeat' split) <;> (first | with_reducible rfl | (simp only [msend_0k (i := 0) (k := k) (by omega) (by omega) (by omega), mz_Mo_obeys_1_j38 hc]; done)))
theorem mz_Mo_obeys_1_j36 {k : Nat} (hc : k ≠ 10 ∧ k ≠ 50 ∧ k ≠ 51 ∧ k ≠ 55 ∧ k ≠ 56) : ∀ (v0 : fw_V) (a2 : Int32) (a3 : Int32), (mf_Mo_obeys_1_j36 v0 a2 a3) 0 0 k = v0 0 0 k := by
  intro v0 a2 a3
  unfold mf_Mo_obeys_1_j36
  (try dsimp only)
  all_goals ((repeat' split) <;> (first | with_reducible rfl | (simp only [msend_0k (i := 0) (k := k) (by omega) (by omega) (by omega), mz_Mo_obeys_1_j37 hc]; done)))
theorem mz_Mo_obeys_1_j55 {k : Nat} (hc : k ≠ 10 ∧ k ≠ 50 ∧ k ≠ 51 ∧ k ≠ 55 ∧ k ≠ 56) : ∀ (v0 : fw_V) (a2 : Int32) (a3 : Int32), (mf_Mo_obeys_1_j55 v0 a2 a3) 0 0 k = v0 0 0 k := by
  intro v0 a2 a3
  unfold mf_Mo_obeys_1_j55
  (try dsimp only)
  all_goals ((repeat' split) <;> (first | with_reducible rfl | (simp only [msend_0k (i := 0) (k := k) (by omega) (by omega) (by omega), mz_Mo_obeys_1_j48 hc]; done)))
theorem mz_Mo_obeys_1_j54 {k : Nat} (hc : k ≠ 10 ∧ k ≠ 50 ∧ k ≠ 51 ∧ k ≠ 55 ∧ k ≠ 56) : ∀ (v0 : fw_V) (a2 : Int32) (a3 : Int32), (mf_Mo_obeys_1_j54 v0 a2 a3) 0 0 k = v0 0 0 k := by
  intro v0 a2 a3
  unfold mf_Mo_obeys_1_j54
  (try dsimp only)
  all_goals ((repeat' split) <;> (first | with_reducible rfl | (simp only [msend_0k (i := 0) (k := k) (by omega) (by omega) (by omega), mz_Mo_obeys_1_j55 hc]; done)))
theorem mz_Mo_obeys_1_j56 {k : Nat} (hc : k ≠ 10 ∧ k ≠ 50 ∧ k ≠ 51 ∧ k ≠ 55 ∧ k ≠ 56) : ∀ (v0 : fw_V) (a2 : Int32) (a3 : Int32), (mf_Mo_obeys_1_j56 v0 a2 a3) 0 0 k = v0 0 0 k := by
  intro v0 a2 a3
  unfold mf_Mo_obeys_1_j56
  (try dsimp only)
  all_goals ((repeat' split) <;> (first | with_reducible rfl | (simp only [msend_0k (i := 0) (k := k) (by omega) (by omega) (by omega), mz_Mo_obeys_1_j48 hc]; done)))
theorem mz_Mo_obeys_1_j53 {k : Nat} (hc : k ≠ 10 ∧ k ≠ 50 ∧ k ≠ 51 ∧ k ≠ 55 ∧ k ≠ 56) : ∀ (v0 : fw_V) (a2 : Int32) (a3 : Int32), (mf_Mo_obeys_1_j53 v0 a2 a3) 0 0 k = v0 0 0 k := by
  intro v0 a2 a3
  unfold mf_Mo_obeys_1_j53
  (try dsimp only)
  all_goals ((repeat' split) <;> (first | with_reducible rfl | (simp only [msend_0k (i := 0) (k := k) (by omega) (by omega) (by omega), mz_Mo_obeys_1_j54 hc, mz_Mo_obeys_1_j56 hc]; done)))
theorem mz_Mo_obeys_1_j52 {k : Nat} (hc : k ≠ 10 ∧ k ≠ 50 ∧ k ≠ 51 ∧ k ≠ 55 ∧ k ≠ 56) : ∀ (v0 : fw_V) (a2 : Int32) (a3 : Int32), (mf_Mo_obeys_1_j52 v0 a2 a3) 0 0 k = v0 0 0 k := by
  intro v0 a2 a3
  unfold mf_Mo_obeys_1_j52
  (try dsimp only)
  all_goals ((repeat' split) <;> (first | with_reducible rfl | (simp only [msend_0k (i := 0) (k := k) (by omega) (by omega) (by omega), mz_Mo_obeys_1_j53 hc]; done)))
theorem mz_Mo_obeys_1_j35 {k : Nat} (hc : k ≠ 10 ∧ k ≠ 50 ∧ k ≠ 51 ∧ k ≠ 55 ∧ k ≠ 56) : ∀ (v0 : fw_V) (a2 : Int32) (a3 : Int32), (mf_Mo_obeys_1_j35 v0 a2 a3) 0 0 k = v0 0 0 k := by
  intro v0 a2 a3
  unfold mf_Mo_obeys_1_j35
  (try dsimp only)
  all_goals ((repeat' split) <;> (first | with_reducible rfl | (simp only [msend_0k (i := 0) (k := k) (by omega) (by omega) (by omega), mz_Mo_obeys_1_j36 hc, mz_Mo_obeys_1_j52 hc]; done)))
theorem mz_Mo_obeys_1_j9 {k : Nat} (hc : k ≠ 10 ∧ k ≠ 50 ∧ k ≠ 51 ∧ k ≠ 55 ∧ k ≠ 56) : ∀ (v : fw_V) (a2 : Int32) (a3 : Int32), (mf_Mo_obeys_1_j9 v a2 a3) 0 0 k = v 0 0 k := by
  intro v a2 a3
  unfold mf_Mo_obeys_1_j9
  (try dsimp only)
  all_goals ((repeat' split) <;> (first | with_reducible rfl | (simp only [msend_0k (i := 0) (k := k) (by omega) (by omega) (by omega)]; done)))
theorem mz_Mo_obeys_1_j8 {k : Nat} (hc : k ≠ 10 ∧ k ≠ 50 ∧ k ≠ 51 ∧ k ≠ 55 ∧ k ≠ 56) : ∀ (v : fw_V) (a2 : Int32) (a3 : Int32), (mf_Mo_obeys_1_j8 v a2 a3) 0 0 k = v 0 0 k := by
  intro v a2 a3
  unfold mf_Mo_obeys_1_j8
  (try dsimp only)
  all_goals ((repeat' split) <;> (first | with_reducible rfl | (simp only [fw_up_ne (c := 47) (i := 0) (k := 6) (c' := 0) (i' := 0) (k' := k) (by omega), fw_up_ne (c := 48) (i := 0) (k := 6) (c' := 0) (i' := 0) (k' := k) (by omega), msend_0k (i := 0) (k := k) (by omega) (by omega) (by omega), mz_Mo_obeys_1_j9 hc]; done)))
theorem mz_Mo_obeys_1_j7 {k : Nat} (hc : k ≠ 10 ∧ k ≠ 50 ∧ k ≠ 51 ∧ k ≠ 55 ∧ k ≠ 56) : ∀ (v : fw_V) (a2 : Int32) (a3 : Int32), (mf_Mo_obeys_1_j7 v a2 a3) 0 0 k = v 0 0 k := by
  intro v a2 a3
  unfold mf_Mo_obeys_1_j7
  (try dsimp only)
  all_goals ((repeat' split) <;> (first | with_reducible rfl | (simp only [fw_up_ne (c := 47) (i := 0) (k := 5) (c' := 0) (i' := 0) (k' := k) (by omega), fw_up_ne (c := 48) (i := 0) (k := 5) (c' := 0) (i' := 0) (k' := k) (by omega), msend_0k (i := 0) (k := k) (by omega) (by omega) (by omega), mz_Mo_obeys_1_j8 hc]; done)))
theorem mz_Mo_obeys_1_j6 {k : Nat} (hc : k ≠ 10 ∧ k ≠ 50 ∧ k ≠ 51 ∧ k ≠ 55 ∧ k ≠ 56) : ∀ (v : fw_V) (a2 : Int32) (a3 : Int32), (mf_Mo_obeys_1_j6 v a2 a3) 0 0 k = v 0 0 k := by
  intro v a2 a3
  unfold mf_Mo_obeys_1_j6
  (try dsimp only)
  all_goals ((repeat' split) <;> (first | with_reducible rfl | (simp only [fw_up_ne (c := 47) (i := 0) (k := 4) (c' := 0) (i' := 0) (k' := k) (by omega), fw_up_ne (c := 48) (i := 0) (k := 4) (c' := 0) (i' := 0) (k' := k) (by omega), msend_0k (i := 0) (k := k) (by omega) (by omega) (by omega), mz_Mo_obeys_1_j7 hc]; done)))
theorem mz_Mo_obeys_1_j61 {k : Nat} (hc : k ≠ 10 ∧ k ≠ 50 ∧ k ≠ 51 ∧ k ≠ 55 ∧ k ≠ 56) : ∀ (v0 : fw_V) (a2 : Int32) (a3 : Int32), (mf_Mo_obeys_1_j61 v0 a2 a3) 0 0 k = v0 0 0 k := by
  intro v0 a2 a3
  unfold mf_Mo_obeys_1_j61
  (try dsimp only)
  all_goals ((repeat' split) <;> (first | with_reducible rfl | (simp only [fw_up_ne (c := 36) (i := 0) (k := 1) (c' := 0) (i' := 0) (k' := k) (by omega), fw_up_ne (c := 37) (i := 0) (k := 1) (c' := 0) (i' := 0) (k' := k) (by omega), msend_0k (i := 0) (k := k) (by omega) (by omega) (by omega), mz_Mo_rest_1 hc, mz_Mo_obeys_1_j6 hc]; done)))
theorem mz_Mo_obeys_1_j22 {k : Nat} (hc : k ≠ 10 ∧ k ≠ 50 ∧ k ≠ 51 ∧ k ≠ 55 ∧ k ≠ 56) : ∀ (v : fw_V) (a2 : Int32) (a3 : Int32), (mf_Mo_obeys_1_j22 v a2 a3) 0 0 k = v 0 0 k := by
  intro v a2 a3
  unfold mf_Mo_obeys_1_j22
  (try dsimp only)
  all_goals ((repeat' split) <;> (first | with_reducible rfl | (simp only [msend_0k (i := 0) (k := k) (by omega) (by omega) (by omega)]; done)))
theorem mz_Mo_obeys_1_j21 {k : Nat} (hc : k ≠ 10 ∧ k ≠ 50 ∧ k ≠ 51 ∧ k ≠ 55 ∧ k ≠ 56) : ∀ (v : fw_V) (a2 : Int32) (a3 : Int32), (mf_Mo_obeys_1_j21 v a2 a3) 0 0 k = v 0 0 k := by
  intro v a2 a3
  unfold mf_Mo_obeys_1_j21
  (try dsimp only)
  all_goals ((repeat' split) <;> (first | with_reducible rfl | (simp only [msend_0k (i := 0) (k := k) (by omega) (by omega) (by omega), mz_Mo_obeys_1_j22 hc]; done)))
theorem mz_Mo_obeys_1_j23 {k : Nat} (hc : k ≠ 10 ∧ k ≠ 50 ∧ k ≠ 51 ∧ k ≠ 55 ∧ k ≠ 56) : ∀ (v : fw_V) (a2 : Int32) (a3 : Int32), (mf_Mo_obeys_1_j23 v a2 a3) 0 0 k = v 0 0 k := by
  intro v a2 a3
  unfold mf_Mo_obeys_1_j23
  (try dsimp only)
  all_goals ((repeat' split) <;> (first | with_reducible rfl | (simp only [fw_up_ne (c := 46) (i := 0) (k := 11) (c' := 0) (i' := 0) (k' := k) (by omega), msend_0k (i := 0) (k := k) (by omega) (by omega) (by omega), mz_Mo_obeys_1_j21 hc]; done)))
theorem mz_Mo_obeys_1_j24 {k : Nat} (hc : k ≠ 10 ∧ k ≠ 50 ∧ k ≠ 51 ∧ k ≠ 55 ∧ k ≠ 56) : ∀ (v : fw_V) (a2 : Int32) (a3 : Int32) (x90 : Int32), (mf_Mo_obeys_1_j24 v a2 a3 x90) 0 0 k = v 0 0 k := by
  intro v a2 a3 x90
  unfold mf_Mo_obeys_1_j24
  (try dsimp only)
  all_goals ((repeat' split) <;> (first | with_reducible rfl | (simp only [fw_up_ne (c := 46) (i := 0) (k := 11) (c' := 0) (i' := 0) (k' := k) (by omega), msend_0k (i := 0) (k := k) (by omega) (by omega) (by omega), mz_Mo_obeys_1_j21 hc]; done)))
theorem mz_Mo_obeys_1_j20 {k : Nat} (hc : k ≠ 10 ∧ k ≠ 50 ∧ k ≠ 51 ∧ k ≠ 55 ∧ k ≠ 56) : ∀ (v : fw_V) (a2 : Int32) (a3 : Int32), (mf_Mo_obeys_1_j20 v a2 a3) 0 0 k = v 0 0 k := by
  intro v a2 a3
  unfold mf_Mo_obeys_1_j20
  (try dsimp only)
  all_goals ((repeat' split) <;> (first | with_reducible rfl | (simp only [msend_0k (i := 0) (k := k) (by omega) (by omega) (by omega), mz_Mo_obeys_1_j21 hc, mz_Mo_obeys_1_j23 hc, mz_Mo_obeys_1_j24 hc]; done)))
theorem mz_Mo_obeys_1_j19 {k : Nat} (hc : k ≠ 10 ∧ k ≠ 50 ∧ k ≠ 51 ∧ k ≠ 55 ∧ k ≠ 56) : ∀ (v : fw_V) (a2 : Int32) (a3 : Int32), (mf_Mo_obeys_1_j19 v a2 a3) 0 0 k = v 0 0 k := by
  intro v a2 a3
  unfold mf_Mo_obeys_1_j19
  (try dsimp only)
  all_goals ((repeat' split) <;> (first | with_reducible rfl | (simp only [msend_0k (i := 0) (k := k) (by omega) (by omega) (by omega), mz_Mo_obeys_1_j20 hc]; done)))
theorem mz_Mo_obeys_1_j25 {k : Nat} (hc : k ≠ 10 ∧ k ≠ 50 ∧ k ≠ 51 ∧ k ≠ 55 ∧ k ≠ 56) : ∀ (v : fw_V) (a2 : Int32) (a3 : Int32), (mf_Mo_obeys_1_j25 v a2 a3) 0 0 k = v 0 0 k := by
  intro v a2 a3
  unfold mf_Mo_obeys_1_j25
  (try dsimp only)
  all_goals ((repeat' split) <;> (first | with_reducible rfl | (simp only [fw_up_ne (c := 46) (i := 0) (k := 10) (c' := 0) (i' := 0) (k' := k) (by omega), msend_0k (i := 0) (k := k) (by omega) (by omega) (by omega), mz_Mo_obeys_1_j19 hc]; done)))
theorem mz_Mo_obeys_1_j26 {k : Nat} (hc : k ≠ 10 ∧ k ≠ 50 ∧ k ≠ 51 ∧ k ≠ 55 ∧ k ≠ 56) : ∀ (v : fw_V) (a2 : Int32) (a3 : Int32) (x90 : Int32), (mf_Mo_obeys_1_j26 v a2 a3 x90) 0 0 k = v 0 0 k := by
  intro v a2 a3 x90
  unfold mf_Mo_obeys_1_j26
  (try dsimp only)
  all_goals ((repeat' split) <;> (first | with_reducible rfl | (simp only [fw_up_ne (c := 46) (i := 0) (k := 10) (c' := 0) (i' := 0) (k' := k) (by omega), msend_0k (i := 0) (k := k) (by omega) (by omega) (by omega), mz_Mo_obeys_1_j19 hc]; done)))
theorem mz_Mo_obeys_1_j18 {k : Nat} (hc : k ≠ 10 ∧ k ≠ 50 ∧ k ≠ 51 ∧ k ≠ 55 ∧ k ≠ 56) : ∀ (v : fw_V) (a2 : Int32) (a3 : Int32), (mf_Mo_obeys_1_j18 v a2 a3) 0 0 k = v 0 0 k := by
  intro v a2 a3
  unfold mf_Mo_obeys_1_j18
  (try dsimp only)
  all_goals ((repeat' split) <;> (first | with_reducible rfl | (simp only [msend_0k (i := 0) (k := k) (by omega) (by omega) (by omega), mz_Mo_obeys_1_j19 hc, mz_Mo_obeys_1_j25 hc, mz_Mo_obeys_1_j26 hc]; done)))
theorem mz_Mo_obeys_1_j17 {k : Nat} (hc : k ≠ 10 ∧ k ≠ 50 ∧ k ≠ 51 ∧ k ≠ 55 ∧ k ≠ 56) : ∀ (v : fw_V) (a2 : Int32) (a3 : Int32), (mf_Mo_obeys_1_j17 v a2 a3) 0 0 k = v 0 0 k := by
  intro v a2 a3
  unfold mf_Mo_obeys_1_j17
  (try dsimp only)
  all_goals ((repeat' split) <;> (first | with_reducible rfl | (simp only [msend_0k (i := 0) (k := k) (by omega) (by omega) (by omega), mz_Mo_obeys_1_j18 hc]; done)))
theorem mz_Mo_obeys_1_j27 {k : Nat} (hc : k ≠ 10 ∧ k ≠ 50 ∧ k ≠ 51 ∧ k ≠ 55 ∧ k ≠ 56) : ∀ (v : fw_V) (a2 : Int32) (a3 : Int32), (mf_Mo_obeys_1_j27 v a2 a3) 0 0 k = v 0 0 k := by
  intro v a2 a3
  unfold mf_Mo_obeys_1_j27
  (try dsimp only)
  all_goals ((repeat' split) <;> (first | with_reducible rfl | (simp only [fw_up_ne (c := 46) (i := 0) (k := 9) (c' := 0) (i' := 0) (k' := k) (by omega), msend_0k (i := 0) (k := k) (by omega) (by omega) (by omega), mz_Mo_obeys_1_j17 hc]; done)))
theorem mz_Mo_obeys_1_j28 {k : Nat} (hc : k ≠ 10 ∧ k ≠ 50 ∧ k ≠ 51 ∧ k ≠ 55 ∧ k ≠ 56) : ∀ (v : fw_V) (a2 : Int32) (a3 : Int32) (x90 : Int32), (mf_Mo_obeys_1_j28 v a2 a3 x90) 0 0 k = v 0 0 k := by
  intro v a2 a3 x90
  unfold mf_Mo_obeys_1_j28
  (try dsimp only)
  all_goals ((repeat' split) <;> (first | with_reducible rfl | (simp only [fw_up_ne (c := 46) (i := 0) (k := 9) (c' := 0) (i' := 0) (k' := k) (by omega), msend_0k (i := 0) (k := k) (by omega) (by omega) (by omega), mz_Mo_obeys_1_j17 hc]; done)))
theorem mz_Mo_obeys_1_j16 {k : Nat} (hc : k ≠ 10 ∧ k ≠ 50 ∧ k ≠ 51 ∧ k ≠ 55 ∧ k ≠ 56) : ∀ (v : fw_V) (a2 : Int32) (a3 : Int32), (mf_Mo_obeys_1_j16 v a2 a3) 0 0 k = v 0 0 k := by
  intro v a2 a3
  unfold mf_Mo_obeys_1_j16
  (try dsimp only)
  all_goals ((repeat' split) <;> (first | with_reducible rfl | (simp only [msend_0k (i := 0) (k := k) (by omega) (by omega) (by omega), mz_Mo_obeys_1_j17 hc, mz_Mo_obeys_1_j27 hc, mz_Mo_obeys_1_j28 hc]; done)))
theorem mz_Mo_obeys_1_j15 {k : Nat} (hc : k ≠ 10 ∧ k ≠ 50 ∧ k ≠ 51 ∧ k ≠ 55 ∧ k ≠ 56) : ∀ (v : fw_V) (a2 : Int32) (a3 : Int32), (mf_Mo_obeys_1_j15 v a2 a3) 0 0 k = v 0 0 k := by
  intro v a2 a3
  unfold mf_Mo_obeys_1_j15
  (try dsimp only)
  all_goals ((repeat' split) <;> (first | with_reducible rfl | (simp only [msend_0k (i := 0) (k := k) (by omega) (by omega) (by omega), mz_Mo_obeys_1_j16 hc]; done)))
theorem mz_Mo_obeys_1_j29 {k : Nat} (hc : k ≠ 10 ∧ k ≠ 50 ∧ k ≠ 51 ∧ k ≠ 55 ∧ k ≠ 56) : ∀ (v : fw_V) (a2 : Int32) (a3 : Int32), (mf_Mo_obeys_1_j29 v a2 a3) 0 0 k = v 0 0 k := by
  intro v a2 a3
  unfold mf_Mo_obeys_1_j29
  (try dsimp only)
  all_goals ((repeat' split) <;> (first | with_reducible rfl | (simp only [fw_up_ne (c := 46) (i := 0) (k := 8) (c' := 0) (i' := 0) (k' := k) (by omega), msend_0k (i := 0) (k := k) (by omega) (by omega) (by omega), mz_Mo_obeys_1_j15 hc]; done)))
theorem mz_Mo_obeys_1_j30 {k : Nat} (hc : k ≠ 10 ∧ k ≠ 50 ∧ k ≠ 51 ∧ k ≠ 55 ∧ k ≠ 56) : ∀ (v : fw_V) (a2 : Int32) (a3 : Int32) (x90 : Int32), (mf_Mo_obeys_1_j30 v a2 a3 x90) 0 0 k = v 0 0 k := by
  intro v a2 a3 x90
  unfold mf_Mo_obeys_1_j30
  (try dsimp only)
  all_goals ((repeat' split) <;> (first | with_reducible rfl | (simp only [fw_up_ne (c := 46) (i := 0) (k := 8) (c' := 0) (i' := 0) (k' := k) (by omega), msend_0k (i := 0) (k := k) (by omega) (by omega) (by omega), mz_Mo_obeys_1_j15 hc]; done)))
theorem mz_Mo_obeys_1_j14 {k : Nat} (hc : k ≠ 10 ∧ k ≠ 50 ∧ k ≠ 51 ∧ k ≠ 55 ∧ k ≠ 56) : ∀ (v : fw_V) (a2 : Int32) (a3 : Int32), (mf_Mo_obeys_1_j14 v a2 a3) 0 0 k = v 0 0 k := by
  intro v a2 a3
  unfold mf_Mo_obeys_1_j14
  (try dsimp only)
  all_goals ((repeat' split) <;> (first | with_reducible rfl | (simp only [msend_0k (i := 0) (k := k) (by omega) (by omega) (by omega), mz_Mo_obeys_1_j15 hc, mz_Mo_obeys_1_j29 hc, mz_Mo_obeys_1_j30 hc]; done)))
theorem mz_Mo_obeys_1_j13 {k : Nat} (hc : k ≠ 10 ∧ k ≠ 50 ∧ k ≠ 51 ∧ k ≠ 55 ∧ k ≠ 56) : ∀ (v : fw_V) (a2 : Int32) (a3 : Int32), (mf_Mo_obeys_1_j13 v a2 a3) 0 0 k = v 0 0 k := by
  intro v a2 a3
  unfold mf_Mo_obeys_1_j13
  (try dsimp only)
  all_goals ((repeat' split) <;> (first | with_reducible rfl | (simp only [msend_0k (i := 0) (k := k) (by omega) (by omega) (by omega), mz_Mo_obeys_1_j14 hc]; done)))
theorem mz_Mo_obeys_1_j31 {k : Nat} (hc : k ≠ 10 ∧ k ≠ 50 ∧ k ≠ 51 ∧ k ≠ 55 ∧ k ≠ 56) : ∀ (v : fw_V) (a2 : Int32) (a3 : Int32), (mf_Mo_obeys_1_j31 v a2 a3) 0 0 k = v 0 0 k := by
  intro v a2 a3
  unfold mf_Mo_obeys_1_j31
  (try dsimp only)
  all_goals ((repeat' split) <;> (first | with_reducible rfl | (simp only [fw_up_ne (c := 46) (i := 0) (k := 7) (c' := 0) (i' := 0) (k' := k) (by omega), msend_0k (i := 0) (k := k) (by omega) (by omega) (by omega), mz_Mo_obeys_1_j13 hc]; done)))
theorem mz_Mo_obeys_1_j32 {k : Nat} (hc : k ≠ 10 ∧ k ≠ 50 ∧ k ≠ 51 ∧ k ≠ 55 ∧ k ≠ 56) : ∀ (v : fw_V) (a2 : Int32) (a3 : Int32) (x90 : Int32), (mf_Mo_obeys_1_j32 v a2 a3 x90) 0 0 k = v 0 0 k := by
  intro v a2 a3 x90
  unfold mf_Mo_obeys_1_j32
  (try dsimp only)
  all_goals ((repeat' split) <;> (first | with_reducible rfl | (simp only [fw_up_ne (c := 46) (i := 0) (k := 7) (c' := 0) (i' := 0) (k' := k) (by omega), msend_0k (i := 0) (k := k) (by omega) (by omega) (by omega), mz_Mo_obeys_1_j13 hc]; done)))
theorem mz_Mo_obeys_1_j12 {k : Nat} (hc : k ≠ 10 ∧ k ≠ 50 ∧ k ≠ 51 ∧ k ≠ 55 ∧ k ≠ 56) : ∀ (v : fw_V) (a2 : Int32) (a3 : Int32), (mf_Mo_obeys_1_j12 v a2 a3) 0 0 k = v 0 0 k := by
  intro v a2 a3
  unfold mf_Mo_obeys_1_j12
  (try dsimp only)
  all_goals ((repeat' split) <;> (first | with_reducible rfl | (simp only [msend_0k (i := 0) (k := k) (by omega) (by omega) (by omega), mz_Mo_obeys_1_j13 hc, mz_Mo_obeys_1_j31 hc, mz_Mo_obeys_1_j32 hc]; done)))
theorem mz_Mo_obeys_1_j11 {k : Nat} (hc : k ≠ 10 ∧ k ≠ 50 ∧ k ≠ 51 ∧ k ≠ 55 ∧ k ≠ 56) : ∀ (v : fw_V) (a2 : Int32) (a3 : Int32), (mf_Mo_obeys_1_j11 v a2 a3) 0 0 k = v 0 0 k := by
  intro v a2 a3
  unfold mf_Mo_obeys_1_j11
  (try dsimp only)
  all_goals ((repeat' split) <;> (first | with_reducible rfl | (simp only [msend_0k (i := 0) (k := k) (by omega) (by omega) (by omega), mz_Mo_obeys_1_j12 hc]; done)))
theorem mz_Mo_obeys_1_j33 {k : Nat} (hc : k ≠ 10 ∧ k ≠ 50 ∧ k ≠ 51 ∧ k ≠ 55 ∧ k ≠ 56) : ∀ (v : fw_V) (a2 : Int32) (a3 : Int32), (mf_Mo_obeys_1_j33 v a2 a3) 0 0 k = v 0 0 k := by
  intro v a2 a3
  unfold mf_Mo_obeys_1_j33
  (try dsimp only)
  all_goals ((repeat' split) <;> (first | with_reducible rfl | (simp only [fw_up_ne (c := 46) (i := 0) (k := 6) (c' := 0) (i' := 0) (k' := k) (by omega), msend_0k (i := 0) (k := k) (by omega) (by omega) (by omega), mz_Mo_obeys_1_j11 hc]; done)))
theorem mz_Mo_obeys_1_j34 {k : Nat} (hc : k ≠ 10 ∧ k ≠ 50 ∧ k ≠ 51 ∧ k ≠ 55 ∧ k ≠ 56) : ∀ (v : fw_V) (a2 : Int32) (a3 : Int32) (x90 : Int32), (mf_Mo_obeys_1_j34 v a2 a3 x90) 0 0 k = v 0 0 k := by
  intro v a2 a3 x90
  unfold mf_Mo_obeys_1_j34
  (try dsimp only)
  all_goals ((repeat' split) <;> (first | with_reducible rfl | (simp only [fw_up_ne (c := 46) (i := 0) (k := 6) (c' := 0) (i' := 0) (k' := k) (by omega), msend_0k (i := 0) (k := k) (by omega) (by omega) (by omega), mz_Mo_obeys_1_j11 hc]; done)))
theorem mz_Mo_obeys_1_j10 {k : Nat} (hc : k ≠ 10 ∧ k ≠ 50 ∧ k ≠ 51 ∧ k ≠ 55 ∧ k ≠ 56) : ∀ (v : fw_V) (a2 : Int32) (a3 : Int32), (mf_Mo_obeys_1_j10 v a2 a3) 0 0 k = v 0 0 k := by
  intro v a2 a3
  unfold mf_Mo_obeys_1_j10
  (try dsimp only)
  all_goals ((repeat' split) <;> (first | with_reducible rfl | (simp only [msend_0k (i := 0) (k := k) (by omega) (by omega) (by omega), mz_Mo_obeys_1_j11 hc, mz_Mo_obeys_1_j33 hc, mz_Mo_obeys_1_j34 hc]; done)))
theorem mz_Mo_obeys_1_j60 {k : Nat} (hc : k ≠ 10 ∧ k ≠ 50 ∧ k ≠ 51 ∧ k ≠ 55 ∧ k ≠ 56) : ∀ (v0 : fw_V) (a2 : Int32) (a3 : Int32), (mf_Mo_obeys_1_j60 v0 a2 a3) 0 0 k = v0 0 0 k := by
  intro v0 a2 a3
  unfold mf_Mo_obeys_1_j60
  (try dsimp only)
  all_goals ((repeat' split) <;> (first | with_reducible rfl | (simp only [fw_up_ne (c := 35) (i := 0) (k := 1) (c' := 0) (i' := 0) (k' := k) (by omega), fw_up_ne (c := 32) (i := 0) (k := 1) (c' := 0) (i' := 0) (k' := k) (by omega), msend_0k (i := 0) (k := k) (by omega) (by omega) (by omega), mz_Mo_obeys_1_j61 hc, mz_Mo_obeys_1_j10 hc]; done)))
theorem mz_Mo_obeys_1_j59 {k : Nat} (hc : k ≠ 10 ∧ k ≠ 50 ∧ k ≠ 51 ∧ k ≠ 55 ∧ k ≠ 56) : ∀ (v0 : fw_V) (a2 : Int32) (a3 : Int32), (mf_Mo_obeys_1_j59 v0 a2 a3) 0 0 k = v0 0 0 k := by
  intro v0 a2 a3
  unfold mf_Mo_obeys_1_j59
  (try dsimp only)
  all_goals ((repeat' split) <;> (first | with_reducible rfl | (simp only [fw_up_ne (c := 28) (i := 0) (k := 1) (c' := 0) (i' := 0) (k' := k) (by omega), fw_up_ne (c := 32) (i := 0) (k := 1) (c' := 0) (i' := 0) (k' := k) (by omega), fw_up_ne (c := 34) (i := 0) (k := 1) (c' := 0) (i' := 0) (k' := k) (by omega), fw_up_ne (c := 35) (i := 0) (k := 1) (c' := 0) (i' := 0) (k' := k) (by omega), fw_up_ne (c := 37) (i := 0) (k := 1) (c' := 0) (i' := 0) (k' := k) (by omega), fw_up_ne (c := 36) (i := 0) (k := 1) (c' := 0) (i' := 0) (k' := k) (by omega), fw_up_ne (c := 39) (i := 0) (k := 1) (c' := 0) (i' := 0) (k' := k) (by omega), msend_0k (i := 0) (k := k) (by omega) (by omega) (by omega), mz_Mo_obeys_1_j60 hc]; done)))
theorem mz_Mo_obeys_1_j58 {k : Nat} (hc : k ≠ 10 ∧ k ≠ 50 ∧ k ≠ 51 ∧ k ≠ 55 ∧ k ≠ 56) : ∀ (v0 : fw_V) (a2 : Int32) (a3 : Int32), (mf_Mo_obeys_1_j58 v0 a2 a3) 0 0 k = v0 0 0 k := by
  intro v0 a2 a3
  unfold mf_Mo_obeys_1_j58
  (try dsimp only)
  all_goals ((repeat' split) <;> (first | with_reducible rfl | (simp only [msend_0k (i := 0) (k := k) (by omega) (by omega) (by omega), mz_Mo_reply_1 hc, mz_Mo_obeys_1_j59 hc]; done)))
theorem mz_Mo_obeys_1_j57 {k : Nat} (hc : k ≠ 10 ∧ k ≠ 50 ∧ k ≠ 51 ∧ k ≠ 55 ∧ k ≠ 56) : ∀ (v0 : fw_V) (a2 : Int32) (a3 : Int32), (mf_Mo_obeys_1_j57 v0 a2 a3) 0 0 k = v0 0 0 k := by
  intro v0 a2 a3
  unfold mf_Mo_obeys_1_j57
  (try dsimp only)
  all_goals ((repeat' split) <;> (first | with_reducible rfl | (simp only [msend_0k (i := 0) (k := k) (by omega) (by omega) (by omega), mz_Mo_obeys_1_j35 hc, mz_Mo_obeys_1_j58 hc]; done)))
theorem mz_Mo_obeys_1_j5 {k : Nat} (hc : k ≠ 10 ∧ k ≠ 50 ∧ k ≠ 51 ∧ k ≠ 55 ∧ k ≠ 56) : ∀ (v0 : fw_V) (a2 : Int32) (a3 : Int32), (mf_Mo_obeys_1_j5 v0 a2 a3) 0 0 k = v0 0 0 k := by
  intro v0 a2 a3
  unfold mf_Mo_obeys_1_j5
  (try dsimp only)
  all_goals ((repeat' split) <;> (first | with_reducible rfl | (simp only [fw_up_ne (c := 36) (i := 0) (k := 1) (c' := 0) (i' := 0) (k' := k) (by omega), fw_up_ne (c := 37) (i := 0) (k := 1) (c' := 0) (i' := 0) (k' := k) (by omega), msend_0k (i := 0) (k := k) (by omega) (by omega) (by omega), mz_Mo_rest_1 hc, mz_Mo_obeys_1_j6 hc]; done)))
theorem mz_Mo_obeys_1_j4 {k : Nat} (hc : k ≠ 10 ∧ k ≠ 50 ∧ k ≠ 51 ∧ k ≠ 55 ∧ k ≠ 56) : ∀ (v0 : fw_V) (a2 : Int32) (a3 : Int32), (mf_Mo_obeys_1_j4 v0 a2 a3) 0 0 k = v0 0 0 k := by
  intro v0 a2 a3
  unfold mf_Mo_obeys_1_j4
  (try dsimp only)
  all_goals ((repeat' split) <;> (first | with_reducible rfl | (simp only [fw_up_ne (c := 35) (i := 0) (k := 1) (c' := 0) (i' := 0) (k' := k) (by omega), fw_up_ne (c := 32) (i := 0) (k := 1) (c' := 0) (i' := 0) (k' := k) (by omega), msend_0k (i := 0) (k := k) (by omega) (by omega) (by omega), mz_Mo_obeys_1_j5 hc, mz_Mo_obeys_1_j10 hc]; done)))
theorem mz_Mo_obeys_1_j3 {k : Nat} (hc : k ≠ 10 ∧ k ≠ 50 ∧ k ≠ 51 ∧ k ≠ 55 ∧ k ≠ 56) : ∀ (v0 : fw_V) (a2 : Int32) (a3 : Int32), (mf_Mo_obeys_1_j3 v0 a2 a3) 0 0 k = v0 0 0 k := by
  intro v0 a2 a3
  unfold mf_Mo_obeys_1_j3
  (try dsimp only)
  all_goals ((repeat' split) <;> (first | with_reducible rfl | (simp only [fw_up_ne (c := 28) (i := 0) (k := 1) (c' := 0) (i' := 0) (k' := k) (by omega), fw_up_ne (c := 32) (i := 0) (k := 1) (c' := 0) (i' := 0) (k' := k) (by omega), fw_up_ne (c := 34) (i := 0) (k := 1) (c' := 0) (i' := 0) (k' := k) (by omega), fw_up_ne (c := 35) (i := 0) (k := 1) (c' := 0) (i' := 0) (k' := k) (by omega), fw_up_ne (c := 37) (i := 0) (k := 1) (c' := 0) (i' := 0) (k' := k) (by omega), fw_up_ne (c := 36) (i := 0) (k := 1) (c' := 0) (i' := 0) (k' := k) (by omega), fw_up_ne (c := 39) (i := 0) (k := 1) (c' := 0) (i' := 0) (k' := k) (by omega), msend_0k (i := 0) (k := k) (by omega) (by omega) (by omega), mz_Mo_obeys_1_j4 hc]; done)))
theorem mz_Mo_obeys_1_j2 {k : Nat} (hc : k ≠ 10 ∧ k ≠ 50 ∧ k ≠ 51 ∧ k ≠ 55 ∧ k ≠ 56) : ∀ (v0 : fw_V) (a2 : Int32) (a3 : Int32), (mf_Mo_obeys_1_j2 v0 a2 a3) 0 0 k = v0 0 0 k := by
  intro v0 a2 a3
  unfold mf_Mo_obeys_1_j2
  (try dsimp only)
  all_goals ((repeat' split) <;> (first | with_reducible rfl | (simp only [msend_0k (i := 0) (k := k) (by omega) (by omega) (by omega), mz_Mo_reply_1 hc, mz_Mo_obeys_1_j3 hc]; done)))
theorem mz_Mo_obeys_1_j1 {k : Nat} (hc : k ≠ 10 ∧ k ≠ 50 ∧ k ≠ 51 ∧ k ≠ 55 ∧ k ≠ 56) : ∀ (v0 : fw_V) (a2 : Int32) (a3 : Int32), (mf_Mo_obeys_1_j1 v0 a2 a3) 0 0 k = v0 0 0 k := by
  intro v0 a2 a3
  unfold mf_Mo_obeys_1_j1
  (try dsimp only)
  all_goals ((repeat' split) <;> (first | with_reducible rfl | (simp only [msend_0k (i := 0) (k := k) (by omega) (by omega) (by omega), mz_Mo_obeys_1_j35 hc, mz_Mo_obeys_1_j2 hc]; done)))
theorem mz_Mo_obeys_1 {k : Nat} (hc : k ≠ 10 ∧ k ≠ 50 ∧ k ≠ 51 ∧ k ≠ 55 ∧ k ≠ 56) : ∀ (v0 : fw_V) (a2 : Int32) (a3 : Int32), (mf_Mo_obeys_1 v0 a2 a3) 0 0 k = v0 0 0 k := by
  intro v0 a2 a3
  unfold mf_Mo_obeys_1
  (try dsimp only)
  all_goals ((repeat' split) <;> (first | with_reducible rfl | (simp only [fw_up_c (c := 44) (c' := 0) (by decide), fw_up_ne (c := 32) (i := 0) (k := 1) (c' := 0) (i' := 0) (k' := k) (by omega), msend_0k (i := 0) (k := k) (by omega) (by omega) (by omega), mz_Mo_reply_1 hc, mz_Mo_obeys_1_j57 hc, mz_Mo_obeys_1_j1 hc]; done)))
theorem mz_Mo_arrives_1 {k : Nat} (hc : k ≠ 10 ∧ k ≠ 50 ∧ k ≠ 51 ∧ k ≠ 55 ∧ k ≠ 56) : ∀ (v0 : fw_V) (a2 : Int32) (a3 : Int32) (a4 : Int32), (mf_Mo_arrives_1 v0 a2 a3 a4) 0 0 k = v0 0 0 k := by
  intro v0 a2 a3 a4
  unfold mf_Mo_arrives_1
  (try dsimp only)
  all_goals ((repeat' split) <;> (first | with_reducible rfl | (simp only [fw_up_ne (c := 9) (i := 0) (k := 0) (c' := 0) (i' := 0) (k' := k) (by omega), msend_0k (i := 0) (k := k) (by omega) (by omega) (by omega), mz_Mo_connect_1 hc, mz_Mo_obeys_1 hc]; done)))
theorem mz_Mo_alarm_1_j2 {k : Nat} (hc : k ≠ 10 ∧ k ≠ 50 ∧ k ≠ 51 ∧ k ≠ 55 ∧ k ≠ 56) : ∀ (v : fw_V), (mf_Mo_alarm_1_j2 v) 0 0 k = v 0 0 k := by
  intro v
  unfold mf_Mo_alarm_1_j2
  (try dsimp only)
  all_goals ((repeat' split) <;> (first | with_reducible rfl | (simp only [fw_up_ne (c := 38) (i := 0) (k := 1) (c' := 0) (i' := 0) (k' := k) (by omega), fw_up_ne (c := 9) (i := 0) (k := 0) (c' := 0) (i' := 0) (k' := k) (by omega), fw_up_ne (c := 9) (i := 0) (k := 1) (c' := 0) (i' := 0) (k' := k) (by omega), msend_0k (i := 0) (k := k) (by omega) (by omega) (by omega), mz_Mo_reply_1 hc]; done)))
theorem mz_Mo_alarm_1_j3 {k : Nat} (hc : k ≠ 10 ∧ k ≠ 50 ∧ k ≠ 51 ∧ k ≠ 55 ∧ k ≠ 56) : ∀ (v0 : fw_V), (mf_Mo_alarm_1_j3 v0) 0 0 k = v0 0 0 k := by
  intro v0
  unfold mf_Mo_alarm_1_j3
  (try dsimp only)
  all_goals ((repeat' split) <;> (first | with_reducible rfl | (simp only [fw_up_ne (c := 39) (i := 0) (k := 1) (c' := 0) (i' := 0) (k' := k) (by omega), fw_up_ne (c := 36) (i := 0) (k := 1) (c' := 0) (i' := 0) (k' := k) (by omega), msend_0k (i := 0) (k := k) (by omega) (by omega) (by omega), mz_Mo_alarm_1_j2 hc]; done)))
theorem mz_Mo_alarm_1_j1 {k : Nat} (hc : k ≠ 10 ∧ k ≠ 50 ∧ k ≠ 51 ∧ k ≠ 55 ∧ k ≠ 56) : ∀ (v0 : fw_V), (mf_Mo_alarm_1_j1 v0) 0 0 k = v0 0 0 k := by
  intro v0
  unfold mf_Mo_alarm_1_j1
  (try dsimp only)
  all_goals ((repeat' split) <;> (first | with_reducible rfl | (simp only [fw_up_ne (c := 39) (i := 0) (k := 1) (c' := 0) (i' := 0) (k' := k) (by omega), fw_up_ne (c := 36) (i := 0) (k := 1) (c' := 0) (i' := 0) (k' := k) (by omega), msend_0k (i := 0) (k := k) (by omega) (by omega) (by omega), mz_Mo_alarm_1_j2 hc]; done)))
theorem mz_Mo_alarm_1 {k : Nat} (hc : k ≠ 10 ∧ k ≠ 50 ∧ k ≠ 51 ∧ k ≠ 55 ∧ k ≠ 56) : ∀ (v0 : fw_V), (mf_Mo_alarm_1 v0) 0 0 k = v0 0 0 k := by
  intro v0
  unfold mf_Mo_alarm_1
  (try dsimp only)
  all_goals ((repeat' split) <;> (first | with_reducible rfl | (simp only [fw_up_ne (c := 38) (i := 0) (k := 1) (c' := 0) (i' := 0) (k' := k) (by omega), msend_0k (i := 0) (k := k) (by omega) (by omega) (by omega), mz_Mo_alarm_1_j3 hc, mz_Mo_alarm_1_j1 hc, mz_Mo_alarm_1_j2 hc]; done)))
theorem mz_Mo_pulse_1_j25 {k : Nat} (hc : k ≠ 10 ∧ k ≠ 50 ∧ k ≠ 51 ∧ k ≠ 55 ∧ k ≠ 56) : ∀ (v : fw_V), (mf_Mo_pulse_1_j25 v) 0 0 k = v 0 0 k := by
  intro v
  unfold mf_Mo_pulse_1_j25
  (try dsimp only)
  all_goals ((repeat' split) <;> (first | with_reducible rfl | (simp only [fw_up_ne (c := 9) (i := 0) (k := 6) (c' := 0) (i' := 0) (k' := k) (by omega), fw_up_ne (c := 34) (i := 0) (k := 1) (c' := 0) (i' := 0) (k' := k) (by omega), msend_0k (i := 0) (k := k) (by omega) (by omega) (by omega), mz_Mo_reply_1 hc]; done)))
theorem mz_Mo_pulse_1_j24 {k : Nat} (hc : k ≠ 10 ∧ k ≠ 50 ∧ k ≠ 51 ∧ k ≠ 55 ∧ k ≠ 56) : ∀ (v : fw_V), (mf_Mo_pulse_1_j24 v) 0 0 k = v 0 0 k := by
  intro v
  unfold mf_Mo_pulse_1_j24
  (try dsimp only)
  all_goals ((repeat' split) <;> (first | with_reducible rfl | (simp only [msend_0k (i := 0) (k := k) (by omega) (by omega) (by omega), mz_Mo_pulse_1_j25 hc]; done)))
theorem mz_Mo_pulse_1_j27 {k : Nat} (hc : k ≠ 10 ∧ k ≠ 50 ∧ k ≠ 51 ∧ k ≠ 55 ∧ k ≠ 56) : ∀ (v : fw_V), (mf_Mo_pulse_1_j27 v) 0 0 k = v 0 0 k := by
  intro v
  unfold mf_Mo_pulse_1_j27
  (try dsimp only)
  all_goals ((repeat' split) <;> (first | with_reducible rfl | (simp only [fw_up_ne (c := 9) (i := 0) (k := 6) (c' := 0) (i' := 0) (k' := k) (by omega), fw_up_ne (c := 34) (i := 0) (k := 1) (c' := 0) (i' := 0) (k' := k) (by omega), msend_0k (i := 0) (k := k) (by omega) (by omega) (by omega), mz_Mo_reply_1 hc]; done)))
theorem mz_Mo_pulse_1_j26 {k : Nat} (hc : k ≠ 10 ∧ k ≠ 50 ∧ k ≠ 51 ∧ k ≠ 55 ∧ k ≠ 56) : ∀ (v : fw_V), (mf_Mo_pulse_1_j26 v) 0 0 k = v 0 0 k := by
  intro v
  unfold mf_Mo_pulse_1_j26
  (try dsimp only)
  all_goals ((repeat' split) <;> (first | with_reducible rfl | (simp only [msend_0k (i := 0) (k := k) (by omega) (by omega) (by omega), mz_Mo_pulse_1_j27 hc]; done)))
theorem mz_Mo_pulse_1_j23 {k : Nat} (hc : k ≠ 10 ∧ k ≠ 50 ∧ k ≠ 51 ∧ k ≠ 55 ∧ k ≠ 56) : ∀ (v : fw_V) (x4 : Int32), (mf_Mo_pulse_1_j23 v x4) 0 0 k = v 0 0 k := by
  intro v x4
  unfold mf_Mo_pulse_1_j23
  (try dsimp only)
  all_goals ((repeat' split) <;> (first | with_reducible rfl | (simp only [fw_up_ne (c := 9) (i := 0) (k := 5) (c' := 0) (i' := 0) (k' := k) (by omega), msend_0k (i := 0) (k := k) (by omega) (by omega) (by omega), mz_Mo_pulse_1_j24 hc, mz_Mo_pulse_1_j26 hc]; done)))
theorem mz_Mo_pulse_1_j22 {k : Nat} (hc : k ≠ 10 ∧ k ≠ 50 ∧ k ≠ 51 ∧ k ≠ 55 ∧ k ≠ 56) : ∀ (v : fw_V) (x4 : Int32), (mf_Mo_pulse_1_j22 v x4) 0 0 k = v 0 0 k := by
  intro v x4
  unfold mf_Mo_pulse_1_j22
  (try dsimp only)
  all_goals ((repeat' split) <;> (first | with_reducible rfl | (simp only [msend_0k (i := 0) (k := k) (by omega) (by omega) (by omega), mz_Mo_pulse_1_j23 hc]; done)))
theorem mz_Mo_pulse_1_j28 {k : Nat} (hc : k ≠ 10 ∧ k ≠ 50 ∧ k ≠ 51 ∧ k ≠ 55 ∧ k ≠ 56) : ∀ (v : fw_V) (x4 : Int32) (x90 : Int32), (mf_Mo_pulse_1_j28 v x4 x90) 0 0 k = v 0 0 k := by
  intro v x4 x90
  unfold mf_Mo_pulse_1_j28
  (try dsimp only)
  all_goals ((repeat' split) <;> (first | with_reducible rfl | (simp only [fw_up_ne (c := 9) (i := 0) (k := 5) (c' := 0) (i' := 0) (k' := k) (by omega), msend_0k (i := 0) (k := k) (by omega) (by omega) (by omega), mz_Mo_pulse_1_j24 hc, mz_Mo_pulse_1_j26 hc]; done)))
theorem mz_Mo_pulse_1_j21 {k : Nat} (hc : k ≠ 10 ∧ k ≠ 50 ∧ k ≠ 51 ∧ k ≠ 55 ∧ k ≠ 56) : ∀ (v : fw_V), (mf_Mo_pulse_1_j21 v) 0 0 k = v 0 0 k := by
  intro v
  unfold mf_Mo_pulse_1_j21
  (try dsimp only)
  all_goals ((repeat' split) <;> (first | with_reducible rfl | (simp only [msend_0k (i := 0) (k := k) (by omega) (by omega) (by omega), mz_Mo_pulse_1_j22 hc, mz_Mo_pulse_1_j28 hc]; done)))
theorem mz_Mo_pulse_1_j20 {k : Nat} (hc : k ≠ 10 ∧ k ≠ 50 ∧ k ≠ 51 ∧ k ≠ 55 ∧ k ≠ 56) : ∀ (v : fw_V), (mf_Mo_pulse_1_j20 v) 0 0 k = v 0 0 k := by
  intro v
  unfold mf_Mo_pulse_1_j20
  (try dsimp only)
  all_goals ((repeat' split) <;> (first | with_reducible rfl | (simp only [msend_0k (i := 0) (k := k) (by omega) (by omega) (by omega), mz_Mo_pulse_1_j21 hc]; done)))
theorem mz_Mo_pulse_1_j33 {k : Nat} (hc : k ≠ 10 ∧ k ≠ 50 ∧ k ≠ 51 ∧ k ≠ 55 ∧ k ≠ 56) : ∀ (v : fw_V), (mf_Mo_pulse_1_j33 v) 0 0 k = v 0 0 k := by
  intro v
  unfold mf_Mo_pulse_1_j33
  (try dsimp only)
  all_goals ((repeat' split) <;> (first | with_reducible rfl | (simp only [msend_0k (i := 0) (k := k) (by omega) (by omega) (by omega), mz_Mo_pulse_1_j27 hc]; done)))
theorem mz_Mo_pulse_1_j34 {k : Nat} (hc : k ≠ 10 ∧ k ≠ 50 ∧ k ≠ 51 ∧ k ≠ 55 ∧ k ≠ 56) : ∀ (v : fw_V), (mf_Mo_pulse_1_j34 v) 0 0 k = v 0 0 k := by
  intro v
  unfold mf_Mo_pulse_1_j34
  (try dsimp only)
  all_goals ((repeat' split) <;> (first | with_reducible rfl | (simp only [msend_0k (i := 0) (k := k) (by omega) (by omega) (by omega), mz_Mo_pulse_1_j27 hc]; done)))
theorem mz_Mo_pulse_1_j32 {k : Nat} (hc : k ≠ 10 ∧ k ≠ 50 ∧ k ≠ 51 ∧ k ≠ 55 ∧ k ≠ 56) : ∀ (v : fw_V) (x4 : Int32), (mf_Mo_pulse_1_j32 v x4) 0 0 k = v 0 0 k := by
  intro v x4
  unfold mf_Mo_pulse_1_j32
  (try dsimp only)
  all_goals ((repeat' split) <;> (first | with_reducible rfl | (simp only [fw_up_ne (c := 9) (i := 0) (k := 5) (c' := 0) (i' := 0) (k' := k) (by omega), msend_0k (i := 0) (k := k) (by omega) (by omega) (by omega), mz_Mo_pulse_1_j33 hc, mz_Mo_pulse_1_j34 hc]; done)))
theorem mz_Mo_pulse_1_j31 {k : Nat} (hc : k ≠ 10 ∧ k ≠ 50 ∧ k ≠ 51 ∧ k ≠ 55 ∧ k ≠ 56) : ∀ (v : fw_V) (x4 : Int32), (mf_Mo_pulse_1_j31 v x4) 0 0 k = v 0 0 k := by
  intro v x4
  unfold mf_Mo_pulse_1_j31
  (try dsimp only)
  all_goals ((repeat' split) <;> (first | with_reducible rfl | (simp only [msend_0k (i := 0) (k := k) (by omega) (by omega) (by omega), mz_Mo_pulse_1_j32 hc]; done)))
theorem mz_Mo_pulse_1_j35 {k : Nat} (hc : k ≠ 10 ∧ k ≠ 50 ∧ k ≠ 51 ∧ k ≠ 55 ∧ k ≠ 56) : ∀ (v : fw_V) (x4 : Int32) (x90 : Int32), (mf_Mo_pulse_1_j35 v x4 x90) 0 0 k = v 0 0 k := by
  intro v x4 x90
  unfold mf_Mo_pulse_1_j35
  (try dsimp only)
  all_goals ((repeat' split) <;> (first | with_reducible rfl | (simp only [fw_up_ne (c := 9) (i := 0) (k := 5) (c' := 0) (i' := 0) (k' := k) (by omega), msend_0k (i := 0) (k := k) (by omega) (by omega) (by omega), mz_Mo_pulse_1_j33 hc, mz_Mo_pulse_1_j34 hc]; done)))
theorem mz_Mo_pulse_1_j30 {k : Nat} (hc : k ≠ 10 ∧ k ≠ 50 ∧ k ≠ 51 ∧ k ≠ 55 ∧ k ≠ 56) : ∀ (v : fw_V), (mf_Mo_pulse_1_j30 v) 0 0 k = v 0 0 k := by
  intro v
  unfold mf_Mo_pulse_1_j30
  (try dsimp only)
  all_goals ((repeat' split) <;> (first | with_reducible rfl | (simp only [msend_0k (i := 0) (k := k) (by omega) (by omega) (by omega), mz_Mo_pulse_1_j31 hc, mz_Mo_pulse_1_j35 hc]; done)))
theorem mz_Mo_pulse_1_j29 {k : Nat} (hc : k ≠ 10 ∧ k ≠ 50 ∧ k ≠ 51 ∧ k ≠ 55 ∧ k ≠ 56) : ∀ (v : fw_V), (mf_Mo_pulse_1_j29 v) 0 0 k = v 0 0 k := by
  intro v
  unfold mf_Mo_pulse_1_j29
  (try dsimp only)
  all_goals ((repeat' split) <;> (first | with_reducible rfl | (simp only [msend_0k (i := 0) (k := k) (by omega) (by omega) (by omega), mz_Mo_pulse_1_j30 hc]; done)))
theorem mz_Mo_pulse_1_j19 {k : Nat} (hc : k ≠ 10 ∧ k ≠ 50 ∧ k ≠ 51 ∧ k ≠ 55 ∧ k ≠ 56) : ∀ (v : fw_V) (x4 : Int32), (mf_Mo_pulse_1_j19 v x4) 0 0 k = v 0 0 k := by
  intro v x4
  unfold mf_Mo_pulse_1_j19
  (try dsimp only)
  all_goals ((repeat' split) <;> (first | with_reducible rfl | (simp only [fw_up_ne (c := 9) (i := 0) (k := 4) (c' := 0) (i' := 0) (k' := k) (by omega), msend_0k (i := 0) (k := k) (by omega) (by omega) (by omega), mz_Mo_pulse_1_j20 hc, mz_Mo_pulse_1_j29 hc]; done)))
theorem mz_Mo_pulse_1_j18 {k : Nat} (hc : k ≠ 10 ∧ k ≠ 50 ∧ k ≠ 51 ∧ k ≠ 55 ∧ k ≠ 56) : ∀ (v : fw_V) (x4 : Int32), (mf_Mo_pulse_1_j18 v x4) 0 0 k = v 0 0 k := by
  intro v x4
  unfold mf_Mo_pulse_1_j18
  (try dsimp only)
  all_goals ((repeat' split) <;> (first | with_reducible rfl | (simp only [msend_0k (i := 0) (k := k) (by omega) (by omega) (by omega), mz_Mo_pulse_1_j19 hc]; done)))
theorem mz_Mo_pulse_1_j36 {k : Nat} (hc : k ≠ 10 ∧ k ≠ 50 ∧ k ≠ 51 ∧ k ≠ 55 ∧ k ≠ 56) : ∀ (v : fw_V) (x4 : Int32) (x90 : Int32), (mf_Mo_pulse_1_j36 v x4 x90) 0 0 k = v 0 0 k := by
  intro v x4 x90
  unfold mf_Mo_pulse_1_j36
  (try dsimp only)
  all_goals ((repeat' split) <;> (first | with_reducible rfl | (simp only [fw_up_ne (c := 9) (i := 0) (k := 4) (c' := 0) (i' := 0) (k' := k) (by omega), msend_0k (i := 0) (k := k) (by omega) (by omega) (by omega), mz_Mo_pulse_1_j20 hc, mz_Mo_pulse_1_j29 hc]; done)))
theorem mz_Mo_pulse_1_j17 {k : Nat} (hc : k ≠ 10 ∧ k ≠ 50 ∧ k ≠ 51 ∧ k ≠ 55 ∧ k ≠ 56) : ∀ (v : fw_V), (mf_Mo_pulse_1_j17 v) 0 0 k = v 0 0 k := by
  intro v
  unfold mf_Mo_pulse_1_j17
  (try dsimp only)
  all_goals ((repeat' split) <;> (first | with_reducible rfl | (simp only [msend_0k (i := 0) (k := k) (by omega) (by omega) (by omega), mz_Mo_pulse_1_j18 hc, mz_Mo_pulse_1_j36 hc]; done)))
theorem mz_Mo_pulse_1_j16 {k : Nat} (hc : k ≠ 10 ∧ k ≠ 50 ∧ k ≠ 51 ∧ k ≠ 55 ∧ k ≠ 56) : ∀ (v : fw_V), (mf_Mo_pulse_1_j16 v) 0 0 k = v 0 0 k := by
  intro v
  unfold mf_Mo_pulse_1_j16
  (try dsimp only)
  all_goals ((repeat' split) <;> (first | with_reducible rfl | (simp only [msend_0k (i := 0) (k := k) (by omega) (by omega) (by omega), mz_Mo_pulse_1_j17 hc]; done)))
theorem mz_Mo_pulse_1_j46 {k : Nat} (hc : k ≠ 10 ∧ k ≠ 50 ∧ k ≠ 51 ∧ k ≠ 55 ∧ k ≠ 56) : ∀ (v : fw_V), (mf_Mo_pulse_1_j46 v) 0 0 k = v 0 0 k := by
  intro v
  unfold mf_Mo_pulse_1_j46
  (try dsimp only)
  all_goals ((repeat' split) <;> (first | with_reducible rfl | (simp only [fw_up_ne (c := 9) (i := 0) (k := 6) (c' := 0) (i' := 0) (k' := k) (by omega), fw_up_ne (c := 34) (i := 0) (k := 1) (c' := 0) (i' := 0) (k' := k) (by omega), msend_0k (i := 0) (k := k) (by omega) (by omega) (by omega), mz_Mo_reply_1 hc]; done)))
theorem mz_Mo_pulse_1_j45 {k : Nat} (hc : k ≠ 10 ∧ k ≠ 50 ∧ k ≠ 51 ∧ k ≠ 55 ∧ k ≠ 56) : ∀ (v : fw_V), (mf_Mo_pulse_1_j45 v) 0 0 k = v 0 0 k := by
  intro v
  unfold mf_Mo_pulse_1_j45
  (try dsimp only)
  all_goals ((repeat' split) <;> (first | with_reducible rfl | (simp only [msend_0k (i := 0) (k := k) (by omega) (by omega) (by omega), mz_Mo_pulse_1_j46 hc]; done)))
theorem mz_Mo_pulse_1_j48 {k : Nat} (hc : k ≠ 10 ∧ k ≠ 50 ∧ k ≠ 51 ∧ k ≠ 55 ∧ k ≠ 56) : ∀ (v : fw_V), (mf_Mo_pulse_1_j48 v) 0 0 k = v 0 0 k := by
  intro v
  unfold mf_Mo_pulse_1_j48
  (try dsimp only)
  all_goals ((repeat' split) <;> (first | with_reducible rfl | (simp only [fw_up_ne (c := 9) (i := 0) (k := 6) (c' := 0) (i' := 0) (k' := k) (by omega), fw_up_ne (c := 34) (i := 0) (k := 1) (c' := 0) (i' := 0) (k' := k) (by omega), msend_0k (i := 0) (k := k) (by omega) (by omega) (by omega), mz_Mo_reply_1 hc]; done)))
theorem mz_Mo_pulse_1_j47 {k : Nat} (hc : k ≠ 10 ∧ k ≠ 50 ∧ k ≠ 51 ∧ k ≠ 55 ∧ k ≠ 56) : ∀ (v : fw_V), (mf_Mo_pulse_1_j47 v) 0 0 k = v 0 0 k := by
  intro v
  unfold mf_Mo_pulse_1_j47
  (try dsimp only)
  all_goals ((repeat' split) <;> (first | with_reducible rfl | (simp only [msend_0k (i := 0) (k := k) (by omega) (by omega) (by omega), mz_Mo_pulse_1_j48 hc]; done)))
theorem mz_Mo_pulse_1_j44 {k : Nat} (hc : k ≠ 10 ∧ k ≠ 50 ∧ k ≠ 51 ∧ k ≠ 55 ∧ k ≠ 56) : ∀ (v : fw_V) (x4 : Int32), (mf_Mo_pulse_1_j44 v x4) 0 0 k = v 0 0 k := by
  intro v x4
  unfold mf_Mo_pulse_1_j44
  (try dsimp only)
  all_goals ((repeat' split) <;> (first | with_reducible rfl | (simp only [fw_up_ne (c := 9) (i := 0) (k := 5) (c' := 0) (i' := 0) (k' := k) (by omega), msend_0k (i := 0) (k := k) (by omega) (by omega) (by omega), mz_Mo_pulse_1_j45 hc, mz_Mo_pulse_1_j47 hc]; done)))
theorem mz_Mo_pulse_1_j43 {k : Nat} (hc : k ≠ 10 ∧ k ≠ 50 ∧ k ≠ 51 ∧ k ≠ 55 ∧ k ≠ 56) : ∀ (v : fw_V) (x4 : Int32), (mf_Mo_pulse_1_j43 v x4) 0 0 k = v 0 0 k := by
  intro v x4
  unfold mf_Mo_pulse_1_j43
  (try dsimp only)
  all_goals ((repeat' split) <;> (first | with_reducible rfl | (simp only [msend_0k (i := 0) (k := k) (by omega) (by omega) (by omega), mz_Mo_pulse_1_j44 hc]; done)))
theorem mz_Mo_pulse_1_j49 {k : Nat} (hc : k ≠ 10 ∧ k ≠ 50 ∧ k ≠ 51 ∧ k ≠ 55 ∧ k ≠ 56) : ∀ (v : fw_V) (x4 : Int32) (x90 : Int32), (mf_Mo_pulse_1_j49 v x4 x90) 0 0 k = v 0 0 k := by
  intro v x4 x90
  unfold mf_Mo_pulse_1_j49
  (try dsimp only)
  all_goals ((repeat' split) <;> (first | with_reducible rfl | (simp only [fw_up_ne (c := 9) (i := 0) (k := 5) (c' := 0) (i' := 0) (k' := k) (by omega), msend_0k (i := 0) (k := k) (by omega) (by omega) (by omega), mz_Mo_pulse_1_j45 hc, mz_Mo_pulse_1_j47 hc]; done)))
theorem mz_Mo_pulse_1_j42 {k : Nat} (hc : k ≠ 10 ∧ k ≠ 50 ∧ k ≠ 51 ∧ k ≠ 55 ∧ k ≠ 56) : ∀ (v : fw_V), (mf_Mo_pulse_1_j42 v) 0 0 k = v 0 0 k := by
  intro v
  unfold mf_Mo_pulse_1_j42
  (try dsimp only)
  all_goals ((repeat' split) <;> (first | with_reducible rfl | (simp only [msend_0k (i := 0) (k := k) (by omega) (by omega) (by omega), mz_Mo_pulse_1_j43 hc, mz_Mo_pulse_1_j49 hc]; done)))
theorem mz_Mo_pulse_1_j41 {k : Nat} (hc : k ≠ 10 ∧ k ≠ 50 ∧ k ≠ 51 ∧ k ≠ 55 ∧ k ≠ 56) : ∀ (v : fw_V), (mf_Mo_pulse_1_j41 v) 0 0 k = v 0 0 k := by
  intro v
  unfold mf_Mo_pulse_1_j41
  (try dsimp only)
  all_goals ((repeat' split) <;> (first | with_reducible rfl | (simp only [msend_0k (i := 0) (k := k) (by omega) (by omega) (by omega), mz_Mo_pulse_1_j42 hc]; done)))
theorem mz_Mo_pulse_1_j54 {k : Nat} (hc : k ≠ 10 ∧ k ≠ 50 ∧ k ≠ 51 ∧ k ≠ 55 ∧ k ≠ 56) : ∀ (v : fw_V), (mf_Mo_pulse_1_j54 v) 0 0 k = v 0 0 k := by
  intro v
  unfold mf_Mo_pulse_1_j54
  (try dsimp only)
  all_goals ((repeat' split) <;> (first | with_reducible rfl | (simp only [msend_0k (i := 0) (k := k) (by omega) (by omega) (by omega), mz_Mo_pulse_1_j48 hc]; done)))
theorem mz_Mo_pulse_1_j55 {k : Nat} (hc : k ≠ 10 ∧ k ≠ 50 ∧ k ≠ 51 ∧ k ≠ 55 ∧ k ≠ 56) : ∀ (v : fw_V), (mf_Mo_pulse_1_j55 v) 0 0 k = v 0 0 k := by
  intro v
  unfold mf_Mo_pulse_1_j55
  (try dsimp only)
  all_goals ((repeat' split) <;> (first | with_reducible rfl | (simp only [msend_0k (i := 0) (k := k) (by omega) (by omega) (by omega), mz_Mo_pulse_1_j48 hc]; done)))
theorem mz_Mo_pulse_1_j53 {k : Nat} (hc : k ≠ 10 ∧ k ≠ 50 ∧ k ≠ 51 ∧ k ≠ 55 ∧ k ≠ 56) : ∀ (v : fw_V) (x4 : Int32), (mf_Mo_pulse_1_j53 v x4) 0 0 k = v 0 0 k := by
  intro v x4
  unfold mf_Mo_pulse_1_j53
  (try dsimp only)
  all_goals ((repeat' split) <;> (first | with_reducible rfl | (simp only [fw_up_ne (c := 9) (i := 0) (k := 5) (c' := 0) (i' := 0) (k' := k) (by omega), msend_0k (i := 0) (k := k) (by omega) (by omega) (by omega), mz_Mo_pulse_1_j54 hc, mz_Mo_pulse_1_j55 hc]; done)))
theorem mz_Mo_pulse_1_j52 {k : Nat} (hc : k ≠ 10 ∧ k ≠ 50 ∧ k ≠ 51 ∧ k ≠ 55 ∧ k ≠ 56) : ∀ (v : fw_V) (x4 : Int32), (mf_Mo_pulse_1_j52 v x4) 0 0 k = v 0 0 k := by
  intro v x4
  unfold mf_Mo_pulse_1_j52
  (try dsimp only)
  all_goals ((repeat' split) <;> (first | with_reducible rfl | (simp only [msend_0k (i := 0) (k := k) (by omega) (by omega) (by omega), mz_Mo_pulse_1_j53 hc]; done)))
theorem mz_Mo_pulse_1_j56 {k : Nat} (hc : k ≠ 10 ∧ k ≠ 50 ∧ k ≠ 51 ∧ k ≠ 55 ∧ k ≠ 56) : ∀ (v : fw_V) (x4 : Int32) (x90 : Int32), (mf_Mo_pulse_1_j56 v x4 x90) 0 0 k = v 0 0 k := by
  intro v x4 x90
  unfold mf_Mo_pulse_1_j56
  (try dsimp only)
  all_goals ((repeat' split) <;> (first | with_reducible rfl | (simp only [fw_up_ne (c := 9) (i := 0) (k := 5) (c' := 0) (i' := 0) (k' := k) (by omega), msend_0k (i := 0) (k := k) (by omega) (by omega) (by omega), mz_Mo_pulse_1_j54 hc, mz_Mo_pulse_1_j55 hc]; done)))
theorem mz_Mo_pulse_1_j51 {k : Nat} (hc : k ≠ 10 ∧ k ≠ 50 ∧ k ≠ 51 ∧ k ≠ 55 ∧ k ≠ 56) : ∀ (v : fw_V), (mf_Mo_pulse_1_j51 v) 0 0 k = v 0 0 k := by
  intro v
  unfold mf_Mo_pulse_1_j51
  (try dsimp only)
  all_goals ((repeat' split) <;> (first | with_reducible rfl | (simp only [msend_0k (i := 0) (k := k) (by omega) (by omega) (by omega), mz_Mo_pulse_1_j52 hc, mz_Mo_pulse_1_j56 hc]; done)))
theorem mz_Mo_pulse_1_j50 {k : Nat} (hc : k ≠ 10 ∧ k ≠ 50 ∧ k ≠ 51 ∧ k ≠ 55 ∧ k ≠ 56) : ∀ (v : fw_V), (mf_Mo_pulse_1_j50 v) 0 0 k = v 0 0 k := by
  intro v
  unfold mf_Mo_pulse_1_j50
  (try dsimp only)
  all_goals ((repeat' split) <;> (first | with_reducible rfl | (simp only [msend_0k (i := 0) (k := k) (by omega) (by omega) (by omega), mz_Mo_pulse_1_j51 hc]; done)))
theorem mz_Mo_pulse_1_j40 {k : Nat} (hc : k ≠ 10 ∧ k ≠ 50 ∧ k ≠ 51 ∧ k ≠ 55 ∧ k ≠ 56) : ∀ (v : fw_V) (x4 : Int32), (mf_Mo_pulse_1_j40 v x4) 0 0 k = v 0 0 k := by
  intro v x4
  unfold mf_Mo_pulse_1_j40
  (try dsimp only)
  all_goals ((repeat' split) <;> (first | with_reducible rfl | (simp only [fw_up_ne (c := 9) (i := 0) (k := 4) (c' := 0) (i' := 0) (k' := k) (by omega), msend_0k (i := 0) (k := k) (by omega) (by omega) (by omega), mz_Mo_pulse_1_j41 hc, mz_Mo_pulse_1_j50 hc]; done)))
theorem mz_Mo_pulse_1_j39 {k : Nat} (hc : k ≠ 10 ∧ k ≠ 50 ∧ k ≠ 51 ∧ k ≠ 55 ∧ k ≠ 56) : ∀ (v : fw_V) (x4 : Int32), (mf_Mo_pulse_1_j39 v x4) 0 0 k = v 0 0 k := by
  intro v x4
  unfold mf_Mo_pulse_1_j39
  (try dsimp only)
  all_goals ((repeat' split) <;> (first | with_reducible rfl | (simp only [msend_0k (i := 0) (k := k) (by omega) (by omega) (by omega), mz_Mo_pulse_1_j40 hc]; done)))
theorem mz_Mo_pulse_1_j57 {k : Nat} (hc : k ≠ 10 ∧ k ≠ 50 ∧ k ≠ 51 ∧ k ≠ 55 ∧ k ≠ 56) : ∀ (v : fw_V) (x4 : Int32) (x90 : Int32), (mf_Mo_pulse_1_j57 v x4 x90) 0 0 k = v 0 0 k := by
  intro v x4 x90
  unfold mf_Mo_pulse_1_j57
  (try dsimp only)
  all_goals ((repeat' split) <;> (first | with_reducible rfl | (simp only [fw_up_ne (c := 9) (i := 0) (k := 4) (c' := 0) (i' := 0) (k' := k) (by omega), msend_0k (i := 0) (k := k) (by omega) (by omega) (by omega), mz_Mo_pulse_1_j41 hc, mz_Mo_pulse_1_j50 hc]; done)))
theorem mz_Mo_pulse_1_j38 {k : Nat} (hc : k ≠ 10 ∧ k ≠ 50 ∧ k ≠ 51 ∧ k ≠ 55 ∧ k ≠ 56) : ∀ (v : fw_V), (mf_Mo_pulse_1_j38 v) 0 0 k = v 0 0 k := by
  intro v
  unfold mf_Mo_pulse_1_j38
  (try dsimp only)
  all_goals ((repeat' split) <;> (first | with_reducible rfl | (simp only [msend_0k (i := 0) (k := k) (by omega) (by omega) (by omega), mz_Mo_pulse_1_j39 hc, mz_Mo_pulse_1_j57 hc]; done)))
theorem mz_Mo_pulse_1_j37 {k : Nat} (hc : k ≠ 10 ∧ k ≠ 50 ∧ k ≠ 51 ∧ k ≠ 55 ∧ k ≠ 56) : ∀ (v : fw_V), (mf_Mo_pulse_1_j37 v) 0 0 k = v 0 0 k := by
  intro v
  unfold mf_Mo_pulse_1_j37
  (try dsimp only)
  all_goals ((repeat' split) <;> (first | with_reducible rfl | (simp only [msend_0k (i := 0) (k := k) (by omega) (by omega) (by omega), mz_Mo_pulse_1_j38 hc]; done)))
theorem mz_Mo_pulse_1_j15 {k : Nat} (hc : k ≠ 10 ∧ k ≠ 50 ∧ k ≠ 51 ∧ k ≠ 55 ∧ k ≠ 56) : ∀ (v : fw_V) (x4 : Int32), (mf_Mo_pulse_1_j15 v x4) 0 0 k = v 0 0 k := by
  intro v x4
  unfold mf_Mo_pulse_1_j15
  (try dsimp only)
  all_goals ((repeat' split) <;> (first | with_reducible rfl | (simp only [fw_up_ne (c := 9) (i := 0) (k := 3) (c' := 0) (i' := 0) (k' := k) (by omega), msend_0k (i := 0) (k := k) (by omega) (by omega) (by omega), mz_Mo_pulse_1_j16 hc, mz_Mo_pulse_1_j37 hc]; done)))
theorem mz_Mo_pulse_1_j14 {k : Nat} (hc : k ≠ 10 ∧ k ≠ 50 ∧ k ≠ 51 ∧ k ≠ 55 ∧ k ≠ 56) : ∀ (v : fw_V) (x4 : Int32), (mf_Mo_pulse_1_j14 v x4) 0 0 k = v 0 0 k := by
  intro v x4
  unfold mf_Mo_pulse_1_j14
  (try dsimp only)
  all_goals ((repeat' split) <;> (first | with_reducible rfl | (simp only [msend_0k (i := 0) (k := k) (by omega) (by omega) (by omega), mz_Mo_pulse_1_j15 hc]; done)))
theorem mz_Mo_pulse_1_j58 {k : Nat} (hc : k ≠ 10 ∧ k ≠ 50 ∧ k ≠ 51 ∧ k ≠ 55 ∧ k ≠ 56) : ∀ (v : fw_V) (x4 : Int32) (x90 : Int32), (mf_Mo_pulse_1_j58 v x4 x90) 0 0 k = v 0 0 k := by
  intro v x4 x90
  unfold mf_Mo_pulse_1_j58
  (try dsimp only)
  all_goals ((repeat' split) <;> (first | with_reducible rfl | (simp only [fw_up_ne (c := 9) (i := 0) (k := 3) (c' := 0) (i' := 0) (k' := k) (by omega), msend_0k (i := 0) (k := k) (by omega) (by omega) (by omega), mz_Mo_pulse_1_j16 hc, mz_Mo_pulse_1_j37 hc]; done)))
theorem mz_Mo_pulse_1_j13 {k : Nat} (hc : k ≠ 10 ∧ k ≠ 50 ∧ k ≠ 51 ∧ k ≠ 55 ∧ k ≠ 56) : ∀ (v : fw_V), (mf_Mo_pulse_1_j13 v) 0 0 k = v 0 0 k := by
  intro v
  unfold mf_Mo_pulse_1_j13
  (try dsimp only)
  all_goals ((repeat' split) <;> (first | with_reducible rfl | (simp only [msend_0k (i := 0) (k := k) (by omega) (by omega) (by omega), mz_Mo_pulse_1_j14 hc, mz_Mo_pulse_1_j58 hc]; done)))
theorem mz_Mo_pulse_1_j12 {k : Nat} (hc : k ≠ 10 ∧ k ≠ 50 ∧ k ≠ 51 ∧ k ≠ 55 ∧ k ≠ 56) : ∀ (v : fw_V), (mf_Mo_pulse_1_j12 v) 0 0 k = v 0 0 k := by
  intro v
  unfold mf_Mo_pulse_1_j12
  (try dsimp only)
  all_goals ((repeat' split) <;> (first | with_reducible rfl | (simp only [msend_0k (i := 0) (k := k) (by omega) (by omega) (by omega), mz_Mo_pulse_1_j13 hc]; done)))
theorem mz_Mo_pulse_1_j63 {k : Nat} (hc : k ≠ 10 ∧ k ≠ 50 ∧ k ≠ 51 ∧ k ≠ 55 ∧ k ≠ 56) : ∀ (v : fw_V), (mf_Mo_pulse_1_j63 v) 0 0 k = v 0 0 k := by
  intro v
  unfold mf_Mo_pulse_1_j63
  (try dsimp only)
  all_goals ((repeat' split) <;> (first | with_reducible rfl | (simp only [msend_0k (i := 0) (k := k) (by omega) (by omega) (by omega), mz_Mo_pulse_1_j38 hc]; done)))
theorem mz_Mo_pulse_1_j64 {k : Nat} (hc : k ≠ 10 ∧ k ≠ 50 ∧ k ≠ 51 ∧ k ≠ 55 ∧ k ≠ 56) : ∀ (v : fw_V), (mf_Mo_pulse_1_j64 v) 0 0 k = v 0 0 k := by
  intro v
  unfold mf_Mo_pulse_1_j64
  (try dsimp only)
  all_goals ((repeat' split) <;> (first | with_reducible rfl | (simp only [msend_0k (i := 0) (k := k) (by omega) (by omega) (by omega), mz_Mo_pulse_1_j38 hc]; done)))
theorem mz_Mo_pulse_1_j62 {k : Nat} (hc : k ≠ 10 ∧ k ≠ 50 ∧ k ≠ 51 ∧ k ≠ 55 ∧ k ≠ 56) : ∀ (v : fw_V) (x4 : Int32), (mf_Mo_pulse_1_j62 v x4) 0 0 k = v 0 0 k := by
  intro v x4
  unfold mf_Mo_pulse_1_j62
  (try dsimp only)
  all_goals ((repeat' split) <;> (first | with_reducible rfl | (simp only [fw_up_ne (c := 9) (i := 0) (k := 3) (c' := 0) (i' := 0) (k' := k) (by omega), msend_0k (i := 0) (k := k) (by omega) (by omega) (by omega), mz_Mo_pulse_1_j63 hc, mz_Mo_pulse_1_j64 hc]; done)))
theorem mz_Mo_pulse_1_j61 {k : Nat} (hc : k ≠ 10 ∧ k ≠ 50 ∧ k ≠ 51 ∧ k ≠ 55 ∧ k ≠ 56) : ∀ (v : fw_V) (x4 : Int32), (mf_Mo_pulse_1_j61 v x4) 0 0 k = v 0 0 k := by
  intro v x4
  unfold mf_Mo_pulse_1_j61
  (try dsimp only)
  all_goals ((repeat' split) <;> (first | with_reducible rfl | (simp only [msend_0k (i := 0) (k := k) (by omega) (by omega) (by omega), mz_Mo_pulse_1_j62 hc]; done)))
theorem mz_Mo_pulse_1_j65 {k : Nat} (hc : k ≠ 10 ∧ k ≠ 50 ∧ k ≠ 51 ∧ k ≠ 55 ∧ k ≠ 56) : ∀ (v : fw_V) (x4 : Int32) (x90 : Int32), (mf_Mo_pulse_1_j65 v x4 x90) 0 0 k = v 0 0 k := by
  intro v x4 x90
  unfold mf_Mo_pulse_1_j65
  (try dsimp only)
  all_goals ((repeat' split) <;> (first | with_reducible rfl | (simp only [fw_up_ne (c := 9) (i := 0) (k := 3) (c' := 0) (i' := 0) (k' := k) (by omega), msend_0k (i := 0) (k := k) (by omega) (by omega) (by omega), mz_Mo_pulse_1_j63 hc, mz_Mo_pulse_1_j64 hc]; done)))
theorem mz_Mo_pulse_1_j60 {k : Nat} (hc : k ≠ 10 ∧ k ≠ 50 ∧ k ≠ 51 ∧ k ≠ 55 ∧ k ≠ 56) : ∀ (v : fw_V), (mf_Mo_pulse_1_j60 v) 0 0 k = v 0 0 k := by
  intro v
  unfold mf_Mo_pulse_1_j60
  (try dsimp only)
  all_goals ((repeat' split) <;> (first | with_reducible rfl | (simp only [msend_0k (i := 0) (k := k) (by omega) (by omega) (by omega), mz_Mo_pulse_1_j61 hc, mz_Mo_pulse_1_j65 hc]; done)))
theorem mz_Mo_pulse_1_j59 {k : Nat} (hc : k ≠ 10 ∧ k ≠ 50 ∧ k ≠ 51 ∧ k ≠ 55 ∧ k ≠ 56) : ∀ (v : fw_V), (mf_Mo_pulse_1_j59 v) 0 0 k = v 0 0 k := by
  intro v
  unfold mf_Mo_pulse_1_j59
  (try dsimp only)
  all_goals ((repeat' split) <;> (first | with_reducible rfl | (simp only [msend_0k (i := 0) (k := k) (by omega) (by omega) (by omega), mz_Mo_pulse_1_j60 hc]; done)))
theorem mz_Mo_pulse_1_j11 {k : Nat} (hc : k ≠ 10 ∧ k ≠ 50 ∧ k ≠ 51 ∧ k ≠ 55 ∧ k ≠ 56) : ∀ (v : fw_V) (x4 : Int32), (mf_Mo_pulse_1_j11 v x4) 0 0 k = v 0 0 k := by
  intro v x4
  unfold mf_Mo_pulse_1_j11
  (try dsimp only)
  all_goals ((repeat' split) <;> (first | with_reducible rfl | (simp only [fw_up_ne (c := 9) (i := 0) (k := 2) (c' := 0) (i' := 0) (k' := k) (by omega), msend_0k (i := 0) (k := k) (by omega) (by omega) (by omega), mz_Mo_pulse_1_j12 hc, mz_Mo_pulse_1_j59 hc]; done)))
theorem mz_Mo_pulse_1_j10 {k : Nat} (hc : k ≠ 10 ∧ k ≠ 50 ∧ k ≠ 51 ∧ k ≠ 55 ∧ k ≠ 56) : ∀ (v : fw_V) (x4 : Int32), (mf_Mo_pulse_1_j10 v x4) 0 0 k = v 0 0 k := by
  intro v x4
  unfold mf_Mo_pulse_1_j10
  (try dsimp only)
  all_goals ((repeat' split) <;> (first | with_reducible rfl | (simp only [msend_0k (i := 0) (k := k) (by omega) (by omega) (by omega), mz_Mo_pulse_1_j11 hc]; done)))
theorem mz_Mo_pulse_1_j66 {k : Nat} (hc : k ≠ 10 ∧ k ≠ 50 ∧ k ≠ 51 ∧ k ≠ 55 ∧ k ≠ 56) : ∀ (v : fw_V) (x4 : Int32) (x90 : Int32), (mf_Mo_pulse_1_j66 v x4 x90) 0 0 k = v 0 0 k := by
  intro v x4 x90
  unfold mf_Mo_pulse_1_j66
  (try dsimp only)
  all_goals ((repeat' split) <;> (first | with_reducible rfl | (simp only [fw_up_ne (c := 9) (i := 0) (k := 2) (c' := 0) (i' := 0) (k' := k) (by omega), msend_0k (i := 0) (k := k) (by omega) (by omega) (by omega), mz_Mo_pulse_1_j12 hc, mz_Mo_pulse_1_j59 hc]; done)))
theorem mz_Mo_pulse_1_j9 {k : Nat} (hc : k ≠ 10 ∧ k ≠ 50 ∧ k ≠ 51 ∧ k ≠ 55 ∧ k ≠ 56) : ∀ (v : fw_V), (mf_Mo_pulse_1_j9 v) 0 0 k = v 0 0 k := by
  intro v
  unfold mf_Mo_pulse_1_j9
  (try dsimp only)
  all_goals ((repeat' split) <;> (first | with_reducible rfl | (simp only [msend_0k (i := 0) (k := k) (by omega) (by omega) (by omega), mz_Mo_pulse_1_j10 hc, mz_Mo_pulse_1_j66 hc]; done)))
theorem mz_Mo_pulse_1_j8 {k : Nat} (hc : k ≠ 10 ∧ k ≠ 50 ∧ k ≠ 51 ∧ k ≠ 55 ∧ k ≠ 56) : ∀ (v : fw_V), (mf_Mo_pulse_1_j8 v) 0 0 k = v 0 0 k := by
  intro v
  unfold mf_Mo_pulse_1_j8
  (try dsimp only)
  all_goals ((repeat' split) <;> (first | with_reducible rfl | (simp only [msend_0k (i := 0) (k := k) (by omega) (by omega) (by omega), mz_Mo_pulse_1_j9 hc]; done)))
theorem mz_Mo_pulse_1_j84 {k : Nat} (hc : k ≠ 10 ∧ k ≠ 50 ∧ k ≠ 51 ∧ k ≠ 55 ∧ k ≠ 56) : ∀ (v : fw_V), (mf_Mo_pulse_1_j84 v) 0 0 k = v 0 0 k := by
  intro v
  unfold mf_Mo_pulse_1_j84
  (try dsimp only)
  all_goals ((repeat' split) <;> (first | with_reducible rfl | (simp only [fw_up_ne (c := 9) (i := 0) (k := 6) (c' := 0) (i' := 0) (k' := k) (by omega), fw_up_ne (c := 34) (i := 0) (k := 1) (c' := 0) (i' := 0) (k' := k) (by omega), msend_0k (i := 0) (k := k) (by omega) (by omega) (by omega), mz_Mo_reply_1 hc]; done)))
theorem mz_Mo_pulse_1_j83 {k : Nat} (hc : k ≠ 10 ∧ k ≠ 50 ∧ k ≠ 51 ∧ k ≠ 55 ∧ k ≠ 56) : ∀ (v : fw_V), (mf_Mo_pulse_1_j83 v) 0 0 k = v 0 0 k := by
  intro v
  unfold mf_Mo_pulse_1_j83
  (try dsimp only)
  all_goals ((repeat' split) <;> (first | with_reducible rfl | (simp only [msend_0k (i := 0) (k := k) (by omega) (by omega) (by omega), mz_Mo_pulse_1_j84 hc]; done)))
theorem mz_Mo_pulse_1_j86 {k : Nat} (hc : k ≠ 10 ∧ k ≠ 50 ∧ k ≠ 51 ∧ k ≠ 55 ∧ k ≠ 56) : ∀ (v : fw_V), (mf_Mo_pulse_1_j86 v) 0 0 k = v 0 0 k := by
  intro v
  unfold mf_Mo_pulse_1_j86
  (try dsimp only)
  all_goals ((repeat' split) <;> (first | with_reducible rfl | (simp only [fw_up_ne (c := 9) (i := 0) (k := 6) (c' := 0) (i' := 0) (k' := k) (by omega), fw_up_ne (c := 34) (i := 0) (k := 1) (c' := 0) (i' := 0) (k' := k) (by omega), msend_0k (i := 0) (k := k) (by omega) (by omega) (by omega), mz_Mo_reply_1 hc]; done)))
theorem mz_Mo_pulse_1_j85 {k : Nat} (hc : k ≠ 10 ∧ k ≠ 50 ∧ k ≠ 51 ∧ k ≠ 55 ∧ k ≠ 56) : ∀ (v : fw_V), (mf_Mo_pulse_1_j85 v) 0 0 k = v 0 0 k := by
  intro v
  unfold mf_Mo_pulse_1_j85
  (try dsimp only)
  all_goals ((repeat' split) <;> (first | with_reducible rfl | (simp only [msend_0k (i := 0) (k := k) (by omega) (by omega) (by omega), mz_Mo_pulse_1_j86 hc]; done)))
theorem mz_Mo_pulse_1_j82 {k : Nat} (hc : k ≠ 10 ∧ k ≠ 50 ∧ k ≠ 51 ∧ k ≠ 55 ∧ k ≠ 56) : ∀ (v : fw_V) (x4 : Int32), (mf_Mo_pulse_1_j82 v x4) 0 0 k = v 0 0 k := by
  intro v x4
  unfold mf_Mo_pulse_1_j82
  (try dsimp only)
  all_goals ((repeat' split) <;> (first | with_reducible rfl | (simp only [fw_up_ne (c := 9) (i := 0) (k := 5) (c' := 0) (i' := 0) (k' := k) (by omega), msend_0k (i := 0) (k := k) (by omega) (by omega) (by omega), mz_Mo_pulse_1_j83 hc, mz_Mo_pulse_1_j85 hc]; done)))
theorem mz_Mo_pulse_1_j81 {k : Nat} (hc : k ≠ 10 ∧ k ≠ 50 ∧ k ≠ 51 ∧ k ≠ 55 ∧ k ≠ 56) : ∀ (v : fw_V) (x4 : Int32), (mf_Mo_pulse_1_j81 v x4) 0 0 k = v 0 0 k := by
  intro v x4
  unfold mf_Mo_pulse_1_j81
  (try dsimp only)
  all_goals ((repeat' split) <;> (first | with_reducible rfl | (simp only [msend_0k (i := 0) (k := k) (by omega) (by omega) (by omega), mz_Mo_pulse_1_j82 hc]; done)))
theorem mz_Mo_pulse_1_j87 {k : Nat} (hc : k ≠ 10 ∧ k ≠ 50 ∧ k ≠ 51 ∧ k ≠ 55 ∧ k ≠ 56) : ∀ (v : fw_V) (x4 : Int32) (x90 : Int32), (mf_Mo_pulse_1_j87 v x4 x90) 0 0 k = v 0 0 k := by
  intro v x4 x90
  unfold mf_Mo_pulse_1_j87
  (try dsimp only)
  all_goals ((repeat' split) <;> (first | with_reducible rfl | (simp only [fw_up_ne (c := 9) (i := 0) (k := 5) (c' := 0) (i' := 0) (k' := k) (by omega), msend_0k (i := 0) (k := k) (by omega) (by omega) (by omega), mz_Mo_pulse_1_j83 hc, mz_Mo_pulse_1_j85 hc]; done)))
theorem mz_Mo_pulse_1_j80 {k : Nat} (hc : k ≠ 10 ∧ k ≠ 50 ∧ k ≠ 51 ∧ k ≠ 55 ∧ k ≠ 56) : ∀ (v : fw_V), (mf_Mo_pulse_1_j80 v) 0 0 k = v 0 0 k := by
  intro v
  unfold mf_Mo_pulse_1_j80
  (try dsimp only)
  all_goals ((repeat' split) <;> (first | with_reducible rfl | (simp only [msend_0k (i := 0) (k := k) (by omega) (by omega) (by omega), mz_Mo_pulse_1_j81 hc, mz_Mo_pulse_1_j87 hc]; done)))
theorem mz_Mo_pulse_1_j79 {k : Nat} (hc : k ≠ 10 ∧ k ≠ 50 ∧ k ≠ 51 ∧ k ≠ 55 ∧ k ≠ 56) : ∀ (v : fw_V), (mf_Mo_pulse_1_j79 v) 0 0 k = v 0 0 k := by
  intro v
  unfold mf_Mo_pulse_1_j79
  (try dsimp only)
  all_goals ((repeat' split) <;> (first | with_reducible rfl | (simp only [msend_0k (i := 0) (k := k) (by omega) (by omega) (by omega), mz_Mo_pulse_1_j80 hc]; done)))
theorem mz_Mo_pulse_1_j92 {k : Nat} (hc : k ≠ 10 ∧ k ≠ 50 ∧ k ≠ 51 ∧ k ≠ 55 ∧ k ≠ 56) : ∀ (v : fw_V), (mf_Mo_pulse_1_j92 v) 0 0 k = v 0 0 k := by
  intro v
  unfold mf_Mo_pulse_1_j92
  (try dsimp only)
  all_goals ((repeat' split) <;> (first | with_reducible rfl | (simp only [msend_0k (i := 0) (k := k) (by omega) (by omega) (by omega), mz_Mo_pulse_1_j86 hc]; done)))
theorem mz_Mo_pulse_1_j93 {k : Nat} (hc : k ≠ 10 ∧ k ≠ 50 ∧ k ≠ 51 ∧ k ≠ 55 ∧ k ≠ 56) : ∀ (v : fw_V), (mf_Mo_pulse_1_j93 v) 0 0 k = v 0 0 k := by
  intro v
  unfold mf_Mo_pulse_1_j93
  (try dsimp only)
  all_goals ((repeat' split) <;> (first | with_reducible rfl | (simp only [msend_0k (i := 0) (k := k) (by omega) (by omega) (by omega), mz_Mo_pulse_1_j86 hc]; done)))
theorem mz_Mo_pulse_1_j91 {k : Nat} (hc : k ≠ 10 ∧ k ≠ 50 ∧ k ≠ 51 ∧ k ≠ 55 ∧ k ≠ 56) : ∀ (v : fw_V) (x4 : Int32), (mf_Mo_pulse_1_j91 v x4) 0 0 k = v 0 0 k := by
  intro v x4
  unfold mf_Mo_pulse_1_j91
  (try dsimp only)
  all_goals ((repeat' split) <;> (first | with_reducible rfl | (simp only [fw_up_ne (c := 9) (i := 0) (k := 5) (c' := 0) (i' := 0) (k' := k) (by omega), msend_0k (i := 0) (k := k) (by omega) (by omega) (by omega), mz_Mo_pulse_1_j92 hc, mz_Mo_pulse_1_j93 hc]; done)))
theorem mz_Mo_pulse_1_j90 {k : Nat} (hc : k ≠ 10 ∧ k ≠ 50 ∧ k ≠ 51 ∧ k ≠ 55 ∧ k ≠ 56) : ∀ (v : fw_V) (x4 : Int32), (mf_Mo_pulse_1_j90 v x4) 0 0 k = v 0 0 k := by
  intro v x4
  unfold mf_Mo_pulse_1_j90
  (try dsimp only)
  all_goals ((repeat' split) <;> (first | with_reducible rfl | (simp only [msend_0k (i := 0) (k := k) (by omega) (by omega) (by omega), mz_Mo_pulse_1_j91 hc]; done)))
theorem mz_Mo_pulse_1_j94 {k : Nat} (hc : k ≠ 10 ∧ k ≠ 50 ∧ k ≠ 51 ∧ k ≠ 55 ∧ k ≠ 56) : ∀ (v : fw_V) (x4 : Int32) (x90 : Int32), (mf_Mo_pulse_1_j94 v x4 x90) 0 0 k = v 0 0 k := by
  intro v x4 x90
  unfold mf_Mo_pulse_1_j94
  (try dsimp only)
  all_goals ((repeat' split) <;> (first | with_reducible rfl | (simp only [fw_up_ne (c := 9) (i := 0) (k := 5) (c' := 0) (i' := 0) (k' := k) (by omega), msend_0k (i := 0) (k := k) (by omega) (by omega) (by omega), mz_Mo_pulse_1_j92 hc, mz_Mo_pulse_1_j93 hc]; done)))
theorem mz_Mo_pulse_1_j89 {k : Nat} (hc : k ≠ 10 ∧ k ≠ 50 ∧ k ≠ 51 ∧ k ≠ 55 ∧ k ≠ 56) : ∀ (v : fw_V), (mf_Mo_pulse_1_j89 v) 0 0 k = v 0 0 k := by
  intro v
  unfold mf_Mo_pulse_1_j89
  (try dsimp only)
  all_goals ((repeat' split) <;> (first | with_reducible rfl | (simp only [msend_0k (i := 0) (k := k) (by omega) (by omega) (by omega), mz_Mo_pulse_1_j90 hc, mz_Mo_pulse_1_j94 hc]; done)))
theorem mz_Mo_pulse_1_j88 {k : Nat} (hc : k ≠ 10 ∧ k ≠ 50 ∧ k ≠ 51 ∧ k ≠ 55 ∧ k ≠ 56) : ∀ (v : fw_V), (mf_Mo_pulse_1_j88 v) 0 0 k = v 0 0 k := by
  intro v
  unfold mf_Mo_pulse_1_j88
  (try dsimp only)
  all_goals ((repeat' split) <;> (first | with_reducible rfl | (simp only [msend_0k (i := 0) (k := k) (by omega) (by omega) (by omega), mz_Mo_pulse_1_j89 hc]; done)))
theorem mz_Mo_pulse_1_j78 {k : Nat} (hc : k ≠ 10 ∧ k ≠ 50 ∧ k ≠ 51 ∧ k ≠ 55 ∧ k ≠ 56) : ∀ (v : fw_V) (x4 : Int32), (mf_Mo_pulse_1_j78 v x4) 0 0 k = v 0 0 k := by
  intro v x4
  unfold mf_Mo_pulse_1_j78
  (try dsimp only)
  all_goals ((repeat' split) <;> (first | with_reducible rfl | (simp only [fw_up_ne (c := 9) (i := 0) (k := 4) (c' := 0) (i' := 0) (k' := k) (by omega), msend_0k (i := 0) (k := k) (by omega) (by omega) (by omega), mz_Mo_pulse_1_j79 hc, mz_Mo_pulse_1_j88 hc]; done)))
theorem mz_Mo_pulse_1_j77 {k : Nat} (hc : k ≠ 10 ∧ k ≠ 50 ∧ k ≠ 51 ∧ k ≠ 55 ∧ k ≠ 56) : ∀ (v : fw_V) (x4 : Int32), (mf_Mo_pulse_1_j77 v x4) 0 0 k = v 0 0 k := by
  intro v x4
  unfold mf_Mo_pulse_1_j77
  (try dsimp only)
  all_goals ((repeat' split) <;> (first | with_reducible rfl | (simp only [msend_0k (i := 0) (k := k) (by omega) (by omega) (by omega), mz_Mo_pulse_1_j78 hc]; done)))
theorem mz_Mo_pulse_1_j95 {k : Nat} (hc : k ≠ 10 ∧ k ≠ 50 ∧ k ≠ 51 ∧ k ≠ 55 ∧ k ≠ 56) : ∀ (v : fw_V) (x4 : Int32) (x90 : Int32), (mf_Mo_pulse_1_j95 v x4 x90) 0 0 k = v 0 0 k := by
  intro v x4 x90
  unfold mf_Mo_pulse_1_j95
  (try dsimp only)
  all_goals ((repeat' split) <;> (first | with_reducible rfl | (simp only [fw_up_ne (c := 9) (i := 0) (k := 4) (c' := 0) (i' := 0) (k' := k) (by omega), msend_0k (i := 0) (k := k) (by omega) (by omega) (by omega), mz_Mo_pulse_1_j79 hc, mz_Mo_pulse_1_j88 hc]; done)))
theorem mz_Mo_pulse_1_j76 {k : Nat} (hc : k ≠ 10 ∧ k ≠ 50 ∧ k ≠ 51 ∧ k ≠ 55 ∧ k ≠ 56) : ∀ (v : fw_V), (mf_Mo_pulse_1_j76 v) 0 0 k = v 0 0 k := by
  intro v
  unfold mf_Mo_pulse_1_j76
  (try dsimp only)
  all_goals ((repeat' split) <;> (first | with_reducible rfl | (simp only [msend_0k (i := 0) (k := k) (by omega) (by omega) (by omega), mz_Mo_pulse_1_j77 hc, mz_Mo_pulse_1_j95 hc]; done)))
theorem mz_Mo_pulse_1_j75 {k : Nat} (hc : k ≠ 10 ∧ k ≠ 50 ∧ k ≠ 51 ∧ k ≠ 55 ∧ k ≠ 56) : ∀ (v : fw_V), (mf_Mo_pulse_1_j75 v) 0 0 k = v 0 0 k := by
  intro v
  unfold mf_Mo_pulse_1_j75
  (try dsimp only)
  all_goals ((repeat' split) <;> (first | with_reducible rfl | (simp only [msend_0k (i := 0) (k := k) (by omega) (by omega) (by omega), mz_Mo_pulse_1_j76 hc]; done)))
theorem mz_Mo_pulse_1_j105 {k : Nat} (hc : k ≠ 10 ∧ k ≠ 50 ∧ k ≠ 51 ∧ k ≠ 55 ∧ k ≠ 56) : ∀ (v : fw_V), (mf_Mo_pulse_1_j105 v) 0 0 k = v 0 0 k := by
  intro v
  unfold mf_Mo_pulse_1_j105
  (try dsimp only)
  all_goals ((repeat' split) <;> (first | with_reducible rfl | (simp only [fw_up_ne (c := 9) (i := 0) (k := 6) (c' := 0) (i' := 0) (k' := k) (by omega), fw_up_ne (c := 34) (i := 0) (k := 1) (c' := 0) (i' := 0) (k' := k) (by omega), msend_0k (i := 0) (k := k) (by omega) (by omega) (by omega), mz_Mo_reply_1 hc]; done)))
theorem mz_Mo_pulse_1_j104 {k : Nat} (hc : k ≠ 10 ∧ k ≠ 50 ∧ k ≠ 51 ∧ k ≠ 55 ∧ k ≠ 56) : ∀ (v : fw_V), (mf_Mo_pulse_1_j104 v) 0 0 k = v 0 0 k := by
  intro v
  unfold mf_Mo_pulse_1_j104
  (try dsimp only)
  all_goals ((repeat' split) <;> (first | with_reducible rfl | (simp only [msend_0k (i := 0) (k := k) (by omega) (by omega) (by omega), mz_Mo_pulse_1_j105 hc]; done)))
theorem mz_Mo_pulse_1_j107 {k : Nat} (hc : k ≠ 10 ∧ k ≠ 50 ∧ k ≠ 51 ∧ k ≠ 55 ∧ k ≠ 56) : ∀ (v : fw_V), (mf_Mo_pulse_1_j107 v) 0 0 k = v 0 0 k := by
  intro v
  unfold mf_Mo_pulse_1_j107
  (try dsimp only)
  all_goals ((repeat' split) <;> (first | with_reducible rfl | (simp only [fw_up_ne (c := 9) (i := 0) (k := 6) (c' := 0) (i' := 0) (k' := k) (by omega), fw_up_ne (c := 34) (i := 0) (k := 1) (c' := 0) (i' := 0) (k' := k) (by omega), msend_0k (i := 0) (k := k) (by omega) (by omega) (by omega), mz_Mo_reply_1 hc]; done)))
theorem mz_Mo_pulse_1_j106 {k : Nat} (hc : k ≠ 10 ∧ k ≠ 50 ∧ k ≠ 51 ∧ k ≠ 55 ∧ k ≠ 56) : ∀ (v : fw_V), (mf_Mo_pulse_1_j106 v) 0 0 k = v 0 0 k := by
  intro v
  unfold mf_Mo_pulse_1_j106
  (try dsimp only)
  all_goals ((repeat' split) <;> (first | with_reducible rfl | (simp only [msend_0k (i := 0) (k := k) (by omega) (by omega) (by omega), mz_Mo_pulse_1_j107 hc]; done)))
theorem mz_Mo_pulse_1_j103 {k : Nat} (hc : k ≠ 10 ∧ k ≠ 50 ∧ k ≠ 51 ∧ k ≠ 55 ∧ k ≠ 56) : ∀ (v : fw_V) (x4 : Int32), (mf_Mo_pulse_1_j103 v x4) 0 0 k = v 0 0 k := by
  intro v x4
  unfold mf_Mo_pulse_1_j103
  (try dsimp only)
  all_goals ((repeat' split) <;> (first | with_reducible rfl | (simp only [fw_up_ne (c := 9) (i := 0) (k := 5) (c' := 0) (i' := 0) (k' := k) (by omega), msend_0k (i := 0) (k := k) (by omega) (by omega) (by omega), mz_Mo_pulse_1_j104 hc, mz_Mo_pulse_1_j106 hc]; done)))
theorem mz_Mo_pulse_1_j102 {k : Nat} (hc : k ≠ 10 ∧ k ≠ 50 ∧ k ≠ 51 ∧ k ≠ 55 ∧ k ≠ 56) : ∀ (v : fw_V) (x4 : Int32), (mf_Mo_pulse_1_j102 v x4) 0 0 k = v 0 0 k := by
  intro v x4
  unfold mf_Mo_pulse_1_j102
  (try dsimp only)
  all_goals ((repeat' split) <;> (first | with_reducible rfl | (simp only [msend_0k (i := 0) (k := k) (by omega) (by omega) (by omega), mz_Mo_pulse_1_j103 hc]; done)))
theorem mz_Mo_pulse_1_j108 {k : Nat} (hc : k ≠ 10 ∧ k ≠ 50 ∧ k ≠ 51 ∧ k ≠ 55 ∧ k ≠ 56) : ∀ (v : fw_V) (x4 : Int32) (x90 : Int32), (mf_Mo_pulse_1_j108 v x4 x90) 0 0 k = v 0 0 k := by
  intro v x4 x90
  unfold mf_Mo_pulse_1_j108
  (try dsimp only)
  all_goals ((repeat' split) <;> (first | with_reducible rfl | (simp only [fw_up_ne (c := 9) (i := 0) (k := 5) (c' := 0) (i' := 0) (k' := k) (by omega), msend_0k (i := 0) (k := k) (by omega) (by omega) (by omega), mz_Mo_pulse_1_j104 hc, mz_Mo_pulse_1_j106 hc]; done)))
theorem mz_Mo_pulse_1_j101 {k : Nat} (hc : k ≠ 10 ∧ k ≠ 50 ∧ k ≠ 51 ∧ k ≠ 55 ∧ k ≠ 56) : ∀ (v : fw_V), (mf_Mo_pulse_1_j101 v) 0 0 k = v 0 0 k := by
  intro v
  unfold mf_Mo_pulse_1_j101
  (try dsimp only)
  all_goals ((repeat' split) <;> (first | with_reducible rfl | (simp only [msend_0k (i := 0) (k := k) (by omega) (by omega) (by omega), mz_Mo_pulse_1_j102 hc, mz_Mo_pulse_1_j108 hc]; done)))
theorem mz_Mo_pulse_1_j100 {k : Nat} (hc : k ≠ 10 ∧ k ≠ 50 ∧ k ≠ 51 ∧ k ≠ 55 ∧ k ≠ 56) : ∀ (v : fw_V), (mf_Mo_pulse_1_j100 v) 0 0 k = v 0 0 k := by
  intro v
  unfold mf_Mo_pulse_1_j100
  (try dsimp only)
  all_goals ((repeat' split) <;> (first | with_reducible rfl | (simp only [msend_0k (i := 0) (k := k) (by omega) (by omega) (by omega), mz_Mo_pulse_1_j101 hc]; done)))
theorem mz_Mo_pulse_1_j113 {k : Nat} (hc : k ≠ 10 ∧ k ≠ 50 ∧ k ≠ 51 ∧ k ≠ 55 ∧ k ≠ 56) : ∀ (v : fw_V), (mf_Mo_pulse_1_j113 v) 0 0 k = v 0 0 k := by
  intro v
  unfold mf_Mo_pulse_1_j113
  (try dsimp only)
  all_goals ((repeat' split) <;> (first | with_reducible rfl | (simp only [msend_0k (i := 0) (k := k) (by omega) (by omega) (by omega), mz_Mo_pulse_1_j107 hc]; done)))
theorem mz_Mo_pulse_1_j114 {k : Nat} (hc : k ≠ 10 ∧ k ≠ 50 ∧ k ≠ 51 ∧ k ≠ 55 ∧ k ≠ 56) : ∀ (v : fw_V), (mf_Mo_pulse_1_j114 v) 0 0 k = v 0 0 k := by
  intro v
  unfold mf_Mo_pulse_1_j114
  (try dsimp only)
  all_goals ((repeat' split) <;> (first | with_reducible rfl | (simp only [msend_0k (i := 0) (k := k) (by omega) (by omega) (by omega), mz_Mo_pulse_1_j107 hc]; done)))
theorem mz_Mo_pulse_1_j112 {k : Nat} (hc : k ≠ 10 ∧ k ≠ 50 ∧ k ≠ 51 ∧ k ≠ 55 ∧ k ≠ 56) : ∀ (v : fw_V) (x4 : Int32), (mf_Mo_pulse_1_j112 v x4) 0 0 k = v 0 0 k := by
  intro v x4
  unfold mf_Mo_pulse_1_j112
  (try dsimp only)
  all_goals ((repeat' split) <;> (first | with_reducible rfl | (simp only [fw_up_ne (c := 9) (i := 0) (k := 5) (c' := 0) (i' := 0) (k' := k) (by omega), msend_0k (i := 0) (k := k) (by omega) (by omega) (by omega), mz_Mo_pulse_1_j113 hc, mz_Mo_pulse_1_j114 hc]; done)))
theorem mz_Mo_pulse_1_j111 {k : Nat} (hc : k ≠ 10 ∧ k ≠ 50 ∧ k ≠ 51 ∧ k ≠ 55 ∧ k ≠ 56) : ∀ (v : fw_V) (x4 : Int32), (mf_Mo_pulse_1_j111 v x4) 0 0 k = v 0 0 k := by
  intro v x4
  unfold mf_Mo_pulse_1_j111
  (try dsimp only)
  all_goals ((repeat' split) <;> (first | with_reducible rfl | (simp only [msend_0k (i := 0) (k := k) (by omega) (by omega) (by omega), mz_Mo_pulse_1_j112 hc]; done)))
theorem mz_Mo_pulse_1_j115 {k : Nat} (hc : k ≠ 10 ∧ k ≠ 50 ∧ k ≠ 51 ∧ k ≠ 55 ∧ k ≠ 56) : ∀ (v : fw_V) (x4 : Int32) (x90 : Int32), (mf_Mo_pulse_1_j115 v x4 x90) 0 0 k = v 0 0 k := by
  intro v x4 x90
  unfold mf_Mo_pulse_1_j115
  (try dsimp only)
  all_goals ((repeat' split) <;> (first | with_reducible rfl | (simp only [fw_up_ne (c := 9) (i := 0) (k := 5) (c' := 0) (i' := 0) (k' := k) (by omega), msend_0k (i := 0) (k := k) (by omega) (by omega) (by omega), mz_Mo_pulse_1_j113 hc, mz_Mo_pulse_1_j114 hc]; done)))
theorem mz_Mo_pulse_1_j110 {k : Nat} (hc : k ≠ 10 ∧ k ≠ 50 ∧ k ≠ 51 ∧ k ≠ 55 ∧ k ≠ 56) : ∀ (v : fw_V), (mf_Mo_pulse_1_j110 v) 0 0 k = v 0 0 k := by
  intro v
  unfold mf_Mo_pulse_1_j110
  (try dsimp only)
  all_goals ((repeat' split) <;> (first | with_reducible rfl | (simp only [msend_0k (i := 0) (k := k) (by omega) (by omega) (by omega), mz_Mo_pulse_1_j111 hc, mz_Mo_pulse_1_j115 hc]; done)))
theorem mz_Mo_pulse_1_j109 {k : Nat} (hc : k ≠ 10 ∧ k ≠ 50 ∧ k ≠ 51 ∧ k ≠ 55 ∧ k ≠ 56) : ∀ (v : fw_V), (mf_Mo_pulse_1_j109 v) 0 0 k = v 0 0 k := by
  intro v
  unfold mf_Mo_pulse_1_j109
  (try dsimp only)
  all_goals ((repeat' split) <;> (first | with_reducible rfl | (simp only [msend_0k (i := 0) (k := k) (by omega) (by omega) (by omega), mz_Mo_pulse_1_j110 hc]; done)))
theorem mz_Mo_pulse_1_j99 {k : Nat} (hc : k ≠ 10 ∧ k ≠ 50 ∧ k ≠ 51 ∧ k ≠ 55 ∧ k ≠ 56) : ∀ (v : fw_V) (x4 : Int32), (mf_Mo_pulse_1_j99 v x4) 0 0 k = v 0 0 k := by
  intro v x4
  unfold mf_Mo_pulse_1_j99
  (try dsimp only)
  all_goals ((repeat' split) <;> (first | with_reducible rfl | (simp only [fw_up_ne (c := 9) (i := 0) (k := 4) (c' := 0) (i' := 0) (k' := k) (by omega), msend_0k (i := 0) (k := k) (by omega) (by omega) (by omega), mz_Mo_pulse_1_j100 hc, mz_Mo_pulse_1_j109 hc]; done)))
theorem mz_Mo_pulse_1_j98 {k : Nat} (hc : k ≠ 10 ∧ k ≠ 50 ∧ k ≠ 51 ∧ k ≠ 55 ∧ k ≠ 56) : ∀ (v : fw_V) (x4 : Int32), (mf_Mo_pulse_1_j98 v x4) 0 0 k = v 0 0 k := by
  intro v x4
  unfold mf_Mo_pulse_1_j98
  (try dsimp only)
  all_goals ((repeat' split) <;> (first | with_reducible rfl | (simp only [msend_0k (i := 0) (k := k) (by omega) (by omega) (by omega), mz_Mo_pulse_1_j99 hc]; done)))
theorem mz_Mo_pulse_1_j116 {k : Nat} (hc : k ≠ 10 ∧ k ≠ 50 ∧ k ≠ 51 ∧ k ≠ 55 ∧ k ≠ 56) : ∀ (v : fw_V) (x4 : Int32) (x90 : Int32), (mf_Mo_pulse_1_j116 v x4 x90) 0 0 k = v 0 0 k := by
  intro v x4 x90
  unfold mf_Mo_pulse_1_j116
  (try dsimp only)
  all_goals ((repeat' split) <;> (first | with_reducible rfl | (simp only [fw_up_ne (c := 9) (i := 0) (k := 4) (c' := 0) (i' := 0) (k' := k) (by omega), msend_0k (i := 0) (k := k) (by omega) (by omega) (by omega), mz_Mo_pulse_1_j100 hc, mz_Mo_pulse_1_j109 hc]; done)))
theorem mz_Mo_pulse_1_j97 {k : Nat} (hc : k ≠ 10 ∧ k ≠ 50 ∧ k ≠ 51 ∧ k ≠ 55 ∧ k ≠ 56) : ∀ (v : fw_V), (mf_Mo_pulse_1_j97 v) 0 0 k = v 0 0 k := by
  intro v
  unfold mf_Mo_pulse_1_j97
  (try dsimp only)
  all_goals ((repeat' split) <;> (first | with_reducible rfl | (simp only [msend_0k (i := 0) (k := k) (by omega) (by omega) (by omega), mz_Mo_pulse_1_j98 hc, mz_Mo_pulse_1_j116 hc]; done)))
theorem mz_Mo_pulse_1_j96 {k : Nat} (hc : k ≠ 10 ∧ k ≠ 50 ∧ k ≠ 51 ∧ k ≠ 55 ∧ k ≠ 56) : ∀ (v : fw_V), (mf_Mo_pulse_1_j96 v) 0 0 k = v 0 0 k := by
  intro v
  unfold mf_Mo_pulse_1_j96
  (try dsimp only)
  all_goals ((repeat' split) <;> (first | with_reducible rfl | (simp only [msend_0k (i := 0) (k := k) (by omega) (by omega) (by omega), mz_Mo_pulse_1_j97 hc]; done)))
theorem mz_Mo_pulse_1_j74 {k : Nat} (hc : k ≠ 10 ∧ k ≠ 50 ∧ k ≠ 51 ∧ k ≠ 55 ∧ k ≠ 56) : ∀ (v : fw_V) (x4 : Int32), (mf_Mo_pulse_1_j74 v x4) 0 0 k = v 0 0 k := by
  intro v x4
  unfold mf_Mo_pulse_1_j74
  (try dsimp only)
  all_goals ((repeat' split) <;> (first | with_reducible rfl | (simp only [fw_up_ne (c := 9) (i := 0) (k := 3) (c' := 0) (i' := 0) (k' := k) (by omega), msend_0k (i := 0) (k := k) (by omega) (by omega) (by omega), mz_Mo_pulse_1_j75 hc, mz_Mo_pulse_1_j96 hc]; done)))
theorem mz_Mo_pulse_1_j73 {k : Nat} (hc : k ≠ 10 ∧ k ≠ 50 ∧ k ≠ 51 ∧ k ≠ 55 ∧ k ≠ 56) : ∀ (v : fw_V) (x4 : Int32), (mf_Mo_pulse_1_j73 v x4) 0 0 k = v 0 0 k := by
  intro v x4
  unfold mf_Mo_pulse_1_j73
  (try dsimp only)
  all_goals ((repeat' split) <;> (first | with_reducible rfl | (simp only [msend_0k (i := 0) (k := k) (by omega) (by omega) (by omega), mz_Mo_pulse_1_j74 hc]; done)))
theorem mz_Mo_pulse_1_j117 {k : Nat} (hc : k ≠ 10 ∧ k ≠ 50 ∧ k ≠ 51 ∧ k ≠ 55 ∧ k ≠ 56) : ∀ (v : fw_V) (x4 : Int32) (x90 : Int32), (mf_Mo_pulse_1_j117 v x4 x90) 0 0 k = v 0 0 k := by
  intro v x4 x90
  unfold mf_Mo_pulse_1_j117
  (try dsimp only)
  all_goals ((repeat' split) <;> (first | with_reducible rfl | (simp only [fw_up_ne (c := 9) (i := 0) (k := 3) (c' := 0) (i' := 0) (k' := k) (by omega), msend_0k (i := 0) (k := k) (by omega) (by omega) (by omega), mz_Mo_pulse_1_j75 hc, mz_Mo_pulse_1_j96 hc]; done)))
theorem mz_Mo_pulse_1_j72 {k : Nat} (hc : k ≠ 10 ∧ k ≠ 50 ∧ k ≠ 51 ∧ k ≠ 55 ∧ k ≠ 56) : ∀ (v : fw_V), (mf_Mo_pulse_1_j72 v) 0 0 k = v 0 0 k := by
  intro v
  unfold mf_Mo_pulse_1_j72
  (try dsimp only)
  all_goals ((repeat' split) <;> (first | with_reducible rfl | (simp only [msend_0k (i := 0) (k := k) (by omega) (by omega) (by omega), mz_Mo_pulse_1_j73 hc, mz_Mo_pulse_1_j117 hc]; done)))
theorem mz_Mo_pulse_1_j71 {k : Nat} (hc : k ≠ 10 ∧ k ≠ 50 ∧ k ≠ 51 ∧ k ≠ 55 ∧ k ≠ 56) : ∀ (v : fw_V), (mf_Mo_pulse_1_j71 v) 0 0 k = v 0 0 k := by
  intro v
  unfold mf_Mo_pulse_1_j71
  (try dsimp only)
  all_goals ((repeat' split) <;> (first | with_reducible rfl | (simp only [msend_0k (i := 0) (k := k) (by omega) (by omega) (by omega), mz_Mo_pulse_1_j72 hc]; done)))
theorem mz_Mo_pulse_1_j122 {k : Nat} (hc : k ≠ 10 ∧ k ≠ 50 ∧ k ≠ 51 ∧ k ≠ 55 ∧ k ≠ 56) : ∀ (v : fw_V), (mf_Mo_pulse_1_j122 v) 0 0 k = v 0 0 k := by
  intro v
  unfold mf_Mo_pulse_1_j122
  (try dsimp only)
  all_goals ((repeat' split) <;> (first | with_reducible rfl | (simp only [msend_0k (i := 0) (k := k) (by omega) (by omega) (by omega), mz_Mo_pulse_1_j97 hc]; done)))
theorem mz_Mo_pulse_1_j123 {k : Nat} (hc : k ≠ 10 ∧ k ≠ 50 ∧ k ≠ 51 ∧ k ≠ 55 ∧ k ≠ 56) : ∀ (v : fw_V), (mf_Mo_pulse_1_j123 v) 0 0 k = v 0 0 k := by
  intro v
  unfold mf_Mo_pulse_1_j123
  (try dsimp only)
  all_goals ((repeat' split) <;> (first | with_reducible rfl | (simp only [msend_0k (i := 0) (k := k) (by omega) (by omega) (by omega), mz_Mo_pulse_1_j97 hc]; done)))
theorem mz_Mo_pulse_1_j121 {k : Nat} (hc : k ≠ 10 ∧ k ≠ 50 ∧ k ≠ 51 ∧ k ≠ 55 ∧ k ≠ 56) : ∀ (v : fw_V) (x4 : Int32), (mf_Mo_pulse_1_j121 v x4) 0 0 k = v 0 0 k := by
  intro v x4
  unfold mf_Mo_pulse_1_j121
  (try dsimp only)
  all_goals ((repeat' split) <;> (first | with_reducible rfl | (simp only [fw_up_ne (c := 9) (i := 0) (k := 3) (c' := 0) (i' := 0) (k' := k) (by omega), msend_0k (i := 0) (k := k) (by omega) (by omega) (by omega), mz_Mo_pulse_1_j122 hc, mz_Mo_pulse_1_j123 hc]; done)))
theorem mz_Mo_pulse_1_j120 {k : Nat} (hc : k ≠ 10 ∧ k ≠ 50 ∧ k ≠ 51 ∧ k ≠ 55 ∧ k ≠ 56) : ∀ (v : fw_V) (x4 : Int32), (mf_Mo_pulse_1_j120 v x4) 0 0 k = v 0 0 k := by
  intro v x4
  unfold mf_Mo_pulse_1_j120
  (try dsimp only)
  all_goals ((repeat' split) <;> (first | with_reducible rfl | (simp only [msend_0k (i := 0) (k := k) (by omega) (by omega) (by omega), mz_Mo_pulse_1_j121 hc]; done)))
theorem mz_Mo_pulse_1_j124 {k : Nat} (hc : k ≠ 10 ∧ k ≠ 50 ∧ k ≠ 51 ∧ k ≠ 55 ∧ k ≠ 56) : ∀ (v : fw_V) (x4 : Int32) (x90 : Int32), (mf_Mo_pulse_1_j124 v x4 x90) 0 0 k = v 0 0 k := by
  intro v x4 x90
  unfold mf_Mo_pulse_1_j124
  (try dsimp only)
  all_goals ((repeat' split) <;> (first | with_reducible rfl | (simp only [fw_up_ne (c := 9) (i := 0) (k := 3) (c' := 0) (i' := 0) (k' := k) (by omega), msend_0k (i := 0) (k := k) (by omega) (by omega) (by omega), mz_Mo_pulse_1_j122 hc, mz_Mo_pulse_1_j123 hc]; done)))
theorem mz_Mo_pulse_1_j119 {k : Nat} (hc : k ≠ 10 ∧ k ≠ 50 ∧ k ≠ 51 ∧ k ≠ 55 ∧ k ≠ 56) : ∀ (v : fw_V), (mf_Mo_pulse_1_j119 v) 0 0 k = v 0 0 k := by
  intro v
  unfold mf_Mo_pulse_1_j119
  (try dsimp only)
  all_goals ((repeat' split) <;> (first | with_reducible rfl | (simp only [msend_0k (i := 0) (k := k) (by omega) (by omega) (by omega), mz_Mo_pulse_1_j120 hc, mz_Mo_pulse_1_j124 hc]; done)))
theorem mz_Mo_pulse_1_j118 {k : Nat} (hc : k ≠ 10 ∧ k ≠ 50 ∧ k ≠ 51 ∧ k ≠ 55 ∧ k ≠ 56) : ∀ (v : fw_V), (mf_Mo_pulse_1_j118 v) 0 0 k = v 0 0 k := by
  intro v
  unfold mf_Mo_pulse_1_j118
  (try dsimp only)
  all_goals ((repeat' split) <;> (first | with_reducible rfl | (simp only [msend_0k (i := 0) (k := k) (by omega) (by omega) (by omega), mz_Mo_pulse_1_j119 hc]; done)))
theorem mz_Mo_pulse_1_j70 {k : Nat} (hc : k ≠ 10 ∧ k ≠ 50 ∧ k ≠ 51 ∧ k ≠ 55 ∧ k ≠ 56) : ∀ (v : fw_V) (x4 : Int32), (mf_Mo_pulse_1_j70 v x4) 0 0 k = v 0 0 k := by
  intro v x4
  unfold mf_Mo_pulse_1_j70
  (try dsimp only)
  all_goals ((repeat' split) <;> (first | with_reducible rfl | (simp only [fw_up_ne (c := 9) (i := 0) (k := 2) (c' := 0) (i' := 0) (k' := k) (by omega), msend_0k (i := 0) (k := k) (by omega) (by omega) (by omega), mz_Mo_pulse_1_j71 hc, mz_Mo_pulse_1_j118 hc]; done)))
theorem mz_Mo_pulse_1_j69 {k : Nat} (hc : k ≠ 10 ∧ k ≠ 50 ∧ k ≠ 51 ∧ k ≠ 55 ∧ k ≠ 56) : ∀ (v : fw_V) (x4 : Int32), (mf_Mo_pulse_1_j69 v x4) 0 0 k = v 0 0 k := by
  intro v x4
  unfold mf_Mo_pulse_1_j69
  (try dsimp only)
  all_goals ((repeat' split) <;> (first | with_reducible rfl | (simp only [msend_0k (i := 0) (k := k) (by omega) (by omega) (by omega), mz_Mo_pulse_1_j70 hc]; done)))
theorem mz_Mo_pulse_1_j125 {k : Nat} (hc : k ≠ 10 ∧ k ≠ 50 ∧ k ≠ 51 ∧ k ≠ 55 ∧ k ≠ 56) : ∀ (v : fw_V) (x4 : Int32) (x90 : Int32), (mf_Mo_pulse_1_j125 v x4 x90) 0 0 k = v 0 0 k := by
  intro v x4 x90
  unfold mf_Mo_pulse_1_j125
  (try dsimp only)
  all_goals ((repeat' split) <;> (first | with_reducible rfl | (simp only [fw_up_ne (c := 9) (i := 0) (k := 2) (c' := 0) (i' := 0) (k' := k) (by omega), msend_0k (i := 0) (k := k) (by omega) (by omega) (by omega), mz_Mo_pulse_1_j71 hc, mz_Mo_pulse_1_j118 hc]; done)))
theorem mz_Mo_pulse_1_j68 {k : Nat} (hc : k ≠ 10 ∧ k ≠ 50 ∧ k ≠ 51 ∧ k ≠ 55 ∧ k ≠ 56) : ∀ (v : fw_V), (mf_Mo_pulse_1_j68 v) 0 0 k = v 0 0 k := by
  intro v
  unfold mf_Mo_pulse_1_j68
  (try dsimp only)
  all_goals ((repeat' split) <;> (first | with_reducible rfl | (simp only [msend_0k (i := 0) (k := k) (by omega) (by omega) (by omega), mz_Mo_pulse_1_j69 hc, mz_Mo_pulse_1_j125 hc]; done)))
theorem mz_Mo_pulse_1_j67 {k : Nat} (hc : k ≠ 10 ∧ k ≠ 50 ∧ k ≠ 51 ∧ k ≠ 55 ∧ k ≠ 56) : ∀ (v : fw_V), (mf_Mo_pulse_1_j67 v) 0 0 k = v 0 0 k := by
  intro v
  unfold mf_Mo_pulse_1_j67
  (try dsimp only)
  all_goals ((repeat' split) <;> (first | with_reducible rfl | (simp only [msend_0k (i := 0) (k := k) (by omega) (by omega) (by omega), mz_Mo_pulse_1_j68 hc]; done)))
theorem mz_Mo_pulse_1_j7 {k : Nat} (hc : k ≠ 10 ∧ k ≠ 50 ∧ k ≠ 51 ∧ k ≠ 55 ∧ k ≠ 56) : ∀ (v : fw_V) (x4 : Int32), (mf_Mo_pulse_1_j7 v x4) 0 0 k = v 0 0 k := by
  intro v x4
  unfold mf_Mo_pulse_1_j7
  (try dsimp only)
  all_goals ((repeat' split) <;> (first | with_reducible rfl | (simp only [fw_up_ne (c := 9) (i := 0) (k := 1) (c' := 0) (i' := 0) (k' := k) (by omega), msend_0k (i := 0) (k := k) (by omega) (by omega) (by omega), mz_Mo_pulse_1_j8 hc, mz_Mo_pulse_1_j67 hc]; done)))
theorem mz_Mo_pulse_1_j6 {k : Nat} (hc : k ≠ 10 ∧ k ≠ 50 ∧ k ≠ 51 ∧ k ≠ 55 ∧ k ≠ 56) : ∀ (v : fw_V) (x4 : Int32), (mf_Mo_pulse_1_j6 v x4) 0 0 k = v 0 0 k := by
  intro v x4
  unfold mf_Mo_pulse_1_j6
  (try dsimp only)
  all_goals ((repeat' split) <;> (first | with_reducible rfl | (simp only [msend_0k (i := 0) (k := k) (by omega) (by omega) (by omega), mz_Mo_pulse_1_j7 hc]; done)))
theorem mz_Mo_pulse_1_j126 {k : Nat} (hc : k ≠ 10 ∧ k ≠ 50 ∧ k ≠ 51 ∧ k ≠ 55 ∧ k ≠ 56) : ∀ (v : fw_V) (x4 : Int32) (x90 : Int32), (mf_Mo_pulse_1_j126 v x4 x90) 0 0 k = v 0 0 k := by
  intro v x4 x90
  unfold mf_Mo_pulse_1_j126
  (try dsimp only)
  all_goals ((repeat' split) <;> (first | with_reducible rfl | (simp only [fw_up_ne (c := 9) (i := 0) (k := 1) (c' := 0) (i' := 0) (k' := k) (by omega), msend_0k (i := 0) (k := k) (by omega) (by omega) (by omega), mz_Mo_pulse_1_j8 hc, mz_Mo_pulse_1_j67 hc]; done)))
theorem mz_Mo_pulse_1_j5 {k : Nat} (hc : k ≠ 10 ∧ k ≠ 50 ∧ k ≠ 51 ∧ k ≠ 55 ∧ k ≠ 56) : ∀ (v : fw_V), (mf_Mo_pulse_1_j5 v) 0 0 k = v 0 0 k := by
  intro v
  unfold mf_Mo_pulse_1_j5
  (try dsimp only)
  all_goals ((repeat' split) <;> (first | with_reducible rfl | (simp only [msend_0k (i := 0) (k := k) (by omega) (by omega) (by omega), mz_Mo_pulse_1_j6 hc, mz_Mo_pulse_1_j126 hc]; done)))
theorem mz_Mo_pulse_1_j4 {k : Nat} (hc : k ≠ 10 ∧ k ≠ 50 ∧ k ≠ 51 ∧ k ≠ 55 ∧ k ≠ 56) : ∀ (v : fw_V), (mf_Mo_pulse_1_j4 v) 0 0 k = v 0 0 k := by
  intro v
  unfold mf_Mo_pulse_1_j4
  (try dsimp only)
  all_goals ((repeat' split) <;> (first | with_reducible rfl | (simp only [msend_0k (i := 0) (k := k) (by omega) (by omega) (by omega), mz_Mo_pulse_1_j5 hc]; done)))
theorem mz_Mo_pulse_1_j131 {k : Nat} (hc : k ≠ 10 ∧ k ≠ 50 ∧ k ≠ 51 ∧ k ≠ 55 ∧ k ≠ 56) : ∀ (v : fw_V), (mf_Mo_pulse_1_j131 v) 0 0 k = v 0 0 k := by
  intro v
  unfold mf_Mo_pulse_1_j131
  (try dsimp only)
  all_goals ((repeat' split) <;> (first | with_reducible rfl | (simp only [msend_0k (i := 0) (k := k) (by omega) (by omega) (by omega), mz_Mo_pulse_1_j68 hc]; done)))
theorem mz_Mo_pulse_1_j132 {k : Nat} (hc : k ≠ 10 ∧ k ≠ 50 ∧ k ≠ 51 ∧ k ≠ 55 ∧ k ≠ 56) : ∀ (v : fw_V), (mf_Mo_pulse_1_j132 v) 0 0 k = v 0 0 k := by
  intro v
  unfold mf_Mo_pulse_1_j132
  (try dsimp only)
  all_goals ((repeat' split) <;> (first | with_reducible rfl | (simp only [msend_0k (i := 0) (k := k) (by omega) (by omega) (by omega), mz_Mo_pulse_1_j68 hc]; done)))
theorem mz_Mo_pulse_1_j130 {k : Nat} (hc : k ≠ 10 ∧ k ≠ 50 ∧ k ≠ 51 ∧ k ≠ 55 ∧ k ≠ 56) : ∀ (v : fw_V) (x4 : Int32), (mf_Mo_pulse_1_j130 v x4) 0 0 k = v 0 0 k := by
  intro v x4
  unfold mf_Mo_pulse_1_j130
  (try dsimp only)
  all_goals ((repeat' split) <;> (first | with_reducible rfl | (simp only [fw_up_ne (c := 9) (i := 0) (k := 1) (c' := 0) (i' := 0) (k' := k) (by omega), msend_0k (i := 0) (k := k) (by omega) (by omega) (by omega), mz_Mo_pulse_1_j131 hc, mz_Mo_pulse_1_j132 hc]; done)))
theorem mz_Mo_pulse_1_j129 {k : Nat} (hc : k ≠ 10 ∧ k ≠ 50 ∧ k ≠ 51 ∧ k ≠ 55 ∧ k ≠ 56) : ∀ (v : fw_V) (x4 : Int32), (mf_Mo_pulse_1_j129 v x4) 0 0 k = v 0 0 k := by
  intro v x4
  unfold mf_Mo_pulse_1_j129
  (try dsimp only)
  all_goals ((repeat' split) <;> (first | with_reducible rfl | (simp only [msend_0k (i := 0) (k := k) (by omega) (by omega) (by omega), mz_Mo_pulse_1_j130 hc]; done)))
theorem mz_Mo_pulse_1_j133 {k : Nat} (hc : k ≠ 10 ∧ k ≠ 50 ∧ k ≠ 51 ∧ k ≠ 55 ∧ k ≠ 56) : ∀ (v : fw_V) (x4 : Int32) (x90 : Int32), (mf_Mo_pulse_1_j133 v x4 x90) 0 0 k = v 0 0 k := by
  intro v x4 x90
  unfold mf_Mo_pulse_1_j133
  (try dsimp only)
  all_goals ((repeat' split) <;> (first | with_reducible rfl | (simp only [fw_up_ne (c := 9) (i := 0) (k := 1) (c' := 0) (i' := 0) (k' := k) (by omega), msend_0k (i := 0) (k := k) (by omega) (by omega) (by omega), mz_Mo_pulse_1_j131 hc, mz_Mo_pulse_1_j132 hc]; done)))
theorem mz_Mo_pulse_1_j128 {k : Nat} (hc : k ≠ 10 ∧ k ≠ 50 ∧ k ≠ 51 ∧ k ≠ 55 ∧ k ≠ 56) : ∀ (v : fw_V), (mf_Mo_pulse_1_j128 v) 0 0 k = v 0 0 k := by
  intro v
  unfold mf_Mo_pulse_1_j128
  (try dsimp only)
  all_goals ((repeat' split) <;> (first | with_reducible rfl | (simp only [msend_0k (i := 0) (k := k) (by omega) (by omega) (by omega), mz_Mo_pulse_1_j129 hc, mz_Mo_pulse_1_j133 hc]; done)))
theorem mz_Mo_pulse_1_j127 {k : Nat} (hc : k ≠ 10 ∧ k ≠ 50 ∧ k ≠ 51 ∧ k ≠ 55 ∧ k ≠ 56) : ∀ (v : fw_V), (mf_Mo_pulse_1_j127 v) 0 0 k = v 0 0 k := by
  intro v
  unfold mf_Mo_pulse_1_j127
  (try dsimp only)
  all_goals ((repeat' split) <;> (first | with_reducible rfl | (simp only [msend_0k (i := 0) (k := k) (by omega) (by omega) (by omega), mz_Mo_pulse_1_j128 hc]; done)))
theorem mz_Mo_pulse_1_j3 {k : Nat} (hc : k ≠ 10 ∧ k ≠ 50 ∧ k ≠ 51 ∧ k ≠ 55 ∧ k ≠ 56) : ∀ (v : fw_V) (x4 : Int32), (mf_Mo_pulse_1_j3 v x4) 0 0 k = v 0 0 k := by
  intro v x4
  unfold mf_Mo_pulse_1_j3
  (try dsimp only)
  all_goals ((repeat' split) <;> (first | with_reducible rfl | (simp only [fw_up_ne (c := 9) (i := 0) (k := 0) (c' := 0) (i' := 0) (k' := k) (by omega), msend_0k (i := 0) (k := k) (by omega) (by omega) (by omega), mz_Mo_pulse_1_j4 hc, mz_Mo_pulse_1_j127 hc]; done)))
theorem mz_Mo_pulse_1_j2 {k : Nat} (hc : k ≠ 10 ∧ k ≠ 50 ∧ k ≠ 51 ∧ k ≠ 55 ∧ k ≠ 56) : ∀ (v : fw_V) (x4 : Int32), (mf_Mo_pulse_1_j2 v x4) 0 0 k = v 0 0 k := by
  intro v x4
  unfold mf_Mo_pulse_1_j2
  (try dsimp only)
  all_goals ((repeat' split) <;> (first | with_reducible rfl | (simp only [msend_0k (i := 0) (k := k) (by omega) (by omega) (by omega), mz_Mo_pulse_1_j3 hc]; done)))
theorem mz_Mo_pulse_1_j134 {k : Nat} (hc : k ≠ 10 ∧ k ≠ 50 ∧ k ≠ 51 ∧ k ≠ 55 ∧ k ≠ 56) : ∀ (v : fw_V) (x4 : Int32) (x90 : Int32), (mf_Mo_pulse_1_j134 v x4 x90) 0 0 k = v 0 0 k := by
  intro v x4 x90
  unfold mf_Mo_pulse_1_j134
  (try dsimp only)
  all_goals ((repeat' split) <;> (first | with_reducible rfl | (simp only [fw_up_ne (c := 9) (i := 0) (k := 0) (c' := 0) (i' := 0) (k' := k) (by omega), msend_0k (i := 0) (k := k) (by omega) (by omega) (by omega), mz_Mo_pulse_1_j4 hc, mz_Mo_pulse_1_j127 hc]; done)))
theorem mz_Mo_pulse_1_j1 {k : Nat} (hc : k ≠ 10 ∧ k ≠ 50 ∧ k ≠ 51 ∧ k ≠ 55 ∧ k ≠ 56) : ∀ (v : fw_V), (mf_Mo_pulse_1_j1 v) 0 0 k = v 0 0 k := by
  intro v
  unfold mf_Mo_pulse_1_j1
  (try dsimp only)
  all_goals ((repeat' split) <;> (first | with_reducible rfl | (simp only [msend_0k (i := 0) (k := k) (by omega) (by omega) (by omega), mz_Mo_pulse_1_j2 hc, mz_Mo_pulse_1_j134 hc]; done)))
theorem mz_Mo_pulse_1 {k : Nat} (hc : k ≠ 10 ∧ k ≠ 50 ∧ k ≠ 51 ∧ k ≠ 55 ∧ k ≠ 56) : ∀ (v0 : fw_V), (mf_Mo_pulse_1 v0) 0 0 k = v0 0 0 k := by
  intro v0
  unfold mf_Mo_pulse_1
  (try dsimp only)
  all_goals ((repeat' split) <;> (first | with_reducible rfl | (simp only [fw_up_ne (c := 32) (i := 0) (k := 1) (c' := 0) (i' := 0) (k' := k) (by omega), fw_up_ne (c := 33) (i := 0) (k := 1) (c' := 0) (i' := 0) (k' := k) (by omega), fw_up_ne (c := 0) (i := 0) (k := 56) (c' := 0) (i' := 0) (k' := k) (by omega), msend_0k (i := 0) (k := k) (by omega) (by omega) (by omega), mz_Mo_rest_1 hc, mz_Mo_quit_1 hc, mz_Mo_reply_1 hc, mz_Mo_alarm_1 hc, mz_Mo_pulse_1_j1 hc]; done)))
theorem mz55_Mo_enter_0 {k : Nat} (hc : k = 55) : ∀ (v0 : fw_V) (a2 : Int32), (mf_Mo_enter_0 v0 a2) 0 0 k = v0 0 0 k := by
  intro v0 a2
  unfold mf_Mo_enter_0
  (try dsimp only)
  all_goals ((repeat' split) <;> (first | with_reducible rfl | (simp only [fw_up_ne (c := 12) (i := 0) (k := 0) (c' := 0) (i' := 0) (k' := k) (by omega), fw_up_ne (c := 18) (i := 0) (k := 0) (c' := 0) (i' := 0) (k' := k) (by omega), fw_up_ne (c := 19) (i := 0) (k := 0) (c' := 0) (i' := 0) (k' := k) (by omega), msend_0k (i := 0) (k := k) (by omega) (by omega) (by omega)]; done)))
theorem mz55_Mo_ask_0 {k : Nat} (hc : k = 55) : ∀ (v0 : fw_V), (mf_Mo_ask_0 v0) 0 0 k = v0 0 0 k := by
  intro v0
  unfold mf_Mo_ask_0
  (try dsimp only)
  all_goals ((repeat' split) <;> (first | with_reducible rfl | (simp only [fw_up_ne (c := 18) (i := 0) (k := 0) (c' := 0) (i' := 0) (k' := k) (by omega), fw_up_ne (c := 9) (i := 0) (k := 0) (c' := 0) (i' := 0) (k' := k) (by omega), fw_up_ne (c := 9) (i := 0) (k := 1) (c' := 0) (i' := 0) (k' := k) (by omega), fw_up_ne (c := 9) (i := 0) (k := 2) (c' := 0) (i' := 0) (k' := k) (by omega), msend_0k (i := 0) (k := k) (by omega) (by omega) (by omega)]; done)))
theorem mz55_Mo_shut_0 {k : Nat} (hc : k = 55) : ∀ (v0 : fw_V), (mf_Mo_shut_0 v0) 0 0 k = v0 0 0 k := by
  intro v0
  unfold mf_Mo_shut_0
  (try dsimp only)
  all_goals ((repeat' split) <;> (first | with_reducible rfl | (simp only [fw_up_ne (c := 13) (i := 0) (k := 0) (c' := 0) (i' := 0) (k' := k) (by omega), fw_up_ne (c := 15) (i := 0) (k := 0) (c' := 0) (i' := 0) (k' := k) (by omega), fw_up_ne (c := 16) (i := 0) (k := 0) (c' := 0) (i' := 0) (k' := k) (by omega), fw_up_ne (c := 17) (i := 0) (k := 0) (c' := 0) (i' := 0) (k' := k) (by omega), fw_up_ne (c := 27) (i := 0) (k := 0) (c' := 0) (i' := 0) (k' := k) (by omega), fw_up_ne (c := 27) (i := 0) (k := 1) (c' := 0) (i' := 0) (k' := k) (by omega), fw_up_ne (c := 27) (i := 0) (k := 2) (c' := 0) (i' := 0) (k' := k) (by omega), fw_up_ne (c := 27) (i := 0) (k := 3) (c' := 0) (i' := 0) (k' := k) (by omega), fw_up_ne (c := 27) (i := 0) (k := 4) (c' := 0) (i' := 0) (k' := k) (by omega), fw_up_ne (c := 27) (i := 0) (k := 5) (c' := 0) (i' := 0) (k' := k) (by omega), msend_0k (i := 0) (k := k) (by omega) (by omega) (by omega), mz55_Mo_enter_0 hc]; done)))
theorem mz55_Mo_write_0_j2 {k : Nat} (hc : k = 55) : ∀ (v : fw_V) (a2 : Int32) (x3 : Int32), (mf_Mo_write_0_j2 v a2 x3) 0 0 k = v 0 0 k := by
  intro v a2 x3
  unfold mf_Mo_write_0_j2
  (try dsimp only)
  all_goals ((repeat' split) <;> (first | with_reducible rfl | (simp only [fw_up_ne (c := 20) (i := 0) (k := 0) (c' := 0) (i' := 0) (k' := k) (by omega), msend_0k (i := 0) (k := k) (by omega) (by omega) (by omega), mz55_Mo_enter_0 hc, mz55_Mo_ask_0 hc]; done)))
theorem mz55_Mo_write_0_j3 {k : Nat} (hc : k = 55) : ∀ (v : fw_V) (a2 : Int32) (x3 : Int32), (mf_Mo_write_0_j3 v a2 x3) 0 0 k = v 0 0 k := by
  intro v a2 x3
  unfold mf_Mo_write_0_j3
  (try dsimp only)
  all_goals ((repeat' split) <;> (first | with_reducible rfl | (simp only [fw_up_ne (c := 20) (i := 0) (k := 0) (c' := 0) (i' := 0) (k' := k) (by omega), msend_0k (i := 0) (k := k) (by omega) (by omega) (by omega), mz55_Mo_enter_0 hc, mz55_Mo_ask_0 hc]; done)))
theorem mz55_Mo_write_0_j1 {k : Nat} (hc : k = 55) : ∀ (n : Nat) (v : fw_V) (a2 : Int32) (x3 : Int32), (mf_Mo_write_0_j1 n v a2 x3) 0 0 k = v 0 0 k := by
  intro n
  induction n with
  | zero => intros; rfl
  | succ n ih =>
    intro v a2 x3
    unfold mf_Mo_write_0_j1
    (try dsimp only)
    all_goals ((repeat' split) <;> (first | with_reducible rfl | (simp only [ih, msend_0k (i := 0) (k := k) (by omega) (by omega) (by omega), mz55_Mo_write_0_j2 hc, mz55_Mo_write_0_j3 hc]; done)))
theorem mz55_Mo_write_0 {k : Nat} (hc : k = 55) : ∀ (v0 : fw_V) (a2 : Int32), (mf_Mo_write_0 v0 a2) 0 0 k = v0 0 0 k := by
  intro v0 a2
  unfold mf_Mo_write_0
  (try dsimp only)
  all_goals ((repeat' split) <;> (first | with_reducible rfl | (simp only [msend_0k (i := 0) (k := k) (by omega) (by omega) (by omega), mz55_Mo_write_0_j1 hc]; done)))
theorem mz55_Mo_breakOff_0 {k : Nat} (hc : k = 55) : ∀ (v0 : fw_V), (mf_Mo_breakOff_0 v0) 0 0 k = v0 0 0 k := by
  intro v0
  unfold mf_Mo_breakOff_0
  (try dsimp only)
  all_goals ((repeat' split) <;> (first | with_reducible rfl | (simp only [msend_0k (i := 0) (k := k) (by omega) (by omega) (by omega), mz55_Mo_shut_0 hc]; done)))
theorem mz55_Mo_beat_0_j25 {k : Nat} (hc : k = 55) : ∀ (v : fw_V), (mf_Mo_beat_0_j25 v) 0 0 k = v 0 0 k := by
  intro v
  unfold mf_Mo_beat_0_j25
  (try dsimp only)
  all_goals ((repeat' split) <;> (first | with_reducible rfl | (simp only [fw_up_ne (c := 21) (i := 0) (k := 0) (c' := 0) (i' := 0) (k' := k) (by omega), msend_0k (i := 0) (k := k) (by omega) (by omega) (by omega)]; done)))
theorem mz55_Mo_beat_0_j24 {k : Nat} (hc : k = 55) : ∀ (v : fw_V), (mf_Mo_beat_0_j24 v) 0 0 k = v 0 0 k := by
  intro v
  unfold mf_Mo_beat_0_j24
  (try dsimp only)
  all_goals ((repeat' split) <;> (first | with_reducible rfl | (simp only [fw_up_ne (c := 9) (i := 0) (k := 5) (c' := 0) (i' := 0) (k' := k) (by omega), msend_0k (i := 0) (k := k) (by omega) (by omega) (by omega), mz55_Mo_beat_0_j25 hc]; done)))
theorem mz55_Mo_beat_0_j23 {k : Nat} (hc : k = 55) : ∀ (v : fw_V), (mf_Mo_beat_0_j23 v) 0 0 k = v 0 0 k := by
  intro v
  unfold mf_Mo_beat_0_j23
  (try dsimp only)
  all_goals ((repeat' split) <;> (first | with_reducible rfl | (simp only [msend_0k (i := 0) (k := k) (by omega) (by omega) (by omega), mz55_Mo_beat_0_j24 hc]; done)))
theorem mz55_Mo_beat_0_j22 {k : Nat} (hc : k = 55) : ∀ (v : fw_V), (mf_Mo_beat_0_j22 v) 0 0 k = v 0 0 k := by
  intro v
  unfold mf_Mo_beat_0_j22
  (try dsimp only)
  all_goals ((repeat' split) <;> (first | with_reducible rfl | (simp only [msend_0k (i := 0) (k := k) (by omega) (by omega) (by omega), mz55_Mo_beat_0_j23 hc]; done)))
theorem mz55_Mo_beat_0_j27 {k : Nat} (hc : k = 55) : ∀ (v : fw_V) (x90 : Int32), (mf_Mo_beat_0_j27 v x90) 0 0 k = v 0 0 k := by
  intro v x90
  unfold mf_Mo_beat_0_j27
  (try dsimp only)
  all_goals ((repeat' split) <;> (first | with_reducible rfl | (simp only [fw_up_ne (c := 9) (i := 0) (k := 5) (c' := 0) (i' := 0) (k' := k) (by omega), msend_0k (i := 0) (k := k) (by omega) (by omega) (by omega), mz55_Mo_beat_0_j25 hc]; done)))
theorem mz55_Mo_beat_0_j26 {k : Nat} (hc : k = 55) : ∀ (v : fw_V), (mf_Mo_beat_0_j26 v) 0 0 k = v 0 0 k := by
  intro v
  unfold mf_Mo_beat_0_j26
  (try dsimp only)
  all_goals ((repeat' split) <;> (first | with_reducible rfl | (simp only [msend_0k (i := 0) (k := k) (by omega) (by omega) (by omega), mz55_Mo_beat_0_j27 hc]; done)))
theorem mz55_Mo_beat_0_j21 {k : Nat} (hc : k = 55) : ∀ (v : fw_V), (mf_Mo_beat_0_j21 v) 0 0 k = v 0 0 k := by
  intro v
  unfold mf_Mo_beat_0_j21
  (try dsimp only)
  all_goals ((repeat' split) <;> (first | with_reducible rfl | (simp only [msend_0k (i := 0) (k := k) (by omega) (by omega) (by omega), mz55_Mo_beat_0_j22 hc, mz55_Mo_beat_0_j26 hc]; done)))
theorem mz55_Mo_beat_0_j20 {k : Nat} (hc : k = 55) : ∀ (v : fw_V), (mf_Mo_beat_0_j20 v) 0 0 k = v 0 0 k := by
  intro v
  unfold mf_Mo_beat_0_j20
  (try dsimp only)
  all_goals ((repeat' split) <;> (first | with_reducible rfl | (simp only [fw_up_ne (c := 9) (i := 0) (k := 4) (c' := 0) (i' := 0) (k' := k) (by omega), msend_0k (i := 0) (k := k) (by omega) (by omega) (by omega), mz55_Mo_beat_0_j21 hc]; done)))
theorem mz55_Mo_beat_0_j19 {k : Nat} (hc : k = 55) : ∀ (v : fw_V), (mf_Mo_beat_0_j19 v) 0 0 k = v 0 0 k := by
  intro v
  unfold mf_Mo_beat_0_j19
  (try dsimp only)
  all_goals ((repeat' split) <;> (first | with_reducible rfl | (simp only [msend_0k (i := 0) (k := k) (by omega) (by omega) (by omega), mz55_Mo_beat_0_j20 hc]; done)))
theorem mz55_Mo_beat_0_j18 {k : Nat} (hc : k = 55) : ∀ (v : fw_V), (mf_Mo_beat_0_j18 v) 0 0 k = v 0 0 k := by
  intro v
  unfold mf_Mo_beat_0_j18
  (try dsimp only)
  all_goals ((repeat' split) <;> (first | with_reducible rfl | (simp only [msend_0k (i := 0) (k := k) (by omega) (by omega) (by omega), mz55_Mo_beat_0_j19 hc]; done)))
theorem mz55_Mo_beat_0_j29 {k : Nat} (hc : k = 55) : ∀ (v : fw_V) (x90 : Int32), (mf_Mo_beat_0_j29 v x90) 0 0 k = v 0 0 k := by
  intro v x90
  unfold mf_Mo_beat_0_j29
  (try dsimp only)
  all_goals ((repeat' split) <;> (first | with_reducible rfl | (simp only [fw_up_ne (c := 9) (i := 0) (k := 4) (c' := 0) (i' := 0) (k' := k) (by omega), msend_0k (i := 0) (k := k) (by omega) (by omega) (by omega), mz55_Mo_beat_0_j21 hc]; done)))
theorem mz55_Mo_beat_0_j28 {k : Nat} (hc : k = 55) : ∀ (v : fw_V), (mf_Mo_beat_0_j28 v) 0 0 k = v 0 0 k := by
  intro v
  unfold mf_Mo_beat_0_j28
  (try dsimp only)
  all_goals ((repeat' split) <;> (first | with_reducible rfl | (simp only [msend_0k (i := 0) (k := k) (by omega) (by omega) (by omega), mz55_Mo_beat_0_j29 hc]; done)))
theorem mz55_Mo_beat_0_j17 {k : Nat} (hc : k = 55) : ∀ (v : fw_V), (mf_Mo_beat_0_j17 v) 0 0 k = v 0 0 k := by
  intro v
  unfold mf_Mo_beat_0_j17
  (try dsimp only)
  all_goals ((repeat' split) <;> (first | with_reducible rfl | (simp only [msend_0k (i := 0) (k := k) (by omega) (by omega) (by omega), mz55_Mo_beat_0_j18 hc, mz55_Mo_beat_0_j28 hc]; done)))
theorem mz55_Mo_beat_0_j16 {k : Nat} (hc : k = 55) : ∀ (v : fw_V), (mf_Mo_beat_0_j16 v) 0 0 k = v 0 0 k := by
  intro v
  unfold mf_Mo_beat_0_j16
  (try dsimp only)
  all_goals ((repeat' split) <;> (first | with_reducible rfl | (simp only [fw_up_ne (c := 9) (i := 0) (k := 3) (c' := 0) (i' := 0) (k' := k) (by omega), msend_0k (i := 0) (k := k) (by omega) (by omega) (by omega), mz55_Mo_beat_0_j17 hc]; done)))
theorem mz55_Mo_beat_0_j15 {k : Nat} (hc : k = 55) : ∀ (v : fw_V), (mf_Mo_beat_0_j15 v) 0 0 k = v 0 0 k := by
  intro v
  unfold mf_Mo_beat_0_j15
  (try dsimp only)
  all_goals ((repeat' split) <;> (first | with_reducible rfl | (simp only [msend_0k (i := 0) (k := k) (by omega) (by omega) (by omega), mz55_Mo_beat_0_j16 hc]; done)))
theorem mz55_Mo_beat_0_j14 {k : Nat} (hc : k = 55) : ∀ (v : fw_V), (mf_Mo_beat_0_j14 v) 0 0 k = v 0 0 k := by
  intro v
  unfold mf_Mo_beat_0_j14
  (try dsimp only)
  all_goals ((repeat' split) <;> (first | with_reducible rfl | (simp only [msend_0k (i := 0) (k := k) (by omega) (by omega) (by omega), mz55_Mo_beat_0_j15 hc]; done)))
theorem mz55_Mo_beat_0_j31 {k : Nat} (hc : k = 55) : ∀ (v : fw_V) (x90 : Int32), (mf_Mo_beat_0_j31 v x90) 0 0 k = v 0 0 k := by
  intro v x90
  unfold mf_Mo_beat_0_j31
  (try dsimp only)
  all_goals ((repeat' split) <;> (first | with_reducible rfl | (simp only [fw_up_ne (c := 9) (i := 0) (k := 3) (c' := 0) (i' := 0) (k' := k) (by omega), msend_0k (i := 0) (k := k) (by omega) (by omega) (by omega), mz55_Mo_beat_0_j17 hc]; done)))
theorem mz55_Mo_beat_0_j30 {k : Nat} (hc : k = 55) : ∀ (v : fw_V), (mf_Mo_beat_0_j30 v) 0 0 k = v 0 0 k := by
  intro v
  unfold mf_Mo_beat_0_j30
  (try dsimp only)
  all_goals ((repeat' split) <;> (first | with_reducible rfl | (simp only [msend_0k (i := 0) (k := k) (by omega) (by omega) (by omega), mz55_Mo_beat_0_j31 hc]; done)))
theorem mz55_Mo_beat_0_j13 {k : Nat} (hc : k = 55) : ∀ (v : fw_V), (mf_Mo_beat_0_j13 v) 0 0 k = v 0 0 k := by
  intro v
  unfold mf_Mo_beat_0_j13
  (try dsimp only)
  all_goals ((repeat' split) <;> (first | with_reducible rfl | (simp only [msend_0k (i := 0) (k := k) (by omega) (by omega) (by omega), mz55_Mo_beat_0_j14 hc, mz55_Mo_beat_0_j30 hc]; done)))
theorem mz55_Mo_beat_0_j12 {k : Nat} (hc : k = 55) : ∀ (v : fw_V), (mf_Mo_beat_0_j12 v) 0 0 k = v 0 0 k := by
  intro v
  unfold mf_Mo_beat_0_j12
  (try dsimp only)
  all_goals ((repeat' split) <;> (first | with_reducible rfl | (simp only [fw_up_ne (c := 9) (i := 0) (k := 2) (c' := 0) (i' := 0) (k' := k) (by omega), msend_0k (i := 0) (k := k) (by omega) (by omega) (by omega), mz55_Mo_beat_0_j13 hc]; done)))
theorem mz55_Mo_beat_0_j11 {k : Nat} (hc : k = 55) : ∀ (v : fw_V), (mf_Mo_beat_0_j11 v) 0 0 k = v 0 0 k := by
  intro v
  unfold mf_Mo_beat_0_j11
  (try dsimp only)
  all_goals ((repeat' split) <;> (first | with_reducible rfl | (simp only [msend_0k (i := 0) (k := k) (by omega) (by omega) (by omega), mz55_Mo_beat_0_j12 hc]; done)))
theorem mz55_Mo_beat_0_j10 {k : Nat} (hc : k = 55) : ∀ (v : fw_V), (mf_Mo_beat_0_j10 v) 0 0 k = v 0 0 k := by
  intro v
  unfold mf_Mo_beat_0_j10
  (try dsimp only)
  all_goals ((repeat' split) <;> (first | with_reducible rfl | (simp only [msend_0k (i := 0) (k := k) (by omega) (by omega) (by omega), mz55_Mo_beat_0_j11 hc]; done)))
theorem mz55_Mo_beat_0_j33 {k : Nat} (hc : k = 55) : ∀ (v : fw_V) (x90 : Int32), (mf_Mo_beat_0_j33 v x90) 0 0 k = v 0 0 k := by
  intro v x90
  unfold mf_Mo_beat_0_j33
  (try dsimp only)
  all_goals ((repeat' split) <;> (first | with_reducible rfl | (simp only [fw_up_ne (c := 9) (i := 0) (k := 2) (c' := 0) (i' := 0) (k' := k) (by omega), msend_0k (i := 0) (k := k) (by omega) (by omega) (by omega), mz55_Mo_beat_0_j13 hc]; done)))
theorem mz55_Mo_beat_0_j32 {k : Nat} (hc : k = 55) : ∀ (v : fw_V), (mf_Mo_beat_0_j32 v) 0 0 k = v 0 0 k := by
  intro v
  unfold mf_Mo_beat_0_j32
  (try dsimp only)
  all_goals ((repeat' split) <;> (first | with_reducible rfl | (simp only [msend_0k (i := 0) (k := k) (by omega) (by omega) (by omega), mz55_Mo_beat_0_j33 hc]; done)))
theorem mz55_Mo_beat_0_j9 {k : Nat} (hc : k = 55) : ∀ (v : fw_V), (mf_Mo_beat_0_j9 v) 0 0 k = v 0 0 k := by
  intro v
  unfold mf_Mo_beat_0_j9
  (try dsimp only)
  all_goals ((repeat' split) <;> (first | with_reducible rfl | (simp only [msend_0k (i := 0) (k := k) (by omega) (by omega) (by omega), mz55_Mo_beat_0_j10 hc, mz55_Mo_beat_0_j32 hc]; done)))
theorem mz55_Mo_beat_0_j8 {k : Nat} (hc : k = 55) : ∀ (v : fw_V), (mf_Mo_beat_0_j8 v) 0 0 k = v 0 0 k := by
  intro v
  unfold mf_Mo_beat_0_j8
  (try dsimp only)
  all_goals ((repeat' split) <;> (first | with_reducible rfl | (simp only [fw_up_ne (c := 9) (i := 0) (k := 1) (c' := 0) (i' := 0) (k' := k) (by omega), msend_0k (i := 0) (k := k) (by omega) (by omega) (by omega), mz55_Mo_beat_0_j9 hc]; done)))
theorem mz55_Mo_beat_0_j7 {k : Nat} (hc : k = 55) : ∀ (v : fw_V), (mf_Mo_beat_0_j7 v) 0 0 k = v 0 0 k := by
  intro v
  unfold mf_Mo_beat_0_j7
  (try dsimp only)
  all_goals ((repeat' split) <;> (first | with_reducible rfl | (simp only [msend_0k (i := 0) (k := k) (by omega) (by omega) (by omega), mz55_Mo_beat_0_j8 hc]; done)))
theorem mz55_Mo_beat_0_j6 {k : Nat} (hc : k = 55) : ∀ (v : fw_V), (mf_Mo_beat_0_j6 v) 0 0 k = v 0 0 k := by
  intro v
  unfold mf_Mo_beat_0_j6
  (try dsimp only)
  all_goals ((repeat' split) <;> (first | with_reducible rfl | (simp only [msend_0k (i := 0) (k := k) (by omega) (by omega) (by omega), mz55_Mo_beat_0_j7 hc]; done)))
theorem mz55_Mo_beat_0_j35 {k : Nat} (hc : k = 55) : ∀ (v : fw_V) (x90 : Int32), (mf_Mo_beat_0_j35 v x90) 0 0 k = v 0 0 k := by
  intro v x90
  unfold mf_Mo_beat_0_j35
  (try dsimp only)
  all_goals ((repeat' split) <;> (first | with_reducible rfl | (simp only [fw_up_ne (c := 9) (i := 0) (k := 1) (c' := 0) (i' := 0) (k' := k) (by omega), msend_0k (i := 0) (k := k) (by omega) (by omega) (by omega), mz55_Mo_beat_0_j9 hc]; done)))
theorem mz55_Mo_beat_0_j34 {k : Nat} (hc : k = 55) : ∀ (v : fw_V), (mf_Mo_beat_0_j34 v) 0 0 k = v 0 0 k := by
  intro v
  unfold mf_Mo_beat_0_j34
  (try dsimp only)
  all_goals ((repeat' split) <;> (first | with_reducible rfl | (simp only [msend_0k (i := 0) (k := k) (by omega) (by omega) (by omega), mz55_Mo_beat_0_j35 hc]; done)))
theorem mz55_Mo_beat_0_j5 {k : Nat} (hc : k = 55) : ∀ (v : fw_V), (mf_Mo_beat_0_j5 v) 0 0 k = v 0 0 k := by
  intro v
  unfold mf_Mo_beat_0_j5
  (try dsimp only)
  all_goals ((repeat' split) <;> (first | with_reducible rfl | (simp only [msend_0k (i := 0) (k := k) (by omega) (by omega) (by omega), mz55_Mo_beat_0_j6 hc, mz55_Mo_beat_0_j34 hc]; done)))
theorem mz55_Mo_beat_0_j4 {k : Nat} (hc : k = 55) : ∀ (v : fw_V), (mf_Mo_beat_0_j4 v) 0 0 k = v 0 0 k := by
  intro v
  unfold mf_Mo_beat_0_j4
  (try dsimp only)
  all_goals ((repeat' split) <;> (first | with_reducible rfl | (simp only [fw_up_ne (c := 9) (i := 0) (k := 0) (c' := 0) (i' := 0) (k' := k) (by omega), msend_0k (i := 0) (k := k) (by omega) (by omega) (by omega), mz55_Mo_beat_0_j5 hc]; done)))
theorem mz55_Mo_beat_0_j3 {k : Nat} (hc : k = 55) : ∀ (v : fw_V), (mf_Mo_beat_0_j3 v) 0 0 k = v 0 0 k := by
  intro v
  unfold mf_Mo_beat_0_j3
  (try dsimp only)
  all_goals ((repeat' split) <;> (first | with_reducible rfl | (simp only [msend_0k (i := 0) (k := k) (by omega) (by omega) (by omega), mz55_Mo_beat_0_j4 hc]; done)))
theorem mz55_Mo_beat_0_j2 {k : Nat} (hc : k = 55) : ∀ (v : fw_V), (mf_Mo_beat_0_j2 v) 0 0 k = v 0 0 k := by
  intro v
  unfold mf_Mo_beat_0_j2
  (try dsimp only)
  all_goals ((repeat' split) <;> (first | with_reducible rfl | (simp only [msend_0k (i := 0) (k := k) (by omega) (by omega) (by omega), mz55_Mo_beat_0_j3 hc]; done)))
theorem mz55_Mo_beat_0_j37 {k : Nat} (hc : k = 55) : ∀ (v : fw_V) (x90 : Int32), (mf_Mo_beat_0_j37 v x90) 0 0 k = v 0 0 k := by
  intro v x90
  unfold mf_Mo_beat_0_j37
  (try dsimp only)
  all_goals ((repeat' split) <;> (first | with_reducible rfl | (simp only [fw_up_ne (c := 9) (i := 0) (k := 0) (c' := 0) (i' := 0) (k' := k) (by omega), msend_0k (i := 0) (k := k) (by omega) (by omega) (by omega), mz55_Mo_beat_0_j5 hc]; done)))
theorem mz55_Mo_beat_0_j36 {k : Nat} (hc : k = 55) : ∀ (v : fw_V), (mf_Mo_beat_0_j36 v) 0 0 k = v 0 0 k := by
  intro v
  unfold mf_Mo_beat_0_j36
  (try dsimp only)
  all_goals ((repeat' split) <;> (first | with_reducible rfl | (simp only [msend_0k (i := 0) (k := k) (by omega) (by omega) (by omega), mz55_Mo_beat_0_j37 hc]; done)))
theorem mz55_Mo_beat_0_j1 {k : Nat} (hc : k = 55) : ∀ (v : fw_V), (mf_Mo_beat_0_j1 v) 0 0 k = v 0 0 k := by
  intro v
  unfold mf_Mo_beat_0_j1
  (try dsimp only)
  all_goals ((repeat' split) <;> (first | with_reducible rfl | (simp only [msend_0k (i := 0) (k := k) (by omega) (by omega) (by omega), mz55_Mo_beat_0_j2 hc, mz55_Mo_beat_0_j36 hc]; done)))
theorem mz55_Mo_beat_0 {k : Nat} (hc : k = 55) : ∀ (v0 : fw_V), (mf_Mo_beat_0 v0) 0 0 k = v0 0 0 k := by
  intro v0
  unfold mf_Mo_beat_0
  (try dsimp only)
  all_goals ((repeat' split) <;> (first | with_reducible rfl | (simp only [fw_up_ne (c := 18) (i := 0) (k := 0) (c' := 0) (i' := 0) (k' := k) (by omega), fw_up_ne (c := 0) (i := 0) (k := 56) (c' := 0) (i' := 0) (k' := k) (by omega), fw_up_ne (c := 19) (i := 0) (k := 0) (c' := 0) (i' := 0) (k' := k) (by omega), msend_0k (i := 0) (k := k) (by omega) (by omega) (by omega), mz55_Mo_breakOff_0 hc, mz55_Mo_beat_0_j1 hc, mz55_Mo_ask_0 hc]; done)))
theorem mz55_Mo_mark_0_j2 {k : Nat} (hc : k = 55) : ∀ (v0 : fw_V) (a2 : Int32), (mf_Mo_mark_0_j2 v0 a2) 0 0 k = v0 0 0 k := by
  intro v0 a2
  unfold mf_Mo_mark_0_j2
  (try dsimp only)
  all_goals ((repeat' split) <;> (first | with_reducible rfl | (simp only [fw_up_ne (c := 31) (i := 0) (k := 0) (c' := 0) (i' := 0) (k' := k) (by omega), msend_0k (i := 0) (k := k) (by omega) (by omega) (by omega)]; done)))
theorem mz55_Mo_mark_0_j1 {k : Nat} (hc : k = 55) : ∀ (v0 : fw_V) (a2 : Int32), (mf_Mo_mark_0_j1 v0 a2) 0 0 k = v0 0 0 k := by
  intro v0 a2
  unfold mf_Mo_mark_0_j1
  (try dsimp only)
  all_goals ((repeat' split) <;> (first | with_reducible rfl | (simp only [msend_0k (i := 0) (k := k) (by omega) (by omega) (by omega), mz55_Mo_mark_0_j2 hc]; done)))
theorem mz55_Mo_mark_0_j3 {k : Nat} (hc : k = 55) : ∀ (v0 : fw_V) (a2 : Int32), (mf_Mo_mark_0_j3 v0 a2) 0 0 k = v0 0 0 k := by
  intro v0 a2
  unfold mf_Mo_mark_0_j3
  (try dsimp only)
  all_goals ((repeat' split) <;> (first | with_reducible rfl | (simp only [fw_up_ne (c := 31) (i := 0) (k := 0) (c' := 0) (i' := 0) (k' := k) (by omega), msend_0k (i := 0) (k := k) (by omega) (by omega) (by omega)]; done)))
theorem mz55_Mo_mark_0 {k : Nat} (hc : k = 55) : ∀ (v0 : fw_V) (a2 : Int32), (mf_Mo_mark_0 v0 a2) 0 0 k = v0 0 0 k := by
  intro v0 a2
  unfold mf_Mo_mark_0
  (try dsimp only)
  all_goals ((repeat' split) <;> (first | with_reducible rfl | (simp only [msend_0k (i := 0) (k := k) (by omega) (by omega) (by omega), mz55_Mo_mark_0_j1 hc, mz55_Mo_mark_0_j3 hc]; done)))
theorem mz55_Mo_replace_0_j8 {k : Nat} (hc : k = 55) : ∀ (v : fw_V) (a2 : Int32) (x4 : Int32), (mf_Mo_replace_0_j8 v a2 x4) 0 0 k = v 0 0 k := by
  intro v a2 x4
  unfold mf_Mo_replace_0_j8
  (try dsimp only)
  all_goals ((repeat' split) <;> (first | with_reducible rfl | (simp only [msend_0k (i := 0) (k := k) (by omega) (by omega) (by omega)]; done)))
theorem mz55_Mo_replace_0_j7 {k : Nat} (hc : k = 55) : ∀ (v : fw_V) (a2 : Int32) (x4 : Int32), (mf_Mo_replace_0_j7 v a2 x4) 0 0 k = v 0 0 k := by
  intro v a2 x4
  unfold mf_Mo_replace_0_j7
  (try dsimp only)
  all_goals ((repeat' split) <;> (first | with_reducible rfl | (simp only [msend_0k (i := 0) (k := k) (by omega) (by omega) (by omega), mz55_Mo_replace_0_j8 hc]; done)))
theorem mz55_Mo_replace_0_j6 {k : Nat} (hc : k = 55) : ∀ (v : fw_V) (a2 : Int32) (x4 : Int32), (mf_Mo_replace_0_j6 v a2 x4) 0 0 k = v 0 0 k := by
  intro v a2 x4
  unfold mf_Mo_replace_0_j6
  (try dsimp only)
  all_goals ((repeat' split) <;> (first | with_reducible rfl | (simp only [fw_up_c (c := 46) (c' := 0) (by decide), msend_0k (i := 0) (k := k) (by omega) (by omega) (by omega), mz55_Mo_replace_0_j7 hc]; done)))
theorem mz55_Mo_replace_0_j5 {k : Nat} (hc : k = 55) : ∀ (v : fw_V) (a2 : Int32) (x4 : Int32), (mf_Mo_replace_0_j5 v a2 x4) 0 0 k = v 0 0 k := by
  intro v a2 x4
  unfold mf_Mo_replace_0_j5
  (try dsimp only)
  all_goals ((repeat' split) <;> (first | with_reducible rfl | (simp only [fw_up_c (c := 46) (c' := 0) (by decide), msend_0k (i := 0) (k := k) (by omega) (by omega) (by omega), mz55_Mo_replace_0_j6 hc, mz55_Mo_replace_0_j7 hc]; done)))
theorem mz55_Mo_replace_0_j4 {k : Nat} (hc : k = 55) : ∀ (v : fw_V) (a2 : Int32) (x4 : Int32), (mf_Mo_replace_0_j4 v a2 x4) 0 0 k = v 0 0 k := by
  intro v a2 x4
  unfold mf_Mo_replace_0_j4
  (try dsimp only)
  all_goals ((repeat' split) <;> (first | with_reducible rfl | (simp only [msend_0k (i := 0) (k := k) (by omega) (by omega) (by omega), mz55_Mo_replace_0_j5 hc]; done)))
theorem mz55_Mo_replace_0_j3 {k : Nat} (hc : k = 55) : ∀ (v0 : fw_V) (a2 : Int32), (mf_Mo_replace_0_j3 v0 a2) 0 0 k = v0 0 0 k := by
  intro v0 a2
  unfold mf_Mo_replace_0_j3
  (try dsimp only)
  all_goals ((repeat' split) <;> (first | with_reducible rfl | (simp only [fw_up_c (c := 46) (c' := 0) (by decide), msend_0k (i := 0) (k := k) (by omega) (by omega) (by omega), mz55_Mo_replace_0_j4 hc]; done)))
theorem mz55_Mo_replace_0_j11 {k : Nat} (hc : k = 55) : ∀ (v0 : fw_V) (a2 : Int32), (mf_Mo_replace_0_j11 v0 a2) 0 0 k = v0 0 0 k := by
  intro v0 a2
  unfold mf_Mo_replace_0_j11
  (try dsimp only)
  all_goals ((repeat' split) <;> (first | with_reducible rfl | (simp only [fw_up_c (c := 46) (c' := 0) (by decide), msend_0k (i := 0) (k := k) (by omega) (by omega) (by omega), mz55_Mo_replace_0_j7 hc]; done)))
theorem mz55_Mo_replace_0_j13 {k : Nat} (hc : k = 55) : ∀ (v0 : fw_V) (a2 : Int32), (mf_Mo_replace_0_j13 v0 a2) 0 0 k = v0 0 0 k := by
  intro v0 a2
  unfold mf_Mo_replace_0_j13
  (try dsimp only)
  all_goals ((repeat' split) <;> (first | with_reducible rfl | (simp only [msend_0k (i := 0) (k := k) (by omega) (by omega) (by omega)]; done)))
theorem mz55_Mo_replace_0_j12 {k : Nat} (hc : k = 55) : ∀ (v0 : fw_V) (a2 : Int32), (mf_Mo_replace_0_j12 v0 a2) 0 0 k = v0 0 0 k := by
  intro v0 a2
  unfold mf_Mo_replace_0_j12
  (try dsimp only)
  all_goals ((repeat' split) <;> (first | with_reducible rfl | (simp only [msend_0k (i := 0) (k := k) (by omega) (by omega) (by omega), mz55_Mo_replace_0_j13 hc]; done)))
theorem mz55_Mo_replace_0_j10 {k : Nat} (hc : k = 55) : ∀ (v0 : fw_V) (a2 : Int32), (mf_Mo_replace_0_j10 v0 a2) 0 0 k = v0 0 0 k := by
  intro v0 a2
  unfold mf_Mo_replace_0_j10
  (try dsimp only)
  all_goals ((repeat' split) <;> (first | with_reducible rfl | (simp only [fw_up_c (c := 46) (c' := 0) (by decide), msend_0k (i := 0) (k := k) (by omega) (by omega) (by omega), mz55_Mo_replace_0_j11 hc, mz55_Mo_replace_0_j7 hc, mz55_Mo_replace_0_j12 hc]; done)))
theorem mz55_Mo_replace_0_j9 {k : Nat} (hc : k = 55) : ∀ (v0 : fw_V) (a2 : Int32), (mf_Mo_replace_0_j9 v0 a2) 0 0 k = v0 0 0 k := by
  intro v0 a2
  unfold mf_Mo_replace_0_j9
  (try dsimp only)
  all_goals ((repeat' split) <;> (first | with_reducible rfl | (simp only [msend_0k (i := 0) (k := k) (by omega) (by omega) (by omega), mz55_Mo_replace_0_j10 hc]; done)))
theorem mz55_Mo_replace_0_j2 {k : Nat} (hc : k = 55) : ∀ (v0 : fw_V) (a2 : Int32), (mf_Mo_replace_0_j2 v0 a2) 0 0 k = v0 0 0 k := by
  intro v0 a2
  unfold mf_Mo_replace_0_j2
  (try dsimp only)
  all_goals ((repeat' split) <;> (first | with_reducible rfl | (simp only [fw_up_c (c := 46) (c' := 0) (by decide), msend_0k (i := 0) (k := k) (by omega) (by omega) (by omega), mz55_Mo_replace_0_j3 hc, mz55_Mo_replace_0_j4 hc, mz55_Mo_replace_0_j9 hc]; done)))
theorem mz55_Mo_replace_0_j1 {k : Nat} (hc : k = 55) : ∀ (v0 : fw_V) (a2 : Int32), (mf_Mo_replace_0_j1 v0 a2) 0 0 k = v0 0 0 k := by
  intro v0 a2
  unfold mf_Mo_replace_0_j1
  (try dsimp only)
  all_goals ((repeat' split) <;> (first | with_reducible rfl | (simp only [msend_0k (i := 0) (k := k) (by omega) (by omega) (by omega), mz55_Mo_replace_0_j2 hc]; done)))
theorem mz55_Mo_replace_0_j21 {k : Nat} (hc : k = 55) : ∀ (v : fw_V) (a2 : Int32), (mf_Mo_replace_0_j21 v a2) 0 0 k = v 0 0 k := by
  intro v a2
  unfold mf_Mo_replace_0_j21
  (try dsimp only)
  all_goals ((repeat' split) <;> (first | with_reducible rfl | (simp only [msend_0k (i := 0) (k := k) (by omega) (by omega) (by omega)]; done)))
theorem mz55_Mo_replace_0_j20 {k : Nat} (hc : k = 55) : ∀ (v : fw_V) (a2 : Int32), (mf_Mo_replace_0_j20 v a2) 0 0 k = v 0 0 k := by
  intro v a2
  unfold mf_Mo_replace_0_j20
  (try dsimp only)
  all_goals ((repeat' split) <;> (first | with_reducible rfl | (simp only [msend_0k (i := 0) (k := k) (by omega) (by omega) (by omega), mz55_Mo_replace_0_j21 hc]; done)))
theorem mz55_Mo_replace_0_j19 {k : Nat} (hc : k = 55) : ∀ (v : fw_V) (a2 : Int32), (mf_Mo_replace_0_j19 v a2) 0 0 k = v 0 0 k := by
  intro v a2
  unfold mf_Mo_replace_0_j19
  (try dsimp only)
  all_goals ((repeat' split) <;> (first | with_reducible rfl | (simp only [fw_up_c (c := 46) (c' := 0) (by decide), msend_0k (i := 0) (k := k) (by omega) (by omega) (by omega), mz55_Mo_replace_0_j20 hc]; done)))
theorem mz55_Mo_replace_0_j18 {k : Nat} (hc : k = 55) : ∀ (v : fw_V) (a2 : Int32), (mf_Mo_replace_0_j18 v a2) 0 0 k = v 0 0 k := by
  intro v a2
  unfold mf_Mo_replace_0_j18
  (try dsimp only)
  all_goals ((repeat' split) <;> (first | with_reducible rfl | (simp only [msend_0k (i := 0) (k := k) (by omega) (by omega) (by omega), mz55_Mo_replace_0_j19 hc]; done)))
theorem mz55_Mo_replace_0_j17 {k : Nat} (hc : k = 55) : ∀ (v : fw_V) (a2 : Int32), (mf_Mo_replace_0_j17 v a2) 0 0 k = v 0 0 k := by
  intro v a2
  unfold mf_Mo_replace_0_j17
  (try dsimp only)
  all_goals ((repeat' split) <;> (first | with_reducible rfl | (simp only [msend_0k (i := 0) (k := k) (by omega) (by omega) (by omega), mz55_Mo_replace_0_j18 hc]; done)))
theorem mz55_Mo_replace_0_j16 {k : Nat} (hc : k = 55) : ∀ (v0 : fw_V) (a2 : Int32), (mf_Mo_replace_0_j16 v0 a2) 0 0 k = v0 0 0 k := by
  intro v0 a2
  unfold mf_Mo_replace_0_j16
  (try dsimp only)
  all_goals ((repeat' split) <;> (first | with_reducible rfl | (simp only [fw_up_c (c := 46) (c' := 0) (by decide), msend_0k (i := 0) (k := k) (by omega) (by omega) (by omega), mz55_Mo_replace_0_j17 hc]; done)))
theorem mz55_Mo_replace_0_j15 {k : Nat} (hc : k = 55) : ∀ (v0 : fw_V) (a2 : Int32), (mf_Mo_replace_0_j15 v0 a2) 0 0 k = v0 0 0 k := by
  intro v0 a2
  unfold mf_Mo_replace_0_j15
  (try dsimp only)
  all_goals ((repeat' split) <;> (first | with_reducible rfl | (simp only [msend_0k (i := 0) (k := k) (by omega) (by omega) (by omega), mz55_Mo_replace_0_j16 hc]; done)))
theorem mz55_Mo_replace_0_j14 {k : Nat} (hc : k = 55) : ∀ (v0 : fw_V) (a2 : Int32), (mf_Mo_replace_0_j14 v0 a2) 0 0 k = v0 0 0 k := by
  intro v0 a2
  unfold mf_Mo_replace_0_j14
  (try dsimp only)
  all_goals ((repeat' split) <;> (first | with_reducible rfl | (simp only [msend_0k (i := 0) (k := k) (by omega) (by omega) (by omega), mz55_Mo_replace_0_j15 hc]; done)))
theorem mz55_Mo_replace_0 {k : Nat} (hc : k = 55) : ∀ (v0 : fw_V) (a2 : Int32), (mf_Mo_replace_0 v0 a2) 0 0 k = v0 0 0 k := by
  intro v0 a2
  unfold mf_Mo_replace_0
  (try dsimp only)
  all_goals ((repeat' split) <;> (first | with_reducible rfl | (simp only [msend_0k (i := 0) (k := k) (by omega) (by omega) (by omega), mz55_Mo_replace_0_j1 hc, mz55_Mo_replace_0_j14 hc]; done)))
theorem mz55_Mo_reply_0 {k : Nat} (hc : k = 55) : ∀ (v0 : fw_V) (a2 : Int32) (a3 : Int32), (mf_Mo_reply_0 v0 a2 a3) 0 0 k = v0 0 0 k := by
  intro v0 a2 a3
  unfold mf_Mo_reply_0
  (try dsimp only)
  all_goals ((repeat' split) <;> (first | with_reducible rfl | (simp only [msend_0k (i := 0) (k := k) (by omega) (by omega) (by omega)]; done)))
theorem mz55_Mo_connect_0_j1 {k : Nat} (hc : k = 55) : ∀ (v0 : fw_V) (a2 : Int32), (mf_Mo_connect_0_j1 v0 a2) 0 0 k = v0 0 0 k := by
  intro v0 a2
  unfold mf_Mo_connect_0_j1
  (try dsimp only)
  all_goals ((repeat' split) <;> (first | with_reducible rfl | (simp only [fw_up_ne (c := 28) (i := 0) (k := 0) (c' := 0) (i' := 0) (k' := k) (by omega), fw_up_ne (c := 29) (i := 0) (k := 0) (c' := 0) (i' := 0) (k' := k) (by omega), fw_up_ne (c := 32) (i := 0) (k := 0) (c' := 0) (i' := 0) (k' := k) (by omega), fw_up_ne (c := 43) (i := 0) (k := 0) (c' := 0) (i' := 0) (k' := k) (by omega), fw_up_ne (c := 44) (i := 0) (k := 0) (c' := 0) (i' := 0) (k' := k) (by omega), fw_up_ne (c := 43) (i := 0) (k := 1) (c' := 0) (i' := 0) (k' := k) (by omega), fw_up_ne (c := 44) (i := 0) (k := 1) (c' := 0) (i' := 0) (k' := k) (by omega), fw_up_ne (c := 43) (i := 0) (k := 2) (c' := 0) (i' := 0) (k' := k) (by omega), fw_up_ne (c := 44) (i := 0) (k := 2) (c' := 0) (i' := 0) (k' := k) (by omega), msend_0k (i := 0) (k := k) (by omega) (by omega) (by omega), mz55_Mo_mark_0 hc, mz55_Mo_reply_0 hc]; done)))
theorem mz55_Mo_connect_0 {k : Nat} (hc : k = 55) : ∀ (v0 : fw_V) (a2 : Int32), (mf_Mo_connect_0 v0 a2) 0 0 k = v0 0 0 k := by
  intro v0 a2
  unfold mf_Mo_connect_0
  (try dsimp only)
  all_goals ((repeat' split) <;> (first | with_reducible rfl | (simp only [msend_0k (i := 0) (k := k) (by omega) (by omega) (by omega), mz55_Mo_connect_0_j1 hc]; done)))
theorem mz55_Mo_obeys_0_j44 {k : Nat} (hc : k = 55) : ∀ (v0 : fw_V) (a2 : Int32) (a3 : Int32), (mf_Mo_obeys_0_j44 v0 a2 a3) 0 0 k = v0 0 0 k := by
  intro v0 a2 a3
  unfold mf_Mo_obeys_0_j44
  (try dsimp only)
  all_goals ((repeat' split) <;> (first | with_reducible rfl | (simp only [fw_up_ne (c := 28) (i := 0) (k := 0) (c' := 0) (i' := 0) (k' := k) (by omega), fw_up_ne (c := 32) (i := 0) (k := 0) (c' := 0) (i' := 0) (k' := k) (by omega), fw_up_ne (c := 33) (i := 0) (k := 0) (c' := 0) (i' := 0) (k' := k) (by omega), msend_0k (i := 0) (k := k) (by omega) (by omega) (by omega), mz55_Mo_reply_0 hc]; done)))
theorem mz55_Mo_obeys_0_j43 {k : Nat} (hc : k = 55) : ∀ (v0 : fw_V) (a2 : Int32) (a3 : Int32), (mf_Mo_obeys_0_j43 v0 a2 a3) 0 0 k = v0 0 0 k := by
  intro v0 a2 a3
  unfold mf_Mo_obeys_0_j43
  (try dsimp only)
  all_goals ((repeat' split) <;> (first | with_reducible rfl | (simp only [msend_0k (i := 0) (k := k) (by omega) (by omega) (by omega), mz55_Mo_obeys_0_j44 hc]; done)))
theorem mz55_Mo_obeys_0_j42 {k : Nat} (hc : k = 55) : ∀ (v0 : fw_V) (a2 : Int32) (a3 : Int32), (mf_Mo_obeys_0_j42 v0 a2 a3) 0 0 k = v0 0 0 k := by
  intro v0 a2 a3
  unfold mf_Mo_obeys_0_j42
  (try dsimp only)
  all_goals ((repeat' split) <;> (first | with_reducible rfl | (simp only [msend_0k (i := 0) (k := k) (by omega) (by omega) (by omega), mz55_Mo_obeys_0_j43 hc]; done)))
theorem mz55_Mo_rest_0_j7 {k : Nat} (hc : k = 55) : ∀ (v : fw_V), (mf_Mo_rest_0_j7 v) 0 0 k = v 0 0 k := by
  intro v
  unfold mf_Mo_rest_0_j7
  (try dsimp only)
  all_goals ((repeat' split) <;> (first | with_reducible rfl | (simp only [msend_0k (i := 0) (k := k) (by omega) (by omega) (by omega)]; done)))
theorem mz55_Mo_rest_0_j6 {k : Nat} (hc : k = 55) : ∀ (v : fw_V), (mf_Mo_rest_0_j6 v) 0 0 k = v 0 0 k := by
  intro v
  unfold mf_Mo_rest_0_j6
  (try dsimp only)
  all_goals ((repeat' split) <;> (first | with_reducible rfl | (simp only [msend_0k (i := 0) (k := k) (by omega) (by omega) (by omega), mz55_Mo_replace_0 hc, mz55_Mo_rest_0_j7 hc]; done)))
theorem mz55_Mo_rest_0_j5 {k : Nat} (hc : k = 55) : ∀ (v : fw_V), (mf_Mo_rest_0_j5 v) 0 0 k = v 0 0 k := by
  intro v
  unfold mf_Mo_rest_0_j5
  (try dsimp only)
  all_goals ((repeat' split) <;> (first | with_reducible rfl | (simp only [msend_0k (i := 0) (k := k) (by omega) (by omega) (by omega), mz55_Mo_replace_0 hc, mz55_Mo_rest_0_j6 hc]; done)))
theorem mz55_Mo_rest_0_j4 {k : Nat} (hc : k = 55) : ∀ (v : fw_V), (mf_Mo_rest_0_j4 v) 0 0 k = v 0 0 k := by
  intro v
  unfold mf_Mo_rest_0_j4
  (try dsimp only)
  all_goals ((repeat' split) <;> (first | with_reducible rfl | (simp only [msend_0k (i := 0) (k := k) (by omega) (by omega) (by omega), mz55_Mo_replace_0 hc, mz55_Mo_rest_0_j5 hc]; done)))
theorem mz55_Mo_rest_0_j3 {k : Nat} (hc : k = 55) : ∀ (v0 : fw_V), (mf_Mo_rest_0_j3 v0) 0 0 k = v0 0 0 k := by
  intro v0
  unfold mf_Mo_rest_0_j3
  (try dsimp only)
  all_goals ((repeat' split) <;> (first | with_reducible rfl | (simp only [fw_up_ne (c := 28) (i := 0) (k := 0) (c' := 0) (i' := 0) (k' := k) (by omega), fw_up_ne (c := 29) (i := 0) (k := 0) (c' := 0) (i' := 0) (k' := k) (by omega), fw_up_ne (c := 31) (i := 0) (k := 0) (c' := 0) (i' := 0) (k' := k) (by omega), fw_up_ne (c := 32) (i := 0) (k := 0) (c' := 0) (i' := 0) (k' := k) (by omega), fw_up_ne (c := 37) (i := 0) (k := 0) (c' := 0) (i' := 0) (k' := k) (by omega), fw_up_ne (c := 36) (i := 0) (k := 0) (c' := 0) (i' := 0) (k' := k) (by omega), fw_up_ne (c := 43) (i := 0) (k := 0) (c' := 0) (i' := 0) (k' := k) (by omega), fw_up_ne (c := 44) (i := 0) (k := 0) (c' := 0) (i' := 0) (k' := k) (by omega), fw_up_ne (c := 43) (i := 0) (k := 1) (c' := 0) (i' := 0) (k' := k) (by omega), fw_up_ne (c := 44) (i := 0) (k := 1) (c' := 0) (i' := 0) (k' := k) (by omega), fw_up_ne (c := 43) (i := 0) (k := 2) (c' := 0) (i' := 0) (k' := k) (by omega), fw_up_ne (c := 44) (i := 0) (k := 2) (c' := 0) (i' := 0) (k' := k) (by omega), msend_0k (i := 0) (k := k) (by omega) (by omega) (by omega), mz55_Mo_rest_0_j4 hc]; done)))
theorem mz55_Mo_rest_0_j2 {k : Nat} (hc : k = 55) : ∀ (v : fw_V), (mf_Mo_rest_0_j2 v) 0 0 k = v 0 0 k := by
  intro v
  unfold mf_Mo_rest_0_j2
  (try dsimp only)
  all_goals ((repeat' split) <;> (first | with_reducible rfl | (simp only [msend_0k (i := 0) (k := k) (by omega) (by omega) (by omega)]; done)))
theorem mz55_Mo_rest_0_j1 {k : Nat} (hc : k = 55) : ∀ (v0 : fw_V), (mf_Mo_rest_0_j1 v0) 0 0 k = v0 0 0 k := by
  intro v0
  unfold mf_Mo_rest_0_j1
  (try dsimp only)
  all_goals ((repeat' split) <;> (first | with_reducible rfl | (simp only [fw_up_ne (c := 28) (i := 0) (k := 0) (c' := 0) (i' := 0) (k' := k) (by omega), fw_up_ne (c := 29) (i := 0) (k := 0) (c' := 0) (i' := 0) (k' := k) (by omega), fw_up_ne (c := 31) (i := 0) (k := 0) (c' := 0) (i' := 0) (k' := k) (by omega), fw_up_ne (c := 32) (i := 0) (k := 0) (c' := 0) (i' := 0) (k' := k) (by omega), fw_up_ne (c := 37) (i := 0) (k := 0) (c' := 0) (i' := 0) (k' := k) (by omega), fw_up_ne (c := 36) (i := 0) (k := 0) (c' := 0) (i' := 0) (k' := k) (by omega), fw_up_ne (c := 43) (i := 0) (k := 0) (c' := 0) (i' := 0) (k' := k) (by omega), fw_up_ne (c := 44) (i := 0) (k := 0) (c' := 0) (i' := 0) (k' := k) (by omega), fw_up_ne (c := 43) (i := 0) (k := 1) (c' := 0) (i' := 0) (k' := k) (by omega), fw_up_ne (c := 44) (i := 0) (k := 1) (c' := 0) (i' := 0) (k' := k) (by omega), fw_up_ne (c := 43) (i := 0) (k := 2) (c' := 0) (i' := 0) (k' := k) (by omega), fw_up_ne (c := 44) (i := 0) (k := 2) (c' := 0) (i' := 0) (k' := k) (by omega), msend_0k (i := 0) (k := k) (by omega) (by omega) (by omega), mz55_Mo_rest_0_j2 hc]; done)))
theorem mz55_Mo_rest_0 {k : Nat} (hc : k = 55) : ∀ (v0 : fw_V), (mf_Mo_rest_0 v0) 0 0 k = v0 0 0 k := by
  intro v0
  unfold mf_Mo_rest_0
  (try dsimp only)
  all_goals ((repeat' split) <;> (first | with_reducible rfl | (simp only [msend_0k (i := 0) (k := k) (by omega) (by omega) (by omega), mz55_Mo_rest_0_j3 hc, mz55_Mo_rest_0_j1 hc]; done)))
theorem mz55_Mo_quit_0 {k : Nat} (hc : k = 55) : ∀ (v0 : fw_V), (mf_Mo_quit_0 v0) 0 0 k = v0 0 0 k := by
  intro v0
  unfold mf_Mo_quit_0
  (try dsimp only)
  all_goals ((repeat' split) <;> (first | with_reducible rfl | (simp only [msend_0k (i := 0) (k := k) (by omega) (by omega) (by omega), mz55_Mo_reply_0 hc, mz55_Mo_rest_0 hc]; done)))
theorem mz55_Mo_obeys_0_j46 {k : Nat} (hc : k = 55) : ∀ (v0 : fw_V) (a2 : Int32) (a3 : Int32), (mf_Mo_obeys_0_j46 v0 a2 a3) 0 0 k = v0 0 0 k := by
  intro v0 a2 a3
  unfold mf_Mo_obeys_0_j46
  (try dsimp only)
  all_goals ((repeat' split) <;> (first | with_reducible rfl | (simp only [msend_0k (i := 0) (k := k) (by omega) (by omega) (by omega), mz55_Mo_quit_0 hc]; done)))
theorem mz55_Mo_obeys_0_j45 {k : Nat} (hc : k = 55) : ∀ (v0 : fw_V) (a2 : Int32) (a3 : Int32), (mf_Mo_obeys_0_j45 v0 a2 a3) 0 0 k = v0 0 0 k := by
  intro v0 a2 a3
  unfold mf_Mo_obeys_0_j45
  (try dsimp only)
  all_goals ((repeat' split) <;> (first | with_reducible rfl | (simp only [msend_0k (i := 0) (k := k) (by omega) (by omega) (by omega), mz55_Mo_obeys_0_j46 hc]; done)))
theorem mz55_Mo_obeys_0_j41 {k : Nat} (hc : k = 55) : ∀ (v0 : fw_V) (a2 : Int32) (a3 : Int32), (mf_Mo_obeys_0_j41 v0 a2 a3) 0 0 k = v0 0 0 k := by
  intro v0 a2 a3
  unfold mf_Mo_obeys_0_j41
  (try dsimp only)
  all_goals ((repeat' split) <;> (first | with_reducible rfl | (simp only [msend_0k (i := 0) (k := k) (by omega) (by omega) (by omega), mz55_Mo_obeys_0_j42 hc, mz55_Mo_obeys_0_j45 hc]; done)))
theorem mz55_Mo_obeys_0_j40 {k : Nat} (hc : k = 55) : ∀ (v0 : fw_V) (a2 : Int32) (a3 : Int32), (mf_Mo_obeys_0_j40 v0 a2 a3) 0 0 k = v0 0 0 k := by
  intro v0 a2 a3
  unfold mf_Mo_obeys_0_j40
  (try dsimp only)
  all_goals ((repeat' split) <;> (first | with_reducible rfl | (simp only [msend_0k (i := 0) (k := k) (by omega) (by omega) (by omega), mz55_Mo_obeys_0_j41 hc]; done)))
theorem mz55_Mo_obeys_0_j39 {k : Nat} (hc : k = 55) : ∀ (v0 : fw_V) (a2 : Int32) (a3 : Int32), (mf_Mo_obeys_0_j39 v0 a2 a3) 0 0 k = v0 0 0 k := by
  intro v0 a2 a3
  unfold mf_Mo_obeys_0_j39
  (try dsimp only)
  all_goals ((repeat' split) <;> (first | with_reducible rfl | (simp only [msend_0k (i := 0) (k := k) (by omega) (by omega) (by omega), mz55_Mo_obeys_0_j40 hc]; done)))
theorem mz55_Mo_obeys_0_j50 {k : Nat} (hc : k = 55) : ∀ (v0 : fw_V) (a2 : Int32) (a3 : Int32), (mf_Mo_obeys_0_j50 v0 a2 a3) 0 0 k = v0 0 0 k := by
  intro v0 a2 a3
  unfold mf_Mo_obeys_0_j50
  (try dsimp only)
  all_goals ((repeat' split) <;> (first | with_reducible rfl | (simp only [msend_0k (i := 0) (k := k) (by omega) (by omega) (by omega), mz55_Mo_obeys_0_j46 hc]; done)))
theorem mz55_Mo_obeys_0_j49 {k : Nat} (hc : k = 55) : ∀ (v0 : fw_V) (a2 : Int32) (a3 : Int32), (mf_Mo_obeys_0_j49 v0 a2 a3) 0 0 k = v0 0 0 k := by
  intro v0 a2 a3
  unfold mf_Mo_obeys_0_j49
  (try dsimp only)
  all_goals ((repeat' split) <;> (first | with_reducible rfl | (simp only [msend_0k (i := 0) (k := k) (by omega) (by omega) (by omega), mz55_Mo_obeys_0_j50 hc]; done)))
theorem mz55_Mo_obeys_0_j51 {k : Nat} (hc : k = 55) : ∀ (v0 : fw_V) (a2 : Int32) (a3 : Int32), (mf_Mo_obeys_0_j51 v0 a2 a3) 0 0 k = v0 0 0 k := by
  intro v0 a2 a3
  unfold mf_Mo_obeys_0_j51
  (try dsimp only)
  all_goals ((repeat' split) <;> (first | with_reducible rfl | (simp only [msend_0k (i := 0) (k := k) (by omega) (by omega) (by omega), mz55_Mo_obeys_0_j46 hc]; done)))
theorem mz55_Mo_obeys_0_j48 {k : Nat} (hc : k = 55) : ∀ (v0 : fw_V) (a2 : Int32) (a3 : Int32), (mf_Mo_obeys_0_j48 v0 a2 a3) 0 0 k = v0 0 0 k := by
  intro v0 a2 a3
  unfold mf_Mo_obeys_0_j48
  (try dsimp only)
  all_goals ((repeat' split) <;> (first | with_reducible rfl | (simp only [msend_0k (i := 0) (k := k) (by omega) (by omega) (by omega), mz55_Mo_obeys_0_j49 hc, mz55_Mo_obeys_0_j51 hc]; done)))
theorem mz55_Mo_obeys_0_j47 {k : Nat} (hc : k = 55) : ∀ (v0 : fw_V) (a2 : Int32) (a3 : Int32), (mf_Mo_obeys_0_j47 v0 a2 a3) 0 0 k = v0 0 0 k := by
  intro v0 a2 a3
  unfold mf_Mo_obeys_0_j47
  (try dsimp only)
  all_goals ((repeat' split) <;> (first | with_reducible rfl | (simp only [msend_0k (i := 0) (k := k) (by omega) (by omega) (by omega), mz55_Mo_obeys_0_j48 hc]; done)))
theorem mz55_Mo_obeys_0_j38 {k : Nat} (hc : k = 55) : ∀ (v0 : fw_V) (a2 : Int32) (a3 : Int32), (mf_Mo_obeys_0_j38 v0 a2 a3) 0 0 k = v0 0 0 k := by
  intro v0 a2 a3
  unfold mf_Mo_obeys_0_j38
  (try dsimp only)
  all_goals ((repeat' split) <;> (first | with_reducible rfl | (simp only [msend_0k (i := 0) (k := k) (by omega) (by omega) (by omega), mz55_Mo_obeys_0_j39 hc, mz55_Mo_obeys_0_j47 hc]; done)))
theorem mz55_Mo_obeys_0_j37 {k : Nat} (hc : k = 55) : ∀ (v0 : fw_V) (a2 : Int32) (a3 : Int32), (mf_Mo_obeys_0_j37 v0 a2 a3) 0 0 k = v0 0 0 k := by
  intro v0 a2 a3
  unfold mf_Mo_obeys_0_j37
  (try dsimp only)
  all_goals ((repeat' split) <;> (first | with_reducible rfl | (simp only [msend_0k (i := 0) (k := k) (by omega) (by omega) (by omega), mz55_Mo_obeys_0_j38 hc]; done)))
theorem mz55_Mo_obeys_0_j36 {k : Nat} (hc : k = 55) : ∀ (v0 : fw_V) (a2 : Int32) (a3 : Int32), (mf_Mo_obeys_0_j36 v0 a2 a3) 0 0 k = v0 0 0 k := by
  intro v0 a2 a3
  unfold mf_Mo_obeys_0_j36
  (try dsimp only)
  all_goals ((repeat' split) <;> (first | with_reducible rfl | (simp only [msend_0k (i := 0) (k := k) (by omega) (by omega) (by omega), mz55_Mo_obeys_0_j37 hc]; done)))
theorem mz55_Mo_obeys_0_j55 {k : Nat} (hc : k = 55) : ∀ (v0 : fw_V) (a2 : Int32) (a3 : Int32), (mf_Mo_obeys_0_j55 v0 a2 a3) 0 0 k = v0 0 0 k := by
  intro v0 a2 a3
  unfold mf_Mo_obeys_0_j55
  (try dsimp only)
  all_goals ((repeat' split) <;> (first | with_reducible rfl | (simp only [msend_0k (i := 0) (k := k) (by omega) (by omega) (by omega), mz55_Mo_obeys_0_j48 hc]; done)))
theorem mz55_Mo_obeys_0_j54 {k : Nat} (hc : k = 55) : ∀ (v0 : fw_V) (a2 : Int32) (a3 : Int32), (mf_Mo_obeys_0_j54 v0 a2 a3) 0 0 k = v0 0 0 k := by
  intro v0 a2 a3
  unfold mf_Mo_obeys_0_j54
  (try dsimp only)
  all_goals ((repeat' split) <;> (first | with_reducible rfl | (simp only [msend_0k (i := 0) (k := k) (by omega) (by omega) (by omega), mz55_Mo_obeys_0_j55 hc]; done)))
theorem mz55_Mo_obeys_0_j56 {k : Nat} (hc : k = 55) : ∀ (v0 : fw_V) (a2 : Int32) (a3 : Int32), (mf_Mo_obeys_0_j56 v0 a2 a3) 0 0 k = v0 0 0 k := by
  intro v0 a2 a3
  unfold mf_Mo_obeys_0_j56
  (try dsimp only)
  all_goals ((repeat' split) <;> (first | with_reducible rfl | (simp only [msend_0k (i := 0) (k := k) (by omega) (by omega) (by omega), mz55_Mo_obeys_0_j48 hc]; done)))
theorem mz55_Mo_obeys_0_j53 {k : Nat} (hc : k = 55) : ∀ (v0 : fw_V) (a2 : Int32) (a3 : Int32), (mf_Mo_obeys_0_j53 v0 a2 a3) 0 0 k = v0 0 0 k := by
  intro v0 a2 a3
  unfold mf_Mo_obeys_0_j53
  (try dsimp only)
  all_goals ((repeat' split) <;> (first | with_reducible rfl | (simp only [msend_0k (i := 0) (k := k) (by omega) (by omega) (by omega), mz55_Mo_obeys_0_j54 hc, mz55_Mo_obeys_0_j56 hc]; done)))
theorem mz55_Mo_obeys_0_j52 {k : Nat} (hc : k = 55) : ∀ (v0 : fw_V) (a2 : Int32) (a3 : Int32), (mf_Mo_obeys_0_j52 v0 a2 a3) 0 0 k = v0 0 0 k := by
  intro v0 a2 a3
  unfold mf_Mo_obeys_0_j52
  (try dsimp only)
  all_goals ((repeat' split) <;> (first | with_reducible rfl | (simp only [msend_0k (i := 0) (k := k) (by omega) (by omega) (by omega), mz55_Mo_obeys_0_j53 hc]; done)))
theorem mz55_Mo_obeys_0_j35 {k : Nat} (hc : k = 55) : ∀ (v0 : fw_V) (a2 : Int32) (a3 : Int32), (mf_Mo_obeys_0_j35 v0 a2 a3) 0 0 k = v0 0 0 k := by
  intro v0 a2 a3
  unfold mf_Mo_obeys_0_j35
  (try dsimp only)
  all_goals ((repeat' split) <;> (first | with_reducible rfl | (simp only [msend_0k (i := 0) (k := k) (by omega) (by omega) (by omega), mz55_Mo_obeys_0_j36 hc, mz55_Mo_obeys_0_j52 hc]; done)))
theorem mz55_Mo_obeys_0_j9 {k : Nat} (hc : k = 55) : ∀ (v : fw_V) (a2 : Int32) (a3 : Int32), (mf_Mo_obeys_0_j9 v a2 a3) 0 0 k = v 0 0 k := by
  intro v a2 a3
  unfold mf_Mo_obeys_0_j9
  (try dsimp only)
  all_goals ((repeat' split) <;> (first | with_reducible rfl | (simp only [msend_0k (i := 0) (k := k) (by omega) (by omega) (by omega)]; done)))
theorem mz55_Mo_obeys_0_j8 {k : Nat} (hc : k = 55) : ∀ (v : fw_V) (a2 : Int32) (a3 : Int32), (mf_Mo_obeys_0_j8 v a2 a3) 0 0 k = v 0 0 k := by
  intro v a2 a3
  unfold mf_Mo_obeys_0_j8
  (try dsimp only)
  all_goals ((repeat' split) <;> (first | with_reducible rfl | (simp only [fw_up_ne (c := 47) (i := 0) (k := 2) (c' := 0) (i' := 0) (k' := k) (by omega), fw_up_ne (c := 48) (i := 0) (k := 2) (c' := 0) (i' := 0) (k' := k) (by omega), msend_0k (i := 0) (k := k) (by omega) (by omega) (by omega), mz55_Mo_obeys_0_j9 hc]; done)))
theorem mz55_Mo_obeys_0_j7 {k : Nat} (hc : k = 55) : ∀ (v : fw_V) (a2 : Int32) (a3 : Int32), (mf_Mo_obeys_0_j7 v a2 a3) 0 0 k = v 0 0 k := by
  intro v a2 a3
  unfold mf_Mo_obeys_0_j7
  (try dsimp only)
  all_goals ((repeat' split) <;> (first | with_reducible rfl | (simp only [fw_up_ne (c := 47) (i := 0) (k := 1) (c' := 0) (i' := 0) (k' := k) (by omega), fw_up_ne (c := 48) (i := 0) (k := 1) (c' := 0) (i' := 0) (k' := k) (by omega), msend_0k (i := 0) (k := k) (by omega) (by omega) (by omega), mz55_Mo_obeys_0_j8 hc]; done)))
theorem mz55_Mo_obeys_0_j6 {k : Nat} (hc : k = 55) : ∀ (v : fw_V) (a2 : Int32) (a3 : Int32), (mf_Mo_obeys_0_j6 v a2 a3) 0 0 k = v 0 0 k := by
  intro v a2 a3
  unfold mf_Mo_obeys_0_j6
  (try dsimp only)
  all_goals ((repeat' split) <;> (first | with_reducible rfl | (simp only [fw_up_ne (c := 47) (i := 0) (k := 0) (c' := 0) (i' := 0) (k' := k) (by omega), fw_up_ne (c := 48) (i := 0) (k := 0) (c' := 0) (i' := 0) (k' := k) (by omega), msend_0k (i := 0) (k := k) (by omega) (by omega) (by omega), mz55_Mo_obeys_0_j7 hc]; done)))
theorem mz55_Mo_obeys_0_j61 {k : Nat} (hc : k = 55) : ∀ (v0 : fw_V) (a2 : Int32) (a3 : Int32), (mf_Mo_obeys_0_j61 v0 a2 a3) 0 0 k = v0 0 0 k := by
  intro v0 a2 a3
  unfold mf_Mo_obeys_0_j61
  (try dsimp only)
  all_goals ((repeat' split) <;> (first | with_reducible rfl | (simp only [fw_up_ne (c := 36) (i := 0) (k := 0) (c' := 0) (i' := 0) (k' := k) (by omega), fw_up_ne (c := 37) (i := 0) (k := 0) (c' := 0) (i' := 0) (k' := k) (by omega), msend_0k (i := 0) (k := k) (by omega) (by omega) (by omega), mz55_Mo_rest_0 hc, mz55_Mo_obeys_0_j6 hc]; done)))
theorem mz55_Mo_obeys_0_j22 {k : Nat} (hc : k = 55) : ∀ (v : fw_V) (a2 : Int32) (a3 : Int32), (mf_Mo_obeys_0_j22 v a2 a3) 0 0 k = v 0 0 k := by
  intro v a2 a3
  unfold mf_Mo_obeys_0_j22
  (try dsimp only)
  all_goals ((repeat' split) <;> (first | with_reducible rfl | (simp only [msend_0k (i := 0) (k := k) (by omega) (by omega) (by omega)]; done)))
theorem mz55_Mo_obeys_0_j21 {k : Nat} (hc : k = 55) : ∀ (v : fw_V) (a2 : Int32) (a3 : Int32), (mf_Mo_obeys_0_j21 v a2 a3) 0 0 k = v 0 0 k := by
  intro v a2 a3
  unfold mf_Mo_obeys_0_j21
  (try dsimp only)
  all_goals ((repeat' split) <;> (first | with_reducible rfl | (simp only [msend_0k (i := 0) (k := k) (by omega) (by omega) (by omega), mz55_Mo_obeys_0_j22 hc]; done)))
theorem mz55_Mo_obeys_0_j23 {k : Nat} (hc : k = 55) : ∀ (v : fw_V) (a2 : Int32) (a3 : Int32), (mf_Mo_obeys_0_j23 v a2 a3) 0 0 k = v 0 0 k := by
  intro v a2 a3
  unfold mf_Mo_obeys_0_j23
  (try dsimp only)
  all_goals ((repeat' split) <;> (first | with_reducible rfl | (simp only [fw_up_ne (c := 46) (i := 0) (k := 5) (c' := 0) (i' := 0) (k' := k) (by omega), msend_0k (i := 0) (k := k) (by omega) (by omega) (by omega), mz55_Mo_obeys_0_j21 hc]; done)))
theorem mz55_Mo_obeys_0_j24 {k : Nat} (hc : k = 55) : ∀ (v : fw_V) (a2 : Int32) (a3 : Int32) (x90 : Int32), (mf_Mo_obeys_0_j24 v a2 a3 x90) 0 0 k = v 0 0 k := by
  intro v a2 a3 x90
  unfold mf_Mo_obeys_0_j24
  (try dsimp only)
  all_goals ((repeat' split) <;> (first | with_reducible rfl | (simp only [fw_up_ne (c := 46) (i := 0) (k := 5) (c' := 0) (i' := 0) (k' := k) (by omega), msend_0k (i := 0) (k := k) (by omega) (by omega) (by omega), mz55_Mo_obeys_0_j21 hc]; done)))
theorem mz55_Mo_obeys_0_j20 {k : Nat} (hc : k = 55) : ∀ (v : fw_V) (a2 : Int32) (a3 : Int32), (mf_Mo_obeys_0_j20 v a2 a3) 0 0 k = v 0 0 k := by
  intro v a2 a3
  unfold mf_Mo_obeys_0_j20
  (try dsimp only)
  all_goals ((repeat' split) <;> (first | with_reducible rfl | (simp only [msend_0k (i := 0) (k := k) (by omega) (by omega) (by omega), mz55_Mo_obeys_0_j21 hc, mz55_Mo_obeys_0_j23 hc, mz55_Mo_obeys_0_j24 hc]; done)))
theorem mz55_Mo_obeys_0_j19 {k : Nat} (hc : k = 55) : ∀ (v : fw_V) (a2 : Int32) (a3 : Int32), (mf_Mo_obeys_0_j19 v a2 a3) 0 0 k = v 0 0 k := by
  intro v a2 a3
  unfold mf_Mo_obeys_0_j19
  (try dsimp only)
  all_goals ((repeat' split) <;> (first | with_reducible rfl | (simp only [msend_0k (i := 0) (k := k) (by omega) (by omega) (by omega), mz55_Mo_obeys_0_j20 hc]; done)))
theorem mz55_Mo_obeys_0_j25 {k : Nat} (hc : k = 55) : ∀ (v : fw_V) (a2 : Int32) (a3 : Int32), (mf_Mo_obeys_0_j25 v a2 a3) 0 0 k = v 0 0 k := by
  intro v a2 a3
  unfold mf_Mo_obeys_0_j25
  (try dsimp only)
  all_goals ((repeat' split) <;> (first | with_reducible rfl | (simp only [fw_up_ne (c := 46) (i := 0) (k := 4) (c' := 0) (i' := 0) (k' := k) (by omega), msend_0k (i := 0) (k := k) (by omega) (by omega) (by omega), mz55_Mo_obeys_0_j19 hc]; done)))
theorem mz55_Mo_obeys_0_j26 {k : Nat} (hc : k = 55) : ∀ (v : fw_V) (a2 : Int32) (a3 : Int32) (x90 : Int32), (mf_Mo_obeys_0_j26 v a2 a3 x90) 0 0 k = v 0 0 k := by
  intro v a2 a3 x90
  unfold mf_Mo_obeys_0_j26
  (try dsimp only)
  all_goals ((repeat' split) <;> (first | with_reducible rfl | (simp only [fw_up_ne (c := 46) (i := 0) (k := 4) (c' := 0) (i' := 0) (k' := k) (by omega), msend_0k (i := 0) (k := k) (by omega) (by omega) (by omega), mz55_Mo_obeys_0_j19 hc]; done)))
theorem mz55_Mo_obeys_0_j18 {k : Nat} (hc : k = 55) : ∀ (v : fw_V) (a2 : Int32) (a3 : Int32), (mf_Mo_obeys_0_j18 v a2 a3) 0 0 k = v 0 0 k := by
  intro v a2 a3
  unfold mf_Mo_obeys_0_j18
  (try dsimp only)
  all_goals ((repeat' split) <;> (first | with_reducible rfl | (simp only [msend_0k (i := 0) (k := k) (by omega) (by omega) (by omega), mz55_Mo_obeys_0_j19 hc, mz55_Mo_obeys_0_j25 hc, mz55_Mo_obeys_0_j26 hc]; done)))
theorem mz55_Mo_obeys_0_j17 {k : Nat} (hc : k = 55) : ∀ (v : fw_V) (a2 : Int32) (a3 : Int32), (mf_Mo_obeys_0_j17 v a2 a3) 0 0 k = v 0 0 k := by
  intro v a2 a3
  unfold mf_Mo_obeys_0_j17
  (try dsimp only)
  all_goals ((repeat' split) <;> (first | with_reducible rfl | (simp only [msend_0k (i := 0) (k := k) (by omega) (by omega) (by omega), mz55_Mo_obeys_0_j18 hc]; done)))
theorem mz55_Mo_obeys_0_j27 {k : Nat} (hc : k = 55) : ∀ (v : fw_V) (a2 : Int32) (a3 : Int32), (mf_Mo_obeys_0_j27 v a2 a3) 0 0 k = v 0 0 k := by
  intro v a2 a3
  unfold mf_Mo_obeys_0_j27
  (try dsimp only)
  all_goals ((repeat' split) <;> (first | with_reducible rfl | (simp only [fw_up_ne (c := 46) (i := 0) (k := 3) (c' := 0) (i' := 0) (k' := k) (by omega), msend_0k (i := 0) (k := k) (by omega) (by omega) (by omega), mz55_Mo_obeys_0_j17 hc]; done)))
theorem mz55_Mo_obeys_0_j28 {k : Nat} (hc : k = 55) : ∀ (v : fw_V) (a2 : Int32) (a3 : Int32) (x90 : Int32), (mf_Mo_obeys_0_j28 v a2 a3 x90) 0 0 k = v 0 0 k := by
  intro v a2 a3 x90
  unfold mf_Mo_obeys_0_j28
  (try dsimp only)
  all_goals ((repeat' split) <;> (first | with_reducible rfl | (simp only [fw_up_ne (c := 46) (i := 0) (k := 3) (c' := 0) (i' := 0) (k' := k) (by omega), msend_0k (i := 0) (k := k) (by omega) (by omega) (by omega), mz55_Mo_obeys_0_j17 hc]; done)))
theorem mz55_Mo_obeys_0_j16 {k : Nat} (hc : k = 55) : ∀ (v : fw_V) (a2 : Int32) (a3 : Int32), (mf_Mo_obeys_0_j16 v a2 a3) 0 0 k = v 0 0 k := by
  intro v a2 a3
  unfold mf_Mo_obeys_0_j16
  (try dsimp only)
  all_goals ((repeat' split) <;> (first | with_reducible rfl | (simp only [msend_0k (i := 0) (k := k) (by omega) (by omega) (by omega), mz55_Mo_obeys_0_j17 hc, mz55_Mo_obeys_0_j27 hc, mz55_Mo_obeys_0_j28 hc]; done)))
theorem mz55_Mo_obeys_0_j15 {k : Nat} (hc : k = 55) : ∀ (v : fw_V) (a2 : Int32) (a3 : Int32), (mf_Mo_obeys_0_j15 v a2 a3) 0 0 k = v 0 0 k := by
  intro v a2 a3
  unfold mf_Mo_obeys_0_j15
  (try dsimp only)
  all_goals ((repeat' split) <;> (first | with_reducible rfl | (simp only [msend_0k (i := 0) (k := k) (by omega) (by omega) (by omega), mz55_Mo_obeys_0_j16 hc]; done)))
theorem mz55_Mo_obeys_0_j29 {k : Nat} (hc : k = 55) : ∀ (v : fw_V) (a2 : Int32) (a3 : Int32), (mf_Mo_obeys_0_j29 v a2 a3) 0 0 k = v 0 0 k := by
  intro v a2 a3
  unfold mf_Mo_obeys_0_j29
  (try dsimp only)
  all_goals ((repeat' split) <;> (first | with_reducible rfl | (simp only [fw_up_ne (c := 46) (i := 0) (k := 2) (c' := 0) (i' := 0) (k' := k) (by omega), msend_0k (i := 0) (k := k) (by omega) (by omega) (by omega), mz55_Mo_obeys_0_j15 hc]; done)))
theorem mz55_Mo_obeys_0_j30 {k : Nat} (hc : k = 55) : ∀ (v : fw_V) (a2 : Int32) (a3 : Int32) (x90 : Int32), (mf_Mo_obeys_0_j30 v a2 a3 x90) 0 0 k = v 0 0 k := by
  intro v a2 a3 x90
  unfold mf_Mo_obeys_0_j30
  (try dsimp only)
  all_goals ((repeat' split) <;> (first | with_reducible rfl | (simp only [fw_up_ne (c := 46) (i := 0) (k := 2) (c' := 0) (i' := 0) (k' := k) (by omega), msend_0k (i := 0) (k := k) (by omega) (by omega) (by omega), mz55_Mo_obeys_0_j15 hc]; done)))
theorem mz55_Mo_obeys_0_j14 {k : Nat} (hc : k = 55) : ∀ (v : fw_V) (a2 : Int32) (a3 : Int32), (mf_Mo_obeys_0_j14 v a2 a3) 0 0 k = v 0 0 k := by
  intro v a2 a3
  unfold mf_Mo_obeys_0_j14
  (try dsimp only)
  all_goals ((repeat' split) <;> (first | with_reducible rfl | (simp only [msend_0k (i := 0) (k := k) (by omega) (by omega) (by omega), mz55_Mo_obeys_0_j15 hc, mz55_Mo_obeys_0_j29 hc, mz55_Mo_obeys_0_j30 hc]; done)))
theorem mz55_Mo_obeys_0_j13 {k : Nat} (hc : k = 55) : ∀ (v : fw_V) (a2 : Int32) (a3 : Int32), (mf_Mo_obeys_0_j13 v a2 a3) 0 0 k = v 0 0 k := by
  intro v a2 a3
  unfold mf_Mo_obeys_0_j13
  (try dsimp only)
  all_goals ((repeat' split) <;> (first | with_reducible rfl | (simp only [msend_0k (i := 0) (k := k) (by omega) (by omega) (by omega), mz55_Mo_obeys_0_j14 hc]; done)))
theorem mz55_Mo_obeys_0_j31 {k : Nat} (hc : k = 55) : ∀ (v : fw_V) (a2 : Int32) (a3 : Int32), (mf_Mo_obeys_0_j31 v a2 a3) 0 0 k = v 0 0 k := by
  intro v a2 a3
  unfold mf_Mo_obeys_0_j31
  (try dsimp only)
  all_goals ((repeat' split) <;> (first | with_reducible rfl | (simp only [fw_up_ne (c := 46) (i := 0) (k := 1) (c' := 0) (i' := 0) (k' := k) (by omega), msend_0k (i := 0) (k := k) (by omega) (by omega) (by omega), mz55_Mo_obeys_0_j13 hc]; done)))
theorem mz55_Mo_obeys_0_j32 {k : Nat} (hc : k = 55) : ∀ (v : fw_V) (a2 : Int32) (a3 : Int32) (x90 : Int32), (mf_Mo_obeys_0_j32 v a2 a3 x90) 0 0 k = v 0 0 k := by
  intro v a2 a3 x90
  unfold mf_Mo_obeys_0_j32
  (try dsimp only)
  all_goals ((repeat' split) <;> (first | with_reducible rfl | (simp only [fw_up_ne (c := 46) (i := 0) (k := 1) (c' := 0) (i' := 0) (k' := k) (by omega), msend_0k (i := 0) (k := k) (by omega) (by omega) (by omega), mz55_Mo_obeys_0_j13 hc]; done)))
theorem mz55_Mo_obeys_0_j12 {k : Nat} (hc : k = 55) : ∀ (v : fw_V) (a2 : Int32) (a3 : Int32), (mf_Mo_obeys_0_j12 v a2 a3) 0 0 k = v 0 0 k := by
  intro v a2 a3
  unfold mf_Mo_obeys_0_j12
  (try dsimp only)
  all_goals ((repeat' split) <;> (first | with_reducible rfl | (simp only [msend_0k (i := 0) (k := k) (by omega) (by omega) (by omega), mz55_Mo_obeys_0_j13 hc, mz55_Mo_obeys_0_j31 hc, mz55_Mo_obeys_0_j32 hc]; done)))
theorem mz55_Mo_obeys_0_j11 {k : Nat} (hc : k = 55) : ∀ (v : fw_V) (a2 : Int32) (a3 : Int32), (mf_Mo_obeys_0_j11 v a2 a3) 0 0 k = v 0 0 k := by
  intro v a2 a3
  unfold mf_Mo_obeys_0_j11
  (try dsimp only)
  all_goals ((repeat' split) <;> (first | with_reducible rfl | (simp only [msend_0k (i := 0) (k := k) (by omega) (by omega) (by omega), mz55_Mo_obeys_0_j12 hc]; done)))
theorem mz55_Mo_obeys_0_j33 {k : Nat} (hc : k = 55) : ∀ (v : fw_V) (a2 : Int32) (a3 : Int32), (mf_Mo_obeys_0_j33 v a2 a3) 0 0 k = v 0 0 k := by
  intro v a2 a3
  unfold mf_Mo_obeys_0_j33
  (try dsimp only)
  all_goals ((repeat' split) <;> (first | with_reducible rfl | (simp only [fw_up_ne (c := 46) (i := 0) (k := 0) (c' := 0) (i' := 0) (k' := k) (by omega), msend_0k (i := 0) (k := k) (by omega) (by omega) (by omega), mz55_Mo_obeys_0_j11 hc]; done)))
theorem mz55_Mo_obeys_0_j34 {k : Nat} (hc : k = 55) : ∀ (v : fw_V) (a2 : Int32) (a3 : Int32) (x90 : Int32), (mf_Mo_obeys_0_j34 v a2 a3 x90) 0 0 k = v 0 0 k := by
  intro v a2 a3 x90
  unfold mf_Mo_obeys_0_j34
  (try dsimp only)
  all_goals ((repeat' split) <;> (first | with_reducible rfl | (simp only [fw_up_ne (c := 46) (i := 0) (k := 0) (c' := 0) (i' := 0) (k' := k) (by omega), msend_0k (i := 0) (k := k) (by omega) (by omega) (by omega), mz55_Mo_obeys_0_j11 hc]; done)))
theorem mz55_Mo_obeys_0_j10 {k : Nat} (hc : k = 55) : ∀ (v : fw_V) (a2 : Int32) (a3 : Int32), (mf_Mo_obeys_0_j10 v a2 a3) 0 0 k = v 0 0 k := by
  intro v a2 a3
  unfold mf_Mo_obeys_0_j10
  (try dsimp only)
  all_goals ((repeat' split) <;> (first | with_reducible rfl | (simp only [msend_0k (i := 0) (k := k) (by omega) (by omega) (by omega), mz55_Mo_obeys_0_j11 hc, mz55_Mo_obeys_0_j33 hc, mz55_Mo_obeys_0_j34 hc]; done)))
theorem mz55_Mo_obeys_0_j60 {k : Nat} (hc : k = 55) : ∀ (v0 : fw_V) (a2 : Int32) (a3 : Int32), (mf_Mo_obeys_0_j60 v0 a2 a3) 0 0 k = v0 0 0 k := by
  intro v0 a2 a3
  unfold mf_Mo_obeys_0_j60
  (try dsimp only)
  all_goals ((repeat' split) <;> (first | with_reducible rfl | (simp only [fw_up_ne (c := 35) (i := 0) (k := 0) (c' := 0) (i' := 0) (k' := k) (by omega), fw_up_ne (c := 32) (i := 0) (k := 0) (c' := 0) (i' := 0) (k' := k) (by omega), msend_0k (i := 0) (k := k) (by omega) (by omega) (by omega), mz55_Mo_obeys_0_j61 hc, mz55_Mo_obeys_0_j10 hc]; done)))
theorem mz55_Mo_obeys_0_j59 {k : Nat} (hc : k = 55) : ∀ (v0 : fw_V) (a2 : Int32) (a3 : Int32), (mf_Mo_obeys_0_j59 v0 a2 a3) 0 0 k = v0 0 0 k := by
  intro v0 a2 a3
  unfold mf_Mo_obeys_0_j59
  (try dsimp only)
  all_goals ((repeat' split) <;> (first | with_reducible rfl | (simp only [fw_up_ne (c := 28) (i := 0) (k := 0) (c' := 0) (i' := 0) (k' := k) (by omega), fw_up_ne (c := 32) (i := 0) (k := 0) (c' := 0) (i' := 0) (k' := k) (by omega), fw_up_ne (c := 34) (i := 0) (k := 0) (c' := 0) (i' := 0) (k' := k) (by omega), fw_up_ne (c := 35) (i := 0) (k := 0) (c' := 0) (i' := 0) (k' := k) (by omega), fw_up_ne (c := 37) (i := 0) (k := 0) (c' := 0) (i' := 0) (k' := k) (by omega), fw_up_ne (c := 36) (i := 0) (k := 0) (c' := 0) (i' := 0) (k' := k) (by omega), fw_up_ne (c := 39) (i := 0) (k := 0) (c' := 0) (i' := 0) (k' := k) (by omega), msend_0k (i := 0) (k := k) (by omega) (by omega) (by omega), mz55_Mo_obeys_0_j60 hc]; done)))
theorem mz55_Mo_obeys_0_j58 {k : Nat} (hc : k = 55) : ∀ (v0 : fw_V) (a2 : Int32) (a3 : Int32), (mf_Mo_obeys_0_j58 v0 a2 a3) 0 0 k = v0 0 0 k := by
  intro v0 a2 a3
  unfold mf_Mo_obeys_0_j58
  (try dsimp only)
  all_goals ((repeat' split) <;> (first | with_reducible rfl | (simp only [msend_0k (i := 0) (k := k) (by omega) (by omega) (by omega), mz55_Mo_reply_0 hc, mz55_Mo_obeys_0_j59 hc]; done)))
theorem mz55_Mo_obeys_0_j57 {k : Nat} (hc : k = 55) : ∀ (v0 : fw_V) (a2 : Int32) (a3 : Int32), (mf_Mo_obeys_0_j57 v0 a2 a3) 0 0 k = v0 0 0 k := by
  intro v0 a2 a3
  unfold mf_Mo_obeys_0_j57
  (try dsimp only)
  all_goals ((repeat' split) <;> (first | with_reducible rfl | (simp only [msend_0k (i := 0) (k := k) (by omega) (by omega) (by omega), mz55_Mo_obeys_0_j35 hc, mz55_Mo_obeys_0_j58 hc]; done)))
theorem mz55_Mo_obeys_0_j5 {k : Nat} (hc : k = 55) : ∀ (v0 : fw_V) (a2 : Int32) (a3 : Int32), (mf_Mo_obeys_0_j5 v0 a2 a3) 0 0 k = v0 0 0 k := by
  intro v0 a2 a3
  unfold mf_Mo_obeys_0_j5
  (try dsimp only)
  all_goals ((repeat' split) <;> (first | with_reducible rfl | (simp only [fw_up_ne (c := 36) (i := 0) (k := 0) (c' := 0) (i' := 0) (k' := k) (by omega), fw_up_ne (c := 37) (i := 0) (k := 0) (c' := 0) (i' := 0) (k' := k) (by omega), msend_0k (i := 0) (k := k) (by omega) (by omega) (by omega), mz55_Mo_rest_0 hc, mz55_Mo_obeys_0_j6 hc]; done)))
theorem mz55_Mo_obeys_0_j4 {k : Nat} (hc : k = 55) : ∀ (v0 : fw_V) (a2 : Int32) (a3 : Int32), (mf_Mo_obeys_0_j4 v0 a2 a3) 0 0 k = v0 0 0 k := by
  intro v0 a2 a3
  unfold mf_Mo_obeys_0_j4
  (try dsimp only)
  all_goals ((repeat' split) <;> (first | with_reducible rfl | (simp only [fw_up_ne (c := 35) (i := 0) (k := 0) (c' := 0) (i' := 0) (k' := k) (by omega), fw_up_ne (c := 32) (i := 0) (k := 0) (c' := 0) (i' := 0) (k' := k) (by omega), msend_0k (i := 0) (k := k) (by omega) (by omega) (by omega), mz55_Mo_obeys_0_j5 hc, mz55_Mo_obeys_0_j10 hc]; done)))
theorem mz55_Mo_obeys_0_j3 {k : Nat} (hc : k = 55) : ∀ (v0 : fw_V) (a2 : Int32) (a3 : Int32), (mf_Mo_obeys_0_j3 v0 a2 a3) 0 0 k = v0 0 0 k := by
  intro v0 a2 a3
  unfold mf_Mo_obeys_0_j3
  (try dsimp only)
  all_goals ((repeat' split) <;> (first | with_reducible rfl | (simp only [fw_up_ne (c := 28) (i := 0) (k := 0) (c' := 0) (i' := 0) (k' := k) (by omega), fw_up_ne (c := 32) (i := 0) (k := 0) (c' := 0) (i' := 0) (k' := k) (by omega), fw_up_ne (c := 34) (i := 0) (k := 0) (c' := 0) (i' := 0) (k' := k) (by omega), fw_up_ne (c := 35) (i := 0) (k := 0) (c' := 0) (i' := 0) (k' := k) (by omega), fw_up_ne (c := 37) (i := 0) (k := 0) (c' := 0) (i' := 0) (k' := k) (by omega), fw_up_ne (c := 36) (i := 0) (k := 0) (c' := 0) (i' := 0) (k' := k) (by omega), fw_up_ne (c := 39) (i := 0) (k := 0) (c' := 0) (i' := 0) (k' := k) (by omega), msend_0k (i := 0) (k := k) (by omega) (by omega) (by omega), mz55_Mo_obeys_0_j4 hc]; done)))
theorem mz55_Mo_obeys_0_j2 {k : Nat} (hc : k = 55) : ∀ (v0 : fw_V) (a2 : Int32) (a3 : Int32), (mf_Mo_obeys_0_j2 v0 a2 a3) 0 0 k = v0 0 0 k := by
  intro v0 a2 a3
  unfold mf_Mo_obeys_0_j2
  (try dsimp only)
  all_goals ((repeat' split) <;> (first | with_reducible rfl | (simp only [msend_0k (i := 0) (k := k) (by omega) (by omega) (by omega), mz55_Mo_reply_0 hc, mz55_Mo_obeys_0_j3 hc]; done)))
theorem mz55_Mo_obeys_0_j1 {k : Nat} (hc : k = 55) : ∀ (v0 : fw_V) (a2 : Int32) (a3 : Int32), (mf_Mo_obeys_0_j1 v0 a2 a3) 0 0 k = v0 0 0 k := by
  intro v0 a2 a3
  unfold mf_Mo_obeys_0_j1
  (try dsimp only)
  all_goals ((repeat' split) <;> (first | with_reducible rfl | (simp only [msend_0k (i := 0) (k := k) (by omega) (by omega) (by omega), mz55_Mo_obeys_0_j35 hc, mz55_Mo_obeys_0_j2 hc]; done)))
theorem mz55_Mo_obeys_0 {k : Nat} (hc : k = 55) : ∀ (v0 : fw_V) (a2 : Int32) (a3 : Int32), (mf_Mo_obeys_0 v0 a2 a3) 0 0 k = v0 0 0 k := by
  intro v0 a2 a3
  unfold mf_Mo_obeys_0
  (try dsimp only)
  all_goals ((repeat' split) <;> (first | with_reducible rfl | (simp only [fw_up_c (c := 44) (c' := 0) (by decide), fw_up_ne (c := 32) (i := 0) (k := 0) (c' := 0) (i' := 0) (k' := k) (by omega), msend_0k (i := 0) (k := k) (by omega) (by omega) (by omega), mz55_Mo_reply_0 hc, mz55_Mo_obeys_0_j57 hc, mz55_Mo_obeys_0_j1 hc]; done)))
theorem mz55_Mo_arrives_0 {k : Nat} (hc : k = 55) : ∀ (v0 : fw_V) (a2 : Int32) (a3 : Int32) (a4 : Int32), (mf_Mo_arrives_0 v0 a2 a3 a4) 0 0 k = v0 0 0 k := by
  intro v0 a2 a3 a4
  unfold mf_Mo_arrives_0
  (try dsimp only)
  all_goals ((repeat' split) <;> (first | with_reducible rfl | (simp only [fw_up_ne (c := 9) (i := 0) (k := 0) (c' := 0) (i' := 0) (k' := k) (by omega), msend_0k (i := 0) (k := k) (by omega) (by omega) (by omega), mz55_Mo_connect_0 hc, mz55_Mo_obeys_0 hc]; done)))
theorem mz55_Mo_alarm_0_j2 {k : Nat} (hc : k = 55) : ∀ (v : fw_V), (mf_Mo_alarm_0_j2 v) 0 0 k = v 0 0 k := by
  intro v
  unfold mf_Mo_alarm_0_j2
  (try dsimp only)
  all_goals ((repeat' split) <;> (first | with_reducible rfl | (simp only [fw_up_ne (c := 38) (i := 0) (k := 0) (c' := 0) (i' := 0) (k' := k) (by omega), fw_up_ne (c := 9) (i := 0) (k := 0) (c' := 0) (i' := 0) (k' := k) (by omega), fw_up_ne (c := 9) (i := 0) (k := 1) (c' := 0) (i' := 0) (k' := k) (by omega), msend_0k (i := 0) (k := k) (by omega) (by omega) (by omega), mz55_Mo_reply_0 hc]; done)))
theorem mz55_Mo_alarm_0_j3 {k : Nat} (hc : k = 55) : ∀ (v0 : fw_V), (mf_Mo_alarm_0_j3 v0) 0 0 k = v0 0 0 k := by
  intro v0
  unfold mf_Mo_alarm_0_j3
  (try dsimp only)
  all_goals ((repeat' split) <;> (first | with_reducible rfl | (simp only [fw_up_ne (c := 39) (i := 0) (k := 0) (c' := 0) (i' := 0) (k' := k) (by omega), fw_up_ne (c := 36) (i := 0) (k := 0) (c' := 0) (i' := 0) (k' := k) (by omega), msend_0k (i := 0) (k := k) (by omega) (by omega) (by omega), mz55_Mo_alarm_0_j2 hc]; done)))
theorem mz55_Mo_alarm_0_j1 {k : Nat} (hc : k = 55) : ∀ (v0 : fw_V), (mf_Mo_alarm_0_j1 v0) 0 0 k = v0 0 0 k := by
  intro v0
  unfold mf_Mo_alarm_0_j1
  (try dsimp only)
  all_goals ((repeat' split) <;> (first | with_reducible rfl | (simp only [fw_up_ne (c := 39) (i := 0) (k := 0) (c' := 0) (i' := 0) (k' := k) (by omega), fw_up_ne (c := 36) (i := 0) (k := 0) (c' := 0) (i' := 0) (k' := k) (by omega), msend_0k (i := 0) (k := k) (by omega) (by omega) (by omega), mz55_Mo_alarm_0_j2 hc]; done)))
theorem mz55_Mo_alarm_0 {k : Nat} (hc : k = 55) : ∀ (v0 : fw_V), (mf_Mo_alarm_0 v0) 0 0 k = v0 0 0 k := by
  intro v0
  unfold mf_Mo_alarm_0
  (try dsimp only)
  all_goals ((repeat' split) <;> (first | with_reducible rfl | (simp only [fw_up_ne (c := 38) (i := 0) (k := 0) (c' := 0) (i' := 0) (k' := k) (by omega), msend_0k (i := 0) (k := k) (by omega) (by omega) (by omega), mz55_Mo_alarm_0_j3 hc, mz55_Mo_alarm_0_j1 hc, mz55_Mo_alarm_0_j2 hc]; done)))
theorem mz55_Mo_pulse_0_j25 {k : Nat} (hc : k = 55) : ∀ (v : fw_V), (mf_Mo_pulse_0_j25 v) 0 0 k = v 0 0 k := by
  intro v
  unfold mf_Mo_pulse_0_j25
  (try dsimp only)
  all_goals ((repeat' split) <;> (first | with_reducible rfl | (simp only [fw_up_ne (c := 9) (i := 0) (k := 6) (c' := 0) (i' := 0) (k' := k) (by omega), fw_up_ne (c := 34) (i := 0) (k := 0) (c' := 0) (i' := 0) (k' := k) (by omega), msend_0k (i := 0) (k := k) (by omega) (by omega) (by omega), mz55_Mo_reply_0 hc]; done)))
theorem mz55_Mo_pulse_0_j24 {k : Nat} (hc : k = 55) : ∀ (v : fw_V), (mf_Mo_pulse_0_j24 v) 0 0 k = v 0 0 k := by
  intro v
  unfold mf_Mo_pulse_0_j24
  (try dsimp only)
  all_goals ((repeat' split) <;> (first | with_reducible rfl | (simp only [msend_0k (i := 0) (k := k) (by omega) (by omega) (by omega), mz55_Mo_pulse_0_j25 hc]; done)))
theorem mz55_Mo_pulse_0_j27 {k : Nat} (hc : k = 55) : ∀ (v : fw_V), (mf_Mo_pulse_0_j27 v) 0 0 k = v 0 0 k := by
  intro v
  unfold mf_Mo_pulse_0_j27
  (try dsimp only)
  all_goals ((repeat' split) <;> (first | with_reducible rfl | (simp only [fw_up_ne (c := 9) (i := 0) (k := 6) (c' := 0) (i' := 0) (k' := k) (by omega), fw_up_ne (c := 34) (i := 0) (k := 0) (c' := 0) (i' := 0) (k' := k) (by omega), msend_0k (i := 0) (k := k) (by omega) (by omega) (by omega), mz55_Mo_reply_0 hc]; done)))
theorem mz55_Mo_pulse_0_j26 {k : Nat} (hc : k = 55) : ∀ (v : fw_V), (mf_Mo_pulse_0_j26 v) 0 0 k = v 0 0 k := by
  intro v
  unfold mf_Mo_pulse_0_j26
  (try dsimp only)
  all_goals ((repeat' split) <;> (first | with_reducible rfl | (simp only [msend_0k (i := 0) (k := k) (by omega) (by omega) (by omega), mz55_Mo_pulse_0_j27 hc]; done)))
theorem mz55_Mo_pulse_0_j23 {k : Nat} (hc : k = 55) : ∀ (v : fw_V) (x4 : Int32), (mf_Mo_pulse_0_j23 v x4) 0 0 k = v 0 0 k := by
  intro v x4
  unfold mf_Mo_pulse_0_j23
  (try dsimp only)
  all_goals ((repeat' split) <;> (first | with_reducible rfl | (simp only [fw_up_ne (c := 9) (i := 0) (k := 5) (c' := 0) (i' := 0) (k' := k) (by omega), msend_0k (i := 0) (k := k) (by omega) (by omega) (by omega), mz55_Mo_pulse_0_j24 hc, mz55_Mo_pulse_0_j26 hc]; done)))
theorem mz55_Mo_pulse_0_j22 {k : Nat} (hc : k = 55) : ∀ (v : fw_V) (x4 : Int32), (mf_Mo_pulse_0_j22 v x4) 0 0 k = v 0 0 k := by
  intro v x4
  unfold mf_Mo_pulse_0_j22
  (try dsimp only)
  all_goals ((repeat' split) <;> (first | with_reducible rfl | (simp only [msend_0k (i := 0) (k := k) (by omega) (by omega) (by omega), mz55_Mo_pulse_0_j23 hc]; done)))
theorem mz55_Mo_pulse_0_j28 {k : Nat} (hc : k = 55) : ∀ (v : fw_V) (x4 : Int32) (x90 : Int32), (mf_Mo_pulse_0_j28 v x4 x90) 0 0 k = v 0 0 k := by
  intro v x4 x90
  unfold mf_Mo_pulse_0_j28
  (try dsimp only)
  all_goals ((repeat' split) <;> (first | with_reducible rfl | (simp only [fw_up_ne (c := 9) (i := 0) (k := 5) (c' := 0) (i' := 0) (k' := k) (by omega), msend_0k (i := 0) (k := k) (by omega) (by omega) (by omega), mz55_Mo_pulse_0_j24 hc, mz55_Mo_pulse_0_j26 hc]; done)))
theorem mz55_Mo_pulse_0_j21 {k : Nat} (hc : k = 55) : ∀ (v : fw_V), (mf_Mo_pulse_0_j21 v) 0 0 k = v 0 0 k := by
  intro v
  unfold mf_Mo_pulse_0_j21
  (try dsimp only)
  all_goals ((repeat' split) <;> (first | with_reducible rfl | (simp only [msend_0k (i := 0) (k := k) (by omega) (by omega) (by omega), mz55_Mo_pulse_0_j22 hc, mz55_Mo_pulse_0_j28 hc]; done)))
theorem mz55_Mo_pulse_0_j20 {k : Nat} (hc : k = 55) : ∀ (v : fw_V), (mf_Mo_pulse_0_j20 v) 0 0 k = v 0 0 k := by
  intro v
  unfold mf_Mo_pulse_0_j20
  (try dsimp only)
  all_goals ((repeat' split) <;> (first | with_reducible rfl | (simp only [msend_0k (i := 0) (k := k) (by omega) (by omega) (by omega), mz55_Mo_pulse_0_j21 hc]; done)))
theorem mz55_Mo_pulse_0_j33 {k : Nat} (hc : k = 55) : ∀ (v : fw_V), (mf_Mo_pulse_0_j33 v) 0 0 k = v 0 0 k := by
  intro v
  unfold mf_Mo_pulse_0_j33
  (try dsimp only)
  all_goals ((repeat' split) <;> (first | with_reducible rfl | (simp only [msend_0k (i := 0) (k := k) (by omega) (by omega) (by omega), mz55_Mo_pulse_0_j27 hc]; done)))
theorem mz55_Mo_pulse_0_j34 {k : Nat} (hc : k = 55) : ∀ (v : fw_V), (mf_Mo_pulse_0_j34 v) 0 0 k = v 0 0 k := by
  intro v
  unfold mf_Mo_pulse_0_j34
  (try dsimp only)
  all_goals ((repeat' split) <;> (first | with_reducible rfl | (simp only [msend_0k (i := 0) (k := k) (by omega) (by omega) (by omega), mz55_Mo_pulse_0_j27 hc]; done)))
theorem mz55_Mo_pulse_0_j32 {k : Nat} (hc : k = 55) : ∀ (v : fw_V) (x4 : Int32), (mf_Mo_pulse_0_j32 v x4) 0 0 k = v 0 0 k := by
  intro v x4
  unfold mf_Mo_pulse_0_j32
  (try dsimp only)
  all_goals ((repeat' split) <;> (first | with_reducible rfl | (simp only [fw_up_ne (c := 9) (i := 0) (k := 5) (c' := 0) (i' := 0) (k' := k) (by omega), msend_0k (i := 0) (k := k) (by omega) (by omega) (by omega), mz55_Mo_pulse_0_j33 hc, mz55_Mo_pulse_0_j34 hc]; done)))
theorem mz55_Mo_pulse_0_j31 {k : Nat} (hc : k = 55) : ∀ (v : fw_V) (x4 : Int32), (mf_Mo_pulse_0_j31 v x4) 0 0 k = v 0 0 k := by
  intro v x4
  unfold mf_Mo_pulse_0_j31
  (try dsimp only)
  all_goals ((repeat' split) <;> (first | with_reducible rfl | (simp only [msend_0k (i := 0) (k := k) (by omega) (by omega) (by omega), mz55_Mo_pulse_0_j32 hc]; done)))
theorem mz55_Mo_pulse_0_j35 {k : Nat} (hc : k = 55) : ∀ (v : fw_V) (x4 : Int32) (x90 : Int32), (mf_Mo_pulse_0_j35 v x4 x90) 0 0 k = v 0 0 k := by
  intro v x4 x90
  unfold mf_Mo_pulse_0_j35
  (try dsimp only)
  all_goals ((repeat' split) <;> (first | with_reducible rfl | (simp only [fw_up_ne (c := 9) (i := 0) (k := 5) (c' := 0) (i' := 0) (k' := k) (by omega), msend_0k (i := 0) (k := k) (by omega) (by omega) (by omega), mz55_Mo_pulse_0_j33 hc, mz55_Mo_pulse_0_j34 hc]; done)))
theorem mz55_Mo_pulse_0_j30 {k : Nat} (hc : k = 55) : ∀ (v : fw_V), (mf_Mo_pulse_0_j30 v) 0 0 k = v 0 0 k := by
  intro v
  unfold mf_Mo_pulse_0_j30
  (try dsimp only)
  all_goals ((repeat' split) <;> (first | with_reducible rfl | (simp only [msend_0k (i := 0) (k := k) (by omega) (by omega) (by omega), mz55_Mo_pulse_0_j31 hc, mz55_Mo_pulse_0_j35 hc]; done)))
theorem mz55_Mo_pulse_0_j29 {k : Nat} (hc : k = 55) : ∀ (v : fw_V), (mf_Mo_pulse_0_j29 v) 0 0 k = v 0 0 k := by
  intro v
  unfold mf_Mo_pulse_0_j29
  (try dsimp only)
  all_goals ((repeat' split) <;> (first | with_reducible rfl | (simp only [msend_0k (i := 0) (k := k) (by omega) (by omega) (by omega), mz55_Mo_pulse_0_j30 hc]; done)))
theorem mz55_Mo_pulse_0_j19 {k : Nat} (hc : k = 55) : ∀ (v : fw_V) (x4 : Int32), (mf_Mo_pulse_0_j19 v x4) 0 0 k = v 0 0 k := by
  intro v x4
  unfold mf_Mo_pulse_0_j19
  (try dsimp only)
  all_goals ((repeat' split) <;> (first | with_reducible rfl | (simp only [fw_up_ne (c := 9) (i := 0) (k := 4) (c' := 0) (i' := 0) (k' := k) (by omega), msend_0k (i := 0) (k := k) (by omega) (by omega) (by omega), mz55_Mo_pulse_0_j20 hc, mz55_Mo_pulse_0_j29 hc]; done)))
theorem mz55_Mo_pulse_0_j18 {k : Nat} (hc : k = 55) : ∀ (v : fw_V) (x4 : Int32), (mf_Mo_pulse_0_j18 v x4) 0 0 k = v 0 0 k := by
  intro v x4
  unfold mf_Mo_pulse_0_j18
  (try dsimp only)
  all_goals ((repeat' split) <;> (first | with_reducible rfl | (simp only [msend_0k (i := 0) (k := k) (by omega) (by omega) (by omega), mz55_Mo_pulse_0_j19 hc]; done)))
theorem mz55_Mo_pulse_0_j36 {k : Nat} (hc : k = 55) : ∀ (v : fw_V) (x4 : Int32) (x90 : Int32), (mf_Mo_pulse_0_j36 v x4 x90) 0 0 k = v 0 0 k := by
  intro v x4 x90
  unfold mf_Mo_pulse_0_j36
  (try dsimp only)
  all_goals ((repeat' split) <;> (first | with_reducible rfl | (simp only [fw_up_ne (c := 9) (i := 0) (k := 4) (c' := 0) (i' := 0) (k' := k) (by omega), msend_0k (i := 0) (k := k) (by omega) (by omega) (by omega), mz55_Mo_pulse_0_j20 hc, mz55_Mo_pulse_0_j29 hc]; done)))
theorem mz55_Mo_pulse_0_j17 {k : Nat} (hc : k = 55) : ∀ (v : fw_V), (mf_Mo_pulse_0_j17 v) 0 0 k = v 0 0 k := by
  intro v
  unfold mf_Mo_pulse_0_j17
  (try dsimp only)
  all_goals ((repeat' split) <;> (first | with_reducible rfl | (simp only [msend_0k (i := 0) (k := k) (by omega) (by omega) (by omega), mz55_Mo_pulse_0_j18 hc, mz55_Mo_pulse_0_j36 hc]; done)))
theorem mz55_Mo_pulse_0_j16 {k : Nat} (hc : k = 55) : ∀ (v : fw_V), (mf_Mo_pulse_0_j16 v) 0 0 k = v 0 0 k := by
  intro v
  unfold mf_Mo_pulse_0_j16
  (try dsimp only)
  all_goals ((repeat' split) <;> (first | with_reducible rfl | (simp only [msend_0k (i := 0) (k := k) (by omega) (by omega) (by omega), mz55_Mo_pulse_0_j17 hc]; done)))
theorem mz55_Mo_pulse_0_j46 {k : Nat} (hc : k = 55) : ∀ (v : fw_V), (mf_Mo_pulse_0_j46 v) 0 0 k = v 0 0 k := by
  intro v
  unfold mf_Mo_pulse_0_j46
  (try dsimp only)
  all_goals ((repeat' split) <;> (first | with_reducible rfl | (simp only [fw_up_ne (c := 9) (i := 0) (k := 6) (c' := 0) (i' := 0) (k' := k) (by omega), fw_up_ne (c := 34) (i := 0) (k := 0) (c' := 0) (i' := 0) (k' := k) (by omega), msend_0k (i := 0) (k := k) (by omega) (by omega) (by omega), mz55_Mo_reply_0 hc]; done)))
theorem mz55_Mo_pulse_0_j45 {k : Nat} (hc : k = 55) : ∀ (v : fw_V), (mf_Mo_pulse_0_j45 v) 0 0 k = v 0 0 k := by
  intro v
  unfold mf_Mo_pulse_0_j45
  (try dsimp only)
  all_goals ((repeat' split) <;> (first | with_reducible rfl | (simp only [msend_0k (i := 0) (k := k) (by omega) (by omega) (by omega), mz55_Mo_pulse_0_j46 hc]; done)))
theorem mz55_Mo_pulse_0_j48 {k : Nat} (hc : k = 55) : ∀ (v : fw_V), (mf_Mo_pulse_0_j48 v) 0 0 k = v 0 0 k := by
  intro v
  unfold mf_Mo_pulse_0_j48
  (try dsimp only)
  all_goals ((repeat' split) <;> (first | with_reducible rfl | (simp only [fw_up_ne (c := 9) (i := 0) (k := 6) (c' := 0) (i' := 0) (k' := k) (by omega), fw_up_ne (c := 34) (i := 0) (k := 0) (c' := 0) (i' := 0) (k' := k) (by omega), msend_0k (i := 0) (k := k) (by omega) (by omega) (by omega), mz55_Mo_reply_0 hc]; done)))
theorem mz55_Mo_pulse_0_j47 {k : Nat} (hc : k = 55) : ∀ (v : fw_V), (mf_Mo_pulse_0_j47 v) 0 0 k = v 0 0 k := by
  intro v
  unfold mf_Mo_pulse_0_j47
  (try dsimp only)
  all_goals ((repeat' split) <;> (first | with_reducible rfl | (simp only [msend_0k (i := 0) (k := k) (by omega) (by omega) (by omega), mz55_Mo_pulse_0_j48 hc]; done)))
theorem mz55_Mo_pulse_0_j44 {k : Nat} (hc : k = 55) : ∀ (v : fw_V) (x4 : Int32), (mf_Mo_pulse_0_j44 v x4) 0 0 k = v 0 0 k := by
  intro v x4
  unfold mf_Mo_pulse_0_j44
  (try dsimp only)
  all_goals ((repeat' split) <;> (first | with_reducible rfl | (simp only [fw_up_ne (c := 9) (i := 0) (k := 5) (c' := 0) (i' := 0) (k' := k) (by omega), msend_0k (i := 0) (k := k) (by omega) (by omega) (by omega), mz55_Mo_pulse_0_j45 hc, mz55_Mo_pulse_0_j47 hc]; done)))
theorem mz55_Mo_pulse_0_j43 {k : Nat} (hc : k = 55) : ∀ (v : fw_V) (x4 : Int32), (mf_Mo_pulse_0_j43 v x4) 0 0 k = v 0 0 k := by
  intro v x4
  unfold mf_Mo_pulse_0_j43
  (try dsimp only)
  all_goals ((repeat' split) <;> (first | with_reducible rfl | (simp only [msend_0k (i := 0) (k := k) (by omega) (by omega) (by omega), mz55_Mo_pulse_0_j44 hc]; done)))
theorem mz55_Mo_pulse_0_j49 {k : Nat} (hc : k = 55) : ∀ (v : fw_V) (x4 : Int32) (x90 : Int32), (mf_Mo_pulse_0_j49 v x4 x90) 0 0 k = v 0 0 k := by
  intro v x4 x90
  unfold mf_Mo_pulse_0_j49
  (try dsimp only)
  all_goals ((repeat' split) <;> (first | with_reducible rfl | (simp only [fw_up_ne (c := 9) (i := 0) (k := 5) (c' := 0) (i' := 0) (k' := k) (by omega), msend_0k (i := 0) (k := k) (by omega) (by omega) (by omega), mz55_Mo_pulse_0_j45 hc, mz55_Mo_pulse_0_j47 hc]; done)))
theorem mz55_Mo_pulse_0_j42 {k : Nat} (hc : k = 55) : ∀ (v : fw_V), (mf_Mo_pulse_0_j42 v) 0 0 k = v 0 0 k := by
  intro v
  unfold mf_Mo_pulse_0_j42
  (try dsimp only)
  all_goals ((repeat' split) <;> (first | with_reducible rfl | (simp only [msend_0k (i := 0) (k := k) (by omega) (by omega) (by omega), mz55_Mo_pulse_0_j43 hc, mz55_Mo_pulse_0_j49 hc]; done)))
theorem mz55_Mo_pulse_0_j41 {k : Nat} (hc : k = 55) : ∀ (v : fw_V), (mf_Mo_pulse_0_j41 v) 0 0 k = v 0 0 k := by
  intro v
  unfold mf_Mo_pulse_0_j41
  (try dsimp only)
  all_goals ((repeat' split) <;> (first | with_reducible rfl | (simp only [msend_0k (i := 0) (k := k) (by omega) (by omega) (by omega), mz55_Mo_pulse_0_j42 hc]; done)))
theorem mz55_Mo_pulse_0_j54 {k : Nat} (hc : k = 55) : ∀ (v : fw_V), (mf_Mo_pulse_0_j54 v) 0 0 k = v 0 0 k := by
  intro v
  unfold mf_Mo_pulse_0_j54
  (try dsimp only)
  all_goals ((repeat' split) <;> (first | with_reducible rfl | (simp only [msend_0k (i := 0) (k := k) (by omega) (by omega) (by omega), mz55_Mo_pulse_0_j48 hc]; done)))
theorem mz55_Mo_pulse_0_j55 {k : Nat} (hc : k = 55) : ∀ (v : fw_V), (mf_Mo_pulse_0_j55 v) 0 0 k = v 0 0 k := by
  intro v
  unfold mf_Mo_pulse_0_j55
  (try dsimp only)
  all_goals ((repeat' split) <;> (first | with_reducible rfl | (simp only [msend_0k (i := 0) (k := k) (by omega) (by omega) (by omega), mz55_Mo_pulse_0_j48 hc]; done)))
theorem mz55_Mo_pulse_0_j53 {k : Nat} (hc : k = 55) : ∀ (v : fw_V) (x4 : Int32), (mf_Mo_pulse_0_j53 v x4) 0 0 k = v 0 0 k := by
  intro v x4
  unfold mf_Mo_pulse_0_j53
  (try dsimp only)
  all_goals ((repeat' split) <;> (first | with_reducible rfl | (simp only [fw_up_ne (c := 9) (i := 0) (k := 5) (c' := 0) (i' := 0) (k' := k) (by omega), msend_0k (i := 0) (k := k) (by omega) (by omega) (by omega), mz55_Mo_pulse_0_j54 hc, mz55_Mo_pulse_0_j55 hc]; done)))
theorem mz55_Mo_pulse_0_j52 {k : Nat} (hc : k = 55) : ∀ (v : fw_V) (x4 : Int32), (mf_Mo_pulse_0_j52 v x4) 0 0 k = v 0 0 k := by
  intro v x4
  unfold mf_Mo_pulse_0_j52
  (try dsimp only)
  all_goals ((repeat' split) <;> (first | with_reducible rfl | (simp only [msend_0k (i := 0) (k := k) (by omega) (by omega) (by omega), mz55_Mo_pulse_0_j53 hc]; done)))
theorem mz55_Mo_pulse_0_j56 {k : Nat} (hc : k = 55) : ∀ (v : fw_V) (x4 : Int32) (x90 : Int32), (mf_Mo_pulse_0_j56 v x4 x90) 0 0 k = v 0 0 k := by
  intro v x4 x90
  unfold mf_Mo_pulse_0_j56
  (try dsimp only)
  all_goals ((repeat' split) <;> (first | with_reducible rfl | (simp only [fw_up_ne (c := 9) (i := 0) (k := 5) (c' := 0) (i' := 0) (k' := k) (by omega), msend_0k (i := 0) (k := k) (by omega) (by omega) (by omega), mz55_Mo_pulse_0_j54 hc, mz55_Mo_pulse_0_j55 hc]; done)))
theorem mz55_Mo_pulse_0_j51 {k : Nat} (hc : k = 55) : ∀ (v : fw_V), (mf_Mo_pulse_0_j51 v) 0 0 k = v 0 0 k := by
  intro v
  unfold mf_Mo_pulse_0_j51
  (try dsimp only)
  all_goals ((repeat' split) <;> (first | with_reducible rfl | (simp only [msend_0k (i := 0) (k := k) (by omega) (by omega) (by omega), mz55_Mo_pulse_0_j52 hc, mz55_Mo_pulse_0_j56 hc]; done)))
theorem mz55_Mo_pulse_0_j50 {k : Nat} (hc : k = 55) : ∀ (v : fw_V), (mf_Mo_pulse_0_j50 v) 0 0 k = v 0 0 k := by
  intro v
  unfold mf_Mo_pulse_0_j50
  (try dsimp only)
  all_goals ((repeat' split) <;> (first | with_reducible rfl | (simp only [msend_0k (i := 0) (k := k) (by omega) (by omega) (by omega), mz55_Mo_pulse_0_j51 hc]; done)))
theorem mz55_Mo_pulse_0_j40 {k : Nat} (hc : k = 55) : ∀ (v : fw_V) (x4 : Int32), (mf_Mo_pulse_0_j40 v x4) 0 0 k = v 0 0 k := by
  intro v x4
  unfold mf_Mo_pulse_0_j40
  (try dsimp only)
  all_goals ((repeat' split) <;> (first | with_reducible rfl | (simp only [fw_up_ne (c := 9) (i := 0) (k := 4) (c' := 0) (i' := 0) (k' := k) (by omega), msend_0k (i := 0) (k := k) (by omega) (by omega) (by omega), mz55_Mo_pulse_0_j41 hc, mz55_Mo_pulse_0_j50 hc]; done)))
theorem mz55_Mo_pulse_0_j39 {k : Nat} (hc : k = 55) : ∀ (v : fw_V) (x4 : Int32), (mf_Mo_pulse_0_j39 v x4) 0 0 k = v 0 0 k := by
  intro v x4
  unfold mf_Mo_pulse_0_j39
  (try dsimp only)
  all_goals ((repeat' split) <;> (first | with_reducible rfl | (simp only [msend_0k (i := 0) (k := k) (by omega) (by omega) (by omega), mz55_Mo_pulse_0_j40 hc]; done)))
theorem mz55_Mo_pulse_0_j57 {k : Nat} (hc : k = 55) : ∀ (v : fw_V) (x4 : Int32) (x90 : Int32), (mf_Mo_pulse_0_j57 v x4 x90) 0 0 k = v 0 0 k := by
  intro v x4 x90
  unfold mf_Mo_pulse_0_j57
  (try dsimp only)
  all_goals ((repeat' split) <;> (first | with_reducible rfl | (simp only [fw_up_ne (c := 9) (i := 0) (k := 4) (c' := 0) (i' := 0) (k' := k) (by omega), msend_0k (i := 0) (k := k) (by omega) (by omega) (by omega), mz55_Mo_pulse_0_j41 hc, mz55_Mo_pulse_0_j50 hc]; done)))
theorem mz55_Mo_pulse_0_j38 {k : Nat} (hc : k = 55) : ∀ (v : fw_V), (mf_Mo_pulse_0_j38 v) 0 0 k = v 0 0 k := by
  intro v
  unfold mf_Mo_pulse_0_j38
  (try dsimp only)
  all_goals ((repeat' split) <;> (first | with_reducible rfl | (simp only [msend_0k (i := 0) (k := k) (by omega) (by omega) (by omega), mz55_Mo_pulse_0_j39 hc, mz55_Mo_pulse_0_j57 hc]; done)))
theorem mz55_Mo_pulse_0_j37 {k : Nat} (hc : k = 55) : ∀ (v : fw_V), (mf_Mo_pulse_0_j37 v) 0 0 k = v 0 0 k := by
  intro v
  unfold mf_Mo_pulse_0_j37
  (try dsimp only)
  all_goals ((repeat' split) <;> (first | with_reducible rfl | (simp only [msend_0k (i := 0) (k := k) (by omega) (by omega) (by omega), mz55_Mo_pulse_0_j38 hc]; done)))
theorem mz55_Mo_pulse_0_j15 {k : Nat} (hc : k = 55) : ∀ (v : fw_V) (x4 : Int32), (mf_Mo_pulse_0_j15 v x4) 0 0 k = v 0 0 k := by
  intro v x4
  unfold mf_Mo_pulse_0_j15
  (try dsimp only)
  all_goals ((repeat' split) <;> (first | with_reducible rfl | (simp only [fw_up_ne (c := 9) (i := 0) (k := 3) (c' := 0) (i' := 0) (k' := k) (by omega), msend_0k (i := 0) (k := k) (by omega) (by omega) (by omega), mz55_Mo_pulse_0_j16 hc, mz55_Mo_pulse_0_j37 hc]; done)))
theorem mz55_Mo_pulse_0_j14 {k : Nat} (hc : k = 55) : ∀ (v : fw_V) (x4 : Int32), (mf_Mo_pulse_0_j14 v x4) 0 0 k = v 0 0 k := by
  intro v x4
  unfold mf_Mo_pulse_0_j14
  (try dsimp only)
  all_goals ((repeat' split) <;> (first | with_reducible rfl | (simp only [msend_0k (i := 0) (k := k) (by omega) (by omega) (by omega), mz55_Mo_pulse_0_j15 hc]; done)))
theorem mz55_Mo_pulse_0_j58 {k : Nat} (hc : k = 55) : ∀ (v : fw_V) (x4 : Int32) (x90 : Int32), (mf_Mo_pulse_0_j58 v x4 x90) 0 0 k = v 0 0 k := by
  intro v x4 x90
  unfold mf_Mo_pulse_0_j58
  (try dsimp only)
  all_goals ((repeat' split) <;> (first | with_reducible rfl | (simp only [fw_up_ne (c := 9) (i := 0) (k := 3) (c' := 0) (i' := 0) (k' := k) (by omega), msend_0k (i := 0) (k := k) (by omega) (by omega) (by omega), mz55_Mo_pulse_0_j16 hc, mz55_Mo_pulse_0_j37 hc]; done)))
theorem mz55_Mo_pulse_0_j13 {k : Nat} (hc : k = 55) : ∀ (v : fw_V), (mf_Mo_pulse_0_j13 v) 0 0 k = v 0 0 k := by
  intro v
  unfold mf_Mo_pulse_0_j13
  (try dsimp only)
  all_goals ((repeat' split) <;> (first | with_reducible rfl | (simp only [msend_0k (i := 0) (k := k) (by omega) (by omega) (by omega), mz55_Mo_pulse_0_j14 hc, mz55_Mo_pulse_0_j58 hc]; done)))
theorem mz55_Mo_pulse_0_j12 {k : Nat} (hc : k = 55) : ∀ (v : fw_V), (mf_Mo_pulse_0_j12 v) 0 0 k = v 0 0 k := by
  intro v
  unfold mf_Mo_pulse_0_j12
  (try dsimp only)
  all_goals ((repeat' split) <;> (first | with_reducible rfl | (simp only [msend_0k (i := 0) (k := k) (by omega) (by omega) (by omega), mz55_Mo_pulse_0_j13 hc]; done)))
theorem mz55_Mo_pulse_0_j63 {k : Nat} (hc : k = 55) : ∀ (v : fw_V), (mf_Mo_pulse_0_j63 v) 0 0 k = v 0 0 k := by
  intro v
  unfold mf_Mo_pulse_0_j63
  (try dsimp only)
  all_goals ((repeat' split) <;> (first | with_reducible rfl | (simp only [msend_0k (i := 0) (k := k) (by omega) (by omega) (by omega), mz55_Mo_pulse_0_j38 hc]; done)))
theorem mz55_Mo_pulse_0_j64 {k : Nat} (hc : k = 55) : ∀ (v : fw_V), (mf_Mo_pulse_0_j64 v) 0 0 k = v 0 0 k := by
  intro v
  unfold mf_Mo_pulse_0_j64
  (try dsimp only)
  all_goals ((repeat' split) <;> (first | with_reducible rfl | (simp only [msend_0k (i := 0) (k := k) (by omega) (by omega) (by omega), mz55_Mo_pulse_0_j38 hc]; done)))
theorem mz55_Mo_pulse_0_j62 {k : Nat} (hc : k = 55) : ∀ (v : fw_V) (x4 : Int32), (mf_Mo_pulse_0_j62 v x4) 0 0 k = v 0 0 k := by
  intro v x4
  unfold mf_Mo_pulse_0_j62
  (try dsimp only)
  all_goals ((repeat' split) <;> (first | with_reducible rfl | (simp only [fw_up_ne (c := 9) (i := 0) (k := 3) (c' := 0) (i' := 0) (k' := k) (by omega), msend_0k (i := 0) (k := k) (by omega) (by omega) (by omega), mz55_Mo_pulse_0_j63 hc, mz55_Mo_pulse_0_j64 hc]; done)))
theorem mz55_Mo_pulse_0_j61 {k : Nat} (hc : k = 55) : ∀ (v : fw_V) (x4 : Int32), (mf_Mo_pulse_0_j61 v x4) 0 0 k = v 0 0 k := by
  intro v x4
  unfold mf_Mo_pulse_0_j61
  (try dsimp only)
  all_goals ((repeat' split) <;> (first | with_reducible rfl | (simp only [msend_0k (i := 0) (k := k) (by omega) (by omega) (by omega), mz55_Mo_pulse_0_j62 hc]; done)))
theorem mz55_Mo_pulse_0_j65 {k : Nat} (hc : k = 55) : ∀ (v : fw_V) (x4 : Int32) (x90 : Int32), (mf_Mo_pulse_0_j65 v x4 x90) 0 0 k = v 0 0 k := by
  intro v x4 x90
  unfold mf_Mo_pulse_0_j65
  (try dsimp only)
  all_goals ((repeat' split) <;> (first | with_reducible rfl | (simp only [fw_up_ne (c := 9) (i := 0) (k := 3) (c' := 0) (i' := 0) (k' := k) (by omega), msend_0k (i := 0) (k := k) (by omega) (by omega) (by omega), mz55_Mo_pulse_0_j63 hc, mz55_Mo_pulse_0_j64 hc]; done)))
theorem mz55_Mo_pulse_0_j60 {k : Nat} (hc : k = 55) : ∀ (v : fw_V), (mf_Mo_pulse_0_j60 v) 0 0 k = v 0 0 k := by
  intro v
  unfold mf_Mo_pulse_0_j60
  (try dsimp only)
  all_goals ((repeat' split) <;> (first | with_reducible rfl | (simp only [msend_0k (i := 0) (k := k) (by omega) (by omega) (by omega), mz55_Mo_pulse_0_j61 hc, mz55_Mo_pulse_0_j65 hc]; done)))
theorem mz55_Mo_pulse_0_j59 {k : Nat} (hc : k = 55) : ∀ (v : fw_V), (mf_Mo_pulse_0_j59 v) 0 0 k = v 0 0 k := by
  intro v
  unfold mf_Mo_pulse_0_j59
  (try dsimp only)
  all_goals ((repeat' split) <;> (first | with_reducible rfl | (simp only [msend_0k (i := 0) (k := k) (by omega) (by omega) (by omega), mz55_Mo_pulse_0_j60 hc]; done)))
theorem mz55_Mo_pulse_0_j11 {k : Nat} (hc : k = 55) : ∀ (v : fw_V) (x4 : Int32), (mf_Mo_pulse_0_j11 v x4) 0 0 k = v 0 0 k := by
  intro v x4
  unfold mf_Mo_pulse_0_j11
  (try dsimp only)
  all_goals ((repeat' split) <;> (first | with_reducible rfl | (simp only [fw_up_ne (c := 9) (i := 0) (k := 2) (c' := 0) (i' := 0) (k' := k) (by omega), msend_0k (i := 0) (k := k) (by omega) (by omega) (by omega), mz55_Mo_pulse_0_j12 hc, mz55_Mo_pulse_0_j59 hc]; done)))
theorem mz55_Mo_pulse_0_j10 {k : Nat} (hc : k = 55) : ∀ (v : fw_V) (x4 : Int32), (mf_Mo_pulse_0_j10 v x4) 0 0 k = v 0 0 k := by
  intro v x4
  unfold mf_Mo_pulse_0_j10
  (try dsimp only)
  all_goals ((repeat' split) <;> (first | with_reducible rfl | (simp only [msend_0k (i := 0) (k := k) (by omega) (by omega) (by omega), mz55_Mo_pulse_0_j11 hc]; done)))
theorem mz55_Mo_pulse_0_j66 {k : Nat} (hc : k = 55) : ∀ (v : fw_V) (x4 : Int32) (x90 : Int32), (mf_Mo_pulse_0_j66 v x4 x90) 0 0 k = v 0 0 k := by
  intro v x4 x90
  unfold mf_Mo_pulse_0_j66
  (try dsimp only)
  all_goals ((repeat' split) <;> (first | with_reducible rfl | (simp only [fw_up_ne (c := 9) (i := 0) (k := 2) (c' := 0) (i' := 0) (k' := k) (by omega), msend_0k (i := 0) (k := k) (by omega) (by omega) (by omega), mz55_Mo_pulse_0_j12 hc, mz55_Mo_pulse_0_j59 hc]; done)))
theorem mz55_Mo_pulse_0_j9 {k : Nat} (hc : k = 55) : ∀ (v : fw_V), (mf_Mo_pulse_0_j9 v) 0 0 k = v 0 0 k := by
  intro v
  unfold mf_Mo_pulse_0_j9
  (try dsimp only)
  all_goals ((repeat' split) <;> (first | with_reducible rfl | (simp only [msend_0k (i := 0) (k := k) (by omega) (by omega) (by omega), mz55_Mo_pulse_0_j10 hc, mz55_Mo_pulse_0_j66 hc]; done)))
theorem mz55_Mo_pulse_0_j8 {k : Nat} (hc : k = 55) : ∀ (v : fw_V), (mf_Mo_pulse_0_j8 v) 0 0 k = v 0 0 k := by
  intro v
  unfold mf_Mo_pulse_0_j8
  (try dsimp only)
  all_goals ((repeat' split) <;> (first | with_reducible rfl | (simp only [msend_0k (i := 0) (k := k) (by omega) (by omega) (by omega), mz55_Mo_pulse_0_j9 hc]; done)))
theorem mz55_Mo_pulse_0_j84 {k : Nat} (hc : k = 55) : ∀ (v : fw_V), (mf_Mo_pulse_0_j84 v) 0 0 k = v 0 0 k := by
  intro v
  unfold mf_Mo_pulse_0_j84
  (try dsimp only)
  all_goals ((repeat' split) <;> (first | with_reducible rfl | (simp only [fw_up_ne (c := 9) (i := 0) (k := 6) (c' := 0) (i' := 0) (k' := k) (by omega), fw_up_ne (c := 34) (i := 0) (k := 0) (c' := 0) (i' := 0) (k' := k) (by omega), msend_0k (i := 0) (k := k) (by omega) (by omega) (by omega), mz55_Mo_reply_0 hc]; done)))
theorem mz55_Mo_pulse_0_j83 {k : Nat} (hc : k = 55) : ∀ (v : fw_V), (mf_Mo_pulse_0_j83 v) 0 0 k = v 0 0 k := by
  intro v
  unfold mf_Mo_pulse_0_j83
  (try dsimp only)
  all_goals ((repeat' split) <;> (first | with_reducible rfl | (simp only [msend_0k (i := 0) (k := k) (by omega) (by omega) (by omega), mz55_Mo_pulse_0_j84 hc]; done)))
theorem mz55_Mo_pulse_0_j86 {k : Nat} (hc : k = 55) : ∀ (v : fw_V), (mf_Mo_pulse_0_j86 v) 0 0 k = v 0 0 k := by
  intro v
  unfold mf_Mo_pulse_0_j86
  (try dsimp only)
  all_goals ((repeat' split) <;> (first | with_reducible rfl | (simp only [fw_up_ne (c := 9) (i := 0) (k := 6) (c' := 0) (i' := 0) (k' := k) (by omega), fw_up_ne (c := 34) (i := 0) (k := 0) (c' := 0) (i' := 0) (k' := k) (by omega), msend_0k (i := 0) (k := k) (by omega) (by omega) (by omega), mz55_Mo_reply_0 hc]; done)))
theorem mz55_Mo_pulse_0_j85 {k : Nat} (hc : k = 55) : ∀ (v : fw_V), (mf_Mo_pulse_0_j85 v) 0 0 k = v 0 0 k := by
  intro v
  unfold mf_Mo_pulse_0_j85
  (try dsimp only)
  all_goals ((repeat' split) <;> (first | with_reducible rfl | (simp only [msend_0k (i := 0) (k := k) (by omega) (by omega) (by omega), mz55_Mo_pulse_0_j86 hc]; done)))
theorem mz55_Mo_pulse_0_j82 {k : Nat} (hc : k = 55) : ∀ (v : fw_V) (x4 : Int32), (mf_Mo_pulse_0_j82 v x4) 0 0 k = v 0 0 k := by
  intro v x4
  unfold mf_Mo_pulse_0_j82
  (try dsimp only)
  all_goals ((repeat' split) <;> (first | with_reducible rfl | (simp only [fw_up_ne (c := 9) (i := 0) (k := 5) (c' := 0) (i' := 0) (k' := k) (by omega), msend_0k (i := 0) (k := k) (by omega) (by omega) (by omega), mz55_Mo_pulse_0_j83 hc, mz55_Mo_pulse_0_j85 hc]; done)))
theorem mz55_Mo_pulse_0_j81 {k : Nat} (hc : k = 55) : ∀ (v : fw_V) (x4 : Int32), (mf_Mo_pulse_0_j81 v x4) 0 0 k = v 0 0 k := by
  intro v x4
  unfold mf_Mo_pulse_0_j81
  (try dsimp only)
  all_goals ((repeat' split) <;> (first | with_reducible rfl | (simp only [msend_0k (i := 0) (k := k) (by omega) (by omega) (by omega), mz55_Mo_pulse_0_j82 hc]; done)))
theorem mz55_Mo_pulse_0_j87 {k : Nat} (hc : k = 55) : ∀ (v : fw_V) (x4 : Int32) (x90 : Int32), (mf_Mo_pulse_0_j87 v x4 x90) 0 0 k = v 0 0 k := by
  intro v x4 x90
  unfold mf_Mo_pulse_0_j87
  (try dsimp only)
  all_goals ((repeat' split) <;> (first | with_reducible rfl | (simp only [fw_up_ne (c := 9) (i := 0) (k := 5) (c' := 0) (i' := 0) (k' := k) (by omega), msend_0k (i := 0) (k := k) (by omega) (by omega) (by omega), mz55_Mo_pulse_0_j83 hc, mz55_Mo_pulse_0_j85 hc]; done)))
theorem mz55_Mo_pulse_0_j80 {k : Nat} (hc : k = 55) : ∀ (v : fw_V), (mf_Mo_pulse_0_j80 v) 0 0 k = v 0 0 k := by
  intro v
  unfold mf_Mo_pulse_0_j80
  (try dsimp only)
  all_goals ((repeat' split) <;> (first | with_reducible rfl | (simp only [msend_0k (i := 0) (k := k) (by omega) (by omega) (by omega), mz55_Mo_pulse_0_j81 hc, mz55_Mo_pulse_0_j87 hc]; done)))
theorem mz55_Mo_pulse_0_j79 {k : Nat} (hc : k = 55) : ∀ (v : fw_V), (mf_Mo_pulse_0_j79 v) 0 0 k = v 0 0 k := by
  intro v
  unfold mf_Mo_pulse_0_j79
  (try dsimp only)
  all_goals ((repeat' split) <;> (first | with_reducible rfl | (simp only [msend_0k (i := 0) (k := k) (by omega) (by omega) (by omega), mz55_Mo_pulse_0_j80 hc]; done)))
theorem mz55_Mo_pulse_0_j92 {k : Nat} (hc : k = 55) : ∀ (v : fw_V), (mf_Mo_pulse_0_j92 v) 0 0 k = v 0 0 k := by
  intro v
  unfold mf_Mo_pulse_0_j92
  (try dsimp only)
  all_goals ((repeat' split) <;> (first | with_reducible rfl | (simp only [msend_0k (i := 0) (k := k) (by omega) (by omega) (by omega), mz55_Mo_pulse_0_j86 hc]; done)))
theorem mz55_Mo_pulse_0_j93 {k : Nat} (hc : k = 55) : ∀ (v : fw_V), (mf_Mo_pulse_0_j93 v) 0 0 k = v 0 0 k := by
  intro v
  unfold mf_Mo_pulse_0_j93
  (try dsimp only)
  all_goals ((repeat' split) <;> (first | with_reducible rfl | (simp only [msend_0k (i := 0) (k := k) (by omega) (by omega) (by omega), mz55_Mo_pulse_0_j86 hc]; done)))
theorem mz55_Mo_pulse_0_j91 {k : Nat} (hc : k = 55) : ∀ (v : fw_V) (x4 : Int32), (mf_Mo_pulse_0_j91 v x4) 0 0 k = v 0 0 k := by
  intro v x4
  unfold mf_Mo_pulse_0_j91
  (try dsimp only)
  all_goals ((repeat' split) <;> (first | with_reducible rfl | (simp only [fw_up_ne (c := 9) (i := 0) (k := 5) (c' := 0) (i' := 0) (k' := k) (by omega), msend_0k (i := 0) (k := k) (by omega) (by omega) (by omega), mz55_Mo_pulse_0_j92 hc, mz55_Mo_pulse_0_j93 hc]; done)))
theorem mz55_Mo_pulse_0_j90 {k : Nat} (hc : k = 55) : ∀ (v : fw_V) (x4 : Int32), (mf_Mo_pulse_0_j90 v x4) 0 0 k = v 0 0 k := by
  intro v x4
  unfold mf_Mo_pulse_0_j90
  (try dsimp only)
  all_goals ((repeat' split) <;> (first | with_reducible rfl | (simp only [msend_0k (i := 0) (k := k) (by omega) (by omega) (by omega), mz55_Mo_pulse_0_j91 hc]; done)))
theorem mz55_Mo_pulse_0_j94 {k : Nat} (hc : k = 55) : ∀ (v : fw_V) (x4 : Int32) (x90 : Int32), (mf_Mo_pulse_0_j94 v x4 x90) 0 0 k = v 0 0 k := by
  intro v x4 x90
  unfold mf_Mo_pulse_0_j94
  (try dsimp only)
  all_goals ((repeat' split) <;> (first | with_reducible rfl | (simp only [fw_up_ne (c := 9) (i := 0) (k := 5) (c' := 0) (i' := 0) (k' := k) (by omega), msend_0k (i := 0) (k := k) (by omega) (by omega) (by omega), mz55_Mo_pulse_0_j92 hc, mz55_Mo_pulse_0_j93 hc]; done)))
theorem mz55_Mo_pulse_0_j89 {k : Nat} (hc : k = 55) : ∀ (v : fw_V), (mf_Mo_pulse_0_j89 v) 0 0 k = v 0 0 k := by
  intro v
  unfold mf_Mo_pulse_0_j89
  (try dsimp only)
  all_goals ((repeat' split) <;> (first | with_reducible rfl | (simp only [msend_0k (i := 0) (k := k) (by omega) (by omega) (by omega), mz55_Mo_pulse_0_j90 hc, mz55_Mo_pulse_0_j94 hc]; done)))
theorem mz55_Mo_pulse_0_j88 {k : Nat} (hc : k = 55) : ∀ (v : fw_V), (mf_Mo_pulse_0_j88 v) 0 0 k = v 0 0 k := by
  intro v
  unfold mf_Mo_pulse_0_j88
  (try dsimp only)
  all_goals ((repeat' split) <;> (first | with_reducible rfl | (simp only [msend_0k (i := 0) (k := k) (by omega) (by omega) (by omega), mz55_Mo_pulse_0_j89 hc]; done)))
theorem mz55_Mo_pulse_0_j78 {k : Nat} (hc : k = 55) : ∀ (v : fw_V) (x4 : Int32), (mf_Mo_pulse_0_j78 v x4) 0 0 k = v 0 0 k := by
  intro v x4
  unfold mf_Mo_pulse_0_j78
  (try dsimp only)
  all_goals ((repeat' split) <;> (first | with_reducible rfl | (simp only [fw_up_ne (c := 9) (i := 0) (k := 4) (c' := 0) (i' := 0) (k' := k) (by omega), msend_0k (i := 0) (k := k) (by omega) (by omega) (by omega), mz55_Mo_pulse_0_j79 hc, mz55_Mo_pulse_0_j88 hc]; done)))
theorem mz55_Mo_pulse_0_j77 {k : Nat} (hc : k = 55) : ∀ (v : fw_V) (x4 : Int32), (mf_Mo_pulse_0_j77 v x4) 0 0 k = v 0 0 k := by
  intro v x4
  unfold mf_Mo_pulse_0_j77
  (try dsimp only)
  all_goals ((repeat' split) <;> (first | with_reducible rfl | (simp only [msend_0k (i := 0) (k := k) (by omega) (by omega) (by omega), mz55_Mo_pulse_0_j78 hc]; done)))
theorem mz55_Mo_pulse_0_j95 {k : Nat} (hc : k = 55) : ∀ (v : fw_V) (x4 : Int32) (x90 : Int32), (mf_Mo_pulse_0_j95 v x4 x90) 0 0 k = v 0 0 k := by
  intro v x4 x90
  unfold mf_Mo_pulse_0_j95
  (try dsimp only)
  all_goals ((repeat' split) <;> (first | with_reducible rfl | (simp only [fw_up_ne (c := 9) (i := 0) (k := 4) (c' := 0) (i' := 0) (k' := k) (by omega), msend_0k (i := 0) (k := k) (by omega) (by omega) (by omega), mz55_Mo_pulse_0_j79 hc, mz55_Mo_pulse_0_j88 hc]; done)))
theorem mz55_Mo_pulse_0_j76 {k : Nat} (hc : k = 55) : ∀ (v : fw_V), (mf_Mo_pulse_0_j76 v) 0 0 k = v 0 0 k := by
  intro v
  unfold mf_Mo_pulse_0_j76
  (try dsimp only)
  all_goals ((repeat' split) <;> (first | with_reducible rfl | (simp only [msend_0k (i := 0) (k := k) (by omega) (by omega) (by omega), mz55_Mo_pulse_0_j77 hc, mz55_Mo_pulse_0_j95 hc]; done)))
theorem mz55_Mo_pulse_0_j75 {k : Nat} (hc : k = 55) : ∀ (v : fw_V), (mf_Mo_pulse_0_j75 v) 0 0 k = v 0 0 k := by
  intro v
  unfold mf_Mo_pulse_0_j75
  (try dsimp only)
  all_goals ((repeat' split) <;> (first | with_reducible rfl | (simp only [msend_0k (i := 0) (k := k) (by omega) (by omega) (by omega), mz55_Mo_pulse_0_j76 hc]; done)))
theorem mz55_Mo_pulse_0_j105 {k : Nat} (hc : k = 55) : ∀ (v : fw_V), (mf_Mo_pulse_0_j105 v) 0 0 k = v 0 0 k := by
  intro v
  unfold mf_Mo_pulse_0_j105
  (try dsimp only)
  all_goals ((repeat' split) <;> (first | with_reducible rfl | (simp only [fw_up_ne (c := 9) (i := 0) (k := 6) (c' := 0) (i' := 0) (k' := k) (by omega), fw_up_ne (c := 34) (i := 0) (k := 0) (c' := 0) (i' := 0) (k' := k) (by omega), msend_0k (i := 0) (k := k) (by omega) (by omega) (by omega), mz55_Mo_reply_0 hc]; done)))
theorem mz55_Mo_pulse_0_j104 {k : Nat} (hc : k = 55) : ∀ (v : fw_V), (mf_Mo_pulse_0_j104 v) 0 0 k = v 0 0 k := by
  intro v
  unfold mf_Mo_pulse_0_j104
  (try dsimp only)
  all_goals ((repeat' split) <;> (first | with_reducible rfl | (simp only [msend_0k (i := 0) (k := k) (by omega) (by omega) (by omega), mz55_Mo_pulse_0_j105 hc]; done)))
theorem mz55_Mo_pulse_0_j107 {k : Nat} (hc : k = 55) : ∀ (v : fw_V), (mf_Mo_pulse_0_j107 v) 0 0 k = v 0 0 k := by
  intro v
  unfold mf_Mo_pulse_0_j107
  (try dsimp only)
  all_goals ((repeat' split) <;> (first | with_reducible rfl | (simp only [fw_up_ne (c := 9) (i := 0) (k := 6) (c' := 0) (i' := 0) (k' := k) (by omega), fw_up_ne (c := 34) (i := 0) (k := 0) (c' := 0) (i' := 0) (k' := k) (by omega), msend_0k (i := 0) (k := k) (by omega) (by omega) (by omega), mz55_Mo_reply_0 hc]; done)))
theorem mz55_Mo_pulse_0_j106 {k : Nat} (hc : k = 55) : ∀ (v : fw_V), (mf_Mo_pulse_0_j106 v) 0 0 k = v 0 0 k := by
  intro v
  unfold mf_Mo_pulse_0_j106
  (try dsimp only)
  all_goals ((repeat' split) <;> (first | with_reducible rfl | (simp only [msend_0k (i := 0) (k := k) (by omega) (by omega) (by omega), mz55_Mo_pulse_0_j107 hc]; done)))
theorem mz55_Mo_pulse_0_j103 {k : Nat} (hc : k = 55) : ∀ (v : fw_V) (x4 : Int32), (mf_Mo_pulse_0_j103 v x4) 0 0 k = v 0 0 k := by
  intro v x4
  unfold mf_Mo_pulse_0_j103
  (try dsimp only)
  all_goals ((repeat' split) <;> (first | with_reducible rfl | (simp only [fw_up_ne (c := 9) (i := 0) (k := 5) (c' := 0) (i' := 0) (k' := k) (by omega), msend_0k (i := 0) (k := k) (by omega) (by omega) (by omega), mz55_Mo_pulse_0_j104 hc, mz55_Mo_pulse_0_j106 hc]; done)))
theorem mz55_Mo_pulse_0_j102 {k : Nat} (hc : k = 55) : ∀ (v : fw_V) (x4 : Int32), (mf_Mo_pulse_0_j102 v x4) 0 0 k = v 0 0 k := by
  intro v x4
  unfold mf_Mo_pulse_0_j102
  (try dsimp only)
  all_goals ((repeat' split) <;> (first | with_reducible rfl | (simp only [msend_0k (i := 0) (k := k) (by omega) (by omega) (by omega), mz55_Mo_pulse_0_j103 hc]; done)))
theorem mz55_Mo_pulse_0_j108 {k : Nat} (hc : k = 55) : ∀ (v : fw_V) (x4 : Int32) (x90 : Int32), (mf_Mo_pulse_0_j108 v x4 x90) 0 0 k = v 0 0 k := by
  intro v x4 x90
  unfold mf_Mo_pulse_0_j108
  (try dsimp only)
  all_goals ((repeat' split) <;> (first | with_reducible rfl | (simp only [fw_up_ne (c := 9) (i := 0) (k := 5) (c' := 0) (i' := 0) (k' := k) (by omega), msend_0k (i := 0) (k := k) (by omega) (by omega) (by omega), mz55_Mo_pulse_0_j104 hc, mz55_Mo_pulse_0_j106 hc]; done)))
theorem mz55_Mo_pulse_0_j101 {k : Nat} (hc : k = 55) : ∀ (v : fw_V), (mf_Mo_pulse_0_j101 v) 0 0 k = v 0 0 k := by
  intro v
  unfold mf_Mo_pulse_0_j101
  (try dsimp only)
  all_goals ((repeat' split) <;> (first | with_reducible rfl | (simp only [msend_0k (i := 0) (k := k) (by omega) (by omega) (by omega), mz55_Mo_pulse_0_j102 hc, mz55_Mo_pulse_0_j108 hc]; done)))
theorem mz55_Mo_pulse_0_j100 {k : Nat} (hc : k = 55) : ∀ (v : fw_V), (mf_Mo_pulse_0_j100 v) 0 0 k = v 0 0 k := by
  intro v
  unfold mf_Mo_pulse_0_j100
  (try dsimp only)
  all_goals ((repeat' split) <;> (first | with_reducible rfl | (simp only [msend_0k (i := 0) (k := k) (by omega) (by omega) (by omega), mz55_Mo_pulse_0_j101 hc]; done)))
theorem mz55_Mo_pulse_0_j113 {k : Nat} (hc : k = 55) : ∀ (v : fw_V), (mf_Mo_pulse_0_j113 v) 0 0 k = v 0 0 k := by
  intro v
  unfold mf_Mo_pulse_0_j113
  (try dsimp only)
  all_goals ((repeat' split) <;> (first | with_reducible rfl | (simp only [msend_0k (i := 0) (k := k) (by omega) (by omega) (by omega), mz55_Mo_pulse_0_j107 hc]; done)))
theorem mz55_Mo_pulse_0_j114 {k : Nat} (hc : k = 55) : ∀ (v : fw_V), (mf_Mo_pulse_0_j114 v) 0 0 k = v 0 0 k := by
  intro v
  unfold mf_Mo_pulse_0_j114
  (try dsimp only)
  all_goals ((repeat' split) <;> (first | with_reducible rfl | (simp only [msend_0k (i := 0) (k := k) (by omega) (by omega) (by omega), mz55_Mo_pulse_0_j107 hc]; done)))
theorem mz55_Mo_pulse_0_j112 {k : Nat} (hc : k = 55) : ∀ (v : fw_V) (x4 : Int32), (mf_Mo_pulse_0_j112 v x4) 0 0 k = v 0 0 k := by
  intro v x4
  unfold mf_Mo_pulse_0_j112
  (try dsimp only)
  all_goals ((repeat' split) <;> (first | with_reducible rfl | (simp only [fw_up_ne (c := 9) (i := 0) (k := 5) (c' := 0) (i' := 0) (k' := k) (by omega), msend_0k (i := 0) (k := k) (by omega) (by omega) (by omega), mz55_Mo_pulse_0_j113 hc, mz55_Mo_pulse_0_j114 hc]; done)))
theorem mz55_Mo_pulse_0_j111 {k : Nat} (hc : k = 55) : ∀ (v : fw_V) (x4 : Int32), (mf_Mo_pulse_0_j111 v x4) 0 0 k = v 0 0 k := by
  intro v x4
  unfold mf_Mo_pulse_0_j111
  (try dsimp only)
  all_goals ((repeat' split) <;> (first | with_reducible rfl | (simp only [msend_0k (i := 0) (k := k) (by omega) (by omega) (by omega), mz55_Mo_pulse_0_j112 hc]; done)))
theorem mz55_Mo_pulse_0_j115 {k : Nat} (hc : k = 55) : ∀ (v : fw_V) (x4 : Int32) (x90 : Int32), (mf_Mo_pulse_0_j115 v x4 x90) 0 0 k = v 0 0 k := by
  intro v x4 x90
  unfold mf_Mo_pulse_0_j115
  (try dsimp only)
  all_goals ((repeat' split) <;> (first | with_reducible rfl | (simp only [fw_up_ne (c := 9) (i := 0) (k := 5) (c' := 0) (i' := 0) (k' := k) (by omega), msend_0k (i := 0) (k := k) (by omega) (by omega) (by omega), mz55_Mo_pulse_0_j113 hc, mz55_Mo_pulse_0_j114 hc]; done)))
theorem mz55_Mo_pulse_0_j110 {k : Nat} (hc : k = 55) : ∀ (v : fw_V), (mf_Mo_pulse_0_j110 v) 0 0 k = v 0 0 k := by
  intro v
  unfold mf_Mo_pulse_0_j110
  (try dsimp only)
  all_goals ((repeat' split) <;> (first | with_reducible rfl | (simp only [msend_0k (i := 0) (k := k) (by omega) (by omega) (by omega), mz55_Mo_pulse_0_j111 hc, mz55_Mo_pulse_0_j115 hc]; done)))
theorem mz55_Mo_pulse_0_j109 {k : Nat} (hc : k = 55) : ∀ (v : fw_V), (mf_Mo_pulse_0_j109 v) 0 0 k = v 0 0 k := by
  intro v
  unfold mf_Mo_pulse_0_j109
  (try dsimp only)
  all_goals ((repeat' split) <;> (first | with_reducible rfl | (simp only [msend_0k (i := 0) (k := k) (by omega) (by omega) (by omega), mz55_Mo_pulse_0_j110 hc]; done)))
theorem mz55_Mo_pulse_0_j99 {k : Nat} (hc : k = 55) : ∀ (v : fw_V) (x4 : Int32), (mf_Mo_pulse_0_j99 v x4) 0 0 k = v 0 0 k := by
  intro v x4
  unfold mf_Mo_pulse_0_j99
  (try dsimp only)
  all_goals ((repeat' split) <;> (first | with_reducible rfl | (simp only [fw_up_ne (c := 9) (i := 0) (k := 4) (c' := 0) (i' := 0) (k' := k) (by omega), msend_0k (i := 0) (k := k) (by omega) (by omega) (by omega), mz55_Mo_pulse_0_j100 hc, mz55_Mo_pulse_0_j109 hc]; done)))
theorem mz55_Mo_pulse_0_j98 {k : Nat} (hc : k = 55) : ∀ (v : fw_V) (x4 : Int32), (mf_Mo_pulse_0_j98 v x4) 0 0 k = v 0 0 k := by
  intro v x4
  unfold mf_Mo_pulse_0_j98
  (try dsimp only)
  all_goals ((repeat' split) <;> (first | with_reducible rfl | (simp only [msend_0k (i := 0) (k := k) (by omega) (by omega) (by omega), mz55_Mo_pulse_0_j99 hc]; done)))
theorem mz55_Mo_pulse_0_j116 {k : Nat} (hc : k = 55) : ∀ (v : fw_V) (x4 : Int32) (x90 : Int32), (mf_Mo_pulse_0_j116 v x4 x90) 0 0 k = v 0 0 k := by
  intro v x4 x90
  unfold mf_Mo_pulse_0_j116
  (try dsimp only)
  all_goals ((repeat' split) <;> (first | with_reducible rfl | (simp only [fw_up_ne (c := 9) (i := 0) (k := 4) (c' := 0) (i' := 0) (k' := k) (by omega), msend_0k (i := 0) (k := k) (by omega) (by omega) (by omega), mz55_Mo_pulse_0_j100 hc, mz55_Mo_pulse_0_j109 hc]; done)))
theorem mz55_Mo_pulse_0_j97 {k : Nat} (hc : k = 55) : ∀ (v : fw_V), (mf_Mo_pulse_0_j97 v) 0 0 k = v 0 0 k := by
  intro v
  unfold mf_Mo_pulse_0_j97
  (try dsimp only)
  all_goals ((repeat' split) <;> (first | with_reducible rfl | (simp only [msend_0k (i := 0) (k := k) (by omega) (by omega) (by omega), mz55_Mo_pulse_0_j98 hc, mz55_Mo_pulse_0_j116 hc]; done)))
theorem mz55_Mo_pulse_0_j96 {k : Nat} (hc : k = 55) : ∀ (v : fw_V), (mf_Mo_pulse_0_j96 v) 0 0 k = v 0 0 k := by
  intro v
  unfold mf_Mo_pulse_0_j96
  (try dsimp only)
  all_goals ((repeat' split) <;> (first | with_reducible rfl | (simp only [msend_0k (i := 0) (k := k) (by omega) (by omega) (by omega), mz55_Mo_pulse_0_j97 hc]; done)))
theorem mz55_Mo_pulse_0_j74 {k : Nat} (hc : k = 55) : ∀ (v : fw_V) (x4 : Int32), (mf_Mo_pulse_0_j74 v x4) 0 0 k = v 0 0 k := by
  intro v x4
  unfold mf_Mo_pulse_0_j74
  (try dsimp only)
  all_goals ((repeat' split) <;> (first | with_reducible rfl | (simp only [fw_up_ne (c := 9) (i := 0) (k := 3) (c' := 0) (i' := 0) (k' := k) (by omega), msend_0k (i := 0) (k := k) (by omega) (by omega) (by omega), mz55_Mo_pulse_0_j75 hc, mz55_Mo_pulse_0_j96 hc]; done)))
theorem mz55_Mo_pulse_0_j73 {k : Nat} (hc : k = 55) : ∀ (v : fw_V) (x4 : Int32), (mf_Mo_pulse_0_j73 v x4) 0 0 k = v 0 0 k := by
  intro v x4
  unfold mf_Mo_pulse_0_j73
  (try dsimp only)
  all_goals ((repeat' split) <;> (first | with_reducible rfl | (simp only [msend_0k (i := 0) (k := k) (by omega) (by omega) (by omega), mz55_Mo_pulse_0_j74 hc]; done)))
theorem mz55_Mo_pulse_0_j117 {k : Nat} (hc : k = 55) : ∀ (v : fw_V) (x4 : Int32) (x90 : Int32), (mf_Mo_pulse_0_j117 v x4 x90) 0 0 k = v 0 0 k := by
  intro v x4 x90
  unfold mf_Mo_pulse_0_j117
  (try dsimp only)
  all_goals ((repeat' split) <;> (first | with_reducible rfl | (simp only [fw_up_ne (c := 9) (i := 0) (k := 3) (c' := 0) (i' := 0) (k' := k) (by omega), msend_0k (i := 0) (k := k) (by omega) (by omega) (by omega), mz55_Mo_pulse_0_j75 hc, mz55_Mo_pulse_0_j96 hc]; done)))
theorem mz55_Mo_pulse_0_j72 {k : Nat} (hc : k = 55) : ∀ (v : fw_V), (mf_Mo_pulse_0_j72 v) 0 0 k = v 0 0 k := by
  intro v
  unfold mf_Mo_pulse_0_j72
  (try dsimp only)
  all_goals ((repeat' split) <;> (first | with_reducible rfl | (simp only [msend_0k (i := 0) (k := k) (by omega) (by omega) (by omega), mz55_Mo_pulse_0_j73 hc, mz55_Mo_pulse_0_j117 hc]; done)))
theorem mz55_Mo_pulse_0_j71 {k : Nat} (hc : k = 55) : ∀ (v : fw_V), (mf_Mo_pulse_0_j71 v) 0 0 k = v 0 0 k := by
  intro v
  unfold mf_Mo_pulse_0_j71
  (try dsimp only)
  all_goals ((repeat' split) <;> (first | with_reducible rfl | (simp only [msend_0k (i := 0) (k := k) (by omega) (by omega) (by omega), mz55_Mo_pulse_0_j72 hc]; done)))
theorem mz55_Mo_pulse_0_j122 {k : Nat} (hc : k = 55) : ∀ (v : fw_V), (mf_Mo_pulse_0_j122 v) 0 0 k = v 0 0 k := by
  intro v
  unfold mf_Mo_pulse_0_j122
  (try dsimp only)
  all_goals ((repeat' split) <;> (first | with_reducible rfl | (simp only [msend_0k (i := 0) (k := k) (by omega) (by omega) (by omega), mz55_Mo_pulse_0_j97 hc]; done)))
theorem mz55_Mo_pulse_0_j123 {k : Nat} (hc : k = 55) : ∀ (v : fw_V), (mf_Mo_pulse_0_j123 v) 0 0 k = v 0 0 k := by
  intro v
  unfold mf_Mo_pulse_0_j123
  (try dsimp only)
  all_goals ((repeat' split) <;> (first | with_reducible rfl | (simp only [msend_0k (i := 0) (k := k) (by omega) (by omega) (by omega), mz55_Mo_pulse_0_j97 hc]; done)))
theorem mz55_Mo_pulse_0_j121 {k : Nat} (hc : k = 55) : ∀ (v : fw_V) (x4 : Int32), (mf_Mo_pulse_0_j121 v x4) 0 0 k = v 0 0 k := by
  intro v x4
  unfold mf_Mo_pulse_0_j121
  (try dsimp only)
  all_goals ((repeat' split) <;> (first | with_reducible rfl | (simp only [fw_up_ne (c := 9) (i := 0) (k := 3) (c' := 0) (i' := 0) (k' := k) (by omega), msend_0k (i := 0) (k := k) (by omega) (by omega) (by omega), mz55_Mo_pulse_0_j122 hc, mz55_Mo_pulse_0_j123 hc]; done)))
theorem mz55_Mo_pulse_0_j120 {k : Nat} (hc : k = 55) : ∀ (v : fw_V) (x4 : Int32), (mf_Mo_pulse_0_j120 v x4) 0 0 k = v 0 0 k := by
  intro v x4
  unfold mf_Mo_pulse_0_j120
  (try dsimp only)
  all_goals ((repeat' split) <;> (first | with_reducible rfl | (simp only [msend_0k (i := 0) (k := k) (by omega) (by omega) (by omega), mz55_Mo_pulse_0_j121 hc]; done)))
theorem mz55_Mo_pulse_0_j124 {k : Nat} (hc : k = 55) : ∀ (v : fw_V) (x4 : Int32) (x90 : Int32), (mf_Mo_pulse_0_j124 v x4 x90) 0 0 k = v 0 0 k := by
  intro v x4 x90
  unfold mf_Mo_pulse_0_j124
  (try dsimp only)
  all_goals ((repeat' split) <;> (first | with_reducible rfl | (simp only [fw_up_ne (c := 9) (i := 0) (k := 3) (c' := 0) (i' := 0) (k' := k) (by omega), msend_0k (i := 0) (k := k) (by omega) (by omega) (by omega), mz55_Mo_pulse_0_j122 hc, mz55_Mo_pulse_0_j123 hc]; done)))
theorem mz55_Mo_pulse_0_j119 {k : Nat} (hc : k = 55) : ∀ (v : fw_V), (mf_Mo_pulse_0_j119 v) 0 0 k = v 0 0 k := by
  intro v
  unfold mf_Mo_pulse_0_j119
  (try dsimp only)
  all_goals ((repeat' split) <;> (first | with_reducible rfl | (simp only [msend_0k (i := 0) (k := k) (by omega) (by omega) (by omega), mz55_Mo_pulse_0_j120 hc, mz55_Mo_pulse_0_j124 hc]; done)))
theorem mz55_Mo_pulse_0_j118 {k : Nat} (hc : k = 55) : ∀ (v : fw_V), (mf_Mo_pulse_0_j118 v) 0 0 k = v 0 0 k := by
  intro v
  unfold mf_Mo_pulse_0_j118
  (try dsimp only)
  all_goals ((repeat' split) <;> (first | with_reducible rfl | (simp only [msend_0k (i := 0) (k := k) (by omega) (by omega) (by omega), mz55_Mo_pulse_0_j119 hc]; done)))
theorem mz55_Mo_pulse_0_j70 {k : Nat} (hc : k = 55) : ∀ (v : fw_V) (x4 : Int32), (mf_Mo_pulse_0_j70 v x4) 0 0 k = v 0 0 k := by
  intro v x4
  unfold mf_Mo_pulse_0_j70
  (try dsimp only)
  all_goals ((repeat' split) <;> (first | with_reducible rfl | (simp only [fw_up_ne (c := 9) (i := 0) (k := 2) (c' := 0) (i' := 0) (k' := k) (by omega), msend_0k (i := 0) (k := k) (by omega) (by omega) (by omega), mz55_Mo_pulse_0_j71 hc, mz55_Mo_pulse_0_j118 hc]; done)))
theorem mz55_Mo_pulse_0_j69 {k : Nat} (hc : k = 55) : ∀ (v : fw_V) (x4 : Int32), (mf_Mo_pulse_0_j69 v x4) 0 0 k = v 0 0 k := by
  intro v x4
  unfold mf_Mo_pulse_0_j69
  (try dsimp only)
  all_goals ((repeat' split) <;> (first | with_reducible rfl | (simp only [msend_0k (i := 0) (k := k) (by omega) (by omega) (by omega), mz55_Mo_pulse_0_j70 hc]; done)))
theorem mz55_Mo_pulse_0_j125 {k : Nat} (hc : k = 55) : ∀ (v : fw_V) (x4 : Int32) (x90 : Int32), (mf_Mo_pulse_0_j125 v x4 x90) 0 0 k = v 0 0 k := by
  intro v x4 x90
  unfold mf_Mo_pulse_0_j125
  (try dsimp only)
  all_goals ((repeat' split) <;> (first | with_reducible rfl | (simp only [fw_up_ne (c := 9) (i := 0) (k := 2) (c' := 0) (i' := 0) (k' := k) (by omega), msend_0k (i := 0) (k := k) (by omega) (by omega) (by omega), mz55_Mo_pulse_0_j71 hc, mz55_Mo_pulse_0_j118 hc]; done)))
theorem mz55_Mo_pulse_0_j68 {k : Nat} (hc : k = 55) : ∀ (v : fw_V), (mf_Mo_pulse_0_j68 v) 0 0 k = v 0 0 k := by
  intro v
  unfold mf_Mo_pulse_0_j68
  (try dsimp only)
  all_goals ((repeat' split) <;> (first | with_reducible rfl | (simp only [msend_0k (i := 0) (k := k) (by omega) (by omega) (by omega), mz55_Mo_pulse_0_j69 hc, mz55_Mo_pulse_0_j125 hc]; done)))
theorem mz55_Mo_pulse_0_j67 {k : Nat} (hc : k = 55) : ∀ (v : fw_V), (mf_Mo_pulse_0_j67 v) 0 0 k = v 0 0 k := by
  intro v
  unfold mf_Mo_pulse_0_j67
  (try dsimp only)
  all_goals ((repeat' split) <;> (first | with_reducible rfl | (simp only [msend_0k (i := 0) (k := k) (by omega) (by omega) (by omega), mz55_Mo_pulse_0_j68 hc]; done)))
theorem mz55_Mo_pulse_0_j7 {k : Nat} (hc : k = 55) : ∀ (v : fw_V) (x4 : Int32), (mf_Mo_pulse_0_j7 v x4) 0 0 k = v 0 0 k := by
  intro v x4
  unfold mf_Mo_pulse_0_j7
  (try dsimp only)
  all_goals ((repeat' split) <;> (first | with_reducible rfl | (simp only [fw_up_ne (c := 9) (i := 0) (k := 1) (c' := 0) (i' := 0) (k' := k) (by omega), msend_0k (i := 0) (k := k) (by omega) (by omega) (by omega), mz55_Mo_pulse_0_j8 hc, mz55_Mo_pulse_0_j67 hc]; done)))
theorem mz55_Mo_pulse_0_j6 {k : Nat} (hc : k = 55) : ∀ (v : fw_V) (x4 : Int32), (mf_Mo_pulse_0_j6 v x4) 0 0 k = v 0 0 k := by
  intro v x4
  unfold mf_Mo_pulse_0_j6
  (try dsimp only)
  all_goals ((repeat' split) <;> (first | with_reducible rfl | (simp only [msend_0k (i := 0) (k := k) (by omega) (by omega) (by omega), mz55_Mo_pulse_0_j7 hc]; done)))
theorem mz55_Mo_pulse_0_j126 {k : Nat} (hc : k = 55) : ∀ (v : fw_V) (x4 : Int32) (x90 : Int32), (mf_Mo_pulse_0_j126 v x4 x90) 0 0 k = v 0 0 k := by
  intro v x4 x90
  unfold mf_Mo_pulse_0_j126
  (try dsimp only)
  all_goals ((repeat' split) <;> (first | with_reducible rfl | (simp only [fw_up_ne (c := 9) (i := 0) (k := 1) (c' := 0) (i' := 0) (k' := k) (by omega), msend_0k (i := 0) (k := k) (by omega) (by omega) (by omega), mz55_Mo_pulse_0_j8 hc, mz55_Mo_pulse_0_j67 hc]; done)))
theorem mz55_Mo_pulse_0_j5 {k : Nat} (hc : k = 55) : ∀ (v : fw_V), (mf_Mo_pulse_0_j5 v) 0 0 k = v 0 0 k := by
  intro v
  unfold mf_Mo_pulse_0_j5
  (try dsimp only)
  all_goals ((repeat' split) <;> (first | with_reducible rfl | (simp only [msend_0k (i := 0) (k := k) (by omega) (by omega) (by omega), mz55_Mo_pulse_0_j6 hc, mz55_Mo_pulse_0_j126 hc]; done)))
theorem mz55_Mo_pulse_0_j4 {k : Nat} (hc : k = 55) : ∀ (v : fw_V), (mf_Mo_pulse_0_j4 v) 0 0 k = v 0 0 k := by
  intro v
  unfold mf_Mo_pulse_0_j4
  (try dsimp only)
  all_goals ((repeat' split) <;> (first | with_reducible rfl | (simp only [msend_0k (i := 0) (k := k) (by omega) (by omega) (by omega), mz55_Mo_pulse_0_j5 hc]; done)))
theorem mz55_Mo_pulse_0_j131 {k : Nat} (hc : k = 55) : ∀ (v : fw_V), (mf_Mo_pulse_0_j131 v) 0 0 k = v 0 0 k := by
  intro v
  unfold mf_Mo_pulse_0_j131
  (try dsimp only)
  all_goals ((repeat' split) <;> (first | with_reducible rfl | (simp only [msend_0k (i := 0) (k := k) (by omega) (by omega) (by omega), mz55_Mo_pulse_0_j68 hc]; done)))
theorem mz55_Mo_pulse_0_j132 {k : Nat} (hc : k = 55) : ∀ (v : fw_V), (mf_Mo_pulse_0_j132 v) 0 0 k = v 0 0 k := by
  intro v
  unfold mf_Mo_pulse_0_j132
  (try dsimp only)
  all_goals ((repeat' split) <;> (first | with_reducible rfl | (simp only [msend_0k (i := 0) (k := k) (by omega) (by omega) (by omega), mz55_Mo_pulse_0_j68 hc]; done)))
theorem mz55_Mo_pulse_0_j130 {k : Nat} (hc : k = 55) : ∀ (v : fw_V) (x4 : Int32), (mf_Mo_pulse_0_j130 v x4) 0 0 k = v 0 0 k := by
  intro v x4
  unfold mf_Mo_pulse_0_j130
  (try dsimp only)
  all_goals ((repeat' split) <;> (first | with_reducible rfl | (simp only [fw_up_ne (c := 9) (i := 0) (k := 1) (c' := 0) (i' := 0) (k' := k) (by omega), msend_0k (i := 0) (k := k) (by omega) (by omega) (by omega), mz55_Mo_pulse_0_j131 hc, mz55_Mo_pulse_0_j132 hc]; done)))
theorem mz55_Mo_pulse_0_j129 {k : Nat} (hc : k = 55) : ∀ (v : fw_V) (x4 : Int32), (mf_Mo_pulse_0_j129 v x4) 0 0 k = v 0 0 k := by
  intro v x4
  unfold mf_Mo_pulse_0_j129
  (try dsimp only)
  all_goals ((repeat' split) <;> (first | with_reducible rfl | (simp only [msend_0k (i := 0) (k := k) (by omega) (by omega) (by omega), mz55_Mo_pulse_0_j130 hc]; done)))
theorem mz55_Mo_pulse_0_j133 {k : Nat} (hc : k = 55) : ∀ (v : fw_V) (x4 : Int32) (x90 : Int32), (mf_Mo_pulse_0_j133 v x4 x90) 0 0 k = v 0 0 k := by
  intro v x4 x90
  unfold mf_Mo_pulse_0_j133
  (try dsimp only)
  all_goals ((repeat' split) <;> (first | with_reducible rfl | (simp only [fw_up_ne (c := 9) (i := 0) (k := 1) (c' := 0) (i' := 0) (k' := k) (by omega), msend_0k (i := 0) (k := k) (by omega) (by omega) (by omega), mz55_Mo_pulse_0_j131 hc, mz55_Mo_pulse_0_j132 hc]; done)))
theorem mz55_Mo_pulse_0_j128 {k : Nat} (hc : k = 55) : ∀ (v : fw_V), (mf_Mo_pulse_0_j128 v) 0 0 k = v 0 0 k := by
  intro v
  unfold mf_Mo_pulse_0_j128
  (try dsimp only)
  all_goals ((repeat' split) <;> (first | with_reducible rfl | (simp only [msend_0k (i := 0) (k := k) (by omega) (by omega) (by omega), mz55_Mo_pulse_0_j129 hc, mz55_Mo_pulse_0_j133 hc]; done)))
theorem mz55_Mo_pulse_0_j127 {k : Nat} (hc : k = 55) : ∀ (v : fw_V), (mf_Mo_pulse_0_j127 v) 0 0 k = v 0 0 k := by
  intro v
  unfold mf_Mo_pulse_0_j127
  (try dsimp only)
  all_goals ((repeat' split) <;> (first | with_reducible rfl | (simp only [msend_0k (i := 0) (k := k) (by omega) (by omega) (by omega), mz55_Mo_pulse_0_j128 hc]; done)))
theorem mz55_Mo_pulse_0_j3 {k : Nat} (hc : k = 55) : ∀ (v : fw_V) (x4 : Int32), (mf_Mo_pulse_0_j3 v x4) 0 0 k = v 0 0 k := by
  intro v x4
  unfold mf_Mo_pulse_0_j3
  (try dsimp only)
  all_goals ((repeat' split) <;> (first | with_reducible rfl | (simp only [fw_up_ne (c := 9) (i := 0) (k := 0) (c' := 0) (i' := 0) (k' := k) (by omega), msend_0k (i := 0) (k := k) (by omega) (by omega) (by omega), mz55_Mo_pulse_0_j4 hc, mz55_Mo_pulse_0_j127 hc]; done)))
theorem mz55_Mo_pulse_0_j2 {k : Nat} (hc : k = 55) : ∀ (v : fw_V) (x4 : Int32), (mf_Mo_pulse_0_j2 v x4) 0 0 k = v 0 0 k := by
  intro v x4
  unfold mf_Mo_pulse_0_j2
  (try dsimp only)
  all_goals ((repeat' split) <;> (first | with_reducible rfl | (simp only [msend_0k (i := 0) (k := k) (by omega) (by omega) (by omega), mz55_Mo_pulse_0_j3 hc]; done)))
theorem mz55_Mo_pulse_0_j134 {k : Nat} (hc : k = 55) : ∀ (v : fw_V) (x4 : Int32) (x90 : Int32), (mf_Mo_pulse_0_j134 v x4 x90) 0 0 k = v 0 0 k := by
  intro v x4 x90
  unfold mf_Mo_pulse_0_j134
  (try dsimp only)
  all_goals ((repeat' split) <;> (first | with_reducible rfl | (simp only [fw_up_ne (c := 9) (i := 0) (k := 0) (c' := 0) (i' := 0) (k' := k) (by omega), msend_0k (i := 0) (k := k) (by omega) (by omega) (by omega), mz55_Mo_pulse_0_j4 hc, mz55_Mo_pulse_0_j127 hc]; done)))
theorem mz55_Mo_pulse_0_j1 {k : Nat} (hc : k = 55) : ∀ (v : fw_V), (mf_Mo_pulse_0_j1 v) 0 0 k = v 0 0 k := by
  intro v
  unfold mf_Mo_pulse_0_j1
  (try dsimp only)
  all_goals ((repeat' split) <;> (first | with_reducible rfl | (simp only [msend_0k (i := 0) (k := k) (by omega) (by omega) (by omega), mz55_Mo_pulse_0_j2 hc, mz55_Mo_pulse_0_j134 hc]; done)))
theorem mz55_Mo_pulse_0 {k : Nat} (hc : k = 55) : ∀ (v0 : fw_V), (mf_Mo_pulse_0 v0) 0 0 k = v0 0 0 k := by
  intro v0
  unfold mf_Mo_pulse_0
  (try dsimp only)
  all_goals ((repeat' split) <;> (first | with_reducible rfl | (simp only [fw_up_ne (c := 32) (i := 0) (k := 0) (c' := 0) (i' := 0) (k' := k) (by omega), fw_up_ne (c := 33) (i := 0) (k := 0) (c' := 0) (i' := 0) (k' := k) (by omega), fw_up_ne (c := 0) (i := 0) (k := 56) (c' := 0) (i' := 0) (k' := k) (by omega), msend_0k (i := 0) (k := k) (by omega) (by omega) (by omega), mz55_Mo_rest_0 hc, mz55_Mo_quit_0 hc, mz55_Mo_reply_0 hc, mz55_Mo_alarm_0 hc, mz55_Mo_pulse_0_j1 hc]; done)))
theorem mz55_Mo_enter_1 {k : Nat} (hc : k = 55) : ∀ (v0 : fw_V) (a2 : Int32), (mf_Mo_enter_1 v0 a2) 0 0 k = v0 0 0 k := by
  intro v0 a2
  unfold mf_Mo_enter_1
  (try dsimp only)
  all_goals ((repeat' split) <;> (first | with_reducible rfl | (simp only [fw_up_ne (c := 12) (i := 0) (k := 1) (c' := 0) (i' := 0) (k' := k) (by omega), fw_up_ne (c := 18) (i := 0) (k := 1) (c' := 0) (i' := 0) (k' := k) (by omega), fw_up_ne (c := 19) (i := 0) (k := 1) (c' := 0) (i' := 0) (k' := k) (by omega), msend_0k (i := 0) (k := k) (by omega) (by omega) (by omega)]; done)))
theorem mz55_Mo_ask_1 {k : Nat} (hc : k = 55) : ∀ (v0 : fw_V), (mf_Mo_ask_1 v0) 0 0 k = v0 0 0 k := by
  intro v0
  unfold mf_Mo_ask_1
  (try dsimp only)
  all_goals ((repeat' split) <;> (first | with_reducible rfl | (simp only [fw_up_ne (c := 18) (i := 0) (k := 1) (c' := 0) (i' := 0) (k' := k) (by omega), fw_up_ne (c := 9) (i := 0) (k := 0) (c' := 0) (i' := 0) (k' := k) (by omega), fw_up_ne (c := 9) (i := 0) (k := 1) (c' := 0) (i' := 0) (k' := k) (by omega), fw_up_ne (c := 9) (i := 0) (k := 2) (c' := 0) (i' := 0) (k' := k) (by omega), msend_0k (i := 0) (k := k) (by omega) (by omega) (by omega)]; done)))
theorem mz55_Mo_shut_1 {k : Nat} (hc : k = 55) : ∀ (v0 : fw_V), (mf_Mo_shut_1 v0) 0 0 k = v0 0 0 k := by
  intro v0
  unfold mf_Mo_shut_1
  (try dsimp only)
  all_goals ((repeat' split) <;> (first | with_reducible rfl | (simp only [fw_up_ne (c := 13) (i := 0) (k := 1) (c' := 0) (i' := 0) (k' := k) (by omega), fw_up_ne (c := 15) (i := 0) (k := 1) (c' := 0) (i' := 0) (k' := k) (by omega), fw_up_ne (c := 16) (i := 0) (k := 1) (c' := 0) (i' := 0) (k' := k) (by omega), fw_up_ne (c := 17) (i := 0) (k := 1) (c' := 0) (i' := 0) (k' := k) (by omega), fw_up_ne (c := 27) (i := 0) (k := 6) (c' := 0) (i' := 0) (k' := k) (by omega), fw_up_ne (c := 27) (i := 0) (k := 7) (c' := 0) (i' := 0) (k' := k) (by omega), fw_up_ne (c := 27) (i := 0) (k := 8) (c' := 0) (i' := 0) (k' := k) (by omega), fw_up_ne (c := 27) (i := 0) (k := 9) (c' := 0) (i' := 0) (k' := k) (by omega), fw_up_ne (c := 27) (i := 0) (k := 10) (c' := 0) (i' := 0) (k' := k) (by omega), fw_up_ne (c := 27) (i := 0) (k := 11) (c' := 0) (i' := 0) (k' := k) (by omega), msend_0k (i := 0) (k := k) (by omega) (by omega) (by omega), mz55_Mo_enter_1 hc]; done)))
theorem mz55_Mo_write_1_j2 {k : Nat} (hc : k = 55) : ∀ (v : fw_V) (a2 : Int32) (x3 : Int32), (mf_Mo_write_1_j2 v a2 x3) 0 0 k = v 0 0 k := by
  intro v a2 x3
  unfold mf_Mo_write_1_j2
  (try dsimp only)
  all_goals ((repeat' split) <;> (first | with_reducible rfl | (simp only [fw_up_ne (c := 20) (i := 0) (k := 1) (c' := 0) (i' := 0) (k' := k) (by omega), msend_0k (i := 0) (k := k) (by omega) (by omega) (by omega), mz55_Mo_enter_1 hc, mz55_Mo_ask_1 hc]; done)))
theorem mz55_Mo_write_1_j3 {k : Nat} (hc : k = 55) : ∀ (v : fw_V) (a2 : Int32) (x3 : Int32), (mf_Mo_write_1_j3 v a2 x3) 0 0 k = v 0 0 k := by
  intro v a2 x3
  unfold mf_Mo_write_1_j3
  (try dsimp only)
  all_goals ((repeat' split) <;> (first | with_reducible rfl | (simp only [fw_up_ne (c := 20) (i := 0) (k := 1) (c' := 0) (i' := 0) (k' := k) (by omega), msend_0k (i := 0) (k := k) (by omega) (by omega) (by omega), mz55_Mo_enter_1 hc, mz55_Mo_ask_1 hc]; done)))
theorem mz55_Mo_write_1_j1 {k : Nat} (hc : k = 55) : ∀ (n : Nat) (v : fw_V) (a2 : Int32) (x3 : Int32), (mf_Mo_write_1_j1 n v a2 x3) 0 0 k = v 0 0 k := by
  intro n
  induction n with
  | zero => intros; rfl
  | succ n ih =>
    intro v a2 x3
    unfold mf_Mo_write_1_j1
    (try dsimp only)
    all_goals ((repeat' split) <;> (first | with_reducible rfl | (simp only [ih, msend_0k (i := 0) (k := k) (by omega) (by omega) (by omega), mz55_Mo_write_1_j2 hc, mz55_Mo_write_1_j3 hc]; done)))
theorem mz55_Mo_write_1 {k : Nat} (hc : k = 55) : ∀ (v0 : fw_V) (a2 : Int32), (mf_Mo_write_1 v0 a2) 0 0 k = v0 0 0 k := by
  intro v0 a2
  unfold mf_Mo_write_1
  (try dsimp only)
  all_goals ((repeat' split) <;> (first | with_reducible rfl | (simp only [msend_0k (i := 0) (k := k) (by omega) (by omega) (by omega), mz55_Mo_write_1_j1 hc]; done)))
theorem mz55_Mo_breakOff_1 {k : Nat} (hc : k = 55) : ∀ (v0 : fw_V), (mf_Mo_breakOff_1 v0) 0 0 k = v0 0 0 k := by
  intro v0
  unfold mf_Mo_breakOff_1
  (try dsimp only)
  all_goals ((repeat' split) <;> (first | with_reducible rfl | (simp only [msend_0k (i := 0) (k := k) (by omega) (by omega) (by omega), mz55_Mo_shut_1 hc]; done)))
theorem mz55_Mo_beat_1_j25 {k : Nat} (hc : k = 55) : ∀ (v : fw_V), (mf_Mo_beat_1_j25 v) 0 0 k = v 0 0 k := by
  intro v
  unfold mf_Mo_beat_1_j25
  (try dsimp only)
  all_goals ((repeat' split) <;> (first | with_reducible rfl | (simp only [fw_up_ne (c := 21) (i := 0) (k := 1) (c' := 0) (i' := 0) (k' := k) (by omega), msend_0k (i := 0) (k := k) (by omega) (by omega) (by omega)]; done)))
theorem mz55_Mo_beat_1_j24 {k : Nat} (hc : k = 55) : ∀ (v : fw_V), (mf_Mo_beat_1_j24 v) 0 0 k = v 0 0 k := by
  intro v
  unfold mf_Mo_beat_1_j24
  (try dsimp only)
  all_goals ((repeat' split) <;> (first | with_reducible rfl | (simp only [fw_up_ne (c := 9) (i := 0) (k := 5) (c' := 0) (i' := 0) (k' := k) (by omega), msend_0k (i := 0) (k := k) (by omega) (by omega) (by omega), mz55_Mo_beat_1_j25 hc]; done)))
theorem mz55_Mo_beat_1_j23 {k : Nat} (hc : k = 55) : ∀ (v : fw_V), (mf_Mo_beat_1_j23 v) 0 0 k = v 0 0 k := by
  intro v
  unfold mf_Mo_beat_1_j23
  (try dsimp only)
  all_goals ((repeat' split) <;> (first | with_reducible rfl | (simp only [msend_0k (i := 0) (k := k) (by omega) (by omega) (by omega), mz55_Mo_beat_1_j24 hc]; done)))
theorem mz55_Mo_beat_1_j22 {k : Nat} (hc : k = 55) : ∀ (v : fw_V), (mf_Mo_beat_1_j22 v) 0 0 k = v 0 0 k := by
  intro v
  unfold mf_Mo_beat_1_j22
  (try dsimp only)
  all_goals ((repeat' split) <;> (first | with_reducible rfl | (simp only [msend_0k (i := 0) (k := k) (by omega) (by omega) (by omega), mz55_Mo_beat_1_j23 hc]; done)))
theorem mz55_Mo_beat_1_j27 {k : Nat} (hc : k = 55) : ∀ (v : fw_V) (x90 : Int32), (mf_Mo_beat_1_j27 v x90) 0 0 k = v 0 0 k := by
  intro v x90
  unfold mf_Mo_beat_1_j27
  (try dsimp only)
  all_goals ((repeat' split) <;> (first | with_reducible rfl | (simp only [fw_up_ne (c := 9) (i := 0) (k := 5) (c' := 0) (i' := 0) (k' := k) (by omega), msend_0k (i := 0) (k := k) (by omega) (by omega) (by omega), mz55_Mo_beat_1_j25 hc]; done)))
theorem mz55_Mo_beat_1_j26 {k : Nat} (hc : k = 55) : ∀ (v : fw_V), (mf_Mo_beat_1_j26 v) 0 0 k = v 0 0 k := by
  intro v
  unfold mf_Mo_beat_1_j26
  (try dsimp only)
  all_goals ((repeat' split) <;> (first | with_reducible rfl | (simp only [msend_0k (i := 0) (k := k) (by omega) (by omega) (by omega), mz55_Mo_beat_1_j27 hc]; done)))
theorem mz55_Mo_beat_1_j21 {k : Nat} (hc : k = 55) : ∀ (v : fw_V), (mf_Mo_beat_1_j21 v) 0 0 k = v 0 0 k := by
  intro v
  unfold mf_Mo_beat_1_j21
  (try dsimp only)
  all_goals ((repeat' split) <;> (first | with_reducible rfl | (simp only [msend_0k (i := 0) (k := k) (by omega) (by omega) (by omega), mz55_Mo_beat_1_j22 hc, mz55_Mo_beat_1_j26 hc]; done)))
theorem mz55_Mo_beat_1_j20 {k : Nat} (hc : k = 55) : ∀ (v : fw_V), (mf_Mo_beat_1_j20 v) 0 0 k = v 0 0 k := by
  intro v
  unfold mf_Mo_beat_1_j20
  (try dsimp only)
  all_goals ((repeat' split) <;> (first | with_reducible rfl | (simp only [fw_up_ne (c := 9) (i := 0) (k := 4) (c' := 0) (i' := 0) (k' := k) (by omega), msend_0k (i := 0) (k := k) (by omega) (by omega) (by omega), mz55_Mo_beat_1_j21 hc]; done)))
theorem mz55_Mo_beat_1_j19 {k : Nat} (hc : k = 55) : ∀ (v : fw_V), (mf_Mo_beat_1_j19 v) 0 0 k = v 0 0 k := by
  intro v
  unfold mf_Mo_beat_1_j19
  (try dsimp only)
  all_goals ((repeat' split) <;> (first | with_reducible rfl | (simp only [msend_0k (i := 0) (k := k) (by omega) (by omega) (by omega), mz55_Mo_beat_1_j20 hc]; done)))
theorem mz55_Mo_beat_1_j18 {k : Nat} (hc : k = 55) : ∀ (v : fw_V), (mf_Mo_beat_1_j18 v) 0 0 k = v 0 0 k := by
  intro v
  unfold mf_Mo_beat_1_j18
  (try dsimp only)
  all_goals ((repeat' split) <;> (first | with_reducible rfl | (simp only [msend_0k (i := 0) (k := k) (by omega) (by omega) (by omega), mz55_Mo_beat_1_j19 hc]; done)))
theorem mz55_Mo_beat_1_j29 {k : Nat} (hc : k = 55) : ∀ (v : fw_V) (x90 : Int32), (mf_Mo_beat_1_j29 v x90) 0 0 k = v 0 0 k := by
  intro v x90
  unfold mf_Mo_beat_1_j29
  (try dsimp only)
  all_goals ((repeat' split) <;> (first | with_reducible rfl | (simp only [fw_up_ne (c := 9) (i := 0) (k := 4) (c' := 0) (i' := 0) (k' := k) (by omega), msend_0k (i := 0) (k := k) (by omega) (by omega) (by omega), mz55_Mo_beat_1_j21 hc]; done)))
theorem mz55_Mo_beat_1_j28 {k : Nat} (hc : k = 55) : ∀ (v : fw_V), (mf_Mo_beat_1_j28 v) 0 0 k = v 0 0 k := by
  intro v
  unfold mf_Mo_beat_1_j28
  (try dsimp only)
  all_goals ((repeat' split) <;> (first | with_reducible rfl | (simp only [msend_0k (i := 0) (k := k) (by omega) (by omega) (by omega), mz55_Mo_beat_1_j29 hc]; done)))
theorem mz55_Mo_beat_1_j17 {k : Nat} (hc : k = 55) : ∀ (v : fw_V), (mf_Mo_beat_1_j17 v) 0 0 k = v 0 0 k := by
  intro v
  unfold mf_Mo_beat_1_j17
  (try dsimp only)
  all_goals ((repeat' split) <;> (first | with_reducible rfl | (simp only [msend_0k (i := 0) (k := k) (by omega) (by omega) (by omega), mz55_Mo_beat_1_j18 hc, mz55_Mo_beat_1_j28 hc]; done)))
theorem mz55_Mo_beat_1_j16 {k : Nat} (hc : k = 55) : ∀ (v : fw_V), (mf_Mo_beat_1_j16 v) 0 0 k = v 0 0 k := by
  intro v
  unfold mf_Mo_beat_1_j16
  (try dsimp only)
  all_goals ((repeat' split) <;> (first | with_reducible rfl | (simp only [fw_up_ne (c := 9) (i := 0) (k := 3) (c' := 0) (i' := 0) (k' := k) (by omega), msend_0k (i := 0) (k := k) (by omega) (by omega) (by omega), mz55_Mo_beat_1_j17 hc]; done)))
theorem mz55_Mo_beat_1_j15 {k : Nat} (hc : k = 55) : ∀ (v : fw_V), (mf_Mo_beat_1_j15 v) 0 0 k = v 0 0 k := by
  intro v
  unfold mf_Mo_beat_1_j15
  (try dsimp only)
  all_goals ((repeat' split) <;> (first | with_reducible rfl | (simp only [msend_0k (i := 0) (k := k) (by omega) (by omega) (by omega), mz55_Mo_beat_1_j16 hc]; done)))
theorem mz55_Mo_beat_1_j14 {k : Nat} (hc : k = 55) : ∀ (v : fw_V), (mf_Mo_beat_1_j14 v) 0 0 k = v 0 0 k := by
  intro v
  unfold mf_Mo_beat_1_j14
  (try dsimp only)
  all_goals ((repeat' split) <;> (first | with_reducible rfl | (simp only [msend_0k (i := 0) (k := k) (by omega) (by omega) (by omega), mz55_Mo_beat_1_j15 hc]; done)))
theorem mz55_Mo_beat_1_j31 {k : Nat} (hc : k = 55) : ∀ (v : fw_V) (x90 : Int32), (mf_Mo_beat_1_j31 v x90) 0 0 k = v 0 0 k := by
  intro v x90
  unfold mf_Mo_beat_1_j31
  (try dsimp only)
  all_goals ((repeat' split) <;> (first | with_reducible rfl | (simp only [fw_up_ne (c := 9) (i := 0) (k := 3) (c' := 0) (i' := 0) (k' := k) (by omega), msend_0k (i := 0) (k := k) (by omega) (by omega) (by omega), mz55_Mo_beat_1_j17 hc]; done)))
theorem mz55_Mo_beat_1_j30 {k : Nat} (hc : k = 55) : ∀ (v : fw_V), (mf_Mo_beat_1_j30 v) 0 0 k = v 0 0 k := by
  intro v
  unfold mf_Mo_beat_1_j30
  (try dsimp only)
  all_goals ((repeat' split) <;> (first | with_reducible rfl | (simp only [msend_0k (i := 0) (k := k) (by omega) (by omega) (by omega), mz55_Mo_beat_1_j31 hc]; done)))
theorem mz55_Mo_beat_1_j13 {k : Nat} (hc : k = 55) : ∀ (v : fw_V), (mf_Mo_beat_1_j13 v) 0 0 k = v 0 0 k := by
  intro v
  unfold mf_Mo_beat_1_j13
  (try dsimp only)
  all_goals ((repeat' split) <;> (first | with_reducible rfl | (simp only [msend_0k (i := 0) (k := k) (by omega) (by omega) (by omega), mz55_Mo_beat_1_j14 hc, mz55_Mo_beat_1_j30 hc]; done)))
theorem mz55_Mo_beat_1_j12 {k : Nat} (hc : k = 55) : ∀ (v : fw_V), (mf_Mo_beat_1_j12 v) 0 0 k = v 0 0 k := by
  intro v
  unfold mf_Mo_beat_1_j12
  (try dsimp only)
  all_goals ((repeat' split) <;> (first | with_reducible rfl | (simp only [fw_up_ne (c := 9) (i := 0) (k := 2) (c' := 0) (i' := 0) (k' := k) (by omega), msend_0k (i := 0) (k := k) (by omega) (by omega) (by omega), mz55_Mo_beat_1_j13 hc]; done)))
theorem mz55_Mo_beat_1_j11 {k : Nat} (hc : k = 55) : ∀ (v : fw_V), (mf_Mo_beat_1_j11 v) 0 0 k = v 0 0 k := by
  intro v
  unfold mf_Mo_beat_1_j11
  (try dsimp only)
  all_goals ((repeat' split) <;> (first | with_reducible rfl | (simp only [msend_0k (i := 0) (k := k) (by omega) (by omega) (by omega), mz55_Mo_beat_1_j12 hc]; done)))
theorem mz55_Mo_beat_1_j10 {k : Nat} (hc : k = 55) : ∀ (v : fw_V), (mf_Mo_beat_1_j10 v) 0 0 k = v 0 0 k := by
  intro v
  unfold mf_Mo_beat_1_j10
  (try dsimp only)
  all_goals ((repeat' split) <;> (first | with_reducible rfl | (simp only [msend_0k (i := 0) (k := k) (by omega) (by omega) (by omega), mz55_Mo_beat_1_j11 hc]; done)))
theorem mz55_Mo_beat_1_j33 {k : Nat} (hc : k = 55) : ∀ (v : fw_V) (x90 : Int32), (mf_Mo_beat_1_j33 v x90) 0 0 k = v 0 0 k := by
  intro v x90
  unfold mf_Mo_beat_1_j33
  (try dsimp only)
  all_goals ((repeat' split) <;> (first | with_reducible rfl | (simp only [fw_up_ne (c := 9) (i := 0) (k := 2) (c' := 0) (i' := 0) (k' := k) (by omega), msend_0k (i := 0) (k := k) (by omega) (by omega) (by omega), mz55_Mo_beat_1_j13 hc]; done)))
theorem mz55_Mo_beat_1_j32 {k : Nat} (hc : k = 55) : ∀ (v : fw_V), (mf_Mo_beat_1_j32 v) 0 0 k = v 0 0 k := by
  intro v
  unfold mf_Mo_beat_1_j32
  (try dsimp only)
  all_goals ((repeat' split) <;> (first | with_reducible rfl | (simp only [msend_0k (i := 0) (k := k) (by omega) (by omega) (by omega), mz55_Mo_beat_1_j33 hc]; done)))
theorem mz55_Mo_beat_1_j9 {k : Nat} (hc : k = 55) : ∀ (v : fw_V), (mf_Mo_beat_1_j9 v) 0 0 k = v 0 0 k := by
  intro v
  unfold mf_Mo_beat_1_j9
  (try dsimp only)
  all_goals ((repeat' split) <;> (first | with_reducible rfl | (simp only [msend_0k (i := 0) (k := k) (by omega) (by omega) (by omega), mz55_Mo_beat_1_j10 hc, mz55_Mo_beat_1_j32 hc]; done)))
theorem mz55_Mo_beat_1_j8 {k : Nat} (hc : k = 55) : ∀ (v : fw_V), (mf_Mo_beat_1_j8 v) 0 0 k = v 0 0 k := by
  intro v
  unfold mf_Mo_beat_1_j8
  (try dsimp only)
  all_goals ((repeat' split) <;> (first | with_reducible rfl | (simp only [fw_up_ne (c := 9) (i := 0) (k := 1) (c' := 0) (i' := 0) (k' := k) (by omega), msend_0k (i := 0) (k := k) (by omega) (by omega) (by omega), mz55_Mo_beat_1_j9 hc]; done)))
theorem mz55_Mo_beat_1_j7 {k : Nat} (hc : k = 55) : ∀ (v : fw_V), (mf_Mo_beat_1_j7 v) 0 0 k = v 0 0 k := by
  intro v
  unfold mf_Mo_beat_1_j7
  (try dsimp only)
  all_goals ((repeat' split) <;> (first | with_reducible rfl | (simp only [msend_0k (i := 0) (k := k) (by omega) (by omega) (by omega), mz55_Mo_beat_1_j8 hc]; done)))
theorem mz55_Mo_beat_1_j6 {k : Nat} (hc : k = 55) : ∀ (v : fw_V), (mf_Mo_beat_1_j6 v) 0 0 k = v 0 0 k := by
  intro v
  unfold mf_Mo_beat_1_j6
  (try dsimp only)
  all_goals ((repeat' split) <;> (first | with_reducible rfl | (simp only [msend_0k (i := 0) (k := k) (by omega) (by omega) (by omega), mz55_Mo_beat_1_j7 hc]; done)))
theorem mz55_Mo_beat_1_j35 {k : Nat} (hc : k = 55) : ∀ (v : fw_V) (x90 : Int32), (mf_Mo_beat_1_j35 v x90) 0 0 k = v 0 0 k := by
  intro v x90
  unfold mf_Mo_beat_1_j35
  (try dsimp only)
  all_goals ((repeat' split) <;> (first | with_reducible rfl | (simp only [fw_up_ne (c := 9) (i := 0) (k := 1) (c' := 0) (i' := 0) (k' := k) (by omega), msend_0k (i := 0) (k := k) (by omega) (by omega) (by omega), mz55_Mo_beat_1_j9 hc]; done)))
theorem mz55_Mo_beat_1_j34 {k : Nat} (hc : k = 55) : ∀ (v : fw_V), (mf_Mo_beat_1_j34 v) 0 0 k = v 0 0 k := by
  intro v
  unfold mf_Mo_beat_1_j34
  (try dsimp only)
  all_goals ((repeat' split) <;> (first | with_reducible rfl | (simp only [msend_0k (i := 0) (k := k) (by omega) (by omega) (by omega), mz55_Mo_beat_1_j35 hc]; done)))
theorem mz55_Mo_beat_1_j5 {k : Nat} (hc : k = 55) : ∀ (v : fw_V), (mf_Mo_beat_1_j5 v) 0 0 k = v 0 0 k := by
  intro v
  unfold mf_Mo_beat_1_j5
  (try dsimp only)
  all_goals ((repeat' split) <;> (first | with_reducible rfl | (simp only [msend_0k (i := 0) (k := k) (by omega) (by omega) (by omega), mz55_Mo_beat_1_j6 hc, mz55_Mo_beat_1_j34 hc]; done)))
theorem mz55_Mo_beat_1_j4 {k : Nat} (hc : k = 55) : ∀ (v : fw_V), (mf_Mo_beat_1_j4 v) 0 0 k = v 0 0 k := by
  intro v
  unfold mf_Mo_beat_1_j4
  (try dsimp only)
  all_goals ((repeat' split) <;> (first | with_reducible rfl | (simp only [fw_up_ne (c := 9) (i := 0) (k := 0) (c' := 0) (i' := 0) (k' := k) (by omega), msend_0k (i := 0) (k := k) (by omega) (by omega) (by omega), mz55_Mo_beat_1_j5 hc]; done)))
theorem mz55_Mo_beat_1_j3 {k : Nat} (hc : k = 55) : ∀ (v : fw_V), (mf_Mo_beat_1_j3 v) 0 0 k = v 0 0 k := by
  intro v
  unfold mf_Mo_beat_1_j3
  (try dsimp only)
  all_goals ((repeat' split) <;> (first | with_reducible rfl | (simp only [msend_0k (i := 0) (k := k) (by omega) (by omega) (by omega), mz55_Mo_beat_1_j4 hc]; done)))
theorem mz55_Mo_beat_1_j2 {k : Nat} (hc : k = 55) : ∀ (v : fw_V), (mf_Mo_beat_1_j2 v) 0 0 k = v 0 0 k := by
  intro v
  unfold mf_Mo_beat_1_j2
  (try dsimp only)
  all_goals ((repeat' split) <;> (first | with_reducible rfl | (simp only [msend_0k (i := 0) (k := k) (by omega) (by omega) (by omega), mz55_Mo_beat_1_j3 hc]; done)))
theorem mz55_Mo_beat_1_j37 {k : Nat} (hc : k = 55) : ∀ (v : fw_V) (x90 : Int32), (mf_Mo_beat_1_j37 v x90) 0 0 k = v 0 0 k := by
  intro v x90
  unfold mf_Mo_beat_1_j37
  (try dsimp only)
  all_goals ((repeat' split) <;> (first | with_reducible rfl | (simp only [fw_up_ne (c := 9) (i := 0) (k := 0) (c' := 0) (i' := 0) (k' := k) (by omega), msend_0k (i := 0) (k := k) (by omega) (by omega) (by omega), mz55_Mo_beat_1_j5 hc]; done)))
theorem mz55_Mo_beat_1_j36 {k : Nat} (hc : k = 55) : ∀ (v : fw_V), (mf_Mo_beat_1_j36 v) 0 0 k = v 0 0 k := by
  intro v
  unfold mf_Mo_beat_1_j36
  (try dsimp only)
  all_goals ((repeat' split) <;> (first | with_reducible rfl | (simp only [msend_0k (i := 0) (k := k) (by omega) (by omega) (by omega), mz55_Mo_beat_1_j37 hc]; done)))
theorem mz55_Mo_beat_1_j1 {k : Nat} (hc : k = 55) : ∀ (v : fw_V), (mf_Mo_beat_1_j1 v) 0 0 k = v 0 0 k := by
  intro v
  unfold mf_Mo_beat_1_j1
  (try dsimp only)
  all_goals ((repeat' split) <;> (first | with_reducible rfl | (simp only [msend_0k (i := 0) (k := k) (by omega) (by omega) (by omega), mz55_Mo_beat_1_j2 hc, mz55_Mo_beat_1_j36 hc]; done)))
theorem mz55_Mo_beat_1 {k : Nat} (hc : k = 55) : ∀ (v0 : fw_V), (mf_Mo_beat_1 v0) 0 0 k = v0 0 0 k := by
  intro v0
  unfold mf_Mo_beat_1
  (try dsimp only)
  all_goals ((repeat' split) <;> (first | with_reducible rfl | (simp only [fw_up_ne (c := 18) (i := 0) (k := 1) (c' := 0) (i' := 0) (k' := k) (by omega), fw_up_ne (c := 0) (i := 0) (k := 56) (c' := 0) (i' := 0) (k' := k) (by omega), fw_up_ne (c := 19) (i := 0) (k := 1) (c' := 0) (i' := 0) (k' := k) (by omega), msend_0k (i := 0) (k := k) (by omega) (by omega) (by omega), mz55_Mo_breakOff_1 hc, mz55_Mo_beat_1_j1 hc, mz55_Mo_ask_1 hc]; done)))
theorem mz55_Mo_mark_1_j2 {k : Nat} (hc : k = 55) : ∀ (v0 : fw_V) (a2 : Int32), (mf_Mo_mark_1_j2 v0 a2) 0 0 k = v0 0 0 k := by
  intro v0 a2
  unfold mf_Mo_mark_1_j2
  (try dsimp only)
  all_goals ((repeat' split) <;> (first | with_reducible rfl | (simp only [fw_up_ne (c := 31) (i := 0) (k := 1) (c' := 0) (i' := 0) (k' := k) (by omega), msend_0k (i := 0) (k := k) (by omega) (by omega) (by omega)]; done)))
theorem mz55_Mo_mark_1_j1 {k : Nat} (hc : k = 55) : ∀ (v0 : fw_V) (a2 : Int32), (mf_Mo_mark_1_j1 v0 a2) 0 0 k = v0 0 0 k := by
  intro v0 a2
  unfold mf_Mo_mark_1_j1
  (try dsimp only)
  all_goals ((repeat' split) <;> (first | with_reducible rfl | (simp only [msend_0k (i := 0) (k := k) (by omega) (by omega) (by omega), mz55_Mo_mark_1_j2 hc]; done)))
theorem mz55_Mo_mark_1_j3 {k : Nat} (hc : k = 55) : ∀ (v0 : fw_V) (a2 : Int32), (mf_Mo_mark_1_j3 v0 a2) 0 0 k = v0 0 0 k := by
  intro v0 a2
  unfold mf_Mo_mark_1_j3
  (try dsimp only)
  all_goals ((repeat' split) <;> (first | with_reducible rfl | (simp only [fw_up_ne (c := 31) (i := 0) (k := 1) (c' := 0) (i' := 0) (k' := k) (by omega), msend_0k (i := 0) (k := k) (by omega) (by omega) (by omega)]; done)))
theorem mz55_Mo_mark_1 {k : Nat} (hc : k = 55) : ∀ (v0 : fw_V) (a2 : Int32), (mf_Mo_mark_1 v0 a2) 0 0 k = v0 0 0 k := by
  intro v0 a2
  unfold mf_Mo_mark_1
  (try dsimp only)
  all_goals ((repeat' split) <;> (first | with_reducible rfl | (simp only [msend_0k (i := 0) (k := k) (by omega) (by omega) (by omega), mz55_Mo_mark_1_j1 hc, mz55_Mo_mark_1_j3 hc]; done)))
theorem mz55_Mo_replace_1_j8 {k : Nat} (hc : k = 55) : ∀ (v : fw_V) (a2 : Int32) (x4 : Int32), (mf_Mo_replace_1_j8 v a2 x4) 0 0 k = v 0 0 k := by
  intro v a2 x4
  unfold mf_Mo_replace_1_j8
  (try dsimp only)
  all_goals ((repeat' split) <;> (first | with_reducible rfl | (simp only [msend_0k (i := 0) (k := k) (by omega) (by omega) (by omega)]; done)))
theorem mz55_Mo_replace_1_j7 {k : Nat} (hc : k = 55) : ∀ (v : fw_V) (a2 : Int32) (x4 : Int32), (mf_Mo_replace_1_j7 v a2 x4) 0 0 k = v 0 0 k := by
  intro v a2 x4
  unfold mf_Mo_replace_1_j7
  (try dsimp only)
  all_goals ((repeat' split) <;> (first | with_reducible rfl | (simp only [msend_0k (i := 0) (k := k) (by omega) (by omega) (by omega), mz55_Mo_replace_1_j8 hc]; done)))
theorem mz55_Mo_replace_1_j6 {k : Nat} (hc : k = 55) : ∀ (v : fw_V) (a2 : Int32) (x4 : Int32), (mf_Mo_replace_1_j6 v a2 x4) 0 0 k = v 0 0 k := by
  intro v a2 x4
  unfold mf_Mo_replace_1_j6
  (try dsimp only)
  all_goals ((repeat' split) <;> (first | with_reducible rfl | (simp only [fw_up_c (c := 46) (c' := 0) (by decide), msend_0k (i := 0) (k := k) (by omega) (by omega) (by omega), mz55_Mo_replace_1_j7 hc]; done)))
theorem mz55_Mo_replace_1_j5 {k : Nat} (hc : k = 55) : ∀ (v : fw_V) (a2 : Int32) (x4 : Int32), (mf_Mo_replace_1_j5 v a2 x4) 0 0 k = v 0 0 k := by
  intro v a2 x4
  unfold mf_Mo_replace_1_j5
  (try dsimp only)
  all_goals ((repeat' split) <;> (first | with_reducible rfl | (simp only [fw_up_c (c := 46) (c' := 0) (by decide), msend_0k (i := 0) (k := k) (by omega) (by omega) (by omega), mz55_Mo_replace_1_j6 hc, mz55_Mo_replace_1_j7 hc]; done)))
theorem mz55_Mo_replace_1_j4 {k : Nat} (hc : k = 55) : ∀ (v : fw_V) (a2 : Int32) (x4 : Int32), (mf_Mo_replace_1_j4 v a2 x4) 0 0 k = v 0 0 k := by
  intro v a2 x4
  unfold mf_Mo_replace_1_j4
  (try dsimp only)
  all_goals ((repeat' split) <;> (first | with_reducible rfl | (simp only [msend_0k (i := 0) (k := k) (by omega) (by omega) (by omega), mz55_Mo_replace_1_j5 hc]; done)))
theorem mz55_Mo_replace_1_j3 {k : Nat} (hc : k = 55) : ∀ (v0 : fw_V) (a2 : Int32), (mf_Mo_replace_1_j3 v0 a2) 0 0 k = v0 0 0 k := by
  intro v0 a2
  unfold mf_Mo_replace_1_j3
  (try dsimp only)
  all_goals ((repeat' split) <;> (first | with_reducible rfl | (simp only [fw_up_c (c := 46) (c' := 0) (by decide), msend_0k (i := 0) (k := k) (by omega) (by omega) (by omega), mz55_Mo_replace_1_j4 hc]; done)))
theorem mz55_Mo_replace_1_j11 {k : Nat} (hc : k = 55) : ∀ (v0 : fw_V) (a2 : Int32), (mf_Mo_replace_1_j11 v0 a2) 0 0 k = v0 0 0 k := by
  intro v0 a2
  unfold mf_Mo_replace_1_j11
  (try dsimp only)
  all_goals ((repeat' split) <;> (first | with_reducible rfl | (simp only [fw_up_c (c := 46) (c' := 0) (by decide), msend_0k (i := 0) (k := k) (by omega) (by omega) (by omega), mz55_Mo_replace_1_j7 hc]; done)))
theorem mz55_Mo_replace_1_j13 {k : Nat} (hc : k = 55) : ∀ (v0 : fw_V) (a2 : Int32), (mf_Mo_replace_1_j13 v0 a2) 0 0 k = v0 0 0 k := by
  intro v0 a2
  unfold mf_Mo_replace_1_j13
  (try dsimp only)
  all_goals ((repeat' split) <;> (first | with_reducible rfl | (simp only [msend_0k (i := 0) (k := k) (by omega) (by omega) (by omega)]; done)))
theorem mz55_Mo_replace_1_j12 {k : Nat} (hc : k = 55) : ∀ (v0 : fw_V) (a2 : Int32), (mf_Mo_replace_1_j12 v0 a2) 0 0 k = v0 0 0 k := by
  intro v0 a2
  unfold mf_Mo_replace_1_j12
  (try dsimp only)
  all_goals ((repeat' split) <;> (first | with_reducible rfl | (simp only [msend_0k (i := 0) (k := k) (by omega) (by omega) (by omega), mz55_Mo_replace_1_j13 hc]; done)))
theorem mz55_Mo_replace_1_j10 {k : Nat} (hc : k = 55) : ∀ (v0 : fw_V) (a2 : Int32), (mf_Mo_replace_1_j10 v0 a2) 0 0 k = v0 0 0 k := by
  intro v0 a2
  unfold mf_Mo_replace_1_j10
  (try dsimp only)
  all_goals ((repeat' split) <;> (first | with_reducible rfl | (simp only [fw_up_c (c := 46) (c' := 0) (by decide), msend_0k (i := 0) (k := k) (by omega) (by omega) (by omega), mz55_Mo_replace_1_j11 hc, mz55_Mo_replace_1_j7 hc, mz55_Mo_replace_1_j12 hc]; done)))
theorem mz55_Mo_replace_1_j9 {k : Nat} (hc : k = 55) : ∀ (v0 : fw_V) (a2 : Int32), (mf_Mo_replace_1_j9 v0 a2) 0 0 k = v0 0 0 k := by
  intro v0 a2
  unfold mf_Mo_replace_1_j9
  (try dsimp only)
  all_goals ((repeat' split) <;> (first | with_reducible rfl | (simp only [msend_0k (i := 0) (k := k) (by omega) (by omega) (by omega), mz55_Mo_replace_1_j10 hc]; done)))
theorem mz55_Mo_replace_1_j2 {k : Nat} (hc : k = 55) : ∀ (v0 : fw_V) (a2 : Int32), (mf_Mo_replace_1_j2 v0 a2) 0 0 k = v0 0 0 k := by
  intro v0 a2
  unfold mf_Mo_replace_1_j2
  (try dsimp only)
  all_goals ((repeat' split) <;> (first | with_reducible rfl | (simp only [fw_up_c (c := 46) (c' := 0) (by decide), msend_0k (i := 0) (k := k) (by omega) (by omega) (by omega), mz55_Mo_replace_1_j3 hc, mz55_Mo_replace_1_j4 hc, mz55_Mo_replace_1_j9 hc]; done)))
theorem mz55_Mo_replace_1_j1 {k : Nat} (hc : k = 55) : ∀ (v0 : fw_V) (a2 : Int32), (mf_Mo_replace_1_j1 v0 a2) 0 0 k = v0 0 0 k := by
  intro v0 a2
  unfold mf_Mo_replace_1_j1
  (try dsimp only)
  all_goals ((repeat' split) <;> (first | with_reducible rfl | (simp only [msend_0k (i := 0) (k := k) (by omega) (by omega) (by omega), mz55_Mo_replace_1_j2 hc]; done)))
theorem mz55_Mo_replace_1_j21 {k : Nat} (hc : k = 55) : ∀ (v : fw_V) (a2 : Int32), (mf_Mo_replace_1_j21 v a2) 0 0 k = v 0 0 k := by
  intro v a2
  unfold mf_Mo_replace_1_j21
  (try dsimp only)
  all_goals ((repeat' split) <;> (first | with_reducible rfl | (simp only [msend_0k (i := 0) (k := k) (by omega) (by omega) (by omega)]; done)))
theorem mz55_Mo_replace_1_j20 {k : Nat} (hc : k = 55) : ∀ (v : fw_V) (a2 : Int32), (mf_Mo_replace_1_j20 v a2) 0 0 k = v 0 0 k := by
  intro v a2
  unfold mf_Mo_replace_1_j20
  (try dsimp only)
  all_goals ((repeat' split) <;> (first | with_reducible rfl | (simp only [msend_0k (i := 0) (k := k) (by omega) (by omega) (by omega), mz55_Mo_replace_1_j21 hc]; done)))
theorem mz55_Mo_replace_1_j19 {k : Nat} (hc : k = 55) : ∀ (v : fw_V) (a2 : Int32), (mf_Mo_replace_1_j19 v a2) 0 0 k = v 0 0 k := by
  intro v a2
  unfold mf_Mo_replace_1_j19
  (try dsimp only)
  all_goals ((repeat' split) <;> (first | with_reducible rfl | (simp only [fw_up_c (c := 46) (c' := 0) (by decide), msend_0k (i := 0) (k := k) (by omega) (by omega) (by omega), mz55_Mo_replace_1_j20 hc]; done)))
theorem mz55_Mo_replace_1_j18 {k : Nat} (hc : k = 55) : ∀ (v : fw_V) (a2 : Int32), (mf_Mo_replace_1_j18 v a2) 0 0 k = v 0 0 k := by
  intro v a2
  unfold mf_Mo_replace_1_j18
  (try dsimp only)
  all_goals ((repeat' split) <;> (first | with_reducible rfl | (simp only [msend_0k (i := 0) (k := k) (by omega) (by omega) (by omega), mz55_Mo_replace_1_j19 hc]; done)))
theorem mz55_Mo_replace_1_j17 {k : Nat} (hc : k = 55) : ∀ (v : fw_V) (a2 : Int32), (mf_Mo_replace_1_j17 v a2) 0 0 k = v 0 0 k := by
  intro v a2
  unfold mf_Mo_replace_1_j17
  (try dsimp only)
  all_goals ((repeat' split) <;> (first | with_reducible rfl | (simp only [msend_0k (i := 0) (k := k) (by omega) (by omega) (by omega), mz55_Mo_replace_1_j18 hc]; done)))
theorem mz55_Mo_replace_1_j16 {k : Nat} (hc : k = 55) : ∀ (v0 : fw_V) (a2 : Int32), (mf_Mo_replace_1_j16 v0 a2) 0 0 k = v0 0 0 k := by
  intro v0 a2
  unfold mf_Mo_replace_1_j16
  (try dsimp only)
  all_goals ((repeat' split) <;> (first | with_reducible rfl | (simp only [fw_up_c (c := 46) (c' := 0) (by decide), msend_0k (i := 0) (k := k) (by omega) (by omega) (by omega), mz55_Mo_replace_1_j17 hc]; done)))
theorem mz55_Mo_replace_1_j15 {k : Nat} (hc : k = 55) : ∀ (v0 : fw_V) (a2 : Int32), (mf_Mo_replace_1_j15 v0 a2) 0 0 k = v0 0 0 k := by
  intro v0 a2
  unfold mf_Mo_replace_1_j15
  (try dsimp only)
  all_goals ((repeat' split) <;> (first | with_reducible rfl | (simp only [msend_0k (i := 0) (k := k) (by omega) (by omega) (by omega), mz55_Mo_replace_1_j16 hc]; done)))
theorem mz55_Mo_replace_1_j14 {k : Nat} (hc : k = 55) : ∀ (v0 : fw_V) (a2 : Int32), (mf_Mo_replace_1_j14 v0 a2) 0 0 k = v0 0 0 k := by
  intro v0 a2
  unfold mf_Mo_replace_1_j14
  (try dsimp only)
  all_goals ((repeat' split) <;> (first | with_reducible rfl | (simp only [msend_0k (i := 0) (k := k) (by omega) (by omega) (by omega), mz55_Mo_replace_1_j15 hc]; done)))
theorem mz55_Mo_replace_1 {k : Nat} (hc : k = 55) : ∀ (v0 : fw_V) (a2 : Int32), (mf_Mo_replace_1 v0 a2) 0 0 k = v0 0 0 k := by
  intro v0 a2
  unfold mf_Mo_replace_1
  (try dsimp only)
  all_goals ((repeat' split) <;> (first | with_reducible rfl | (simp only [msend_0k (i := 0) (k := k) (by omega) (by omega) (by omega), mz55_Mo_replace_1_j1 hc, mz55_Mo_replace_1_j14 hc]; done)))
theorem mz55_Mo_reply_1 {k : Nat} (hc : k = 55) : ∀ (v0 : fw_V) (a2 : Int32) (a3 : Int32), (mf_Mo_reply_1 v0 a2 a3) 0 0 k = v0 0 0 k := by
  intro v0 a2 a3
  unfold mf_Mo_reply_1
  (try dsimp only)
  all_goals ((repeat' split) <;> (first | with_reducible rfl | (simp only [msend_0k (i := 0) (k := k) (by omega) (by omega) (by omega)]; done)))
theorem mz55_Mo_connect_1_j1 {k : Nat} (hc : k = 55) : ∀ (v0 : fw_V) (a2 : Int32), (mf_Mo_connect_1_j1 v0 a2) 0 0 k = v0 0 0 k := by
  intro v0 a2
  unfold mf_Mo_connect_1_j1
  (try dsimp only)
  all_goals ((repeat' split) <;> (first | with_reducible rfl | (simp only [fw_up_ne (c := 28) (i := 0) (k := 1) (c' := 0) (i' := 0) (k' := k) (by omega), fw_up_ne (c := 29) (i := 0) (k := 1) (c' := 0) (i' := 0) (k' := k) (by omega), fw_up_ne (c := 32) (i := 0) (k := 1) (c' := 0) (i' := 0) (k' := k) (by omega), fw_up_ne (c := 43) (i := 0) (k := 3) (c' := 0) (i' := 0) (k' := k) (by omega), fw_up_ne (c := 44) (i := 0) (k := 3) (c' := 0) (i' := 0) (k' := k) (by omega), fw_up_ne (c := 43) (i := 0) (k := 4) (c' := 0) (i' := 0) (k' := k) (by omega), fw_up_ne (c := 44) (i := 0) (k := 4) (c' := 0) (i' := 0) (k' := k) (by omega), fw_up_ne (c := 43) (i := 0) (k := 5) (c' := 0) (i' := 0) (k' := k) (by omega), fw_up_ne (c := 44) (i := 0) (k := 5) (c' := 0) (i' := 0) (k' := k) (by omega), msend_0k (i := 0) (k := k) (by omega) (by omega) (by omega), mz55_Mo_mark_1 hc, mz55_Mo_reply_1 hc]; done)))
theorem mz55_Mo_connect_1 {k : Nat} (hc : k = 55) : ∀ (v0 : fw_V) (a2 : Int32), (mf_Mo_connect_1 v0 a2) 0 0 k = v0 0 0 k := by
  intro v0 a2
  unfold mf_Mo_connect_1
  (try dsimp only)
  all_goals ((repeat' split) <;> (first | with_reducible rfl | (simp only [msend_0k (i := 0) (k := k) (by omega) (by omega) (by omega), mz55_Mo_connect_1_j1 hc]; done)))
theorem mz55_Mo_obeys_1_j44 {k : Nat} (hc : k = 55) : ∀ (v0 : fw_V) (a2 : Int32) (a3 : Int32), (mf_Mo_obeys_1_j44 v0 a2 a3) 0 0 k = v0 0 0 k := by
  intro v0 a2 a3
  unfold mf_Mo_obeys_1_j44
  (try dsimp only)
  all_goals ((repeat' split) <;> (first | with_reducible rfl | (simp only [fw_up_ne (c := 28) (i := 0) (k := 1) (c' := 0) (i' := 0) (k' := k) (by omega), fw_up_ne (c := 32) (i := 0) (k := 1) (c' := 0) (i' := 0) (k' := k) (by omega), fw_up_ne (c := 33) (i := 0) (k := 1) (c' := 0) (i' := 0) (k' := k) (by omega), msend_0k (i := 0) (k := k) (by omega) (by omega) (by omega), mz55_Mo_reply_1 hc]; done)))
theorem mz55_Mo_obeys_1_j43 {k : Nat} (hc : k = 55) : ∀ (v0 : fw_V) (a2 : Int32) (a3 : Int32), (mf_Mo_obeys_1_j43 v0 a2 a3) 0 0 k = v0 0 0 k := by
  intro v0 a2 a3
  unfold mf_Mo_obeys_1_j43
  (try dsimp only)
  all_goals ((repeat' split) <;> (first | with_reducible rfl | (simp only [msend_0k (i := 0) (k := k) (by omega) (by omega) (by omega), mz55_Mo_obeys_1_j44 hc]; done)))
theorem mz55_Mo_obeys_1_j42 {k : Nat} (hc : k = 55) : ∀ (v0 : fw_V) (a2 : Int32) (a3 : Int32), (mf_Mo_obeys_1_j42 v0 a2 a3) 0 0 k = v0 0 0 k := by
  intro v0 a2 a3
  unfold mf_Mo_obeys_1_j42
  (try dsimp only)
  all_goals ((repeat' split) <;> (first | with_reducible rfl | (simp only [msend_0k (i := 0) (k := k) (by omega) (by omega) (by omega), mz55_Mo_obeys_1_j43 hc]; done)))
theorem mz55_Mo_rest_1_j7 {k : Nat} (hc : k = 55) : ∀ (v : fw_V), (mf_Mo_rest_1_j7 v) 0 0 k = v 0 0 k := by
  intro v
  unfold mf_Mo_rest_1_j7
  (try dsimp only)
  all_goals ((repeat' split) <;> (first | with_reducible rfl | (simp only [msend_0k (i := 0) (k := k) (by omega) (by omega) (by omega)]; done)))
theorem mz55_Mo_rest_1_j6 {k : Nat} (hc : k = 55) : ∀ (v : fw_V), (mf_Mo_rest_1_j6 v) 0 0 k = v 0 0 k := by
  intro v
  unfold mf_Mo_rest_1_j6
  (try dsimp only)
  all_goals ((repeat' split) <;> (first | with_reducible rfl | (simp only [msend_0k (i := 0) (k := k) (by omega) (by omega) (by omega), mz55_Mo_replace_1 hc, mz55_Mo_rest_1_j7 hc]; done)))
theorem mz55_Mo_rest_1_j5 {k : Nat} (hc : k = 55) : ∀ (v : fw_V), (mf_Mo_rest_1_j5 v) 0 0 k = v 0 0 k := by
  intro v
  unfold mf_Mo_rest_1_j5
  (try dsimp only)
  all_goals ((repeat' split) <;> (first | with_reducible rfl | (simp only [msend_0k (i := 0) (k := k) (by omega) (by omega) (by omega), mz55_Mo_replace_1 hc, mz55_Mo_rest_1_j6 hc]; done)))
theorem mz55_Mo_rest_1_j4 {k : Nat} (hc : k = 55) : ∀ (v : fw_V), (mf_Mo_rest_1_j4 v) 0 0 k = v 0 0 k := by
  intro v
  unfold mf_Mo_rest_1_j4
  (try dsimp only)
  all_goals ((repeat' split) <;> (first | with_reducible rfl | (simp only [msend_0k (i := 0) (k := k) (by omega) (by omega) (by omega), mz55_Mo_replace_1 hc, mz55_Mo_rest_1_j5 hc]; done)))
theorem mz55_Mo_rest_1_j3 {k : Nat} (hc : k = 55) : ∀ (v0 : fw_V), (mf_Mo_rest_1_j3 v0) 0 0 k = v0 0 0 k := by
  intro v0
  unfold mf_Mo_rest_1_j3
  (try dsimp only)
  all_goals ((repeat' split) <;> (first | with_reducible rfl | (simp only [fw_up_ne (c := 28) (i := 0) (k := 1) (c' := 0) (i' := 0) (k' := k) (by omega), fw_up_ne (c := 29) (i := 0) (k := 1) (c' := 0) (i' := 0) (k' := k) (by omega), fw_up_ne (c := 31) (i := 0) (k := 1) (c' := 0) (i' := 0) (k' := k) (by omega), fw_up_ne (c := 32) (i := 0) (k := 1) (c' := 0) (i' := 0) (k' := k) (by omega), fw_up_ne (c := 37) (i := 0) (k := 1) (c' := 0) (i' := 0) (k' := k) (by omega), fw_up_ne (c := 36) (i := 0) (k := 1) (c' := 0) (i' := 0) (k' := k) (by omega), fw_up_ne (c := 43) (i := 0) (k := 3) (c' := 0) (i' := 0) (k' := k) (by omega), fw_up_ne (c := 44) (i := 0) (k := 3) (c' := 0) (i' := 0) (k' := k) (by omega), fw_up_ne (c := 43) (i := 0) (k := 4) (c' := 0) (i' := 0) (k' := k) (by omega), fw_up_ne (c := 44) (i := 0) (k := 4) (c' := 0) (i' := 0) (k' := k) (by omega), fw_up_ne (c := 43) (i := 0) (k := 5) (c' := 0) (i' := 0) (k' := k) (by omega), fw_up_ne (c := 44) (i := 0) (k := 5) (c' := 0) (i' := 0) (k' := k) (by omega), msend_0k (i := 0) (k := k) (by omega) (by omega) (by omega), mz55_Mo_rest_1_j4 hc]; done)))
theorem mz55_Mo_rest_1_j2 {k : Nat} (hc : k = 55) : ∀ (v : fw_V), (mf_Mo_rest_1_j2 v) 0 0 k = v 0 0 k := by
  intro v
  unfold mf_Mo_rest_1_j2
  (try dsimp only)
  all_goals ((repeat' split) <;> (first | with_reducible rfl | (simp only [msend_0k (i := 0) (k := k) (by omega) (by omega) (by omega)]; done)))
theorem mz55_Mo_rest_1_j1 {k : Nat} (hc : k = 55) : ∀ (v0 : fw_V), (mf_Mo_rest_1_j1 v0) 0 0 k = v0 0 0 k := by
  intro v0
  unfold mf_Mo_rest_1_j1
  (try dsimp only)
  all_goals ((repeat' split) <;> (first | with_reducible rfl | (simp only [fw_up_ne (c := 28) (i := 0) (k := 1) (c' := 0) (i' := 0) (k' := k) (by omega), fw_up_ne (c := 29) (i := 0) (k := 1) (c' := 0) (i' := 0) (k' := k) (by omega), fw_up_ne (c := 31) (i := 0) (k := 1) (c' := 0) (i' := 0) (k' := k) (by omega), fw_up_ne (c := 32) (i := 0) (k := 1) (c' := 0) (i' := 0) (k' := k) (by omega), fw_up_ne (c := 37) (i := 0) (k := 1) (c' := 0) (i' := 0) (k' := k) (by omega), fw_up_ne (c := 36) (i := 0) (k := 1) (c' := 0) (i' := 0) (k' := k) (by omega), fw_up_ne (c := 43) (i := 0) (k := 3) (c' := 0) (i' := 0) (k' := k) (by omega), fw_up_ne (c := 44) (i := 0) (k := 3) (c' := 0) (i' := 0) (k' := k) (by omega), fw_up_ne (c := 43) (i := 0) (k := 4) (c' := 0) (i' := 0) (k' := k) (by omega), fw_up_ne (c := 44) (i := 0) (k := 4) (c' := 0) (i' := 0) (k' := k) (by omega), fw_up_ne (c := 43) (i := 0) (k := 5) (c' := 0) (i' := 0) (k' := k) (by omega), fw_up_ne (c := 44) (i := 0) (k := 5) (c' := 0) (i' := 0) (k' := k) (by omega), msend_0k (i := 0) (k := k) (by omega) (by omega) (by omega), mz55_Mo_rest_1_j2 hc]; done)))
theorem mz55_Mo_rest_1 {k : Nat} (hc : k = 55) : ∀ (v0 : fw_V), (mf_Mo_rest_1 v0) 0 0 k = v0 0 0 k := by
  intro v0
  unfold mf_Mo_rest_1
  (try dsimp only)
  all_goals ((repeat' split) <;> (first | with_reducible rfl | (simp only [msend_0k (i := 0) (k := k) (by omega) (by omega) (by omega), mz55_Mo_rest_1_j3 hc, mz55_Mo_rest_1_j1 hc]; done)))
theorem mz55_Mo_quit_1 {k : Nat} (hc : k = 55) : ∀ (v0 : fw_V), (mf_Mo_quit_1 v0) 0 0 k = v0 0 0 k := by
  intro v0
  unfold mf_Mo_quit_1
  (try dsimp only)
  all_goals ((repeat' split) <;> (first | with_reducible rfl | (simp only [msend_0k (i := 0) (k := k) (by omega) (by omega) (by omega), mz55_Mo_reply_1 hc, mz55_Mo_rest_1 hc]; done)))
theorem mz55_Mo_obeys_1_j46 {k : Nat} (hc : k = 55) : ∀ (v0 : fw_V) (a2 : Int32) (a3 : Int32), (mf_Mo_obeys_1_j46 v0 a2 a3) 0 0 k = v0 0 0 k := by
  intro v0 a2 a3
  unfold mf_Mo_obeys_1_j46
  (try dsimp only)
  all_goals ((repeat' split) <;> (first | with_reducible rfl | (simp only [msend_0k (i := 0) (k := k) (by omega) (by omega) (by omega), mz55_Mo_quit_1 hc]; done)))
theorem mz55_Mo_obeys_1_j45 {k : Nat} (hc : k = 55) : ∀ (v0 : fw_V) (a2 : Int32) (a3 : Int32), (mf_Mo_obeys_1_j45 v0 a2 a3) 0 0 k = v0 0 0 k := by
  intro v0 a2 a3
  unfold mf_Mo_obeys_1_j45
  (try dsimp only)
  all_goals ((repeat' split) <;> (first | with_reducible rfl | (simp only [msend_0k (i := 0) (k := k) (by omega) (by omega) (by omega), mz55_Mo_obeys_1_j46 hc]; done)))
theorem mz55_Mo_obeys_1_j41 {k : Nat} (hc : k = 55) : ∀ (v0 : fw_V) (a2 : Int32) (a3 : Int32), (mf_Mo_obeys_1_j41 v0 a2 a3) 0 0 k = v0 0 0 k := by
  intro v0 a2 a3
  unfold mf_Mo_obeys_1_j41
  (try dsimp only)
  all_goals ((repeat' split) <;> (first | with_reducible rfl | (simp only [msend_0k (i := 0) (k := k) (by omega) (by omega) (by omega), mz55_Mo_obeys_1_j42 hc, mz55_Mo_obeys_1_j45 hc]; done)))
theorem mz55_Mo_obeys_1_j40 {k : Nat} (hc : k = 55) : ∀ (v0 : fw_V) (a2 : Int32) (a3 : Int32), (mf_Mo_obeys_1_j40 v0 a2 a3) 0 0 k = v0 0 0 k := by
  intro v0 a2 a3
  unfold mf_Mo_obeys_1_j40
  (try dsimp only)
  all_goals ((repeat' split) <;> (first | with_reducible rfl | (simp only [msend_0k (i := 0) (k := k) (by omega) (by omega) (by omega), mz55_Mo_obeys_1_j41 hc]; done)))
theorem mz55_Mo_obeys_1_j39 {k : Nat} (hc : k = 55) : ∀ (v0 : fw_V) (a2 : Int32) (a3 : Int32), (mf_Mo_obeys_1_j39 v0 a2 a3) 0 0 k = v0 0 0 k := by
  intro v0 a2 a3
  unfold mf_Mo_obeys_1_j39
  (try dsimp only)
  all_goals ((repeat' split) <;> (first | with_reducible rfl | (simp only [msend_0k (i := 0) (k := k) (by omega) (by omega) (by omega), mz55_Mo_obeys_1_j40 hc]; done)))
theorem mz55_Mo_obeys_1_j50 {k : Nat} (hc : k = 55) : ∀ (v0 : fw_V) (a2 : Int32) (a3 : Int32), (mf_Mo_obeys_1_j50 v0 a2 a3) 0 0 k = v0 0 0 k := by
  intro v0 a2 a3
  unfold mf_Mo_obeys_1_j50
  (try dsimp only)
  all_goals ((repeat' split) <;> (first | with_reducible rfl | (simp only [msend_0k (i := 0) (k := k) (by omega) (by omega) (by omega), mz55_Mo_obeys_1_j46 hc]; done)))
theorem mz55_Mo_obeys_1_j49 {k : Nat} (hc : k = 55) : ∀ (v0 : fw_V) (a2 : Int32) (a3 : Int32), (mf_Mo_obeys_1_j49 v0 a2 a3) 0 0 k = v0 0 0 k := by
  intro v0 a2 a3
  unfold mf_Mo_obeys_1_j49
  (try dsimp only)
  all_goals ((repeat' split) <;> (first | with_reducible rfl | (simp only [msend_0k (i := 0) (k := k) (by omega) (by omega) (by omega), mz55_Mo_obeys_1_j50 hc]; done)))
theorem mz55_Mo_obeys_1_j51 {k : Nat} (hc : k = 55) : ∀ (v0 : fw_V) (a2 : Int32) (a3 : Int32), (mf_Mo_obeys_1_j51 v0 a2 a3) 0 0 k = v0 0 0 k := by
  intro v0 a2 a3
  unfold mf_Mo_obeys_1_j51
  (try dsimp only)
  all_goals ((repeat' split) <;> (first | with_reducible rfl | (simp only [msend_0k (i := 0) (k := k) (by omega) (by omega) (by omega), mz55_Mo_obeys_1_j46 hc]; done)))
theorem mz55_Mo_obeys_1_j48 {k : Nat} (hc : k = 55) : ∀ (v0 : fw_V) (a2 : Int32) (a3 : Int32), (mf_Mo_obeys_1_j48 v0 a2 a3) 0 0 k = v0 0 0 k := by
  intro v0 a2 a3
  unfold mf_Mo_obeys_1_j48
  (try dsimp only)
  all_goals ((repeat' split) <;> (first | with_reducible rfl | (simp only [msend_0k (i := 0) (k := k) (by omega) (by omega) (by omega), mz55_Mo_obeys_1_j49 hc, mz55_Mo_obeys_1_j51 hc]; done)))
theorem mz55_Mo_obeys_1_j47 {k : Nat} (hc : k = 55) : ∀ (v0 : fw_V) (a2 : Int32) (a3 : Int32), (mf_Mo_obeys_1_j47 v0 a2 a3) 0 0 k = v0 0 0 k := by
  intro v0 a2 a3
  unfold mf_Mo_obeys_1_j47
  (try dsimp only)
  all_goals ((repeat' split) <;> (first | with_reducible rfl | (simp only [msend_0k (i := 0) (k := k) (by omega) (by omega) (by omega), mz55_Mo_obeys_1_j48 hc]; done)))
theorem mz55_Mo_obeys_1_j38 {k : Nat} (hc : k = 55) : ∀ (v0 : fw_V) (a2 : Int32) (a3 : Int32), (mf_Mo_obeys_1_j38 v0 a2 a3) 0 0 k = v0 0 0 k := by
  intro v0 a2 a3
  unfold mf_Mo_obeys_1_j38
  (try dsimp only)
  all_goals ((repeat' split) <;> (first | with_reducible rfl | (simp only [msend_0k (i := 0) (k := k) (by omega) (by omega) (by omega), mz55_Mo_obeys_1_j39 hc, mz55_Mo_obeys_1_j47 hc]; done)))
theorem mz55_Mo_obeys_1_j37 {k : Nat} (hc : k = 55) : ∀ (v0 : fw_V) (a2 : Int32) (a3 : Int32), (mf_Mo_obeys_1_j37 v0 a2 a3) 0 0 k = v0 0 0 k := by
  intro v0 a2 a3
  unfold mf_Mo_obeys_1_j37
  (try dsimp only)
  all_goals ((repeat' split) <;> (first | with_reducible rfl | (simp only [msend_0k (i := 0) (k := k) (by omega) (by omega) (by omega), mz55_Mo_obeys_1_j38 hc]; done)))
theorem mz55_Mo_obeys_1_j36 {k : Nat} (hc : k = 55) : ∀ (v0 : fw_V) (a2 : Int32) (a3 : Int32), (mf_Mo_obeys_1_j36 v0 a2 a3) 0 0 k = v0 0 0 k := by
  intro v0 a2 a3
  unfold mf_Mo_obeys_1_j36
  (try dsimp only)
  all_goals ((repeat' split) <;> (first | with_reducible rfl | (simp only [msend_0k (i := 0) (k := k) (by omega) (by omega) (by omega), mz55_Mo_obeys_1_j37 hc]; done)))
theorem mz55_Mo_obeys_1_j55 {k : Nat} (hc : k = 55) : ∀ (v0 : fw_V) (a2 : Int32) (a3 : Int32), (mf_Mo_obeys_1_j55 v0 a2 a3) 0 0 k = v0 0 0 k := by
  intro v0 a2 a3
  unfold mf_Mo_obeys_1_j55
  (try dsimp only)
  all_goals ((repeat' split) <;> (first | with_reducible rfl | (simp only [msend_0k (i := 0) (k := k) (by omega) (by omega) (by omega), mz55_Mo_obeys_1_j48 hc]; done)))
theorem mz55_Mo_obeys_1_j54 {k : Nat} (hc : k = 55) : ∀ (v0 : fw_V) (a2 : Int32) (a3 : Int32), (mf_Mo_obeys_1_j54 v0 a2 a3) 0 0 k = v0 0 0 k := by
  intro v0 a2 a3
  unfold mf_Mo_obeys_1_j54
  (try dsimp only)
  all_goals ((repeat' split) <;> (first | with_reducible rfl | (simp only [msend_0k (i := 0) (k := k) (by omega) (by omega) (by omega), mz55_Mo_obeys_1_j55 hc]; done)))
theorem mz55_Mo_obeys_1_j56 {k : Nat} (hc : k = 55) : ∀ (v0 : fw_V) (a2 : Int32) (a3 : Int32), (mf_Mo_obeys_1_j56 v0 a2 a3) 0 0 k = v0 0 0 k := by
  intro v0 a2 a3
  unfold mf_Mo_obeys_1_j56
  (try dsimp only)
  all_goals ((repeat' split) <;> (first | with_reducible rfl | (simp only [msend_0k (i := 0) (k := k) (by omega) (by omega) (by omega), mz55_Mo_obeys_1_j48 hc]; done)))
theorem mz55_Mo_obeys_1_j53 {k : Nat} (hc : k = 55) : ∀ (v0 : fw_V) (a2 : Int32) (a3 : Int32), (mf_Mo_obeys_1_j53 v0 a2 a3) 0 0 k = v0 0 0 k := by
  intro v0 a2 a3
  unfold mf_Mo_obeys_1_j53
  (try dsimp only)
  all_goals ((repeat' split) <;> (first | with_reducible rfl | (simp only [msend_0k (i := 0) (k := k) (by omega) (by omega) (by omega), mz55_Mo_obeys_1_j54 hc, mz55_Mo_obeys_1_j56 hc]; done)))
theorem mz55_Mo_obeys_1_j52 {k : Nat} (hc : k = 55) : ∀ (v0 : fw_V) (a2 : Int32) (a3 : Int32), (mf_Mo_obeys_1_j52 v0 a2 a3) 0 0 k = v0 0 0 k := by
  intro v0 a2 a3
  unfold mf_Mo_obeys_1_j52
  (try dsimp only)
  all_goals ((repeat' split) <;> (first | with_reducible rfl | (simp only [msend_0k (i := 0) (k := k) (by omega) (by omega) (by omega), mz55_Mo_obeys_1_j53 hc]; done)))
theorem mz55_Mo_obeys_1_j35 {k : Nat} (hc : k = 55) : ∀ (v0 : fw_V) (a2 : Int32) (a3 : Int32), (mf_Mo_obeys_1_j35 v0 a2 a3) 0 0 k = v0 0 0 k := by
  intro v0 a2 a3
  unfold mf_Mo_obeys_1_j35
  (try dsimp only)
  all_goals ((repeat' split) <;> (first | with_reducible rfl | (simp only [msend_0k (i := 0) (k := k) (by omega) (by omega) (by omega), mz55_Mo_obeys_1_j36 hc, mz55_Mo_obeys_1_j52 hc]; done)))
theorem mz55_Mo_obeys_1_j9 {k : Nat} (hc : k = 55) : ∀ (v : fw_V) (a2 : Int32) (a3 : Int32), (mf_Mo_obeys_1_j9 v a2 a3) 0 0 k = v 0 0 k := by
  intro v a2 a3
  unfold mf_Mo_obeys_1_j9
  (try dsimp only)
  all_goals ((repeat' split) <;> (first | with_reducible rfl | (simp only [msend_0k (i := 0) (k := k) (by omega) (by omega) (by omega)]; done)))
theorem mz55_Mo_obeys_1_j8 {k : Nat} (hc : k = 55) : ∀ (v : fw_V) (a2 : Int32) (a3 : Int32), (mf_Mo_obeys_1_j8 v a2 a3) 0 0 k = v 0 0 k := by
  intro v a2 a3
  unfold mf_Mo_obeys_1_j8
  (try dsimp only)
  all_goals ((repeat' split) <;> (first | with_reducible rfl | (simp only [fw_up_ne (c := 47) (i := 0) (k := 6) (c' := 0) (i' := 0) (k' := k) (by omega), fw_up_ne (c := 48) (i := 0) (k := 6) (c' := 0) (i' := 0) (k' := k) (by omega), msend_0k (i := 0) (k := k) (by omega) (by omega) (by omega), mz55_Mo_obeys_1_j9 hc]; done)))
theorem mz55_Mo_obeys_1_j7 {k : Nat} (hc : k = 55) : ∀ (v : fw_V) (a2 : Int32) (a3 : Int32), (mf_Mo_obeys_1_j7 v a2 a3) 0 0 k = v 0 0 k := by
  intro v a2 a3
  unfold mf_Mo_obeys_1_j7
  (try dsimp only)
  all_goals ((repeat' split) <;> (first | with_reducible rfl | (simp only [fw_up_ne (c := 47) (i := 0) (k := 5) (c' := 0) (i' := 0) (k' := k) (by omega), fw_up_ne (c := 48) (i := 0) (k := 5) (c' := 0) (i' := 0) (k' := k) (by omega), msend_0k (i := 0) (k := k) (by omega) (by omega) (by omega), mz55_Mo_obeys_1_j8 hc]; done)))
theorem mz55_Mo_obeys_1_j6 {k : Nat} (hc : k = 55) : ∀ (v : fw_V) (a2 : Int32) (a3 : Int32), (mf_Mo_obeys_1_j6 v a2 a3) 0 0 k = v 0 0 k := by
  intro v a2 a3
  unfold mf_Mo_obeys_1_j6
  (try dsimp only)
  all_goals ((repeat' split) <;> (first | with_reducible rfl | (simp only [fw_up_ne (c := 47) (i := 0) (k := 4) (c' := 0) (i' := 0) (k' := k) (by omega), fw_up_ne (c := 48) (i := 0) (k := 4) (c' := 0) (i' := 0) (k' := k) (by omega), msend_0k (i := 0) (k := k) (by omega) (by omega) (by omega), mz55_Mo_obeys_1_j7 hc]; done)))
theorem mz55_Mo_obeys_1_j61 {k : Nat} (hc : k = 55) : ∀ (v0 : fw_V) (a2 : Int32) (a3 : Int32), (mf_Mo_obeys_1_j61 v0 a2 a3) 0 0 k = v0 0 0 k := by
  intro v0 a2 a3
  unfold mf_Mo_obeys_1_j61
  (try dsimp only)
  all_goals ((repeat' split) <;> (first | with_reducible rfl | (simp only [fw_up_ne (c := 36) (i := 0) (k := 1) (c' := 0) (i' := 0) (k' := k) (by omega), fw_up_ne (c := 37) (i := 0) (k := 1) (c' := 0) (i' := 0) (k' := k) (by omega), msend_0k (i := 0) (k := k) (by omega) (by omega) (by omega), mz55_Mo_rest_1 hc, mz55_Mo_obeys_1_j6 hc]; done)))
theorem mz55_Mo_obeys_1_j22 {k : Nat} (hc : k = 55) : ∀ (v : fw_V) (a2 : Int32) (a3 : Int32), (mf_Mo_obeys_1_j22 v a2 a3) 0 0 k = v 0 0 k := by
  intro v a2 a3
  unfold mf_Mo_obeys_1_j22
  (try dsimp only)
  all_goals ((repeat' split) <;> (first | with_reducible rfl | (simp only [msend_0k (i := 0) (k := k) (by omega) (by omega) (by omega)]; done)))
theorem mz55_Mo_obeys_1_j21 {k : Nat} (hc : k = 55) : ∀ (v : fw_V) (a2 : Int32) (a3 : Int32), (mf_Mo_obeys_1_j21 v a2 a3) 0 0 k = v 0 0 k := by
  intro v a2 a3
  unfold mf_Mo_obeys_1_j21
  (try dsimp only)
  all_goals ((repeat' split) <;> (first | with_reducible rfl | (simp only [msend_0k (i := 0) (k := k) (by omega) (by omega) (by omega), mz55_Mo_obeys_1_j22 hc]; done)))
theorem mz55_Mo_obeys_1_j23 {k : Nat} (hc : k = 55) : ∀ (v : fw_V) (a2 : Int32) (a3 : Int32), (mf_Mo_obeys_1_j23 v a2 a3) 0 0 k = v 0 0 k := by
  intro v a2 a3
  unfold mf_Mo_obeys_1_j23
  (try dsimp only)
  all_goals ((repeat' split) <;> (first | with_reducible rfl | (simp only [fw_up_ne (c := 46) (i := 0) (k := 11) (c' := 0) (i' := 0) (k' := k) (by omega), msend_0k (i := 0) (k := k) (by omega) (by omega) (by omega), mz55_Mo_obeys_1_j21 hc]; done)))
theorem mz55_Mo_obeys_1_j24 {k : Nat} (hc : k = 55) : ∀ (v : fw_V) (a2 : Int32) (a3 : Int32) (x90 : Int32), (mf_Mo_obeys_1_j24 v a2 a3 x90) 0 0 k = v 0 0 k := by
  intro v a2 a3 x90
  unfold mf_Mo_obeys_1_j24
  (try dsimp only)
  all_goals ((repeat' split) <;> (first | with_reducible rfl | (simp only [fw_up_ne (c := 46) (i := 0) (k := 11) (c' := 0) (i' := 0) (k' := k) (by omega), msend_0k (i := 0) (k := k) (by omega) (by omega) (by omega), mz55_Mo_obeys_1_j21 hc]; done)))
theorem mz55_Mo_obeys_1_j20 {k : Nat} (hc : k = 55) : ∀ (v : fw_V) (a2 : Int32) (a3 : Int32), (mf_Mo_obeys_1_j20 v a2 a3) 0 0 k = v 0 0 k := by
  intro v a2 a3
  unfold mf_Mo_obeys_1_j20
  (try dsimp only)
  all_goals ((repeat' split) <;> (first | with_reducible rfl | (simp only [msend_0k (i := 0) (k := k) (by omega) (by omega) (by omega), mz55_Mo_obeys_1_j21 hc, mz55_Mo_obeys_1_j23 hc, mz55_Mo_obeys_1_j24 hc]; done)))
theorem mz55_Mo_obeys_1_j19 {k : Nat} (hc : k = 55) : ∀ (v : fw_V) (a2 : Int32) (a3 : Int32), (mf_Mo_obeys_1_j19 v a2 a3) 0 0 k = v 0 0 k := by
  intro v a2 a3
  unfold mf_Mo_obeys_1_j19
  (try dsimp only)
  all_goals ((repeat' split) <;> (first | with_reducible rfl | (simp only [msend_0k (i := 0) (k := k) (by omega) (by omega) (by omega), mz55_Mo_obeys_1_j20 hc]; done)))
theorem mz55_Mo_obeys_1_j25 {k : Nat} (hc : k = 55) : ∀ (v : fw_V) (a2 : Int32) (a3 : Int32), (mf_Mo_obeys_1_j25 v a2 a3) 0 0 k = v 0 0 k := by
  intro v a2 a3
  unfold mf_Mo_obeys_1_j25
  (try dsimp only)
  all_goals ((repeat' split) <;> (first | with_reducible rfl | (simp only [fw_up_ne (c := 46) (i := 0) (k := 10) (c' := 0) (i' := 0) (k' := k) (by omega), msend_0k (i := 0) (k := k) (by omega) (by omega) (by omega), mz55_Mo_obeys_1_j19 hc]; done)))
theorem mz55_Mo_obeys_1_j26 {k : Nat} (hc : k = 55) : ∀ (v : fw_V) (a2 : Int32) (a3 : Int32) (x90 : Int32), (mf_Mo_obeys_1_j26 v a2 a3 x90) 0 0 k = v 0 0 k := by
  intro v a2 a3 x90
  unfold mf_Mo_obeys_1_j26
  (try dsimp only)
  all_goals ((repeat' split) <;> (first | with_reducible rfl | (simp only [fw_up_ne (c := 46) (i := 0) (k := 10) (c' := 0) (i' := 0) (k' := k) (by omega), msend_0k (i := 0) (k := k) (by omega) (by omega) (by omega), mz55_Mo_obeys_1_j19 hc]; done)))
theorem mz55_Mo_obeys_1_j18 {k : Nat} (hc : k = 55) : ∀ (v : fw_V) (a2 : Int32) (a3 : Int32), (mf_Mo_obeys_1_j18 v a2 a3) 0 0 k = v 0 0 k := by
  intro v a2 a3
  unfold mf_Mo_obeys_1_j18
  (try dsimp only)
  all_goals ((repeat' split) <;> (first | with_reducible rfl | (simp only [msend_0k (i := 0) (k := k) (by omega) (by omega) (by omega), mz55_Mo_obeys_1_j19 hc, mz55_Mo_obeys_1_j25 hc, mz55_Mo_obeys_1_j26 hc]; done)))
theorem mz55_Mo_obeys_1_j17 {k : Nat} (hc : k = 55) : ∀ (v : fw_V) (a2 : Int32) (a3 : Int32), (mf_Mo_obeys_1_j17 v a2 a3) 0 0 k = v 0 0 k := by
  intro v a2 a3
  unfold mf_Mo_obeys_1_j17
  (try dsimp only)
  all_goals ((repeat' split) <;> (first | with_reducible rfl | (simp only [msend_0k (i := 0) (k := k) (by omega) (by omega) (by omega), mz55_Mo_obeys_1_j18 hc]; done)))
theorem mz55_Mo_obeys_1_j27 {k : Nat} (hc : k = 55) : ∀ (v : fw_V) (a2 : Int32) (a3 : Int32), (mf_Mo_obeys_1_j27 v a2 a3) 0 0 k = v 0 0 k := by
  intro v a2 a3
  unfold mf_Mo_obeys_1_j27
  (try dsimp only)
  all_goals ((repeat' split) <;> (first | with_reducible rfl | (simp only [fw_up_ne (c := 46) (i := 0) (k := 9) (c' := 0) (i' := 0) (k' := k) (by omega), msend_0k (i := 0) (k := k) (by omega) (by omega) (by omega), mz55_Mo_obeys_1_j17 hc]; done)))
theorem mz55_Mo_obeys_1_j28 {k : Nat} (hc : k = 55) : ∀ (v : fw_V) (a2 : Int32) (a3 : Int32) (x90 : Int32), (mf_Mo_obeys_1_j28 v a2 a3 x90) 0 0 k = v 0 0 k := by
  intro v a2 a3 x90
  unfold mf_Mo_obeys_1_j28
  (try dsimp only)
  all_goals ((repeat' split) <;> (first | with_reducible rfl | (simp only [fw_up_ne (c := 46) (i := 0) (k := 9) (c' := 0) (i' := 0) (k' := k) (by omega), msend_0k (i := 0) (k := k) (by omega) (by omega) (by omega), mz55_Mo_obeys_1_j17 hc]; done)))
theorem mz55_Mo_obeys_1_j16 {k : Nat} (hc : k = 55) : ∀ (v : fw_V) (a2 : Int32) (a3 : Int32), (mf_Mo_obeys_1_j16 v a2 a3) 0 0 k = v 0 0 k := by
  intro v a2 a3
  unfold mf_Mo_obeys_1_j16
  (try dsimp only)
  all_goals ((repeat' split) <;> (first | with_reducible rfl | (simp only [msend_0k (i := 0) (k := k) (by omega) (by omega) (by omega), mz55_Mo_obeys_1_j17 hc, mz55_Mo_obeys_1_j27 hc, mz55_Mo_obeys_1_j28 hc]; done)))
theorem mz55_Mo_obeys_1_j15 {k : Nat} (hc : k = 55) : ∀ (v : fw_V) (a2 : Int32) (a3 : Int32), (mf_Mo_obeys_1_j15 v a2 a3) 0 0 k = v 0 0 k := by
  intro v a2 a3
  unfold mf_Mo_obeys_1_j15
  (try dsimp only)
  all_goals ((repeat' split) <;> (first | with_reducible rfl | (simp only [msend_0k (i := 0) (k := k) (by omega) (by omega) (by omega), mz55_Mo_obeys_1_j16 hc]; done)))
theorem mz55_Mo_obeys_1_j29 {k : Nat} (hc : k = 55) : ∀ (v : fw_V) (a2 : Int32) (a3 : Int32), (mf_Mo_obeys_1_j29 v a2 a3) 0 0 k = v 0 0 k := by
  intro v a2 a3
  unfold mf_Mo_obeys_1_j29
  (try dsimp only)
  all_goals ((repeat' split) <;> (first | with_reducible rfl | (simp only [fw_up_ne (c := 46) (i := 0) (k := 8) (c' := 0) (i' := 0) (k' := k) (by omega), msend_0k (i := 0) (k := k) (by omega) (by omega) (by omega), mz55_Mo_obeys_1_j15 hc]; done)))
theorem mz55_Mo_obeys_1_j30 {k : Nat} (hc : k = 55) : ∀ (v : fw_V) (a2 : Int32) (a3 : Int32) (x90 : Int32), (mf_Mo_obeys_1_j30 v a2 a3 x90) 0 0 k = v 0 0 k := by
  intro v a2 a3 x90
  unfold mf_Mo_obeys_1_j30
  (try dsimp only)
  all_goals ((repeat' split) <;> (first | with_reducible rfl | (simp only [fw_up_ne (c := 46) (i := 0) (k := 8) (c' := 0) (i' := 0) (k' := k) (by omega), msend_0k (i := 0) (k := k) (by omega) (by omega) (by omega), mz55_Mo_obeys_1_j15 hc]; done)))
theorem mz55_Mo_obeys_1_j14 {k : Nat} (hc : k = 55) : ∀ (v : fw_V) (a2 : Int32) (a3 : Int32), (mf_Mo_obeys_1_j14 v a2 a3) 0 0 k = v 0 0 k := by
  intro v a2 a3
  unfold mf_Mo_obeys_1_j14
  (try dsimp only)
  all_goals ((repeat' split) <;> (first | with_reducible rfl | (simp only [msend_0k (i := 0) (k := k) (by omega) (by omega) (by omega), mz55_Mo_obeys_1_j15 hc, mz55_Mo_obeys_1_j29 hc, mz55_Mo_obeys_1_j30 hc]; done)))
theorem mz55_Mo_obeys_1_j13 {k : Nat} (hc : k = 55) : ∀ (v : fw_V) (a2 : Int32) (a3 : Int32), (mf_Mo_obeys_1_j13 v a2 a3) 0 0 k = v 0 0 k := by
  intro v a2 a3
  unfold mf_Mo_obeys_1_j13
  (try dsimp only)
  all_goals ((repeat' split) <;> (first | with_reducible rfl | (simp only [msend_0k (i := 0) (k := k) (by omega) (by omega) (by omega), mz55_Mo_obeys_1_j14 hc]; done)))
theorem mz55_Mo_obeys_1_j31 {k : Nat} (hc : k = 55) : ∀ (v : fw_V) (a2 : Int32) (a3 : Int32), (mf_Mo_obeys_1_j31 v a2 a3) 0 0 k = v 0 0 k := by
  intro v a2 a3
  unfold mf_Mo_obeys_1_j31
  (try dsimp only)
  all_goals ((repeat' split) <;> (first | with_reducible rfl | (simp only [fw_up_ne (c := 46) (i := 0) (k := 7) (c' := 0) (i' := 0) (k' := k) (by omega), msend_0k (i := 0) (k := k) (by omega) (by omega) (by omega), mz55_Mo_obeys_1_j13 hc]; done)))
theorem mz55_Mo_obeys_1_j32 {k : Nat} (hc : k = 55) : ∀ (v : fw_V) (a2 : Int32) (a3 : Int32) (x90 : Int32), (mf_Mo_obeys_1_j32 v a2 a3 x90) 0 0 k = v 0 0 k := by
  intro v a2 a3 x90
  unfold mf_Mo_obeys_1_j32
  (try dsimp only)
  all_goals ((repeat' split) <;> (first | with_reducible rfl | (simp only [fw_up_ne (c := 46) (i := 0) (k := 7) (c' := 0) (i' := 0) (k' := k) (by omega), msend_0k (i := 0) (k := k) (by omega) (by omega) (by omega), mz55_Mo_obeys_1_j13 hc]; done)))
theorem mz55_Mo_obeys_1_j12 {k : Nat} (hc : k = 55) : ∀ (v : fw_V) (a2 : Int32) (a3 : Int32), (mf_Mo_obeys_1_j12 v a2 a3) 0 0 k = v 0 0 k := by
  intro v a2 a3
  unfold mf_Mo_obeys_1_j12
  (try dsimp only)
  all_goals ((repeat' split) <;> (first | with_reducible rfl | (simp only [msend_0k (i := 0) (k := k) (by omega) (by omega) (by omega), mz55_Mo_obeys_1_j13 hc, mz55_Mo_obeys_1_j31 hc, mz55_Mo_obeys_1_j32 hc]; done)))
theorem mz55_Mo_obeys_1_j11 {k : Nat} (hc : k = 55) : ∀ (v : fw_V) (a2 : Int32) (a3 : Int32), (mf_Mo_obeys_1_j11 v a2 a3) 0 0 k = v 0 0 k := by
  intro v a2 a3
  unfold mf_Mo_obeys_1_j11
  (try dsimp only)
  all_goals ((repeat' split) <;> (first | with_reducible rfl | (simp only [msend_0k (i := 0) (k := k) (by omega) (by omega) (by omega), mz55_Mo_obeys_1_j12 hc]; done)))
theorem mz55_Mo_obeys_1_j33 {k : Nat} (hc : k = 55) : ∀ (v : fw_V) (a2 : Int32) (a3 : Int32), (mf_Mo_obeys_1_j33 v a2 a3) 0 0 k = v 0 0 k := by
  intro v a2 a3
  unfold mf_Mo_obeys_1_j33
  (try dsimp only)
  all_goals ((repeat' split) <;> (first | with_reducible rfl | (simp only [fw_up_ne (c := 46) (i := 0) (k := 6) (c' := 0) (i' := 0) (k' := k) (by omega), msend_0k (i := 0) (k := k) (by omega) (by omega) (by omega), mz55_Mo_obeys_1_j11 hc]; done)))
theorem mz55_Mo_obeys_1_j34 {k : Nat} (hc : k = 55) : ∀ (v : fw_V) (a2 : Int32) (a3 : Int32) (x90 : Int32), (mf_Mo_obeys_1_j34 v a2 a3 x90) 0 0 k = v 0 0 k := by
  intro v a2 a3 x90
  unfold mf_Mo_obeys_1_j34
  (try dsimp only)
  all_goals ((repeat' split) <;> (first | with_reducible rfl | (simp only [fw_up_ne (c := 46) (i := 0) (k := 6) (c' := 0) (i' := 0) (k' := k) (by omega), msend_0k (i := 0) (k := k) (by omega) (by omega) (by omega), mz55_Mo_obeys_1_j11 hc]; done)))
theorem mz55_Mo_obeys_1_j10 {k : Nat} (hc : k = 55) : ∀ (v : fw_V) (a2 : Int32) (a3 : Int32), (mf_Mo_obeys_1_j10 v a2 a3) 0 0 k = v 0 0 k := by
  intro v a2 a3
  unfold mf_Mo_obeys_1_j10
  (try dsimp only)
  all_goals ((repeat' split) <;> (first | with_reducible rfl | (simp only [msend_0k (i := 0) (k := k) (by omega) (by omega) (by omega), mz55_Mo_obeys_1_j11 hc, mz55_Mo_obeys_1_j33 hc, mz55_Mo_obeys_1_j34 hc]; done)))
theorem mz55_Mo_obeys_1_j60 {k : Nat} (hc : k = 55) : ∀ (v0 : fw_V) (a2 : Int32) (a3 : Int32), (mf_Mo_obeys_1_j60 v0 a2 a3) 0 0 k = v0 0 0 k := by
  intro v0 a2 a3
  unfold mf_Mo_obeys_1_j60
  (try dsimp only)
  all_goals ((repeat' split) <;> (first | with_reducible rfl | (simp only [fw_up_ne (c := 35) (i := 0) (k := 1) (c' := 0) (i' := 0) (k' := k) (by omega), fw_up_ne (c := 32) (i := 0) (k := 1) (c' := 0) (i' := 0) (k' := k) (by omega), msend_0k (i := 0) (k := k) (by omega) (by omega) (by omega), mz55_Mo_obeys_1_j61 hc, mz55_Mo_obeys_1_j10 hc]; done)))
theorem mz55_Mo_obeys_1_j59 {k : Nat} (hc : k = 55) : ∀ (v0 : fw_V) (a2 : Int32) (a3 : Int32), (mf_Mo_obeys_1_j59 v0 a2 a3) 0 0 k = v0 0 0 k := by
  intro v0 a2 a3
  unfold mf_Mo_obeys_1_j59
  (try dsimp only)
  all_goals ((repeat' split) <;> (first | with_reducible rfl | (simp only [fw_up_ne (c := 28) (i := 0) (k := 1) (c' := 0) (i' := 0) (k' := k) (by omega), fw_up_ne (c := 32) (i := 0) (k := 1) (c' := 0) (i' := 0) (k' := k) (by omega), fw_up_ne (c := 34) (i := 0) (k := 1) (c' := 0) (i' := 0) (k' := k) (by omega), fw_up_ne (c := 35) (i := 0) (k := 1) (c' := 0) (i' := 0) (k' := k) (by omega), fw_up_ne (c := 37) (i := 0) (k := 1) (c' := 0) (i' := 0) (k' := k) (by omega), fw_up_ne (c := 36) (i := 0) (k := 1) (c' := 0) (i' := 0) (k' := k) (by omega), fw_up_ne (c := 39) (i := 0) (k := 1) (c' := 0) (i' := 0) (k' := k) (by omega), msend_0k (i := 0) (k := k) (by omega) (by omega) (by omega), mz55_Mo_obeys_1_j60 hc]; done)))
theorem mz55_Mo_obeys_1_j58 {k : Nat} (hc : k = 55) : ∀ (v0 : fw_V) (a2 : Int32) (a3 : Int32), (mf_Mo_obeys_1_j58 v0 a2 a3) 0 0 k = v0 0 0 k := by
  intro v0 a2 a3
  unfold mf_Mo_obeys_1_j58
  (try dsimp only)
  all_goals ((repeat' split) <;> (first | with_reducible rfl | (simp only [msend_0k (i := 0) (k := k) (by omega) (by omega) (by omega), mz55_Mo_reply_1 hc, mz55_Mo_obeys_1_j59 hc]; done)))
theorem mz55_Mo_obeys_1_j57 {k : Nat} (hc : k = 55) : ∀ (v0 : fw_V) (a2 : Int32) (a3 : Int32), (mf_Mo_obeys_1_j57 v0 a2 a3) 0 0 k = v0 0 0 k := by
  intro v0 a2 a3
  unfold mf_Mo_obeys_1_j57
  (try dsimp only)
  all_goals ((repeat' split) <;> (first | with_reducible rfl | (simp only [msend_0k (i := 0) (k := k) (by omega) (by omega) (by omega), mz55_Mo_obeys_1_j35 hc, mz55_Mo_obeys_1_j58 hc]; done)))
theorem mz55_Mo_obeys_1_j5 {k : Nat} (hc : k = 55) : ∀ (v0 : fw_V) (a2 : Int32) (a3 : Int32), (mf_Mo_obeys_1_j5 v0 a2 a3) 0 0 k = v0 0 0 k := by
  intro v0 a2 a3
  unfold mf_Mo_obeys_1_j5
  (try dsimp only)
  all_goals ((repeat' split) <;> (first | with_reducible rfl | (simp only [fw_up_ne (c := 36) (i := 0) (k := 1) (c' := 0) (i' := 0) (k' := k) (by omega), fw_up_ne (c := 37) (i := 0) (k := 1) (c' := 0) (i' := 0) (k' := k) (by omega), msend_0k (i := 0) (k := k) (by omega) (by omega) (by omega), mz55_Mo_rest_1 hc, mz55_Mo_obeys_1_j6 hc]; done)))
theorem mz55_Mo_obeys_1_j4 {k : Nat} (hc : k = 55) : ∀ (v0 : fw_V) (a2 : Int32) (a3 : Int32), (mf_Mo_obeys_1_j4 v0 a2 a3) 0 0 k = v0 0 0 k := by
  intro v0 a2 a3
  unfold mf_Mo_obeys_1_j4
  (try dsimp only)
  all_goals ((repeat' split) <;> (first | with_reducible rfl | (simp only [fw_up_ne (c := 35) (i := 0) (k := 1) (c' := 0) (i' := 0) (k' := k) (by omega), fw_up_ne (c := 32) (i := 0) (k := 1) (c' := 0) (i' := 0) (k' := k) (by omega), msend_0k (i := 0) (k := k) (by omega) (by omega) (by omega), mz55_Mo_obeys_1_j5 hc, mz55_Mo_obeys_1_j10 hc]; done)))
theorem mz55_Mo_obeys_1_j3 {k : Nat} (hc : k = 55) : ∀ (v0 : fw_V) (a2 : Int32) (a3 : Int32), (mf_Mo_obeys_1_j3 v0 a2 a3) 0 0 k = v0 0 0 k := by
  intro v0 a2 a3
  unfold mf_Mo_obeys_1_j3
  (try dsimp only)
  all_goals ((repeat' split) <;> (first | with_reducible rfl | (simp only [fw_up_ne (c := 28) (i := 0) (k := 1) (c' := 0) (i' := 0) (k' := k) (by omega), fw_up_ne (c := 32) (i := 0) (k := 1) (c' := 0) (i' := 0) (k' := k) (by omega), fw_up_ne (c := 34) (i := 0) (k := 1) (c' := 0) (i' := 0) (k' := k) (by omega), fw_up_ne (c := 35) (i := 0) (k := 1) (c' := 0) (i' := 0) (k' := k) (by omega), fw_up_ne (c := 37) (i := 0) (k := 1) (c' := 0) (i' := 0) (k' := k) (by omega), fw_up_ne (c := 36) (i := 0) (k := 1) (c' := 0) (i' := 0) (k' := k) (by omega), fw_up_ne (c := 39) (i := 0) (k := 1) (c' := 0) (i' := 0) (k' := k) (by omega), msend_0k (i := 0) (k := k) (by omega) (by omega) (by omega), mz55_Mo_obeys_1_j4 hc]; done)))
theorem mz55_Mo_obeys_1_j2 {k : Nat} (hc : k = 55) : ∀ (v0 : fw_V) (a2 : Int32) (a3 : Int32), (mf_Mo_obeys_1_j2 v0 a2 a3) 0 0 k = v0 0 0 k := by
  intro v0 a2 a3
  unfold mf_Mo_obeys_1_j2
  (try dsimp only)
  all_goals ((repeat' split) <;> (first | with_reducible rfl | (simp only [msend_0k (i := 0) (k := k) (by omega) (by omega) (by omega), mz55_Mo_reply_1 hc, mz55_Mo_obeys_1_j3 hc]; done)))
theorem mz55_Mo_obeys_1_j1 {k : Nat} (hc : k = 55) : ∀ (v0 : fw_V) (a2 : Int32) (a3 : Int32), (mf_Mo_obeys_1_j1 v0 a2 a3) 0 0 k = v0 0 0 k := by
  intro v0 a2 a3
  unfold mf_Mo_obeys_1_j1
  (try dsimp only)
  all_goals ((repeat' split) <;> (first | with_reducible rfl | (simp only [msend_0k (i := 0) (k := k) (by omega) (by omega) (by omega), mz55_Mo_obeys_1_j35 hc, mz55_Mo_obeys_1_j2 hc]; done)))
theorem mz55_Mo_obeys_1 {k : Nat} (hc : k = 55) : ∀ (v0 : fw_V) (a2 : Int32) (a3 : Int32), (mf_Mo_obeys_1 v0 a2 a3) 0 0 k = v0 0 0 k := by
  intro v0 a2 a3
  unfold mf_Mo_obeys_1
  (try dsimp only)
  all_goals ((repeat' split) <;> (first | with_reducible rfl | (simp only [fw_up_c (c := 44) (c' := 0) (by decide), fw_up_ne (c := 32) (i := 0) (k := 1) (c' := 0) (i' := 0) (k' := k) (by omega), msend_0k (i := 0) (k := k) (by omega) (by omega) (by omega), mz55_Mo_reply_1 hc, mz55_Mo_obeys_1_j57 hc, mz55_Mo_obeys_1_j1 hc]; done)))
theorem mz55_Mo_arrives_1 {k : Nat} (hc : k = 55) : ∀ (v0 : fw_V) (a2 : Int32) (a3 : Int32) (a4 : Int32), (mf_Mo_arrives_1 v0 a2 a3 a4) 0 0 k = v0 0 0 k := by
  intro v0 a2 a3 a4
  unfold mf_Mo_arrives_1
  (try dsimp only)
  all_goals ((repeat' split) <;> (first | with_reducible rfl | (simp only [fw_up_ne (c := 9) (i := 0) (k := 0) (c' := 0) (i' := 0) (k' := k) (by omega), msend_0k (i := 0) (k := k) (by omega) (by omega) (by omega), mz55_Mo_connect_1 hc, mz55_Mo_obeys_1 hc]; done)))
theorem mz55_Mo_alarm_1_j2 {k : Nat} (hc : k = 55) : ∀ (v : fw_V), (mf_Mo_alarm_1_j2 v) 0 0 k = v 0 0 k := by
  intro v
  unfold mf_Mo_alarm_1_j2
  (try dsimp only)
  all_goals ((repeat' split) <;> (first | with_reducible rfl | (simp only [fw_up_ne (c := 38) (i := 0) (k := 1) (c' := 0) (i' := 0) (k' := k) (by omega), fw_up_ne (c := 9) (i := 0) (k := 0) (c' := 0) (i' := 0) (k' := k) (by omega), fw_up_ne (c := 9) (i := 0) (k := 1) (c' := 0) (i' := 0) (k' := k) (by omega), msend_0k (i := 0) (k := k) (by omega) (by omega) (by omega), mz55_Mo_reply_1 hc]; done)))
theorem mz55_Mo_alarm_1_j3 {k : Nat} (hc : k = 55) : ∀ (v0 : fw_V), (mf_Mo_alarm_1_j3 v0) 0 0 k = v0 0 0 k := by
  intro v0
  unfold mf_Mo_alarm_1_j3
  (try dsimp only)
  all_goals ((repeat' split) <;> (first | with_reducible rfl | (simp only [fw_up_ne (c := 39) (i := 0) (k := 1) (c' := 0) (i' := 0) (k' := k) (by omega), fw_up_ne (c := 36) (i := 0) (k := 1) (c' := 0) (i' := 0) (k' := k) (by omega), msend_0k (i := 0) (k := k) (by omega) (by omega) (by omega), mz55_Mo_alarm_1_j2 hc]; done)))
theorem mz55_Mo_alarm_1_j1 {k : Nat} (hc : k = 55) : ∀ (v0 : fw_V), (mf_Mo_alarm_1_j1 v0) 0 0 k = v0 0 0 k := by
  intro v0
  unfold mf_Mo_alarm_1_j1
  (try dsimp only)
  all_goals ((repeat' split) <;> (first | with_reducible rfl | (simp only [fw_up_ne (c := 39) (i := 0) (k := 1) (c' := 0) (i' := 0) (k' := k) (by omega), fw_up_ne (c := 36) (i := 0) (k := 1) (c' := 0) (i' := 0) (k' := k) (by omega), msend_0k (i := 0) (k := k) (by omega) (by omega) (by omega), mz55_Mo_alarm_1_j2 hc]; done)))
theorem mz55_Mo_alarm_1 {k : Nat} (hc : k = 55) : ∀ (v0 : fw_V), (mf_Mo_alarm_1 v0) 0 0 k = v0 0 0 k := by
  intro v0
  unfold mf_Mo_alarm_1
  (try dsimp only)
  all_goals ((repeat' split) <;> (first | with_reducible rfl | (simp only [fw_up_ne (c := 38) (i := 0) (k := 1) (c' := 0) (i' := 0) (k' := k) (by omega), msend_0k (i := 0) (k := k) (by omega) (by omega) (by omega), mz55_Mo_alarm_1_j3 hc, mz55_Mo_alarm_1_j1 hc, mz55_Mo_alarm_1_j2 hc]; done)))
theorem mz55_Mo_pulse_1_j25 {k : Nat} (hc : k = 55) : ∀ (v : fw_V), (mf_Mo_pulse_1_j25 v) 0 0 k = v 0 0 k := by
  intro v
  unfold mf_Mo_pulse_1_j25
  (try dsimp only)
  all_goals ((repeat' split) <;> (first | with_reducible rfl | (simp only [fw_up_ne (c := 9) (i := 0) (k := 6) (c' := 0) (i' := 0) (k' := k) (by omega), fw_up_ne (c := 34) (i := 0) (k := 1) (c' := 0) (i' := 0) (k' := k) (by omega), msend_0k (i := 0) (k := k) (by omega) (by omega) (by omega), mz55_Mo_reply_1 hc]; done)))
theorem mz55_Mo_pulse_1_j24 {k : Nat} (hc : k = 55) : ∀ (v : fw_V), (mf_Mo_pulse_1_j24 v) 0 0 k = v 0 0 k := by
  intro v
  unfold mf_Mo_pulse_1_j24
  (try dsimp only)
  all_goals ((repeat' split) <;> (first | with_reducible rfl | (simp only [msend_0k (i := 0) (k := k) (by omega) (by omega) (by omega), mz55_Mo_pulse_1_j25 hc]; done)))
theorem mz55_Mo_pulse_1_j27 {k : Nat} (hc : k = 55) : ∀ (v : fw_V), (mf_Mo_pulse_1_j27 v) 0 0 k = v 0 0 k := by
  intro v
  unfold mf_Mo_pulse_1_j27
  (try dsimp only)
  all_goals ((repeat' split) <;> (first | with_reducible rfl | (simp only [fw_up_ne (c := 9) (i := 0) (k := 6) (c' := 0) (i' := 0) (k' := k) (by omega), fw_up_ne (c := 34) (i := 0) (k := 1) (c' := 0) (i' := 0) (k' := k) (by omega), msend_0k (i := 0) (k := k) (by omega) (by omega) (by omega), mz55_Mo_reply_1 hc]; done)))
theorem mz55_Mo_pulse_1_j26 {k : Nat} (hc : k = 55) : ∀ (v : fw_V), (mf_Mo_pulse_1_j26 v) 0 0 k = v 0 0 k := by
  intro v
  unfold mf_Mo_pulse_1_j26
  (try dsimp only)
  all_goals ((repeat' split) <;> (first | with_reducible rfl | (simp only [msend_0k (i := 0) (k := k) (by omega) (by omega) (by omega), mz55_Mo_pulse_1_j27 hc]; done)))
theorem mz55_Mo_pulse_1_j23 {k : Nat} (hc : k = 55) : ∀ (v : fw_V) (x4 : Int32), (mf_Mo_pulse_1_j23 v x4) 0 0 k = v 0 0 k := by
  intro v x4
  unfold mf_Mo_pulse_1_j23
  (try dsimp only)
  all_goals ((repeat' split) <;> (first | with_reducible rfl | (simp only [fw_up_ne (c := 9) (i := 0) (k := 5) (c' := 0) (i' := 0) (k' := k) (by omega), msend_0k (i := 0) (k := k) (by omega) (by omega) (by omega), mz55_Mo_pulse_1_j24 hc, mz55_Mo_pulse_1_j26 hc]; done)))
theorem mz55_Mo_pulse_1_j22 {k : Nat} (hc : k = 55) : ∀ (v : fw_V) (x4 : Int32), (mf_Mo_pulse_1_j22 v x4) 0 0 k = v 0 0 k := by
  intro v x4
  unfold mf_Mo_pulse_1_j22
  (try dsimp only)
  all_goals ((repeat' split) <;> (first | with_reducible rfl | (simp only [msend_0k (i := 0) (k := k) (by omega) (by omega) (by omega), mz55_Mo_pulse_1_j23 hc]; done)))
theorem mz55_Mo_pulse_1_j28 {k : Nat} (hc : k = 55) : ∀ (v : fw_V) (x4 : Int32) (x90 : Int32), (mf_Mo_pulse_1_j28 v x4 x90) 0 0 k = v 0 0 k := by
  intro v x4 x90
  unfold mf_Mo_pulse_1_j28
  (try dsimp only)
  all_goals ((repeat' split) <;> (first | with_reducible rfl | (simp only [fw_up_ne (c := 9) (i := 0) (k := 5) (c' := 0) (i' := 0) (k' := k) (by omega), msend_0k (i := 0) (k := k) (by omega) (by omega) (by omega), mz55_Mo_pulse_1_j24 hc, mz55_Mo_pulse_1_j26 hc]; done)))
theorem mz55_Mo_pulse_1_j21 {k : Nat} (hc : k = 55) : ∀ (v : fw_V), (mf_Mo_pulse_1_j21 v) 0 0 k = v 0 0 k := by
  intro v
  unfold mf_Mo_pulse_1_j21
  (try dsimp only)
  all_goals ((repeat' split) <;> (first | with_reducible rfl | (simp only [msend_0k (i := 0) (k := k) (by omega) (by omega) (by omega), mz55_Mo_pulse_1_j22 hc, mz55_Mo_pulse_1_j28 hc]; done)))
theorem mz55_Mo_pulse_1_j20 {k : Nat} (hc : k = 55) : ∀ (v : fw_V), (mf_Mo_pulse_1_j20 v) 0 0 k = v 0 0 k := by
  intro v
  unfold mf_Mo_pulse_1_j20
  (try dsimp only)
  all_goals ((repeat' split) <;> (first | with_reducible rfl | (simp only [msend_0k (i := 0) (k := k) (by omega) (by omega) (by omega), mz55_Mo_pulse_1_j21 hc]; done)))
theorem mz55_Mo_pulse_1_j33 {k : Nat} (hc : k = 55) : ∀ (v : fw_V), (mf_Mo_pulse_1_j33 v) 0 0 k = v 0 0 k := by
  intro v
  unfold mf_Mo_pulse_1_j33
  (try dsimp only)
  all_goals ((repeat' split) <;> (first | with_reducible rfl | (simp only [msend_0k (i := 0) (k := k) (by omega) (by omega) (by omega), mz55_Mo_pulse_1_j27 hc]; done)))
theorem mz55_Mo_pulse_1_j34 {k : Nat} (hc : k = 55) : ∀ (v : fw_V), (mf_Mo_pulse_1_j34 v) 0 0 k = v 0 0 k := by
  intro v
  unfold mf_Mo_pulse_1_j34
  (try dsimp only)
  all_goals ((repeat' split) <;> (first | with_reducible rfl | (simp only [msend_0k (i := 0) (k := k) (by omega) (by omega) (by omega), mz55_Mo_pulse_1_j27 hc]; done)))
theorem mz55_Mo_pulse_1_j32 {k : Nat} (hc : k = 55) : ∀ (v : fw_V) (x4 : Int32), (mf_Mo_pulse_1_j32 v x4) 0 0 k = v 0 0 k := by
  intro v x4
  unfold mf_Mo_pulse_1_j32
  (try dsimp only)
  all_goals ((repeat' split) <;> (first | with_reducible rfl | (simp only [fw_up_ne (c := 9) (i := 0) (k := 5) (c' := 0) (i' := 0) (k' := k) (by omega), msend_0k (i := 0) (k := k) (by omega) (by omega) (by omega), mz55_Mo_pulse_1_j33 hc, mz55_Mo_pulse_1_j34 hc]; done)))
theorem mz55_Mo_pulse_1_j31 {k : Nat} (hc : k = 55) : ∀ (v : fw_V) (x4 : Int32), (mf_Mo_pulse_1_j31 v x4) 0 0 k = v 0 0 k := by
  intro v x4
  unfold mf_Mo_pulse_1_j31
  (try dsimp only)
  all_goals ((repeat' split) <;> (first | with_reducible rfl | (simp only [msend_0k (i := 0) (k := k) (by omega) (by omega) (by omega), mz55_Mo_pulse_1_j32 hc]; done)))
theorem mz55_Mo_pulse_1_j35 {k : Nat} (hc : k = 55) : ∀ (v : fw_V) (x4 : Int32) (x90 : Int32), (mf_Mo_pulse_1_j35 v x4 x90) 0 0 k = v 0 0 k := by
  intro v x4 x90
  unfold mf_Mo_pulse_1_j35
  (try dsimp only)
  all_goals ((repeat' split) <;> (first | with_reducible rfl | (simp only [fw_up_ne (c := 9) (i := 0) (k := 5) (c' := 0) (i' := 0) (k' := k) (by omega), msend_0k (i := 0) (k := k) (by omega) (by omega) (by omega), mz55_Mo_pulse_1_j33 hc, mz55_Mo_pulse_1_j34 hc]; done)))
theorem mz55_Mo_pulse_1_j30 {k : Nat} (hc : k = 55) : ∀ (v : fw_V), (mf_Mo_pulse_1_j30 v) 0 0 k = v 0 0 k := by
  intro v
  unfold mf_Mo_pulse_1_j30
  (try dsimp only)
  all_goals ((repeat' split) <;> (first | with_reducible rfl | (simp only [msend_0k (i := 0) (k := k) (by omega) (by omega) (by omega), mz55_Mo_pulse_1_j31 hc, mz55_Mo_pulse_1_j35 hc]; done)))
theorem mz55_Mo_pulse_1_j29 {k : Nat} (hc : k = 55) : ∀ (v : fw_V), (mf_Mo_pulse_1_j29 v) 0 0 k = v 0 0 k := by
  intro v
  unfold mf_Mo_pulse_1_j29
  (try dsimp only)
  all_goals ((repeat' split) <;> (first | with_reducible rfl | (simp only [msend_0k (i := 0) (k := k) (by omega) (by omega) (by omega), mz55_Mo_pulse_1_j30 hc]; done)))
theorem mz55_Mo_pulse_1_j19 {k : Nat} (hc : k = 55) : ∀ (v : fw_V) (x4 : Int32), (mf_Mo_pulse_1_j19 v x4) 0 0 k = v 0 0 k := by
  intro v x4
  unfold mf_Mo_pulse_1_j19
  (try dsimp only)
  all_goals ((repeat' split) <;> (first | with_reducible rfl | (simp only [fw_up_ne (c := 9) (i := 0) (k := 4) (c' := 0) (i' := 0) (k' := k) (by omega), msend_0k (i := 0) (k := k) (by omega) (by omega) (by omega), mz55_Mo_pulse_1_j20 hc, mz55_Mo_pulse_1_j29 hc]; done)))
theorem mz55_Mo_pulse_1_j18 {k : Nat} (hc : k = 55) : ∀ (v : fw_V) (x4 : Int32), (mf_Mo_pulse_1_j18 v x4) 0 0 k = v 0 0 k := by
  intro v x4
  unfold mf_Mo_pulse_1_j18
  (try dsimp only)
  all_goals ((repeat' split) <;> (first | with_reducible rfl | (simp only [msend_0k (i := 0) (k := k) (by omega) (by omega) (by omega), mz55_Mo_pulse_1_j19 hc]; done)))
theorem mz55_Mo_pulse_1_j36 {k : Nat} (hc : k = 55) : ∀ (v : fw_V) (x4 : Int32) (x90 : Int32), (mf_Mo_pulse_1_j36 v x4 x90) 0 0 k = v 0 0 k := by
  intro v x4 x90
  unfold mf_Mo_pulse_1_j36
  (try dsimp only)
  all_goals ((repeat' split) <;> (first | with_reducible rfl | (simp only [fw_up_ne (c := 9) (i := 0) (k := 4) (c' := 0) (i' := 0) (k' := k) (by omega), msend_0k (i := 0) (k := k) (by omega) (by omega) (by omega), mz55_Mo_pulse_1_j20 hc, mz55_Mo_pulse_1_j29 hc]; done)))
theorem mz55_Mo_pulse_1_j17 {k : Nat} (hc : k = 55) : ∀ (v : fw_V), (mf_Mo_pulse_1_j17 v) 0 0 k = v 0 0 k := by
  intro v
  unfold mf_Mo_pulse_1_j17
  (try dsimp only)
  all_goals ((repeat' split) <;> (first | with_reducible rfl | (simp only [msend_0k (i := 0) (k := k) (by omega) (by omega) (by omega), mz55_Mo_pulse_1_j18 hc, mz55_Mo_pulse_1_j36 hc]; done)))
theorem mz55_Mo_pulse_1_j16 {k : Nat} (hc : k = 55) : ∀ (v : fw_V), (mf_Mo_pulse_1_j16 v) 0 0 k = v 0 0 k := by
  intro v
  unfold mf_Mo_pulse_1_j16
  (try dsimp only)
  all_goals ((repeat' split) <;> (first | with_reducible rfl | (simp only [msend_0k (i := 0) (k := k) (by omega) (by omega) (by omega), mz55_Mo_pulse_1_j17 hc]; done)))
theorem mz55_Mo_pulse_1_j46 {k : Nat} (hc : k = 55) : ∀ (v : fw_V), (mf_Mo_pulse_1_j46 v) 0 0 k = v 0 0 k := by
  intro v
  unfold mf_Mo_pulse_1_j46
  (try dsimp only)
  all_goals ((repeat' split) <;> (first | with_reducible rfl | (simp only [fw_up_ne (c := 9) (i := 0) (k := 6) (c' := 0) (i' := 0) (k' := k) (by omega), fw_up_ne (c := 34) (i := 0) (k := 1) (c' := 0) (i' := 0) (k' := k) (by omega), msend_0k (i := 0) (k := k) (by omega) (by omega) (by omega), mz55_Mo_reply_1 hc]; done)))
theorem mz55_Mo_pulse_1_j45 {k : Nat} (hc : k = 55) : ∀ (v : fw_V), (mf_Mo_pulse_1_j45 v) 0 0 k = v 0 0 k := by
  intro v
  unfold mf_Mo_pulse_1_j45
  (try dsimp only)
  all_goals ((repeat' split) <;> (first | with_reducible rfl | (simp only [msend_0k (i := 0) (k := k) (by omega) (by omega) (by omega), mz55_Mo_pulse_1_j46 hc]; done)))
theorem mz55_Mo_pulse_1_j48 {k : Nat} (hc : k = 55) : ∀ (v : fw_V), (mf_Mo_pulse_1_j48 v) 0 0 k = v 0 0 k := by
  intro v
  unfold mf_Mo_pulse_1_j48
  (try dsimp only)
  all_goals ((repeat' split) <;> (first | with_reducible rfl | (simp only [fw_up_ne (c := 9) (i := 0) (k := 6) (c' := 0) (i' := 0) (k' := k) (by omega), fw_up_ne (c := 34) (i := 0) (k := 1) (c' := 0) (i' := 0) (k' := k) (by omega), msend_0k (i := 0) (k := k) (by omega) (by omega) (by omega), mz55_Mo_reply_1 hc]; done)))
theorem mz55_Mo_pulse_1_j47 {k : Nat} (hc : k = 55) : ∀ (v : fw_V), (mf_Mo_pulse_1_j47 v) 0 0 k = v 0 0 k := by
  intro v
  unfold mf_Mo_pulse_1_j47
  (try dsimp only)
  all_goals ((repeat' split) <;> (first | with_reducible rfl | (simp only [msend_0k (i := 0) (k := k) (by omega) (by omega) (by omega), mz55_Mo_pulse_1_j48 hc]; done)))
theorem mz55_Mo_pulse_1_j44 {k : Nat} (hc : k = 55) : ∀ (v : fw_V) (x4 : Int32), (mf_Mo_pulse_1_j44 v x4) 0 0 k = v 0 0 k := by
  intro v x4
  unfold mf_Mo_pulse_1_j44
  (try dsimp only)
  all_goals ((repeat' split) <;> (first | with_reducible rfl | (simp only [fw_up_ne (c := 9) (i := 0) (k := 5) (c' := 0) (i' := 0) (k' := k) (by omega), msend_0k (i := 0) (k := k) (by omega) (by omega) (by omega), mz55_Mo_pulse_1_j45 hc, mz55_Mo_pulse_1_j47 hc]; done)))
theorem mz55_Mo_pulse_1_j43 {k : Nat} (hc : k = 55) : ∀ (v : fw_V) (x4 : Int32), (mf_Mo_pulse_1_j43 v x4) 0 0 k = v 0 0 k := by
  intro v x4
  unfold mf_Mo_pulse_1_j43
  (try dsimp only)
  all_goals ((repeat' split) <;> (first | with_reducible rfl | (simp only [msend_0k (i := 0) (k := k) (by omega) (by omega) (by omega), mz55_Mo_pulse_1_j44 hc]; done)))
theorem mz55_Mo_pulse_1_j49 {k : Nat} (hc : k = 55) : ∀ (v : fw_V) (x4 : Int32) (x90 : Int32), (mf_Mo_pulse_1_j49 v x4 x90) 0 0 k = v 0 0 k := by
  intro v x4 x90
  unfold mf_Mo_pulse_1_j49
  (try dsimp only)
  all_goals ((repeat' split) <;> (first | with_reducible rfl | (simp only [fw_up_ne (c := 9) (i := 0) (k := 5) (c' := 0) (i' := 0) (k' := k) (by omega), msend_0k (i := 0) (k := k) (by omega) (by omega) (by omega), mz55_Mo_pulse_1_j45 hc, mz55_Mo_pulse_1_j47 hc]; done)))
theorem mz55_Mo_pulse_1_j42 {k : Nat} (hc : k = 55) : ∀ (v : fw_V), (mf_Mo_pulse_1_j42 v) 0 0 k = v 0 0 k := by
  intro v
  unfold mf_Mo_pulse_1_j42
  (try dsimp only)
  all_goals ((repeat' split) <;> (first | with_reducible rfl | (simp only [msend_0k (i := 0) (k := k) (by omega) (by omega) (by omega), mz55_Mo_pulse_1_j43 hc, mz55_Mo_pulse_1_j49 hc]; done)))
theorem mz55_Mo_pulse_1_j41 {k : Nat} (hc : k = 55) : ∀ (v : fw_V), (mf_Mo_pulse_1_j41 v) 0 0 k = v 0 0 k := by
  intro v
  unfold mf_Mo_pulse_1_j41
  (try dsimp only)
  all_goals ((repeat' split) <;> (first | with_reducible rfl | (simp only [msend_0k (i := 0) (k := k) (by omega) (by omega) (by omega), mz55_Mo_pulse_1_j42 hc]; done)))
theorem mz55_Mo_pulse_1_j54 {k : Nat} (hc : k = 55) : ∀ (v : fw_V), (mf_Mo_pulse_1_j54 v) 0 0 k = v 0 0 k := by
  intro v
  unfold mf_Mo_pulse_1_j54
  (try dsimp only)
  all_goals ((repeat' split) <;> (first | with_reducible rfl | (simp only [msend_0k (i := 0) (k := k) (by omega) (by omega) (by omega), mz55_Mo_pulse_1_j48 hc]; done)))
theorem mz55_Mo_pulse_1_j55 {k : Nat} (hc : k = 55) : ∀ (v : fw_V), (mf_Mo_pulse_1_j55 v) 0 0 k = v 0 0 k := by
  intro v
  unfold mf_Mo_pulse_1_j55
  (try dsimp only)
  all_goals ((repeat' split) <;> (first | with_reducible rfl | (simp only [msend_0k (i := 0) (k := k) (by omega) (by omega) (by omega), mz55_Mo_pulse_1_j48 hc]; done)))
theorem mz55_Mo_pulse_1_j53 {k : Nat} (hc : k = 55) : ∀ (v : fw_V) (x4 : Int32), (mf_Mo_pulse_1_j53 v x4) 0 0 k = v 0 0 k := by
  intro v x4
  unfold mf_Mo_pulse_1_j53
  (try dsimp only)
  all_goals ((repeat' split) <;> (first | with_reducible rfl | (simp only [fw_up_ne (c := 9) (i := 0) (k := 5) (c' := 0) (i' := 0) (k' := k) (by omega), msend_0k (i := 0) (k := k) (by omega) (by omega) (by omega), mz55_Mo_pulse_1_j54 hc, mz55_Mo_pulse_1_j55 hc]; done)))
theorem mz55_Mo_pulse_1_j52 {k : Nat} (hc : k = 55) : ∀ (v : fw_V) (x4 : Int32), (mf_Mo_pulse_1_j52 v x4) 0 0 k = v 0 0 k := by
  intro v x4
  unfold mf_Mo_pulse_1_j52
  (try dsimp only)
  all_goals ((repeat' split) <;> (first | with_reducible rfl | (simp only [msend_0k (i := 0) (k := k) (by omega) (by omega) (by omega), mz55_Mo_pulse_1_j53 hc]; done)))
theorem mz55_Mo_pulse_1_j56 {k : Nat} (hc : k = 55) : ∀ (v : fw_V) (x4 : Int32) (x90 : Int32), (mf_Mo_pulse_1_j56 v x4 x90) 0 0 k = v 0 0 k := by
  intro v x4 x90
  unfold mf_Mo_pulse_1_j56
  (try dsimp only)
  all_goals ((repeat' split) <;> (first | with_reducible rfl | (simp only [fw_up_ne (c := 9) (i := 0) (k := 5) (c' := 0) (i' := 0) (k' := k) (by omega), msend_0k (i := 0) (k := k) (by omega) (by omega) (by omega), mz55_Mo_pulse_1_j54 hc, mz55_Mo_pulse_1_j55 hc]; done)))
theorem mz55_Mo_pulse_1_j51 {k : Nat} (hc : k = 55) : ∀ (v : fw_V), (mf_Mo_pulse_1_j51 v) 0 0 k = v 0 0 k := by
  intro v
  unfold mf_Mo_pulse_1_j51
  (try dsimp only)
  all_goals ((repeat' split) <;> (first | with_reducible rfl | (simp only [msend_0k (i := 0) (k := k) (by omega) (by omega) (by omega), mz55_Mo_pulse_1_j52 hc, mz55_Mo_pulse_1_j56 hc]; done)))
theorem mz55_Mo_pulse_1_j50 {k : Nat} (hc : k = 55) : ∀ (v : fw_V), (mf_Mo_pulse_1_j50 v) 0 0 k = v 0 0 k := by
  intro v
  unfold mf_Mo_pulse_1_j50
  (try dsimp only)
  all_goals ((repeat' split) <;> (first | with_reducible rfl | (simp only [msend_0k (i := 0) (k := k) (by omega) (by omega) (by omega), mz55_Mo_pulse_1_j51 hc]; done)))
theorem mz55_Mo_pulse_1_j40 {k : Nat} (hc : k = 55) : ∀ (v : fw_V) (x4 : Int32), (mf_Mo_pulse_1_j40 v x4) 0 0 k = v 0 0 k := by
  intro v x4
  unfold mf_Mo_pulse_1_j40
  (try dsimp only)
  all_goals ((repeat' split) <;> (first | with_reducible rfl | (simp only [fw_up_ne (c := 9) (i := 0) (k := 4) (c' := 0) (i' := 0) (k' := k) (by omega), msend_0k (i := 0) (k := k) (by omega) (by omega) (by omega), mz55_Mo_pulse_1_j41 hc, mz55_Mo_pulse_1_j50 hc]; done)))
theorem mz55_Mo_pulse_1_j39 {k : Nat} (hc : k = 55) : ∀ (v : fw_V) (x4 : Int32), (mf_Mo_pulse_1_j39 v x4) 0 0 k = v 0 0 k := by
  intro v x4
  unfold mf_Mo_pulse_1_j39
  (try dsimp only)
  all_goals ((repeat' split) <;> (first | with_reducible rfl | (simp only [msend_0k (i := 0) (k := k) (by omega) (by omega) (by omega), mz55_Mo_pulse_1_j40 hc]; done)))
theorem mz55_Mo_pulse_1_j57 {k : Nat} (hc : k = 55) : ∀ (v : fw_V) (x4 : Int32) (x90 : Int32), (mf_Mo_pulse_1_j57 v x4 x90) 0 0 k = v 0 0 k := by
  intro v x4 x90
  unfold mf_Mo_pulse_1_j57
  (try dsimp only)
  all_goals ((repeat' split) <;> (first | with_reducible rfl | (simp only [fw_up_ne (c := 9) (i := 0) (k := 4) (c' := 0) (i' := 0) (k' := k) (by omega), msend_0k (i := 0) (k := k) (by omega) (by omega) (by omega), mz55_Mo_pulse_1_j41 hc, mz55_Mo_pulse_1_j50 hc]; done)))
theorem mz55_Mo_pulse_1_j38 {k : Nat} (hc : k = 55) : ∀ (v : fw_V), (mf_Mo_pulse_1_j38 v) 0 0 k = v 0 0 k := by
  intro v
  unfold mf_Mo_pulse_1_j38
  (try dsimp only)
  all_goals ((repeat' split) <;> (first | with_reducible rfl | (simp only [msend_0k (i := 0) (k := k) (by omega) (by omega) (by omega), mz55_Mo_pulse_1_j39 hc, mz55_Mo_pulse_1_j57 hc]; done)))
theorem mz55_Mo_pulse_1_j37 {k : Nat} (hc : k = 55) : ∀ (v : fw_V), (mf_Mo_pulse_1_j37 v) 0 0 k = v 0 0 k := by
  intro v
  unfold mf_Mo_pulse_1_j37
  (try dsimp only)
  all_goals ((repeat' split) <;> (first | with_reducible rfl | (simp only [msend_0k (i := 0) (k := k) (by omega) (by omega) (by omega), mz55_Mo_pulse_1_j38 hc]; done)))
theorem mz55_Mo_pulse_1_j15 {k : Nat} (hc : k = 55) : ∀ (v : fw_V) (x4 : Int32), (mf_Mo_pulse_1_j15 v x4) 0 0 k = v 0 0 k := by
  intro v x4
  unfold mf_Mo_pulse_1_j15
  (try dsimp only)
  all_goals ((repeat' split) <;> (first | with_reducible rfl | (simp only [fw_up_ne (c := 9) (i := 0) (k := 3) (c' := 0) (i' := 0) (k' := k) (by omega), msend_0k (i := 0) (k := k) (by omega) (by omega) (by omega), mz55_Mo_pulse_1_j16 hc, mz55_Mo_pulse_1_j37 hc]; done)))
theorem mz55_Mo_pulse_1_j14 {k : Nat} (hc : k = 55) : ∀ (v : fw_V) (x4 : Int32), (mf_Mo_pulse_1_j14 v x4) 0 0 k = v 0 0 k := by
  intro v x4
  unfold mf_Mo_pulse_1_j14
  (try dsimp only)
  all_goals ((repeat' split) <;> (first | with_reducible rfl | (simp only [msend_0k (i := 0) (k := k) (by omega) (by omega) (by omega), mz55_Mo_pulse_1_j15 hc]; done)))
theorem mz55_Mo_pulse_1_j58 {k : Nat} (hc : k = 55) : ∀ (v : fw_V) (x4 : Int32) (x90 : Int32), (mf_Mo_pulse_1_j58 v x4 x90) 0 0 k = v 0 0 k := by
  intro v x4 x90
  unfold mf_Mo_pulse_1_j58
  (try dsimp only)
  all_goals ((repeat' split) <;> (first | with_reducible rfl | (simp only [fw_up_ne (c := 9) (i := 0) (k := 3) (c' := 0) (i' := 0) (k' := k) (by omega), msend_0k (i := 0) (k := k) (by omega) (by omega) (by omega), mz55_Mo_pulse_1_j16 hc, mz55_Mo_pulse_1_j37 hc]; done)))
theorem mz55_Mo_pulse_1_j13 {k : Nat} (hc : k = 55) : ∀ (v : fw_V), (mf_Mo_pulse_1_j13 v) 0 0 k = v 0 0 k := by
  intro v
  unfold mf_Mo_pulse_1_j13
  (try dsimp only)
  all_goals ((repeat' split) <;> (first | with_reducible rfl | (simp only [msend_0k (i := 0) (k := k) (by omega) (by omega) (by omega), mz55_Mo_pulse_1_j14 hc, mz55_Mo_pulse_1_j58 hc]; done)))
theorem mz55_Mo_pulse_1_j12 {k : Nat} (hc : k = 55) : ∀ (v : fw_V), (mf_Mo_pulse_1_j12 v) 0 0 k = v 0 0 k := by
  intro v
  unfold mf_Mo_pulse_1_j12
  (try dsimp only)
  all_goals ((repeat' split) <;> (first | with_reducible rfl | (simp only [msend_0k (i := 0) (k := k) (by omega) (by omega) (by omega), mz55_Mo_pulse_1_j13 hc]; done)))
theorem mz55_Mo_pulse_1_j63 {k : Nat} (hc : k = 55) : ∀ (v : fw_V), (mf_Mo_pulse_1_j63 v) 0 0 k = v 0 0 k := by
  intro v
  unfold mf_Mo_pulse_1_j63
  (try dsimp only)
  all_goals ((repeat' split) <;> (first | with_reducible rfl | (simp only [msend_0k (i := 0) (k := k) (by omega) (by omega) (by omega), mz55_Mo_pulse_1_j38 hc]; done)))
theorem mz55_Mo_pulse_1_j64 {k : Nat} (hc : k = 55) : ∀ (v : fw_V), (mf_Mo_pulse_1_j64 v) 0 0 k = v 0 0 k := by
  intro v
  unfold mf_Mo_pulse_1_j64
  (try dsimp only)
  all_goals ((repeat' split) <;> (first | with_reducible rfl | (simp only [msend_0k (i := 0) (k := k) (by omega) (by omega) (by omega), mz55_Mo_pulse_1_j38 hc]; done)))
theorem mz55_Mo_pulse_1_j62 {k : Nat} (hc : k = 55) : ∀ (v : fw_V) (x4 : Int32), (mf_Mo_pulse_1_j62 v x4) 0 0 k = v 0 0 k := by
  intro v x4
  unfold mf_Mo_pulse_1_j62
  (try dsimp only)
  all_goals ((repeat' split) <;> (first | with_reducible rfl | (simp only [fw_up_ne (c := 9) (i := 0) (k := 3) (c' := 0) (i' := 0) (k' := k) (by omega), msend_0k (i := 0) (k := k) (by omega) (by omega) (by omega), mz55_Mo_pulse_1_j63 hc, mz55_Mo_pulse_1_j64 hc]; done)))
theorem mz55_Mo_pulse_1_j61 {k : Nat} (hc : k = 55) : ∀ (v : fw_V) (x4 : Int32), (mf_Mo_pulse_1_j61 v x4) 0 0 k = v 0 0 k := by
  intro v x4
  unfold mf_Mo_pulse_1_j61
  (try dsimp only)
  all_goals ((repeat' split) <;> (first | with_reducible rfl | (simp only [msend_0k (i := 0) (k := k) (by omega) (by omega) (by omega), mz55_Mo_pulse_1_j62 hc]; done)))
theorem mz55_Mo_pulse_1_j65 {k : Nat} (hc : k = 55) : ∀ (v : fw_V) (x4 : Int32) (x90 : Int32), (mf_Mo_pulse_1_j65 v x4 x90) 0 0 k = v 0 0 k := by
  intro v x4 x90
  unfold mf_Mo_pulse_1_j65
  (try dsimp only)
  all_goals ((repeat' split) <;> (first | with_reducible rfl | (simp only [fw_up_ne (c := 9) (i := 0) (k := 3) (c' := 0) (i' := 0) (k' := k) (by omega), msend_0k (i := 0) (k := k) (by omega) (by omega) (by omega), mz55_Mo_pulse_1_j63 hc, mz55_Mo_pulse_1_j64 hc]; done)))
theorem mz55_Mo_pulse_1_j60 {k : Nat} (hc : k = 55) : ∀ (v : fw_V), (mf_Mo_pulse_1_j60 v) 0 0 k = v 0 0 k := by
  intro v
  unfold mf_Mo_pulse_1_j60
  (try dsimp only)
  all_goals ((repeat' split) <;> (first | with_reducible rfl | (simp only [msend_0k (i := 0) (k := k) (by omega) (by omega) (by omega), mz55_Mo_pulse_1_j61 hc, mz55_Mo_pulse_1_j65 hc]; done)))
theorem mz55_Mo_pulse_1_j59 {k : Nat} (hc : k = 55) : ∀ (v : fw_V), (mf_Mo_pulse_1_j59 v) 0 0 k = v 0 0 k := by
  intro v
  unfold mf_Mo_pulse_1_j59
  (try dsimp only)
  all_goals ((repeat' split) <;> (first | with_reducible rfl | (simp only [msend_0k (i := 0) (k := k) (by omega) (by omega) (by omega), mz55_Mo_pulse_1_j60 hc]; done)))
theorem mz55_Mo_pulse_1_j11 {k : Nat} (hc : k = 55) : ∀ (v : fw_V) (x4 : Int32), (mf_Mo_pulse_1_j11 v x4) 0 0 k = v 0 0 k := by
  intro v x4
  unfold mf_Mo_pulse_1_j11
  (try dsimp only)
  all_goals ((repeat' split) <;> (first | with_reducible rfl | (simp only [fw_up_ne (c := 9) (i := 0) (k := 2) (c' := 0) (i' := 0) (k' := k) (by omega), msend_0k (i := 0) (k := k) (by omega) (by omega) (by omega), mz55_Mo_pulse_1_j12 hc, mz55_Mo_pulse_1_j59 hc]; done)))
theorem mz55_Mo_pulse_1_j10 {k : Nat} (hc : k = 55) : ∀ (v : fw_V) (x4 : Int32), (mf_Mo_pulse_1_j10 v x4) 0 0 k = v 0 0 k := by
  intro v x4
  unfold mf_Mo_pulse_1_j10
  (try dsimp only)
  all_goals ((repeat' split) <;> (first | with_reducible rfl | (simp only [msend_0k (i := 0) (k := k) (by omega) (by omega) (by omega), mz55_Mo_pulse_1_j11 hc]; done)))
theorem mz55_Mo_pulse_1_j66 {k : Nat} (hc : k = 55) : ∀ (v : fw_V) (x4 : Int32) (x90 : Int32), (mf_Mo_pulse_1_j66 v x4 x90) 0 0 k = v 0 0 k := by
  intro v x4 x90
  unfold mf_Mo_pulse_1_j66
  (try dsimp only)
  all_goals ((repeat' split) <;> (first | with_reducible rfl | (simp only [fw_up_ne (c := 9) (i := 0) (k := 2) (c' := 0) (i' := 0) (k' := k) (by omega), msend_0k (i := 0) (k := k) (by omega) (by omega) (by omega), mz55_Mo_pulse_1_j12 hc, mz55_Mo_pulse_1_j59 hc]; done)))
theorem mz55_Mo_pulse_1_j9 {k : Nat} (hc : k = 55) : ∀ (v : fw_V), (mf_Mo_pulse_1_j9 v) 0 0 k = v 0 0 k := by
  intro v
  unfold mf_Mo_pulse_1_j9
  (try dsimp only)
  all_goals ((repeat' split) <;> (first | with_reducible rfl | (simp only [msend_0k (i := 0) (k := k) (by omega) (by omega) (by omega), mz55_Mo_pulse_1_j10 hc, mz55_Mo_pulse_1_j66 hc]; done)))
theorem mz55_Mo_pulse_1_j8 {k : Nat} (hc : k = 55) : ∀ (v : fw_V), (mf_Mo_pulse_1_j8 v) 0 0 k = v 0 0 k := by
  intro v
  unfold mf_Mo_pulse_1_j8
  (try dsimp only)
  all_goals ((repeat' split) <;> (first | with_reducible rfl | (simp only [msend_0k (i := 0) (k := k) (by omega) (by omega) (by omega), mz55_Mo_pulse_1_j9 hc]; done)))
theorem mz55_Mo_pulse_1_j84 {k : Nat} (hc : k = 55) : ∀ (v : fw_V), (mf_Mo_pulse_1_j84 v) 0 0 k = v 0 0 k := by
  intro v
  unfold mf_Mo_pulse_1_j84
  (try dsimp only)
  all_goals ((repeat' split) <;> (first | with_reducible rfl | (simp only [fw_up_ne (c := 9) (i := 0) (k := 6) (c' := 0) (i' := 0) (k' := k) (by omega), fw_up_ne (c := 34) (i := 0) (k := 1) (c' := 0) (i' := 0) (k' := k) (by omega), msend_0k (i := 0) (k := k) (by omega) (by omega) (by omega), mz55_Mo_reply_1 hc]; done)))
theorem mz55_Mo_pulse_1_j83 {k : Nat} (hc : k = 55) : ∀ (v : fw_V), (mf_Mo_pulse_1_j83 v) 0 0 k = v 0 0 k := by
  intro v
  unfold mf_Mo_pulse_1_j83
  (try dsimp only)
  all_goals ((repeat' split) <;> (first | with_reducible rfl | (simp only [msend_0k (i := 0) (k := k) (by omega) (by omega) (by omega), mz55_Mo_pulse_1_j84 hc]; done)))
theorem mz55_Mo_pulse_1_j86 {k : Nat} (hc : k = 55) : ∀ (v : fw_V), (mf_Mo_pulse_1_j86 v) 0 0 k = v 0 0 k := by
  intro v
  unfold mf_Mo_pulse_1_j86
  (try dsimp only)
  all_goals ((repeat' split) <;> (first | with_reducible rfl | (simp only [fw_up_ne (c := 9) (i := 0) (k := 6) (c' := 0) (i' := 0) (k' := k) (by omega), fw_up_ne (c := 34) (i := 0) (k := 1) (c' := 0) (i' := 0) (k' := k) (by omega), msend_0k (i := 0) (k := k) (by omega) (by omega) (by omega), mz55_Mo_reply_1 hc]; done)))
theorem mz55_Mo_pulse_1_j85 {k : Nat} (hc : k = 55) : ∀ (v : fw_V), (mf_Mo_pulse_1_j85 v) 0 0 k = v 0 0 k := by
  intro v
  unfold mf_Mo_pulse_1_j85
  (try dsimp only)
  all_goals ((repeat' split) <;> (first | with_reducible rfl | (simp only [msend_0k (i := 0) (k := k) (by omega) (by omega) (by omega), mz55_Mo_pulse_1_j86 hc]; done)))
theorem mz55_Mo_pulse_1_j82 {k : Nat} (hc : k = 55) : ∀ (v : fw_V) (x4 : Int32), (mf_Mo_pulse_1_j82 v x4) 0 0 k = v 0 0 k := by
  intro v x4
  unfold mf_Mo_pulse_1_j82
  (try dsimp only)
  all_goals ((repeat' split) <;> (first | with_reducible rfl | (simp only [fw_up_ne (c := 9) (i := 0) (k := 5) (c' := 0) (i' := 0) (k' := k) (by omega), msend_0k (i := 0) (k := k) (by omega) (by omega) (by omega), mz55_Mo_pulse_1_j83 hc, mz55_Mo_pulse_1_j85 hc]; done)))
theorem mz55_Mo_pulse_1_j81 {k : Nat} (hc : k = 55) : ∀ (v : fw_V) (x4 : Int32), (mf_Mo_pulse_1_j81 v x4) 0 0 k = v 0 0 k := by
  intro v x4
  unfold mf_Mo_pulse_1_j81
  (try dsimp only)
  all_goals ((repeat' split) <;> (first | with_reducible rfl | (simp only [msend_0k (i := 0) (k := k) (by omega) (by omega) (by omega), mz55_Mo_pulse_1_j82 hc]; done)))
theorem mz55_Mo_pulse_1_j87 {k : Nat} (hc : k = 55) : ∀ (v : fw_V) (x4 : Int32) (x90 : Int32), (mf_Mo_pulse_1_j87 v x4 x90) 0 0 k = v 0 0 k := by
  intro v x4 x90
  unfold mf_Mo_pulse_1_j87
  (try dsimp only)
  all_goals ((repeat' split) <;> (first | with_reducible rfl | (simp only [fw_up_ne (c := 9) (i := 0) (k := 5) (c' := 0) (i' := 0) (k' := k) (by omega), msend_0k (i := 0) (k := k) (by omega) (by omega) (by omega), mz55_Mo_pulse_1_j83 hc, mz55_Mo_pulse_1_j85 hc]; done)))
theorem mz55_Mo_pulse_1_j80 {k : Nat} (hc : k = 55) : ∀ (v : fw_V), (mf_Mo_pulse_1_j80 v) 0 0 k = v 0 0 k := by
  intro v
  unfold mf_Mo_pulse_1_j80
  (try dsimp only)
  all_goals ((repeat' split) <;> (first | with_reducible rfl | (simp only [msend_0k (i := 0) (k := k) (by omega) (by omega) (by omega), mz55_Mo_pulse_1_j81 hc, mz55_Mo_pulse_1_j87 hc]; done)))
theorem mz55_Mo_pulse_1_j79 {k : Nat} (hc : k = 55) : ∀ (v : fw_V), (mf_Mo_pulse_1_j79 v) 0 0 k = v 0 0 k := by
  intro v
  unfold mf_Mo_pulse_1_j79
  (try dsimp only)
  all_goals ((repeat' split) <;> (first | with_reducible rfl | (simp only [msend_0k (i := 0) (k := k) (by omega) (by omega) (by omega), mz55_Mo_pulse_1_j80 hc]; done)))
theorem mz55_Mo_pulse_1_j92 {k : Nat} (hc : k = 55) : ∀ (v : fw_V), (mf_Mo_pulse_1_j92 v) 0 0 k = v 0 0 k := by
  intro v
  unfold mf_Mo_pulse_1_j92
  (try dsimp only)
  all_goals ((repeat' split) <;> (first | with_reducible rfl | (simp only [msend_0k (i := 0) (k := k) (by omega) (by omega) (by omega), mz55_Mo_pulse_1_j86 hc]; done)))
theorem mz55_Mo_pulse_1_j93 {k : Nat} (hc : k = 55) : ∀ (v : fw_V), (mf_Mo_pulse_1_j93 v) 0 0 k = v 0 0 k := by
  intro v
  unfold mf_Mo_pulse_1_j93
  (try dsimp only)
  all_goals ((repeat' split) <;> (first | with_reducible rfl | (simp only [msend_0k (i := 0) (k := k) (by omega) (by omega) (by omega), mz55_Mo_pulse_1_j86 hc]; done)))
theorem mz55_Mo_pulse_1_j91 {k : Nat} (hc : k = 55) : ∀ (v : fw_V) (x4 : Int32), (mf_Mo_pulse_1_j91 v x4) 0 0 k = v 0 0 k := by
  intro v x4
  unfold mf_Mo_pulse_1_j91
  (try dsimp only)
  all_goals ((repeat' split) <;> (first | with_reducible rfl | (simp only [fw_up_ne (c := 9) (i := 0) (k := 5) (c' := 0) (i' := 0) (k' := k) (by omega), msend_0k (i := 0) (k := k) (by omega) (by omega) (by omega), mz55_Mo_pulse_1_j92 hc, mz55_Mo_pulse_1_j93 hc]; done)))
theorem mz55_Mo_pulse_1_j90 {k : Nat} (hc : k = 55) : ∀ (v : fw_V) (x4 : Int32), (mf_Mo_pulse_1_j90 v x4) 0 0 k = v 0 0 k := by
  intro v x4
  unfold mf_Mo_pulse_1_j90
  (try dsimp only)
  all_goals ((repeat' split) <;> (first | with_reducible rfl | (simp only [msend_0k (i := 0) (k := k) (by omega) (by omega) (by omega), mz55_Mo_pulse_1_j91 hc]; done)))
theorem mz55_Mo_pulse_1_j94 {k : Nat} (hc : k = 55) : ∀ (v : fw_V) (x4 : Int32) (x90 : Int32), (mf_Mo_pulse_1_j94 v x4 x90) 0 0 k = v 0 0 k := by
  intro v x4 x90
  unfold mf_Mo_pulse_1_j94
  (try dsimp only)
  all_goals ((repeat' split) <;> (first | with_reducible rfl | (simp only [fw_up_ne (c := 9) (i := 0) (k := 5) (c' := 0) (i' := 0) (k' := k) (by omega), msend_0k (i := 0) (k := k) (by omega) (by omega) (by omega), mz55_Mo_pulse_1_j92 hc, mz55_Mo_pulse_1_j93 hc]; done)))
theorem mz55_Mo_pulse_1_j89 {k : Nat} (hc : k = 55) : ∀ (v : fw_V), (mf_Mo_pulse_1_j89 v) 0 0 k = v 0 0 k := by
  intro v
  unfold mf_Mo_pulse_1_j89
  (try dsimp only)
  all_goals ((repeat' split) <;> (first | with_reducible rfl | (simp only [msend_0k (i := 0) (k := k) (by omega) (by omega) (by omega), mz55_Mo_pulse_1_j90 hc, mz55_Mo_pulse_1_j94 hc]; done)))
theorem mz55_Mo_pulse_1_j88 {k : Nat} (hc : k = 55) : ∀ (v : fw_V), (mf_Mo_pulse_1_j88 v) 0 0 k = v 0 0 k := by
  intro v
  unfold mf_Mo_pulse_1_j88
  (try dsimp only)
  all_goals ((repeat' split) <;> (first | with_reducible rfl | (simp only [msend_0k (i := 0) (k := k) (by omega) (by omega) (by omega), mz55_Mo_pulse_1_j89 hc]; done)))
theorem mz55_Mo_pulse_1_j78 {k : Nat} (hc : k = 55) : ∀ (v : fw_V) (x4 : Int32), (mf_Mo_pulse_1_j78 v x4) 0 0 k = v 0 0 k := by
  intro v x4
  unfold mf_Mo_pulse_1_j78
  (try dsimp only)
  all_goals ((repeat' split) <;> (first | with_reducible rfl | (simp only [fw_up_ne (c := 9) (i := 0) (k := 4) (c' := 0) (i' := 0) (k' := k) (by omega), msend_0k (i := 0) (k := k) (by omega) (by omega) (by omega), mz55_Mo_pulse_1_j79 hc, mz55_Mo_pulse_1_j88 hc]; done)))
theorem mz55_Mo_pulse_1_j77 {k : Nat} (hc : k = 55) : ∀ (v : fw_V) (x4 : Int32), (mf_Mo_pulse_1_j77 v x4) 0 0 k = v 0 0 k := by
  intro v x4
  unfold mf_Mo_pulse_1_j77
  (try dsimp only)
  all_goals ((repeat' split) <;> (first | with_reducible rfl | (simp only [msend_0k (i := 0) (k := k) (by omega) (by omega) (by omega), mz55_Mo_pulse_1_j78 hc]; done)))
theorem mz55_Mo_pulse_1_j95 {k : Nat} (hc : k = 55) : ∀ (v : fw_V) (x4 : Int32) (x90 : Int32), (mf_Mo_pulse_1_j95 v x4 x90) 0 0 k = v 0 0 k := by
  intro v x4 x90
  unfold mf_Mo_pulse_1_j95
  (try dsimp only)
  all_goals ((repeat' split) <;> (first | with_reducible rfl | (simp only [fw_up_ne (c := 9) (i := 0) (k := 4) (c' := 0) (i' := 0) (k' := k) (by omega), msend_0k (i := 0) (k := k) (by omega) (by omega) (by omega), mz55_Mo_pulse_1_j79 hc, mz55_Mo_pulse_1_j88 hc]; done)))
theorem mz55_Mo_pulse_1_j76 {k : Nat} (hc : k = 55) : ∀ (v : fw_V), (mf_Mo_pulse_1_j76 v) 0 0 k = v 0 0 k := by
  intro v
  unfold mf_Mo_pulse_1_j76
  (try dsimp only)
  all_goals ((repeat' split) <;> (first | with_reducible rfl | (simp only [msend_0k (i := 0) (k := k) (by omega) (by omega) (by omega), mz55_Mo_pulse_1_j77 hc, mz55_Mo_pulse_1_j95 hc]; done)))
theorem mz55_Mo_pulse_1_j75 {k : Nat} (hc : k = 55) : ∀ (v : fw_V), (mf_Mo_pulse_1_j75 v) 0 0 k = v 0 0 k := by
  intro v
  unfold mf_Mo_pulse_1_j75
  (try dsimp only)
  all_goals ((repeat' split) <;> (first | with_reducible rfl | (simp only [msend_0k (i := 0) (k := k) (by omega) (by omega) (by omega), mz55_Mo_pulse_1_j76 hc]; done)))
theorem mz55_Mo_pulse_1_j105 {k : Nat} (hc : k = 55) : ∀ (v : fw_V), (mf_Mo_pulse_1_j105 v) 0 0 k = v 0 0 k := by
  intro v
  unfold mf_Mo_pulse_1_j105
  (try dsimp only)
  all_goals ((repeat' split) <;> (first | with_reducible rfl | (simp only [fw_up_ne (c := 9) (i := 0) (k := 6) (c' := 0) (i' := 0) (k' := k) (by omega), fw_up_ne (c := 34) (i := 0) (k := 1) (c' := 0) (i' := 0) (k' := k) (by omega), msend_0k (i := 0) (k := k) (by omega) (by omega) (by omega), mz55_Mo_reply_1 hc]; done)))
theorem mz55_Mo_pulse_1_j104 {k : Nat} (hc : k = 55) : ∀ (v : fw_V), (mf_Mo_pulse_1_j104 v) 0 0 k = v 0 0 k := by
  intro v
  unfold mf_Mo_pulse_1_j104
  (try dsimp only)
  all_goals ((repeat' split) <;> (first | with_reducible rfl | (simp only [msend_0k (i := 0) (k := k) (by omega) (by omega) (by omega), mz55_Mo_pulse_1_j105 hc]; done)))
theorem mz55_Mo_pulse_1_j107 {k : Nat} (hc : k = 55) : ∀ (v : fw_V), (mf_Mo_pulse_1_j107 v) 0 0 k = v 0 0 k := by
  intro v
  unfold mf_Mo_pulse_1_j107
  (try dsimp only)
  all_goals ((repeat' split) <;> (first | with_reducible rfl | (simp only [fw_up_ne (c := 9) (i := 0) (k := 6) (c' := 0) (i' := 0) (k' := k) (by omega), fw_up_ne (c := 34) (i := 0) (k := 1) (c' := 0) (i' := 0) (k' := k) (by omega), msend_0k (i := 0) (k := k) (by omega) (by omega) (by omega), mz55_Mo_reply_1 hc]; done)))
theorem mz55_Mo_pulse_1_j106 {k : Nat} (hc : k = 55) : ∀ (v : fw_V), (mf_Mo_pulse_1_j106 v) 0 0 k = v 0 0 k := by
  intro v
  unfold mf_Mo_pulse_1_j106
  (try dsimp only)
  all_goals ((repeat' split) <;> (first | with_reducible rfl | (simp only [msend_0k (i := 0) (k := k) (by omega) (by omega) (by omega), mz55_Mo_pulse_1_j107 hc]; done)))
theorem mz55_Mo_pulse_1_j103 {k : Nat} (hc : k = 55) : ∀ (v : fw_V) (x4 : Int32), (mf_Mo_pulse_1_j103 v x4) 0 0 k = v 0 0 k := by
  intro v x4
  unfold mf_Mo_pulse_1_j103
  (try dsimp only)
  all_goals ((repeat' split) <;> (first | with_reducible rfl | (simp only [fw_up_ne (c := 9) (i := 0) (k := 5) (c' := 0) (i' := 0) (k' := k) (by omega), msend_0k (i := 0) (k := k) (by omega) (by omega) (by omega), mz55_Mo_pulse_1_j104 hc, mz55_Mo_pulse_1_j106 hc]; done)))
theorem mz55_Mo_pulse_1_j102 {k : Nat} (hc : k = 55) : ∀ (v : fw_V) (x4 : Int32), (mf_Mo_pulse_1_j102 v x4) 0 0 k = v 0 0 k := by
  intro v x4
  unfold mf_Mo_pulse_1_j102
  (try dsimp only)
  all_goals ((repeat' split) <;> (first | with_reducible rfl | (simp only [msend_0k (i := 0) (k := k) (by omega) (by omega) (by omega), mz55_Mo_pulse_1_j103 hc]; done)))
theorem mz55_Mo_pulse_1_j108 {k : Nat} (hc : k = 55) : ∀ (v : fw_V) (x4 : Int32) (x90 : Int32), (mf_Mo_pulse_1_j108 v x4 x90) 0 0 k = v 0 0 k := by
  intro v x4 x90
  unfold mf_Mo_pulse_1_j108
  (try dsimp only)
  all_goals ((repeat' split) <;> (first | with_reducible rfl | (simp only [fw_up_ne (c := 9) (i := 0) (k := 5) (c' := 0) (i' := 0) (k' := k) (by omega), msend_0k (i := 0) (k := k) (by omega) (by omega) (by omega), mz55_Mo_pulse_1_j104 hc, mz55_Mo_pulse_1_j106 hc]; done)))
theorem mz55_Mo_pulse_1_j101 {k : Nat} (hc : k = 55) : ∀ (v : fw_V), (mf_Mo_pulse_1_j101 v) 0 0 k = v 0 0 k := by
  intro v
  unfold mf_Mo_pulse_1_j101
  (try dsimp only)
  all_goals ((repeat' split) <;> (first | with_reducible rfl | (simp only [msend_0k (i := 0) (k := k) (by omega) (by omega) (by omega), mz55_Mo_pulse_1_j102 hc, mz55_Mo_pulse_1_j108 hc]; done)))
theorem mz55_Mo_pulse_1_j100 {k : Nat} (hc : k = 55) : ∀ (v : fw_V), (mf_Mo_pulse_1_j100 v) 0 0 k = v 0 0 k := by
  intro v
  unfold mf_Mo_pulse_1_j100
  (try dsimp only)
  all_goals ((repeat' split) <;> (first | with_reducible rfl | (simp only [msend_0k (i := 0) (k := k) (by omega) (by omega) (by omega), mz55_Mo_pulse_1_j101 hc]; done)))
theorem mz55_Mo_pulse_1_j113 {k : Nat} (hc : k = 55) : ∀ (v : fw_V), (mf_Mo_pulse_1_j113 v) 0 0 k = v 0 0 k := by
  intro v
  unfold mf_Mo_pulse_1_j113
  (try dsimp only)
  all_goals ((repeat' split) <;> (first | with_reducible rfl | (simp only [msend_0k (i := 0) (k := k) (by omega) (by omega) (by omega), mz55_Mo_pulse_1_j107 hc]; done)))
theorem mz55_Mo_pulse_1_j114 {k : Nat} (hc : k = 55) : ∀ (v : fw_V), (mf_Mo_pulse_1_j114 v) 0 0 k = v 0 0 k := by
  intro v
  unfold mf_Mo_pulse_1_j114
  (try dsimp only)
  all_goals ((repeat' split) <;> (first | with_reducible rfl | (simp only [msend_0k (i := 0) (k := k) (by omega) (by omega) (by omega), mz55_Mo_pulse_1_j107 hc]; done)))
theorem mz55_Mo_pulse_1_j112 {k : Nat} (hc : k = 55) : ∀ (v : fw_V) (x4 : Int32), (mf_Mo_pulse_1_j112 v x4) 0 0 k = v 0 0 k := by
  intro v x4
  unfold mf_Mo_pulse_1_j112
  (try dsimp only)
  all_goals ((repeat' split) <;> (first | with_reducible rfl | (simp only [fw_up_ne (c := 9) (i := 0) (k := 5) (c' := 0) (i' := 0) (k' := k) (by omega), msend_0k (i := 0) (k := k) (by omega) (by omega) (by omega), mz55_Mo_pulse_1_j113 hc, mz55_Mo_pulse_1_j114 hc]; done)))
theorem mz55_Mo_pulse_1_j111 {k : Nat} (hc : k = 55) : ∀ (v : fw_V) (x4 : Int32), (mf_Mo_pulse_1_j111 v x4) 0 0 k = v 0 0 k := by
  intro v x4
  unfold mf_Mo_pulse_1_j111
  (try dsimp only)
  all_goals ((repeat' split) <;> (first | with_reducible rfl | (simp only [msend_0k (i := 0) (k := k) (by omega) (by omega) (by omega), mz55_Mo_pulse_1_j112 hc]; done)))
theorem mz55_Mo_pulse_1_j115 {k : Nat} (hc : k = 55) : ∀ (v : fw_V) (x4 : Int32) (x90 : Int32), (mf_Mo_pulse_1_j115 v x4 x90) 0 0 k = v 0 0 k := by
  intro v x4 x90
  unfold mf_Mo_pulse_1_j115
  (try dsimp only)
  all_goals ((repeat' split) <;> (first | with_reducible rfl | (simp only [fw_up_ne (c := 9) (i := 0) (k := 5) (c' := 0) (i' := 0) (k' := k) (by omega), msend_0k (i := 0) (k := k) (by omega) (by omega) (by omega), mz55_Mo_pulse_1_j113 hc, mz55_Mo_pulse_1_j114 hc]; done)))
theorem mz55_Mo_pulse_1_j110 {k : Nat} (hc : k = 55) : ∀ (v : fw_V), (mf_Mo_pulse_1_j110 v) 0 0 k = v 0 0 k := by
  intro v
  unfold mf_Mo_pulse_1_j110
  (try dsimp only)
  all_goals ((repeat' split) <;> (first | with_reducible rfl | (simp only [msend_0k (i := 0) (k := k) (by omega) (by omega) (by omega), mz55_Mo_pulse_1_j111 hc, mz55_Mo_pulse_1_j115 hc]; done)))
theorem mz55_Mo_pulse_1_j109 {k : Nat} (hc : k = 55) : ∀ (v : fw_V), (mf_Mo_pulse_1_j109 v) 0 0 k = v 0 0 k := by
  intro v
  unfold mf_Mo_pulse_1_j109
  (try dsimp only)
  all_goals ((repeat' split) <;> (first | with_reducible rfl | (simp only [msend_0k (i := 0) (k := k) (by omega) (by omega) (by omega), mz55_Mo_pulse_1_j110 hc]; done)))
theorem mz55_Mo_pulse_1_j99 {k : Nat} (hc : k = 55) : ∀ (v : fw_V) (x4 : Int32), (mf_Mo_pulse_1_j99 v x4) 0 0 k = v 0 0 k := by
  intro v x4
  unfold mf_Mo_pulse_1_j99
  (try dsimp only)
  all_goals ((repeat' split) <;> (first | with_reducible rfl | (simp only [fw_up_ne (c := 9) (i := 0) (k := 4) (c' := 0) (i' := 0) (k' := k) (by omega), msend_0k (i := 0) (k := k) (by omega) (by omega) (by omega), mz55_Mo_pulse_1_j100 hc, mz55_Mo_pulse_1_j109 hc]; done)))
theorem mz55_Mo_pulse_1_j98 {k : Nat} (hc : k = 55) : ∀ (v : fw_V) (x4 : Int32), (mf_Mo_pulse_1_j98 v x4) 0 0 k = v 0 0 k := by
  intro v x4
  unfold mf_Mo_pulse_1_j98
  (try dsimp only)
  all_goals ((repeat' split) <;> (first | with_reducible rfl | (simp only [msend_0k (i := 0) (k := k) (by omega) (by omega) (by omega), mz55_Mo_pulse_1_j99 hc]; done)))
theorem mz55_Mo_pulse_1_j116 {k : Nat} (hc : k = 55) : ∀ (v : fw_V) (x4 : Int32) (x90 : Int32), (mf_Mo_pulse_1_j116 v x4 x90) 0 0 k = v 0 0 k := by
  intro v x4 x90
  unfold mf_Mo_pulse_1_j116
  (try dsimp only)
  all_goals ((repeat' split) <;> (first | with_reducible rfl | (simp only [fw_up_ne (c := 9) (i := 0) (k := 4) (c' := 0) (i' := 0) (k' := k) (by omega), msend_0k (i := 0) (k := k) (by omega) (by omega) (by omega), mz55_Mo_pulse_1_j100 hc, mz55_Mo_pulse_1_j109 hc]; done)))
theorem mz55_Mo_pulse_1_j97 {k : Nat} (hc : k = 55) : ∀ (v : fw_V), (mf_Mo_pulse_1_j97 v) 0 0 k = v 0 0 k := by
  intro v
  unfold mf_Mo_pulse_1_j97
  (try dsimp only)
  all_goals ((repeat' split) <;> (first | with_reducible rfl | (simp only [msend_0k (i := 0) (k := k) (by omega) (by omega) (by omega), mz55_Mo_pulse_1_j98 hc, mz55_Mo_pulse_1_j116 hc]; done)))
theorem mz55_Mo_pulse_1_j96 {k : Nat} (hc : k = 55) : ∀ (v : fw_V), (mf_Mo_pulse_1_j96 v) 0 0 k = v 0 0 k := by
  intro v
  unfold mf_Mo_pulse_1_j96
  (try dsimp only)
  all_goals ((repeat' split) <;> (first | with_reducible rfl | (simp only [msend_0k (i := 0) (k := k) (by omega) (by omega) (by omega), mz55_Mo_pulse_1_j97 hc]; done)))
theorem mz55_Mo_pulse_1_j74 {k : Nat} (hc : k = 55) : ∀ (v : fw_V) (x4 : Int32), (mf_Mo_pulse_1_j74 v x4) 0 0 k = v 0 0 k := by
  intro v x4
  unfold mf_Mo_pulse_1_j74
  (try dsimp only)
  all_goals ((repeat' split) <;> (first | with_reducible rfl | (simp only [fw_up_ne (c := 9) (i := 0) (k := 3) (c' := 0) (i' := 0) (k' := k) (by omega), msend_0k (i := 0) (k := k) (by omega) (by omega) (by omega), mz55_Mo_pulse_1_j75 hc, mz55_Mo_pulse_1_j96 hc]; done)))
theorem mz55_Mo_pulse_1_j73 {k : Nat} (hc : k = 55) : ∀ (v : fw_V) (x4 : Int32), (mf_Mo_pulse_1_j73 v x4) 0 0 k = v 0 0 k := by
  intro v x4
  unfold mf_Mo_pulse_1_j73
  (try dsimp only)
  all_goals ((repeat' split) <;> (first | with_reducible rfl | (simp only [msend_0k (i := 0) (k := k) (by omega) (by omega) (by omega), mz55_Mo_pulse_1_j74 hc]; done)))
theorem mz55_Mo_pulse_1_j117 {k : Nat} (hc : k = 55) : ∀ (v : fw_V) (x4 : Int32) (x90 : Int32), (mf_Mo_pulse_1_j117 v x4 x90) 0 0 k = v 0 0 k := by
  intro v x4 x90
  unfold mf_Mo_pulse_1_j117
  (try dsimp only)
  all_goals ((repeat' split) <;> (first | with_reducible rfl | (simp only [fw_up_ne (c := 9) (i := 0) (k := 3) (c' := 0) (i' := 0) (k' := k) (by omega), msend_0k (i := 0) (k := k) (by omega) (by omega) (by omega), mz55_Mo_pulse_1_j75 hc, mz55_Mo_pulse_1_j96 hc]; done)))
theorem mz55_Mo_pulse_1_j72 {k : Nat} (hc : k = 55) : ∀ (v : fw_V), (mf_Mo_pulse_1_j72 v) 0 0 k = v 0 0 k := by
  intro v
  unfold mf_Mo_pulse_1_j72
  (try dsimp only)
  all_goals ((repeat' split) <;> (first | with_reducible rfl | (simp only [msend_0k (i := 0) (k := k) (by omega) (by omega) (by omega), mz55_Mo_pulse_1_j73 hc, mz55_Mo_pulse_1_j117 hc]; done)))
theorem mz55_Mo_pulse_1_j71 {k : Nat} (hc : k = 55) : ∀ (v : fw_V), (mf_Mo_pulse_1_j71 v) 0 0 k = v 0 0 k := by
  intro v
  unfold mf_Mo_pulse_1_j71
  (try dsimp only)
  all_goals ((repeat' split) <;> (first | with_reducible rfl | (simp only [msend_0k (i := 0) (k := k) (by omega) (by omega) (by omega), mz55_Mo_pulse_1_j72 hc]; done)))
theorem mz55_Mo_pulse_1_j122 {k : Nat} (hc : k = 55) : ∀ (v : fw_V), (mf_Mo_pulse_1_j122 v) 0 0 k = v 0 0 k := by
  intro v
  unfold mf_Mo_pulse_1_j122
  (try dsimp only)
  all_goals ((repeat' split) <;> (first | with_reducible rfl | (simp only [msend_0k (i := 0) (k := k) (by omega) (by omega) (by omega), mz55_Mo_pulse_1_j97 hc]; done)))
theorem mz55_Mo_pulse_1_j123 {k : Nat} (hc : k = 55) : ∀ (v : fw_V), (mf_Mo_pulse_1_j123 v) 0 0 k = v 0 0 k := by
  intro v
  unfold mf_Mo_pulse_1_j123
  (try dsimp only)
  all_goals ((repeat' split) <;> (first | with_reducible rfl | (simp only [msend_0k (i := 0) (k := k) (by omega) (by omega) (by omega), mz55_Mo_pulse_1_j97 hc]; done)))
theorem mz55_Mo_pulse_1_j121 {k : Nat} (hc : k = 55) : ∀ (v : fw_V) (x4 : Int32), (mf_Mo_pulse_1_j121 v x4) 0 0 k = v 0 0 k := by
  intro v x4
  unfold mf_Mo_pulse_1_j121
  (try dsimp only)
  all_goals ((repeat' split) <;> (first | with_reducible rfl | (simp only [fw_up_ne (c := 9) (i := 0) (k := 3) (c' := 0) (i' := 0) (k' := k) (by omega), msend_0k (i := 0) (k := k) (by omega) (by omega) (by omega), mz55_Mo_pulse_1_j122 hc, mz55_Mo_pulse_1_j123 hc]; done)))
theorem mz55_Mo_pulse_1_j120 {k : Nat} (hc : k = 55) : ∀ (v : fw_V) (x4 : Int32), (mf_Mo_pulse_1_j120 v x4) 0 0 k = v 0 0 k := by
  intro v x4
  unfold mf_Mo_pulse_1_j120
  (try dsimp only)
  all_goals ((repeat' split) <;> (first | with_reducible rfl | (simp only [msend_0k (i := 0) (k := k) (by omega) (by omega) (by omega), mz55_Mo_pulse_1_j121 hc]; done)))
theorem mz55_Mo_pulse_1_j124 {k : Nat} (hc : k = 55) : ∀ (v : fw_V) (x4 : Int32) (x90 : Int32), (mf_Mo_pulse_1_j124 v x4 x90) 0 0 k = v 0 0 k := by
  intro v x4 x90
  unfold mf_Mo_pulse_1_j124
  (try dsimp only)
  all_goals ((repeat' split) <;> (first | with_reducible rfl | (simp only [fw_up_ne (c := 9) (i := 0) (k := 3) (c' := 0) (i' := 0) (k' := k) (by omega), msend_0k (i := 0) (k := k) (by omega) (by omega) (by omega), mz55_Mo_pulse_1_j122 hc, mz55_Mo_pulse_1_j123 hc]; done)))
theorem mz55_Mo_pulse_1_j119 {k : Nat} (hc : k = 55) : ∀ (v : fw_V), (mf_Mo_pulse_1_j119 v) 0 0 k = v 0 0 k := by
  intro v
  unfold mf_Mo_pulse_1_j119
  (try dsimp only)
  all_goals ((repeat' split) <;> (first | with_reducible rfl | (simp only [msend_0k (i := 0) (k := k) (by omega) (by omega) (by omega), mz55_Mo_pulse_1_j120 hc, mz55_Mo_pulse_1_j124 hc]; done)))
theorem mz55_Mo_pulse_1_j118 {k : Nat} (hc : k = 55) : ∀ (v : fw_V), (mf_Mo_pulse_1_j118 v) 0 0 k = v 0 0 k := by
  intro v
  unfold mf_Mo_pulse_1_j118
  (try dsimp only)
  all_goals ((repeat' split) <;> (first | with_reducible rfl | (simp only [msend_0k (i := 0) (k := k) (by omega) (by omega) (by omega), mz55_Mo_pulse_1_j119 hc]; done)))
theorem mz55_Mo_pulse_1_j70 {k : Nat} (hc : k = 55) : ∀ (v : fw_V) (x4 : Int32), (mf_Mo_pulse_1_j70 v x4) 0 0 k = v 0 0 k := by
  intro v x4
  unfold mf_Mo_pulse_1_j70
  (try dsimp only)
  all_goals ((repeat' split) <;> (first | with_reducible rfl | (simp only [fw_up_ne (c := 9) (i := 0) (k := 2) (c' := 0) (i' := 0) (k' := k) (by omega), msend_0k (i := 0) (k := k) (by omega) (by omega) (by omega), mz55_Mo_pulse_1_j71 hc, mz55_Mo_pulse_1_j118 hc]; done)))
theorem mz55_Mo_pulse_1_j69 {k : Nat} (hc : k = 55) : ∀ (v : fw_V) (x4 : Int32), (mf_Mo_pulse_1_j69 v x4) 0 0 k = v 0 0 k := by
  intro v x4
  unfold mf_Mo_pulse_1_j69
  (try dsimp only)
  all_goals ((repeat' split) <;> (first | with_reducible rfl | (simp only [msend_0k (i := 0) (k := k) (by omega) (by omega) (by omega), mz55_Mo_pulse_1_j70 hc]; done)))
theorem mz55_Mo_pulse_1_j125 {k : Nat} (hc : k = 55) : ∀ (v : fw_V) (x4 : Int32) (x90 : Int32), (mf_Mo_pulse_1_j125 v x4 x90) 0 0 k = v 0 0 k := by
  intro v x4 x90
  unfold mf_Mo_pulse_1_j125
  (try dsimp only)
  all_goals ((repeat' split) <;> (first | with_reducible rfl | (simp only [fw_up_ne (c := 9) (i := 0) (k := 2) (c' := 0) (i' := 0) (k' := k) (by omega), msend_0k (i := 0) (k := k) (by omega) (by omega) (by omega), mz55_Mo_pulse_1_j71 hc, mz55_Mo_pulse_1_j118 hc]; done)))
theorem mz55_Mo_pulse_1_j68 {k : Nat} (hc : k = 55) : ∀ (v : fw_V), (mf_Mo_pulse_1_j68 v) 0 0 k = v 0 0 k := by
  intro v
  unfold mf_Mo_pulse_1_j68
  (try dsimp only)
  all_goals ((repeat' split) <;> (first | with_reducible rfl | (simp only [msend_0k (i := 0) (k := k) (by omega) (by omega) (by omega), mz55_Mo_pulse_1_j69 hc, mz55_Mo_pulse_1_j125 hc]; done)))
theorem mz55_Mo_pulse_1_j67 {k : Nat} (hc : k = 55) : ∀ (v : fw_V), (mf_Mo_pulse_1_j67 v) 0 0 k = v 0 0 k := by
  intro v
  unfold mf_Mo_pulse_1_j67
  (try dsimp only)
  all_goals ((repeat' split) <;> (first | with_reducible rfl | (simp only [msend_0k (i := 0) (k := k) (by omega) (by omega) (by omega), mz55_Mo_pulse_1_j68 hc]; done)))
theorem mz55_Mo_pulse_1_j7 {k : Nat} (hc : k = 55) : ∀ (v : fw_V) (x4 : Int32), (mf_Mo_pulse_1_j7 v x4) 0 0 k = v 0 0 k := by
  intro v x4
  unfold mf_Mo_pulse_1_j7
  (try dsimp only)
  all_goals ((repeat' split) <;> (first | with_reducible rfl | (simp only [fw_up_ne (c := 9) (i := 0) (k := 1) (c' := 0) (i' := 0) (k' := k) (by omega), msend_0k (i := 0) (k := k) (by omega) (by omega) (by omega), mz55_Mo_pulse_1_j8 hc, mz55_Mo_pulse_1_j67 hc]; done)))
theorem mz55_Mo_pulse_1_j6 {k : Nat} (hc : k = 55) : ∀ (v : fw_V) (x4 : Int32), (mf_Mo_pulse_1_j6 v x4) 0 0 k = v 0 0 k := by
  intro v x4
  unfold mf_Mo_pulse_1_j6
  (try dsimp only)
  all_goals ((repeat' split) <;> (first | with_reducible rfl | (simp only [msend_0k (i := 0) (k := k) (by omega) (by omega) (by omega), mz55_Mo_pulse_1_j7 hc]; done)))
theorem mz55_Mo_pulse_1_j126 {k : Nat} (hc : k = 55) : ∀ (v : fw_V) (x4 : Int32) (x90 : Int32), (mf_Mo_pulse_1_j126 v x4 x90) 0 0 k = v 0 0 k := by
  intro v x4 x90
  unfold mf_Mo_pulse_1_j126
  (try dsimp only)
  all_goals ((repeat' split) <;> (first | with_reducible rfl | (simp only [fw_up_ne (c := 9) (i := 0) (k := 1) (c' := 0) (i' := 0) (k' := k) (by omega), msend_0k (i := 0) (k := k) (by omega) (by omega) (by omega), mz55_Mo_pulse_1_j8 hc, mz55_Mo_pulse_1_j67 hc]; done)))
theorem mz55_Mo_pulse_1_j5 {k : Nat} (hc : k = 55) : ∀ (v : fw_V), (mf_Mo_pulse_1_j5 v) 0 0 k = v 0 0 k := by
  intro v
  unfold mf_Mo_pulse_1_j5
  (try dsimp only)
  all_goals ((repeat' split) <;> (first | with_reducible rfl | (simp only [msend_0k (i := 0) (k := k) (by omega) (by omega) (by omega), mz55_Mo_pulse_1_j6 hc, mz55_Mo_pulse_1_j126 hc]; done)))
theorem mz55_Mo_pulse_1_j4 {k : Nat} (hc : k = 55) : ∀ (v : fw_V), (mf_Mo_pulse_1_j4 v) 0 0 k = v 0 0 k := by
  intro v
  unfold mf_Mo_pulse_1_j4
  (try dsimp only)
  all_goals ((repeat' split) <;> (first | with_reducible rfl | (simp only [msend_0k (i := 0) (k := k) (by omega) (by omega) (by omega), mz55_Mo_pulse_1_j5 hc]; done)))
theorem mz55_Mo_pulse_1_j131 {k : Nat} (hc : k = 55) : ∀ (v : fw_V), (mf_Mo_pulse_1_j131 v) 0 0 k = v 0 0 k := by
  intro v
  unfold mf_Mo_pulse_1_j131
  (try dsimp only)
  all_goals ((repeat' split) <;> (first | with_reducible rfl | (simp only [msend_0k (i := 0) (k := k) (by omega) (by omega) (by omega), mz55_Mo_pulse_1_j68 hc]; done)))
theorem mz55_Mo_pulse_1_j132 {k : Nat} (hc : k = 55) : ∀ (v : fw_V), (mf_Mo_pulse_1_j132 v) 0 0 k = v 0 0 k := by
  intro v
  unfold mf_Mo_pulse_1_j132
  (try dsimp only)
  all_goals ((repeat' split) <;> (first | with_reducible rfl | (simp only [msend_0k (i := 0) (k := k) (by omega) (by omega) (by omega), mz55_Mo_pulse_1_j68 hc]; done)))
theorem mz55_Mo_pulse_1_j130 {k : Nat} (hc : k = 55) : ∀ (v : fw_V) (x4 : Int32), (mf_Mo_pulse_1_j130 v x4) 0 0 k = v 0 0 k := by
  intro v x4
  unfold mf_Mo_pulse_1_j130
  (try dsimp only)
  all_goals ((repeat' split) <;> (first | with_reducible rfl | (simp only [fw_up_ne (c := 9) (i := 0) (k := 1) (c' := 0) (i' := 0) (k' := k) (by omega), msend_0k (i := 0) (k := k) (by omega) (by omega) (by omega), mz55_Mo_pulse_1_j131 hc, mz55_Mo_pulse_1_j132 hc]; done)))
theorem mz55_Mo_pulse_1_j129 {k : Nat} (hc : k = 55) : ∀ (v : fw_V) (x4 : Int32), (mf_Mo_pulse_1_j129 v x4) 0 0 k = v 0 0 k := by
  intro v x4
  unfold mf_Mo_pulse_1_j129
  (try dsimp only)
  all_goals ((repeat' split) <;> (first | with_reducible rfl | (simp only [msend_0k (i := 0) (k := k) (by omega) (by omega) (by omega), mz55_Mo_pulse_1_j130 hc]; done)))
theorem mz55_Mo_pulse_1_j133 {k : Nat} (hc : k = 55) : ∀ (v : fw_V) (x4 : Int32) (x90 : Int32), (mf_Mo_pulse_1_j133 v x4 x90) 0 0 k = v 0 0 k := by
  intro v x4 x90
  unfold mf_Mo_pulse_1_j133
  (try dsimp only)
  all_goals ((repeat' split) <;> (first | with_reducible rfl | (simp only [fw_up_ne (c := 9) (i := 0) (k := 1) (c' := 0) (i' := 0) (k' := k) (by omega), msend_0k (i := 0) (k := k) (by omega) (by omega) (by omega), mz55_Mo_pulse_1_j131 hc, mz55_Mo_pulse_1_j132 hc]; done)))
theorem mz55_Mo_pulse_1_j128 {k : Nat} (hc : k = 55) : ∀ (v : fw_V), (mf_Mo_pulse_1_j128 v) 0 0 k = v 0 0 k := by
  intro v
  unfold mf_Mo_pulse_1_j128
  (try dsimp only)
  all_goals ((repeat' split) <;> (first | with_reducible rfl | (simp only [msend_0k (i := 0) (k := k) (by omega) (by omega) (by omega), mz55_Mo_pulse_1_j129 hc, mz55_Mo_pulse_1_j133 hc]; done)))
theorem mz55_Mo_pulse_1_j127 {k : Nat} (hc : k = 55) : ∀ (v : fw_V), (mf_Mo_pulse_1_j127 v) 0 0 k = v 0 0 k := by
  intro v
  unfold mf_Mo_pulse_1_j127
  (try dsimp only)
  all_goals ((repeat' split) <;> (first | with_reducible rfl | (simp only [msend_0k (i := 0) (k := k) (by omega) (by omega) (by omega), mz55_Mo_pulse_1_j128 hc]; done)))
theorem mz55_Mo_pulse_1_j3 {k : Nat} (hc : k = 55) : ∀ (v : fw_V) (x4 : Int32), (mf_Mo_pulse_1_j3 v x4) 0 0 k = v 0 0 k := by
  intro v x4
  unfold mf_Mo_pulse_1_j3
  (try dsimp only)
  all_goals ((repeat' split) <;> (first | with_reducible rfl | (simp only [fw_up_ne (c := 9) (i := 0) (k := 0) (c' := 0) (i' := 0) (k' := k) (by omega), msend_0k (i := 0) (k := k) (by omega) (by omega) (by omega), mz55_Mo_pulse_1_j4 hc, mz55_Mo_pulse_1_j127 hc]; done)))
theorem mz55_Mo_pulse_1_j2 {k : Nat} (hc : k = 55) : ∀ (v : fw_V) (x4 : Int32), (mf_Mo_pulse_1_j2 v x4) 0 0 k = v 0 0 k := by
  intro v x4
  unfold mf_Mo_pulse_1_j2
  (try dsimp only)
  all_goals ((repeat' split) <;> (first | with_reducible rfl | (simp only [msend_0k (i := 0) (k := k) (by omega) (by omega) (by omega), mz55_Mo_pulse_1_j3 hc]; done)))
theorem mz55_Mo_pulse_1_j134 {k : Nat} (hc : k = 55) : ∀ (v : fw_V) (x4 : Int32) (x90 : Int32), (mf_Mo_pulse_1_j134 v x4 x90) 0 0 k = v 0 0 k := by
  intro v x4 x90
  unfold mf_Mo_pulse_1_j134
  (try dsimp only)
  all_goals ((repeat' split) <;> (first | with_reducible rfl | (simp only [fw_up_ne (c := 9) (i := 0) (k := 0) (c' := 0) (i' := 0) (k' := k) (by omega), msend_0k (i := 0) (k := k) (by omega) (by omega) (by omega), mz55_Mo_pulse_1_j4 hc, mz55_Mo_pulse_1_j127 hc]; done)))
theorem mz55_Mo_pulse_1_j1 {k : Nat} (hc : k = 55) : ∀ (v : fw_V), (mf_Mo_pulse_1_j1 v) 0 0 k = v 0 0 k := by
  intro v
  unfold mf_Mo_pulse_1_j1
  (try dsimp only)
  all_goals ((repeat' split) <;> (first | with_reducible rfl | (simp only [msend_0k (i := 0) (k := k) (by omega) (by omega) (by omega), mz55_Mo_pulse_1_j2 hc, mz55_Mo_pulse_1_j134 hc]; done)))
theorem mz55_Mo_pulse_1 {k : Nat} (hc : k = 55) : ∀ (v0 : fw_V), (mf_Mo_pulse_1 v0) 0 0 k = v0 0 0 k := by
  intro v0
  unfold mf_Mo_pulse_1
  (try dsimp only)
  all_goals ((repeat' split) <;> (first | with_reducible rfl | (simp only [fw_up_ne (c := 32) (i := 0) (k := 1) (c' := 0) (i' := 0) (k' := k) (by omega), fw_up_ne (c := 33) (i := 0) (k := 1) (c' := 0) (i' := 0) (k' := k) (by omega), fw_up_ne (c := 0) (i := 0) (k := 56) (c' := 0) (i' := 0) (k' := k) (by omega), msend_0k (i := 0) (k := k) (by omega) (by omega) (by omega), mz55_Mo_rest_1 hc, mz55_Mo_quit_1 hc, mz55_Mo_reply_1 hc, mz55_Mo_alarm_1 hc, mz55_Mo_pulse_1_j1 hc]; done)))
theorem mz56_Mo_enter_0 {k : Nat} (hc : k = 56) : ∀ (v0 : fw_V) (a2 : Int32), (mf_Mo_enter_0 v0 a2) 0 0 k = v0 0 0 k := by
  intro v0 a2
  unfold mf_Mo_enter_0
  (try dsimp only)
  all_goals ((repeat' split) <;> (first | with_reducible rfl | (simp only [fw_up_ne (c := 12) (i := 0) (k := 0) (c' := 0) (i' := 0) (k' := k) (by omega), fw_up_ne (c := 18) (i := 0) (k := 0) (c' := 0) (i' := 0) (k' := k) (by omega), fw_up_ne (c := 19) (i := 0) (k := 0) (c' := 0) (i' := 0) (k' := k) (by omega), msend_0k (i := 0) (k := k) (by omega) (by omega) (by omega)]; done)))
theorem mz56_Mo_ask_0 {k : Nat} (hc : k = 56) : ∀ (v0 : fw_V), (mf_Mo_ask_0 v0) 0 0 k = v0 0 0 k := by
  intro v0
  unfold mf_Mo_ask_0
  (try dsimp only)
  all_goals ((repeat' split) <;> (first | with_reducible rfl | (simp only [fw_up_ne (c := 18) (i := 0) (k := 0) (c' := 0) (i' := 0) (k' := k) (by omega), fw_up_ne (c := 9) (i := 0) (k := 0) (c' := 0) (i' := 0) (k' := k) (by omega), fw_up_ne (c := 9) (i := 0) (k := 1) (c' := 0) (i' := 0) (k' := k) (by omega), fw_up_ne (c := 9) (i := 0) (k := 2) (c' := 0) (i' := 0) (k' := k) (by omega), msend_0k (i := 0) (k := k) (by omega) (by omega) (by omega)]; done)))
theorem mz56_Mo_shut_0 {k : Nat} (hc : k = 56) : ∀ (v0 : fw_V), (mf_Mo_shut_0 v0) 0 0 k = v0 0 0 k := by
  intro v0
  unfold mf_Mo_shut_0
  (try dsimp only)
  all_goals ((repeat' split) <;> (first | with_reducible rfl | (simp only [fw_up_ne (c := 13) (i := 0) (k := 0) (c' := 0) (i' := 0) (k' := k) (by omega), fw_up_ne (c := 15) (i := 0) (k := 0) (c' := 0) (i' := 0) (k' := k) (by omega), fw_up_ne (c := 16) (i := 0) (k := 0) (c' := 0) (i' := 0) (k' := k) (by omega), fw_up_ne (c := 17) (i := 0) (k := 0) (c' := 0) (i' := 0) (k' := k) (by omega), fw_up_ne (c := 27) (i := 0) (k := 0) (c' := 0) (i' := 0) (k' := k) (by omega), fw_up_ne (c := 27) (i := 0) (k := 1) (c' := 0) (i' := 0) (k' := k) (by omega), fw_up_ne (c := 27) (i := 0) (k := 2) (c' := 0) (i' := 0) (k' := k) (by omega), fw_up_ne (c := 27) (i := 0) (k := 3) (c' := 0) (i' := 0) (k' := k) (by omega), fw_up_ne (c := 27) (i := 0) (k := 4) (c' := 0) (i' := 0) (k' := k) (by omega), fw_up_ne (c := 27) (i := 0) (k := 5) (c' := 0) (i' := 0) (k' := k) (by omega), msend_0k (i := 0) (k := k) (by omega) (by omega) (by omega), mz56_Mo_enter_0 hc]; done)))
theorem mz56_Mo_write_0_j2 {k : Nat} (hc : k = 56) : ∀ (v : fw_V) (a2 : Int32) (x3 : Int32), (mf_Mo_write_0_j2 v a2 x3) 0 0 k = v 0 0 k := by
  intro v a2 x3
  unfold mf_Mo_write_0_j2
  (try dsimp only)
  all_goals ((repeat' split) <;> (first | with_reducible rfl | (simp only [fw_up_ne (c := 20) (i := 0) (k := 0) (c' := 0) (i' := 0) (k' := k) (by omega), msend_0k (i := 0) (k := k) (by omega) (by omega) (by omega), mz56_Mo_enter_0 hc, mz56_Mo_ask_0 hc]; done)))
theorem mz56_Mo_write_0_j3 {k : Nat} (hc : k = 56) : ∀ (v : fw_V) (a2 : Int32) (x3 : Int32), (mf_Mo_write_0_j3 v a2 x3) 0 0 k = v 0 0 k := by
  intro v a2 x3
  unfold mf_Mo_write_0_j3
  (try dsimp only)
  all_goals ((repeat' split) <;> (first | with_reducible rfl | (simp only [fw_up_ne (c := 20) (i := 0) (k := 0) (c' := 0) (i' := 0) (k' := k) (by omega), msend_0k (i := 0) (k := k) (by omega) (by omega) (by omega), mz56_Mo_enter_0 hc, mz56_Mo_ask_0 hc]; done)))
theorem mz56_Mo_write_0_j1 {k : Nat} (hc : k = 56) : ∀ (n : Nat) (v : fw_V) (a2 : Int32) (x3 : Int32), (mf_Mo_write_0_j1 n v a2 x3) 0 0 k = v 0 0 k := by
  intro n
  induction n with
  | zero => intros; rfl
  | succ n ih =>
    intro v a2 x3
    unfold mf_Mo_write_0_j1
    (try dsimp only)
    all_goals ((repeat' split) <;> (first | with_reducible rfl | (simp only [ih, msend_0k (i := 0) (k := k) (by omega) (by omega) (by omega), mz56_Mo_write_0_j2 hc, mz56_Mo_write_0_j3 hc]; done)))
theorem mz56_Mo_write_0 {k : Nat} (hc : k = 56) : ∀ (v0 : fw_V) (a2 : Int32), (mf_Mo_write_0 v0 a2) 0 0 k = v0 0 0 k := by
  intro v0 a2
  unfold mf_Mo_write_0
  (try dsimp only)
  all_goals ((repeat' split) <;> (first | with_reducible rfl | (simp only [msend_0k (i := 0) (k := k) (by omega) (by omega) (by omega), mz56_Mo_write_0_j1 hc]; done)))
theorem mz56_Mo_breakOff_0 {k : Nat} (hc : k = 56) : ∀ (v0 : fw_V), (mf_Mo_breakOff_0 v0) 0 0 k = v0 0 0 k := by
  intro v0
  unfold mf_Mo_breakOff_0
  (try dsimp only)
  all_goals ((repeat' split) <;> (first | with_reducible rfl | (simp only [msend_0k (i := 0) (k := k) (by omega) (by omega) (by omega), mz56_Mo_shut_0 hc]; done)))
theorem mz56_Mo_tell_0_j2 {k : Nat} (hc : k = 56) : ∀ (v : fw_V) (a2 : Int32) (x3 : Int32) (x4 : Int32) (x90 : Int32), (mf_Mo_tell_0_j2 v a2 x3 x4 x90) 0 0 k = v 0 0 k := by
  intro v a2 x3 x4 x90
  unfold mf_Mo_tell_0_j2
  (try dsimp only)
  all_goals ((repeat' split) <;> (first | with_reducible rfl | (simp only [fw_up_ne (c := 16) (i := 0) (k := 0) (c' := 0) (i' := 0) (k' := k) (by omega), fw_up_ne (c := 49) (i := 0) (k := 7) (c' := 0) (i' := 0) (k' := k) (by omega), fw_up_ne (c := 49) (i := 0) (k := 6) (c' := 0) (i' := 0) (k' := k) (by omega), fw_up_ne (c := 49) (i := 0) (k := 5) (c' := 0) (i' := 0) (k' := k) (by omega), fw_up_ne (c := 49) (i := 0) (k := 4) (c' := 0) (i' := 0) (k' := k) (by omega), fw_up_ne (c := 49) (i := 0) (k := 3) (c' := 0) (i' := 0) (k' := k) (by omega), fw_up_ne (c := 49) (i := 0) (k := 2) (c' := 0) (i' := 0) (k' := k) (by omega), fw_up_ne (c := 49) (i := 0) (k := 1) (c' := 0) (i' := 0) (k' := k) (by omega), fw_up_ne (c := 49) (i := 0) (k := 0) (c' := 0) (i' := 0) (k' := k) (by omega), fw_up_ne (c := 0) (i := 0) (k := 55) (c' := 0) (i' := 0) (k' := k) (by omega), msend_0k (i := 0) (k := k) (by omega) (by omega) (by omega)]; done)))
theorem mz56_Mo_tell_0_j1 {k : Nat} (hc : k = 56) : ∀ (v : fw_V) (a2 : Int32) (x3 : Int32) (x4 : Int32), (mf_Mo_tell_0_j1 v a2 x3 x4) 0 0 k = v 0 0 k := by
  intro v a2 x3 x4
  unfold mf_Mo_tell_0_j1
  (try dsimp only)
  all_goals ((repeat' split) <;> (first | with_reducible rfl | (simp only [msend_0k (i := 0) (k := k) (by omega) (by omega) (by omega), mz56_Mo_tell_0_j2 hc]; done)))
theorem mz56_Mo_tell_0 {k : Nat} (hc : k = 56) : ∀ (v0 : fw_V) (a2 : Int32), (mf_Mo_tell_0 v0 a2) 0 0 k = v0 0 0 k := by
  intro v0 a2
  unfold mf_Mo_tell_0
  (try dsimp only)
  all_goals ((repeat' split) <;> (first | with_reducible rfl | (simp only [fw_up_ne (c := 23) (i := 0) (k := 0) (c' := 0) (i' := 0) (k' := k) (by omega), msend_0k (i := 0) (k := k) (by omega) (by omega) (by omega), mz56_Mo_tell_0_j1 hc, mz56_Mo_tell_0_j2 hc]; done)))
theorem mz56_Mo_hears_0_j6 {k : Nat} (hc : k = 56) : ∀ (v0 : fw_V) (a2 : Int32) (a3 : Int32), (mf_Mo_hears_0_j6 v0 a2 a3) 0 0 k = v0 0 0 k := by
  intro v0 a2 a3
  unfold mf_Mo_hears_0_j6
  (try dsimp only)
  all_goals ((repeat' split) <;> (first | with_reducible rfl | (simp only [msend_0k (i := 0) (k := k) (by omega) (by omega) (by omega), mz56_Mo_tell_0 hc, mz56_Mo_shut_0 hc]; done)))
theorem mz56_Mo_hears_0_j5 {k : Nat} (hc : k = 56) : ∀ (v0 : fw_V) (a2 : Int32) (a3 : Int32), (mf_Mo_hears_0_j5 v0 a2 a3) 0 0 k = v0 0 0 k := by
  intro v0 a2 a3
  unfold mf_Mo_hears_0_j5
  (try dsimp only)
  all_goals ((repeat' split) <;> (first | with_reducible rfl | (simp only [fw_up_ne (c := 22) (i := 0) (k := 0) (c' := 0) (i' := 0) (k' := k) (by omega), fw_up_ne (c := 18) (i := 0) (k := 0) (c' := 0) (i' := 0) (k' := k) (by omega), fw_up_ne (c := 17) (i := 0) (k := 0) (c' := 0) (i' := 0) (k' := k) (by omega), fw_up_ne (c := 27) (i := 0) (k := 0) (c' := 0) (i' := 0) (k' := k) (by omega), fw_up_ne (c := 27) (i := 0) (k := 1) (c' := 0) (i' := 0) (k' := k) (by omega), fw_up_ne (c := 27) (i := 0) (k := 2) (c' := 0) (i' := 0) (k' := k) (by omega), fw_up_ne (c := 27) (i := 0) (k := 3) (c' := 0) (i' := 0) (k' := k) (by omega), fw_up_ne (c := 27) (i := 0) (k := 4) (c' := 0) (i' := 0) (k' := k) (by omega), fw_up_ne (c := 27) (i := 0) (k := 5) (c' := 0) (i' := 0) (k' := k) (by omega), msend_0k (i := 0) (k := k) (by omega) (by omega) (by omega), mz56_Mo_hears_0_j6 hc]; done)))
theorem mz56_Mo_hears_0_j4 {k : Nat} (hc : k = 56) : ∀ (v0 : fw_V) (a2 : Int32) (a3 : Int32), (mf_Mo_hears_0_j4 v0 a2 a3) 0 0 k = v0 0 0 k := by
  intro v0 a2 a3
  unfold mf_Mo_hears_0_j4
  (try dsimp only)
  all_goals ((repeat' split) <;> (first | with_reducible rfl | (simp only [fw_up_ne (c := 21) (i := 0) (k := 0) (c' := 0) (i' := 0) (k' := k) (by omega), fw_up_ne (c := 22) (i := 0) (k := 0) (c' := 0) (i' := 0) (k' := k) (by omega), fw_up_ne (c := 17) (i := 0) (k := 0) (c' := 0) (i' := 0) (k' := k) (by omega), msend_0k (i := 0) (k := k) (by omega) (by omega) (by omega), mz56_Mo_hears_0_j5 hc, mz56_Mo_enter_0 hc]; done)))
theorem mz56_Mo_hears_0_j3 {k : Nat} (hc : k = 56) : ∀ (v0 : fw_V) (a2 : Int32) (a3 : Int32), (mf_Mo_hears_0_j3 v0 a2 a3) 0 0 k = v0 0 0 k := by
  intro v0 a2 a3
  unfold mf_Mo_hears_0_j3
  (try dsimp only)
  all_goals ((repeat' split) <;> (first | with_reducible rfl | (simp only [msend_0k (i := 0) (k := k) (by omega) (by omega) (by omega), mz56_Mo_enter_0 hc, mz56_Mo_hears_0_j4 hc]; done)))
theorem mz56_Mo_hears_0_j2 {k : Nat} (hc : k = 56) : ∀ (v0 : fw_V) (a2 : Int32) (a3 : Int32), (mf_Mo_hears_0_j2 v0 a2 a3) 0 0 k = v0 0 0 k := by
  intro v0 a2 a3
  unfold mf_Mo_hears_0_j2
  (try dsimp only)
  all_goals ((repeat' split) <;> (first | with_reducible rfl | (simp only [msend_0k (i := 0) (k := k) (by omega) (by omega) (by omega), mz56_Mo_write_0 hc, mz56_Mo_hears_0_j3 hc]; done)))
theorem mz56_Mo_hears_0_j1 {k : Nat} (hc : k = 56) : ∀ (v0 : fw_V) (a2 : Int32) (a3 : Int32), (mf_Mo_hears_0_j1 v0 a2 a3) 0 0 k = v0 0 0 k := by
  intro v0 a2 a3
  unfold mf_Mo_hears_0_j1
  (try dsimp only)
  all_goals ((repeat' split) <;> (first | with_reducible rfl | (simp only [msend_0k (i := 0) (k := k) (by omega) (by omega) (by omega), mz56_Mo_shut_0 hc, mz56_Mo_hears_0_j2 hc]; done)))
theorem mz56_Mo_hears_0 {k : Nat} (hc : k = 56) : ∀ (v0 : fw_V) (a2 : Int32) (a3 : Int32), (mf_Mo_hears_0 v0 a2 a3) 0 0 k = v0 0 0 k := by
  intro v0 a2 a3
  unfold mf_Mo_hears_0
  (try dsimp only)
  all_goals ((repeat' split) <;> (first | with_reducible rfl | (simp only [fw_up_ne (c := 16) (i := 0) (k := 0) (c' := 0) (i' := 0) (k' := k) (by omega), msend_0k (i := 0) (k := k) (by omega) (by omega) (by omega), mz56_Mo_write_0 hc, mz56_Mo_hears_0_j1 hc]; done)))
theorem mz56_Mo_mark_0_j2 {k : Nat} (hc : k = 56) : ∀ (v0 : fw_V) (a2 : Int32), (mf_Mo_mark_0_j2 v0 a2) 0 0 k = v0 0 0 k := by
  intro v0 a2
  unfold mf_Mo_mark_0_j2
  (try dsimp only)
  all_goals ((repeat' split) <;> (first | with_reducible rfl | (simp only [fw_up_ne (c := 31) (i := 0) (k := 0) (c' := 0) (i' := 0) (k' := k) (by omega), msend_0k (i := 0) (k := k) (by omega) (by omega) (by omega)]; done)))
theorem mz56_Mo_mark_0_j1 {k : Nat} (hc : k = 56) : ∀ (v0 : fw_V) (a2 : Int32), (mf_Mo_mark_0_j1 v0 a2) 0 0 k = v0 0 0 k := by
  intro v0 a2
  unfold mf_Mo_mark_0_j1
  (try dsimp only)
  all_goals ((repeat' split) <;> (first | with_reducible rfl | (simp only [msend_0k (i := 0) (k := k) (by omega) (by omega) (by omega), mz56_Mo_mark_0_j2 hc]; done)))
theorem mz56_Mo_mark_0_j3 {k : Nat} (hc : k = 56) : ∀ (v0 : fw_V) (a2 : Int32), (mf_Mo_mark_0_j3 v0 a2) 0 0 k = v0 0 0 k := by
  intro v0 a2
  unfold mf_Mo_mark_0_j3
  (try dsimp only)
  all_goals ((repeat' split) <;> (first | with_reducible rfl | (simp only [fw_up_ne (c := 31) (i := 0) (k := 0) (c' := 0) (i' := 0) (k' := k) (by omega), msend_0k (i := 0) (k := k) (by omega) (by omega) (by omega)]; done)))
theorem mz56_Mo_mark_0 {k : Nat} (hc : k = 56) : ∀ (v0 : fw_V) (a2 : Int32), (mf_Mo_mark_0 v0 a2) 0 0 k = v0 0 0 k := by
  intro v0 a2
  unfold mf_Mo_mark_0
  (try dsimp only)
  all_goals ((repeat' split) <;> (first | with_reducible rfl | (simp only [msend_0k (i := 0) (k := k) (by omega) (by omega) (by omega), mz56_Mo_mark_0_j1 hc, mz56_Mo_mark_0_j3 hc]; done)))
theorem mz56_Mo_replace_0_j8 {k : Nat} (hc : k = 56) : ∀ (v : fw_V) (a2 : Int32) (x4 : Int32), (mf_Mo_replace_0_j8 v a2 x4) 0 0 k = v 0 0 k := by
  intro v a2 x4
  unfold mf_Mo_replace_0_j8
  (try dsimp only)
  all_goals ((repeat' split) <;> (first | with_reducible rfl | (simp only [msend_0k (i := 0) (k := k) (by omega) (by omega) (by omega)]; done)))
theorem mz56_Mo_replace_0_j7 {k : Nat} (hc : k = 56) : ∀ (v : fw_V) (a2 : Int32) (x4 : Int32), (mf_Mo_replace_0_j7 v a2 x4) 0 0 k = v 0 0 k := by
  intro v a2 x4
  unfold mf_Mo_replace_0_j7
  (try dsimp only)
  all_goals ((repeat' split) <;> (first | with_reducible rfl | (simp only [msend_0k (i := 0) (k := k) (by omega) (by omega) (by omega), mz56_Mo_replace_0_j8 hc]; done)))
theorem mz56_Mo_replace_0_j6 {k : Nat} (hc : k = 56) : ∀ (v : fw_V) (a2 : Int32) (x4 : Int32), (mf_Mo_replace_0_j6 v a2 x4) 0 0 k = v 0 0 k := by
  intro v a2 x4
  unfold mf_Mo_replace_0_j6
  (try dsimp only)
  all_goals ((repeat' split) <;> (first | with_reducible rfl | (simp only [fw_up_c (c := 46) (c' := 0) (by decide), msend_0k (i := 0) (k := k) (by omega) (by omega) (by omega), mz56_Mo_replace_0_j7 hc]; done)))
theorem mz56_Mo_replace_0_j5 {k : Nat} (hc : k = 56) : ∀ (v : fw_V) (a2 : Int32) (x4 : Int32), (mf_Mo_replace_0_j5 v a2 x4) 0 0 k = v 0 0 k := by
  intro v a2 x4
  unfold mf_Mo_replace_0_j5
  (try dsimp only)
  all_goals ((repeat' split) <;> (first | with_reducible rfl | (simp only [fw_up_c (c := 46) (c' := 0) (by decide), msend_0k (i := 0) (k := k) (by omega) (by omega) (by omega), mz56_Mo_replace_0_j6 hc, mz56_Mo_replace_0_j7 hc]; done)))
theorem mz56_Mo_replace_0_j4 {k : Nat} (hc : k = 56) : ∀ (v : fw_V) (a2 : Int32) (x4 : Int32), (mf_Mo_replace_0_j4 v a2 x4) 0 0 k = v 0 0 k := by
  intro v a2 x4
  unfold mf_Mo_replace_0_j4
  (try dsimp only)
  all_goals ((repeat' split) <;> (first | with_reducible rfl | (simp only [msend_0k (i := 0) (k := k) (by omega) (by omega) (by omega), mz56_Mo_replace_0_j5 hc]; done)))
theorem mz56_Mo_replace_0_j3 {k : Nat} (hc : k = 56) : ∀ (v0 : fw_V) (a2 : Int32), (mf_Mo_replace_0_j3 v0 a2) 0 0 k = v0 0 0 k := by
  intro v0 a2
  unfold mf_Mo_replace_0_j3
  (try dsimp only)
  all_goals ((repeat' split) <;> (first | with_reducible rfl | (simp only [fw_up_c (c := 46) (c' := 0) (by decide), msend_0k (i := 0) (k := k) (by omega) (by omega) (by omega), mz56_Mo_replace_0_j4 hc]; done)))
theorem mz56_Mo_replace_0_j11 {k : Nat} (hc : k = 56) : ∀ (v0 : fw_V) (a2 : Int32), (mf_Mo_replace_0_j11 v0 a2) 0 0 k = v0 0 0 k := by
  intro v0 a2
  unfold mf_Mo_replace_0_j11
  (try dsimp only)
  all_goals ((repeat' split) <;> (first | with_reducible rfl | (simp only [fw_up_c (c := 46) (c' := 0) (by decide), msend_0k (i := 0) (k := k) (by omega) (by omega) (by omega), mz56_Mo_replace_0_j7 hc]; done)))
theorem mz56_Mo_replace_0_j13 {k : Nat} (hc : k = 56) : ∀ (v0 : fw_V) (a2 : Int32), (mf_Mo_replace_0_j13 v0 a2) 0 0 k = v0 0 0 k := by
  intro v0 a2
  unfold mf_Mo_replace_0_j13
  (try dsimp only)
  all_goals ((repeat' split) <;> (first | with_reducible rfl | (simp only [msend_0k (i := 0) (k := k) (by omega) (by omega) (by omega)]; done)))
theorem mz56_Mo_replace_0_j12 {k : Nat} (hc : k = 56) : ∀ (v0 : fw_V) (a2 : Int32), (mf_Mo_replace_0_j12 v0 a2) 0 0 k = v0 0 0 k := by
  intro v0 a2
  unfold mf_Mo_replace_0_j12
  (try dsimp only)
  all_goals ((repeat' split) <;> (first | with_reducible rfl | (simp only [msend_0k (i := 0) (k := k) (by omega) (by omega) (by omega), mz56_Mo_replace_0_j13 hc]; done)))
theorem mz56_Mo_replace_0_j10 {k : Nat} (hc : k = 56) : ∀ (v0 : fw_V) (a2 : Int32), (mf_Mo_replace_0_j10 v0 a2) 0 0 k = v0 0 0 k := by
  intro v0 a2
  unfold mf_Mo_replace_0_j10
  (try dsimp only)
  all_goals ((repeat' split) <;> (first | with_reducible rfl | (simp only [fw_up_c (c := 46) (c' := 0) (by decide), msend_0k (i := 0) (k := k) (by omega) (by omega) (by omega), mz56_Mo_replace_0_j11 hc, mz56_Mo_replace_0_j7 hc, mz56_Mo_replace_0_j12 hc]; done)))
theorem mz56_Mo_replace_0_j9 {k : Nat} (hc : k = 56) : ∀ (v0 : fw_V) (a2 : Int32), (mf_Mo_replace_0_j9 v0 a2) 0 0 k = v0 0 0 k := by
  intro v0 a2
  unfold mf_Mo_replace_0_j9
  (try dsimp only)
  all_goals ((repeat' split) <;> (first | with_reducible rfl | (simp only [msend_0k (i := 0) (k := k) (by omega) (by omega) (by omega), mz56_Mo_replace_0_j10 hc]; done)))
theorem mz56_Mo_replace_0_j2 {k : Nat} (hc : k = 56) : ∀ (v0 : fw_V) (a2 : Int32), (mf_Mo_replace_0_j2 v0 a2) 0 0 k = v0 0 0 k := by
  intro v0 a2
  unfold mf_Mo_replace_0_j2
  (try dsimp only)
  all_goals ((repeat' split) <;> (first | with_reducible rfl | (simp only [fw_up_c (c := 46) (c' := 0) (by decide), msend_0k (i := 0) (k := k) (by omega) (by omega) (by omega), mz56_Mo_replace_0_j3 hc, mz56_Mo_replace_0_j4 hc, mz56_Mo_replace_0_j9 hc]; done)))
theorem mz56_Mo_replace_0_j1 {k : Nat} (hc : k = 56) : ∀ (v0 : fw_V) (a2 : Int32), (mf_Mo_replace_0_j1 v0 a2) 0 0 k = v0 0 0 k := by
  intro v0 a2
  unfold mf_Mo_replace_0_j1
  (try dsimp only)
  all_goals ((repeat' split) <;> (first | with_reducible rfl | (simp only [msend_0k (i := 0) (k := k) (by omega) (by omega) (by omega), mz56_Mo_replace_0_j2 hc]; done)))
theorem mz56_Mo_replace_0_j21 {k : Nat} (hc : k = 56) : ∀ (v : fw_V) (a2 : Int32), (mf_Mo_replace_0_j21 v a2) 0 0 k = v 0 0 k := by
  intro v a2
  unfold mf_Mo_replace_0_j21
  (try dsimp only)
  all_goals ((repeat' split) <;> (first | with_reducible rfl | (simp only [msend_0k (i := 0) (k := k) (by omega) (by omega) (by omega)]; done)))
theorem mz56_Mo_replace_0_j20 {k : Nat} (hc : k = 56) : ∀ (v : fw_V) (a2 : Int32), (mf_Mo_replace_0_j20 v a2) 0 0 k = v 0 0 k := by
  intro v a2
  unfold mf_Mo_replace_0_j20
  (try dsimp only)
  all_goals ((repeat' split) <;> (first | with_reducible rfl | (simp only [msend_0k (i := 0) (k := k) (by omega) (by omega) (by omega), mz56_Mo_replace_0_j21 hc]; done)))
theorem mz56_Mo_replace_0_j19 {k : Nat} (hc : k = 56) : ∀ (v : fw_V) (a2 : Int32), (mf_Mo_replace_0_j19 v a2) 0 0 k = v 0 0 k := by
  intro v a2
  unfold mf_Mo_replace_0_j19
  (try dsimp only)
  all_goals ((repeat' split) <;> (first | with_reducible rfl | (simp only [fw_up_c (c := 46) (c' := 0) (by decide), msend_0k (i := 0) (k := k) (by omega) (by omega) (by omega), mz56_Mo_replace_0_j20 hc]; done)))
theorem mz56_Mo_replace_0_j18 {k : Nat} (hc : k = 56) : ∀ (v : fw_V) (a2 : Int32), (mf_Mo_replace_0_j18 v a2) 0 0 k = v 0 0 k := by
  intro v a2
  unfold mf_Mo_replace_0_j18
  (try dsimp only)
  all_goals ((repeat' split) <;> (first | with_reducible rfl | (simp only [msend_0k (i := 0) (k := k) (by omega) (by omega) (by omega), mz56_Mo_replace_0_j19 hc]; done)))
theorem mz56_Mo_replace_0_j17 {k : Nat} (hc : k = 56) : ∀ (v : fw_V) (a2 : Int32), (mf_Mo_replace_0_j17 v a2) 0 0 k = v 0 0 k := by
  intro v a2
  unfold mf_Mo_replace_0_j17
  (try dsimp only)
  all_goals ((repeat' split) <;> (first | with_reducible rfl | (simp only [msend_0k (i := 0) (k := k) (by omega) (by omega) (by omega), mz56_Mo_replace_0_j18 hc]; done)))
theorem mz56_Mo_replace_0_j16 {k : Nat} (hc : k = 56) : ∀ (v0 : fw_V) (a2 : Int32), (mf_Mo_replace_0_j16 v0 a2) 0 0 k = v0 0 0 k := by
  intro v0 a2
  unfold mf_Mo_replace_0_j16
  (try dsimp only)
  all_goals ((repeat' split) <;> (first | with_reducible rfl | (simp only [fw_up_c (c := 46) (c' := 0) (by decide), msend_0k (i := 0) (k := k) (by omega) (by omega) (by omega), mz56_Mo_replace_0_j17 hc]; done)))
theorem mz56_Mo_replace_0_j15 {k : Nat} (hc : k = 56) : ∀ (v0 : fw_V) (a2 : Int32), (mf_Mo_replace_0_j15 v0 a2) 0 0 k = v0 0 0 k := by
  intro v0 a2
  unfold mf_Mo_replace_0_j15
  (try dsimp only)
  all_goals ((repeat' split) <;> (first | with_reducible rfl | (simp only [msend_0k (i := 0) (k := k) (by omega) (by omega) (by omega), mz56_Mo_replace_0_j16 hc]; done)))
theorem mz56_Mo_replace_0_j14 {k : Nat} (hc : k = 56) : ∀ (v0 : fw_V) (a2 : Int32), (mf_Mo_replace_0_j14 v0 a2) 0 0 k = v0 0 0 k := by
  intro v0 a2
  unfold mf_Mo_replace_0_j14
  (try dsimp only)
  all_goals ((repeat' split) <;> (first | with_reducible rfl | (simp only [msend_0k (i := 0) (k := k) (by omega) (by omega) (by omega), mz56_Mo_replace_0_j15 hc]; done)))
theorem mz56_Mo_replace_0 {k : Nat} (hc : k = 56) : ∀ (v0 : fw_V) (a2 : Int32), (mf_Mo_replace_0 v0 a2) 0 0 k = v0 0 0 k := by
  intro v0 a2
  unfold mf_Mo_replace_0
  (try dsimp only)
  all_goals ((repeat' split) <;> (first | with_reducible rfl | (simp only [msend_0k (i := 0) (k := k) (by omega) (by omega) (by omega), mz56_Mo_replace_0_j1 hc, mz56_Mo_replace_0_j14 hc]; done)))
theorem mz56_Mo_reply_0 {k : Nat} (hc : k = 56) : ∀ (v0 : fw_V) (a2 : Int32) (a3 : Int32), (mf_Mo_reply_0 v0 a2 a3) 0 0 k = v0 0 0 k := by
  intro v0 a2 a3
  unfold mf_Mo_reply_0
  (try dsimp only)
  all_goals ((repeat' split) <;> (first | with_reducible rfl | (simp only [msend_0k (i := 0) (k := k) (by omega) (by omega) (by omega)]; done)))
theorem mz56_Mo_connect_0_j1 {k : Nat} (hc : k = 56) : ∀ (v0 : fw_V) (a2 : Int32), (mf_Mo_connect_0_j1 v0 a2) 0 0 k = v0 0 0 k := by
  intro v0 a2
  unfold mf_Mo_connect_0_j1
  (try dsimp only)
  all_goals ((repeat' split) <;> (first | with_reducible rfl | (simp only [fw_up_ne (c := 28) (i := 0) (k := 0) (c' := 0) (i' := 0) (k' := k) (by omega), fw_up_ne (c := 29) (i := 0) (k := 0) (c' := 0) (i' := 0) (k' := k) (by omega), fw_up_ne (c := 32) (i := 0) (k := 0) (c' := 0) (i' := 0) (k' := k) (by omega), fw_up_ne (c := 43) (i := 0) (k := 0) (c' := 0) (i' := 0) (k' := k) (by omega), fw_up_ne (c := 44) (i := 0) (k := 0) (c' := 0) (i' := 0) (k' := k) (by omega), fw_up_ne (c := 43) (i := 0) (k := 1) (c' := 0) (i' := 0) (k' := k) (by omega), fw_up_ne (c := 44) (i := 0) (k := 1) (c' := 0) (i' := 0) (k' := k) (by omega), fw_up_ne (c := 43) (i := 0) (k := 2) (c' := 0) (i' := 0) (k' := k) (by omega), fw_up_ne (c := 44) (i := 0) (k := 2) (c' := 0) (i' := 0) (k' := k) (by omega), msend_0k (i := 0) (k := k) (by omega) (by omega) (by omega), mz56_Mo_mark_0 hc, mz56_Mo_reply_0 hc]; done)))
theorem mz56_Mo_connect_0 {k : Nat} (hc : k = 56) : ∀ (v0 : fw_V) (a2 : Int32), (mf_Mo_connect_0 v0 a2) 0 0 k = v0 0 0 k := by
  intro v0 a2
  unfold mf_Mo_connect_0
  (try dsimp only)
  all_goals ((repeat' split) <;> (first | with_reducible rfl | (simp only [msend_0k (i := 0) (k := k) (by omega) (by omega) (by omega), mz56_Mo_connect_0_j1 hc]; done)))
theorem mz56_Mo_obeys_0_j44 {k : Nat} (hc : k = 56) : ∀ (v0 : fw_V) (a2 : Int32) (a3 : Int32), (mf_Mo_obeys_0_j44 v0 a2 a3) 0 0 k = v0 0 0 k := by
  intro v0 a2 a3
  unfold mf_Mo_obeys_0_j44
  (try dsimp only)
  all_goals ((repeat' split) <;> (first | with_reducible rfl | (simp only [fw_up_ne (c := 28) (i := 0) (k := 0) (c' := 0) (i' := 0) (k' := k) (by omega), fw_up_ne (c := 32) (i := 0) (k := 0) (c' := 0) (i' := 0) (k' := k) (by omega), fw_up_ne (c := 33) (i := 0) (k := 0) (c' := 0) (i' := 0) (k' := k) (by omega), msend_0k (i := 0) (k := k) (by omega) (by omega) (by omega), mz56_Mo_reply_0 hc]; done)))
theorem mz56_Mo_obeys_0_j43 {k : Nat} (hc : k = 56) : ∀ (v0 : fw_V) (a2 : Int32) (a3 : Int32), (mf_Mo_obeys_0_j43 v0 a2 a3) 0 0 k = v0 0 0 k := by
  intro v0 a2 a3
  unfold mf_Mo_obeys_0_j43
  (try dsimp only)
  all_goals ((repeat' split) <;> (first | with_reducible rfl | (simp only [msend_0k (i := 0) (k := k) (by omega) (by omega) (by omega), mz56_Mo_obeys_0_j44 hc]; done)))
theorem mz56_Mo_obeys_0_j42 {k : Nat} (hc : k = 56) : ∀ (v0 : fw_V) (a2 : Int32) (a3 : Int32), (mf_Mo_obeys_0_j42 v0 a2 a3) 0 0 k = v0 0 0 k := by
  intro v0 a2 a3
  unfold mf_Mo_obeys_0_j42
  (try dsimp only)
  all_goals ((repeat' split) <;> (first | with_reducible rfl | (simp only [msend_0k (i := 0) (k := k) (by omega) (by omega) (by omega), mz56_Mo_obeys_0_j43 hc]; done)))
theorem mz56_Mo_rest_0_j7 {k : Nat} (hc : k = 56) : ∀ (v : fw_V), (mf_Mo_rest_0_j7 v) 0 0 k = v 0 0 k := by
  intro v
  unfold mf_Mo_rest_0_j7
  (try dsimp only)
  all_goals ((repeat' split) <;> (first | with_reducible rfl | (simp only [msend_0k (i := 0) (k := k) (by omega) (by omega) (by omega)]; done)))
theorem mz56_Mo_rest_0_j6 {k : Nat} (hc : k = 56) : ∀ (v : fw_V), (mf_Mo_rest_0_j6 v) 0 0 k = v 0 0 k := by
  intro v
  unfold mf_Mo_rest_0_j6
  (try dsimp only)
  all_goals ((repeat' split) <;> (first | with_reducible rfl | (simp only [msend_0k (i := 0) (k := k) (by omega) (by omega) (by omega), mz56_Mo_replace_0 hc, mz56_Mo_rest_0_j7 hc]; done)))
theorem mz56_Mo_rest_0_j5 {k : Nat} (hc : k = 56) : ∀ (v : fw_V), (mf_Mo_rest_0_j5 v) 0 0 k = v 0 0 k := by
  intro v
  unfold mf_Mo_rest_0_j5
  (try dsimp only)
  all_goals ((repeat' split) <;> (first | with_reducible rfl | (simp only [msend_0k (i := 0) (k := k) (by omega) (by omega) (by omega), mz56_Mo_replace_0 hc, mz56_Mo_rest_0_j6 hc]; done)))
theorem mz56_Mo_rest_0_j4 {k : Nat} (hc : k = 56) : ∀ (v : fw_V), (mf_Mo_rest_0_j4 v) 0 0 k = v 0 0 k := by
  intro v
  unfold mf_Mo_rest_0_j4
  (try dsimp only)
  all_goals ((repeat' split) <;> (first | with_reducible rfl | (simp only [msend_0k (i := 0) (k := k) (by omega) (by omega) (by omega), mz56_Mo_replace_0 hc, mz56_Mo_rest_0_j5 hc]; done)))
theorem mz56_Mo_rest_0_j3 {k : Nat} (hc : k = 56) : ∀ (v0 : fw_V), (mf_Mo_rest_0_j3 v0) 0 0 k = v0 0 0 k := by
  intro v0
  unfold mf_Mo_rest_0_j3
  (try dsimp only)
  all_goals ((repeat' split) <;> (first | with_reducible rfl | (simp only [fw_up_ne (c := 28) (i := 0) (k := 0) (c' := 0) (i' := 0) (k' := k) (by omega), fw_up_ne (c := 29) (i := 0) (k := 0) (c' := 0) (i' := 0) (k' := k) (by omega), fw_up_ne (c := 31) (i := 0) (k := 0) (c' := 0) (i' := 0) (k' := k) (by omega), fw_up_ne (c := 32) (i := 0) (k := 0) (c' := 0) (i' := 0) (k' := k) (by omega), fw_up_ne (c := 37) (i := 0) (k := 0) (c' := 0) (i' := 0) (k' := k) (by omega), fw_up_ne (c := 36) (i := 0) (k := 0) (c' := 0) (i' := 0) (k' := k) (by omega), fw_up_ne (c := 43) (i := 0) (k := 0) (c' := 0) (i' := 0) (k' := k) (by omega), fw_up_ne (c := 44) (i := 0) (k := 0) (c' := 0) (i' := 0) (k' := k) (by omega), fw_up_ne (c := 43) (i := 0) (k := 1) (c' := 0) (i' := 0) (k' := k) (by omega), fw_up_ne (c := 44) (i := 0) (k := 1) (c' := 0) (i' := 0) (k' := k) (by omega), fw_up_ne (c := 43) (i := 0) (k := 2) (c' := 0) (i' := 0) (k' := k) (by omega), fw_up_ne (c := 44) (i := 0) (k := 2) (c' := 0) (i' := 0) (k' := k) (by omega), msend_0k (i := 0) (k := k) (by omega) (by omega) (by omega), mz56_Mo_rest_0_j4 hc]; done)))
theorem mz56_Mo_rest_0_j2 {k : Nat} (hc : k = 56) : ∀ (v : fw_V), (mf_Mo_rest_0_j2 v) 0 0 k = v 0 0 k := by
  intro v
  unfold mf_Mo_rest_0_j2
  (try dsimp only)
  all_goals ((repeat' split) <;> (first | with_reducible rfl | (simp only [msend_0k (i := 0) (k := k) (by omega) (by omega) (by omega)]; done)))
theorem mz56_Mo_rest_0_j1 {k : Nat} (hc : k = 56) : ∀ (v0 : fw_V), (mf_Mo_rest_0_j1 v0) 0 0 k = v0 0 0 k := by
  intro v0
  unfold mf_Mo_rest_0_j1
  (try dsimp only)
  all_goals ((repeat' split) <;> (first | with_reducible rfl | (simp only [fw_up_ne (c := 28) (i := 0) (k := 0) (c' := 0) (i' := 0) (k' := k) (by omega), fw_up_ne (c := 29) (i := 0) (k := 0) (c' := 0) (i' := 0) (k' := k) (by omega), fw_up_ne (c := 31) (i := 0) (k := 0) (c' := 0) (i' := 0) (k' := k) (by omega), fw_up_ne (c := 32) (i := 0) (k := 0) (c' := 0) (i' := 0) (k' := k) (by omega), fw_up_ne (c := 37) (i := 0) (k := 0) (c' := 0) (i' := 0) (k' := k) (by omega), fw_up_ne (c := 36) (i := 0) (k := 0) (c' := 0) (i' := 0) (k' := k) (by omega), fw_up_ne (c := 43) (i := 0) (k := 0) (c' := 0) (i' := 0) (k' := k) (by omega), fw_up_ne (c := 44) (i := 0) (k := 0) (c' := 0) (i' := 0) (k' := k) (by omega), fw_up_ne (c := 43) (i := 0) (k := 1) (c' := 0) (i' := 0) (k' := k) (by omega), fw_up_ne (c := 44) (i := 0) (k := 1) (c' := 0) (i' := 0) (k' := k) (by omega), fw_up_ne (c := 43) (i := 0) (k := 2) (c' := 0) (i' := 0) (k' := k) (by omega), fw_up_ne (c := 44) (i := 0) (k := 2) (c' := 0) (i' := 0) (k' := k) (by omega), msend_0k (i := 0) (k := k) (by omega) (by omega) (by omega), mz56_Mo_rest_0_j2 hc]; done)))
theorem mz56_Mo_rest_0 {k : Nat} (hc : k = 56) : ∀ (v0 : fw_V), (mf_Mo_rest_0 v0) 0 0 k = v0 0 0 k := by
  intro v0
  unfold mf_Mo_rest_0
  (try dsimp only)
  all_goals ((repeat' split) <;> (first | with_reducible rfl | (simp only [msend_0k (i := 0) (k := k) (by omega) (by omega) (by omega), mz56_Mo_rest_0_j3 hc, mz56_Mo_rest_0_j1 hc]; done)))
theorem mz56_Mo_quit_0 {k : Nat} (hc : k = 56) : ∀ (v0 : fw_V), (mf_Mo_quit_0 v0) 0 0 k = v0 0 0 k := by
  intro v0
  unfold mf_Mo_quit_0
  (try dsimp only)
  all_goals ((repeat' split) <;> (first | with_reducible rfl | (simp only [msend_0k (i := 0) (k := k) (by omega) (by omega) (by omega), mz56_Mo_reply_0 hc, mz56_Mo_rest_0 hc]; done)))
theorem mz56_Mo_obeys_0_j46 {k : Nat} (hc : k = 56) : ∀ (v0 : fw_V) (a2 : Int32) (a3 : Int32), (mf_Mo_obeys_0_j46 v0 a2 a3) 0 0 k = v0 0 0 k := by
  intro v0 a2 a3
  unfold mf_Mo_obeys_0_j46
  (try dsimp only)
  all_goals ((repeat' split) <;> (first | with_reducible rfl | (simp only [msend_0k (i := 0) (k := k) (by omega) (by omega) (by omega), mz56_Mo_quit_0 hc]; done)))
theorem mz56_Mo_obeys_0_j45 {k : Nat} (hc : k = 56) : ∀ (v0 : fw_V) (a2 : Int32) (a3 : Int32), (mf_Mo_obeys_0_j45 v0 a2 a3) 0 0 k = v0 0 0 k := by
  intro v0 a2 a3
  unfold mf_Mo_obeys_0_j45
  (try dsimp only)
  all_goals ((repeat' split) <;> (first | with_reducible rfl | (simp only [msend_0k (i := 0) (k := k) (by omega) (by omega) (by omega), mz56_Mo_obeys_0_j46 hc]; done)))
theorem mz56_Mo_obeys_0_j41 {k : Nat} (hc : k = 56) : ∀ (v0 : fw_V) (a2 : Int32) (a3 : Int32), (mf_Mo_obeys_0_j41 v0 a2 a3) 0 0 k = v0 0 0 k := by
  intro v0 a2 a3
  unfold mf_Mo_obeys_0_j41
  (try dsimp only)
  all_goals ((repeat' split) <;> (first | with_reducible rfl | (simp only [msend_0k (i := 0) (k := k) (by omega) (by omega) (by omega), mz56_Mo_obeys_0_j42 hc, mz56_Mo_obeys_0_j45 hc]; done)))
theorem mz56_Mo_obeys_0_j40 {k : Nat} (hc : k = 56) : ∀ (v0 : fw_V) (a2 : Int32) (a3 : Int32), (mf_Mo_obeys_0_j40 v0 a2 a3) 0 0 k = v0 0 0 k := by
  intro v0 a2 a3
  unfold mf_Mo_obeys_0_j40
  (try dsimp only)
  all_goals ((repeat' split) <;> (first | with_reducible rfl | (simp only [msend_0k (i := 0) (k := k) (by omega) (by omega) (by omega), mz56_Mo_obeys_0_j41 hc]; done)))
theorem mz56_Mo_obeys_0_j39 {k : Nat} (hc : k = 56) : ∀ (v0 : fw_V) (a2 : Int32) (a3 : Int32), (mf_Mo_obeys_0_j39 v0 a2 a3) 0 0 k = v0 0 0 k := by
  intro v0 a2 a3
  unfold mf_Mo_obeys_0_j39
  (try dsimp only)
  all_goals ((repeat' split) <;> (first | with_reducible rfl | (simp only [msend_0k (i := 0) (k := k) (by omega) (by omega) (by omega), mz56_Mo_obeys_0_j40 hc]; done)))
theorem mz56_Mo_obeys_0_j50 {k : Nat} (hc : k = 56) : ∀ (v0 : fw_V) (a2 : Int32) (a3 : Int32), (mf_Mo_obeys_0_j50 v0 a2 a3) 0 0 k = v0 0 0 k := by
  intro v0 a2 a3
  unfold mf_Mo_obeys_0_j50
  (try dsimp only)
  all_goals ((repeat' split) <;> (first | with_reducible rfl | (simp only [msend_0k (i := 0) (k := k) (by omega) (by omega) (by omega), mz56_Mo_obeys_0_j46 hc]; done)))
theorem mz56_Mo_obeys_0_j49 {k : Nat} (hc : k = 56) : ∀ (v0 : fw_V) (a2 : Int32) (a3 : Int32), (mf_Mo_obeys_0_j49 v0 a2 a3) 0 0 k = v0 0 0 k := by
  intro v0 a2 a3
  unfold mf_Mo_obeys_0_j49
  (try dsimp only)
  all_goals ((repeat' split) <;> (first | with_reducible rfl | (simp only [msend_0k (i := 0) (k := k) (by omega) (by omega) (by omega), mz56_Mo_obeys_0_j50 hc]; done)))
theorem mz56_Mo_obeys_0_j51 {k : Nat} (hc : k = 56) : ∀ (v0 : fw_V) (a2 : Int32) (a3 : Int32), (mf_Mo_obeys_0_j51 v0 a2 a3) 0 0 k = v0 0 0 k := by
  intro v0 a2 a3
  unfold mf_Mo_obeys_0_j51
  (try dsimp only)
  all_goals ((repeat' split) <;> (first | with_reducible rfl | (simp only [msend_0k (i := 0) (k := k) (by omega) (by omega) (by omega), mz56_Mo_obeys_0_j46 hc]; done)))
theorem mz56_Mo_obeys_0_j48 {k : Nat} (hc : k = 56) : ∀ (v0 : fw_V) (a2 : Int32) (a3 : Int32), (mf_Mo_obeys_0_j48 v0 a2 a3) 0 0 k = v0 0 0 k := by
  intro v0 a2 a3
  unfold mf_Mo_obeys_0_j48
  (try dsimp only)
  all_goals ((repeat' split) <;> (first | with_reducible rfl | (simp only [msend_0k (i := 0) (k := k) (by omega) (by omega) (by omega), mz56_Mo_obeys_0_j49 hc, mz56_Mo_obeys_0_j51 hc]; done)))
theorem mz56_Mo_obeys_0_j47 {k : Nat} (hc : k = 56) : ∀ (v0 : fw_V) (a2 : Int32) (a3 : Int32), (mf_Mo_obeys_0_j47 v0 a2 a3) 0 0 k = v0 0 0 k := by
  intro v0 a2 a3
  unfold mf_Mo_obeys_0_j47
  (try dsimp only)
  all_goals ((repeat' split) <;> (first | with_reducible rfl | (simp only [msend_0k (i := 0) (k := k) (by omega) (by omega) (by omega), mz56_Mo_obeys_0_j48 hc]; done)))
theorem mz56_Mo_obeys_0_j38 {k : Nat} (hc : k = 56) : ∀ (v0 : fw_V) (a2 : Int32) (a3 : Int32), (mf_Mo_obeys_0_j38 v0 a2 a3) 0 0 k = v0 0 0 k := by
  intro v0 a2 a3
  unfold mf_Mo_obeys_0_j38
  (try dsimp only)
  all_goals ((repeat' split) <;> (first | with_reducible rfl | (simp only [msend_0k (i := 0) (k := k) (by omega) (by omega) (by omega), mz56_Mo_obeys_0_j39 hc, mz56_Mo_obeys_0_j47 hc]; done)))
theorem mz56_Mo_obeys_0_j37 {k : Nat} (hc : k = 56) : ∀ (v0 : fw_V) (a2 : Int32) (a3 : Int32), (mf_Mo_obeys_0_j37 v0 a2 a3) 0 0 k = v0 0 0 k := by
  intro v0 a2 a3
  unfold mf_Mo_obeys_0_j37
  (try dsimp only)
  all_goals ((repeat' split) <;> (first | with_reducible rfl | (simp only [msend_0k (i := 0) (k := k) (by omega) (by omega) (by omega), mz56_Mo_obeys_0_j38 hc]; done)))
theorem mz56_Mo_obeys_0_j36 {k : Nat} (hc : k = 56) : ∀ (v0 : fw_V) (a2 : Int32) (a3 : Int32), (mf_Mo_obeys_0_j36 v0 a2 a3) 0 0 k = v0 0 0 k := by
  intro v0 a2 a3
  unfold mf_Mo_obeys_0_j36
  (try dsimp only)
  all_goals ((repeat' split) <;> (first | with_reducible rfl | (simp only [msend_0k (i := 0) (k := k) (by omega) (by omega) (by omega), mz56_Mo_obeys_0_j37 hc]; done)))
theorem mz56_Mo_obeys_0_j55 {k : Nat} (hc : k = 56) : ∀ (v0 : fw_V) (a2 : Int32) (a3 : Int32), (mf_Mo_obeys_0_j55 v0 a2 a3) 0 0 k = v0 0 0 k := by
  intro v0 a2 a3
  unfold mf_Mo_obeys_0_j55
  (try dsimp only)
  all_goals ((repeat' split) <;> (first | with_reducible rfl | (simp only [msend_0k (i := 0) (k := k) (by omega) (by omega) (by omega), mz56_Mo_obeys_0_j48 hc]; done)))
theorem mz56_Mo_obeys_0_j54 {k : Nat} (hc : k = 56) : ∀ (v0 : fw_V) (a2 : Int32) (a3 : Int32), (mf_Mo_obeys_0_j54 v0 a2 a3) 0 0 k = v0 0 0 k := by
  intro v0 a2 a3
  unfold mf_Mo_obeys_0_j54
  (try dsimp only)
  all_goals ((repeat' split) <;> (first | with_reducible rfl | (simp only [msend_0k (i := 0) (k := k) (by omega) (by omega) (by omega), mz56_Mo_obeys_0_j55 hc]; done)))
theorem mz56_Mo_obeys_0_j56 {k : Nat} (hc : k = 56) : ∀ (v0 : fw_V) (a2 : Int32) (a3 : Int32), (mf_Mo_obeys_0_j56 v0 a2 a3) 0 0 k = v0 0 0 k := by
  intro v0 a2 a3
  unfold mf_Mo_obeys_0_j56
  (try dsimp only)
  all_goals ((repeat' split) <;> (first | with_reducible rfl | (simp only [msend_0k (i := 0) (k := k) (by omega) (by omega) (by omega), mz56_Mo_obeys_0_j48 hc]; done)))
theorem mz56_Mo_obeys_0_j53 {k : Nat} (hc : k = 56) : ∀ (v0 : fw_V) (a2 : Int32) (a3 : Int32), (mf_Mo_obeys_0_j53 v0 a2 a3) 0 0 k = v0 0 0 k := by
  intro v0 a2 a3
  unfold mf_Mo_obeys_0_j53
  (try dsimp only)
  all_goals ((repeat' split) <;> (first | with_reducible rfl | (simp only [msend_0k (i := 0) (k := k) (by omega) (by omega) (by omega), mz56_Mo_obeys_0_j54 hc, mz56_Mo_obeys_0_j56 hc]; done)))
theorem mz56_Mo_obeys_0_j52 {k : Nat} (hc : k = 56) : ∀ (v0 : fw_V) (a2 : Int32) (a3 : Int32), (mf_Mo_obeys_0_j52 v0 a2 a3) 0 0 k = v0 0 0 k := by
  intro v0 a2 a3
  unfold mf_Mo_obeys_0_j52
  (try dsimp only)
  all_goals ((repeat' split) <;> (first | with_reducible rfl | (simp only [msend_0k (i := 0) (k := k) (by omega) (by omega) (by omega), mz56_Mo_obeys_0_j53 hc]; done)))
theorem mz56_Mo_obeys_0_j35 {k : Nat} (hc : k = 56) : ∀ (v0 : fw_V) (a2 : Int32) (a3 : Int32), (mf_Mo_obeys_0_j35 v0 a2 a3) 0 0 k = v0 0 0 k := by
  intro v0 a2 a3
  unfold mf_Mo_obeys_0_j35
  (try dsimp only)
  all_goals ((repeat' split) <;> (first | with_reducible rfl | (simp only [msend_0k (i := 0) (k := k) (by omega) (by omega) (by omega), mz56_Mo_obeys_0_j36 hc, mz56_Mo_obeys_0_j52 hc]; done)))
theorem mz56_Mo_obeys_0_j9 {k : Nat} (hc : k = 56) : ∀ (v : fw_V) (a2 : Int32) (a3 : Int32), (mf_Mo_obeys_0_j9 v a2 a3) 0 0 k = v 0 0 k := by
  intro v a2 a3
  unfold mf_Mo_obeys_0_j9
  (try dsimp only)
  all_goals ((repeat' split) <;> (first | with_reducible rfl | (simp only [msend_0k (i := 0) (k := k) (by omega) (by omega) (by omega)]; done)))
theorem mz56_Mo_obeys_0_j8 {k : Nat} (hc : k = 56) : ∀ (v : fw_V) (a2 : Int32) (a3 : Int32), (mf_Mo_obeys_0_j8 v a2 a3) 0 0 k = v 0 0 k := by
  intro v a2 a3
  unfold mf_Mo_obeys_0_j8
  (try dsimp only)
  all_goals ((repeat' split) <;> (first | with_reducible rfl | (simp only [fw_up_ne (c := 47) (i := 0) (k := 2) (c' := 0) (i' := 0) (k' := k) (by omega), fw_up_ne (c := 48) (i := 0) (k := 2) (c' := 0) (i' := 0) (k' := k) (by omega), msend_0k (i := 0) (k := k) (by omega) (by omega) (by omega), mz56_Mo_obeys_0_j9 hc]; done)))
theorem mz56_Mo_obeys_0_j7 {k : Nat} (hc : k = 56) : ∀ (v : fw_V) (a2 : Int32) (a3 : Int32), (mf_Mo_obeys_0_j7 v a2 a3) 0 0 k = v 0 0 k := by
  intro v a2 a3
  unfold mf_Mo_obeys_0_j7
  (try dsimp only)
  all_goals ((repeat' split) <;> (first | with_reducible rfl | (simp only [fw_up_ne (c := 47) (i := 0) (k := 1) (c' := 0) (i' := 0) (k' := k) (by omega), fw_up_ne (c := 48) (i := 0) (k := 1) (c' := 0) (i' := 0) (k' := k) (by omega), msend_0k (i := 0) (k := k) (by omega) (by omega) (by omega), mz56_Mo_obeys_0_j8 hc]; done)))
theorem mz56_Mo_obeys_0_j6 {k : Nat} (hc : k = 56) : ∀ (v : fw_V) (a2 : Int32) (a3 : Int32), (mf_Mo_obeys_0_j6 v a2 a3) 0 0 k = v 0 0 k := by
  intro v a2 a3
  unfold mf_Mo_obeys_0_j6
  (try dsimp only)
  all_goals ((repeat' split) <;> (first | with_reducible rfl | (simp only [fw_up_ne (c := 47) (i := 0) (k := 0) (c' := 0) (i' := 0) (k' := k) (by omega), fw_up_ne (c := 48) (i := 0) (k := 0) (c' := 0) (i' := 0) (k' := k) (by omega), msend_0k (i := 0) (k := k) (by omega) (by omega) (by omega), mz56_Mo_obeys_0_j7 hc]; done)))
theorem mz56_Mo_obeys_0_j61 {k : Nat} (hc : k = 56) : ∀ (v0 : fw_V) (a2 : Int32) (a3 : Int32), (mf_Mo_obeys_0_j61 v0 a2 a3) 0 0 k = v0 0 0 k := by
  intro v0 a2 a3
  unfold mf_Mo_obeys_0_j61
  (try dsimp only)
  all_goals ((repeat' split) <;> (first | with_reducible rfl | (simp only [fw_up_ne (c := 36) (i := 0) (k := 0) (c' := 0) (i' := 0) (k' := k) (by omega), fw_up_ne (c := 37) (i := 0) (k := 0) (c' := 0) (i' := 0) (k' := k) (by omega), msend_0k (i := 0) (k := k) (by omega) (by omega) (by omega), mz56_Mo_rest_0 hc, mz56_Mo_obeys_0_j6 hc]; done)))
theorem mz56_Mo_obeys_0_j22 {k : Nat} (hc : k = 56) : ∀ (v : fw_V) (a2 : Int32) (a3 : Int32), (mf_Mo_obeys_0_j22 v a2 a3) 0 0 k = v 0 0 k := by
  intro v a2 a3
  unfold mf_Mo_obeys_0_j22
  (try dsimp only)
  all_goals ((repeat' split) <;> (first | with_reducible rfl | (simp only [msend_0k (i := 0) (k := k) (by omega) (by omega) (by omega)]; done)))
theorem mz56_Mo_obeys_0_j21 {k : Nat} (hc : k = 56) : ∀ (v : fw_V) (a2 : Int32) (a3 : Int32), (mf_Mo_obeys_0_j21 v a2 a3) 0 0 k = v 0 0 k := by
  intro v a2 a3
  unfold mf_Mo_obeys_0_j21
  (try dsimp only)
  all_goals ((repeat' split) <;> (first | with_reducible rfl | (simp only [msend_0k (i := 0) (k := k) (by omega) (by omega) (by omega), mz56_Mo_obeys_0_j22 hc]; done)))
theorem mz56_Mo_obeys_0_j23 {k : Nat} (hc : k = 56) : ∀ (v : fw_V) (a2 : Int32) (a3 : Int32), (mf_Mo_obeys_0_j23 v a2 a3) 0 0 k = v 0 0 k := by
  intro v a2 a3
  unfold mf_Mo_obeys_0_j23
  (try dsimp only)
  all_goals ((repeat' split) <;> (first | with_reducible rfl | (simp only [fw_up_ne (c := 46) (i := 0) (k := 5) (c' := 0) (i' := 0) (k' := k) (by omega), msend_0k (i := 0) (k := k) (by omega) (by omega) (by omega), mz56_Mo_obeys_0_j21 hc]; done)))
theorem mz56_Mo_obeys_0_j24 {k : Nat} (hc : k = 56) : ∀ (v : fw_V) (a2 : Int32) (a3 : Int32) (x90 : Int32), (mf_Mo_obeys_0_j24 v a2 a3 x90) 0 0 k = v 0 0 k := by
  intro v a2 a3 x90
  unfold mf_Mo_obeys_0_j24
  (try dsimp only)
  all_goals ((repeat' split) <;> (first | with_reducible rfl | (simp only [fw_up_ne (c := 46) (i := 0) (k := 5) (c' := 0) (i' := 0) (k' := k) (by omega), msend_0k (i := 0) (k := k) (by omega) (by omega) (by omega), mz56_Mo_obeys_0_j21 hc]; done)))
theorem mz56_Mo_obeys_0_j20 {k : Nat} (hc : k = 56) : ∀ (v : fw_V) (a2 : Int32) (a3 : Int32), (mf_Mo_obeys_0_j20 v a2 a3) 0 0 k = v 0 0 k := by
  intro v a2 a3
  unfold mf_Mo_obeys_0_j20
  (try dsimp only)
  all_goals ((repeat' split) <;> (first | with_reducible rfl | (simp only [msend_0k (i := 0) (k := k) (by omega) (by omega) (by omega), mz56_Mo_obeys_0_j21 hc, mz56_Mo_obeys_0_j23 hc, mz56_Mo_obeys_0_j24 hc]; done)))
theorem mz56_Mo_obeys_0_j19 {k : Nat} (hc : k = 56) : ∀ (v : fw_V) (a2 : Int32) (a3 : Int32), (mf_Mo_obeys_0_j19 v a2 a3) 0 0 k = v 0 0 k := by
  intro v a2 a3
  unfold mf_Mo_obeys_0_j19
  (try dsimp only)
  all_goals ((repeat' split) <;> (first | with_reducible rfl | (simp only [msend_0k (i := 0) (k := k) (by omega) (by omega) (by omega), mz56_Mo_obeys_0_j20 hc]; done)))
theorem mz56_Mo_obeys_0_j25 {k : Nat} (hc : k = 56) : ∀ (v : fw_V) (a2 : Int32) (a3 : Int32), (mf_Mo_obeys_0_j25 v a2 a3) 0 0 k = v 0 0 k := by
  intro v a2 a3
  unfold mf_Mo_obeys_0_j25
  (try dsimp only)
  all_goals ((repeat' split) <;> (first | with_reducible rfl | (simp only [fw_up_ne (c := 46) (i := 0) (k := 4) (c' := 0) (i' := 0) (k' := k) (by omega), msend_0k (i := 0) (k := k) (by omega) (by omega) (by omega), mz56_Mo_obeys_0_j19 hc]; done)))
theorem mz56_Mo_obeys_0_j26 {k : Nat} (hc : k = 56) : ∀ (v : fw_V) (a2 : Int32) (a3 : Int32) (x90 : Int32), (mf_Mo_obeys_0_j26 v a2 a3 x90) 0 0 k = v 0 0 k := by
  intro v a2 a3 x90
  unfold mf_Mo_obeys_0_j26
  (try dsimp only)
  all_goals ((repeat' split) <;> (first | with_reducible rfl | (simp only [fw_up_ne (c := 46) (i := 0) (k := 4) (c' := 0) (i' := 0) (k' := k) (by omega), msend_0k (i := 0) (k := k) (by omega) (by omega) (by omega), mz56_Mo_obeys_0_j19 hc]; done)))
theorem mz56_Mo_obeys_0_j18 {k : Nat} (hc : k = 56) : ∀ (v : fw_V) (a2 : Int32) (a3 : Int32), (mf_Mo_obeys_0_j18 v a2 a3) 0 0 k = v 0 0 k := by
  intro v a2 a3
  unfold mf_Mo_obeys_0_j18
  (try dsimp only)
  all_goals ((repeat' split) <;> (first | with_reducible rfl | (simp only [msend_0k (i := 0) (k := k) (by omega) (by omega) (by omega), mz56_Mo_obeys_0_j19 hc, mz56_Mo_obeys_0_j25 hc, mz56_Mo_obeys_0_j26 hc]; done)))
theorem mz56_Mo_obeys_0_j17 {k : Nat} (hc : k = 56) : ∀ (v : fw_V) (a2 : Int32) (a3 : Int32), (mf_Mo_obeys_0_j17 v a2 a3) 0 0 k = v 0 0 k := by
  intro v a2 a3
  unfold mf_Mo_obeys_0_j17
  (try dsimp only)
  all_goals ((repeat' split) <;> (first | with_reducible rfl | (simp only [msend_0k (i := 0) (k := k) (by omega) (by omega) (by omega), mz56_Mo_obeys_0_j18 hc]; done)))
theorem mz56_Mo_obeys_0_j27 {k : Nat} (hc : k = 56) : ∀ (v : fw_V) (a2 : Int32) (a3 : Int32), (mf_Mo_obeys_0_j27 v a2 a3) 0 0 k = v 0 0 k := by
  intro v a2 a3
  unfold mf_Mo_obeys_0_j27
  (try dsimp only)
  all_goals ((repeat' split) <;> (first | with_reducible rfl | (simp only [fw_up_ne (c := 46) (i := 0) (k := 3) (c' := 0) (i' := 0) (k' := k) (by omega), msend_0k (i := 0) (k := k) (by omega) (by omega) (by omega), mz56_Mo_obeys_0_j17 hc]; done)))
theorem mz56_Mo_obeys_0_j28 {k : Nat} (hc : k = 56) : ∀ (v : fw_V) (a2 : Int32) (a3 : Int32) (x90 : Int32), (mf_Mo_obeys_0_j28 v a2 a3 x90) 0 0 k = v 0 0 k := by
  intro v a2 a3 x90
  unfold mf_Mo_obeys_0_j28
  (try dsimp only)
  all_goals ((repeat' split) <;> (first | with_reducible rfl | (simp only [fw_up_ne (c := 46) (i := 0) (k := 3) (c' := 0) (i' := 0) (k' := k) (by omega), msend_0k (i := 0) (k := k) (by omega) (by omega) (by omega), mz56_Mo_obeys_0_j17 hc]; done)))
theorem mz56_Mo_obeys_0_j16 {k : Nat} (hc : k = 56) : ∀ (v : fw_V) (a2 : Int32) (a3 : Int32), (mf_Mo_obeys_0_j16 v a2 a3) 0 0 k = v 0 0 k := by
  intro v a2 a3
  unfold mf_Mo_obeys_0_j16
  (try dsimp only)
  all_goals ((repeat' split) <;> (first | with_reducible rfl | (simp only [msend_0k (i := 0) (k := k) (by omega) (by omega) (by omega), mz56_Mo_obeys_0_j17 hc, mz56_Mo_obeys_0_j27 hc, mz56_Mo_obeys_0_j28 hc]; done)))
theorem mz56_Mo_obeys_0_j15 {k : Nat} (hc : k = 56) : ∀ (v : fw_V) (a2 : Int32) (a3 : Int32), (mf_Mo_obeys_0_j15 v a2 a3) 0 0 k = v 0 0 k := by
  intro v a2 a3
  unfold mf_Mo_obeys_0_j15
  (try dsimp only)
  all_goals ((repeat' split) <;> (first | with_reducible rfl | (simp only [msend_0k (i := 0) (k := k) (by omega) (by omega) (by omega), mz56_Mo_obeys_0_j16 hc]; done)))
theorem mz56_Mo_obeys_0_j29 {k : Nat} (hc : k = 56) : ∀ (v : fw_V) (a2 : Int32) (a3 : Int32), (mf_Mo_obeys_0_j29 v a2 a3) 0 0 k = v 0 0 k := by
  intro v a2 a3
  unfold mf_Mo_obeys_0_j29
  (try dsimp only)
  all_goals ((repeat' split) <;> (first | with_reducible rfl | (simp only [fw_up_ne (c := 46) (i := 0) (k := 2) (c' := 0) (i' := 0) (k' := k) (by omega), msend_0k (i := 0) (k := k) (by omega) (by omega) (by omega), mz56_Mo_obeys_0_j15 hc]; done)))
theorem mz56_Mo_obeys_0_j30 {k : Nat} (hc : k = 56) : ∀ (v : fw_V) (a2 : Int32) (a3 : Int32) (x90 : Int32), (mf_Mo_obeys_0_j30 v a2 a3 x90) 0 0 k = v 0 0 k := by
  intro v a2 a3 x90
  unfold mf_Mo_obeys_0_j30
  (try dsimp only)
  all_goals ((repeat' split) <;> (first | with_reducible rfl | (simp only [fw_up_ne (c := 46) (i := 0) (k := 2) (c' := 0) (i' := 0) (k' := k) (by omega), msend_0k (i := 0) (k := k) (by omega) (by omega) (by omega), mz56_Mo_obeys_0_j15 hc]; done)))
theorem mz56_Mo_obeys_0_j14 {k : Nat} (hc : k = 56) : ∀ (v : fw_V) (a2 : Int32) (a3 : Int32), (mf_Mo_obeys_0_j14 v a2 a3) 0 0 k = v 0 0 k := by
  intro v a2 a3
  unfold mf_Mo_obeys_0_j14
  (try dsimp only)
  all_goals ((repeat' split) <;> (first | with_reducible rfl | (simp only [msend_0k (i := 0) (k := k) (by omega) (by omega) (by omega), mz56_Mo_obeys_0_j15 hc, mz56_Mo_obeys_0_j29 hc, mz56_Mo_obeys_0_j30 hc]; done)))
theorem mz56_Mo_obeys_0_j13 {k : Nat} (hc : k = 56) : ∀ (v : fw_V) (a2 : Int32) (a3 : Int32), (mf_Mo_obeys_0_j13 v a2 a3) 0 0 k = v 0 0 k := by
  intro v a2 a3
  unfold mf_Mo_obeys_0_j13
  (try dsimp only)
  all_goals ((repeat' split) <;> (first | with_reducible rfl | (simp only [msend_0k (i := 0) (k := k) (by omega) (by omega) (by omega), mz56_Mo_obeys_0_j14 hc]; done)))
theorem mz56_Mo_obeys_0_j31 {k : Nat} (hc : k = 56) : ∀ (v : fw_V) (a2 : Int32) (a3 : Int32), (mf_Mo_obeys_0_j31 v a2 a3) 0 0 k = v 0 0 k := by
  intro v a2 a3
  unfold mf_Mo_obeys_0_j31
  (try dsimp only)
  all_goals ((repeat' split) <;> (first | with_reducible rfl | (simp only [fw_up_ne (c := 46) (i := 0) (k := 1) (c' := 0) (i' := 0) (k' := k) (by omega), msend_0k (i := 0) (k := k) (by omega) (by omega) (by omega), mz56_Mo_obeys_0_j13 hc]; done)))
theorem mz56_Mo_obeys_0_j32 {k : Nat} (hc : k = 56) : ∀ (v : fw_V) (a2 : Int32) (a3 : Int32) (x90 : Int32), (mf_Mo_obeys_0_j32 v a2 a3 x90) 0 0 k = v 0 0 k := by
  intro v a2 a3 x90
  unfold mf_Mo_obeys_0_j32
  (try dsimp only)
  all_goals ((repeat' split) <;> (first | with_reducible rfl | (simp only [fw_up_ne (c := 46) (i := 0) (k := 1) (c' := 0) (i' := 0) (k' := k) (by omega), msend_0k (i := 0) (k := k) (by omega) (by omega) (by omega), mz56_Mo_obeys_0_j13 hc]; done)))
theorem mz56_Mo_obeys_0_j12 {k : Nat} (hc : k = 56) : ∀ (v : fw_V) (a2 : Int32) (a3 : Int32), (mf_Mo_obeys_0_j12 v a2 a3) 0 0 k = v 0 0 k := by
  intro v a2 a3
  unfold mf_Mo_obeys_0_j12
  (try dsimp only)
  all_goals ((repeat' split) <;> (first | with_reducible rfl | (simp only [msend_0k (i := 0) (k := k) (by omega) (by omega) (by omega), mz56_Mo_obeys_0_j13 hc, mz56_Mo_obeys_0_j31 hc, mz56_Mo_obeys_0_j32 hc]; done)))
theorem mz56_Mo_obeys_0_j11 {k : Nat} (hc : k = 56) : ∀ (v : fw_V) (a2 : Int32) (a3 : Int32), (mf_Mo_obeys_0_j11 v a2 a3) 0 0 k = v 0 0 k := by
  intro v a2 a3
  unfold mf_Mo_obeys_0_j11
  (try dsimp only)
  all_goals ((repeat' split) <;> (first | with_reducible rfl | (simp only [msend_0k (i := 0) (k := k) (by omega) (by omega) (by omega), mz56_Mo_obeys_0_j12 hc]; done)))
theorem mz56_Mo_obeys_0_j33 {k : Nat} (hc : k = 56) : ∀ (v : fw_V) (a2 : Int32) (a3 : Int32), (mf_Mo_obeys_0_j33 v a2 a3) 0 0 k = v 0 0 k := by
  intro v a2 a3
  unfold mf_Mo_obeys_0_j33
  (try dsimp only)
  all_goals ((repeat' split) <;> (first | with_reducible rfl | (simp only [fw_up_ne (c := 46) (i := 0) (k := 0) (c' := 0) (i' := 0) (k' := k) (by omega), msend_0k (i := 0) (k := k) (by omega) (by omega) (by omega), mz56_Mo_obeys_0_j11 hc]; done)))
theorem mz56_Mo_obeys_0_j34 {k : Nat} (hc : k = 56) : ∀ (v : fw_V) (a2 : Int32) (a3 : Int32) (x90 : Int32), (mf_Mo_obeys_0_j34 v a2 a3 x90) 0 0 k = v 0 0 k := by
  intro v a2 a3 x90
  unfold mf_Mo_obeys_0_j34
  (try dsimp only)
  all_goals ((repeat' split) <;> (first | with_reducible rfl | (simp only [fw_up_ne (c := 46) (i := 0) (k := 0) (c' := 0) (i' := 0) (k' := k) (by omega), msend_0k (i := 0) (k := k) (by omega) (by omega) (by omega), mz56_Mo_obeys_0_j11 hc]; done)))
theorem mz56_Mo_obeys_0_j10 {k : Nat} (hc : k = 56) : ∀ (v : fw_V) (a2 : Int32) (a3 : Int32), (mf_Mo_obeys_0_j10 v a2 a3) 0 0 k = v 0 0 k := by
  intro v a2 a3
  unfold mf_Mo_obeys_0_j10
  (try dsimp only)
  all_goals ((repeat' split) <;> (first | with_reducible rfl | (simp only [msend_0k (i := 0) (k := k) (by omega) (by omega) (by omega), mz56_Mo_obeys_0_j11 hc, mz56_Mo_obeys_0_j33 hc, mz56_Mo_obeys_0_j34 hc]; done)))
theorem mz56_Mo_obeys_0_j60 {k : Nat} (hc : k = 56) : ∀ (v0 : fw_V) (a2 : Int32) (a3 : Int32), (mf_Mo_obeys_0_j60 v0 a2 a3) 0 0 k = v0 0 0 k := by
  intro v0 a2 a3
  unfold mf_Mo_obeys_0_j60
  (try dsimp only)
  all_goals ((repeat' split) <;> (first | with_reducible rfl | (simp only [fw_up_ne (c := 35) (i := 0) (k := 0) (c' := 0) (i' := 0) (k' := k) (by omega), fw_up_ne (c := 32) (i := 0) (k := 0) (c' := 0) (i' := 0) (k' := k) (by omega), msend_0k (i := 0) (k := k) (by omega) (by omega) (by omega), mz56_Mo_obeys_0_j61 hc, mz56_Mo_obeys_0_j10 hc]; done)))
theorem mz56_Mo_obeys_0_j59 {k : Nat} (hc : k = 56) : ∀ (v0 : fw_V) (a2 : Int32) (a3 : Int32), (mf_Mo_obeys_0_j59 v0 a2 a3) 0 0 k = v0 0 0 k := by
  intro v0 a2 a3
  unfold mf_Mo_obeys_0_j59
  (try dsimp only)
  all_goals ((repeat' split) <;> (first | with_reducible rfl | (simp only [fw_up_ne (c := 28) (i := 0) (k := 0) (c' := 0) (i' := 0) (k' := k) (by omega), fw_up_ne (c := 32) (i := 0) (k := 0) (c' := 0) (i' := 0) (k' := k) (by omega), fw_up_ne (c := 34) (i := 0) (k := 0) (c' := 0) (i' := 0) (k' := k) (by omega), fw_up_ne (c := 35) (i := 0) (k := 0) (c' := 0) (i' := 0) (k' := k) (by omega), fw_up_ne (c := 37) (i := 0) (k := 0) (c' := 0) (i' := 0) (k' := k) (by omega), fw_up_ne (c := 36) (i := 0) (k := 0) (c' := 0) (i' := 0) (k' := k) (by omega), fw_up_ne (c := 39) (i := 0) (k := 0) (c' := 0) (i' := 0) (k' := k) (by omega), msend_0k (i := 0) (k := k) (by omega) (by omega) (by omega), mz56_Mo_obeys_0_j60 hc]; done)))
theorem mz56_Mo_obeys_0_j58 {k : Nat} (hc : k = 56) : ∀ (v0 : fw_V) (a2 : Int32) (a3 : Int32), (mf_Mo_obeys_0_j58 v0 a2 a3) 0 0 k = v0 0 0 k := by
  intro v0 a2 a3
  unfold mf_Mo_obeys_0_j58
  (try dsimp only)
  all_goals ((repeat' split) <;> (first | with_reducible rfl | (simp only [msend_0k (i := 0) (k := k) (by omega) (by omega) (by omega), mz56_Mo_reply_0 hc, mz56_Mo_obeys_0_j59 hc]; done)))
theorem mz56_Mo_obeys_0_j57 {k : Nat} (hc : k = 56) : ∀ (v0 : fw_V) (a2 : Int32) (a3 : Int32), (mf_Mo_obeys_0_j57 v0 a2 a3) 0 0 k = v0 0 0 k := by
  intro v0 a2 a3
  unfold mf_Mo_obeys_0_j57
  (try dsimp only)
  all_goals ((repeat' split) <;> (first | with_reducible rfl | (simp only [msend_0k (i := 0) (k := k) (by omega) (by omega) (by omega), mz56_Mo_obeys_0_j35 hc, mz56_Mo_obeys_0_j58 hc]; done)))
theorem mz56_Mo_obeys_0_j5 {k : Nat} (hc : k = 56) : ∀ (v0 : fw_V) (a2 : Int32) (a3 : Int32), (mf_Mo_obeys_0_j5 v0 a2 a3) 0 0 k = v0 0 0 k := by
  intro v0 a2 a3
  unfold mf_Mo_obeys_0_j5
  (try dsimp only)
  all_goals ((repeat' split) <;> (first | with_reducible rfl | (simp only [fw_up_ne (c := 36) (i := 0) (k := 0) (c' := 0) (i' := 0) (k' := k) (by omega), fw_up_ne (c := 37) (i := 0) (k := 0) (c' := 0) (i' := 0) (k' := k) (by omega), msend_0k (i := 0) (k := k) (by omega) (by omega) (by omega), mz56_Mo_rest_0 hc, mz56_Mo_obeys_0_j6 hc]; done)))
theorem mz56_Mo_obeys_0_j4 {k : Nat} (hc : k = 56) : ∀ (v0 : fw_V) (a2 : Int32) (a3 : Int32), (mf_Mo_obeys_0_j4 v0 a2 a3) 0 0 k = v0 0 0 k := by
  intro v0 a2 a3
  unfold mf_Mo_obeys_0_j4
  (try dsimp only)
  all_goals ((repeat' split) <;> (first | with_reducible rfl | (simp only [fw_up_ne (c := 35) (i := 0) (k := 0) (c' := 0) (i' := 0) (k' := k) (by omega), fw_up_ne (c := 32) (i := 0) (k := 0) (c' := 0) (i' := 0) (k' := k) (by omega), msend_0k (i := 0) (k := k) (by omega) (by omega) (by omega), mz56_Mo_obeys_0_j5 hc, mz56_Mo_obeys_0_j10 hc]; done)))
theorem mz56_Mo_obeys_0_j3 {k : Nat} (hc : k = 56) : ∀ (v0 : fw_V) (a2 : Int32) (a3 : Int32), (mf_Mo_obeys_0_j3 v0 a2 a3) 0 0 k = v0 0 0 k := by
  intro v0 a2 a3
  unfold mf_Mo_obeys_0_j3
  (try dsimp only)
  all_goals ((repeat' split) <;> (first | with_reducible rfl | (simp only [fw_up_ne (c := 28) (i := 0) (k := 0) (c' := 0) (i' := 0) (k' := k) (by omega), fw_up_ne (c := 32) (i := 0) (k := 0) (c' := 0) (i' := 0) (k' := k) (by omega), fw_up_ne (c := 34) (i := 0) (k := 0) (c' := 0) (i' := 0) (k' := k) (by omega), fw_up_ne (c := 35) (i := 0) (k := 0) (c' := 0) (i' := 0) (k' := k) (by omega), fw_up_ne (c := 37) (i := 0) (k := 0) (c' := 0) (i' := 0) (k' := k) (by omega), fw_up_ne (c := 36) (i := 0) (k := 0) (c' := 0) (i' := 0) (k' := k) (by omega), fw_up_ne (c := 39) (i := 0) (k := 0) (c' := 0) (i' := 0) (k' := k) (by omega), msend_0k (i := 0) (k := k) (by omega) (by omega) (by omega), mz56_Mo_obeys_0_j4 hc]; done)))
theorem mz56_Mo_obeys_0_j2 {k : Nat} (hc : k = 56) : ∀ (v0 : fw_V) (a2 : Int32) (a3 : Int32), (mf_Mo_obeys_0_j2 v0 a2 a3) 0 0 k = v0 0 0 k := by
  intro v0 a2 a3
  unfold mf_Mo_obeys_0_j2
  (try dsimp only)
  all_goals ((repeat' split) <;> (first | with_reducible rfl | (simp only [msend_0k (i := 0) (k := k) (by omega) (by omega) (by omega), mz56_Mo_reply_0 hc, mz56_Mo_obeys_0_j3 hc]; done)))
theorem mz56_Mo_obeys_0_j1 {k : Nat} (hc : k = 56) : ∀ (v0 : fw_V) (a2 : Int32) (a3 : Int32), (mf_Mo_obeys_0_j1 v0 a2 a3) 0 0 k = v0 0 0 k := by
  intro v0 a2 a3
  unfold mf_Mo_obeys_0_j1
  (try dsimp only)
  all_goals ((repeat' split) <;> (first | with_reducible rfl | (simp only [msend_0k (i := 0) (k := k) (by omega) (by omega) (by omega), mz56_Mo_obeys_0_j35 hc, mz56_Mo_obeys_0_j2 hc]; done)))
theorem mz56_Mo_obeys_0 {k : Nat} (hc : k = 56) : ∀ (v0 : fw_V) (a2 : Int32) (a3 : Int32), (mf_Mo_obeys_0 v0 a2 a3) 0 0 k = v0 0 0 k := by
  intro v0 a2 a3
  unfold mf_Mo_obeys_0
  (try dsimp only)
  all_goals ((repeat' split) <;> (first | with_reducible rfl | (simp only [fw_up_c (c := 44) (c' := 0) (by decide), fw_up_ne (c := 32) (i := 0) (k := 0) (c' := 0) (i' := 0) (k' := k) (by omega), msend_0k (i := 0) (k := k) (by omega) (by omega) (by omega), mz56_Mo_reply_0 hc, mz56_Mo_obeys_0_j57 hc, mz56_Mo_obeys_0_j1 hc]; done)))
theorem mz56_Mo_arrives_0 {k : Nat} (hc : k = 56) : ∀ (v0 : fw_V) (a2 : Int32) (a3 : Int32) (a4 : Int32), (mf_Mo_arrives_0 v0 a2 a3 a4) 0 0 k = v0 0 0 k := by
  intro v0 a2 a3 a4
  unfold mf_Mo_arrives_0
  (try dsimp only)
  all_goals ((repeat' split) <;> (first | with_reducible rfl | (simp only [fw_up_ne (c := 9) (i := 0) (k := 0) (c' := 0) (i' := 0) (k' := k) (by omega), msend_0k (i := 0) (k := k) (by omega) (by omega) (by omega), mz56_Mo_connect_0 hc, mz56_Mo_obeys_0 hc]; done)))
theorem mz56_Mo_alarm_0_j2 {k : Nat} (hc : k = 56) : ∀ (v : fw_V), (mf_Mo_alarm_0_j2 v) 0 0 k = v 0 0 k := by
  intro v
  unfold mf_Mo_alarm_0_j2
  (try dsimp only)
  all_goals ((repeat' split) <;> (first | with_reducible rfl | (simp only [fw_up_ne (c := 38) (i := 0) (k := 0) (c' := 0) (i' := 0) (k' := k) (by omega), fw_up_ne (c := 9) (i := 0) (k := 0) (c' := 0) (i' := 0) (k' := k) (by omega), fw_up_ne (c := 9) (i := 0) (k := 1) (c' := 0) (i' := 0) (k' := k) (by omega), msend_0k (i := 0) (k := k) (by omega) (by omega) (by omega), mz56_Mo_reply_0 hc]; done)))
theorem mz56_Mo_alarm_0_j3 {k : Nat} (hc : k = 56) : ∀ (v0 : fw_V), (mf_Mo_alarm_0_j3 v0) 0 0 k = v0 0 0 k := by
  intro v0
  unfold mf_Mo_alarm_0_j3
  (try dsimp only)
  all_goals ((repeat' split) <;> (first | with_reducible rfl | (simp only [fw_up_ne (c := 39) (i := 0) (k := 0) (c' := 0) (i' := 0) (k' := k) (by omega), fw_up_ne (c := 36) (i := 0) (k := 0) (c' := 0) (i' := 0) (k' := k) (by omega), msend_0k (i := 0) (k := k) (by omega) (by omega) (by omega), mz56_Mo_alarm_0_j2 hc]; done)))
theorem mz56_Mo_alarm_0_j1 {k : Nat} (hc : k = 56) : ∀ (v0 : fw_V), (mf_Mo_alarm_0_j1 v0) 0 0 k = v0 0 0 k := by
  intro v0
  unfold mf_Mo_alarm_0_j1
  (try dsimp only)
  all_goals ((repeat' split) <;> (first | with_reducible rfl | (simp only [fw_up_ne (c := 39) (i := 0) (k := 0) (c' := 0) (i' := 0) (k' := k) (by omega), fw_up_ne (c := 36) (i := 0) (k := 0) (c' := 0) (i' := 0) (k' := k) (by omega), msend_0k (i := 0) (k := k) (by omega) (by omega) (by omega), mz56_Mo_alarm_0_j2 hc]; done)))
theorem mz56_Mo_alarm_0 {k : Nat} (hc : k = 56) : ∀ (v0 : fw_V), (mf_Mo_alarm_0 v0) 0 0 k = v0 0 0 k := by
  intro v0
  unfold mf_Mo_alarm_0
  (try dsimp only)
  all_goals ((repeat' split) <;> (first | with_reducible rfl | (simp only [fw_up_ne (c := 38) (i := 0) (k := 0) (c' := 0) (i' := 0) (k' := k) (by omega), msend_0k (i := 0) (k := k) (by omega) (by omega) (by omega), mz56_Mo_alarm_0_j3 hc, mz56_Mo_alarm_0_j1 hc, mz56_Mo_alarm_0_j2 hc]; done)))
theorem mz56_Mo_beat_0_j25 {k : Nat} (hc : k = 56) : ∀ (v : fw_V), (mf_Mo_beat_0_j25 v) 0 0 k = v 0 0 k := by
  intro v
  unfold mf_Mo_beat_0_j25
  (try dsimp only)
  all_goals ((repeat' split) <;> (first | with_reducible rfl | (simp only [fw_up_ne (c := 21) (i := 0) (k := 0) (c' := 0) (i' := 0) (k' := k) (by omega), msend_0k (i := 0) (k := k) (by omega) (by omega) (by omega)]; done)))
theorem mz56_Mo_beat_0_j24 {k : Nat} (hc : k = 56) : ∀ (v : fw_V), (mf_Mo_beat_0_j24 v) 0 0 k = v 0 0 k := by
  intro v
  unfold mf_Mo_beat_0_j24
  (try dsimp only)
  all_goals ((repeat' split) <;> (first | with_reducible rfl | (simp only [fw_up_ne (c := 9) (i := 0) (k := 5) (c' := 0) (i' := 0) (k' := k) (by omega), msend_0k (i := 0) (k := k) (by omega) (by omega) (by omega), mz56_Mo_beat_0_j25 hc]; done)))
theorem mz56_Mo_beat_0_j23 {k : Nat} (hc : k = 56) : ∀ (v : fw_V), (mf_Mo_beat_0_j23 v) 0 0 k = v 0 0 k := by
  intro v
  unfold mf_Mo_beat_0_j23
  (try dsimp only)
  all_goals ((repeat' split) <;> (first | with_reducible rfl | (simp only [msend_0k (i := 0) (k := k) (by omega) (by omega) (by omega), mz56_Mo_beat_0_j24 hc]; done)))
theorem mz56_Mo_beat_0_j22 {k : Nat} (hc : k = 56) : ∀ (v : fw_V), (mf_Mo_beat_0_j22 v) 0 0 k = v 0 0 k := by
  intro v
  unfold mf_Mo_beat_0_j22
  (try dsimp only)
  all_goals ((repeat' split) <;> (first | with_reducible rfl | (simp only [msend_0k (i := 0) (k := k) (by omega) (by omega) (by omega), mz56_Mo_beat_0_j23 hc]; done)))
theorem mz56_Mo_beat_0_j27 {k : Nat} (hc : k = 56) : ∀ (v : fw_V) (x90 : Int32), (mf_Mo_beat_0_j27 v x90) 0 0 k = v 0 0 k := by
  intro v x90
  unfold mf_Mo_beat_0_j27
  (try dsimp only)
  all_goals ((repeat' split) <;> (first | with_reducible rfl | (simp only [fw_up_ne (c := 9) (i := 0) (k := 5) (c' := 0) (i' := 0) (k' := k) (by omega), msend_0k (i := 0) (k := k) (by omega) (by omega) (by omega), mz56_Mo_beat_0_j25 hc]; done)))
theorem mz56_Mo_beat_0_j26 {k : Nat} (hc : k = 56) : ∀ (v : fw_V), (mf_Mo_beat_0_j26 v) 0 0 k = v 0 0 k := by
  intro v
  unfold mf_Mo_beat_0_j26
  (try dsimp only)
  all_goals ((repeat' split) <;> (first | with_reducible rfl | (simp only [msend_0k (i := 0) (k := k) (by omega) (by omega) (by omega), mz56_Mo_beat_0_j27 hc]; done)))
theorem mz56_Mo_beat_0_j21 {k : Nat} (hc : k = 56) : ∀ (v : fw_V), (mf_Mo_beat_0_j21 v) 0 0 k = v 0 0 k := by
  intro v
  unfold mf_Mo_beat_0_j21
  (try dsimp only)
  all_goals ((repeat' split) <;> (first | with_reducible rfl | (simp only [msend_0k (i := 0) (k := k) (by omega) (by omega) (by omega), mz56_Mo_beat_0_j22 hc, mz56_Mo_beat_0_j26 hc]; done)))
theorem mz56_Mo_beat_0_j20 {k : Nat} (hc : k = 56) : ∀ (v : fw_V), (mf_Mo_beat_0_j20 v) 0 0 k = v 0 0 k := by
  intro v
  unfold mf_Mo_beat_0_j20
  (try dsimp only)
  all_goals ((repeat' split) <;> (first | with_reducible rfl | (simp only [fw_up_ne (c := 9) (i := 0) (k := 4) (c' := 0) (i' := 0) (k' := k) (by omega), msend_0k (i := 0) (k := k) (by omega) (by omega) (by omega), mz56_Mo_beat_0_j21 hc]; done)))
theorem mz56_Mo_beat_0_j19 {k : Nat} (hc : k = 56) : ∀ (v : fw_V), (mf_Mo_beat_0_j19 v) 0 0 k = v 0 0 k := by
  intro v
  unfold mf_Mo_beat_0_j19
  (try dsimp only)
  all_goals ((repeat' split) <;> (first | with_reducible rfl | (simp only [msend_0k (i := 0) (k := k) (by omega) (by omega) (by omega), mz56_Mo_beat_0_j20 hc]; done)))
theorem mz56_Mo_beat_0_j18 {k : Nat} (hc : k = 56) : ∀ (v : fw_V), (mf_Mo_beat_0_j18 v) 0 0 k = v 0 0 k := by
  intro v
  unfold mf_Mo_beat_0_j18
  (try dsimp only)
  all_goals ((repeat' split) <;> (first | with_reducible rfl | (simp only [msend_0k (i := 0) (k := k) (by omega) (by omega) (by omega), mz56_Mo_beat_0_j19 hc]; done)))
theorem mz56_Mo_beat_0_j29 {k : Nat} (hc : k = 56) : ∀ (v : fw_V) (x90 : Int32), (mf_Mo_beat_0_j29 v x90) 0 0 k = v 0 0 k := by
  intro v x90
  unfold mf_Mo_beat_0_j29
  (try dsimp only)
  all_goals ((repeat' split) <;> (first | with_reducible rfl | (simp only [fw_up_ne (c := 9) (i := 0) (k := 4) (c' := 0) (i' := 0) (k' := k) (by omega), msend_0k (i := 0) (k := k) (by omega) (by omega) (by omega), mz56_Mo_beat_0_j21 hc]; done)))
theorem mz56_Mo_beat_0_j28 {k : Nat} (hc : k = 56) : ∀ (v : fw_V), (mf_Mo_beat_0_j28 v) 0 0 k = v 0 0 k := by
  intro v
  unfold mf_Mo_beat_0_j28
  (try dsimp only)
  all_goals ((repeat' split) <;> (first | with_reducible rfl | (simp only [msend_0k (i := 0) (k := k) (by omega) (by omega) (by omega), mz56_Mo_beat_0_j29 hc]; done)))
theorem mz56_Mo_beat_0_j17 {k : Nat} (hc : k = 56) : ∀ (v : fw_V), (mf_Mo_beat_0_j17 v) 0 0 k = v 0 0 k := by
  intro v
  unfold mf_Mo_beat_0_j17
  (try dsimp only)
  all_goals ((repeat' split) <;> (first | with_reducible rfl | (simp only [msend_0k (i := 0) (k := k) (by omega) (by omega) (by omega), mz56_Mo_beat_0_j18 hc, mz56_Mo_beat_0_j28 hc]; done)))
theorem mz56_Mo_beat_0_j16 {k : Nat} (hc : k = 56) : ∀ (v : fw_V), (mf_Mo_beat_0_j16 v) 0 0 k = v 0 0 k := by
  intro v
  unfold mf_Mo_beat_0_j16
  (try dsimp only)
  all_goals ((repeat' split) <;> (first | with_reducible rfl | (simp only [fw_up_ne (c := 9) (i := 0) (k := 3) (c' := 0) (i' := 0) (k' := k) (by omega), msend_0k (i := 0) (k := k) (by omega) (by omega) (by omega), mz56_Mo_beat_0_j17 hc]; done)))
theorem mz56_Mo_beat_0_j15 {k : Nat} (hc : k = 56) : ∀ (v : fw_V), (mf_Mo_beat_0_j15 v) 0 0 k = v 0 0 k := by
  intro v
  unfold mf_Mo_beat_0_j15
  (try dsimp only)
  all_goals ((repeat' split) <;> (first | with_reducible rfl | (simp only [msend_0k (i := 0) (k := k) (by omega) (by omega) (by omega), mz56_Mo_beat_0_j16 hc]; done)))
theorem mz56_Mo_beat_0_j14 {k : Nat} (hc : k = 56) : ∀ (v : fw_V), (mf_Mo_beat_0_j14 v) 0 0 k = v 0 0 k := by
  intro v
  unfold mf_Mo_beat_0_j14
  (try dsimp only)
  all_goals ((repeat' split) <;> (first | with_reducible rfl | (simp only [msend_0k (i := 0) (k := k) (by omega) (by omega) (by omega), mz56_Mo_beat_0_j15 hc]; done)))
theorem mz56_Mo_beat_0_j31 {k : Nat} (hc : k = 56) : ∀ (v : fw_V) (x90 : Int32), (mf_Mo_beat_0_j31 v x90) 0 0 k = v 0 0 k := by
  intro v x90
  unfold mf_Mo_beat_0_j31
  (try dsimp only)
  all_goals ((repeat' split) <;> (first | with_reducible rfl | (simp only [fw_up_ne (c := 9) (i := 0) (k := 3) (c' := 0) (i' := 0) (k' := k) (by omega), msend_0k (i := 0) (k := k) (by omega) (by omega) (by omega), mz56_Mo_beat_0_j17 hc]; done)))
theorem mz56_Mo_beat_0_j30 {k : Nat} (hc : k = 56) : ∀ (v : fw_V), (mf_Mo_beat_0_j30 v) 0 0 k = v 0 0 k := by
  intro v
  unfold mf_Mo_beat_0_j30
  (try dsimp only)
  all_goals ((repeat' split) <;> (first | with_reducible rfl | (simp only [msend_0k (i := 0) (k := k) (by omega) (by omega) (by omega), mz56_Mo_beat_0_j31 hc]; done)))
theorem mz56_Mo_beat_0_j13 {k : Nat} (hc : k = 56) : ∀ (v : fw_V), (mf_Mo_beat_0_j13 v) 0 0 k = v 0 0 k := by
  intro v
  unfold mf_Mo_beat_0_j13
  (try dsimp only)
  all_goals ((repeat' split) <;> (first | with_reducible rfl | (simp only [msend_0k (i := 0) (k := k) (by omega) (by omega) (by omega), mz56_Mo_beat_0_j14 hc, mz56_Mo_beat_0_j30 hc]; done)))
theorem mz56_Mo_beat_0_j12 {k : Nat} (hc : k = 56) : ∀ (v : fw_V), (mf_Mo_beat_0_j12 v) 0 0 k = v 0 0 k := by
  intro v
  unfold mf_Mo_beat_0_j12
  (try dsimp only)
  all_goals ((repeat' split) <;> (first | with_reducible rfl | (simp only [fw_up_ne (c := 9) (i := 0) (k := 2) (c' := 0) (i' := 0) (k' := k) (by omega), msend_0k (i := 0) (k := k) (by omega) (by omega) (by omega), mz56_Mo_beat_0_j13 hc]; done)))
theorem mz56_Mo_beat_0_j11 {k : Nat} (hc : k = 56) : ∀ (v : fw_V), (mf_Mo_beat_0_j11 v) 0 0 k = v 0 0 k := by
  intro v
  unfold mf_Mo_beat_0_j11
  (try dsimp only)
  all_goals ((repeat' split) <;> (first | with_reducible rfl | (simp only [msend_0k (i := 0) (k := k) (by omega) (by omega) (by omega), mz56_Mo_beat_0_j12 hc]; done)))
theorem mz56_Mo_beat_0_j10 {k : Nat} (hc : k = 56) : ∀ (v : fw_V), (mf_Mo_beat_0_j10 v) 0 0 k = v 0 0 k := by
  intro v
  unfold mf_Mo_beat_0_j10
  (try dsimp only)
  all_goals ((repeat' split) <;> (first | with_reducible rfl | (simp only [msend_0k (i := 0) (k := k) (by omega) (by omega) (by omega), mz56_Mo_beat_0_j11 hc]; done)))
theorem mz56_Mo_beat_0_j33 {k : Nat} (hc : k = 56) : ∀ (v : fw_V) (x90 : Int32), (mf_Mo_beat_0_j33 v x90) 0 0 k = v 0 0 k := by
  intro v x90
  unfold mf_Mo_beat_0_j33
  (try dsimp only)
  all_goals ((repeat' split) <;> (first | with_reducible rfl | (simp only [fw_up_ne (c := 9) (i := 0) (k := 2) (c' := 0) (i' := 0) (k' := k) (by omega), msend_0k (i := 0) (k := k) (by omega) (by omega) (by omega), mz56_Mo_beat_0_j13 hc]; done)))
theorem mz56_Mo_beat_0_j32 {k : Nat} (hc : k = 56) : ∀ (v : fw_V), (mf_Mo_beat_0_j32 v) 0 0 k = v 0 0 k := by
  intro v
  unfold mf_Mo_beat_0_j32
  (try dsimp only)
  all_goals ((repeat' split) <;> (first | with_reducible rfl | (simp only [msend_0k (i := 0) (k := k) (by omega) (by omega) (by omega), mz56_Mo_beat_0_j33 hc]; done)))
theorem mz56_Mo_beat_0_j9 {k : Nat} (hc : k = 56) : ∀ (v : fw_V), (mf_Mo_beat_0_j9 v) 0 0 k = v 0 0 k := by
  intro v
  unfold mf_Mo_beat_0_j9
  (try dsimp only)
  all_goals ((repeat' split) <;> (first | with_reducible rfl | (simp only [msend_0k (i := 0) (k := k) (by omega) (by omega) (by omega), mz56_Mo_beat_0_j10 hc, mz56_Mo_beat_0_j32 hc]; done)))
theorem mz56_Mo_beat_0_j8 {k : Nat} (hc : k = 56) : ∀ (v : fw_V), (mf_Mo_beat_0_j8 v) 0 0 k = v 0 0 k := by
  intro v
  unfold mf_Mo_beat_0_j8
  (try dsimp only)
  all_goals ((repeat' split) <;> (first | with_reducible rfl | (simp only [fw_up_ne (c := 9) (i := 0) (k := 1) (c' := 0) (i' := 0) (k' := k) (by omega), msend_0k (i := 0) (k := k) (by omega) (by omega) (by omega), mz56_Mo_beat_0_j9 hc]; done)))
theorem mz56_Mo_beat_0_j7 {k : Nat} (hc : k = 56) : ∀ (v : fw_V), (mf_Mo_beat_0_j7 v) 0 0 k = v 0 0 k := by
  intro v
  unfold mf_Mo_beat_0_j7
  (try dsimp only)
  all_goals ((repeat' split) <;> (first | with_reducible rfl | (simp only [msend_0k (i := 0) (k := k) (by omega) (by omega) (by omega), mz56_Mo_beat_0_j8 hc]; done)))
theorem mz56_Mo_beat_0_j6 {k : Nat} (hc : k = 56) : ∀ (v : fw_V), (mf_Mo_beat_0_j6 v) 0 0 k = v 0 0 k := by
  intro v
  unfold mf_Mo_beat_0_j6
  (try dsimp only)
  all_goals ((repeat' split) <;> (first | with_reducible rfl | (simp only [msend_0k (i := 0) (k := k) (by omega) (by omega) (by omega), mz56_Mo_beat_0_j7 hc]; done)))
theorem mz56_Mo_beat_0_j35 {k : Nat} (hc : k = 56) : ∀ (v : fw_V) (x90 : Int32), (mf_Mo_beat_0_j35 v x90) 0 0 k = v 0 0 k := by
  intro v x90
  unfold mf_Mo_beat_0_j35
  (try dsimp only)
  all_goals ((repeat' split) <;> (first | with_reducible rfl | (simp only [fw_up_ne (c := 9) (i := 0) (k := 1) (c' := 0) (i' := 0) (k' := k) (by omega), msend_0k (i := 0) (k := k) (by omega) (by omega) (by omega), mz56_Mo_beat_0_j9 hc]; done)))
theorem mz56_Mo_beat_0_j34 {k : Nat} (hc : k = 56) : ∀ (v : fw_V), (mf_Mo_beat_0_j34 v) 0 0 k = v 0 0 k := by
  intro v
  unfold mf_Mo_beat_0_j34
  (try dsimp only)
  all_goals ((repeat' split) <;> (first | with_reducible rfl | (simp only [msend_0k (i := 0) (k := k) (by omega) (by omega) (by omega), mz56_Mo_beat_0_j35 hc]; done)))
theorem mz56_Mo_beat_0_j5 {k : Nat} (hc : k = 56) : ∀ (v : fw_V), (mf_Mo_beat_0_j5 v) 0 0 k = v 0 0 k := by
  intro v
  unfold mf_Mo_beat_0_j5
  (try dsimp only)
  all_goals ((repeat' split) <;> (first | with_reducible rfl | (simp only [msend_0k (i := 0) (k := k) (by omega) (by omega) (by omega), mz56_Mo_beat_0_j6 hc, mz56_Mo_beat_0_j34 hc]; done)))
theorem mz56_Mo_beat_0_j4 {k : Nat} (hc : k = 56) : ∀ (v : fw_V), (mf_Mo_beat_0_j4 v) 0 0 k = v 0 0 k := by
  intro v
  unfold mf_Mo_beat_0_j4
  (try dsimp only)
  all_goals ((repeat' split) <;> (first | with_reducible rfl | (simp only [fw_up_ne (c := 9) (i := 0) (k := 0) (c' := 0) (i' := 0) (k' := k) (by omega), msend_0k (i := 0) (k := k) (by omega) (by omega) (by omega), mz56_Mo_beat_0_j5 hc]; done)))
theorem mz56_Mo_beat_0_j3 {k : Nat} (hc : k = 56) : ∀ (v : fw_V), (mf_Mo_beat_0_j3 v) 0 0 k = v 0 0 k := by
  intro v
  unfold mf_Mo_beat_0_j3
  (try dsimp only)
  all_goals ((repeat' split) <;> (first | with_reducible rfl | (simp only [msend_0k (i := 0) (k := k) (by omega) (by omega) (by omega), mz56_Mo_beat_0_j4 hc]; done)))
theorem mz56_Mo_beat_0_j2 {k : Nat} (hc : k = 56) : ∀ (v : fw_V), (mf_Mo_beat_0_j2 v) 0 0 k = v 0 0 k := by
  intro v
  unfold mf_Mo_beat_0_j2
  (try dsimp only)
  all_goals ((repeat' split) <;> (first | with_reducible rfl | (simp only [msend_0k (i := 0) (k := k) (by omega) (by omega) (by omega), mz56_Mo_beat_0_j3 hc]; done)))
theorem mz56_Mo_beat_0_j37 {k : Nat} (hc : k = 56) : ∀ (v : fw_V) (x90 : Int32), (mf_Mo_beat_0_j37 v x90) 0 0 k = v 0 0 k := by
  intro v x90
  unfold mf_Mo_beat_0_j37
  (try dsimp only)
  all_goals ((repeat' split) <;> (first | with_reducible rfl | (simp only [fw_up_ne (c := 9) (i := 0) (k := 0) (c' := 0) (i' := 0) (k' := k) (by omega), msend_0k (i := 0) (k := k) (by omega) (by omega) (by omega), mz56_Mo_beat_0_j5 hc]; done)))
theorem mz56_Mo_beat_0_j36 {k : Nat} (hc : k = 56) : ∀ (v : fw_V), (mf_Mo_beat_0_j36 v) 0 0 k = v 0 0 k := by
  intro v
  unfold mf_Mo_beat_0_j36
  (try dsimp only)
  all_goals ((repeat' split) <;> (first | with_reducible rfl | (simp only [msend_0k (i := 0) (k := k) (by omega) (by omega) (by omega), mz56_Mo_beat_0_j37 hc]; done)))
theorem mz56_Mo_beat_0_j1 {k : Nat} (hc : k = 56) : ∀ (v : fw_V), (mf_Mo_beat_0_j1 v) 0 0 k = v 0 0 k := by
  intro v
  unfold mf_Mo_beat_0_j1
  (try dsimp only)
  all_goals ((repeat' split) <;> (first | with_reducible rfl | (simp only [msend_0k (i := 0) (k := k) (by omega) (by omega) (by omega), mz56_Mo_beat_0_j2 hc, mz56_Mo_beat_0_j36 hc]; done)))
theorem mz56_Mo_pulse_0_j25 {k : Nat} (hc : k = 56) : ∀ (v : fw_V), (mf_Mo_pulse_0_j25 v) 0 0 k = v 0 0 k := by
  intro v
  unfold mf_Mo_pulse_0_j25
  (try dsimp only)
  all_goals ((repeat' split) <;> (first | with_reducible rfl | (simp only [fw_up_ne (c := 9) (i := 0) (k := 6) (c' := 0) (i' := 0) (k' := k) (by omega), fw_up_ne (c := 34) (i := 0) (k := 0) (c' := 0) (i' := 0) (k' := k) (by omega), msend_0k (i := 0) (k := k) (by omega) (by omega) (by omega), mz56_Mo_reply_0 hc]; done)))
theorem mz56_Mo_pulse_0_j24 {k : Nat} (hc : k = 56) : ∀ (v : fw_V), (mf_Mo_pulse_0_j24 v) 0 0 k = v 0 0 k := by
  intro v
  unfold mf_Mo_pulse_0_j24
  (try dsimp only)
  all_goals ((repeat' split) <;> (first | with_reducible rfl | (simp only [msend_0k (i := 0) (k := k) (by omega) (by omega) (by omega), mz56_Mo_pulse_0_j25 hc]; done)))
theorem mz56_Mo_pulse_0_j27 {k : Nat} (hc : k = 56) : ∀ (v : fw_V), (mf_Mo_pulse_0_j27 v) 0 0 k = v 0 0 k := by
  intro v
  unfold mf_Mo_pulse_0_j27
  (try dsimp only)
  all_goals ((repeat' split) <;> (first | with_reducible rfl | (simp only [fw_up_ne (c := 9) (i := 0) (k := 6) (c' := 0) (i' := 0) (k' := k) (by omega), fw_up_ne (c := 34) (i := 0) (k := 0) (c' := 0) (i' := 0) (k' := k) (by omega), msend_0k (i := 0) (k := k) (by omega) (by omega) (by omega), mz56_Mo_reply_0 hc]; done)))
theorem mz56_Mo_pulse_0_j26 {k : Nat} (hc : k = 56) : ∀ (v : fw_V), (mf_Mo_pulse_0_j26 v) 0 0 k = v 0 0 k := by
  intro v
  unfold mf_Mo_pulse_0_j26
  (try dsimp only)
  all_goals ((repeat' split) <;> (first | with_reducible rfl | (simp only [msend_0k (i := 0) (k := k) (by omega) (by omega) (by omega), mz56_Mo_pulse_0_j27 hc]; done)))
theorem mz56_Mo_pulse_0_j23 {k : Nat} (hc : k = 56) : ∀ (v : fw_V) (x4 : Int32), (mf_Mo_pulse_0_j23 v x4) 0 0 k = v 0 0 k := by
  intro v x4
  unfold mf_Mo_pulse_0_j23
  (try dsimp only)
  all_goals ((repeat' split) <;> (first | with_reducible rfl | (simp only [fw_up_ne (c := 9) (i := 0) (k := 5) (c' := 0) (i' := 0) (k' := k) (by omega), msend_0k (i := 0) (k := k) (by omega) (by omega) (by omega), mz56_Mo_pulse_0_j24 hc, mz56_Mo_pulse_0_j26 hc]; done)))
theorem mz56_Mo_pulse_0_j22 {k : Nat} (hc : k = 56) : ∀ (v : fw_V) (x4 : Int32), (mf_Mo_pulse_0_j22 v x4) 0 0 k = v 0 0 k := by
  intro v x4
  unfold mf_Mo_pulse_0_j22
  (try dsimp only)
  all_goals ((repeat' split) <;> (first | with_reducible rfl | (simp only [msend_0k (i := 0) (k := k) (by omega) (by omega) (by omega), mz56_Mo_pulse_0_j23 hc]; done)))
theorem mz56_Mo_pulse_0_j28 {k : Nat} (hc : k = 56) : ∀ (v : fw_V) (x4 : Int32) (x90 : Int32), (mf_Mo_pulse_0_j28 v x4 x90) 0 0 k = v 0 0 k := by
  intro v x4 x90
  unfold mf_Mo_pulse_0_j28
  (try dsimp only)
  all_goals ((repeat' split) <;> (first | with_reducible rfl | (simp only [fw_up_ne (c := 9) (i := 0) (k := 5) (c' := 0) (i' := 0) (k' := k) (by omega), msend_0k (i := 0) (k := k) (by omega) (by omega) (by omega), mz56_Mo_pulse_0_j24 hc, mz56_Mo_pulse_0_j26 hc]; done)))
theorem mz56_Mo_pulse_0_j21 {k : Nat} (hc : k = 56) : ∀ (v : fw_V), (mf_Mo_pulse_0_j21 v) 0 0 k = v 0 0 k := by
  intro v
  unfold mf_Mo_pulse_0_j21
  (try dsimp only)
  all_goals ((repeat' split) <;> (first | with_reducible rfl | (simp only [msend_0k (i := 0) (k := k) (by omega) (by omega) (by omega), mz56_Mo_pulse_0_j22 hc, mz56_Mo_pulse_0_j28 hc]; done)))
theorem mz56_Mo_pulse_0_j20 {k : Nat} (hc : k = 56) : ∀ (v : fw_V), (mf_Mo_pulse_0_j20 v) 0 0 k = v 0 0 k := by
  intro v
  unfold mf_Mo_pulse_0_j20
  (try dsimp only)
  all_goals ((repeat' split) <;> (first | with_reducible rfl | (simp only [msend_0k (i := 0) (k := k) (by omega) (by omega) (by omega), mz56_Mo_pulse_0_j21 hc]; done)))
theorem mz56_Mo_pulse_0_j33 {k : Nat} (hc : k = 56) : ∀ (v : fw_V), (mf_Mo_pulse_0_j33 v) 0 0 k = v 0 0 k := by
  intro v
  unfold mf_Mo_pulse_0_j33
  (try dsimp only)
  all_goals ((repeat' split) <;> (first | with_reducible rfl | (simp only [msend_0k (i := 0) (k := k) (by omega) (by omega) (by omega), mz56_Mo_pulse_0_j27 hc]; done)))
theorem mz56_Mo_pulse_0_j34 {k : Nat} (hc : k = 56) : ∀ (v : fw_V), (mf_Mo_pulse_0_j34 v) 0 0 k = v 0 0 k := by
  intro v
  unfold mf_Mo_pulse_0_j34
  (try dsimp only)
  all_goals ((repeat' split) <;> (first | with_reducible rfl | (simp only [msend_0k (i := 0) (k := k) (by omega) (by omega) (by omega), mz56_Mo_pulse_0_j27 hc]; done)))
theorem mz56_Mo_pulse_0_j32 {k : Nat} (hc : k = 56) : ∀ (v : fw_V) (x4 : Int32), (mf_Mo_pulse_0_j32 v x4) 0 0 k = v 0 0 k := by
  intro v x4
  unfold mf_Mo_pulse_0_j32
  (try dsimp only)
  all_goals ((repeat' split) <;> (first | with_reducible rfl | (simp only [fw_up_ne (c := 9) (i := 0) (k := 5) (c' := 0) (i' := 0) (k' := k) (by omega), msend_0k (i := 0) (k := k) (by omega) (by omega) (by omega), mz56_Mo_pulse_0_j33 hc, mz56_Mo_pulse_0_j34 hc]; done)))
theorem mz56_Mo_pulse_0_j31 {k : Nat} (hc : k = 56) : ∀ (v : fw_V) (x4 : Int32), (mf_Mo_pulse_0_j31 v x4) 0 0 k = v 0 0 k := by
  intro v x4
  unfold mf_Mo_pulse_0_j31
  (try dsimp only)
  all_goals ((repeat' split) <;> (first | with_reducible rfl | (simp only [msend_0k (i := 0) (k := k) (by omega) (by omega) (by omega), mz56_Mo_pulse_0_j32 hc]; done)))
theorem mz56_Mo_pulse_0_j35 {k : Nat} (hc : k = 56) : ∀ (v : fw_V) (x4 : Int32) (x90 : Int32), (mf_Mo_pulse_0_j35 v x4 x90) 0 0 k = v 0 0 k := by
  intro v x4 x90
  unfold mf_Mo_pulse_0_j35
  (try dsimp only)
  all_goals ((repeat' split) <;> (first | with_reducible rfl | (simp only [fw_up_ne (c := 9) (i := 0) (k := 5) (c' := 0) (i' := 0) (k' := k) (by omega), msend_0k (i := 0) (k := k) (by omega) (by omega) (by omega), mz56_Mo_pulse_0_j33 hc, mz56_Mo_pulse_0_j34 hc]; done)))
theorem mz56_Mo_pulse_0_j30 {k : Nat} (hc : k = 56) : ∀ (v : fw_V), (mf_Mo_pulse_0_j30 v) 0 0 k = v 0 0 k := by
  intro v
  unfold mf_Mo_pulse_0_j30
  (try dsimp only)
  all_goals ((repeat' split) <;> (first | with_reducible rfl | (simp only [msend_0k (i := 0) (k := k) (by omega) (by omega) (by omega), mz56_Mo_pulse_0_j31 hc, mz56_Mo_pulse_0_j35 hc]; done)))
theorem mz56_Mo_pulse_0_j29 {k : Nat} (hc : k = 56) : ∀ (v : fw_V), (mf_Mo_pulse_0_j29 v) 0 0 k = v 0 0 k := by
  intro v
  unfold mf_Mo_pulse_0_j29
  (try dsimp only)
  all_goals ((repeat' split) <;> (first | with_reducible rfl | (simp only [msend_0k (i := 0) (k := k) (by omega) (by omega) (by omega), mz56_Mo_pulse_0_j30 hc]; done)))
theorem mz56_Mo_pulse_0_j19 {k : Nat} (hc : k = 56) : ∀ (v : fw_V) (x4 : Int32), (mf_Mo_pulse_0_j19 v x4) 0 0 k = v 0 0 k := by
  intro v x4
  unfold mf_Mo_pulse_0_j19
  (try dsimp only)
  all_goals ((repeat' split) <;> (first | with_reducible rfl | (simp only [fw_up_ne (c := 9) (i := 0) (k := 4) (c' := 0) (i' := 0) (k' := k) (by omega), msend_0k (i := 0) (k := k) (by omega) (by omega) (by omega), mz56_Mo_pulse_0_j20 hc, mz56_Mo_pulse_0_j29 hc]; done)))
theorem mz56_Mo_pulse_0_j18 {k : Nat} (hc : k = 56) : ∀ (v : fw_V) (x4 : Int32), (mf_Mo_pulse_0_j18 v x4) 0 0 k = v 0 0 k := by
  intro v x4
  unfold mf_Mo_pulse_0_j18
  (try dsimp only)
  all_goals ((repeat' split) <;> (first | with_reducible rfl | (simp only [msend_0k (i := 0) (k := k) (by omega) (by omega) (by omega), mz56_Mo_pulse_0_j19 hc]; done)))
theorem mz56_Mo_pulse_0_j36 {k : Nat} (hc : k = 56) : ∀ (v : fw_V) (x4 : Int32) (x90 : Int32), (mf_Mo_pulse_0_j36 v x4 x90) 0 0 k = v 0 0 k := by
  intro v x4 x90
  unfold mf_Mo_pulse_0_j36
  (try dsimp only)
  all_goals ((repeat' split) <;> (first | with_reducible rfl | (simp only [fw_up_ne (c := 9) (i := 0) (k := 4) (c' := 0) (i' := 0) (k' := k) (by omega), msend_0k (i := 0) (k := k) (by omega) (by omega) (by omega), mz56_Mo_pulse_0_j20 hc, mz56_Mo_pulse_0_j29 hc]; done)))
theorem mz56_Mo_pulse_0_j17 {k : Nat} (hc : k = 56) : ∀ (v : fw_V), (mf_Mo_pulse_0_j17 v) 0 0 k = v 0 0 k := by
  intro v
  unfold mf_Mo_pulse_0_j17
  (try dsimp only)
  all_goals ((repeat' split) <;> (first | with_reducible rfl | (simp only [msend_0k (i := 0) (k := k) (by omega) (by omega) (by omega), mz56_Mo_pulse_0_j18 hc, mz56_Mo_pulse_0_j36 hc]; done)))
theorem mz56_Mo_pulse_0_j16 {k : Nat} (hc : k = 56) : ∀ (v : fw_V), (mf_Mo_pulse_0_j16 v) 0 0 k = v 0 0 k := by
  intro v
  unfold mf_Mo_pulse_0_j16
  (try dsimp only)
  all_goals ((repeat' split) <;> (first | with_reducible rfl | (simp only [msend_0k (i := 0) (k := k) (by omega) (by omega) (by omega), mz56_Mo_pulse_0_j17 hc]; done)))
theorem mz56_Mo_pulse_0_j46 {k : Nat} (hc : k = 56) : ∀ (v : fw_V), (mf_Mo_pulse_0_j46 v) 0 0 k = v 0 0 k := by
  intro v
  unfold mf_Mo_pulse_0_j46
  (try dsimp only)
  all_goals ((repeat' split) <;> (first | with_reducible rfl | (simp only [fw_up_ne (c := 9) (i := 0) (k := 6) (c' := 0) (i' := 0) (k' := k) (by omega), fw_up_ne (c := 34) (i := 0) (k := 0) (c' := 0) (i' := 0) (k' := k) (by omega), msend_0k (i := 0) (k := k) (by omega) (by omega) (by omega), mz56_Mo_reply_0 hc]; done)))
theorem mz56_Mo_pulse_0_j45 {k : Nat} (hc : k = 56) : ∀ (v : fw_V), (mf_Mo_pulse_0_j45 v) 0 0 k = v 0 0 k := by
  intro v
  unfold mf_Mo_pulse_0_j45
  (try dsimp only)
  all_goals ((repeat' split) <;> (first | with_reducible rfl | (simp only [msend_0k (i := 0) (k := k) (by omega) (by omega) (by omega), mz56_Mo_pulse_0_j46 hc]; done)))
theorem mz56_Mo_pulse_0_j48 {k : Nat} (hc : k = 56) : ∀ (v : fw_V), (mf_Mo_pulse_0_j48 v) 0 0 k = v 0 0 k := by
  intro v
  unfold mf_Mo_pulse_0_j48
  (try dsimp only)
  all_goals ((repeat' split) <;> (first | with_reducible rfl | (simp only [fw_up_ne (c := 9) (i := 0) (k := 6) (c' := 0) (i' := 0) (k' := k) (by omega), fw_up_ne (c := 34) (i := 0) (k := 0) (c' := 0) (i' := 0) (k' := k) (by omega), msend_0k (i := 0) (k := k) (by omega) (by omega) (by omega), mz56_Mo_reply_0 hc]; done)))
theorem mz56_Mo_pulse_0_j47 {k : Nat} (hc : k = 56) : ∀ (v : fw_V), (mf_Mo_pulse_0_j47 v) 0 0 k = v 0 0 k := by
  intro v
  unfold mf_Mo_pulse_0_j47
  (try dsimp only)
  all_goals ((repeat' split) <;> (first | with_reducible rfl | (simp only [msend_0k (i := 0) (k := k) (by omega) (by omega) (by omega), mz56_Mo_pulse_0_j48 hc]; done)))
theorem mz56_Mo_pulse_0_j44 {k : Nat} (hc : k = 56) : ∀ (v : fw_V) (x4 : Int32), (mf_Mo_pulse_0_j44 v x4) 0 0 k = v 0 0 k := by
  intro v x4
  unfold mf_Mo_pulse_0_j44
  (try dsimp only)
  all_goals ((repeat' split) <;> (first | with_reducible rfl | (simp only [fw_up_ne (c := 9) (i := 0) (k := 5) (c' := 0) (i' := 0) (k' := k) (by omega), msend_0k (i := 0) (k := k) (by omega) (by omega) (by omega), mz56_Mo_pulse_0_j45 hc, mz56_Mo_pulse_0_j47 hc]; done)))
theorem mz56_Mo_pulse_0_j43 {k : Nat} (hc : k = 56) : ∀ (v : fw_V) (x4 : Int32), (mf_Mo_pulse_0_j43 v x4) 0 0 k = v 0 0 k := by
  intro v x4
  unfold mf_Mo_pulse_0_j43
  (try dsimp only)
  all_goals ((repeat' split) <;> (first | with_reducible rfl | (simp only [msend_0k (i := 0) (k := k) (by omega) (by omega) (by omega), mz56_Mo_pulse_0_j44 hc]; done)))
theorem mz56_Mo_pulse_0_j49 {k : Nat} (hc : k = 56) : ∀ (v : fw_V) (x4 : Int32) (x90 : Int32), (mf_Mo_pulse_0_j49 v x4 x90) 0 0 k = v 0 0 k := by
  intro v x4 x90
  unfold mf_Mo_pulse_0_j49
  (try dsimp only)
  all_goals ((repeat' split) <;> (first | with_reducible rfl | (simp only [fw_up_ne (c := 9) (i := 0) (k := 5) (c' := 0) (i' := 0) (k' := k) (by omega), msend_0k (i := 0) (k := k) (by omega) (by omega) (by omega), mz56_Mo_pulse_0_j45 hc, mz56_Mo_pulse_0_j47 hc]; done)))
theorem mz56_Mo_pulse_0_j42 {k : Nat} (hc : k = 56) : ∀ (v : fw_V), (mf_Mo_pulse_0_j42 v) 0 0 k = v 0 0 k := by
  intro v
  unfold mf_Mo_pulse_0_j42
  (try dsimp only)
  all_goals ((repeat' split) <;> (first | with_reducible rfl | (simp only [msend_0k (i := 0) (k := k) (by omega) (by omega) (by omega), mz56_Mo_pulse_0_j43 hc, mz56_Mo_pulse_0_j49 hc]; done)))
theorem mz56_Mo_pulse_0_j41 {k : Nat} (hc : k = 56) : ∀ (v : fw_V), (mf_Mo_pulse_0_j41 v) 0 0 k = v 0 0 k := by
  intro v
  unfold mf_Mo_pulse_0_j41
  (try dsimp only)
  all_goals ((repeat' split) <;> (first | with_reducible rfl | (simp only [msend_0k (i := 0) (k := k) (by omega) (by omega) (by omega), mz56_Mo_pulse_0_j42 hc]; done)))
theorem mz56_Mo_pulse_0_j54 {k : Nat} (hc : k = 56) : ∀ (v : fw_V), (mf_Mo_pulse_0_j54 v) 0 0 k = v 0 0 k := by
  intro v
  unfold mf_Mo_pulse_0_j54
  (try dsimp only)
  all_goals ((repeat' split) <;> (first | with_reducible rfl | (simp only [msend_0k (i := 0) (k := k) (by omega) (by omega) (by omega), mz56_Mo_pulse_0_j48 hc]; done)))
theorem mz56_Mo_pulse_0_j55 {k : Nat} (hc : k = 56) : ∀ (v : fw_V), (mf_Mo_pulse_0_j55 v) 0 0 k = v 0 0 k := by
  intro v
  unfold mf_Mo_pulse_0_j55
  (try dsimp only)
  all_goals ((repeat' split) <;> (first | with_reducible rfl | (simp only [msend_0k (i := 0) (k := k) (by omega) (by omega) (by omega), mz56_Mo_pulse_0_j48 hc]; done)))
theorem mz56_Mo_pulse_0_j53 {k : Nat} (hc : k = 56) : ∀ (v : fw_V) (x4 : Int32), (mf_Mo_pulse_0_j53 v x4) 0 0 k = v 0 0 k := by
  intro v x4
  unfold mf_Mo_pulse_0_j53
  (try dsimp only)
  all_goals ((repeat' split) <;> (first | with_reducible rfl | (simp only [fw_up_ne (c := 9) (i := 0) (k := 5) (c' := 0) (i' := 0) (k' := k) (by omega), msend_0k (i := 0) (k := k) (by omega) (by omega) (by omega), mz56_Mo_pulse_0_j54 hc, mz56_Mo_pulse_0_j55 hc]; done)))
theorem mz56_Mo_pulse_0_j52 {k : Nat} (hc : k = 56) : ∀ (v : fw_V) (x4 : Int32), (mf_Mo_pulse_0_j52 v x4) 0 0 k = v 0 0 k := by
  intro v x4
  unfold mf_Mo_pulse_0_j52
  (try dsimp only)
  all_goals ((repeat' split) <;> (first | with_reducible rfl | (simp only [msend_0k (i := 0) (k := k) (by omega) (by omega) (by omega), mz56_Mo_pulse_0_j53 hc]; done)))
theorem mz56_Mo_pulse_0_j56 {k : Nat} (hc : k = 56) : ∀ (v : fw_V) (x4 : Int32) (x90 : Int32), (mf_Mo_pulse_0_j56 v x4 x90) 0 0 k = v 0 0 k := by
  intro v x4 x90
  unfold mf_Mo_pulse_0_j56
  (try dsimp only)
  all_goals ((repeat' split) <;> (first | with_reducible rfl | (simp only [fw_up_ne (c := 9) (i := 0) (k := 5) (c' := 0) (i' := 0) (k' := k) (by omega), msend_0k (i := 0) (k := k) (by omega) (by omega) (by omega), mz56_Mo_pulse_0_j54 hc, mz56_Mo_pulse_0_j55 hc]; done)))
theorem mz56_Mo_pulse_0_j51 {k : Nat} (hc : k = 56) : ∀ (v : fw_V), (mf_Mo_pulse_0_j51 v) 0 0 k = v 0 0 k := by
  intro v
  unfold mf_Mo_pulse_0_j51
  (try dsimp only)
  all_goals ((repeat' split) <;> (first | with_reducible rfl | (simp only [msend_0k (i := 0) (k := k) (by omega) (by omega) (by omega), mz56_Mo_pulse_0_j52 hc, mz56_Mo_pulse_0_j56 hc]; done)))
theorem mz56_Mo_pulse_0_j50 {k : Nat} (hc : k = 56) : ∀ (v : fw_V), (mf_Mo_pulse_0_j50 v) 0 0 k = v 0 0 k := by
  intro v
  unfold mf_Mo_pulse_0_j50
  (try dsimp only)
  all_goals ((repeat' split) <;> (first | with_reducible rfl | (simp only [msend_0k (i := 0) (k := k) (by omega) (by omega) (by omega), mz56_Mo_pulse_0_j51 hc]; done)))
theorem mz56_Mo_pulse_0_j40 {k : Nat} (hc : k = 56) : ∀ (v : fw_V) (x4 : Int32), (mf_Mo_pulse_0_j40 v x4) 0 0 k = v 0 0 k := by
  intro v x4
  unfold mf_Mo_pulse_0_j40
  (try dsimp only)
  all_goals ((repeat' split) <;> (first | with_reducible rfl | (simp only [fw_up_ne (c := 9) (i := 0) (k := 4) (c' := 0) (i' := 0) (k' := k) (by omega), msend_0k (i := 0) (k := k) (by omega) (by omega) (by omega), mz56_Mo_pulse_0_j41 hc, mz56_Mo_pulse_0_j50 hc]; done)))
theorem mz56_Mo_pulse_0_j39 {k : Nat} (hc : k = 56) : ∀ (v : fw_V) (x4 : Int32), (mf_Mo_pulse_0_j39 v x4) 0 0 k = v 0 0 k := by
  intro v x4
  unfold mf_Mo_pulse_0_j39
  (try dsimp only)
  all_goals ((repeat' split) <;> (first | with_reducible rfl | (simp only [msend_0k (i := 0) (k := k) (by omega) (by omega) (by omega), mz56_Mo_pulse_0_j40 hc]; done)))
theorem mz56_Mo_pulse_0_j57 {k : Nat} (hc : k = 56) : ∀ (v : fw_V) (x4 : Int32) (x90 : Int32), (mf_Mo_pulse_0_j57 v x4 x90) 0 0 k = v 0 0 k := by
  intro v x4 x90
  unfold mf_Mo_pulse_0_j57
  (try dsimp only)
  all_goals ((repeat' split) <;> (first | with_reducible rfl | (simp only [fw_up_ne (c := 9) (i := 0) (k := 4) (c' := 0) (i' := 0) (k' := k) (by omega), msend_0k (i := 0) (k := k) (by omega) (by omega) (by omega), mz56_Mo_pulse_0_j41 hc, mz56_Mo_pulse_0_j50 hc]; done)))
theorem mz56_Mo_pulse_0_j38 {k : Nat} (hc : k = 56) : ∀ (v : fw_V), (mf_Mo_pulse_0_j38 v) 0 0 k = v 0 0 k := by
  intro v
  unfold mf_Mo_pulse_0_j38
  (try dsimp only)
  all_goals ((repeat' split) <;> (first | with_reducible rfl | (simp only [msend_0k (i := 0) (k := k) (by omega) (by omega) (by omega), mz56_Mo_pulse_0_j39 hc, mz56_Mo_pulse_0_j57 hc]; done)))
theorem mz56_Mo_pulse_0_j37 {k : Nat} (hc : k = 56) : ∀ (v : fw_V), (mf_Mo_pulse_0_j37 v) 0 0 k = v 0 0 k := by
  intro v
  unfold mf_Mo_pulse_0_j37
  (try dsimp only)
  all_goals ((repeat' split) <;> (first | with_reducible rfl | (simp only [msend_0k (i := 0) (k := k) (by omega) (by omega) (by omega), mz56_Mo_pulse_0_j38 hc]; done)))
theorem mz56_Mo_pulse_0_j15 {k : Nat} (hc : k = 56) : ∀ (v : fw_V) (x4 : Int32), (mf_Mo_pulse_0_j15 v x4) 0 0 k = v 0 0 k := by
  intro v x4
  unfold mf_Mo_pulse_0_j15
  (try dsimp only)
  all_goals ((repeat' split) <;> (first | with_reducible rfl | (simp only [fw_up_ne (c := 9) (i := 0) (k := 3) (c' := 0) (i' := 0) (k' := k) (by omega), msend_0k (i := 0) (k := k) (by omega) (by omega) (by omega), mz56_Mo_pulse_0_j16 hc, mz56_Mo_pulse_0_j37 hc]; done)))
theorem mz56_Mo_pulse_0_j14 {k : Nat} (hc : k = 56) : ∀ (v : fw_V) (x4 : Int32), (mf_Mo_pulse_0_j14 v x4) 0 0 k = v 0 0 k := by
  intro v x4
  unfold mf_Mo_pulse_0_j14
  (try dsimp only)
  all_goals ((repeat' split) <;> (first | with_reducible rfl | (simp only [msend_0k (i := 0) (k := k) (by omega) (by omega) (by omega), mz56_Mo_pulse_0_j15 hc]; done)))
theorem mz56_Mo_pulse_0_j58 {k : Nat} (hc : k = 56) : ∀ (v : fw_V) (x4 : Int32) (x90 : Int32), (mf_Mo_pulse_0_j58 v x4 x90) 0 0 k = v 0 0 k := by
  intro v x4 x90
  unfold mf_Mo_pulse_0_j58
  (try dsimp only)
  all_goals ((repeat' split) <;> (first | with_reducible rfl | (simp only [fw_up_ne (c := 9) (i := 0) (k := 3) (c' := 0) (i' := 0) (k' := k) (by omega), msend_0k (i := 0) (k := k) (by omega) (by omega) (by omega), mz56_Mo_pulse_0_j16 hc, mz56_Mo_pulse_0_j37 hc]; done)))
theorem mz56_Mo_pulse_0_j13 {k : Nat} (hc : k = 56) : ∀ (v : fw_V), (mf_Mo_pulse_0_j13 v) 0 0 k = v 0 0 k := by
  intro v
  unfold mf_Mo_pulse_0_j13
  (try dsimp only)
  all_goals ((repeat' split) <;> (first | with_reducible rfl | (simp only [msend_0k (i := 0) (k := k) (by omega) (by omega) (by omega), mz56_Mo_pulse_0_j14 hc, mz56_Mo_pulse_0_j58 hc]; done)))
theorem mz56_Mo_pulse_0_j12 {k : Nat} (hc : k = 56) : ∀ (v : fw_V), (mf_Mo_pulse_0_j12 v) 0 0 k = v 0 0 k := by
  intro v
  unfold mf_Mo_pulse_0_j12
  (try dsimp only)
  all_goals ((repeat' split) <;> (first | with_reducible rfl | (simp only [msend_0k (i := 0) (k := k) (by omega) (by omega) (by omega), mz56_Mo_pulse_0_j13 hc]; done)))
theorem mz56_Mo_pulse_0_j63 {k : Nat} (hc : k = 56) : ∀ (v : fw_V), (mf_Mo_pulse_0_j63 v) 0 0 k = v 0 0 k := by
  intro v
  unfold mf_Mo_pulse_0_j63
  (try dsimp only)
  all_goals ((repeat' split) <;> (first | with_reducible rfl | (simp only [msend_0k (i := 0) (k := k) (by omega) (by omega) (by omega), mz56_Mo_pulse_0_j38 hc]; done)))
theorem mz56_Mo_pulse_0_j64 {k : Nat} (hc : k = 56) : ∀ (v : fw_V), (mf_Mo_pulse_0_j64 v) 0 0 k = v 0 0 k := by
  intro v
  unfold mf_Mo_pulse_0_j64
  (try dsimp only)
  all_goals ((repeat' split) <;> (first | with_reducible rfl | (simp only [msend_0k (i := 0) (k := k) (by omega) (by omega) (by omega), mz56_Mo_pulse_0_j38 hc]; done)))
theorem mz56_Mo_pulse_0_j62 {k : Nat} (hc : k = 56) : ∀ (v : fw_V) (x4 : Int32), (mf_Mo_pulse_0_j62 v x4) 0 0 k = v 0 0 k := by
  intro v x4
  unfold mf_Mo_pulse_0_j62
  (try dsimp only)
  all_goals ((repeat' split) <;> (first | with_reducible rfl | (simp only [fw_up_ne (c := 9) (i := 0) (k := 3) (c' := 0) (i' := 0) (k' := k) (by omega), msend_0k (i := 0) (k := k) (by omega) (by omega) (by omega), mz56_Mo_pulse_0_j63 hc, mz56_Mo_pulse_0_j64 hc]; done)))
theorem mz56_Mo_pulse_0_j61 {k : Nat} (hc : k = 56) : ∀ (v : fw_V) (x4 : Int32), (mf_Mo_pulse_0_j61 v x4) 0 0 k = v 0 0 k := by
  intro v x4
  unfold mf_Mo_pulse_0_j61
  (try dsimp only)
  all_goals ((repeat' split) <;> (first | with_reducible rfl | (simp only [msend_0k (i := 0) (k := k) (by omega) (by omega) (by omega), mz56_Mo_pulse_0_j62 hc]; done)))
theorem mz56_Mo_pulse_0_j65 {k : Nat} (hc : k = 56) : ∀ (v : fw_V) (x4 : Int32) (x90 : Int32), (mf_Mo_pulse_0_j65 v x4 x90) 0 0 k = v 0 0 k := by
  intro v x4 x90
  unfold mf_Mo_pulse_0_j65
  (try dsimp only)
  all_goals ((repeat' split) <;> (first | with_reducible rfl | (simp only [fw_up_ne (c := 9) (i := 0) (k := 3) (c' := 0) (i' := 0) (k' := k) (by omega), msend_0k (i := 0) (k := k) (by omega) (by omega) (by omega), mz56_Mo_pulse_0_j63 hc, mz56_Mo_pulse_0_j64 hc]; done)))
theorem mz56_Mo_pulse_0_j60 {k : Nat} (hc : k = 56) : ∀ (v : fw_V), (mf_Mo_pulse_0_j60 v) 0 0 k = v 0 0 k := by
  intro v
  unfold mf_Mo_pulse_0_j60
  (try dsimp only)
  all_goals ((repeat' split) <;> (first | with_reducible rfl | (simp only [msend_0k (i := 0) (k := k) (by omega) (by omega) (by omega), mz56_Mo_pulse_0_j61 hc, mz56_Mo_pulse_0_j65 hc]; done)))
theorem mz56_Mo_pulse_0_j59 {k : Nat} (hc : k = 56) : ∀ (v : fw_V), (mf_Mo_pulse_0_j59 v) 0 0 k = v 0 0 k := by
  intro v
  unfold mf_Mo_pulse_0_j59
  (try dsimp only)
  all_goals ((repeat' split) <;> (first | with_reducible rfl | (simp only [msend_0k (i := 0) (k := k) (by omega) (by omega) (by omega), mz56_Mo_pulse_0_j60 hc]; done)))
theorem mz56_Mo_pulse_0_j11 {k : Nat} (hc : k = 56) : ∀ (v : fw_V) (x4 : Int32), (mf_Mo_pulse_0_j11 v x4) 0 0 k = v 0 0 k := by
  intro v x4
  unfold mf_Mo_pulse_0_j11
  (try dsimp only)
  all_goals ((repeat' split) <;> (first | with_reducible rfl | (simp only [fw_up_ne (c := 9) (i := 0) (k := 2) (c' := 0) (i' := 0) (k' := k) (by omega), msend_0k (i := 0) (k := k) (by omega) (by omega) (by omega), mz56_Mo_pulse_0_j12 hc, mz56_Mo_pulse_0_j59 hc]; done)))
theorem mz56_Mo_pulse_0_j10 {k : Nat} (hc : k = 56) : ∀ (v : fw_V) (x4 : Int32), (mf_Mo_pulse_0_j10 v x4) 0 0 k = v 0 0 k := by
  intro v x4
  unfold mf_Mo_pulse_0_j10
  (try dsimp only)
  all_goals ((repeat' split) <;> (first | with_reducible rfl | (simp only [msend_0k (i := 0) (k := k) (by omega) (by omega) (by omega), mz56_Mo_pulse_0_j11 hc]; done)))
theorem mz56_Mo_pulse_0_j66 {k : Nat} (hc : k = 56) : ∀ (v : fw_V) (x4 : Int32) (x90 : Int32), (mf_Mo_pulse_0_j66 v x4 x90) 0 0 k = v 0 0 k := by
  intro v x4 x90
  unfold mf_Mo_pulse_0_j66
  (try dsimp only)
  all_goals ((repeat' split) <;> (first | with_reducible rfl | (simp only [fw_up_ne (c := 9) (i := 0) (k := 2) (c' := 0) (i' := 0) (k' := k) (by omega), msend_0k (i := 0) (k := k) (by omega) (by omega) (by omega), mz56_Mo_pulse_0_j12 hc, mz56_Mo_pulse_0_j59 hc]; done)))
theorem mz56_Mo_pulse_0_j9 {k : Nat} (hc : k = 56) : ∀ (v : fw_V), (mf_Mo_pulse_0_j9 v) 0 0 k = v 0 0 k := by
  intro v
  unfold mf_Mo_pulse_0_j9
  (try dsimp only)
  all_goals ((repeat' split) <;> (first | with_reducible rfl | (simp only [msend_0k (i := 0) (k := k) (by omega) (by omega) (by omega), mz56_Mo_pulse_0_j10 hc, mz56_Mo_pulse_0_j66 hc]; done)))
theorem mz56_Mo_pulse_0_j8 {k : Nat} (hc : k = 56) : ∀ (v : fw_V), (mf_Mo_pulse_0_j8 v) 0 0 k = v 0 0 k := by
  intro v
  unfold mf_Mo_pulse_0_j8
  (try dsimp only)
  all_goals ((repeat' split) <;> (first | with_reducible rfl | (simp only [msend_0k (i := 0) (k := k) (by omega) (by omega) (by omega), mz56_Mo_pulse_0_j9 hc]; done)))
theorem mz56_Mo_pulse_0_j84 {k : Nat} (hc : k = 56) : ∀ (v : fw_V), (mf_Mo_pulse_0_j84 v) 0 0 k = v 0 0 k := by
  intro v
  unfold mf_Mo_pulse_0_j84
  (try dsimp only)
  all_goals ((repeat' split) <;> (first | with_reducible rfl | (simp only [fw_up_ne (c := 9) (i := 0) (k := 6) (c' := 0) (i' := 0) (k' := k) (by omega), fw_up_ne (c := 34) (i := 0) (k := 0) (c' := 0) (i' := 0) (k' := k) (by omega), msend_0k (i := 0) (k := k) (by omega) (by omega) (by omega), mz56_Mo_reply_0 hc]; done)))
theorem mz56_Mo_pulse_0_j83 {k : Nat} (hc : k = 56) : ∀ (v : fw_V), (mf_Mo_pulse_0_j83 v) 0 0 k = v 0 0 k := by
  intro v
  unfold mf_Mo_pulse_0_j83
  (try dsimp only)
  all_goals ((repeat' split) <;> (first | with_reducible rfl | (simp only [msend_0k (i := 0) (k := k) (by omega) (by omega) (by omega), mz56_Mo_pulse_0_j84 hc]; done)))
theorem mz56_Mo_pulse_0_j86 {k : Nat} (hc : k = 56) : ∀ (v : fw_V), (mf_Mo_pulse_0_j86 v) 0 0 k = v 0 0 k := by
  intro v
  unfold mf_Mo_pulse_0_j86
  (try dsimp only)
  all_goals ((repeat' split) <;> (first | with_reducible rfl | (simp only [fw_up_ne (c := 9) (i := 0) (k := 6) (c' := 0) (i' := 0) (k' := k) (by omega), fw_up_ne (c := 34) (i := 0) (k := 0) (c' := 0) (i' := 0) (k' := k) (by omega), msend_0k (i := 0) (k := k) (by omega) (by omega) (by omega), mz56_Mo_reply_0 hc]; done)))
theorem mz56_Mo_pulse_0_j85 {k : Nat} (hc : k = 56) : ∀ (v : fw_V), (mf_Mo_pulse_0_j85 v) 0 0 k = v 0 0 k := by
  intro v
  unfold mf_Mo_pulse_0_j85
  (try dsimp only)
  all_goals ((repeat' split) <;> (first | with_reducible rfl | (simp only [msend_0k (i := 0) (k := k) (by omega) (by omega) (by omega), mz56_Mo_pulse_0_j86 hc]; done)))
theorem mz56_Mo_pulse_0_j82 {k : Nat} (hc : k = 56) : ∀ (v : fw_V) (x4 : Int32), (mf_Mo_pulse_0_j82 v x4) 0 0 k = v 0 0 k := by
  intro v x4
  unfold mf_Mo_pulse_0_j82
  (try dsimp only)
  all_goals ((repeat' split) <;> (first | with_reducible rfl | (simp only [fw_up_ne (c := 9) (i := 0) (k := 5) (c' := 0) (i' := 0) (k' := k) (by omega), msend_0k (i := 0) (k := k) (by omega) (by omega) (by omega), mz56_Mo_pulse_0_j83 hc, mz56_Mo_pulse_0_j85 hc]; done)))
theorem mz56_Mo_pulse_0_j81 {k : Nat} (hc : k = 56) : ∀ (v : fw_V) (x4 : Int32), (mf_Mo_pulse_0_j81 v x4) 0 0 k = v 0 0 k := by
  intro v x4
  unfold mf_Mo_pulse_0_j81
  (try dsimp only)
  all_goals ((repeat' split) <;> (first | with_reducible rfl | (simp only [msend_0k (i := 0) (k := k) (by omega) (by omega) (by omega), mz56_Mo_pulse_0_j82 hc]; done)))
theorem mz56_Mo_pulse_0_j87 {k : Nat} (hc : k = 56) : ∀ (v : fw_V) (x4 : Int32) (x90 : Int32), (mf_Mo_pulse_0_j87 v x4 x90) 0 0 k = v 0 0 k := by
  intro v x4 x90
  unfold mf_Mo_pulse_0_j87
  (try dsimp only)
  all_goals ((repeat' split) <;> (first | with_reducible rfl | (simp only [fw_up_ne (c := 9) (i := 0) (k := 5) (c' := 0) (i' := 0) (k' := k) (by omega), msend_0k (i := 0) (k := k) (by omega) (by omega) (by omega), mz56_Mo_pulse_0_j83 hc, mz56_Mo_pulse_0_j85 hc]; done)))
theorem mz56_Mo_pulse_0_j80 {k : Nat} (hc : k = 56) : ∀ (v : fw_V), (mf_Mo_pulse_0_j80 v) 0 0 k = v 0 0 k := by
  intro v
  unfold mf_Mo_pulse_0_j80
  (try dsimp only)
  all_goals ((repeat' split) <;> (first | with_reducible rfl | (simp only [msend_0k (i := 0) (k := k) (by omega) (by omega) (by omega), mz56_Mo_pulse_0_j81 hc, mz56_Mo_pulse_0_j87 hc]; done)))
theorem mz56_Mo_pulse_0_j79 {k : Nat} (hc : k = 56) : ∀ (v : fw_V), (mf_Mo_pulse_0_j79 v) 0 0 k = v 0 0 k := by
  intro v
  unfold mf_Mo_pulse_0_j79
  (try dsimp only)
  all_goals ((repeat' split) <;> (first | with_reducible rfl | (simp only [msend_0k (i := 0) (k := k) (by omega) (by omega) (by omega), mz56_Mo_pulse_0_j80 hc]; done)))
theorem mz56_Mo_pulse_0_j92 {k : Nat} (hc : k = 56) : ∀ (v : fw_V), (mf_Mo_pulse_0_j92 v) 0 0 k = v 0 0 k := by
  intro v
  unfold mf_Mo_pulse_0_j92
  (try dsimp only)
  all_goals ((repeat' split) <;> (first | with_reducible rfl | (simp only [msend_0k (i := 0) (k := k) (by omega) (by omega) (by omega), mz56_Mo_pulse_0_j86 hc]; done)))
theorem mz56_Mo_pulse_0_j93 {k : Nat} (hc : k = 56) : ∀ (v : fw_V), (mf_Mo_pulse_0_j93 v) 0 0 k = v 0 0 k := by
  intro v
  unfold mf_Mo_pulse_0_j93
  (try dsimp only)
  all_goals ((repeat' split) <;> (first | with_reducible rfl | (simp only [msend_0k (i := 0) (k := k) (by omega) (by omega) (by omega), mz56_Mo_pulse_0_j86 hc]; done)))
theorem mz56_Mo_pulse_0_j91 {k : Nat} (hc : k = 56) : ∀ (v : fw_V) (x4 : Int32), (mf_Mo_pulse_0_j91 v x4) 0 0 k = v 0 0 k := by
  intro v x4
  unfold mf_Mo_pulse_0_j91
  (try dsimp only)
  all_goals ((repeat' split) <;> (first | with_reducible rfl | (simp only [fw_up_ne (c := 9) (i := 0) (k := 5) (c' := 0) (i' := 0) (k' := k) (by omega), msend_0k (i := 0) (k := k) (by omega) (by omega) (by omega), mz56_Mo_pulse_0_j92 hc, mz56_Mo_pulse_0_j93 hc]; done)))
theorem mz56_Mo_pulse_0_j90 {k : Nat} (hc : k = 56) : ∀ (v : fw_V) (x4 : Int32), (mf_Mo_pulse_0_j90 v x4) 0 0 k = v 0 0 k := by
  intro v x4
  unfold mf_Mo_pulse_0_j90
  (try dsimp only)
  all_goals ((repeat' split) <;> (first | with_reducible rfl | (simp only [msend_0k (i := 0) (k := k) (by omega) (by omega) (by omega), mz56_Mo_pulse_0_j91 hc]; done)))
theorem mz56_Mo_pulse_0_j94 {k : Nat} (hc : k = 56) : ∀ (v : fw_V) (x4 : Int32) (x90 : Int32), (mf_Mo_pulse_0_j94 v x4 x90) 0 0 k = v 0 0 k := by
  intro v x4 x90
  unfold mf_Mo_pulse_0_j94
  (try dsimp only)
  all_goals ((repeat' split) <;> (first | with_reducible rfl | (simp only [fw_up_ne (c := 9) (i := 0) (k := 5) (c' := 0) (i' := 0) (k' := k) (by omega), msend_0k (i := 0) (k := k) (by omega) (by omega) (by omega), mz56_Mo_pulse_0_j92 hc, mz56_Mo_pulse_0_j93 hc]; done)))
theorem mz56_Mo_pulse_0_j89 {k : Nat} (hc : k = 56) : ∀ (v : fw_V), (mf_Mo_pulse_0_j89 v) 0 0 k = v 0 0 k := by
  intro v
  unfold mf_Mo_pulse_0_j89
  (try dsimp only)
  all_goals ((repeat' split) <;> (first | with_reducible rfl | (simp only [msend_0k (i := 0) (k := k) (by omega) (by omega) (by omega), mz56_Mo_pulse_0_j90 hc, mz56_Mo_pulse_0_j94 hc]; done)))
theorem mz56_Mo_pulse_0_j88 {k : Nat} (hc : k = 56) : ∀ (v : fw_V), (mf_Mo_pulse_0_j88 v) 0 0 k = v 0 0 k := by
  intro v
  unfold mf_Mo_pulse_0_j88
  (try dsimp only)
  all_goals ((repeat' split) <;> (first | with_reducible rfl | (simp only [msend_0k (i := 0) (k := k) (by omega) (by omega) (by omega), mz56_Mo_pulse_0_j89 hc]; done)))
theorem mz56_Mo_pulse_0_j78 {k : Nat} (hc : k = 56) : ∀ (v : fw_V) (x4 : Int32), (mf_Mo_pulse_0_j78 v x4) 0 0 k = v 0 0 k := by
  intro v x4
  unfold mf_Mo_pulse_0_j78
  (try dsimp only)
  all_goals ((repeat' split) <;> (first | with_reducible rfl | (simp only [fw_up_ne (c := 9) (i := 0) (k := 4) (c' := 0) (i' := 0) (k' := k) (by omega), msend_0k (i := 0) (k := k) (by omega) (by omega) (by omega), mz56_Mo_pulse_0_j79 hc, mz56_Mo_pulse_0_j88 hc]; done)))
theorem mz56_Mo_pulse_0_j77 {k : Nat} (hc : k = 56) : ∀ (v : fw_V) (x4 : Int32), (mf_Mo_pulse_0_j77 v x4) 0 0 k = v 0 0 k := by
  intro v x4
  unfold mf_Mo_pulse_0_j77
  (try dsimp only)
  all_goals ((repeat' split) <;> (first | with_reducible rfl | (simp only [msend_0k (i := 0) (k := k) (by omega) (by omega) (by omega), mz56_Mo_pulse_0_j78 hc]; done)))
theorem mz56_Mo_pulse_0_j95 {k : Nat} (hc : k = 56) : ∀ (v : fw_V) (x4 : Int32) (x90 : Int32), (mf_Mo_pulse_0_j95 v x4 x90) 0 0 k = v 0 0 k := by
  intro v x4 x90
  unfold mf_Mo_pulse_0_j95
  (try dsimp only)
  all_goals ((repeat' split) <;> (first | with_reducible rfl | (simp only [fw_up_ne (c := 9) (i := 0) (k := 4) (c' := 0) (i' := 0) (k' := k) (by omega), msend_0k (i := 0) (k := k) (by omega) (by omega) (by omega), mz56_Mo_pulse_0_j79 hc, mz56_Mo_pulse_0_j88 hc]; done)))
theorem mz56_Mo_pulse_0_j76 {k : Nat} (hc : k = 56) : ∀ (v : fw_V), (mf_Mo_pulse_0_j76 v) 0 0 k = v 0 0 k := by
  intro v
  unfold mf_Mo_pulse_0_j76
  (try dsimp only)
  all_goals ((repeat' split) <;> (first | with_reducible rfl | (simp only [msend_0k (i := 0) (k := k) (by omega) (by omega) (by omega), mz56_Mo_pulse_0_j77 hc, mz56_Mo_pulse_0_j95 hc]; done)))
theorem mz56_Mo_pulse_0_j75 {k : Nat} (hc : k = 56) : ∀ (v : fw_V), (mf_Mo_pulse_0_j75 v) 0 0 k = v 0 0 k := by
  intro v
  unfold mf_Mo_pulse_0_j75
  (try dsimp only)
  all_goals ((repeat' split) <;> (first | with_reducible rfl | (simp only [msend_0k (i := 0) (k := k) (by omega) (by omega) (by omega), mz56_Mo_pulse_0_j76 hc]; done)))
theorem mz56_Mo_pulse_0_j105 {k : Nat} (hc : k = 56) : ∀ (v : fw_V), (mf_Mo_pulse_0_j105 v) 0 0 k = v 0 0 k := by
  intro v
  unfold mf_Mo_pulse_0_j105
  (try dsimp only)
  all_goals ((repeat' split) <;> (first | with_reducible rfl | (simp only [fw_up_ne (c := 9) (i := 0) (k := 6) (c' := 0) (i' := 0) (k' := k) (by omega), fw_up_ne (c := 34) (i := 0) (k := 0) (c' := 0) (i' := 0) (k' := k) (by omega), msend_0k (i := 0) (k := k) (by omega) (by omega) (by omega), mz56_Mo_reply_0 hc]; done)))
theorem mz56_Mo_pulse_0_j104 {k : Nat} (hc : k = 56) : ∀ (v : fw_V), (mf_Mo_pulse_0_j104 v) 0 0 k = v 0 0 k := by
  intro v
  unfold mf_Mo_pulse_0_j104
  (try dsimp only)
  all_goals ((repeat' split) <;> (first | with_reducible rfl | (simp only [msend_0k (i := 0) (k := k) (by omega) (by omega) (by omega), mz56_Mo_pulse_0_j105 hc]; done)))
theorem mz56_Mo_pulse_0_j107 {k : Nat} (hc : k = 56) : ∀ (v : fw_V), (mf_Mo_pulse_0_j107 v) 0 0 k = v 0 0 k := by
  intro v
  unfold mf_Mo_pulse_0_j107
  (try dsimp only)
  all_goals ((repeat' split) <;> (first | with_reducible rfl | (simp only [fw_up_ne (c := 9) (i := 0) (k := 6) (c' := 0) (i' := 0) (k' := k) (by omega), fw_up_ne (c := 34) (i := 0) (k := 0) (c' := 0) (i' := 0) (k' := k) (by omega), msend_0k (i := 0) (k := k) (by omega) (by omega) (by omega), mz56_Mo_reply_0 hc]; done)))
theorem mz56_Mo_pulse_0_j106 {k : Nat} (hc : k = 56) : ∀ (v : fw_V), (mf_Mo_pulse_0_j106 v) 0 0 k = v 0 0 k := by
  intro v
  unfold mf_Mo_pulse_0_j106
  (try dsimp only)
  all_goals ((repeat' split) <;> (first | with_reducible rfl | (simp only [msend_0k (i := 0) (k := k) (by omega) (by omega) (by omega), mz56_Mo_pulse_0_j107 hc]; done)))
theorem mz56_Mo_pulse_0_j103 {k : Nat} (hc : k = 56) : ∀ (v : fw_V) (x4 : Int32), (mf_Mo_pulse_0_j103 v x4) 0 0 k = v 0 0 k := by
  intro v x4
  unfold mf_Mo_pulse_0_j103
  (try dsimp only)
  all_goals ((repeat' split) <;> (first | with_reducible rfl | (simp only [fw_up_ne (c := 9) (i := 0) (k := 5) (c' := 0) (i' := 0) (k' := k) (by omega), msend_0k (i := 0) (k := k) (by omega) (by omega) (by omega), mz56_Mo_pulse_0_j104 hc, mz56_Mo_pulse_0_j106 hc]; done)))
theorem mz56_Mo_pulse_0_j102 {k : Nat} (hc : k = 56) : ∀ (v : fw_V) (x4 : Int32), (mf_Mo_pulse_0_j102 v x4) 0 0 k = v 0 0 k := by
  intro v x4
  unfold mf_Mo_pulse_0_j102
  (try dsimp only)
  all_goals ((repeat' split) <;> (first | with_reducible rfl | (simp only [msend_0k (i := 0) (k := k) (by omega) (by omega) (by omega), mz56_Mo_pulse_0_j103 hc]; done)))
theorem mz56_Mo_pulse_0_j108 {k : Nat} (hc : k = 56) : ∀ (v : fw_V) (x4 : Int32) (x90 : Int32), (mf_Mo_pulse_0_j108 v x4 x90) 0 0 k = v 0 0 k := by
  intro v x4 x90
  unfold mf_Mo_pulse_0_j108
  (try dsimp only)
  all_goals ((repeat' split) <;> (first | with_reducible rfl | (simp only [fw_up_ne (c := 9) (i := 0) (k := 5) (c' := 0) (i' := 0) (k' := k) (by omega), msend_0k (i := 0) (k := k) (by omega) (by omega) (by omega), mz56_Mo_pulse_0_j104 hc, mz56_Mo_pulse_0_j106 hc]; done)))
theorem mz56_Mo_pulse_0_j101 {k : Nat} (hc : k = 56) : ∀ (v : fw_V), (mf_Mo_pulse_0_j101 v) 0 0 k = v 0 0 k := by
  intro v
  unfold mf_Mo_pulse_0_j101
  (try dsimp only)
  all_goals ((repeat' split) <;> (first | with_reducible rfl | (simp only [msend_0k (i := 0) (k := k) (by omega) (by omega) (by omega), mz56_Mo_pulse_0_j102 hc, mz56_Mo_pulse_0_j108 hc]; done)))
theorem mz56_Mo_pulse_0_j100 {k : Nat} (hc : k = 56) : ∀ (v : fw_V), (mf_Mo_pulse_0_j100 v) 0 0 k = v 0 0 k := by
  intro v
  unfold mf_Mo_pulse_0_j100
  (try dsimp only)
  all_goals ((repeat' split) <;> (first | with_reducible rfl | (simp only [msend_0k (i := 0) (k := k) (by omega) (by omega) (by omega), mz56_Mo_pulse_0_j101 hc]; done)))
theorem mz56_Mo_pulse_0_j113 {k : Nat} (hc : k = 56) : ∀ (v : fw_V), (mf_Mo_pulse_0_j113 v) 0 0 k = v 0 0 k := by
  intro v
  unfold mf_Mo_pulse_0_j113
  (try dsimp only)
  all_goals ((repeat' split) <;> (first | with_reducible rfl | (simp only [msend_0k (i := 0) (k := k) (by omega) (by omega) (by omega), mz56_Mo_pulse_0_j107 hc]; done)))
theorem mz56_Mo_pulse_0_j114 {k : Nat} (hc : k = 56) : ∀ (v : fw_V), (mf_Mo_pulse_0_j114 v) 0 0 k = v 0 0 k := by
  intro v
  unfold mf_Mo_pulse_0_j114
  (try dsimp only)
  all_goals ((repeat' split) <;> (first | with_reducible rfl | (simp only [msend_0k (i := 0) (k := k) (by omega) (by omega) (by omega), mz56_Mo_pulse_0_j107 hc]; done)))
theorem mz56_Mo_pulse_0_j112 {k : Nat} (hc : k = 56) : ∀ (v : fw_V) (x4 : Int32), (mf_Mo_pulse_0_j112 v x4) 0 0 k = v 0 0 k := by
  intro v x4
  unfold mf_Mo_pulse_0_j112
  (try dsimp only)
  all_goals ((repeat' split) <;> (first | with_reducible rfl | (simp only [fw_up_ne (c := 9) (i := 0) (k := 5) (c' := 0) (i' := 0) (k' := k) (by omega), msend_0k (i := 0) (k := k) (by omega) (by omega) (by omega), mz56_Mo_pulse_0_j113 hc, mz56_Mo_pulse_0_j114 hc]; done)))
theorem mz56_Mo_pulse_0_j111 {k : Nat} (hc : k = 56) : ∀ (v : fw_V) (x4 : Int32), (mf_Mo_pulse_0_j111 v x4) 0 0 k = v 0 0 k := by
  intro v x4
  unfold mf_Mo_pulse_0_j111
  (try dsimp only)
  all_goals ((repeat' split) <;> (first | with_reducible rfl | (simp only [msend_0k (i := 0) (k := k) (by omega) (by omega) (by omega), mz56_Mo_pulse_0_j112 hc]; done)))
theorem mz56_Mo_pulse_0_j115 {k : Nat} (hc : k = 56) : ∀ (v : fw_V) (x4 : Int32) (x90 : Int32), (mf_Mo_pulse_0_j115 v x4 x90) 0 0 k = v 0 0 k := by
  intro v x4 x90
  unfold mf_Mo_pulse_0_j115
  (try dsimp only)
  all_goals ((repeat' split) <;> (first | with_reducible rfl | (simp only [fw_up_ne (c := 9) (i := 0) (k := 5) (c' := 0) (i' := 0) (k' := k) (by omega), msend_0k (i := 0) (k := k) (by omega) (by omega) (by omega), mz56_Mo_pulse_0_j113 hc, mz56_Mo_pulse_0_j114 hc]; done)))
theorem mz56_Mo_pulse_0_j110 {k : Nat} (hc : k = 56) : ∀ (v : fw_V), (mf_Mo_pulse_0_j110 v) 0 0 k = v 0 0 k := by
  intro v
  unfold mf_Mo_pulse_0_j110
  (try dsimp only)
  all_goals ((repeat' split) <;> (first | with_reducible rfl | (simp only [msend_0k (i := 0) (k := k) (by omega) (by omega) (by omega), mz56_Mo_pulse_0_j111 hc, mz56_Mo_pulse_0_j115 hc]; done)))
theorem mz56_Mo_pulse_0_j109 {k : Nat} (hc : k = 56) : ∀ (v : fw_V), (mf_Mo_pulse_0_j109 v) 0 0 k = v 0 0 k := by
  intro v
  unfold mf_Mo_pulse_0_j109
  (try dsimp only)
  all_goals ((repeat' split) <;> (first | with_reducible rfl | (simp only [msend_0k (i := 0) (k := k) (by omega) (by omega) (by omega), mz56_Mo_pulse_0_j110 hc]; done)))
theorem mz56_Mo_pulse_0_j99 {k : Nat} (hc : k = 56) : ∀ (v : fw_V) (x4 : Int32), (mf_Mo_pulse_0_j99 v x4) 0 0 k = v 0 0 k := by
  intro v x4
  unfold mf_Mo_pulse_0_j99
  (try dsimp only)
  all_goals ((repeat' split) <;> (first | with_reducible rfl | (simp only [fw_up_ne (c := 9) (i := 0) (k := 4) (c' := 0) (i' := 0) (k' := k) (by omega), msend_0k (i := 0) (k := k) (by omega) (by omega) (by omega), mz56_Mo_pulse_0_j100 hc, mz56_Mo_pulse_0_j109 hc]; done)))
theorem mz56_Mo_pulse_0_j98 {k : Nat} (hc : k = 56) : ∀ (v : fw_V) (x4 : Int32), (mf_Mo_pulse_0_j98 v x4) 0 0 k = v 0 0 k := by
  intro v x4
  unfold mf_Mo_pulse_0_j98
  (try dsimp only)
  all_goals ((repeat' split) <;> (first | with_reducible rfl | (simp only [msend_0k (i := 0) (k := k) (by omega) (by omega) (by omega), mz56_Mo_pulse_0_j99 hc]; done)))
theorem mz56_Mo_pulse_0_j116 {k : Nat} (hc : k = 56) : ∀ (v : fw_V) (x4 : Int32) (x90 : Int32), (mf_Mo_pulse_0_j116 v x4 x90) 0 0 k = v 0 0 k := by
  intro v x4 x90
  unfold mf_Mo_pulse_0_j116
  (try dsimp only)
  all_goals ((repeat' split) <;> (first | with_reducible rfl | (simp only [fw_up_ne (c := 9) (i := 0) (k := 4) (c' := 0) (i' := 0) (k' := k) (by omega), msend_0k (i := 0) (k := k) (by omega) (by omega) (by omega), mz56_Mo_pulse_0_j100 hc, mz56_Mo_pulse_0_j109 hc]; done)))
theorem mz56_Mo_pulse_0_j97 {k : Nat} (hc : k = 56) : ∀ (v : fw_V), (mf_Mo_pulse_0_j97 v) 0 0 k = v 0 0 k := by
  intro v
  unfold mf_Mo_pulse_0_j97
  (try dsimp only)
  all_goals ((repeat' split) <;> (first | with_reducible rfl | (simp only [msend_0k (i := 0) (k := k) (by omega) (by omega) (by omega), mz56_Mo_pulse_0_j98 hc, mz56_Mo_pulse_0_j116 hc]; done)))
theorem mz56_Mo_pulse_0_j96 {k : Nat} (hc : k = 56) : ∀ (v : fw_V), (mf_Mo_pulse_0_j96 v) 0 0 k = v 0 0 k := by
  intro v
  unfold mf_Mo_pulse_0_j96
  (try dsimp only)
  all_goals ((repeat' split) <;> (first | with_reducible rfl | (simp only [msend_0k (i := 0) (k := k) (by omega) (by omega) (by omega), mz56_Mo_pulse_0_j97 hc]; done)))
theorem mz56_Mo_pulse_0_j74 {k : Nat} (hc : k = 56) : ∀ (v : fw_V) (x4 : Int32), (mf_Mo_pulse_0_j74 v x4) 0 0 k = v 0 0 k := by
  intro v x4
  unfold mf_Mo_pulse_0_j74
  (try dsimp only)
  all_goals ((repeat' split) <;> (first | with_reducible rfl | (simp only [fw_up_ne (c := 9) (i := 0) (k := 3) (c' := 0) (i' := 0) (k' := k) (by omega), msend_0k (i := 0) (k := k) (by omega) (by omega) (by omega), mz56_Mo_pulse_0_j75 hc, mz56_Mo_pulse_0_j96 hc]; done)))
theorem mz56_Mo_pulse_0_j73 {k : Nat} (hc : k = 56) : ∀ (v : fw_V) (x4 : Int32), (mf_Mo_pulse_0_j73 v x4) 0 0 k = v 0 0 k := by
  intro v x4
  unfold mf_Mo_pulse_0_j73
  (try dsimp only)
  all_goals ((repeat' split) <;> (first | with_reducible rfl | (simp only [msend_0k (i := 0) (k := k) (by omega) (by omega) (by omega), mz56_Mo_pulse_0_j74 hc]; done)))
theorem mz56_Mo_pulse_0_j117 {k : Nat} (hc : k = 56) : ∀ (v : fw_V) (x4 : Int32) (x90 : Int32), (mf_Mo_pulse_0_j117 v x4 x90) 0 0 k = v 0 0 k := by
  intro v x4 x90
  unfold mf_Mo_pulse_0_j117
  (try dsimp only)
  all_goals ((repeat' split) <;> (first | with_reducible rfl | (simp only [fw_up_ne (c := 9) (i := 0) (k := 3) (c' := 0) (i' := 0) (k' := k) (by omega), msend_0k (i := 0) (k := k) (by omega) (by omega) (by omega), mz56_Mo_pulse_0_j75 hc, mz56_Mo_pulse_0_j96 hc]; done)))
theorem mz56_Mo_pulse_0_j72 {k : Nat} (hc : k = 56) : ∀ (v : fw_V), (mf_Mo_pulse_0_j72 v) 0 0 k = v 0 0 k := by
  intro v
  unfold mf_Mo_pulse_0_j72
  (try dsimp only)
  all_goals ((repeat' split) <;> (first | with_reducible rfl | (simp only [msend_0k (i := 0) (k := k) (by omega) (by omega) (by omega), mz56_Mo_pulse_0_j73 hc, mz56_Mo_pulse_0_j117 hc]; done)))
theorem mz56_Mo_pulse_0_j71 {k : Nat} (hc : k = 56) : ∀ (v : fw_V), (mf_Mo_pulse_0_j71 v) 0 0 k = v 0 0 k := by
  intro v
  unfold mf_Mo_pulse_0_j71
  (try dsimp only)
  all_goals ((repeat' split) <;> (first | with_reducible rfl | (simp only [msend_0k (i := 0) (k := k) (by omega) (by omega) (by omega), mz56_Mo_pulse_0_j72 hc]; done)))
theorem mz56_Mo_pulse_0_j122 {k : Nat} (hc : k = 56) : ∀ (v : fw_V), (mf_Mo_pulse_0_j122 v) 0 0 k = v 0 0 k := by
  intro v
  unfold mf_Mo_pulse_0_j122
  (try dsimp only)
  all_goals ((repeat' split) <;> (first | with_reducible rfl | (simp only [msend_0k (i := 0) (k := k) (by omega) (by omega) (by omega), mz56_Mo_pulse_0_j97 hc]; done)))
theorem mz56_Mo_pulse_0_j123 {k : Nat} (hc : k = 56) : ∀ (v : fw_V), (mf_Mo_pulse_0_j123 v) 0 0 k = v 0 0 k := by
  intro v
  unfold mf_Mo_pulse_0_j123
  (try dsimp only)
  all_goals ((repeat' split) <;> (first | with_reducible rfl | (simp only [msend_0k (i := 0) (k := k) (by omega) (by omega) (by omega), mz56_Mo_pulse_0_j97 hc]; done)))
theorem mz56_Mo_pulse_0_j121 {k : Nat} (hc : k = 56) : ∀ (v : fw_V) (x4 : Int32), (mf_Mo_pulse_0_j121 v x4) 0 0 k = v 0 0 k := by
  intro v x4
  unfold mf_Mo_pulse_0_j121
  (try dsimp only)
  all_goals ((repeat' split) <;> (first | with_reducible rfl | (simp only [fw_up_ne (c := 9) (i := 0) (k := 3) (c' := 0) (i' := 0) (k' := k) (by omega), msend_0k (i := 0) (k := k) (by omega) (by omega) (by omega), mz56_Mo_pulse_0_j122 hc, mz56_Mo_pulse_0_j123 hc]; done)))
theorem mz56_Mo_pulse_0_j120 {k : Nat} (hc : k = 56) : ∀ (v : fw_V) (x4 : Int32), (mf_Mo_pulse_0_j120 v x4) 0 0 k = v 0 0 k := by
  intro v x4
  unfold mf_Mo_pulse_0_j120
  (try dsimp only)
  all_goals ((repeat' split) <;> (first | with_reducible rfl | (simp only [msend_0k (i := 0) (k := k) (by omega) (by omega) (by omega), mz56_Mo_pulse_0_j121 hc]; done)))
theorem mz56_Mo_pulse_0_j124 {k : Nat} (hc : k = 56) : ∀ (v : fw_V) (x4 : Int32) (x90 : Int32), (mf_Mo_pulse_0_j124 v x4 x90) 0 0 k = v 0 0 k := by
  intro v x4 x90
  unfold mf_Mo_pulse_0_j124
  (try dsimp only)
  all_goals ((repeat' split) <;> (first | with_reducible rfl | (simp only [fw_up_ne (c := 9) (i := 0) (k := 3) (c' := 0) (i' := 0) (k' := k) (by omega), msend_0k (i := 0) (k := k) (by omega) (by omega) (by omega), mz56_Mo_pulse_0_j122 hc, mz56_Mo_pulse_0_j123 hc]; done)))
theorem mz56_Mo_pulse_0_j119 {k : Nat} (hc : k = 56) : ∀ (v : fw_V), (mf_Mo_pulse_0_j119 v) 0 0 k = v 0 0 k := by
  intro v
  unfold mf_Mo_pulse_0_j119
  (try dsimp only)
  all_goals ((repeat' split) <;> (first | with_reducible rfl | (simp only [msend_0k (i := 0) (k := k) (by omega) (by omega) (by omega), mz56_Mo_pulse_0_j120 hc, mz56_Mo_pulse_0_j124 hc]; done)))
theorem mz56_Mo_pulse_0_j118 {k : Nat} (hc : k = 56) : ∀ (v : fw_V), (mf_Mo_pulse_0_j118 v) 0 0 k = v 0 0 k := by
  intro v
  unfold mf_Mo_pulse_0_j118
  (try dsimp only)
  all_goals ((repeat' split) <;> (first | with_reducible rfl | (simp only [msend_0k (i := 0) (k := k) (by omega) (by omega) (by omega), mz56_Mo_pulse_0_j119 hc]; done)))
theorem mz56_Mo_pulse_0_j70 {k : Nat} (hc : k = 56) : ∀ (v : fw_V) (x4 : Int32), (mf_Mo_pulse_0_j70 v x4) 0 0 k = v 0 0 k := by
  intro v x4
  unfold mf_Mo_pulse_0_j70
  (try dsimp only)
  all_goals ((repeat' split) <;> (first | with_reducible rfl | (simp only [fw_up_ne (c := 9) (i := 0) (k := 2) (c' := 0) (i' := 0) (k' := k) (by omega), msend_0k (i := 0) (k := k) (by omega) (by omega) (by omega), mz56_Mo_pulse_0_j71 hc, mz56_Mo_pulse_0_j118 hc]; done)))
theorem mz56_Mo_pulse_0_j69 {k : Nat} (hc : k = 56) : ∀ (v : fw_V) (x4 : Int32), (mf_Mo_pulse_0_j69 v x4) 0 0 k = v 0 0 k := by
  intro v x4
  unfold mf_Mo_pulse_0_j69
  (try dsimp only)
  all_goals ((repeat' split) <;> (first | with_reducible rfl | (simp only [msend_0k (i := 0) (k := k) (by omega) (by omega) (by omega), mz56_Mo_pulse_0_j70 hc]; done)))
theorem mz56_Mo_pulse_0_j125 {k : Nat} (hc : k = 56) : ∀ (v : fw_V) (x4 : Int32) (x90 : Int32), (mf_Mo_pulse_0_j125 v x4 x90) 0 0 k = v 0 0 k := by
  intro v x4 x90
  unfold mf_Mo_pulse_0_j125
  (try dsimp only)
  all_goals ((repeat' split) <;> (first | with_reducible rfl | (simp only [fw_up_ne (c := 9) (i := 0) (k := 2) (c' := 0) (i' := 0) (k' := k) (by omega), msend_0k (i := 0) (k := k) (by omega) (by omega) (by omega), mz56_Mo_pulse_0_j71 hc, mz56_Mo_pulse_0_j118 hc]; done)))
theorem mz56_Mo_pulse_0_j68 {k : Nat} (hc : k = 56) : ∀ (v : fw_V), (mf_Mo_pulse_0_j68 v) 0 0 k = v 0 0 k := by
  intro v
  unfold mf_Mo_pulse_0_j68
  (try dsimp only)
  all_goals ((repeat' split) <;> (first | with_reducible rfl | (simp only [msend_0k (i := 0) (k := k) (by omega) (by omega) (by omega), mz56_Mo_pulse_0_j69 hc, mz56_Mo_pulse_0_j125 hc]; done)))
theorem mz56_Mo_pulse_0_j67 {k : Nat} (hc : k = 56) : ∀ (v : fw_V), (mf_Mo_pulse_0_j67 v) 0 0 k = v 0 0 k := by
  intro v
  unfold mf_Mo_pulse_0_j67
  (try dsimp only)
  all_goals ((repeat' split) <;> (first | with_reducible rfl | (simp only [msend_0k (i := 0) (k := k) (by omega) (by omega) (by omega), mz56_Mo_pulse_0_j68 hc]; done)))
theorem mz56_Mo_pulse_0_j7 {k : Nat} (hc : k = 56) : ∀ (v : fw_V) (x4 : Int32), (mf_Mo_pulse_0_j7 v x4) 0 0 k = v 0 0 k := by
  intro v x4
  unfold mf_Mo_pulse_0_j7
  (try dsimp only)
  all_goals ((repeat' split) <;> (first | with_reducible rfl | (simp only [fw_up_ne (c := 9) (i := 0) (k := 1) (c' := 0) (i' := 0) (k' := k) (by omega), msend_0k (i := 0) (k := k) (by omega) (by omega) (by omega), mz56_Mo_pulse_0_j8 hc, mz56_Mo_pulse_0_j67 hc]; done)))
theorem mz56_Mo_pulse_0_j6 {k : Nat} (hc : k = 56) : ∀ (v : fw_V) (x4 : Int32), (mf_Mo_pulse_0_j6 v x4) 0 0 k = v 0 0 k := by
  intro v x4
  unfold mf_Mo_pulse_0_j6
  (try dsimp only)
  all_goals ((repeat' split) <;> (first | with_reducible rfl | (simp only [msend_0k (i := 0) (k := k) (by omega) (by omega) (by omega), mz56_Mo_pulse_0_j7 hc]; done)))
theorem mz56_Mo_pulse_0_j126 {k : Nat} (hc : k = 56) : ∀ (v : fw_V) (x4 : Int32) (x90 : Int32), (mf_Mo_pulse_0_j126 v x4 x90) 0 0 k = v 0 0 k := by
  intro v x4 x90
  unfold mf_Mo_pulse_0_j126
  (try dsimp only)
  all_goals ((repeat' split) <;> (first | with_reducible rfl | (simp only [fw_up_ne (c := 9) (i := 0) (k := 1) (c' := 0) (i' := 0) (k' := k) (by omega), msend_0k (i := 0) (k := k) (by omega) (by omega) (by omega), mz56_Mo_pulse_0_j8 hc, mz56_Mo_pulse_0_j67 hc]; done)))
theorem mz56_Mo_pulse_0_j5 {k : Nat} (hc : k = 56) : ∀ (v : fw_V), (mf_Mo_pulse_0_j5 v) 0 0 k = v 0 0 k := by
  intro v
  unfold mf_Mo_pulse_0_j5
  (try dsimp only)
  all_goals ((repeat' split) <;> (first | with_reducible rfl | (simp only [msend_0k (i := 0) (k := k) (by omega) (by omega) (by omega), mz56_Mo_pulse_0_j6 hc, mz56_Mo_pulse_0_j126 hc]; done)))
theorem mz56_Mo_pulse_0_j4 {k : Nat} (hc : k = 56) : ∀ (v : fw_V), (mf_Mo_pulse_0_j4 v) 0 0 k = v 0 0 k := by
  intro v
  unfold mf_Mo_pulse_0_j4
  (try dsimp only)
  all_goals ((repeat' split) <;> (first | with_reducible rfl | (simp only [msend_0k (i := 0) (k := k) (by omega) (by omega) (by omega), mz56_Mo_pulse_0_j5 hc]; done)))
theorem mz56_Mo_pulse_0_j131 {k : Nat} (hc : k = 56) : ∀ (v : fw_V), (mf_Mo_pulse_0_j131 v) 0 0 k = v 0 0 k := by
  intro v
  unfold mf_Mo_pulse_0_j131
  (try dsimp only)
  all_goals ((repeat' split) <;> (first | with_reducible rfl | (simp only [msend_0k (i := 0) (k := k) (by omega) (by omega) (by omega), mz56_Mo_pulse_0_j68 hc]; done)))
theorem mz56_Mo_pulse_0_j132 {k : Nat} (hc : k = 56) : ∀ (v : fw_V), (mf_Mo_pulse_0_j132 v) 0 0 k = v 0 0 k := by
  intro v
  unfold mf_Mo_pulse_0_j132
  (try dsimp only)
  all_goals ((repeat' split) <;> (first | with_reducible rfl | (simp only [msend_0k (i := 0) (k := k) (by omega) (by omega) (by omega), mz56_Mo_pulse_0_j68 hc]; done)))
theorem mz56_Mo_pulse_0_j130 {k : Nat} (hc : k = 56) : ∀ (v : fw_V) (x4 : Int32), (mf_Mo_pulse_0_j130 v x4) 0 0 k = v 0 0 k := by
  intro v x4
  unfold mf_Mo_pulse_0_j130
  (try dsimp only)
  all_goals ((repeat' split) <;> (first | with_reducible rfl | (simp only [fw_up_ne (c := 9) (i := 0) (k := 1) (c' := 0) (i' := 0) (k' := k) (by omega), msend_0k (i := 0) (k := k) (by omega) (by omega) (by omega), mz56_Mo_pulse_0_j131 hc, mz56_Mo_pulse_0_j132 hc]; done)))
theorem mz56_Mo_pulse_0_j129 {k : Nat} (hc : k = 56) : ∀ (v : fw_V) (x4 : Int32), (mf_Mo_pulse_0_j129 v x4) 0 0 k = v 0 0 k := by
  intro v x4
  unfold mf_Mo_pulse_0_j129
  (try dsimp only)
  all_goals ((repeat' split) <;> (first | with_reducible rfl | (simp only [msend_0k (i := 0) (k := k) (by omega) (by omega) (by omega), mz56_Mo_pulse_0_j130 hc]; done)))
theorem mz56_Mo_pulse_0_j133 {k : Nat} (hc : k = 56) : ∀ (v : fw_V) (x4 : Int32) (x90 : Int32), (mf_Mo_pulse_0_j133 v x4 x90) 0 0 k = v 0 0 k := by
  intro v x4 x90
  unfold mf_Mo_pulse_0_j133
  (try dsimp only)
  all_goals ((repeat' split) <;> (first | with_reducible rfl | (simp only [fw_up_ne (c := 9) (i := 0) (k := 1) (c' := 0) (i' := 0) (k' := k) (by omega), msend_0k (i := 0) (k := k) (by omega) (by omega) (by omega), mz56_Mo_pulse_0_j131 hc, mz56_Mo_pulse_0_j132 hc]; done)))
theorem mz56_Mo_pulse_0_j128 {k : Nat} (hc : k = 56) : ∀ (v : fw_V), (mf_Mo_pulse_0_j128 v) 0 0 k = v 0 0 k := by
  intro v
  unfold mf_Mo_pulse_0_j128
  (try dsimp only)
  all_goals ((repeat' split) <;> (first | with_reducible rfl | (simp only [msend_0k (i := 0) (k := k) (by omega) (by omega) (by omega), mz56_Mo_pulse_0_j129 hc, mz56_Mo_pulse_0_j133 hc]; done)))
theorem mz56_Mo_pulse_0_j127 {k : Nat} (hc : k = 56) : ∀ (v : fw_V), (mf_Mo_pulse_0_j127 v) 0 0 k = v 0 0 k := by
  intro v
  unfold mf_Mo_pulse_0_j127
  (try dsimp only)
  all_goals ((repeat' split) <;> (first | with_reducible rfl | (simp only [msend_0k (i := 0) (k := k) (by omega) (by omega) (by omega), mz56_Mo_pulse_0_j128 hc]; done)))
theorem mz56_Mo_pulse_0_j3 {k : Nat} (hc : k = 56) : ∀ (v : fw_V) (x4 : Int32), (mf_Mo_pulse_0_j3 v x4) 0 0 k = v 0 0 k := by
  intro v x4
  unfold mf_Mo_pulse_0_j3
  (try dsimp only)
  all_goals ((repeat' split) <;> (first | with_reducible rfl | (simp only [fw_up_ne (c := 9) (i := 0) (k := 0) (c' := 0) (i' := 0) (k' := k) (by omega), msend_0k (i := 0) (k := k) (by omega) (by omega) (by omega), mz56_Mo_pulse_0_j4 hc, mz56_Mo_pulse_0_j127 hc]; done)))
theorem mz56_Mo_pulse_0_j2 {k : Nat} (hc : k = 56) : ∀ (v : fw_V) (x4 : Int32), (mf_Mo_pulse_0_j2 v x4) 0 0 k = v 0 0 k := by
  intro v x4
  unfold mf_Mo_pulse_0_j2
  (try dsimp only)
  all_goals ((repeat' split) <;> (first | with_reducible rfl | (simp only [msend_0k (i := 0) (k := k) (by omega) (by omega) (by omega), mz56_Mo_pulse_0_j3 hc]; done)))
theorem mz56_Mo_pulse_0_j134 {k : Nat} (hc : k = 56) : ∀ (v : fw_V) (x4 : Int32) (x90 : Int32), (mf_Mo_pulse_0_j134 v x4 x90) 0 0 k = v 0 0 k := by
  intro v x4 x90
  unfold mf_Mo_pulse_0_j134
  (try dsimp only)
  all_goals ((repeat' split) <;> (first | with_reducible rfl | (simp only [fw_up_ne (c := 9) (i := 0) (k := 0) (c' := 0) (i' := 0) (k' := k) (by omega), msend_0k (i := 0) (k := k) (by omega) (by omega) (by omega), mz56_Mo_pulse_0_j4 hc, mz56_Mo_pulse_0_j127 hc]; done)))
theorem mz56_Mo_pulse_0_j1 {k : Nat} (hc : k = 56) : ∀ (v : fw_V), (mf_Mo_pulse_0_j1 v) 0 0 k = v 0 0 k := by
  intro v
  unfold mf_Mo_pulse_0_j1
  (try dsimp only)
  all_goals ((repeat' split) <;> (first | with_reducible rfl | (simp only [msend_0k (i := 0) (k := k) (by omega) (by omega) (by omega), mz56_Mo_pulse_0_j2 hc, mz56_Mo_pulse_0_j134 hc]; done)))
theorem mz56_Mo_enter_1 {k : Nat} (hc : k = 56) : ∀ (v0 : fw_V) (a2 : Int32), (mf_Mo_enter_1 v0 a2) 0 0 k = v0 0 0 k := by
  intro v0 a2
  unfold mf_Mo_enter_1
  (try dsimp only)
  all_goals ((repeat' split) <;> (first | with_reducible rfl | (simp only [fw_up_ne (c := 12) (i := 0) (k := 1) (c' := 0) (i' := 0) (k' := k) (by omega), fw_up_ne (c := 18) (i := 0) (k := 1) (c' := 0) (i' := 0) (k' := k) (by omega), fw_up_ne (c := 19) (i := 0) (k := 1) (c' := 0) (i' := 0) (k' := k) (by omega), msend_0k (i := 0) (k := k) (by omega) (by omega) (by omega)]; done)))
theorem mz56_Mo_ask_1 {k : Nat} (hc : k = 56) : ∀ (v0 : fw_V), (mf_Mo_ask_1 v0) 0 0 k = v0 0 0 k := by
  intro v0
  unfold mf_Mo_ask_1
  (try dsimp only)
  all_goals ((repeat' split) <;> (first | with_reducible rfl | (simp only [fw_up_ne (c := 18) (i := 0) (k := 1) (c' := 0) (i' := 0) (k' := k) (by omega), fw_up_ne (c := 9) (i := 0) (k := 0) (c' := 0) (i' := 0) (k' := k) (by omega), fw_up_ne (c := 9) (i := 0) (k := 1) (c' := 0) (i' := 0) (k' := k) (by omega), fw_up_ne (c := 9) (i := 0) (k := 2) (c' := 0) (i' := 0) (k' := k) (by omega), msend_0k (i := 0) (k := k) (by omega) (by omega) (by omega)]; done)))
theorem mz56_Mo_shut_1 {k : Nat} (hc : k = 56) : ∀ (v0 : fw_V), (mf_Mo_shut_1 v0) 0 0 k = v0 0 0 k := by
  intro v0
  unfold mf_Mo_shut_1
  (try dsimp only)
  all_goals ((repeat' split) <;> (first | with_reducible rfl | (simp only [fw_up_ne (c := 13) (i := 0) (k := 1) (c' := 0) (i' := 0) (k' := k) (by omega), fw_up_ne (c := 15) (i := 0) (k := 1) (c' := 0) (i' := 0) (k' := k) (by omega), fw_up_ne (c := 16) (i := 0) (k := 1) (c' := 0) (i' := 0) (k' := k) (by omega), fw_up_ne (c := 17) (i := 0) (k := 1) (c' := 0) (i' := 0) (k' := k) (by omega), fw_up_ne (c := 27) (i := 0) (k := 6) (c' := 0) (i' := 0) (k' := k) (by omega), fw_up_ne (c := 27) (i := 0) (k := 7) (c' := 0) (i' := 0) (k' := k) (by omega), fw_up_ne (c := 27) (i := 0) (k := 8) (c' := 0) (i' := 0) (k' := k) (by omega), fw_up_ne (c := 27) (i := 0) (k := 9) (c' := 0) (i' := 0) (k' := k) (by omega), fw_up_ne (c := 27) (i := 0) (k := 10) (c' := 0) (i' := 0) (k' := k) (by omega), fw_up_ne (c := 27) (i := 0) (k := 11) (c' := 0) (i' := 0) (k' := k) (by omega), msend_0k (i := 0) (k := k) (by omega) (by omega) (by omega), mz56_Mo_enter_1 hc]; done)))
theorem mz56_Mo_write_1_j2 {k : Nat} (hc : k = 56) : ∀ (v : fw_V) (a2 : Int32) (x3 : Int32), (mf_Mo_write_1_j2 v a2 x3) 0 0 k = v 0 0 k := by
  intro v a2 x3
  unfold mf_Mo_write_1_j2
  (try dsimp only)
  all_goals ((repeat' split) <;> (first | with_reducible rfl | (simp only [fw_up_ne (c := 20) (i := 0) (k := 1) (c' := 0) (i' := 0) (k' := k) (by omega), msend_0k (i := 0) (k := k) (by omega) (by omega) (by omega), mz56_Mo_enter_1 hc, mz56_Mo_ask_1 hc]; done)))
theorem mz56_Mo_write_1_j3 {k : Nat} (hc : k = 56) : ∀ (v : fw_V) (a2 : Int32) (x3 : Int32), (mf_Mo_write_1_j3 v a2 x3) 0 0 k = v 0 0 k := by
  intro v a2 x3
  unfold mf_Mo_write_1_j3
  (try dsimp only)
  all_goals ((repeat' split) <;> (first | with_reducible rfl | (simp only [fw_up_ne (c := 20) (i := 0) (k := 1) (c' := 0) (i' := 0) (k' := k) (by omega), msend_0k (i := 0) (k := k) (by omega) (by omega) (by omega), mz56_Mo_enter_1 hc, mz56_Mo_ask_1 hc]; done)))
theorem mz56_Mo_write_1_j1 {k : Nat} (hc : k = 56) : ∀ (n : Nat) (v : fw_V) (a2 : Int32) (x3 : Int32), (mf_Mo_write_1_j1 n v a2 x3) 0 0 k = v 0 0 k := by
  intro n
  induction n with
  | zero => intros; rfl
  | succ n ih =>
    intro v a2 x3
    unfold mf_Mo_write_1_j1
    (try dsimp only)
    all_goals ((repeat' split) <;> (first | with_reducible rfl | (simp only [ih, msend_0k (i := 0) (k := k) (by omega) (by omega) (by omega), mz56_Mo_write_1_j2 hc, mz56_Mo_write_1_j3 hc]; done)))
theorem mz56_Mo_write_1 {k : Nat} (hc : k = 56) : ∀ (v0 : fw_V) (a2 : Int32), (mf_Mo_write_1 v0 a2) 0 0 k = v0 0 0 k := by
  intro v0 a2
  unfold mf_Mo_write_1
  (try dsimp only)
  all_goals ((repeat' split) <;> (first | with_reducible rfl | (simp only [msend_0k (i := 0) (k := k) (by omega) (by omega) (by omega), mz56_Mo_write_1_j1 hc]; done)))
theorem mz56_Mo_breakOff_1 {k : Nat} (hc : k = 56) : ∀ (v0 : fw_V), (mf_Mo_breakOff_1 v0) 0 0 k = v0 0 0 k := by
  intro v0
  unfold mf_Mo_breakOff_1
  (try dsimp only)
  all_goals ((repeat' split) <;> (first | with_reducible rfl | (simp only [msend_0k (i := 0) (k := k) (by omega) (by omega) (by omega), mz56_Mo_shut_1 hc]; done)))
theorem mz56_Mo_tell_1_j2 {k : Nat} (hc : k = 56) : ∀ (v : fw_V) (a2 : Int32) (x3 : Int32) (x4 : Int32) (x90 : Int32), (mf_Mo_tell_1_j2 v a2 x3 x4 x90) 0 0 k = v 0 0 k := by
  intro v a2 x3 x4 x90
  unfold mf_Mo_tell_1_j2
  (try dsimp only)
  all_goals ((repeat' split) <;> (first | with_reducible rfl | (simp only [fw_up_ne (c := 16) (i := 0) (k := 1) (c' := 0) (i' := 0) (k' := k) (by omega), fw_up_ne (c := 49) (i := 0) (k := 7) (c' := 0) (i' := 0) (k' := k) (by omega), fw_up_ne (c := 49) (i := 0) (k := 6) (c' := 0) (i' := 0) (k' := k) (by omega), fw_up_ne (c := 49) (i := 0) (k := 5) (c' := 0) (i' := 0) (k' := k) (by omega), fw_up_ne (c := 49) (i := 0) (k := 4) (c' := 0) (i' := 0) (k' := k) (by omega), fw_up_ne (c := 49) (i := 0) (k := 3) (c' := 0) (i' := 0) (k' := k) (by omega), fw_up_ne (c := 49) (i := 0) (k := 2) (c' := 0) (i' := 0) (k' := k) (by omega), fw_up_ne (c := 49) (i := 0) (k := 1) (c' := 0) (i' := 0) (k' := k) (by omega), fw_up_ne (c := 49) (i := 0) (k := 0) (c' := 0) (i' := 0) (k' := k) (by omega), fw_up_ne (c := 0) (i := 0) (k := 55) (c' := 0) (i' := 0) (k' := k) (by omega), msend_0k (i := 0) (k := k) (by omega) (by omega) (by omega)]; done)))
theorem mz56_Mo_tell_1_j1 {k : Nat} (hc : k = 56) : ∀ (v : fw_V) (a2 : Int32) (x3 : Int32) (x4 : Int32), (mf_Mo_tell_1_j1 v a2 x3 x4) 0 0 k = v 0 0 k := by
  intro v a2 x3 x4
  unfold mf_Mo_tell_1_j1
  (try dsimp only)
  all_goals ((repeat' split) <;> (first | with_reducible rfl | (simp only [msend_0k (i := 0) (k := k) (by omega) (by omega) (by omega), mz56_Mo_tell_1_j2 hc]; done)))
theorem mz56_Mo_tell_1 {k : Nat} (hc : k = 56) : ∀ (v0 : fw_V) (a2 : Int32), (mf_Mo_tell_1 v0 a2) 0 0 k = v0 0 0 k := by
  intro v0 a2
  unfold mf_Mo_tell_1
  (try dsimp only)
  all_goals ((repeat' split) <;> (first | with_reducible rfl | (simp only [fw_up_ne (c := 23) (i := 0) (k := 1) (c' := 0) (i' := 0) (k' := k) (by omega), msend_0k (i := 0) (k := k) (by omega) (by omega) (by omega), mz56_Mo_tell_1_j1 hc, mz56_Mo_tell_1_j2 hc]; done)))
theorem mz56_Mo_hears_1_j6 {k : Nat} (hc : k = 56) : ∀ (v0 : fw_V) (a2 : Int32) (a3 : Int32), (mf_Mo_hears_1_j6 v0 a2 a3) 0 0 k = v0 0 0 k := by
  intro v0 a2 a3
  unfold mf_Mo_hears_1_j6
  (try dsimp only)
  all_goals ((repeat' split) <;> (first | with_reducible rfl | (simp only [msend_0k (i := 0) (k := k) (by omega) (by omega) (by omega), mz56_Mo_tell_1 hc, mz56_Mo_shut_1 hc]; done)))
theorem mz56_Mo_hears_1_j5 {k : Nat} (hc : k = 56) : ∀ (v0 : fw_V) (a2 : Int32) (a3 : Int32), (mf_Mo_hears_1_j5 v0 a2 a3) 0 0 k = v0 0 0 k := by
  intro v0 a2 a3
  unfold mf_Mo_hears_1_j5
  (try dsimp only)
  all_goals ((repeat' split) <;> (first | with_reducible rfl | (simp only [fw_up_ne (c := 22) (i := 0) (k := 1) (c' := 0) (i' := 0) (k' := k) (by omega), fw_up_ne (c := 18) (i := 0) (k := 1) (c' := 0) (i' := 0) (k' := k) (by omega), fw_up_ne (c := 17) (i := 0) (k := 1) (c' := 0) (i' := 0) (k' := k) (by omega), fw_up_ne (c := 27) (i := 0) (k := 6) (c' := 0) (i' := 0) (k' := k) (by omega), fw_up_ne (c := 27) (i := 0) (k := 7) (c' := 0) (i' := 0) (k' := k) (by omega), fw_up_ne (c := 27) (i := 0) (k := 8) (c' := 0) (i' := 0) (k' := k) (by omega), fw_up_ne (c := 27) (i := 0) (k := 9) (c' := 0) (i' := 0) (k' := k) (by omega), fw_up_ne (c := 27) (i := 0) (k := 10) (c' := 0) (i' := 0) (k' := k) (by omega), fw_up_ne (c := 27) (i := 0) (k := 11) (c' := 0) (i' := 0) (k' := k) (by omega), msend_0k (i := 0) (k := k) (by omega) (by omega) (by omega), mz56_Mo_hears_1_j6 hc]; done)))
theorem mz56_Mo_hears_1_j4 {k : Nat} (hc : k = 56) : ∀ (v0 : fw_V) (a2 : Int32) (a3 : Int32), (mf_Mo_hears_1_j4 v0 a2 a3) 0 0 k = v0 0 0 k := by
  intro v0 a2 a3
  unfold mf_Mo_hears_1_j4
  (try dsimp only)
  all_goals ((repeat' split) <;> (first | with_reducible rfl | (simp only [fw_up_ne (c := 21) (i := 0) (k := 1) (c' := 0) (i' := 0) (k' := k) (by omega), fw_up_ne (c := 22) (i := 0) (k := 1) (c' := 0) (i' := 0) (k' := k) (by omega), fw_up_ne (c := 17) (i := 0) (k := 1) (c' := 0) (i' := 0) (k' := k) (by omega), msend_0k (i := 0) (k := k) (by omega) (by omega) (by omega), mz56_Mo_hears_1_j5 hc, mz56_Mo_enter_1 hc]; done)))
theorem mz56_Mo_hears_1_j3 {k : Nat} (hc : k = 56) : ∀ (v0 : fw_V) (a2 : Int32) (a3 : Int32), (mf_Mo_hears_1_j3 v0 a2 a3) 0 0 k = v0 0 0 k := by
  intro v0 a2 a3
  unfold mf_Mo_hears_1_j3
  (try dsimp only)
  all_goals ((repeat' split) <;> (first | with_reducible rfl | (simp only [msend_0k (i := 0) (k := k) (by omega) (by omega) (by omega), mz56_Mo_enter_1 hc, mz56_Mo_hears_1_j4 hc]; done)))
theorem mz56_Mo_hears_1_j2 {k : Nat} (hc : k = 56) : ∀ (v0 : fw_V) (a2 : Int32) (a3 : Int32), (mf_Mo_hears_1_j2 v0 a2 a3) 0 0 k = v0 0 0 k := by
  intro v0 a2 a3
  unfold mf_Mo_hears_1_j2
  (try dsimp only)
  all_goals ((repeat' split) <;> (first | with_reducible rfl | (simp only [msend_0k (i := 0) (k := k) (by omega) (by omega) (by omega), mz56_Mo_write_1 hc, mz56_Mo_hears_1_j3 hc]; done)))
theorem mz56_Mo_hears_1_j1 {k : Nat} (hc : k = 56) : ∀ (v0 : fw_V) (a2 : Int32) (a3 : Int32), (mf_Mo_hears_1_j1 v0 a2 a3) 0 0 k = v0 0 0 k := by
  intro v0 a2 a3
  unfold mf_Mo_hears_1_j1
  (try dsimp only)
  all_goals ((repeat' split) <;> (first | with_reducible rfl | (simp only [msend_0k (i := 0) (k := k) (by omega) (by omega) (by omega), mz56_Mo_shut_1 hc, mz56_Mo_hears_1_j2 hc]; done)))
theorem mz56_Mo_hears_1 {k : Nat} (hc : k = 56) : ∀ (v0 : fw_V) (a2 : Int32) (a3 : Int32), (mf_Mo_hears_1 v0 a2 a3) 0 0 k = v0 0 0 k := by
  intro v0 a2 a3
  unfold mf_Mo_hears_1
  (try dsimp only)
  all_goals ((repeat' split) <;> (first | with_reducible rfl | (simp only [fw_up_ne (c := 16) (i := 0) (k := 1) (c' := 0) (i' := 0) (k' := k) (by omega), msend_0k (i := 0) (k := k) (by omega) (by omega) (by omega), mz56_Mo_write_1 hc, mz56_Mo_hears_1_j1 hc]; done)))
theorem mz56_Mo_mark_1_j2 {k : Nat} (hc : k = 56) : ∀ (v0 : fw_V) (a2 : Int32), (mf_Mo_mark_1_j2 v0 a2) 0 0 k = v0 0 0 k := by
  intro v0 a2
  unfold mf_Mo_mark_1_j2
  (try dsimp only)
  all_goals ((repeat' split) <;> (first | with_reducible rfl | (simp only [fw_up_ne (c := 31) (i := 0) (k := 1) (c' := 0) (i' := 0) (k' := k) (by omega), msend_0k (i := 0) (k := k) (by omega) (by omega) (by omega)]; done)))
theorem mz56_Mo_mark_1_j1 {k : Nat} (hc : k = 56) : ∀ (v0 : fw_V) (a2 : Int32), (mf_Mo_mark_1_j1 v0 a2) 0 0 k = v0 0 0 k := by
  intro v0 a2
  unfold mf_Mo_mark_1_j1
  (try dsimp only)
  all_goals ((repeat' split) <;> (first | with_reducible rfl | (simp only [msend_0k (i := 0) (k := k) (by omega) (by omega) (by omega), mz56_Mo_mark_1_j2 hc]; done)))
theorem mz56_Mo_mark_1_j3 {k : Nat} (hc : k = 56) : ∀ (v0 : fw_V) (a2 : Int32), (mf_Mo_mark_1_j3 v0 a2) 0 0 k = v0 0 0 k := by
  intro v0 a2
  unfold mf_Mo_mark_1_j3
  (try dsimp only)
  all_goals ((repeat' split) <;> (first | with_reducible rfl | (simp only [fw_up_ne (c := 31) (i := 0) (k := 1) (c' := 0) (i' := 0) (k' := k) (by omega), msend_0k (i := 0) (k := k) (by omega) (by omega) (by omega)]; done)))
theorem mz56_Mo_mark_1 {k : Nat} (hc : k = 56) : ∀ (v0 : fw_V) (a2 : Int32), (mf_Mo_mark_1 v0 a2) 0 0 k = v0 0 0 k := by
  intro v0 a2
  unfold mf_Mo_mark_1
  (try dsimp only)
  all_goals ((repeat' split) <;> (first | with_reducible rfl | (simp only [msend_0k (i := 0) (k := k) (by omega) (by omega) (by omega), mz56_Mo_mark_1_j1 hc, mz56_Mo_mark_1_j3 hc]; done)))
theorem mz56_Mo_replace_1_j8 {k : Nat} (hc : k = 56) : ∀ (v : fw_V) (a2 : Int32) (x4 : Int32), (mf_Mo_replace_1_j8 v a2 x4) 0 0 k = v 0 0 k := by
  intro v a2 x4
  unfold mf_Mo_replace_1_j8
  (try dsimp only)
  all_goals ((repeat' split) <;> (first | with_reducible rfl | (simp only [msend_0k (i := 0) (k := k) (by omega) (by omega) (by omega)]; done)))
theorem mz56_Mo_replace_1_j7 {k : Nat} (hc : k = 56) : ∀ (v : fw_V) (a2 : Int32) (x4 : Int32), (mf_Mo_replace_1_j7 v a2 x4) 0 0 k = v 0 0 k := by
  intro v a2 x4
  unfold mf_Mo_replace_1_j7
  (try dsimp only)
  all_goals ((repeat' split) <;> (first | with_reducible rfl | (simp only [msend_0k (i := 0) (k := k) (by omega) (by omega) (by omega), mz56_Mo_replace_1_j8 hc]; done)))
theorem mz56_Mo_replace_1_j6 {k : Nat} (hc : k = 56) : ∀ (v : fw_V) (a2 : Int32) (x4 : Int32), (mf_Mo_replace_1_j6 v a2 x4) 0 0 k = v 0 0 k := by
  intro v a2 x4
  unfold mf_Mo_replace_1_j6
  (try dsimp only)
  all_goals ((repeat' split) <;> (first | with_reducible rfl | (simp only [fw_up_c (c := 46) (c' := 0) (by decide), msend_0k (i := 0) (k := k) (by omega) (by omega) (by omega), mz56_Mo_replace_1_j7 hc]; done)))
theorem mz56_Mo_replace_1_j5 {k : Nat} (hc : k = 56) : ∀ (v : fw_V) (a2 : Int32) (x4 : Int32), (mf_Mo_replace_1_j5 v a2 x4) 0 0 k = v 0 0 k := by
  intro v a2 x4
  unfold mf_Mo_replace_1_j5
  (try dsimp only)
  all_goals ((repeat' split) <;> (first | with_reducible rfl | (simp only [fw_up_c (c := 46) (c' := 0) (by decide), msend_0k (i := 0) (k := k) (by omega) (by omega) (by omega), mz56_Mo_replace_1_j6 hc, mz56_Mo_replace_1_j7 hc]; done)))
theorem mz56_Mo_replace_1_j4 {k : Nat} (hc : k = 56) : ∀ (v : fw_V) (a2 : Int32) (x4 : Int32), (mf_Mo_replace_1_j4 v a2 x4) 0 0 k = v 0 0 k := by
  intro v a2 x4
  unfold mf_Mo_replace_1_j4
  (try dsimp only)
  all_goals ((repeat' split) <;> (first | with_reducible rfl | (simp only [msend_0k (i := 0) (k := k) (by omega) (by omega) (by omega), mz56_Mo_replace_1_j5 hc]; done)))
theorem mz56_Mo_replace_1_j3 {k : Nat} (hc : k = 56) : ∀ (v0 : fw_V) (a2 : Int32), (mf_Mo_replace_1_j3 v0 a2) 0 0 k = v0 0 0 k := by
  intro v0 a2
  unfold mf_Mo_replace_1_j3
  (try dsimp only)
  all_goals ((repeat' split) <;> (first | with_reducible rfl | (simp only [fw_up_c (c := 46) (c' := 0) (by decide), msend_0k (i := 0) (k := k) (by omega) (by omega) (by omega), mz56_Mo_replace_1_j4 hc]; done)))
theorem mz56_Mo_replace_1_j11 {k : Nat} (hc : k = 56) : ∀ (v0 : fw_V) (a2 : Int32), (mf_Mo_replace_1_j11 v0 a2) 0 0 k = v0 0 0 k := by
  intro v0 a2
  unfold mf_Mo_replace_1_j11
  (try dsimp only)
  all_goals ((repeat' split) <;> (first | with_reducible rfl | (simp only [fw_up_c (c := 46) (c' := 0) (by decide), msend_0k (i := 0) (k := k) (by omega) (by omega) (by omega), mz56_Mo_replace_1_j7 hc]; done)))
theorem mz56_Mo_replace_1_j13 {k : Nat} (hc : k = 56) : ∀ (v0 : fw_V) (a2 : Int32), (mf_Mo_replace_1_j13 v0 a2) 0 0 k = v0 0 0 k := by
  intro v0 a2
  unfold mf_Mo_replace_1_j13
  (try dsimp only)
  all_goals ((repeat' split) <;> (first | with_reducible rfl | (simp only [msend_0k (i := 0) (k := k) (by omega) (by omega) (by omega)]; done)))
theorem mz56_Mo_replace_1_j12 {k : Nat} (hc : k = 56) : ∀ (v0 : fw_V) (a2 : Int32), (mf_Mo_replace_1_j12 v0 a2) 0 0 k = v0 0 0 k := by
  intro v0 a2
  unfold mf_Mo_replace_1_j12
  (try dsimp only)
  all_goals ((repeat' split) <;> (first | with_reducible rfl | (simp only [msend_0k (i := 0) (k := k) (by omega) (by omega) (by omega), mz56_Mo_replace_1_j13 hc]; done)))
theorem mz56_Mo_replace_1_j10 {k : Nat} (hc : k = 56) : ∀ (v0 : fw_V) (a2 : Int32), (mf_Mo_replace_1_j10 v0 a2) 0 0 k = v0 0 0 k := by
  intro v0 a2
  unfold mf_Mo_replace_1_j10
  (try dsimp only)
  all_goals ((repeat' split) <;> (first | with_reducible rfl | (simp only [fw_up_c (c := 46) (c' := 0) (by decide), msend_0k (i := 0) (k := k) (by omega) (by omega) (by omega), mz56_Mo_replace_1_j11 hc, mz56_Mo_replace_1_j7 hc, mz56_Mo_replace_1_j12 hc]; done)))
theorem mz56_Mo_replace_1_j9 {k : Nat} (hc : k = 56) : ∀ (v0 : fw_V) (a2 : Int32), (mf_Mo_replace_1_j9 v0 a2) 0 0 k = v0 0 0 k := by
  intro v0 a2
  unfold mf_Mo_replace_1_j9
  (try dsimp only)
  all_goals ((repeat' split) <;> (first | with_reducible rfl | (simp only [msend_0k (i := 0) (k := k) (by omega) (by omega) (by omega), mz56_Mo_replace_1_j10 hc]; done)))
theorem mz56_Mo_replace_1_j2 {k : Nat} (hc : k = 56) : ∀ (v0 : fw_V) (a2 : Int32), (mf_Mo_replace_1_j2 v0 a2) 0 0 k = v0 0 0 k := by
  intro v0 a2
  unfold mf_Mo_replace_1_j2
  (try dsimp only)
  all_goals ((repeat' split) <;> (first | with_reducible rfl | (simp only [fw_up_c (c := 46) (c' := 0) (by decide), msend_0k (i := 0) (k := k) (by omega) (by omega) (by omega), mz56_Mo_replace_1_j3 hc, mz56_Mo_replace_1_j4 hc, mz56_Mo_replace_1_j9 hc]; done)))
theorem mz56_Mo_replace_1_j1 {k : Nat} (hc : k = 56) : ∀ (v0 : fw_V) (a2 : Int32), (mf_Mo_replace_1_j1 v0 a2) 0 0 k = v0 0 0 k := by
  intro v0 a2
  unfold mf_Mo_replace_1_j1
  (try dsimp only)
  all_goals ((repeat' split) <;> (first | with_reducible rfl | (simp only [msend_0k (i := 0) (k := k) (by omega) (by omega) (by omega), mz56_Mo_replace_1_j2 hc]; done)))
theorem mz56_Mo_replace_1_j21 {k : Nat} (hc : k = 56) : ∀ (v : fw_V) (a2 : Int32), (mf_Mo_replace_1_j21 v a2) 0 0 k = v 0 0 k := by
  intro v a2
  unfold mf_Mo_replace_1_j21
  (try dsimp only)
  all_goals ((repeat' split) <;> (first | with_reducible rfl | (simp only [msend_0k (i := 0) (k := k) (by omega) (by omega) (by omega)]; done)))
theorem mz56_Mo_replace_1_j20 {k : Nat} (hc : k = 56) : ∀ (v : fw_V) (a2 : Int32), (mf_Mo_replace_1_j20 v a2) 0 0 k = v 0 0 k := by
  intro v a2
  unfold mf_Mo_replace_1_j20
  (try dsimp only)
  all_goals ((repeat' split) <;> (first | with_reducible rfl | (simp only [msend_0k (i := 0) (k := k) (by omega) (by omega) (by omega), mz56_Mo_replace_1_j21 hc]; done)))
theorem mz56_Mo_replace_1_j19 {k : Nat} (hc : k = 56) : ∀ (v : fw_V) (a2 : Int32), (mf_Mo_replace_1_j19 v a2) 0 0 k = v 0 0 k := by
  intro v a2
  unfold mf_Mo_replace_1_j19
  (try dsimp only)
  all_goals ((repeat' split) <;> (first | with_reducible rfl | (simp only [fw_up_c (c := 46) (c' := 0) (by decide), msend_0k (i := 0) (k := k) (by omega) (by omega) (by omega), mz56_Mo_replace_1_j20 hc]; done)))
theorem mz56_Mo_replace_1_j18 {k : Nat} (hc : k = 56) : ∀ (v : fw_V) (a2 : Int32), (mf_Mo_replace_1_j18 v a2) 0 0 k = v 0 0 k := by
  intro v a2
  unfold mf_Mo_replace_1_j18
  (try dsimp only)
  all_goals ((repeat' split) <;> (first | with_reducible rfl | (simp only [msend_0k (i := 0) (k := k) (by omega) (by omega) (by omega), mz56_Mo_replace_1_j19 hc]; done)))
theorem mz56_Mo_replace_1_j17 {k : Nat} (hc : k = 56) : ∀ (v : fw_V) (a2 : Int32), (mf_Mo_replace_1_j17 v a2) 0 0 k = v 0 0 k := by
  intro v a2
  unfold mf_Mo_replace_1_j17
  (try dsimp only)
  all_goals ((repeat' split) <;> (first | with_reducible rfl | (simp only [msend_0k (i := 0) (k := k) (by omega) (by omega) (by omega), mz56_Mo_replace_1_j18 hc]; done)))
theorem mz56_Mo_replace_1_j16 {k : Nat} (hc : k = 56) : ∀ (v0 : fw_V) (a2 : Int32), (mf_Mo_replace_1_j16 v0 a2) 0 0 k = v0 0 0 k := by
  intro v0 a2
  unfold mf_Mo_replace_1_j16
  (try dsimp only)
  all_goals ((repeat' split) <;> (first | with_reducible rfl | (simp only [fw_up_c (c := 46) (c' := 0) (by decide), msend_0k (i := 0) (k := k) (by omega) (by omega) (by omega), mz56_Mo_replace_1_j17 hc]; done)))
theorem mz56_Mo_replace_1_j15 {k : Nat} (hc : k = 56) : ∀ (v0 : fw_V) (a2 : Int32), (mf_Mo_replace_1_j15 v0 a2) 0 0 k = v0 0 0 k := by
  intro v0 a2
  unfold mf_Mo_replace_1_j15
  (try dsimp only)
  all_goals ((repeat' split) <;> (first | with_reducible rfl | (simp only [msend_0k (i := 0) (k := k) (by omega) (by omega) (by omega), mz56_Mo_replace_1_j16 hc]; done)))
theorem mz56_Mo_replace_1_j14 {k : Nat} (hc : k = 56) : ∀ (v0 : fw_V) (a2 : Int32), (mf_Mo_replace_1_j14 v0 a2) 0 0 k = v0 0 0 k := by
  intro v0 a2
  unfold mf_Mo_replace_1_j14
  (try dsimp only)
  all_goals ((repeat' split) <;> (first | with_reducible rfl | (simp only [msend_0k (i := 0) (k := k) (by omega) (by omega) (by omega), mz56_Mo_replace_1_j15 hc]; done)))
theorem mz56_Mo_replace_1 {k : Nat} (hc : k = 56) : ∀ (v0 : fw_V) (a2 : Int32), (mf_Mo_replace_1 v0 a2) 0 0 k = v0 0 0 k := by
  intro v0 a2
  unfold mf_Mo_replace_1
  (try dsimp only)
  all_goals ((repeat' split) <;> (first | with_reducible rfl | (simp only [msend_0k (i := 0) (k := k) (by omega) (by omega) (by omega), mz56_Mo_replace_1_j1 hc, mz56_Mo_replace_1_j14 hc]; done)))
theorem mz56_Mo_reply_1 {k : Nat} (hc : k = 56) : ∀ (v0 : fw_V) (a2 : Int32) (a3 : Int32), (mf_Mo_reply_1 v0 a2 a3) 0 0 k = v0 0 0 k := by
  intro v0 a2 a3
  unfold mf_Mo_reply_1
  (try dsimp only)
  all_goals ((repeat' split) <;> (first | with_reducible rfl | (simp only [msend_0k (i := 0) (k := k) (by omega) (by omega) (by omega)]; done)))
theorem mz56_Mo_connect_1_j1 {k : Nat} (hc : k = 56) : ∀ (v0 : fw_V) (a2 : Int32), (mf_Mo_connect_1_j1 v0 a2) 0 0 k = v0 0 0 k := by
  intro v0 a2
  unfold mf_Mo_connect_1_j1
  (try dsimp only)
  all_goals ((repeat' split) <;> (first | with_reducible rfl | (simp only [fw_up_ne (c := 28) (i := 0) (k := 1) (c' := 0) (i' := 0) (k' := k) (by omega), fw_up_ne (c := 29) (i := 0) (k := 1) (c' := 0) (i' := 0) (k' := k) (by omega), fw_up_ne (c := 32) (i := 0) (k := 1) (c' := 0) (i' := 0) (k' := k) (by omega), fw_up_ne (c := 43) (i := 0) (k := 3) (c' := 0) (i' := 0) (k' := k) (by omega), fw_up_ne (c := 44) (i := 0) (k := 3) (c' := 0) (i' := 0) (k' := k) (by omega), fw_up_ne (c := 43) (i := 0) (k := 4) (c' := 0) (i' := 0) (k' := k) (by omega), fw_up_ne (c := 44) (i := 0) (k := 4) (c' := 0) (i' := 0) (k' := k) (by omega), fw_up_ne (c := 43) (i := 0) (k := 5) (c' := 0) (i' := 0) (k' := k) (by omega), fw_up_ne (c := 44) (i := 0) (k := 5) (c' := 0) (i' := 0) (k' := k) (by omega), msend_0k (i := 0) (k := k) (by omega) (by omega) (by omega), mz56_Mo_mark_1 hc, mz56_Mo_reply_1 hc]; done)))
theorem mz56_Mo_connect_1 {k : Nat} (hc : k = 56) : ∀ (v0 : fw_V) (a2 : Int32), (mf_Mo_connect_1 v0 a2) 0 0 k = v0 0 0 k := by
  intro v0 a2
  unfold mf_Mo_connect_1
  (try dsimp only)
  all_goals ((repeat' split) <;> (first | with_reducible rfl | (simp only [msend_0k (i := 0) (k := k) (by omega) (by omega) (by omega), mz56_Mo_connect_1_j1 hc]; done)))
theorem mz56_Mo_obeys_1_j44 {k : Nat} (hc : k = 56) : ∀ (v0 : fw_V) (a2 : Int32) (a3 : Int32), (mf_Mo_obeys_1_j44 v0 a2 a3) 0 0 k = v0 0 0 k := by
  intro v0 a2 a3
  unfold mf_Mo_obeys_1_j44
  (try dsimp only)
  all_goals ((repeat' split) <;> (first | with_reducible rfl | (simp only [fw_up_ne (c := 28) (i := 0) (k := 1) (c' := 0) (i' := 0) (k' := k) (by omega), fw_up_ne (c := 32) (i := 0) (k := 1) (c' := 0) (i' := 0) (k' := k) (by omega), fw_up_ne (c := 33) (i := 0) (k := 1) (c' := 0) (i' := 0) (k' := k) (by omega), msend_0k (i := 0) (k := k) (by omega) (by omega) (by omega), mz56_Mo_reply_1 hc]; done)))
theorem mz56_Mo_obeys_1_j43 {k : Nat} (hc : k = 56) : ∀ (v0 : fw_V) (a2 : Int32) (a3 : Int32), (mf_Mo_obeys_1_j43 v0 a2 a3) 0 0 k = v0 0 0 k := by
  intro v0 a2 a3
  unfold mf_Mo_obeys_1_j43
  (try dsimp only)
  all_goals ((repeat' split) <;> (first | with_reducible rfl | (simp only [msend_0k (i := 0) (k := k) (by omega) (by omega) (by omega), mz56_Mo_obeys_1_j44 hc]; done)))
theorem mz56_Mo_obeys_1_j42 {k : Nat} (hc : k = 56) : ∀ (v0 : fw_V) (a2 : Int32) (a3 : Int32), (mf_Mo_obeys_1_j42 v0 a2 a3) 0 0 k = v0 0 0 k := by
  intro v0 a2 a3
  unfold mf_Mo_obeys_1_j42
  (try dsimp only)
  all_goals ((repeat' split) <;> (first | with_reducible rfl | (simp only [msend_0k (i := 0) (k := k) (by omega) (by omega) (by omega), mz56_Mo_obeys_1_j43 hc]; done)))
theorem mz56_Mo_rest_1_j7 {k : Nat} (hc : k = 56) : ∀ (v : fw_V), (mf_Mo_rest_1_j7 v) 0 0 k = v 0 0 k := by
  intro v
  unfold mf_Mo_rest_1_j7
  (try dsimp only)
  all_goals ((repeat' split) <;> (first | with_reducible rfl | (simp only [msend_0k (i := 0) (k := k) (by omega) (by omega) (by omega)]; done)))
theorem mz56_Mo_rest_1_j6 {k : Nat} (hc : k = 56) : ∀ (v : fw_V), (mf_Mo_rest_1_j6 v) 0 0 k = v 0 0 k := by
  intro v
  unfold mf_Mo_rest_1_j6
  (try dsimp only)
  all_goals ((repeat' split) <;> (first | with_reducible rfl | (simp only [msend_0k (i := 0) (k := k) (by omega) (by omega) (by omega), mz56_Mo_replace_1 hc, mz56_Mo_rest_1_j7 hc]; done)))
theorem mz56_Mo_rest_1_j5 {k : Nat} (hc : k = 56) : ∀ (v : fw_V), (mf_Mo_rest_1_j5 v) 0 0 k = v 0 0 k := by
  intro v
  unfold mf_Mo_rest_1_j5
  (try dsimp only)
  all_goals ((repeat' split) <;> (first | with_reducible rfl | (simp only [msend_0k (i := 0) (k := k) (by omega) (by omega) (by omega), mz56_Mo_replace_1 hc, mz56_Mo_rest_1_j6 hc]; done)))
theorem mz56_Mo_rest_1_j4 {k : Nat} (hc : k = 56) : ∀ (v : fw_V), (mf_Mo_rest_1_j4 v) 0 0 k = v 0 0 k := by
  intro v
  unfold mf_Mo_rest_1_j4
  (try dsimp only)
  all_goals ((repeat' split) <;> (first | with_reducible rfl | (simp only [msend_0k (i := 0) (k := k) (by omega) (by omega) (by omega), mz56_Mo_replace_1 hc, mz56_Mo_rest_1_j5 hc]; done)))
theorem mz56_Mo_rest_1_j3 {k : Nat} (hc : k = 56) : ∀ (v0 : fw_V), (mf_Mo_rest_1_j3 v0) 0 0 k = v0 0 0 k := by
  intro v0
  unfold mf_Mo_rest_1_j3
  (try dsimp only)
  all_goals ((repeat' split) <;> (first | with_reducible rfl | (simp only [fw_up_ne (c := 28) (i := 0) (k := 1) (c' := 0) (i' := 0) (k' := k) (by omega), fw_up_ne (c := 29) (i := 0) (k := 1) (c' := 0) (i' := 0) (k' := k) (by omega), fw_up_ne (c := 31) (i := 0) (k := 1) (c' := 0) (i' := 0) (k' := k) (by omega), fw_up_ne (c := 32) (i := 0) (k := 1) (c' := 0) (i' := 0) (k' := k) (by omega), fw_up_ne (c := 37) (i := 0) (k := 1) (c' := 0) (i' := 0) (k' := k) (by omega), fw_up_ne (c := 36) (i := 0) (k := 1) (c' := 0) (i' := 0) (k' := k) (by omega), fw_up_ne (c := 43) (i := 0) (k := 3) (c' := 0) (i' := 0) (k' := k) (by omega), fw_up_ne (c := 44) (i := 0) (k := 3) (c' := 0) (i' := 0) (k' := k) (by omega), fw_up_ne (c := 43) (i := 0) (k := 4) (c' := 0) (i' := 0) (k' := k) (by omega), fw_up_ne (c := 44) (i := 0) (k := 4) (c' := 0) (i' := 0) (k' := k) (by omega), fw_up_ne (c := 43) (i := 0) (k := 5) (c' := 0) (i' := 0) (k' := k) (by omega), fw_up_ne (c := 44) (i := 0) (k := 5) (c' := 0) (i' := 0) (k' := k) (by omega), msend_0k (i := 0) (k := k) (by omega) (by omega) (by omega), mz56_Mo_rest_1_j4 hc]; done)))
theorem mz56_Mo_rest_1_j2 {k : Nat} (hc : k = 56) : ∀ (v : fw_V), (mf_Mo_rest_1_j2 v) 0 0 k = v 0 0 k := by
  intro v
  unfold mf_Mo_rest_1_j2
  (try dsimp only)
  all_goals ((repeat' split) <;> (first | with_reducible rfl | (simp only [msend_0k (i := 0) (k := k) (by omega) (by omega) (by omega)]; done)))
theorem mz56_Mo_rest_1_j1 {k : Nat} (hc : k = 56) : ∀ (v0 : fw_V), (mf_Mo_rest_1_j1 v0) 0 0 k = v0 0 0 k := by
  intro v0
  unfold mf_Mo_rest_1_j1
  (try dsimp only)
  all_goals ((repeat' split) <;> (first | with_reducible rfl | (simp only [fw_up_ne (c := 28) (i := 0) (k := 1) (c' := 0) (i' := 0) (k' := k) (by omega), fw_up_ne (c := 29) (i := 0) (k := 1) (c' := 0) (i' := 0) (k' := k) (by omega), fw_up_ne (c := 31) (i := 0) (k := 1) (c' := 0) (i' := 0) (k' := k) (by omega), fw_up_ne (c := 32) (i := 0) (k := 1) (c' := 0) (i' := 0) (k' := k) (by omega), fw_up_ne (c := 37) (i := 0) (k := 1) (c' := 0) (i' := 0) (k' := k) (by omega), fw_up_ne (c := 36) (i := 0) (k := 1) (c' := 0) (i' := 0) (k' := k) (by omega), fw_up_ne (c := 43) (i := 0) (k := 3) (c' := 0) (i' := 0) (k' := k) (by omega), fw_up_ne (c := 44) (i := 0) (k := 3) (c' := 0) (i' := 0) (k' := k) (by omega), fw_up_ne (c := 43) (i := 0) (k := 4) (c' := 0) (i' := 0) (k' := k) (by omega), fw_up_ne (c := 44) (i := 0) (k := 4) (c' := 0) (i' := 0) (k' := k) (by omega), fw_up_ne (c := 43) (i := 0) (k := 5) (c' := 0) (i' := 0) (k' := k) (by omega), fw_up_ne (c := 44) (i := 0) (k := 5) (c' := 0) (i' := 0) (k' := k) (by omega), msend_0k (i := 0) (k := k) (by omega) (by omega) (by omega), mz56_Mo_rest_1_j2 hc]; done)))
theorem mz56_Mo_rest_1 {k : Nat} (hc : k = 56) : ∀ (v0 : fw_V), (mf_Mo_rest_1 v0) 0 0 k = v0 0 0 k := by
  intro v0
  unfold mf_Mo_rest_1
  (try dsimp only)
  all_goals ((repeat' split) <;> (first | with_reducible rfl | (simp only [msend_0k (i := 0) (k := k) (by omega) (by omega) (by omega), mz56_Mo_rest_1_j3 hc, mz56_Mo_rest_1_j1 hc]; done)))
theorem mz56_Mo_quit_1 {k : Nat} (hc : k = 56) : ∀ (v0 : fw_V), (mf_Mo_quit_1 v0) 0 0 k = v0 0 0 k := by
  intro v0
  unfold mf_Mo_quit_1
  (try dsimp only)
  all_goals ((repeat' split) <;> (first | with_reducible rfl | (simp only [msend_0k (i := 0) (k := k) (by omega) (by omega) (by omega), mz56_Mo_reply_1 hc, mz56_Mo_rest_1 hc]; done)))
theorem mz56_Mo_obeys_1_j46 {k : Nat} (hc : k = 56) : ∀ (v0 : fw_V) (a2 : Int32) (a3 : Int32), (mf_Mo_obeys_1_j46 v0 a2 a3) 0 0 k = v0 0 0 k := by
  intro v0 a2 a3
  unfold mf_Mo_obeys_1_j46
  (try dsimp only)
  all_goals ((repeat' split) <;> (first | with_reducible rfl | (simp only [msend_0k (i := 0) (k := k) (by omega) (by omega) (by omega), mz56_Mo_quit_1 hc]; done)))
theorem mz56_Mo_obeys_1_j45 {k : Nat} (hc : k = 56) : ∀ (v0 : fw_V) (a2 : Int32) (a3 : Int32), (mf_Mo_obeys_1_j45 v0 a2 a3) 0 0 k = v0 0 0 k := by
  intro v0 a2 a3
  unfold mf_Mo_obeys_1_j45
  (try dsimp only)
  all_goals ((repeat' split) <;> (first | with_reducible rfl | (simp only [msend_0k (i := 0) (k := k) (by omega) (by omega) (by omega), mz56_Mo_obeys_1_j46 hc]; done)))
theorem mz56_Mo_obeys_1_j41 {k : Nat} (hc : k = 56) : ∀ (v0 : fw_V) (a2 : Int32) (a3 : Int32), (mf_Mo_obeys_1_j41 v0 a2 a3) 0 0 k = v0 0 0 k := by
  intro v0 a2 a3
  unfold mf_Mo_obeys_1_j41
  (try dsimp only)
  all_goals ((repeat' split) <;> (first | with_reducible rfl | (simp only [msend_0k (i := 0) (k := k) (by omega) (by omega) (by omega), mz56_Mo_obeys_1_j42 hc, mz56_Mo_obeys_1_j45 hc]; done)))
theorem mz56_Mo_obeys_1_j40 {k : Nat} (hc : k = 56) : ∀ (v0 : fw_V) (a2 : Int32) (a3 : Int32), (mf_Mo_obeys_1_j40 v0 a2 a3) 0 0 k = v0 0 0 k := by
  intro v0 a2 a3
  unfold mf_Mo_obeys_1_j40
  (try dsimp only)
  all_goals ((repeat' split) <;> (first | with_reducible rfl | (simp only [msend_0k (i := 0) (k := k) (by omega) (by omega) (by omega), mz56_Mo_obeys_1_j41 hc]; done)))
theorem mz56_Mo_obeys_1_j39 {k : Nat} (hc : k = 56) : ∀ (v0 : fw_V) (a2 : Int32) (a3 : Int32), (mf_Mo_obeys_1_j39 v0 a2 a3) 0 0 k = v0 0 0 k := by
  intro v0 a2 a3
  unfold mf_Mo_obeys_1_j39
  (try dsimp only)
  all_goals ((repeat' split) <;> (first | with_reducible rfl | (simp only [msend_0k (i := 0) (k := k) (by omega) (by omega) (by omega), mz56_Mo_obeys_1_j40 hc]; done)))
theorem mz56_Mo_obeys_1_j50 {k : Nat} (hc : k = 56) : ∀ (v0 : fw_V) (a2 : Int32) (a3 : Int32), (mf_Mo_obeys_1_j50 v0 a2 a3) 0 0 k = v0 0 0 k := by
  intro v0 a2 a3
  unfold mf_Mo_obeys_1_j50
  (try dsimp only)
  all_goals ((repeat' split) <;> (first | with_reducible rfl | (simp only [msend_0k (i := 0) (k := k) (by omega) (by omega) (by omega), mz56_Mo_obeys_1_j46 hc]; done)))
theorem mz56_Mo_obeys_1_j49 {k : Nat} (hc : k = 56) : ∀ (v0 : fw_V) (a2 : Int32) (a3 : Int32), (mf_Mo_obeys_1_j49 v0 a2 a3) 0 0 k = v0 0 0 k := by
  intro v0 a2 a3
  unfold mf_Mo_obeys_1_j49
  (try dsimp only)
  all_goals ((repeat' split) <;> (first | with_reducible rfl | (simp only [msend_0k (i := 0) (k := k) (by omega) (by omega) (by omega), mz56_Mo_obeys_1_j50 hc]; done)))
theorem mz56_Mo_obeys_1_j51 {k : Nat} (hc : k = 56) : ∀ (v0 : fw_V) (a2 : Int32) (a3 : Int32), (mf_Mo_obeys_1_j51 v0 a2 a3) 0 0 k = v0 0 0 k := by
  intro v0 a2 a3
  unfold mf_Mo_obeys_1_j51
  (try dsimp only)
  all_goals ((repeat' split) <;> (first | with_reducible rfl | (simp only [msend_0k (i := 0) (k := k) (by omega) (by omega) (by omega), mz56_Mo_obeys_1_j46 hc]; done)))
theorem mz56_Mo_obeys_1_j48 {k : Nat} (hc : k = 56) : ∀ (v0 : fw_V) (a2 : Int32) (a3 : Int32), (mf_Mo_obeys_1_j48 v0 a2 a3) 0 0 k = v0 0 0 k := by
  intro v0 a2 a3
  unfold mf_Mo_obeys_1_j48
  (try dsimp only)
  all_goals ((repeat' split) <;> (first | with_reducible rfl | (simp only [msend_0k (i := 0) (k := k) (by omega) (by omega) (by omega), mz56_Mo_obeys_1_j49 hc, mz56_Mo_obeys_1_j51 hc]; done)))
theorem mz56_Mo_obeys_1_j47 {k : Nat} (hc : k = 56) : ∀ (v0 : fw_V) (a2 : Int32) (a3 : Int32), (mf_Mo_obeys_1_j47 v0 a2 a3) 0 0 k = v0 0 0 k := by
  intro v0 a2 a3
  unfold mf_Mo_obeys_1_j47
  (try dsimp only)
  all_goals ((repeat' split) <;> (first | with_reducible rfl | (simp only [msend_0k (i := 0) (k := k) (by omega) (by omega) (by omega), mz56_Mo_obeys_1_j48 hc]; done)))
theorem mz56_Mo_obeys_1_j38 {k : Nat} (hc : k = 56) : ∀ (v0 : fw_V) (a2 : Int32) (a3 : Int32), (mf_Mo_obeys_1_j38 v0 a2 a3) 0 0 k = v0 0 0 k := by
  intro v0 a2 a3
  unfold mf_Mo_obeys_1_j38
  (try dsimp only)
  all_goals ((repeat' split) <;> (first | with_reducible rfl | (simp only [msend_0k (i := 0) (k := k) (by omega) (by omega) (by omega), mz56_Mo_obeys_1_j39 hc, mz56_Mo_obeys_1_j47 hc]; done)))
theorem mz56_Mo_obeys_1_j37 {k : Nat} (hc : k = 56) : ∀ (v0 : fw_V) (a2 : Int32) (a3 : Int32), (mf_Mo_obeys_1_j37 v0 a2 a3) 0 0 k = v0 0 0 k := by
  intro v0 a2 a3
  unfold mf_Mo_obeys_1_j37
  (try dsimp only)
  all_goals ((repeat' split) <;> (first | with_reducible rfl | (simp only [msend_0k (i := 0) (k := k) (by omega) (by omega) (by omega), mz56_Mo_obeys_1_j38 hc]; done)))
theorem mz56_Mo_obeys_1_j36 {k : Nat} (hc : k = 56) : ∀ (v0 : fw_V) (a2 : Int32) (a3 : Int32), (mf_Mo_obeys_1_j36 v0 a2 a3) 0 0 k = v0 0 0 k := by
  intro v0 a2 a3
  unfold mf_Mo_obeys_1_j36
  (try dsimp only)
  all_goals ((repeat' split) <;> (first | with_reducible rfl | (simp only [msend_0k (i := 0) (k := k) (by omega) (by omega) (by omega), mz56_Mo_obeys_1_j37 hc]; done)))
theorem mz56_Mo_obeys_1_j55 {k : Nat} (hc : k = 56) : ∀ (v0 : fw_V) (a2 : Int32) (a3 : Int32), (mf_Mo_obeys_1_j55 v0 a2 a3) 0 0 k = v0 0 0 k := by
  intro v0 a2 a3
  unfold mf_Mo_obeys_1_j55
  (try dsimp only)
  all_goals ((repeat' split) <;> (first | with_reducible rfl | (simp only [msend_0k (i := 0) (k := k) (by omega) (by omega) (by omega), mz56_Mo_obeys_1_j48 hc]; done)))
theorem mz56_Mo_obeys_1_j54 {k : Nat} (hc : k = 56) : ∀ (v0 : fw_V) (a2 : Int32) (a3 : Int32), (mf_Mo_obeys_1_j54 v0 a2 a3) 0 0 k = v0 0 0 k := by
  intro v0 a2 a3
  unfold mf_Mo_obeys_1_j54
  (try dsimp only)
  all_goals ((repeat' split) <;> (first | with_reducible rfl | (simp only [msend_0k (i := 0) (k := k) (by omega) (by omega) (by omega), mz56_Mo_obeys_1_j55 hc]; done)))
theorem mz56_Mo_obeys_1_j56 {k : Nat} (hc : k = 56) : ∀ (v0 : fw_V) (a2 : Int32) (a3 : Int32), (mf_Mo_obeys_1_j56 v0 a2 a3) 0 0 k = v0 0 0 k := by
  intro v0 a2 a3
  unfold mf_Mo_obeys_1_j56
  (try dsimp only)
  all_goals ((repeat' split) <;> (first | with_reducible rfl | (simp only [msend_0k (i := 0) (k := k) (by omega) (by omega) (by omega), mz56_Mo_obeys_1_j48 hc]; done)))
theorem mz56_Mo_obeys_1_j53 {k : Nat} (hc : k = 56) : ∀ (v0 : fw_V) (a2 : Int32) (a3 : Int32), (mf_Mo_obeys_1_j53 v0 a2 a3) 0 0 k = v0 0 0 k := by
  intro v0 a2 a3
  unfold mf_Mo_obeys_1_j53
  (try dsimp only)
  all_goals ((repeat' split) <;> (first | with_reducible rfl | (simp only [msend_0k (i := 0) (k := k) (by omega) (by omega) (by omega), mz56_Mo_obeys_1_j54 hc, mz56_Mo_obeys_1_j56 hc]; done)))
theorem mz56_Mo_obeys_1_j52 {k : Nat} (hc : k = 56) : ∀ (v0 : fw_V) (a2 : Int32) (a3 : Int32), (mf_Mo_obeys_1_j52 v0 a2 a3) 0 0 k = v0 0 0 k := by
  intro v0 a2 a3
  unfold mf_Mo_obeys_1_j52
  (try dsimp only)
  all_goals ((repeat' split) <;> (first | with_reducible rfl | (simp only [msend_0k (i := 0) (k := k) (by omega) (by omega) (by omega), mz56_Mo_obeys_1_j53 hc]; done)))
theorem mz56_Mo_obeys_1_j35 {k : Nat} (hc : k = 56) : ∀ (v0 : fw_V) (a2 : Int32) (a3 : Int32), (mf_Mo_obeys_1_j35 v0 a2 a3) 0 0 k = v0 0 0 k := by
  intro v0 a2 a3
  unfold mf_Mo_obeys_1_j35
  (try dsimp only)
  all_goals ((repeat' split) <;> (first | with_reducible rfl | (simp only [msend_0k (i := 0) (k := k) (by omega) (by omega) (by omega), mz56_Mo_obeys_1_j36 hc, mz56_Mo_obeys_1_j52 hc]; done)))
theorem mz56_Mo_obeys_1_j9 {k : Nat} (hc : k = 56) : ∀ (v : fw_V) (a2 : Int32) (a3 : Int32), (mf_Mo_obeys_1_j9 v a2 a3) 0 0 k = v 0 0 k := by
  intro v a2 a3
  unfold mf_Mo_obeys_1_j9
  (try dsimp only)
  all_goals ((repeat' split) <;> (first | with_reducible rfl | (simp only [msend_0k (i := 0) (k := k) (by omega) (by omega) (by omega)]; done)))
theorem mz56_Mo_obeys_1_j8 {k : Nat} (hc : k = 56) : ∀ (v : fw_V) (a2 : Int32) (a3 : Int32), (mf_Mo_obeys_1_j8 v a2 a3) 0 0 k = v 0 0 k := by
  intro v a2 a3
  unfold mf_Mo_obeys_1_j8
  (try dsimp only)
  all_goals ((repeat' split) <;> (first | with_reducible rfl | (simp only [fw_up_ne (c := 47) (i := 0) (k := 6) (c' := 0) (i' := 0) (k' := k) (by omega), fw_up_ne (c := 48) (i := 0) (k := 6) (c' := 0) (i' := 0) (k' := k) (by omega), msend_0k (i := 0) (k := k) (by omega) (by omega) (by omega), mz56_Mo_obeys_1_j9 hc]; done)))
theorem mz56_Mo_obeys_1_j7 {k : Nat} (hc : k = 56) : ∀ (v : fw_V) (a2 : Int32) (a3 : Int32), (mf_Mo_obeys_1_j7 v a2 a3) 0 0 k = v 0 0 k := by
  intro v a2 a3
  unfold mf_Mo_obeys_1_j7
  (try dsimp only)
  all_goals ((repeat' split) <;> (first | with_reducible rfl | (simp only [fw_up_ne (c := 47) (i := 0) (k := 5) (c' := 0) (i' := 0) (k' := k) (by omega), fw_up_ne (c := 48) (i := 0) (k := 5) (c' := 0) (i' := 0) (k' := k) (by omega), msend_0k (i := 0) (k := k) (by omega) (by omega) (by omega), mz56_Mo_obeys_1_j8 hc]; done)))
theorem mz56_Mo_obeys_1_j6 {k : Nat} (hc : k = 56) : ∀ (v : fw_V) (a2 : Int32) (a3 : Int32), (mf_Mo_obeys_1_j6 v a2 a3) 0 0 k = v 0 0 k := by
  intro v a2 a3
  unfold mf_Mo_obeys_1_j6
  (try dsimp only)
  all_goals ((repeat' split) <;> (first | with_reducible rfl | (simp only [fw_up_ne (c := 47) (i := 0) (k := 4) (c' := 0) (i' := 0) (k' := k) (by omega), fw_up_ne (c := 48) (i := 0) (k := 4) (c' := 0) (i' := 0) (k' := k) (by omega), msend_0k (i := 0) (k := k) (by omega) (by omega) (by omega), mz56_Mo_obeys_1_j7 hc]; done)))
theorem mz56_Mo_obeys_1_j61 {k : Nat} (hc : k = 56) : ∀ (v0 : fw_V) (a2 : Int32) (a3 : Int32), (mf_Mo_obeys_1_j61 v0 a2 a3) 0 0 k = v0 0 0 k := by
  intro v0 a2 a3
  unfold mf_Mo_obeys_1_j61
  (try dsimp only)
  all_goals ((repeat' split) <;> (first | with_reducible rfl | (simp only [fw_up_ne (c := 36) (i := 0) (k := 1) (c' := 0) (i' := 0) (k' := k) (by omega), fw_up_ne (c := 37) (i := 0) (k := 1) (c' := 0) (i' := 0) (k' := k) (by omega), msend_0k (i := 0) (k := k) (by omega) (by omega) (by omega), mz56_Mo_rest_1 hc, mz56_Mo_obeys_1_j6 hc]; done)))
theorem mz56_Mo_obeys_1_j22 {k : Nat} (hc : k = 56) : ∀ (v : fw_V) (a2 : Int32) (a3 : Int32), (mf_Mo_obeys_1_j22 v a2 a3) 0 0 k = v 0 0 k := by
  intro v a2 a3
  unfold mf_Mo_obeys_1_j22
  (try dsimp only)
  all_goals ((repeat' split) <;> (first | with_reducible rfl | (simp only [msend_0k (i := 0) (k := k) (by omega) (by omega) (by omega)]; done)))
theorem mz56_Mo_obeys_1_j21 {k : Nat} (hc : k = 56) : ∀ (v : fw_V) (a2 : Int32) (a3 : Int32), (mf_Mo_obeys_1_j21 v a2 a3) 0 0 k = v 0 0 k := by
  intro v a2 a3
  unfold mf_Mo_obeys_1_j21
  (try dsimp only)
  all_goals ((repeat' split) <;> (first | with_reducible rfl | (simp only [msend_0k (i := 0) (k := k) (by omega) (by omega) (by omega), mz56_Mo_obeys_1_j22 hc]; done)))
theorem mz56_Mo_obeys_1_j23 {k : Nat} (hc : k = 56) : ∀ (v : fw_V) (a2 : Int32) (a3 : Int32), (mf_Mo_obeys_1_j23 v a2 a3) 0 0 k = v 0 0 k := by
  intro v a2 a3
  unfold mf_Mo_obeys_1_j23
  (try dsimp only)
  all_goals ((repeat' split) <;> (first | with_reducible rfl | (simp only [fw_up_ne (c := 46) (i := 0) (k := 11) (c' := 0) (i' := 0) (k' := k) (by omega), msend_0k (i := 0) (k := k) (by omega) (by omega) (by omega), mz56_Mo_obeys_1_j21 hc]; done)))
theorem mz56_Mo_obeys_1_j24 {k : Nat} (hc : k = 56) : ∀ (v : fw_V) (a2 : Int32) (a3 : Int32) (x90 : Int32), (mf_Mo_obeys_1_j24 v a2 a3 x90) 0 0 k = v 0 0 k := by
  intro v a2 a3 x90
  unfold mf_Mo_obeys_1_j24
  (try dsimp only)
  all_goals ((repeat' split) <;> (first | with_reducible rfl | (simp only [fw_up_ne (c := 46) (i := 0) (k := 11) (c' := 0) (i' := 0) (k' := k) (by omega), msend_0k (i := 0) (k := k) (by omega) (by omega) (by omega), mz56_Mo_obeys_1_j21 hc]; done)))
theorem mz56_Mo_obeys_1_j20 {k : Nat} (hc : k = 56) : ∀ (v : fw_V) (a2 : Int32) (a3 : Int32), (mf_Mo_obeys_1_j20 v a2 a3) 0 0 k = v 0 0 k := by
  intro v a2 a3
  unfold mf_Mo_obeys_1_j20
  (try dsimp only)
  all_goals ((repeat' split) <;> (first | with_reducible rfl | (simp only [msend_0k (i := 0) (k := k) (by omega) (by omega) (by omega), mz56_Mo_obeys_1_j21 hc, mz56_Mo_obeys_1_j23 hc, mz56_Mo_obeys_1_j24 hc]; done)))
theorem mz56_Mo_obeys_1_j19 {k : Nat} (hc : k = 56) : ∀ (v : fw_V) (a2 : Int32) (a3 : Int32), (mf_Mo_obeys_1_j19 v a2 a3) 0 0 k = v 0 0 k := by
  intro v a2 a3
  unfold mf_Mo_obeys_1_j19
  (try dsimp only)
  all_goals ((repeat' split) <;> (first | with_reducible rfl | (simp only [msend_0k (i := 0) (k := k) (by omega) (by omega) (by omega), mz56_Mo_obeys_1_j20 hc]; done)))
theorem mz56_Mo_obeys_1_j25 {k : Nat} (hc : k = 56) : ∀ (v : fw_V) (a2 : Int32) (a3 : Int32), (mf_Mo_obeys_1_j25 v a2 a3) 0 0 k = v 0 0 k := by
  intro v a2 a3
  unfold mf_Mo_obeys_1_j25
  (try dsimp only)
  all_goals ((repeat' split) <;> (first | with_reducible rfl | (simp only [fw_up_ne (c := 46) (i := 0) (k := 10) (c' := 0) (i' := 0) (k' := k) (by omega), msend_0k (i := 0) (k := k) (by omega) (by omega) (by omega), mz56_Mo_obeys_1_j19 hc]; done)))
theorem mz56_Mo_obeys_1_j26 {k : Nat} (hc : k = 56) : ∀ (v : fw_V) (a2 : Int32) (a3 : Int32) (x90 : Int32), (mf_Mo_obeys_1_j26 v a2 a3 x90) 0 0 k = v 0 0 k := by
  intro v a2 a3 x90
  unfold mf_Mo_obeys_1_j26
  (try dsimp only)
  all_goals ((repeat' split) <;> (first | with_reducible rfl | (simp only [fw_up_ne (c := 46) (i := 0) (k := 10) (c' := 0) (i' := 0) (k' := k) (by omega), msend_0k (i := 0) (k := k) (by omega) (by omega) (by omega), mz56_Mo_obeys_1_j19 hc]; done)))
theorem mz56_Mo_obeys_1_j18 {k : Nat} (hc : k = 56) : ∀ (v : fw_V) (a2 : Int32) (a3 : Int32), (mf_Mo_obeys_1_j18 v a2 a3) 0 0 k = v 0 0 k := by
  intro v a2 a3
  unfold mf_Mo_obeys_1_j18
  (try dsimp only)
  all_goals ((repeat' split) <;> (first | with_reducible rfl | (simp only [msend_0k (i := 0) (k := k) (by omega) (by omega) (by omega), mz56_Mo_obeys_1_j19 hc, mz56_Mo_obeys_1_j25 hc, mz56_Mo_obeys_1_j26 hc]; done)))
theorem mz56_Mo_obeys_1_j17 {k : Nat} (hc : k = 56) : ∀ (v : fw_V) (a2 : Int32) (a3 : Int32), (mf_Mo_obeys_1_j17 v a2 a3) 0 0 k = v 0 0 k := by
  intro v a2 a3
  unfold mf_Mo_obeys_1_j17
  (try dsimp only)
  all_goals ((repeat' split) <;> (first | with_reducible rfl | (simp only [msend_0k (i := 0) (k := k) (by omega) (by omega) (by omega), mz56_Mo_obeys_1_j18 hc]; done)))
theorem mz56_Mo_obeys_1_j27 {k : Nat} (hc : k = 56) : ∀ (v : fw_V) (a2 : Int32) (a3 : Int32), (mf_Mo_obeys_1_j27 v a2 a3) 0 0 k = v 0 0 k := by
  intro v a2 a3
  unfold mf_Mo_obeys_1_j27
  (try dsimp only)
  all_goals ((repeat' split) <;> (first | with_reducible rfl | (simp only [fw_up_ne (c := 46) (i := 0) (k := 9) (c' := 0) (i' := 0) (k' := k) (by omega), msend_0k (i := 0) (k := k) (by omega) (by omega) (by omega), mz56_Mo_obeys_1_j17 hc]; done)))
theorem mz56_Mo_obeys_1_j28 {k : Nat} (hc : k = 56) : ∀ (v : fw_V) (a2 : Int32) (a3 : Int32) (x90 : Int32), (mf_Mo_obeys_1_j28 v a2 a3 x90) 0 0 k = v 0 0 k := by
  intro v a2 a3 x90
  unfold mf_Mo_obeys_1_j28
  (try dsimp only)
  all_goals ((repeat' split) <;> (first | with_reducible rfl | (simp only [fw_up_ne (c := 46) (i := 0) (k := 9) (c' := 0) (i' := 0) (k' := k) (by omega), msend_0k (i := 0) (k := k) (by omega) (by omega) (by omega), mz56_Mo_obeys_1_j17 hc]; done)))
theorem mz56_Mo_obeys_1_j16 {k : Nat} (hc : k = 56) : ∀ (v : fw_V) (a2 : Int32) (a3 : Int32), (mf_Mo_obeys_1_j16 v a2 a3) 0 0 k = v 0 0 k := by
  intro v a2 a3
  unfold mf_Mo_obeys_1_j16
  (try dsimp only)
  all_goals ((repeat' split) <;> (first | with_reducible rfl | (simp only [msend_0k (i := 0) (k := k) (by omega) (by omega) (by omega), mz56_Mo_obeys_1_j17 hc, mz56_Mo_obeys_1_j27 hc, mz56_Mo_obeys_1_j28 hc]; done)))
theorem mz56_Mo_obeys_1_j15 {k : Nat} (hc : k = 56) : ∀ (v : fw_V) (a2 : Int32) (a3 : Int32), (mf_Mo_obeys_1_j15 v a2 a3) 0 0 k = v 0 0 k := by
  intro v a2 a3
  unfold mf_Mo_obeys_1_j15
  (try dsimp only)
  all_goals ((repeat' split) <;> (first | with_reducible rfl | (simp only [msend_0k (i := 0) (k := k) (by omega) (by omega) (by omega), mz56_Mo_obeys_1_j16 hc]; done)))
theorem mz56_Mo_obeys_1_j29 {k : Nat} (hc : k = 56) : ∀ (v : fw_V) (a2 : Int32) (a3 : Int32), (mf_Mo_obeys_1_j29 v a2 a3) 0 0 k = v 0 0 k := by
  intro v a2 a3
  unfold mf_Mo_obeys_1_j29
  (try dsimp only)
  all_goals ((repeat' split) <;> (first | with_reducible rfl | (simp only [fw_up_ne (c := 46) (i := 0) (k := 8) (c' := 0) (i' := 0) (k' := k) (by omega), msend_0k (i := 0) (k := k) (by omega) (by omega) (by omega), mz56_Mo_obeys_1_j15 hc]; done)))
theorem mz56_Mo_obeys_1_j30 {k : Nat} (hc : k = 56) : ∀ (v : fw_V) (a2 : Int32) (a3 : Int32) (x90 : Int32), (mf_Mo_obeys_1_j30 v a2 a3 x90) 0 0 k = v 0 0 k := by
  intro v a2 a3 x90
  unfold mf_Mo_obeys_1_j30
  (try dsimp only)
  all_goals ((repeat' split) <;> (first | with_reducible rfl | (simp only [fw_up_ne (c := 46) (i := 0) (k := 8) (c' := 0) (i' := 0) (k' := k) (by omega), msend_0k (i := 0) (k := k) (by omega) (by omega) (by omega), mz56_Mo_obeys_1_j15 hc]; done)))
theorem mz56_Mo_obeys_1_j14 {k : Nat} (hc : k = 56) : ∀ (v : fw_V) (a2 : Int32) (a3 : Int32), (mf_Mo_obeys_1_j14 v a2 a3) 0 0 k = v 0 0 k := by
  intro v a2 a3
  unfold mf_Mo_obeys_1_j14
  (try dsimp only)
  all_goals ((repeat' split) <;> (first | with_reducible rfl | (simp only [msend_0k (i := 0) (k := k) (by omega) (by omega) (by omega), mz56_Mo_obeys_1_j15 hc, mz56_Mo_obeys_1_j29 hc, mz56_Mo_obeys_1_j30 hc]; done)))
theorem mz56_Mo_obeys_1_j13 {k : Nat} (hc : k = 56) : ∀ (v : fw_V) (a2 : Int32) (a3 : Int32), (mf_Mo_obeys_1_j13 v a2 a3) 0 0 k = v 0 0 k := by
  intro v a2 a3
  unfold mf_Mo_obeys_1_j13
  (try dsimp only)
  all_goals ((repeat' split) <;> (first | with_reducible rfl | (simp only [msend_0k (i := 0) (k := k) (by omega) (by omega) (by omega), mz56_Mo_obeys_1_j14 hc]; done)))
theorem mz56_Mo_obeys_1_j31 {k : Nat} (hc : k = 56) : ∀ (v : fw_V) (a2 : Int32) (a3 : Int32), (mf_Mo_obeys_1_j31 v a2 a3) 0 0 k = v 0 0 k := by
  intro v a2 a3
  unfold mf_Mo_obeys_1_j31
  (try dsimp only)
  all_goals ((repeat' split) <;> (first | with_reducible rfl | (simp only [fw_up_ne (c := 46) (i := 0) (k := 7) (c' := 0) (i' := 0) (k' := k) (by omega), msend_0k (i := 0) (k := k) (by omega) (by omega) (by omega), mz56_Mo_obeys_1_j13 hc]; done)))
theorem mz56_Mo_obeys_1_j32 {k : Nat} (hc : k = 56) : ∀ (v : fw_V) (a2 : Int32) (a3 : Int32) (x90 : Int32), (mf_Mo_obeys_1_j32 v a2 a3 x90) 0 0 k = v 0 0 k := by
  intro v a2 a3 x90
  unfold mf_Mo_obeys_1_j32
  (try dsimp only)
  all_goals ((repeat' split) <;> (first | with_reducible rfl | (simp only [fw_up_ne (c := 46) (i := 0) (k := 7) (c' := 0) (i' := 0) (k' := k) (by omega), msend_0k (i := 0) (k := k) (by omega) (by omega) (by omega), mz56_Mo_obeys_1_j13 hc]; done)))
theorem mz56_Mo_obeys_1_j12 {k : Nat} (hc : k = 56) : ∀ (v : fw_V) (a2 : Int32) (a3 : Int32), (mf_Mo_obeys_1_j12 v a2 a3) 0 0 k = v 0 0 k := by
  intro v a2 a3
  unfold mf_Mo_obeys_1_j12
  (try dsimp only)
  all_goals ((repeat' split) <;> (first | with_reducible rfl | (simp only [msend_0k (i := 0) (k := k) (by omega) (by omega) (by omega), mz56_Mo_obeys_1_j13 hc, mz56_Mo_obeys_1_j31 hc, mz56_Mo_obeys_1_j32 hc]; done)))
theorem mz56_Mo_obeys_1_j11 {k : Nat} (hc : k = 56) : ∀ (v : fw_V) (a2 : Int32) (a3 : Int32), (mf_Mo_obeys_1_j11 v a2 a3) 0 0 k = v 0 0 k := by
  intro v a2 a3
  unfold mf_Mo_obeys_1_j11
  (try dsimp only)
  all_goals ((repeat' split) <;> (first | with_reducible rfl | (simp only [msend_0k (i := 0) (k := k) (by omega) (by omega) (by omega), mz56_Mo_obeys_1_j12 hc]; done)))
theorem mz56_Mo_obeys_1_j33 {k : Nat} (hc : k = 56) : ∀ (v : fw_V) (a2 : Int32) (a3 : Int32), (mf_Mo_obeys_1_j33 v a2 a3) 0 0 k = v 0 0 k := by
  intro v a2 a3
  unfold mf_Mo_obeys_1_j33
  (try dsimp only)
  all_goals ((repeat' split) <;> (first | with_reducible rfl | (simp only [fw_up_ne (c := 46) (i := 0) (k := 6) (c' := 0) (i' := 0) (k' := k) (by omega), msend_0k (i := 0) (k := k) (by omega) (by omega) (by omega), mz56_Mo_obeys_1_j11 hc]; done)))
theorem mz56_Mo_obeys_1_j34 {k : Nat} (hc : k = 56) : ∀ (v : fw_V) (a2 : Int32) (a3 : Int32) (x90 : Int32), (mf_Mo_obeys_1_j34 v a2 a3 x90) 0 0 k = v 0 0 k := by
  intro v a2 a3 x90
  unfold mf_Mo_obeys_1_j34
  (try dsimp only)
  all_goals ((repeat' split) <;> (first | with_reducible rfl | (simp only [fw_up_ne (c := 46) (i := 0) (k := 6) (c' := 0) (i' := 0) (k' := k) (by omega), msend_0k (i := 0) (k := k) (by omega) (by omega) (by omega), mz56_Mo_obeys_1_j11 hc]; done)))
theorem mz56_Mo_obeys_1_j10 {k : Nat} (hc : k = 56) : ∀ (v : fw_V) (a2 : Int32) (a3 : Int32), (mf_Mo_obeys_1_j10 v a2 a3) 0 0 k = v 0 0 k := by
  intro v a2 a3
  unfold mf_Mo_obeys_1_j10
  (try dsimp only)
  all_goals ((repeat' split) <;> (first | with_reducible rfl | (simp only [msend_0k (i := 0) (k := k) (by omega) (by omega) (by omega), mz56_Mo_obeys_1_j11 hc, mz56_Mo_obeys_1_j33 hc, mz56_Mo_obeys_1_j34 hc]; done)))
theorem mz56_Mo_obeys_1_j60 {k : Nat} (hc : k = 56) : ∀ (v0 : fw_V) (a2 : Int32) (a3 : Int32), (mf_Mo_obeys_1_j60 v0 a2 a3) 0 0 k = v0 0 0 k := by
  intro v0 a2 a3
  unfold mf_Mo_obeys_1_j60
  (try dsimp only)
  all_goals ((repeat' split) <;> (first | with_reducible rfl | (simp only [fw_up_ne (c := 35) (i := 0) (k := 1) (c' := 0) (i' := 0) (k' := k) (by omega), fw_up_ne (c := 32) (i := 0) (k := 1) (c' := 0) (i' := 0) (k' := k) (by omega), msend_0k (i := 0) (k := k) (by omega) (by omega) (by omega), mz56_Mo_obeys_1_j61 hc, mz56_Mo_obeys_1_j10 hc]; done)))
theorem mz56_Mo_obeys_1_j59 {k : Nat} (hc : k = 56) : ∀ (v0 : fw_V) (a2 : Int32) (a3 : Int32), (mf_Mo_obeys_1_j59 v0 a2 a3) 0 0 k = v0 0 0 k := by
  intro v0 a2 a3
  unfold mf_Mo_obeys_1_j59
  (try dsimp only)
  all_goals ((repeat' split) <;> (first | with_reducible rfl | (simp only [fw_up_ne (c := 28) (i := 0) (k := 1) (c' := 0) (i' := 0) (k' := k) (by omega), fw_up_ne (c := 32) (i := 0) (k := 1) (c' := 0) (i' := 0) (k' := k) (by omega), fw_up_ne (c := 34) (i := 0) (k := 1) (c' := 0) (i' := 0) (k' := k) (by omega), fw_up_ne (c := 35) (i := 0) (k := 1) (c' := 0) (i' := 0) (k' := k) (by omega), fw_up_ne (c := 37) (i := 0) (k := 1) (c' := 0) (i' := 0) (k' := k) (by omega), fw_up_ne (c := 36) (i := 0) (k := 1) (c' := 0) (i' := 0) (k' := k) (by omega), fw_up_ne (c := 39) (i := 0) (k := 1) (c' := 0) (i' := 0) (k' := k) (by omega), msend_0k (i := 0) (k := k) (by omega) (by omega) (by omega), mz56_Mo_obeys_1_j60 hc]; done)))
theorem mz56_Mo_obeys_1_j58 {k : Nat} (hc : k = 56) : ∀ (v0 : fw_V) (a2 : Int32) (a3 : Int32), (mf_Mo_obeys_1_j58 v0 a2 a3) 0 0 k = v0 0 0 k := by
  intro v0 a2 a3
  unfold mf_Mo_obeys_1_j58
  (try dsimp only)
  all_goals ((repeat' split) <;> (first | with_reducible rfl | (simp only [msend_0k (i := 0) (k := k) (by omega) (by omega) (by omega), mz56_Mo_reply_1 hc, mz56_Mo_obeys_1_j59 hc]; done)))
theorem mz56_Mo_obeys_1_j57 {k : Nat} (hc : k = 56) : ∀ (v0 : fw_V) (a2 : Int32) (a3 : Int32), (mf_Mo_obeys_1_j57 v0 a2 a3) 0 0 k = v0 0 0 k := by
  intro v0 a2 a3
  unfold mf_Mo_obeys_1_j57
  (try dsimp only)
  all_goals ((repeat' split) <;> (first | with_reducible rfl | (simp only [msend_0k (i := 0) (k := k) (by omega) (by omega) (by omega), mz56_Mo_obeys_1_j35 hc, mz56_Mo_obeys_1_j58 hc]; done)))
theorem mz56_Mo_obeys_1_j5 {k : Nat} (hc : k = 56) : ∀ (v0 : fw_V) (a2 : Int32) (a3 : Int32), (mf_Mo_obeys_1_j5 v0 a2 a3) 0 0 k = v0 0 0 k := by
  intro v0 a2 a3
  unfold mf_Mo_obeys_1_j5
  (try dsimp only)
  all_goals ((repeat' split) <;> (first | with_reducible rfl | (simp only [fw_up_ne (c := 36) (i := 0) (k := 1) (c' := 0) (i' := 0) (k' := k) (by omega), fw_up_ne (c := 37) (i := 0) (k := 1) (c' := 0) (i' := 0) (k' := k) (by omega), msend_0k (i := 0) (k := k) (by omega) (by omega) (by omega), mz56_Mo_rest_1 hc, mz56_Mo_obeys_1_j6 hc]; done)))
theorem mz56_Mo_obeys_1_j4 {k : Nat} (hc : k = 56) : ∀ (v0 : fw_V) (a2 : Int32) (a3 : Int32), (mf_Mo_obeys_1_j4 v0 a2 a3) 0 0 k = v0 0 0 k := by
  intro v0 a2 a3
  unfold mf_Mo_obeys_1_j4
  (try dsimp only)
  all_goals ((repeat' split) <;> (first | with_reducible rfl | (simp only [fw_up_ne (c := 35) (i := 0) (k := 1) (c' := 0) (i' := 0) (k' := k) (by omega), fw_up_ne (c := 32) (i := 0) (k := 1) (c' := 0) (i' := 0) (k' := k) (by omega), msend_0k (i := 0) (k := k) (by omega) (by omega) (by omega), mz56_Mo_obeys_1_j5 hc, mz56_Mo_obeys_1_j10 hc]; done)))
theorem mz56_Mo_obeys_1_j3 {k : Nat} (hc : k = 56) : ∀ (v0 : fw_V) (a2 : Int32) (a3 : Int32), (mf_Mo_obeys_1_j3 v0 a2 a3) 0 0 k = v0 0 0 k := by
  intro v0 a2 a3
  unfold mf_Mo_obeys_1_j3
  (try dsimp only)
  all_goals ((repeat' split) <;> (first | with_reducible rfl | (simp only [fw_up_ne (c := 28) (i := 0) (k := 1) (c' := 0) (i' := 0) (k' := k) (by omega), fw_up_ne (c := 32) (i := 0) (k := 1) (c' := 0) (i' := 0) (k' := k) (by omega), fw_up_ne (c := 34) (i := 0) (k := 1) (c' := 0) (i' := 0) (k' := k) (by omega), fw_up_ne (c := 35) (i := 0) (k := 1) (c' := 0) (i' := 0) (k' := k) (by omega), fw_up_ne (c := 37) (i := 0) (k := 1) (c' := 0) (i' := 0) (k' := k) (by omega), fw_up_ne (c := 36) (i := 0) (k := 1) (c' := 0) (i' := 0) (k' := k) (by omega), fw_up_ne (c := 39) (i := 0) (k := 1) (c' := 0) (i' := 0) (k' := k) (by omega), msend_0k (i := 0) (k := k) (by omega) (by omega) (by omega), mz56_Mo_obeys_1_j4 hc]; done)))
theorem mz56_Mo_obeys_1_j2 {k : Nat} (hc : k = 56) : ∀ (v0 : fw_V) (a2 : Int32) (a3 : Int32), (mf_Mo_obeys_1_j2 v0 a2 a3) 0 0 k = v0 0 0 k := by
  intro v0 a2 a3
  unfold mf_Mo_obeys_1_j2
  (try dsimp only)
  all_goals ((repeat' split) <;> (first | with_reducible rfl | (simp only [msend_0k (i := 0) (k := k) (by omega) (by omega) (by omega), mz56_Mo_reply_1 hc, mz56_Mo_obeys_1_j3 hc]; done)))
theorem mz56_Mo_obeys_1_j1 {k : Nat} (hc : k = 56) : ∀ (v0 : fw_V) (a2 : Int32) (a3 : Int32), (mf_Mo_obeys_1_j1 v0 a2 a3) 0 0 k = v0 0 0 k := by
  intro v0 a2 a3
  unfold mf_Mo_obeys_1_j1
  (try dsimp only)
  all_goals ((repeat' split) <;> (first | with_reducible rfl | (simp only [msend_0k (i := 0) (k := k) (by omega) (by omega) (by omega), mz56_Mo_obeys_1_j35 hc, mz56_Mo_obeys_1_j2 hc]; done)))
theorem mz56_Mo_obeys_1 {k : Nat} (hc : k = 56) : ∀ (v0 : fw_V) (a2 : Int32) (a3 : Int32), (mf_Mo_obeys_1 v0 a2 a3) 0 0 k = v0 0 0 k := by
  intro v0 a2 a3
  unfold mf_Mo_obeys_1
  (try dsimp only)
  all_goals ((repeat' split) <;> (first | with_reducible rfl | (simp only [fw_up_c (c := 44) (c' := 0) (by decide), fw_up_ne (c := 32) (i := 0) (k := 1) (c' := 0) (i' := 0) (k' := k) (by omega), msend_0k (i := 0) (k := k) (by omega) (by omega) (by omega), mz56_Mo_reply_1 hc, mz56_Mo_obeys_1_j57 hc, mz56_Mo_obeys_1_j1 hc]; done)))
theorem mz56_Mo_arrives_1 {k : Nat} (hc : k = 56) : ∀ (v0 : fw_V) (a2 : Int32) (a3 : Int32) (a4 : Int32), (mf_Mo_arrives_1 v0 a2 a3 a4) 0 0 k = v0 0 0 k := by
  intro v0 a2 a3 a4
  unfold mf_Mo_arrives_1
  (try dsimp only)
  all_goals ((repeat' split) <;> (first | with_reducible rfl | (simp only [fw_up_ne (c := 9) (i := 0) (k := 0) (c' := 0) (i' := 0) (k' := k) (by omega), msend_0k (i := 0) (k := k) (by omega) (by omega) (by omega), mz56_Mo_connect_1 hc, mz56_Mo_obeys_1 hc]; done)))
theorem mz56_Mo_alarm_1_j2 {k : Nat} (hc : k = 56) : ∀ (v : fw_V), (mf_Mo_alarm_1_j2 v) 0 0 k = v 0 0 k := by
  intro v
  unfold mf_Mo_alarm_1_j2
  (try dsimp only)
  all_goals ((repeat' split) <;> (first | with_reducible rfl | (simp only [fw_up_ne (c := 38) (i := 0) (k := 1) (c' := 0) (i' := 0) (k' := k) (by omega), fw_up_ne (c := 9) (i := 0) (k := 0) (c' := 0) (i' := 0) (k' := k) (by omega), fw_up_ne (c := 9) (i := 0) (k := 1) (c' := 0) (i' := 0) (k' := k) (by omega), msend_0k (i := 0) (k := k) (by omega) (by omega) (by omega), mz56_Mo_reply_1 hc]; done)))
theorem mz56_Mo_alarm_1_j3 {k : Nat} (hc : k = 56) : ∀ (v0 : fw_V), (mf_Mo_alarm_1_j3 v0) 0 0 k = v0 0 0 k := by
  intro v0
  unfold mf_Mo_alarm_1_j3
  (try dsimp only)
  all_goals ((repeat' split) <;> (first | with_reducible rfl | (simp only [fw_up_ne (c := 39) (i := 0) (k := 1) (c' := 0) (i' := 0) (k' := k) (by omega), fw_up_ne (c := 36) (i := 0) (k := 1) (c' := 0) (i' := 0) (k' := k) (by omega), msend_0k (i := 0) (k := k) (by omega) (by omega) (by omega), mz56_Mo_alarm_1_j2 hc]; done)))
theorem mz56_Mo_alarm_1_j1 {k : Nat} (hc : k = 56) : ∀ (v0 : fw_V), (mf_Mo_alarm_1_j1 v0) 0 0 k = v0 0 0 k := by
  intro v0
  unfold mf_Mo_alarm_1_j1
  (try dsimp only)
  all_goals ((repeat' split) <;> (first | with_reducible rfl | (simp only [fw_up_ne (c := 39) (i := 0) (k := 1) (c' := 0) (i' := 0) (k' := k) (by omega), fw_up_ne (c := 36) (i := 0) (k := 1) (c' := 0) (i' := 0) (k' := k) (by omega), msend_0k (i := 0) (k := k) (by omega) (by omega) (by omega), mz56_Mo_alarm_1_j2 hc]; done)))
theorem mz56_Mo_alarm_1 {k : Nat} (hc : k = 56) : ∀ (v0 : fw_V), (mf_Mo_alarm_1 v0) 0 0 k = v0 0 0 k := by
  intro v0
  unfold mf_Mo_alarm_1
  (try dsimp only)
  all_goals ((repeat' split) <;> (first | with_reducible rfl | (simp only [fw_up_ne (c := 38) (i := 0) (k := 1) (c' := 0) (i' := 0) (k' := k) (by omega), msend_0k (i := 0) (k := k) (by omega) (by omega) (by omega), mz56_Mo_alarm_1_j3 hc, mz56_Mo_alarm_1_j1 hc, mz56_Mo_alarm_1_j2 hc]; done)))
theorem mz56_Mo_beat_1_j25 {k : Nat} (hc : k = 56) : ∀ (v : fw_V), (mf_Mo_beat_1_j25 v) 0 0 k = v 0 0 k := by
  intro v
  unfold mf_Mo_beat_1_j25
  (try dsimp only)
  all_goals ((repeat' split) <;> (first | with_reducible rfl | (simp only [fw_up_ne (c := 21) (i := 0) (k := 1) (c' := 0) (i' := 0) (k' := k) (by omega), msend_0k (i := 0) (k := k) (by omega) (by omega) (by omega)]; done)))
theorem mz56_Mo_beat_1_j24 {k : Nat} (hc : k = 56) : ∀ (v : fw_V), (mf_Mo_beat_1_j24 v) 0 0 k = v 0 0 k := by
  intro v
  unfold mf_Mo_beat_1_j24
  (try dsimp only)
  all_goals ((repeat' split) <;> (first | with_reducible rfl | (simp only [fw_up_ne (c := 9) (i := 0) (k := 5) (c' := 0) (i' := 0) (k' := k) (by omega), msend_0k (i := 0) (k := k) (by omega) (by omega) (by omega), mz56_Mo_beat_1_j25 hc]; done)))
theorem mz56_Mo_beat_1_j23 {k : Nat} (hc : k = 56) : ∀ (v : fw_V), (mf_Mo_beat_1_j23 v) 0 0 k = v 0 0 k := by
  intro v
  unfold mf_Mo_beat_1_j23
  (try dsimp only)
  all_goals ((repeat' split) <;> (first | with_reducible rfl | (simp only [msend_0k (i := 0) (k := k) (by omega) (by omega) (by omega), mz56_Mo_beat_1_j24 hc]; done)))
theorem mz56_Mo_beat_1_j22 {k : Nat} (hc : k = 56) : ∀ (v : fw_V), (mf_Mo_beat_1_j22 v) 0 0 k = v 0 0 k := by
  intro v
  unfold mf_Mo_beat_1_j22
  (try dsimp only)
  all_goals ((repeat' split) <;> (first | with_reducible rfl | (simp only [msend_0k (i := 0) (k := k) (by omega) (by omega) (by omega), mz56_Mo_beat_1_j23 hc]; done)))
theorem mz56_Mo_beat_1_j27 {k : Nat} (hc : k = 56) : ∀ (v : fw_V) (x90 : Int32), (mf_Mo_beat_1_j27 v x90) 0 0 k = v 0 0 k := by
  intro v x90
  unfold mf_Mo_beat_1_j27
  (try dsimp only)
  all_goals ((repeat' split) <;> (first | with_reducible rfl | (simp only [fw_up_ne (c := 9) (i := 0) (k := 5) (c' := 0) (i' := 0) (k' := k) (by omega), msend_0k (i := 0) (k := k) (by omega) (by omega) (by omega), mz56_Mo_beat_1_j25 hc]; done)))
theorem mz56_Mo_beat_1_j26 {k : Nat} (hc : k = 56) : ∀ (v : fw_V), (mf_Mo_beat_1_j26 v) 0 0 k = v 0 0 k := by
  intro v
  unfold mf_Mo_beat_1_j26
  (try dsimp only)
  all_goals ((repeat' split) <;> (first | with_reducible rfl | (simp only [msend_0k (i := 0) (k := k) (by omega) (by omega) (by omega), mz56_Mo_beat_1_j27 hc]; done)))
theorem mz56_Mo_beat_1_j21 {k : Nat} (hc : k = 56) : ∀ (v : fw_V), (mf_Mo_beat_1_j21 v) 0 0 k = v 0 0 k := by
  intro v
  unfold mf_Mo_beat_1_j21
  (try dsimp only)
  all_goals ((repeat' split) <;> (first | with_reducible rfl | (simp only [msend_0k (i := 0) (k := k) (by omega) (by omega) (by omega), mz56_Mo_beat_1_j22 hc, mz56_Mo_beat_1_j26 hc]; done)))
theorem mz56_Mo_beat_1_j20 {k : Nat} (hc : k = 56) : ∀ (v : fw_V), (mf_Mo_beat_1_j20 v) 0 0 k = v 0 0 k := by
  intro v
  unfold mf_Mo_beat_1_j20
  (try dsimp only)
  all_goals ((repeat' split) <;> (first | with_reducible rfl | (simp only [fw_up_ne (c := 9) (i := 0) (k := 4) (c' := 0) (i' := 0) (k' := k) (by omega), msend_0k (i := 0) (k := k) (by omega) (by omega) (by omega), mz56_Mo_beat_1_j21 hc]; done)))
theorem mz56_Mo_beat_1_j19 {k : Nat} (hc : k = 56) : ∀ (v : fw_V), (mf_Mo_beat_1_j19 v) 0 0 k = v 0 0 k := by
  intro v
  unfold mf_Mo_beat_1_j19
  (try dsimp only)
  all_goals ((repeat' split) <;> (first | with_reducible rfl | (simp only [msend_0k (i := 0) (k := k) (by omega) (by omega) (by omega), mz56_Mo_beat_1_j20 hc]; done)))
theorem mz56_Mo_beat_1_j18 {k : Nat} (hc : k = 56) : ∀ (v : fw_V), (mf_Mo_beat_1_j18 v) 0 0 k = v 0 0 k := by
  intro v
  unfold mf_Mo_beat_1_j18
  (try dsimp only)
  all_goals ((repeat' split) <;> (first | with_reducible rfl | (simp only [msend_0k (i := 0) (k := k) (by omega) (by omega) (by omega), mz56_Mo_beat_1_j19 hc]; done)))
theorem mz56_Mo_beat_1_j29 {k : Nat} (hc : k = 56) : ∀ (v : fw_V) (x90 : Int32), (mf_Mo_beat_1_j29 v x90) 0 0 k = v 0 0 k := by
  intro v x90
  unfold mf_Mo_beat_1_j29
  (try dsimp only)
  all_goals ((repeat' split) <;> (first | with_reducible rfl | (simp only [fw_up_ne (c := 9) (i := 0) (k := 4) (c' := 0) (i' := 0) (k' := k) (by omega), msend_0k (i := 0) (k := k) (by omega) (by omega) (by omega), mz56_Mo_beat_1_j21 hc]; done)))
theorem mz56_Mo_beat_1_j28 {k : Nat} (hc : k = 56) : ∀ (v : fw_V), (mf_Mo_beat_1_j28 v) 0 0 k = v 0 0 k := by
  intro v
  unfold mf_Mo_beat_1_j28
  (try dsimp only)
  all_goals ((repeat' split) <;> (first | with_reducible rfl | (simp only [msend_0k (i := 0) (k := k) (by omega) (by omega) (by omega), mz56_Mo_beat_1_j29 hc]; done)))
theorem mz56_Mo_beat_1_j17 {k : Nat} (hc : k = 56) : ∀ (v : fw_V), (mf_Mo_beat_1_j17 v) 0 0 k = v 0 0 k := by
  intro v
  unfold mf_Mo_beat_1_j17
  (try dsimp only)
  all_goals ((repeat' split) <;> (first | with_reducible rfl | (simp only [msend_0k (i := 0) (k := k) (by omega) (by omega) (by omega), mz56_Mo_beat_1_j18 hc, mz56_Mo_beat_1_j28 hc]; done)))
theorem mz56_Mo_beat_1_j16 {k : Nat} (hc : k = 56) : ∀ (v : fw_V), (mf_Mo_beat_1_j16 v) 0 0 k = v 0 0 k := by
  intro v
  unfold mf_Mo_beat_1_j16
  (try dsimp only)
  all_goals ((repeat' split) <;> (first | with_reducible rfl | (simp only [fw_up_ne (c := 9) (i := 0) (k := 3) (c' := 0) (i' := 0) (k' := k) (by omega), msend_0k (i := 0) (k := k) (by omega) (by omega) (by omega), mz56_Mo_beat_1_j17 hc]; done)))
theorem mz56_Mo_beat_1_j15 {k : Nat} (hc : k = 56) : ∀ (v : fw_V), (mf_Mo_beat_1_j15 v) 0 0 k = v 0 0 k := by
  intro v
  unfold mf_Mo_beat_1_j15
  (try dsimp only)
  all_goals ((repeat' split) <;> (first | with_reducible rfl | (simp only [msend_0k (i := 0) (k := k) (by omega) (by omega) (by omega), mz56_Mo_beat_1_j16 hc]; done)))
theorem mz56_Mo_beat_1_j14 {k : Nat} (hc : k = 56) : ∀ (v : fw_V), (mf_Mo_beat_1_j14 v) 0 0 k = v 0 0 k := by
  intro v
  unfold mf_Mo_beat_1_j14
  (try dsimp only)
  all_goals ((repeat' split) <;> (first | with_reducible rfl | (simp only [msend_0k (i := 0) (k := k) (by omega) (by omega) (by omega), mz56_Mo_beat_1_j15 hc]; done)))
theorem mz56_Mo_beat_1_j31 {k : Nat} (hc : k = 56) : ∀ (v : fw_V) (x90 : Int32), (mf_Mo_beat_1_j31 v x90) 0 0 k = v 0 0 k := by
  intro v x90
  unfold mf_Mo_beat_1_j31
  (try dsimp only)
  all_goals ((repeat' split) <;> (first | with_reducible rfl | (simp only [fw_up_ne (c := 9) (i := 0) (k := 3) (c' := 0) (i' := 0) (k' := k) (by omega), msend_0k (i := 0) (k := k) (by omega) (by omega) (by omega), mz56_Mo_beat_1_j17 hc]; done)))
theorem mz56_Mo_beat_1_j30 {k : Nat} (hc : k = 56) : ∀ (v : fw_V), (mf_Mo_beat_1_j30 v) 0 0 k = v 0 0 k := by
  intro v
  unfold mf_Mo_beat_1_j30
  (try dsimp only)
  all_goals ((repeat' split) <;> (first | with_reducible rfl | (simp only [msend_0k (i := 0) (k := k) (by omega) (by omega) (by omega), mz56_Mo_beat_1_j31 hc]; done)))
theorem mz56_Mo_beat_1_j13 {k : Nat} (hc : k = 56) : ∀ (v : fw_V), (mf_Mo_beat_1_j13 v) 0 0 k = v 0 0 k := by
  intro v
  unfold mf_Mo_beat_1_j13
  (try dsimp only)
  all_goals ((repeat' split) <;> (first | with_reducible rfl | (simp only [msend_0k (i := 0) (k := k) (by omega) (by omega) (by omega), mz56_Mo_beat_1_j14 hc, mz56_Mo_beat_1_j30 hc]; done)))
theorem mz56_Mo_beat_1_j12 {k : Nat} (hc : k = 56) : ∀ (v : fw_V), (mf_Mo_beat_1_j12 v) 0 0 k = v 0 0 k := by
  intro v
  unfold mf_Mo_beat_1_j12
  (try dsimp only)
  all_goals ((repeat' split) <;> (first | with_reducible rfl | (simp only [fw_up_ne (c := 9) (i := 0) (k := 2) (c' := 0) (i' := 0) (k' := k) (by omega), msend_0k (i := 0) (k := k) (by omega) (by omega) (by omega), mz56_Mo_beat_1_j13 hc]; done)))
theorem mz56_Mo_beat_1_j11 {k : Nat} (hc : k = 56) : ∀ (v : fw_V), (mf_Mo_beat_1_j11 v) 0 0 k = v 0 0 k := by
  intro v
  unfold mf_Mo_beat_1_j11
  (try dsimp only)
  all_goals ((repeat' split) <;> (first | with_reducible rfl | (simp only [msend_0k (i := 0) (k := k) (by omega) (by omega) (by omega), mz56_Mo_beat_1_j12 hc]; done)))
theorem mz56_Mo_beat_1_j10 {k : Nat} (hc : k = 56) : ∀ (v : fw_V), (mf_Mo_beat_1_j10 v) 0 0 k = v 0 0 k := by
  intro v
  unfold mf_Mo_beat_1_j10
  (try dsimp only)
  all_goals ((repeat' split) <;> (first | with_reducible rfl | (simp only [msend_0k (i := 0) (k := k) (by omega) (by omega) (by omega), mz56_Mo_beat_1_j11 hc]; done)))
theorem mz56_Mo_beat_1_j33 {k : Nat} (hc : k = 56) : ∀ (v : fw_V) (x90 : Int32), (mf_Mo_beat_1_j33 v x90) 0 0 k = v 0 0 k := by
  intro v x90
  unfold mf_Mo_beat_1_j33
  (try dsimp only)
  all_goals ((repeat' split) <;> (first | with_reducible rfl | (simp only [fw_up_ne (c := 9) (i := 0) (k := 2) (c' := 0) (i' := 0) (k' := k) (by omega), msend_0k (i := 0) (k := k) (by omega) (by omega) (by omega), mz56_Mo_beat_1_j13 hc]; done)))
theorem mz56_Mo_beat_1_j32 {k : Nat} (hc : k = 56) : ∀ (v : fw_V), (mf_Mo_beat_1_j32 v) 0 0 k = v 0 0 k := by
  intro v
  unfold mf_Mo_beat_1_j32
  (try dsimp only)
  all_goals ((repeat' split) <;> (first | with_reducible rfl | (simp only [msend_0k (i := 0) (k := k) (by omega) (by omega) (by omega), mz56_Mo_beat_1_j33 hc]; done)))
theorem mz56_Mo_beat_1_j9 {k : Nat} (hc : k = 56) : ∀ (v : fw_V), (mf_Mo_beat_1_j9 v) 0 0 k = v 0 0 k := by
  intro v
  unfold mf_Mo_beat_1_j9
  (try dsimp only)
  all_goals ((repeat' split) <;> (first | with_reducible rfl | (simp only [msend_0k (i := 0) (k := k) (by omega) (by omega) (by omega), mz56_Mo_beat_1_j10 hc, mz56_Mo_beat_1_j32 hc]; done)))
theorem mz56_Mo_beat_1_j8 {k : Nat} (hc : k = 56) : ∀ (v : fw_V), (mf_Mo_beat_1_j8 v) 0 0 k = v 0 0 k := by
  intro v
  unfold mf_Mo_beat_1_j8
  (try dsimp only)
  all_goals ((repeat' split) <;> (first | with_reducible rfl | (simp only [fw_up_ne (c := 9) (i := 0) (k := 1) (c' := 0) (i' := 0) (k' := k) (by omega), msend_0k (i := 0) (k := k) (by omega) (by omega) (by omega), mz56_Mo_beat_1_j9 hc]; done)))
theorem mz56_Mo_beat_1_j7 {k : Nat} (hc : k = 56) : ∀ (v : fw_V), (mf_Mo_beat_1_j7 v) 0 0 k = v 0 0 k := by
  intro v
  unfold mf_Mo_beat_1_j7
  (try dsimp only)
  all_goals ((repeat' split) <;> (first | with_reducible rfl | (simp only [msend_0k (i := 0) (k := k) (by omega) (by omega) (by omega), mz56_Mo_beat_1_j8 hc]; done)))
theorem mz56_Mo_beat_1_j6 {k : Nat} (hc : k = 56) : ∀ (v : fw_V), (mf_Mo_beat_1_j6 v) 0 0 k = v 0 0 k := by
  intro v
  unfold mf_Mo_beat_1_j6
  (try dsimp only)
  all_goals ((repeat' split) <;> (first | with_reducible rfl | (simp only [msend_0k (i := 0) (k := k) (by omega) (by omega) (by omega), mz56_Mo_beat_1_j7 hc]; done)))
theorem mz56_Mo_beat_1_j35 {k : Nat} (hc : k = 56) : ∀ (v : fw_V) (x90 : Int32), (mf_Mo_beat_1_j35 v x90) 0 0 k = v 0 0 k := by
  intro v x90
  unfold mf_Mo_beat_1_j35
  (try dsimp only)
  all_goals ((repeat' split) <;> (first | with_reducible rfl | (simp only [fw_up_ne (c := 9) (i := 0) (k := 1) (c' := 0) (i' := 0) (k' := k) (by omega), msend_0k (i := 0) (k := k) (by omega) (by omega) (by omega), mz56_Mo_beat_1_j9 hc]; done)))
theorem mz56_Mo_beat_1_j34 {k : Nat} (hc : k = 56) : ∀ (v : fw_V), (mf_Mo_beat_1_j34 v) 0 0 k = v 0 0 k := by
  intro v
  unfold mf_Mo_beat_1_j34
  (try dsimp only)
  all_goals ((repeat' split) <;> (first | with_reducible rfl | (simp only [msend_0k (i := 0) (k := k) (by omega) (by omega) (by omega), mz56_Mo_beat_1_j35 hc]; done)))
theorem mz56_Mo_beat_1_j5 {k : Nat} (hc : k = 56) : ∀ (v : fw_V), (mf_Mo_beat_1_j5 v) 0 0 k = v 0 0 k := by
  intro v
  unfold mf_Mo_beat_1_j5
  (try dsimp only)
  all_goals ((repeat' split) <;> (first | with_reducible rfl | (simp only [msend_0k (i := 0) (k := k) (by omega) (by omega) (by omega), mz56_Mo_beat_1_j6 hc, mz56_Mo_beat_1_j34 hc]; done)))
theorem mz56_Mo_beat_1_j4 {k : Nat} (hc : k = 56) : ∀ (v : fw_V), (mf_Mo_beat_1_j4 v) 0 0 k = v 0 0 k := by
  intro v
  unfold mf_Mo_beat_1_j4
  (try dsimp only)
  all_goals ((repeat' split) <;> (first | with_reducible rfl | (simp only [fw_up_ne (c := 9) (i := 0) (k := 0) (c' := 0) (i' := 0) (k' := k) (by omega), msend_0k (i := 0) (k := k) (by omega) (by omega) (by omega), mz56_Mo_beat_1_j5 hc]; done)))
theorem mz56_Mo_beat_1_j3 {k : Nat} (hc : k = 56) : ∀ (v : fw_V), (mf_Mo_beat_1_j3 v) 0 0 k = v 0 0 k := by
  intro v
  unfold mf_Mo_beat_1_j3
  (try dsimp only)
  all_goals ((repeat' split) <;> (first | with_reducible rfl | (simp only [msend_0k (i := 0) (k := k) (by omega) (by omega) (by omega), mz56_Mo_beat_1_j4 hc]; done)))
theorem mz56_Mo_beat_1_j2 {k : Nat} (hc : k = 56) : ∀ (v : fw_V), (mf_Mo_beat_1_j2 v) 0 0 k = v 0 0 k := by
  intro v
  unfold mf_Mo_beat_1_j2
  (try dsimp only)
  all_goals ((repeat' split) <;> (first | with_reducible rfl | (simp only [msend_0k (i := 0) (k := k) (by omega) (by omega) (by omega), mz56_Mo_beat_1_j3 hc]; done)))
theorem mz56_Mo_beat_1_j37 {k : Nat} (hc : k = 56) : ∀ (v : fw_V) (x90 : Int32), (mf_Mo_beat_1_j37 v x90) 0 0 k = v 0 0 k := by
  intro v x90
  unfold mf_Mo_beat_1_j37
  (try dsimp only)
  all_goals ((repeat' split) <;> (first | with_reducible rfl | (simp only [fw_up_ne (c := 9) (i := 0) (k := 0) (c' := 0) (i' := 0) (k' := k) (by omega), msend_0k (i := 0) (k := k) (by omega) (by omega) (by omega), mz56_Mo_beat_1_j5 hc]; done)))
theorem mz56_Mo_beat_1_j36 {k : Nat} (hc : k = 56) : ∀ (v : fw_V), (mf_Mo_beat_1_j36 v) 0 0 k = v 0 0 k := by
  intro v
  unfold mf_Mo_beat_1_j36
  (try dsimp only)
  all_goals ((repeat' split) <;> (first | with_reducible rfl | (simp only [msend_0k (i := 0) (k := k) (by omega) (by omega) (by omega), mz56_Mo_beat_1_j37 hc]; done)))
theorem mz56_Mo_beat_1_j1 {k : Nat} (hc : k = 56) : ∀ (v : fw_V), (mf_Mo_beat_1_j1 v) 0 0 k = v 0 0 k := by
  intro v
  unfold mf_Mo_beat_1_j1
  (try dsimp only)
  all_goals ((repeat' split) <;> (first | with_reducible rfl | (simp only [msend_0k (i := 0) (k := k) (by omega) (by omega) (by omega), mz56_Mo_beat_1_j2 hc, mz56_Mo_beat_1_j36 hc]; done)))
theorem mz56_Mo_pulse_1_j25 {k : Nat} (hc : k = 56) : ∀ (v : fw_V), (mf_Mo_pulse_1_j25 v) 0 0 k = v 0 0 k := by
  intro v
  unfold mf_Mo_pulse_1_j25
  (try dsimp only)
  all_goals ((repeat' split) <;> (first | with_reducible rfl | (simp only [fw_up_ne (c := 9) (i := 0) (k := 6) (c' := 0) (i' := 0) (k' := k) (by omega), fw_up_ne (c := 34) (i := 0) (k := 1) (c' := 0) (i' := 0) (k' := k) (by omega), msend_0k (i := 0) (k := k) (by omega) (by omega) (by omega), mz56_Mo_reply_1 hc]; done)))
theorem mz56_Mo_pulse_1_j24 {k : Nat} (hc : k = 56) : ∀ (v : fw_V), (mf_Mo_pulse_1_j24 v) 0 0 k = v 0 0 k := by
  intro v
  unfold mf_Mo_pulse_1_j24
  (try dsimp only)
  all_goals ((repeat' split) <;> (first | with_reducible rfl | (simp only [msend_0k (i := 0) (k := k) (by omega) (by omega) (by omega), mz56_Mo_pulse_1_j25 hc]; done)))
theorem mz56_Mo_pulse_1_j27 {k : Nat} (hc : k = 56) : ∀ (v : fw_V), (mf_Mo_pulse_1_j27 v) 0 0 k = v 0 0 k := by
  intro v
  unfold mf_Mo_pulse_1_j27
  (try dsimp only)
  all_goals ((repeat' split) <;> (first | with_reducible rfl | (simp only [fw_up_ne (c := 9) (i := 0) (k := 6) (c' := 0) (i' := 0) (k' := k) (by omega), fw_up_ne (c := 34) (i := 0) (k := 1) (c' := 0) (i' := 0) (k' := k) (by omega), msend_0k (i := 0) (k := k) (by omega) (by omega) (by omega), mz56_Mo_reply_1 hc]; done)))
theorem mz56_Mo_pulse_1_j26 {k : Nat} (hc : k = 56) : ∀ (v : fw_V), (mf_Mo_pulse_1_j26 v) 0 0 k = v 0 0 k := by
  intro v
  unfold mf_Mo_pulse_1_j26
  (try dsimp only)
  all_goals ((repeat' split) <;> (first | with_reducible rfl | (simp only [msend_0k (i := 0) (k := k) (by omega) (by omega) (by omega), mz56_Mo_pulse_1_j27 hc]; done)))
theorem mz56_Mo_pulse_1_j23 {k : Nat} (hc : k = 56) : ∀ (v : fw_V) (x4 : Int32), (mf_Mo_pulse_1_j23 v x4) 0 0 k = v 0 0 k := by
  intro v x4
  unfold mf_Mo_pulse_1_j23
  (try dsimp only)
  all_goals ((repeat' split) <;> (first | with_reducible rfl | (simp only [fw_up_ne (c := 9) (i := 0) (k := 5) (c' := 0) (i' := 0) (k' := k) (by omega), msend_0k (i := 0) (k := k) (by omega) (by omega) (by omega), mz56_Mo_pulse_1_j24 hc, mz56_Mo_pulse_1_j26 hc]; done)))
theorem mz56_Mo_pulse_1_j22 {k : Nat} (hc : k = 56) : ∀ (v : fw_V) (x4 : Int32), (mf_Mo_pulse_1_j22 v x4) 0 0 k = v 0 0 k := by
  intro v x4
  unfold mf_Mo_pulse_1_j22
  (try dsimp only)
  all_goals ((repeat' split) <;> (first | with_reducible rfl | (simp only [msend_0k (i := 0) (k := k) (by omega) (by omega) (by omega), mz56_Mo_pulse_1_j23 hc]; done)))
theorem mz56_Mo_pulse_1_j28 {k : Nat} (hc : k = 56) : ∀ (v : fw_V) (x4 : Int32) (x90 : Int32), (mf_Mo_pulse_1_j28 v x4 x90) 0 0 k = v 0 0 k := by
  intro v x4 x90
  unfold mf_Mo_pulse_1_j28
  (try dsimp only)
  all_goals ((repeat' split) <;> (first | with_reducible rfl | (simp only [fw_up_ne (c := 9) (i := 0) (k := 5) (c' := 0) (i' := 0) (k' := k) (by omega), msend_0k (i := 0) (k := k) (by omega) (by omega) (by omega), mz56_Mo_pulse_1_j24 hc, mz56_Mo_pulse_1_j26 hc]; done)))
theorem mz56_Mo_pulse_1_j21 {k : Nat} (hc : k = 56) : ∀ (v : fw_V), (mf_Mo_pulse_1_j21 v) 0 0 k = v 0 0 k := by
  intro v
  unfold mf_Mo_pulse_1_j21
  (try dsimp only)
  all_goals ((repeat' split) <;> (first | with_reducible rfl | (simp only [msend_0k (i := 0) (k := k) (by omega) (by omega) (by omega), mz56_Mo_pulse_1_j22 hc, mz56_Mo_pulse_1_j28 hc]; done)))
theorem mz56_Mo_pulse_1_j20 {k : Nat} (hc : k = 56) : ∀ (v : fw_V), (mf_Mo_pulse_1_j20 v) 0 0 k = v 0 0 k := by
  intro v
  unfold mf_Mo_pulse_1_j20
  (try dsimp only)
  all_goals ((repeat' split) <;> (first | with_reducible rfl | (simp only [msend_0k (i := 0) (k := k) (by omega) (by omega) (by omega), mz56_Mo_pulse_1_j21 hc]; done)))
theorem mz56_Mo_pulse_1_j33 {k : Nat} (hc : k = 56) : ∀ (v : fw_V), (mf_Mo_pulse_1_j33 v) 0 0 k = v 0 0 k := by
  intro v
  unfold mf_Mo_pulse_1_j33
  (try dsimp only)
  all_goals ((repeat' split) <;> (first | with_reducible rfl | (simp only [msend_0k (i := 0) (k := k) (by omega) (by omega) (by omega), mz56_Mo_pulse_1_j27 hc]; done)))
theorem mz56_Mo_pulse_1_j34 {k : Nat} (hc : k = 56) : ∀ (v : fw_V), (mf_Mo_pulse_1_j34 v) 0 0 k = v 0 0 k := by
  intro v
  unfold mf_Mo_pulse_1_j34
  (try dsimp only)
  all_goals ((repeat' split) <;> (first | with_reducible rfl | (simp only [msend_0k (i := 0) (k := k) (by omega) (by omega) (by omega), mz56_Mo_pulse_1_j27 hc]; done)))
theorem mz56_Mo_pulse_1_j32 {k : Nat} (hc : k = 56) : ∀ (v : fw_V) (x4 : Int32), (mf_Mo_pulse_1_j32 v x4) 0 0 k = v 0 0 k := by
  intro v x4
  unfold mf_Mo_pulse_1_j32
  (try dsimp only)
  all_goals ((repeat' split) <;> (first | with_reducible rfl | (simp only [fw_up_ne (c := 9) (i := 0) (k := 5) (c' := 0) (i' := 0) (k' := k) (by omega), msend_0k (i := 0) (k := k) (by omega) (by omega) (by omega), mz56_Mo_pulse_1_j33 hc, mz56_Mo_pulse_1_j34 hc]; done)))
theorem mz56_Mo_pulse_1_j31 {k : Nat} (hc : k = 56) : ∀ (v : fw_V) (x4 : Int32), (mf_Mo_pulse_1_j31 v x4) 0 0 k = v 0 0 k := by
  intro v x4
  unfold mf_Mo_pulse_1_j31
  (try dsimp only)
  all_goals ((repeat' split) <;> (first | with_reducible rfl | (simp only [msend_0k (i := 0) (k := k) (by omega) (by omega) (by omega), mz56_Mo_pulse_1_j32 hc]; done)))
theorem mz56_Mo_pulse_1_j35 {k : Nat} (hc : k = 56) : ∀ (v : fw_V) (x4 : Int32) (x90 : Int32), (mf_Mo_pulse_1_j35 v x4 x90) 0 0 k = v 0 0 k := by
  intro v x4 x90
  unfold mf_Mo_pulse_1_j35
  (try dsimp only)
  all_goals ((repeat' split) <;> (first | with_reducible rfl | (simp only [fw_up_ne (c := 9) (i := 0) (k := 5) (c' := 0) (i' := 0) (k' := k) (by omega), msend_0k (i := 0) (k := k) (by omega) (by omega) (by omega), mz56_Mo_pulse_1_j33 hc, mz56_Mo_pulse_1_j34 hc]; done)))
theorem mz56_Mo_pulse_1_j30 {k : Nat} (hc : k = 56) : ∀ (v : fw_V), (mf_Mo_pulse_1_j30 v) 0 0 k = v 0 0 k := by
  intro v
  unfold mf_Mo_pulse_1_j30
  (try dsimp only)
  all_goals ((repeat' split) <;> (first | with_reducible rfl | (simp only [msend_0k (i := 0) (k := k) (by omega) (by omega) (by omega), mz56_Mo_pulse_1_j31 hc, mz56_Mo_pulse_1_j35 hc]; done)))
theorem mz56_Mo_pulse_1_j29 {k : Nat} (hc : k = 56) : ∀ (v : fw_V), (mf_Mo_pulse_1_j29 v) 0 0 k = v 0 0 k := by
  intro v
  unfold mf_Mo_pulse_1_j29
  (try dsimp only)
  all_goals ((repeat' split) <;> (first | with_reducible rfl | (simp only [msend_0k (i := 0) (k := k) (by omega) (by omega) (by omega), mz56_Mo_pulse_1_j30 hc]; done)))
theorem mz56_Mo_pulse_1_j19 {k : Nat} (hc : k = 56) : ∀ (v : fw_V) (x4 : Int32), (mf_Mo_pulse_1_j19 v x4) 0 0 k = v 0 0 k := by
  intro v x4
  unfold mf_Mo_pulse_1_j19
  (try dsimp only)
  all_goals ((repeat' split) <;> (first | with_reducible rfl | (simp only [fw_up_ne (c := 9) (i := 0) (k := 4) (c' := 0) (i' := 0) (k' := k) (by omega), msend_0k (i := 0) (k := k) (by omega) (by omega) (by omega), mz56_Mo_pulse_1_j20 hc, mz56_Mo_pulse_1_j29 hc]; done)))
theorem mz56_Mo_pulse_1_j18 {k : Nat} (hc : k = 56) : ∀ (v : fw_V) (x4 : Int32), (mf_Mo_pulse_1_j18 v x4) 0 0 k = v 0 0 k := by
  intro v x4
  unfold mf_Mo_pulse_1_j18
  (try dsimp only)
  all_goals ((repeat' split) <;> (first | with_reducible rfl | (simp only [msend_0k (i := 0) (k := k) (by omega) (by omega) (by omega), mz56_Mo_pulse_1_j19 hc]; done)))
theorem mz56_Mo_pulse_1_j36 {k : Nat} (hc : k = 56) : ∀ (v : fw_V) (x4 : Int32) (x90 : Int32), (mf_Mo_pulse_1_j36 v x4 x90) 0 0 k = v 0 0 k := by
  intro v x4 x90
  unfold mf_Mo_pulse_1_j36
  (try dsimp only)
  all_goals ((repeat' split) <;> (first | with_reducible rfl | (simp only [fw_up_ne (c := 9) (i := 0) (k := 4) (c' := 0) (i' := 0) (k' := k) (by omega), msend_0k (i := 0) (k := k) (by omega) (by omega) (by omega), mz56_Mo_pulse_1_j20 hc, mz56_Mo_pulse_1_j29 hc]; done)))
theorem mz56_Mo_pulse_1_j17 {k : Nat} (hc : k = 56) : ∀ (v : fw_V), (mf_Mo_pulse_1_j17 v) 0 0 k = v 0 0 k := by
  intro v
  unfold mf_Mo_pulse_1_j17
  (try dsimp only)
  all_goals ((repeat' split) <;> (first | with_reducible rfl | (simp only [msend_0k (i := 0) (k := k) (by omega) (by omega) (by omega), mz56_Mo_pulse_1_j18 hc, mz56_Mo_pulse_1_j36 hc]; done)))
theorem mz56_Mo_pulse_1_j16 {k : Nat} (hc : k = 56) : ∀ (v : fw_V), (mf_Mo_pulse_1_j16 v) 0 0 k = v 0 0 k := by
  intro v
  unfold mf_Mo_pulse_1_j16
  (try dsimp only)
  all_goals ((repeat' split) <;> (first | with_reducible rfl | (simp only [msend_0k (i := 0) (k := k) (by omega) (by omega) (by omega), mz56_Mo_pulse_1_j17 hc]; done)))
theorem mz56_Mo_pulse_1_j46 {k : Nat} (hc : k = 56) : ∀ (v : fw_V), (mf_Mo_pulse_1_j46 v) 0 0 k = v 0 0 k := by
  intro v
  unfold mf_Mo_pulse_1_j46
  (try dsimp only)
  all_goals ((repeat' split) <;> (first | with_reducible rfl | (simp only [fw_up_ne (c := 9) (i := 0) (k := 6) (c' := 0) (i' := 0) (k' := k) (by omega), fw_up_ne (c := 34) (i := 0) (k := 1) (c' := 0) (i' := 0) (k' := k) (by omega), msend_0k (i := 0) (k := k) (by omega) (by omega) (by omega), mz56_Mo_reply_1 hc]; done)))
theorem mz56_Mo_pulse_1_j45 {k : Nat} (hc : k = 56) : ∀ (v : fw_V), (mf_Mo_pulse_1_j45 v) 0 0 k = v 0 0 k := by
  intro v
  unfold mf_Mo_pulse_1_j45
  (try dsimp only)
  all_goals ((repeat' split) <;> (first | with_reducible rfl | (simp only [msend_0k (i := 0) (k := k) (by omega) (by omega) (by omega), mz56_Mo_pulse_1_j46 hc]; done)))
theorem mz56_Mo_pulse_1_j48 {k : Nat} (hc : k = 56) : ∀ (v : fw_V), (mf_Mo_pulse_1_j48 v) 0 0 k = v 0 0 k := by
  intro v
  unfold mf_Mo_pulse_1_j48
  (try dsimp only)
  all_goals ((repeat' split) <;> (first | with_reducible rfl | (simp only [fw_up_ne (c := 9) (i := 0) (k := 6) (c' := 0) (i' := 0) (k' := k) (by omega), fw_up_ne (c := 34) (i := 0) (k := 1) (c' := 0) (i' := 0) (k' := k) (by omega), msend_0k (i := 0) (k := k) (by omega) (by omega) (by omega), mz56_Mo_reply_1 hc]; done)))
theorem mz56_Mo_pulse_1_j47 {k : Nat} (hc : k = 56) : ∀ (v : fw_V), (mf_Mo_pulse_1_j47 v) 0 0 k = v 0 0 k := by
  intro v
  unfold mf_Mo_pulse_1_j47
  (try dsimp only)
  all_goals ((repeat' split) <;> (first | with_reducible rfl | (simp only [msend_0k (i := 0) (k := k) (by omega) (by omega) (by omega), mz56_Mo_pulse_1_j48 hc]; done)))
theorem mz56_Mo_pulse_1_j44 {k : Nat} (hc : k = 56) : ∀ (v : fw_V) (x4 : Int32), (mf_Mo_pulse_1_j44 v x4) 0 0 k = v 0 0 k := by
  intro v x4
  unfold mf_Mo_pulse_1_j44
  (try dsimp only)
  all_goals ((repeat' split) <;> (first | with_reducible rfl | (simp only [fw_up_ne (c := 9) (i := 0) (k := 5) (c' := 0) (i' := 0) (k' := k) (by omega), msend_0k (i := 0) (k := k) (by omega) (by omega) (by omega), mz56_Mo_pulse_1_j45 hc, mz56_Mo_pulse_1_j47 hc]; done)))
theorem mz56_Mo_pulse_1_j43 {k : Nat} (hc : k = 56) : ∀ (v : fw_V) (x4 : Int32), (mf_Mo_pulse_1_j43 v x4) 0 0 k = v 0 0 k := by
  intro v x4
  unfold mf_Mo_pulse_1_j43
  (try dsimp only)
  all_goals ((repeat' split) <;> (first | with_reducible rfl | (simp only [msend_0k (i := 0) (k := k) (by omega) (by omega) (by omega), mz56_Mo_pulse_1_j44 hc]; done)))
theorem mz56_Mo_pulse_1_j49 {k : Nat} (hc : k = 56) : ∀ (v : fw_V) (x4 : Int32) (x90 : Int32), (mf_Mo_pulse_1_j49 v x4 x90) 0 0 k = v 0 0 k := by
  intro v x4 x90
  unfold mf_Mo_pulse_1_j49
  (try dsimp only)
  all_goals ((repeat' split) <;> (first | with_reducible rfl | (simp only [fw_up_ne (c := 9) (i := 0) (k := 5) (c' := 0) (i' := 0) (k' := k) (by omega), msend_0k (i := 0) (k := k) (by omega) (by omega) (by omega), mz56_Mo_pulse_1_j45 hc, mz56_Mo_pulse_1_j47 hc]; done)))
theorem mz56_Mo_pulse_1_j42 {k : Nat} (hc : k = 56) : ∀ (v : fw_V), (mf_Mo_pulse_1_j42 v) 0 0 k = v 0 0 k := by
  intro v
  unfold mf_Mo_pulse_1_j42
  (try dsimp only)
  all_goals ((repeat' split) <;> (first | with_reducible rfl | (simp only [msend_0k (i := 0) (k := k) (by omega) (by omega) (by omega), mz56_Mo_pulse_1_j43 hc, mz56_Mo_pulse_1_j49 hc]; done)))
theorem mz56_Mo_pulse_1_j41 {k : Nat} (hc : k = 56) : ∀ (v : fw_V), (mf_Mo_pulse_1_j41 v) 0 0 k = v 0 0 k := by
  intro v
  unfold mf_Mo_pulse_1_j41
  (try dsimp only)
  all_goals ((repeat' split) <;> (first | with_reducible rfl | (simp only [msend_0k (i := 0) (k := k) (by omega) (by omega) (by omega), mz56_Mo_pulse_1_j42 hc]; done)))
theorem mz56_Mo_pulse_1_j54 {k : Nat} (hc : k = 56) : ∀ (v : fw_V), (mf_Mo_pulse_1_j54 v) 0 0 k = v 0 0 k := by
  intro v
  unfold mf_Mo_pulse_1_j54
  (try dsimp only)
  all_goals ((repeat' split) <;> (first | with_reducible rfl | (simp only [msend_0k (i := 0) (k := k) (by omega) (by omega) (by omega), mz56_Mo_pulse_1_j48 hc]; done)))
theorem mz56_Mo_pulse_1_j55 {k : Nat} (hc : k = 56) : ∀ (v : fw_V), (mf_Mo_pulse_1_j55 v) 0 0 k = v 0 0 k := by
  intro v
  unfold mf_Mo_pulse_1_j55
  (try dsimp only)
  all_goals ((repeat' split) <;> (first | with_reducible rfl | (simp only [msend_0k (i := 0) (k := k) (by omega) (by omega) (by omega), mz56_Mo_pulse_1_j48 hc]; done)))
theorem mz56_Mo_pulse_1_j53 {k : Nat} (hc : k = 56) : ∀ (v : fw_V) (x4 : Int32), (mf_Mo_pulse_1_j53 v x4) 0 0 k = v 0 0 k := by
  intro v x4
  unfold mf_Mo_pulse_1_j53
  (try dsimp only)
  all_goals ((repeat' split) <;> (first | with_reducible rfl | (simp only [fw_up_ne (c := 9) (i := 0) (k := 5) (c' := 0) (i' := 0) (k' := k) (by omega), msend_0k (i := 0) (k := k) (by omega) (by omega) (by omega), mz56_Mo_pulse_1_j54 hc, mz56_Mo_pulse_1_j55 hc]; done)))
theorem mz56_Mo_pulse_1_j52 {k : Nat} (hc : k = 56) : ∀ (v : fw_V) (x4 : Int32), (mf_Mo_pulse_1_j52 v x4) 0 0 k = v 0 0 k := by
  intro v x4
  unfold mf_Mo_pulse_1_j52
  (try dsimp only)
  all_goals ((repeat' split) <;> (first | with_reducible rfl | (simp only [msend_0k (i := 0) (k := k) (by omega) (by omega) (by omega), mz56_Mo_pulse_1_j53 hc]; done)))
theorem mz56_Mo_pulse_1_j56 {k : Nat} (hc : k = 56) : ∀ (v : fw_V) (x4 : Int32) (x90 : Int32), (mf_Mo_pulse_1_j56 v x4 x90) 0 0 k = v 0 0 k := by
  intro v x4 x90
  unfold mf_Mo_pulse_1_j56
  (try dsimp only)
  all_goals ((repeat' split) <;> (first | with_reducible rfl | (simp only [fw_up_ne (c := 9) (i := 0) (k := 5) (c' := 0) (i' := 0) (k' := k) (by omega), msend_0k (i := 0) (k := k) (by omega) (by omega) (by omega), mz56_Mo_pulse_1_j54 hc, mz56_Mo_pulse_1_j55 hc]; done)))
theorem mz56_Mo_pulse_1_j51 {k : Nat} (hc : k = 56) : ∀ (v : fw_V), (mf_Mo_pulse_1_j51 v) 0 0 k = v 0 0 k := by
  intro v
  unfold mf_Mo_pulse_1_j51
  (try dsimp only)
  all_goals ((repeat' split) <;> (first | with_reducible rfl | (simp only [msend_0k (i := 0) (k := k) (by omega) (by omega) (by omega), mz56_Mo_pulse_1_j52 hc, mz56_Mo_pulse_1_j56 hc]; done)))
theorem mz56_Mo_pulse_1_j50 {k : Nat} (hc : k = 56) : ∀ (v : fw_V), (mf_Mo_pulse_1_j50 v) 0 0 k = v 0 0 k := by
  intro v
  unfold mf_Mo_pulse_1_j50
  (try dsimp only)
  all_goals ((repeat' split) <;> (first | with_reducible rfl | (simp only [msend_0k (i := 0) (k := k) (by omega) (by omega) (by omega), mz56_Mo_pulse_1_j51 hc]; done)))
theorem mz56_Mo_pulse_1_j40 {k : Nat} (hc : k = 56) : ∀ (v : fw_V) (x4 : Int32), (mf_Mo_pulse_1_j40 v x4) 0 0 k = v 0 0 k := by
  intro v x4
  unfold mf_Mo_pulse_1_j40
  (try dsimp only)
  all_goals ((repeat' split) <;> (first | with_reducible rfl | (simp only [fw_up_ne (c := 9) (i := 0) (k := 4) (c' := 0) (i' := 0) (k' := k) (by omega), msend_0k (i := 0) (k := k) (by omega) (by omega) (by omega), mz56_Mo_pulse_1_j41 hc, mz56_Mo_pulse_1_j50 hc]; done)))
theorem mz56_Mo_pulse_1_j39 {k : Nat} (hc : k = 56) : ∀ (v : fw_V) (x4 : Int32), (mf_Mo_pulse_1_j39 v x4) 0 0 k = v 0 0 k := by
  intro v x4
  unfold mf_Mo_pulse_1_j39
  (try dsimp only)
  all_goals ((repeat' split) <;> (first | with_reducible rfl | (simp only [msend_0k (i := 0) (k := k) (by omega) (by omega) (by omega), mz56_Mo_pulse_1_j40 hc]; done)))
theorem mz56_Mo_pulse_1_j57 {k : Nat} (hc : k = 56) : ∀ (v : fw_V) (x4 : Int32) (x90 : Int32), (mf_Mo_pulse_1_j57 v x4 x90) 0 0 k = v 0 0 k := by
  intro v x4 x90
  unfold mf_Mo_pulse_1_j57
  (try dsimp only)
  all_goals ((repeat' split) <;> (first | with_reducible rfl | (simp only [fw_up_ne (c := 9) (i := 0) (k := 4) (c' := 0) (i' := 0) (k' := k) (by omega), msend_0k (i := 0) (k := k) (by omega) (by omega) (by omega), mz56_Mo_pulse_1_j41 hc, mz56_Mo_pulse_1_j50 hc]; done)))
theorem mz56_Mo_pulse_1_j38 {k : Nat} (hc : k = 56) : ∀ (v : fw_V), (mf_Mo_pulse_1_j38 v) 0 0 k = v 0 0 k := by
  intro v
  unfold mf_Mo_pulse_1_j38
  (try dsimp only)
  all_goals ((repeat' split) <;> (first | with_reducible rfl | (simp only [msend_0k (i := 0) (k := k) (by omega) (by omega) (by omega), mz56_Mo_pulse_1_j39 hc, mz56_Mo_pulse_1_j57 hc]; done)))
theorem mz56_Mo_pulse_1_j37 {k : Nat} (hc : k = 56) : ∀ (v : fw_V), (mf_Mo_pulse_1_j37 v) 0 0 k = v 0 0 k := by
  intro v
  unfold mf_Mo_pulse_1_j37
  (try dsimp only)
  all_goals ((repeat' split) <;> (first | with_reducible rfl | (simp only [msend_0k (i := 0) (k := k) (by omega) (by omega) (by omega), mz56_Mo_pulse_1_j38 hc]; done)))
theorem mz56_Mo_pulse_1_j15 {k : Nat} (hc : k = 56) : ∀ (v : fw_V) (x4 : Int32), (mf_Mo_pulse_1_j15 v x4) 0 0 k = v 0 0 k := by
  intro v x4
  unfold mf_Mo_pulse_1_j15
  (try dsimp only)
  all_goals ((repeat' split) <;> (first | with_reducible rfl | (simp only [fw_up_ne (c := 9) (i := 0) (k := 3) (c' := 0) (i' := 0) (k' := k) (by omega), msend_0k (i := 0) (k := k) (by omega) (by omega) (by omega), mz56_Mo_pulse_1_j16 hc, mz56_Mo_pulse_1_j37 hc]; done)))
theorem mz56_Mo_pulse_1_j14 {k : Nat} (hc : k = 56) : ∀ (v : fw_V) (x4 : Int32), (mf_Mo_pulse_1_j14 v x4) 0 0 k = v 0 0 k := by
  intro v x4
  unfold mf_Mo_pulse_1_j14
  (try dsimp only)
  all_goals ((repeat' split) <;> (first | with_reducible rfl | (simp only [msend_0k (i := 0) (k := k) (by omega) (by omega) (by omega), mz56_Mo_pulse_1_j15 hc]; done)))
theorem mz56_Mo_pulse_1_j58 {k : Nat} (hc : k = 56) : ∀ (v : fw_V) (x4 : Int32) (x90 : Int32), (mf_Mo_pulse_1_j58 v x4 x90) 0 0 k = v 0 0 k := by
  intro v x4 x90
  unfold mf_Mo_pulse_1_j58
  (try dsimp only)
  all_goals ((repeat' split) <;> (first | with_reducible rfl | (simp only [fw_up_ne (c := 9) (i := 0) (k := 3) (c' := 0) (i' := 0) (k' := k) (by omega), msend_0k (i := 0) (k := k) (by omega) (by omega) (by omega), mz56_Mo_pulse_1_j16 hc, mz56_Mo_pulse_1_j37 hc]; done)))
theorem mz56_Mo_pulse_1_j13 {k : Nat} (hc : k = 56) : ∀ (v : fw_V), (mf_Mo_pulse_1_j13 v) 0 0 k = v 0 0 k := by
  intro v
  unfold mf_Mo_pulse_1_j13
  (try dsimp only)
  all_goals ((repeat' split) <;> (first | with_reducible rfl | (simp only [msend_0k (i := 0) (k := k) (by omega) (by omega) (by omega), mz56_Mo_pulse_1_j14 hc, mz56_Mo_pulse_1_j58 hc]; done)))
theorem mz56_Mo_pulse_1_j12 {k : Nat} (hc : k = 56) : ∀ (v : fw_V), (mf_Mo_pulse_1_j12 v) 0 0 k = v 0 0 k := by
  intro v
  unfold mf_Mo_pulse_1_j12
  (try dsimp only)
  all_goals ((repeat' split) <;> (first | with_reducible rfl | (simp only [msend_0k (i := 0) (k := k) (by omega) (by omega) (by omega), mz56_Mo_pulse_1_j13 hc]; done)))
theorem mz56_Mo_pulse_1_j63 {k : Nat} (hc : k = 56) : ∀ (v : fw_V), (mf_Mo_pulse_1_j63 v) 0 0 k = v 0 0 k := by
  intro v
  unfold mf_Mo_pulse_1_j63
  (try dsimp only)
  all_goals ((repeat' split) <;> (first | with_reducible rfl | (simp only [msend_0k (i := 0) (k := k) (by omega) (by omega) (by omega), mz56_Mo_pulse_1_j38 hc]; done)))
theorem mz56_Mo_pulse_1_j64 {k : Nat} (hc : k = 56) : ∀ (v : fw_V), (mf_Mo_pulse_1_j64 v) 0 0 k = v 0 0 k := by
  intro v
  unfold mf_Mo_pulse_1_j64
  (try dsimp only)
  all_goals ((repeat' split) <;> (first | with_reducible rfl | (simp only [msend_0k (i := 0) (k := k) (by omega) (by omega) (by omega), mz56_Mo_pulse_1_j38 hc]; done)))
theorem mz56_Mo_pulse_1_j62 {k : Nat} (hc : k = 56) : ∀ (v : fw_V) (x4 : Int32), (mf_Mo_pulse_1_j62 v x4) 0 0 k = v 0 0 k := by
  intro v x4
  unfold mf_Mo_pulse_1_j62
  (try dsimp only)
  all_goals ((repeat' split) <;> (first | with_reducible rfl | (simp only [fw_up_ne (c := 9) (i := 0) (k := 3) (c' := 0) (i' := 0) (k' := k) (by omega), msend_0k (i := 0) (k := k) (by omega) (by omega) (by omega), mz56_Mo_pulse_1_j63 hc, mz56_Mo_pulse_1_j64 hc]; done)))
theorem mz56_Mo_pulse_1_j61 {k : Nat} (hc : k = 56) : ∀ (v : fw_V) (x4 : Int32), (mf_Mo_pulse_1_j61 v x4) 0 0 k = v 0 0 k := by
  intro v x4
  unfold mf_Mo_pulse_1_j61
  (try dsimp only)
  all_goals ((repeat' split) <;> (first | with_reducible rfl | (simp only [msend_0k (i := 0) (k := k) (by omega) (by omega) (by omega), mz56_Mo_pulse_1_j62 hc]; done)))
theorem mz56_Mo_pulse_1_j65 {k : Nat} (hc : k = 56) : ∀ (v : fw_V) (x4 : Int32) (x90 : Int32), (mf_Mo_pulse_1_j65 v x4 x90) 0 0 k = v 0 0 k := by
  intro v x4 x90
  unfold mf_Mo_pulse_1_j65
  (try dsimp only)
  all_goals ((repeat' split) <;> (first | with_reducible rfl | (simp only [fw_up_ne (c := 9) (i := 0) (k := 3) (c' := 0) (i' := 0) (k' := k) (by omega), msend_0k (i := 0) (k := k) (by omega) (by omega) (by omega), mz56_Mo_pulse_1_j63 hc, mz56_Mo_pulse_1_j64 hc]; done)))
theorem mz56_Mo_pulse_1_j60 {k : Nat} (hc : k = 56) : ∀ (v : fw_V), (mf_Mo_pulse_1_j60 v) 0 0 k = v 0 0 k := by
  intro v
  unfold mf_Mo_pulse_1_j60
  (try dsimp only)
  all_goals ((repeat' split) <;> (first | with_reducible rfl | (simp only [msend_0k (i := 0) (k := k) (by omega) (by omega) (by omega), mz56_Mo_pulse_1_j61 hc, mz56_Mo_pulse_1_j65 hc]; done)))
theorem mz56_Mo_pulse_1_j59 {k : Nat} (hc : k = 56) : ∀ (v : fw_V), (mf_Mo_pulse_1_j59 v) 0 0 k = v 0 0 k := by
  intro v
  unfold mf_Mo_pulse_1_j59
  (try dsimp only)
  all_goals ((repeat' split) <;> (first | with_reducible rfl | (simp only [msend_0k (i := 0) (k := k) (by omega) (by omega) (by omega), mz56_Mo_pulse_1_j60 hc]; done)))
theorem mz56_Mo_pulse_1_j11 {k : Nat} (hc : k = 56) : ∀ (v : fw_V) (x4 : Int32), (mf_Mo_pulse_1_j11 v x4) 0 0 k = v 0 0 k := by
  intro v x4
  unfold mf_Mo_pulse_1_j11
  (try dsimp only)
  all_goals ((repeat' split) <;> (first | with_reducible rfl | (simp only [fw_up_ne (c := 9) (i := 0) (k := 2) (c' := 0) (i' := 0) (k' := k) (by omega), msend_0k (i := 0) (k := k) (by omega) (by omega) (by omega), mz56_Mo_pulse_1_j12 hc, mz56_Mo_pulse_1_j59 hc]; done)))
theorem mz56_Mo_pulse_1_j10 {k : Nat} (hc : k = 56) : ∀ (v : fw_V) (x4 : Int32), (mf_Mo_pulse_1_j10 v x4) 0 0 k = v 0 0 k := by
  intro v x4
  unfold mf_Mo_pulse_1_j10
  (try dsimp only)
  all_goals ((repeat' split) <;> (first | with_reducible rfl | (simp only [msend_0k (i := 0) (k := k) (by omega) (by omega) (by omega), mz56_Mo_pulse_1_j11 hc]; done)))
theorem mz56_Mo_pulse_1_j66 {k : Nat} (hc : k = 56) : ∀ (v : fw_V) (x4 : Int32) (x90 : Int32), (mf_Mo_pulse_1_j66 v x4 x90) 0 0 k = v 0 0 k := by
  intro v x4 x90
  unfold mf_Mo_pulse_1_j66
  (try dsimp only)
  all_goals ((repeat' split) <;> (first | with_reducible rfl | (simp only [fw_up_ne (c := 9) (i := 0) (k := 2) (c' := 0) (i' := 0) (k' := k) (by omega), msend_0k (i := 0) (k := k) (by omega) (by omega) (by omega), mz56_Mo_pulse_1_j12 hc, mz56_Mo_pulse_1_j59 hc]; done)))
theorem mz56_Mo_pulse_1_j9 {k : Nat} (hc : k = 56) : ∀ (v : fw_V), (mf_Mo_pulse_1_j9 v) 0 0 k = v 0 0 k := by
  intro v
  unfold mf_Mo_pulse_1_j9
  (try dsimp only)
  all_goals ((repeat' split) <;> (first | with_reducible rfl | (simp only [msend_0k (i := 0) (k := k) (by omega) (by omega) (by omega), mz56_Mo_pulse_1_j10 hc, mz56_Mo_pulse_1_j66 hc]; done)))
theorem mz56_Mo_pulse_1_j8 {k : Nat} (hc : k = 56) : ∀ (v : fw_V), (mf_Mo_pulse_1_j8 v) 0 0 k = v 0 0 k := by
  intro v
  unfold mf_Mo_pulse_1_j8
  (try dsimp only)
  all_goals ((repeat' split) <;> (first | with_reducible rfl | (simp only [msend_0k (i := 0) (k := k) (by omega) (by omega) (by omega), mz56_Mo_pulse_1_j9 hc]; done)))
theorem mz56_Mo_pulse_1_j84 {k : Nat} (hc : k = 56) : ∀ (v : fw_V), (mf_Mo_pulse_1_j84 v) 0 0 k = v 0 0 k := by
  intro v
  unfold mf_Mo_pulse_1_j84
  (try dsimp only)
  all_goals ((repeat' split) <;> (first | with_reducible rfl | (simp only [fw_up_ne (c := 9) (i := 0) (k := 6) (c' := 0) (i' := 0) (k' := k) (by omega), fw_up_ne (c := 34) (i := 0) (k := 1) (c' := 0) (i' := 0) (k' := k) (by omega), msend_0k (i := 0) (k := k) (by omega) (by omega) (by omega), mz56_Mo_reply_1 hc]; done)))
theorem mz56_Mo_pulse_1_j83 {k : Nat} (hc : k = 56) : ∀ (v : fw_V), (mf_Mo_pulse_1_j83 v) 0 0 k = v 0 0 k := by
  intro v
  unfold mf_Mo_pulse_1_j83
  (try dsimp only)
  all_goals ((repeat' split) <;> (first | with_reducible rfl | (simp only [msend_0k (i := 0) (k := k) (by omega) (by omega) (by omega), mz56_Mo_pulse_1_j84 hc]; done)))
theorem mz56_Mo_pulse_1_j86 {k : Nat} (hc : k = 56) : ∀ (v : fw_V), (mf_Mo_pulse_1_j86 v) 0 0 k = v 0 0 k := by
  intro v
  unfold mf_Mo_pulse_1_j86
  (try dsimp only)
  all_goals ((repeat' split) <;> (first | with_reducible rfl | (simp only [fw_up_ne (c := 9) (i := 0) (k := 6) (c' := 0) (i' := 0) (k' := k) (by omega), fw_up_ne (c := 34) (i := 0) (k := 1) (c' := 0) (i' := 0) (k' := k) (by omega), msend_0k (i := 0) (k := k) (by omega) (by omega) (by omega), mz56_Mo_reply_1 hc]; done)))
theorem mz56_Mo_pulse_1_j85 {k : Nat} (hc : k = 56) : ∀ (v : fw_V), (mf_Mo_pulse_1_j85 v) 0 0 k = v 0 0 k := by
  intro v
  unfold mf_Mo_pulse_1_j85
  (try dsimp only)
  all_goals ((repeat' split) <;> (first | with_reducible rfl | (simp only [msend_0k (i := 0) (k := k) (by omega) (by omega) (by omega), mz56_Mo_pulse_1_j86 hc]; done)))
theorem mz56_Mo_pulse_1_j82 {k : Nat} (hc : k = 56) : ∀ (v : fw_V) (x4 : Int32), (mf_Mo_pulse_1_j82 v x4) 0 0 k = v 0 0 k := by
  intro v x4
  unfold mf_Mo_pulse_1_j82
  (try dsimp only)
  all_goals ((repeat' split) <;> (first | with_reducible rfl | (simp only [fw_up_ne (c := 9) (i := 0) (k := 5) (c' := 0) (i' := 0) (k' := k) (by omega), msend_0k (i := 0) (k := k) (by omega) (by omega) (by omega), mz56_Mo_pulse_1_j83 hc, mz56_Mo_pulse_1_j85 hc]; done)))
theorem mz56_Mo_pulse_1_j81 {k : Nat} (hc : k = 56) : ∀ (v : fw_V) (x4 : Int32), (mf_Mo_pulse_1_j81 v x4) 0 0 k = v 0 0 k := by
  intro v x4
  unfold mf_Mo_pulse_1_j81
  (try dsimp only)
  all_goals ((repeat' split) <;> (first | with_reducible rfl | (simp only [msend_0k (i := 0) (k := k) (by omega) (by omega) (by omega), mz56_Mo_pulse_1_j82 hc]; done)))
theorem mz56_Mo_pulse_1_j87 {k : Nat} (hc : k = 56) : ∀ (v : fw_V) (x4 : Int32) (x90 : Int32), (mf_Mo_pulse_1_j87 v x4 x90) 0 0 k = v 0 0 k := by
  intro v x4 x90
  unfold mf_Mo_pulse_1_j87
  (try dsimp only)
  all_goals ((repeat' split) <;> (first | with_reducible rfl | (simp only [fw_up_ne (c := 9) (i := 0) (k := 5) (c' := 0) (i' := 0) (k' := k) (by omega), msend_0k (i := 0) (k := k) (by omega) (by omega) (by omega), mz56_Mo_pulse_1_j83 hc, mz56_Mo_pulse_1_j85 hc]; done)))
theorem mz56_Mo_pulse_1_j80 {k : Nat} (hc : k = 56) : ∀ (v : fw_V), (mf_Mo_pulse_1_j80 v) 0 0 k = v 0 0 k := by
  intro v
  unfold mf_Mo_pulse_1_j80
  (try dsimp only)
  all_goals ((repeat' split) <;> (first | with_reducible rfl | (simp only [msend_0k (i := 0) (k := k) (by omega) (by omega) (by omega), mz56_Mo_pulse_1_j81 hc, mz56_Mo_pulse_1_j87 hc]; done)))
theorem mz56_Mo_pulse_1_j79 {k : Nat} (hc : k = 56) : ∀ (v : fw_V), (mf_Mo_pulse_1_j79 v) 0 0 k = v 0 0 k := by
  intro v
  unfold mf_Mo_pulse_1_j79
  (try dsimp only)
  all_goals ((repeat' split) <;> (first | with_reducible rfl | (simp only [msend_0k (i := 0) (k := k) (by omega) (by omega) (by omega), mz56_Mo_pulse_1_j80 hc]; done)))
theorem mz56_Mo_pulse_1_j92 {k : Nat} (hc : k = 56) : ∀ (v : fw_V), (mf_Mo_pulse_1_j92 v) 0 0 k = v 0 0 k := by
  intro v
  unfold mf_Mo_pulse_1_j92
  (try dsimp only)
  all_goals ((repeat' split) <;> (first | with_reducible rfl | (simp only [msend_0k (i := 0) (k := k) (by omega) (by omega) (by omega), mz56_Mo_pulse_1_j86 hc]; done)))
theorem mz56_Mo_pulse_1_j93 {k : Nat} (hc : k = 56) : ∀ (v : fw_V), (mf_Mo_pulse_1_j93 v) 0 0 k = v 0 0 k := by
  intro v
  unfold mf_Mo_pulse_1_j93
  (try dsimp only)
  all_goals ((repeat' split) <;> (first | with_reducible rfl | (simp only [msend_0k (i := 0) (k := k) (by omega) (by omega) (by omega), mz56_Mo_pulse_1_j86 hc]; done)))
theorem mz56_Mo_pulse_1_j91 {k : Nat} (hc : k = 56) : ∀ (v : fw_V) (x4 : Int32), (mf_Mo_pulse_1_j91 v x4) 0 0 k = v 0 0 k := by
  intro v x4
  unfold mf_Mo_pulse_1_j91
  (try dsimp only)
  all_goals ((repeat' split) <;> (first | with_reducible rfl | (simp only [fw_up_ne (c := 9) (i := 0) (k := 5) (c' := 0) (i' := 0) (k' := k) (by omega), msend_0k (i := 0) (k := k) (by omega) (by omega) (by omega), mz56_Mo_pulse_1_j92 hc, mz56_Mo_pulse_1_j93 hc]; done)))
theorem mz56_Mo_pulse_1_j90 {k : Nat} (hc : k = 56) : ∀ (v : fw_V) (x4 : Int32), (mf_Mo_pulse_1_j90 v x4) 0 0 k = v 0 0 k := by
  intro v x4
  unfold mf_Mo_pulse_1_j90
  (try dsimp only)
  all_goals ((repeat' split) <;> (first | with_reducible rfl | (simp only [msend_0k (i := 0) (k := k) (by omega) (by omega) (by omega), mz56_Mo_pulse_1_j91 hc]; done)))
theorem mz56_Mo_pulse_1_j94 {k : Nat} (hc : k = 56) : ∀ (v : fw_V) (x4 : Int32) (x90 : Int32), (mf_Mo_pulse_1_j94 v x4 x90) 0 0 k = v 0 0 k := by
  intro v x4 x90
  unfold mf_Mo_pulse_1_j94
  (try dsimp only)
  all_goals ((repeat' split) <;> (first | with_reducible rfl | (simp only [fw_up_ne (c := 9) (i := 0) (k := 5) (c' := 0) (i' := 0) (k' := k) (by omega), msend_0k (i := 0) (k := k) (by omega) (by omega) (by omega), mz56_Mo_pulse_1_j92 hc, mz56_Mo_pulse_1_j93 hc]; done)))
theorem mz56_Mo_pulse_1_j89 {k : Nat} (hc : k = 56) : ∀ (v : fw_V), (mf_Mo_pulse_1_j89 v) 0 0 k = v 0 0 k := by
  intro v
  unfold mf_Mo_pulse_1_j89
  (try dsimp only)
  all_goals ((repeat' split) <;> (first | with_reducible rfl | (simp only [msend_0k (i := 0) (k := k) (by omega) (by omega) (by omega), mz56_Mo_pulse_1_j90 hc, mz56_Mo_pulse_1_j94 hc]; done)))
theorem mz56_Mo_pulse_1_j88 {k : Nat} (hc : k = 56) : ∀ (v : fw_V), (mf_Mo_pulse_1_j88 v) 0 0 k = v 0 0 k := by
  intro v
  unfold mf_Mo_pulse_1_j88
  (try dsimp only)
  all_goals ((repeat' split) <;> (first | with_reducible rfl | (simp only [msend_0k (i := 0) (k := k) (by omega) (by omega) (by omega), mz56_Mo_pulse_1_j89 hc]; done)))
theorem mz56_Mo_pulse_1_j78 {k : Nat} (hc : k = 56) : ∀ (v : fw_V) (x4 : Int32), (mf_Mo_pulse_1_j78 v x4) 0 0 k = v 0 0 k := by
  intro v x4
  unfold mf_Mo_pulse_1_j78
  (try dsimp only)
  all_goals ((repeat' split) <;> (first | with_reducible rfl | (simp only [fw_up_ne (c := 9) (i := 0) (k := 4) (c' := 0) (i' := 0) (k' := k) (by omega), msend_0k (i := 0) (k := k) (by omega) (by omega) (by omega), mz56_Mo_pulse_1_j79 hc, mz56_Mo_pulse_1_j88 hc]; done)))
theorem mz56_Mo_pulse_1_j77 {k : Nat} (hc : k = 56) : ∀ (v : fw_V) (x4 : Int32), (mf_Mo_pulse_1_j77 v x4) 0 0 k = v 0 0 k := by
  intro v x4
  unfold mf_Mo_pulse_1_j77
  (try dsimp only)
  all_goals ((repeat' split) <;> (first | with_reducible rfl | (simp only [msend_0k (i := 0) (k := k) (by omega) (by omega) (by omega), mz56_Mo_pulse_1_j78 hc]; done)))
theorem mz56_Mo_pulse_1_j95 {k : Nat} (hc : k = 56) : ∀ (v : fw_V) (x4 : Int32) (x90 : Int32), (mf_Mo_pulse_1_j95 v x4 x90) 0 0 k = v 0 0 k := by
  intro v x4 x90
  unfold mf_Mo_pulse_1_j95
  (try dsimp only)
  all_goals ((repeat' split) <;> (first | with_reducible rfl | (simp only [fw_up_ne (c := 9) (i := 0) (k := 4) (c' := 0) (i' := 0) (k' := k) (by omega), msend_0k (i := 0) (k := k) (by omega) (by omega) (by omega), mz56_Mo_pulse_1_j79 hc, mz56_Mo_pulse_1_j88 hc]; done)))
theorem mz56_Mo_pulse_1_j76 {k : Nat} (hc : k = 56) : ∀ (v : fw_V), (mf_Mo_pulse_1_j76 v) 0 0 k = v 0 0 k := by
  intro v
  unfold mf_Mo_pulse_1_j76
  (try dsimp only)
  all_goals ((repeat' split) <;> (first | with_reducible rfl | (simp only [msend_0k (i := 0) (k := k) (by omega) (by omega) (by omega), mz56_Mo_pulse_1_j77 hc, mz56_Mo_pulse_1_j95 hc]; done)))
theorem mz56_Mo_pulse_1_j75 {k : Nat} (hc : k = 56) : ∀ (v : fw_V), (mf_Mo_pulse_1_j75 v) 0 0 k = v 0 0 k := by
  intro v
  unfold mf_Mo_pulse_1_j75
  (try dsimp only)
  all_goals ((repeat' split) <;> (first | with_reducible rfl | (simp only [msend_0k (i := 0) (k := k) (by omega) (by omega) (by omega), mz56_Mo_pulse_1_j76 hc]; done)))
theorem mz56_Mo_pulse_1_j105 {k : Nat} (hc : k = 56) : ∀ (v : fw_V), (mf_Mo_pulse_1_j105 v) 0 0 k = v 0 0 k := by
  intro v
  unfold mf_Mo_pulse_1_j105
  (try dsimp only)
  all_goals ((repeat' split) <;> (first | with_reducible rfl | (simp only [fw_up_ne (c := 9) (i := 0) (k := 6) (c' := 0) (i' := 0) (k' := k) (by omega), fw_up_ne (c := 34) (i := 0) (k := 1) (c' := 0) (i' := 0) (k' := k) (by omega), msend_0k (i := 0) (k := k) (by omega) (by omega) (by omega), mz56_Mo_reply_1 hc]; done)))
theorem mz56_Mo_pulse_1_j104 {k : Nat} (hc : k = 56) : ∀ (v : fw_V), (mf_Mo_pulse_1_j104 v) 0 0 k = v 0 0 k := by
  intro v
  unfold mf_Mo_pulse_1_j104
  (try dsimp only)
  all_goals ((repeat' split) <;> (first | with_reducible rfl | (simp only [msend_0k (i := 0) (k := k) (by omega) (by omega) (by omega), mz56_Mo_pulse_1_j105 hc]; done)))
theorem mz56_Mo_pulse_1_j107 {k : Nat} (hc : k = 56) : ∀ (v : fw_V), (mf_Mo_pulse_1_j107 v) 0 0 k = v 0 0 k := by
  intro v
  unfold mf_Mo_pulse_1_j107
  (try dsimp only)
  all_goals ((repeat' split) <;> (first | with_reducible rfl | (simp only [fw_up_ne (c := 9) (i := 0) (k := 6) (c' := 0) (i' := 0) (k' := k) (by omega), fw_up_ne (c := 34) (i := 0) (k := 1) (c' := 0) (i' := 0) (k' := k) (by omega), msend_0k (i := 0) (k := k) (by omega) (by omega) (by omega), mz56_Mo_reply_1 hc]; done)))
theorem mz56_Mo_pulse_1_j106 {k : Nat} (hc : k = 56) : ∀ (v : fw_V), (mf_Mo_pulse_1_j106 v) 0 0 k = v 0 0 k := by
  intro v
  unfold mf_Mo_pulse_1_j106
  (try dsimp only)
  all_goals ((repeat' split) <;> (first | with_reducible rfl | (simp only [msend_0k (i := 0) (k := k) (by omega) (by omega) (by omega), mz56_Mo_pulse_1_j107 hc]; done)))
theorem mz56_Mo_pulse_1_j103 {k : Nat} (hc : k = 56) : ∀ (v : fw_V) (x4 : Int32), (mf_Mo_pulse_1_j103 v x4) 0 0 k = v 0 0 k := by
  intro v x4
  unfold mf_Mo_pulse_1_j103
  (try dsimp only)
  all_goals ((repeat' split) <;> (first | with_reducible rfl | (simp only [fw_up_ne (c := 9) (i := 0) (k := 5) (c' := 0) (i' := 0) (k' := k) (by omega), msend_0k (i := 0) (k := k) (by omega) (by omega) (by omega), mz56_Mo_pulse_1_j104 hc, mz56_Mo_pulse_1_j106 hc]; done)))
theorem mz56_Mo_pulse_1_j102 {k : Nat} (hc : k = 56) : ∀ (v : fw_V) (x4 : Int32), (mf_Mo_pulse_1_j102 v x4) 0 0 k = v 0 0 k := by
  intro v x4
  unfold mf_Mo_pulse_1_j102
  (try dsimp only)
  all_goals ((repeat' split) <;> (first | with_reducible rfl | (simp only [msend_0k (i := 0) (k := k) (by omega) (by omega) (by omega), mz56_Mo_pulse_1_j103 hc]; done)))
theorem mz56_Mo_pulse_1_j108 {k : Nat} (hc : k = 56) : ∀ (v : fw_V) (x4 : Int32) (x90 : Int32), (mf_Mo_pulse_1_j108 v x4 x90) 0 0 k = v 0 0 k := by
  intro v x4 x90
  unfold mf_Mo_pulse_1_j108
  (try dsimp only)
  all_goals ((repeat' split) <;> (first | with_reducible rfl | (simp only [fw_up_ne (c := 9) (i := 0) (k := 5) (c' := 0) (i' := 0) (k' := k) (by omega), msend_0k (i := 0) (k := k) (by omega) (by omega) (by omega), mz56_Mo_pulse_1_j104 hc, mz56_Mo_pulse_1_j106 hc]; done)))
theorem mz56_Mo_pulse_1_j101 {k : Nat} (hc : k = 56) : ∀ (v : fw_V), (mf_Mo_pulse_1_j101 v) 0 0 k = v 0 0 k := by
  intro v
  unfold mf_Mo_pulse_1_j101
  (try dsimp only)
  all_goals ((repeat' split) <;> (first | with_reducible rfl | (simp only [msend_0k (i := 0) (k := k) (by omega) (by omega) (by omega), mz56_Mo_pulse_1_j102 hc, mz56_Mo_pulse_1_j108 hc]; done)))
theorem mz56_Mo_pulse_1_j100 {k : Nat} (hc : k = 56) : ∀ (v : fw_V), (mf_Mo_pulse_1_j100 v) 0 0 k = v 0 0 k := by
  intro v
  unfold mf_Mo_pulse_1_j100
  (try dsimp only)
  all_goals ((repeat' split) <;> (first | with_reducible rfl | (simp only [msend_0k (i := 0) (k := k) (by omega) (by omega) (by omega), mz56_Mo_pulse_1_j101 hc]; done)))
theorem mz56_Mo_pulse_1_j113 {k : Nat} (hc : k = 56) : ∀ (v : fw_V), (mf_Mo_pulse_1_j113 v) 0 0 k = v 0 0 k := by
  intro v
  unfold mf_Mo_pulse_1_j113
  (try dsimp only)
  all_goals ((repeat' split) <;> (first | with_reducible rfl | (simp only [msend_0k (i := 0) (k := k) (by omega) (by omega) (by omega), mz56_Mo_pulse_1_j107 hc]; done)))
theorem mz56_Mo_pulse_1_j114 {k : Nat} (hc : k = 56) : ∀ (v : fw_V), (mf_Mo_pulse_1_j114 v) 0 0 k = v 0 0 k := by
  intro v
  unfold mf_Mo_pulse_1_j114
  (try dsimp only)
  all_goals ((repeat' split) <;> (first | with_reducible rfl | (simp only [msend_0k (i := 0) (k := k) (by omega) (by omega) (by omega), mz56_Mo_pulse_1_j107 hc]; done)))
theorem mz56_Mo_pulse_1_j112 {k : Nat} (hc : k = 56) : ∀ (v : fw_V) (x4 : Int32), (mf_Mo_pulse_1_j112 v x4) 0 0 k = v 0 0 k := by
  intro v x4
  unfold mf_Mo_pulse_1_j112
  (try dsimp only)
  all_goals ((repeat' split) <;> (first | with_reducible rfl | (simp only [fw_up_ne (c := 9) (i := 0) (k := 5) (c' := 0) (i' := 0) (k' := k) (by omega), msend_0k (i := 0) (k := k) (by omega) (by omega) (by omega), mz56_Mo_pulse_1_j113 hc, mz56_Mo_pulse_1_j114 hc]; done)))
theorem mz56_Mo_pulse_1_j111 {k : Nat} (hc : k = 56) : ∀ (v : fw_V) (x4 : Int32), (mf_Mo_pulse_1_j111 v x4) 0 0 k = v 0 0 k := by
  intro v x4
  unfold mf_Mo_pulse_1_j111
  (try dsimp only)
  all_goals ((repeat' split) <;> (first | with_reducible rfl | (simp only [msend_0k (i := 0) (k := k) (by omega) (by omega) (by omega), mz56_Mo_pulse_1_j112 hc]; done)))
theorem mz56_Mo_pulse_1_j115 {k : Nat} (hc : k = 56) : ∀ (v : fw_V) (x4 : Int32) (x90 : Int32), (mf_Mo_pulse_1_j115 v x4 x90) 0 0 k = v 0 0 k := by
  intro v x4 x90
  unfold mf_Mo_pulse_1_j115
  (try dsimp only)
  all_goals ((repeat' split) <;> (first | with_reducible rfl | (simp only [fw_up_ne (c := 9) (i := 0) (k := 5) (c' := 0) (i' := 0) (k' := k) (by omega), msend_0k (i := 0) (k := k) (by omega) (by omega) (by omega), mz56_Mo_pulse_1_j113 hc, mz56_Mo_pulse_1_j114 hc]; done)))
theorem mz56_Mo_pulse_1_j110 {k : Nat} (hc : k = 56) : ∀ (v : fw_V), (mf_Mo_pulse_1_j110 v) 0 0 k = v 0 0 k := by
  intro v
  unfold mf_Mo_pulse_1_j110
  (try dsimp only)
  all_goals ((repeat' split) <;> (first | with_reducible rfl | (simp only [msend_0k (i := 0) (k := k) (by omega) (by omega) (by omega), mz56_Mo_pulse_1_j111 hc, mz56_Mo_pulse_1_j115 hc]; done)))
theorem mz56_Mo_pulse_1_j109 {k : Nat} (hc : k = 56) : ∀ (v : fw_V), (mf_Mo_pulse_1_j109 v) 0 0 k = v 0 0 k := by
  intro v
  unfold mf_Mo_pulse_1_j109
  (try dsimp only)
  all_goals ((repeat' split) <;> (first | with_reducible rfl | (simp only [msend_0k (i := 0) (k := k) (by omega) (by omega) (by omega), mz56_Mo_pulse_1_j110 hc]; done)))
theorem mz56_Mo_pulse_1_j99 {k : Nat} (hc : k = 56) : ∀ (v : fw_V) (x4 : Int32), (mf_Mo_pulse_1_j99 v x4) 0 0 k = v 0 0 k := by
  intro v x4
  unfold mf_Mo_pulse_1_j99
  (try dsimp only)
  all_goals ((repeat' split) <;> (first | with_reducible rfl | (simp only [fw_up_ne (c := 9) (i := 0) (k := 4) (c' := 0) (i' := 0) (k' := k) (by omega), msend_0k (i := 0) (k := k) (by omega) (by omega) (by omega), mz56_Mo_pulse_1_j100 hc, mz56_Mo_pulse_1_j109 hc]; done)))
theorem mz56_Mo_pulse_1_j98 {k : Nat} (hc : k = 56) : ∀ (v : fw_V) (x4 : Int32), (mf_Mo_pulse_1_j98 v x4) 0 0 k = v 0 0 k := by
  intro v x4
  unfold mf_Mo_pulse_1_j98
  (try dsimp only)
  all_goals ((repeat' split) <;> (first | with_reducible rfl | (simp only [msend_0k (i := 0) (k := k) (by omega) (by omega) (by omega), mz56_Mo_pulse_1_j99 hc]; done)))
theorem mz56_Mo_pulse_1_j116 {k : Nat} (hc : k = 56) : ∀ (v : fw_V) (x4 : Int32) (x90 : Int32), (mf_Mo_pulse_1_j116 v x4 x90) 0 0 k = v 0 0 k := by
  intro v x4 x90
  unfold mf_Mo_pulse_1_j116
  (try dsimp only)
  all_goals ((repeat' split) <;> (first | with_reducible rfl | (simp only [fw_up_ne (c := 9) (i := 0) (k := 4) (c' := 0) (i' := 0) (k' := k) (by omega), msend_0k (i := 0) (k := k) (by omega) (by omega) (by omega), mz56_Mo_pulse_1_j100 hc, mz56_Mo_pulse_1_j109 hc]; done)))
theorem mz56_Mo_pulse_1_j97 {k : Nat} (hc : k = 56) : ∀ (v : fw_V), (mf_Mo_pulse_1_j97 v) 0 0 k = v 0 0 k := by
  intro v
  unfold mf_Mo_pulse_1_j97
  (try dsimp only)
  all_goals ((repeat' split) <;> (first | with_reducible rfl | (simp only [msend_0k (i := 0) (k := k) (by omega) (by omega) (by omega), mz56_Mo_pulse_1_j98 hc, mz56_Mo_pulse_1_j116 hc]; done)))
theorem mz56_Mo_pulse_1_j96 {k : Nat} (hc : k = 56) : ∀ (v : fw_V), (mf_Mo_pulse_1_j96 v) 0 0 k = v 0 0 k := by
  intro v
  unfold mf_Mo_pulse_1_j96
  (try dsimp only)
  all_goals ((repeat' split) <;> (first | with_reducible rfl | (simp only [msend_0k (i := 0) (k := k) (by omega) (by omega) (by omega), mz56_Mo_pulse_1_j97 hc]; done)))
theorem mz56_Mo_pulse_1_j74 {k : Nat} (hc : k = 56) : ∀ (v : fw_V) (x4 : Int32), (mf_Mo_pulse_1_j74 v x4) 0 0 k = v 0 0 k := by
  intro v x4
  unfold mf_Mo_pulse_1_j74
  (try dsimp only)
  all_goals ((repeat' split) <;> (first | with_reducible rfl | (simp only [fw_up_ne (c := 9) (i := 0) (k := 3) (c' := 0) (i' := 0) (k' := k) (by omega), msend_0k (i := 0) (k := k) (by omega) (by omega) (by omega), mz56_Mo_pulse_1_j75 hc, mz56_Mo_pulse_1_j96 hc]; done)))
theorem mz56_Mo_pulse_1_j73 {k : Nat} (hc : k = 56) : ∀ (v : fw_V) (x4 : Int32), (mf_Mo_pulse_1_j73 v x4) 0 0 k = v 0 0 k := by
  intro v x4
  unfold mf_Mo_pulse_1_j73
  (try dsimp only)
  all_goals ((repeat' split) <;> (first | with_reducible rfl | (simp only [msend_0k (i := 0) (k := k) (by omega) (by omega) (by omega), mz56_Mo_pulse_1_j74 hc]; done)))
theorem mz56_Mo_pulse_1_j117 {k : Nat} (hc : k = 56) : ∀ (v : fw_V) (x4 : Int32) (x90 : Int32), (mf_Mo_pulse_1_j117 v x4 x90) 0 0 k = v 0 0 k := by
  intro v x4 x90
  unfold mf_Mo_pulse_1_j117
  (try dsimp only)
  all_goals ((repeat' split) <;> (first | with_reducible rfl | (simp only [fw_up_ne (c := 9) (i := 0) (k := 3) (c' := 0) (i' := 0) (k' := k) (by omega), msend_0k (i := 0) (k := k) (by omega) (by omega) (by omega), mz56_Mo_pulse_1_j75 hc, mz56_Mo_pulse_1_j96 hc]; done)))
theorem mz56_Mo_pulse_1_j72 {k : Nat} (hc : k = 56) : ∀ (v : fw_V), (mf_Mo_pulse_1_j72 v) 0 0 k = v 0 0 k := by
  intro v
  unfold mf_Mo_pulse_1_j72
  (try dsimp only)
  all_goals ((repeat' split) <;> (first | with_reducible rfl | (simp only [msend_0k (i := 0) (k := k) (by omega) (by omega) (by omega), mz56_Mo_pulse_1_j73 hc, mz56_Mo_pulse_1_j117 hc]; done)))
theorem mz56_Mo_pulse_1_j71 {k : Nat} (hc : k = 56) : ∀ (v : fw_V), (mf_Mo_pulse_1_j71 v) 0 0 k = v 0 0 k := by
  intro v
  unfold mf_Mo_pulse_1_j71
  (try dsimp only)
  all_goals ((repeat' split) <;> (first | with_reducible rfl | (simp only [msend_0k (i := 0) (k := k) (by omega) (by omega) (by omega), mz56_Mo_pulse_1_j72 hc]; done)))
theorem mz56_Mo_pulse_1_j122 {k : Nat} (hc : k = 56) : ∀ (v : fw_V), (mf_Mo_pulse_1_j122 v) 0 0 k = v 0 0 k := by
  intro v
  unfold mf_Mo_pulse_1_j122
  (try dsimp only)
  all_goals ((repeat' split) <;> (first | with_reducible rfl | (simp only [msend_0k (i := 0) (k := k) (by omega) (by omega) (by omega), mz56_Mo_pulse_1_j97 hc]; done)))
theorem mz56_Mo_pulse_1_j123 {k : Nat} (hc : k = 56) : ∀ (v : fw_V), (mf_Mo_pulse_1_j123 v) 0 0 k = v 0 0 k := by
  intro v
  unfold mf_Mo_pulse_1_j123
  (try dsimp only)
  all_goals ((repeat' split) <;> (first | with_reducible rfl | (simp only [msend_0k (i := 0) (k := k) (by omega) (by omega) (by omega), mz56_Mo_pulse_1_j97 hc]; done)))
theorem mz56_Mo_pulse_1_j121 {k : Nat} (hc : k = 56) : ∀ (v : fw_V) (x4 : Int32), (mf_Mo_pulse_1_j121 v x4) 0 0 k = v 0 0 k := by
  intro v x4
  unfold mf_Mo_pulse_1_j121
  (try dsimp only)
  all_goals ((repeat' split) <;> (first | with_reducible rfl | (simp only [fw_up_ne (c := 9) (i := 0) (k := 3) (c' := 0) (i' := 0) (k' := k) (by omega), msend_0k (i := 0) (k := k) (by omega) (by omega) (by omega), mz56_Mo_pulse_1_j122 hc, mz56_Mo_pulse_1_j123 hc]; done)))
theorem mz56_Mo_pulse_1_j120 {k : Nat} (hc : k = 56) : ∀ (v : fw_V) (x4 : Int32), (mf_Mo_pulse_1_j120 v x4) 0 0 k = v 0 0 k := by
  intro v x4
  unfold mf_Mo_pulse_1_j120
  (try dsimp only)
  all_goals ((repeat' split) <;> (first | with_reducible rfl | (simp only [msend_0k (i := 0) (k := k) (by omega) (by omega) (by omega), mz56_Mo_pulse_1_j121 hc]; done)))
theorem mz56_Mo_pulse_1_j124 {k : Nat} (hc : k = 56) : ∀ (v : fw_V) (x4 : Int32) (x90 : Int32), (mf_Mo_pulse_1_j124 v x4 x90) 0 0 k = v 0 0 k := by
  intro v x4 x90
  unfold mf_Mo_pulse_1_j124
  (try dsimp only)
  all_goals ((repeat' split) <;> (first | with_reducible rfl | (simp only [fw_up_ne (c := 9) (i := 0) (k := 3) (c' := 0) (i' := 0) (k' := k) (by omega), msend_0k (i := 0) (k := k) (by omega) (by omega) (by omega), mz56_Mo_pulse_1_j122 hc, mz56_Mo_pulse_1_j123 hc]; done)))
theorem mz56_Mo_pulse_1_j119 {k : Nat} (hc : k = 56) : ∀ (v : fw_V), (mf_Mo_pulse_1_j119 v) 0 0 k = v 0 0 k := by
  intro v
  unfold mf_Mo_pulse_1_j119
  (try dsimp only)
  all_goals ((repeat' split) <;> (first | with_reducible rfl | (simp only [msend_0k (i := 0) (k := k) (by omega) (by omega) (by omega), mz56_Mo_pulse_1_j120 hc, mz56_Mo_pulse_1_j124 hc]; done)))
theorem mz56_Mo_pulse_1_j118 {k : Nat} (hc : k = 56) : ∀ (v : fw_V), (mf_Mo_pulse_1_j118 v) 0 0 k = v 0 0 k := by
  intro v
  unfold mf_Mo_pulse_1_j118
  (try dsimp only)
  all_goals ((repeat' split) <;> (first | with_reducible rfl | (simp only [msend_0k (i := 0) (k := k) (by omega) (by omega) (by omega), mz56_Mo_pulse_1_j119 hc]; done)))
theorem mz56_Mo_pulse_1_j70 {k : Nat} (hc : k = 56) : ∀ (v : fw_V) (x4 : Int32), (mf_Mo_pulse_1_j70 v x4) 0 0 k = v 0 0 k := by
  intro v x4
  unfold mf_Mo_pulse_1_j70
  (try dsimp only)
  all_goals ((repeat' split) <;> (first | with_reducible rfl | (simp only [fw_up_ne (c := 9) (i := 0) (k := 2) (c' := 0) (i' := 0) (k' := k) (by omega), msend_0k (i := 0) (k := k) (by omega) (by omega) (by omega), mz56_Mo_pulse_1_j71 hc, mz56_Mo_pulse_1_j118 hc]; done)))
theorem mz56_Mo_pulse_1_j69 {k : Nat} (hc : k = 56) : ∀ (v : fw_V) (x4 : Int32), (mf_Mo_pulse_1_j69 v x4) 0 0 k = v 0 0 k := by
  intro v x4
  unfold mf_Mo_pulse_1_j69
  (try dsimp only)
  all_goals ((repeat' split) <;> (first | with_reducible rfl | (simp only [msend_0k (i := 0) (k := k) (by omega) (by omega) (by omega), mz56_Mo_pulse_1_j70 hc]; done)))
theorem mz56_Mo_pulse_1_j125 {k : Nat} (hc : k = 56) : ∀ (v : fw_V) (x4 : Int32) (x90 : Int32), (mf_Mo_pulse_1_j125 v x4 x90) 0 0 k = v 0 0 k := by
  intro v x4 x90
  unfold mf_Mo_pulse_1_j125
  (try dsimp only)
  all_goals ((repeat' split) <;> (first | with_reducible rfl | (simp only [fw_up_ne (c := 9) (i := 0) (k := 2) (c' := 0) (i' := 0) (k' := k) (by omega), msend_0k (i := 0) (k := k) (by omega) (by omega) (by omega), mz56_Mo_pulse_1_j71 hc, mz56_Mo_pulse_1_j118 hc]; done)))
theorem mz56_Mo_pulse_1_j68 {k : Nat} (hc : k = 56) : ∀ (v : fw_V), (mf_Mo_pulse_1_j68 v) 0 0 k = v 0 0 k := by
  intro v
  unfold mf_Mo_pulse_1_j68
  (try dsimp only)
  all_goals ((repeat' split) <;> (first | with_reducible rfl | (simp only [msend_0k (i := 0) (k := k) (by omega) (by omega) (by omega), mz56_Mo_pulse_1_j69 hc, mz56_Mo_pulse_1_j125 hc]; done)))
theorem mz56_Mo_pulse_1_j67 {k : Nat} (hc : k = 56) : ∀ (v : fw_V), (mf_Mo_pulse_1_j67 v) 0 0 k = v 0 0 k := by
  intro v
  unfold mf_Mo_pulse_1_j67
  (try dsimp only)
  all_goals ((repeat' split) <;> (first | with_reducible rfl | (simp only [msend_0k (i := 0) (k := k) (by omega) (by omega) (by omega), mz56_Mo_pulse_1_j68 hc]; done)))
theorem mz56_Mo_pulse_1_j7 {k : Nat} (hc : k = 56) : ∀ (v : fw_V) (x4 : Int32), (mf_Mo_pulse_1_j7 v x4) 0 0 k = v 0 0 k := by
  intro v x4
  unfold mf_Mo_pulse_1_j7
  (try dsimp only)
  all_goals ((repeat' split) <;> (first | with_reducible rfl | (simp only [fw_up_ne (c := 9) (i := 0) (k := 1) (c' := 0) (i' := 0) (k' := k) (by omega), msend_0k (i := 0) (k := k) (by omega) (by omega) (by omega), mz56_Mo_pulse_1_j8 hc, mz56_Mo_pulse_1_j67 hc]; done)))
theorem mz56_Mo_pulse_1_j6 {k : Nat} (hc : k = 56) : ∀ (v : fw_V) (x4 : Int32), (mf_Mo_pulse_1_j6 v x4) 0 0 k = v 0 0 k := by
  intro v x4
  unfold mf_Mo_pulse_1_j6
  (try dsimp only)
  all_goals ((repeat' split) <;> (first | with_reducible rfl | (simp only [msend_0k (i := 0) (k := k) (by omega) (by omega) (by omega), mz56_Mo_pulse_1_j7 hc]; done)))
theorem mz56_Mo_pulse_1_j126 {k : Nat} (hc : k = 56) : ∀ (v : fw_V) (x4 : Int32) (x90 : Int32), (mf_Mo_pulse_1_j126 v x4 x90) 0 0 k = v 0 0 k := by
  intro v x4 x90
  unfold mf_Mo_pulse_1_j126
  (try dsimp only)
  all_goals ((repeat' split) <;> (first | with_reducible rfl | (simp only [fw_up_ne (c := 9) (i := 0) (k := 1) (c' := 0) (i' := 0) (k' := k) (by omega), msend_0k (i := 0) (k := k) (by omega) (by omega) (by omega), mz56_Mo_pulse_1_j8 hc, mz56_Mo_pulse_1_j67 hc]; done)))
theorem mz56_Mo_pulse_1_j5 {k : Nat} (hc : k = 56) : ∀ (v : fw_V), (mf_Mo_pulse_1_j5 v) 0 0 k = v 0 0 k := by
  intro v
  unfold mf_Mo_pulse_1_j5
  (try dsimp only)
  all_goals ((repeat' split) <;> (first | with_reducible rfl | (simp only [msend_0k (i := 0) (k := k) (by omega) (by omega) (by omega), mz56_Mo_pulse_1_j6 hc, mz56_Mo_pulse_1_j126 hc]; done)))
theorem mz56_Mo_pulse_1_j4 {k : Nat} (hc : k = 56) : ∀ (v : fw_V), (mf_Mo_pulse_1_j4 v) 0 0 k = v 0 0 k := by
  intro v
  unfold mf_Mo_pulse_1_j4
  (try dsimp only)
  all_goals ((repeat' split) <;> (first | with_reducible rfl | (simp only [msend_0k (i := 0) (k := k) (by omega) (by omega) (by omega), mz56_Mo_pulse_1_j5 hc]; done)))
theorem mz56_Mo_pulse_1_j131 {k : Nat} (hc : k = 56) : ∀ (v : fw_V), (mf_Mo_pulse_1_j131 v) 0 0 k = v 0 0 k := by
  intro v
  unfold mf_Mo_pulse_1_j131
  (try dsimp only)
  all_goals ((repeat' split) <;> (first | with_reducible rfl | (simp only [msend_0k (i := 0) (k := k) (by omega) (by omega) (by omega), mz56_Mo_pulse_1_j68 hc]; done)))
theorem mz56_Mo_pulse_1_j132 {k : Nat} (hc : k = 56) : ∀ (v : fw_V), (mf_Mo_pulse_1_j132 v) 0 0 k = v 0 0 k := by
  intro v
  unfold mf_Mo_pulse_1_j132
  (try dsimp only)
  all_goals ((repeat' split) <;> (first | with_reducible rfl | (simp only [msend_0k (i := 0) (k := k) (by omega) (by omega) (by omega), mz56_Mo_pulse_1_j68 hc]; done)))
theorem mz56_Mo_pulse_1_j130 {k : Nat} (hc : k = 56) : ∀ (v : fw_V) (x4 : Int32), (mf_Mo_pulse_1_j130 v x4) 0 0 k = v 0 0 k := by
  intro v x4
  unfold mf_Mo_pulse_1_j130
  (try dsimp only)
  all_goals ((repeat' split) <;> (first | with_reducible rfl | (simp only [fw_up_ne (c := 9) (i := 0) (k := 1) (c' := 0) (i' := 0) (k' := k) (by omega), msend_0k (i := 0) (k := k) (by omega) (by omega) (by omega), mz56_Mo_pulse_1_j131 hc, mz56_Mo_pulse_1_j132 hc]; done)))
theorem mz56_Mo_pulse_1_j129 {k : Nat} (hc : k = 56) : ∀ (v : fw_V) (x4 : Int32), (mf_Mo_pulse_1_j129 v x4) 0 0 k = v 0 0 k := by
  intro v x4
  unfold mf_Mo_pulse_1_j129
  (try dsimp only)
  all_goals ((repeat' split) <;> (first | with_reducible rfl | (simp only [msend_0k (i := 0) (k := k) (by omega) (by omega) (by omega), mz56_Mo_pulse_1_j130 hc]; done)))
theorem mz56_Mo_pulse_1_j133 {k : Nat} (hc : k = 56) : ∀ (v : fw_V) (x4 : Int32) (x90 : Int32), (mf_Mo_pulse_1_j133 v x4 x90) 0 0 k = v 0 0 k := by
  intro v x4 x90
  unfold mf_Mo_pulse_1_j133
  (try dsimp only)
  all_goals ((repeat' split) <;> (first | with_reducible rfl | (simp only [fw_up_ne (c := 9) (i := 0) (k := 1) (c' := 0) (i' := 0) (k' := k) (by omega), msend_0k (i := 0) (k := k) (by omega) (by omega) (by omega), mz56_Mo_pulse_1_j131 hc, mz56_Mo_pulse_1_j132 hc]; done)))
theorem mz56_Mo_pulse_1_j128 {k : Nat} (hc : k = 56) : ∀ (v : fw_V), (mf_Mo_pulse_1_j128 v) 0 0 k = v 0 0 k := by
  intro v
  unfold mf_Mo_pulse_1_j128
  (try dsimp only)
  all_goals ((repeat' split) <;> (first | with_reducible rfl | (simp only [msend_0k (i := 0) (k := k) (by omega) (by omega) (by omega), mz56_Mo_pulse_1_j129 hc, mz56_Mo_pulse_1_j133 hc]; done)))
theorem mz56_Mo_pulse_1_j127 {k : Nat} (hc : k = 56) : ∀ (v : fw_V), (mf_Mo_pulse_1_j127 v) 0 0 k = v 0 0 k := by
  intro v
  unfold mf_Mo_pulse_1_j127
  (try dsimp only)
  all_goals ((repeat' split) <;> (first | with_reducible rfl | (simp only [msend_0k (i := 0) (k := k) (by omega) (by omega) (by omega), mz56_Mo_pulse_1_j128 hc]; done)))
theorem mz56_Mo_pulse_1_j3 {k : Nat} (hc : k = 56) : ∀ (v : fw_V) (x4 : Int32), (mf_Mo_pulse_1_j3 v x4) 0 0 k = v 0 0 k := by
  intro v x4
  unfold mf_Mo_pulse_1_j3
  (try dsimp only)
  all_goals ((repeat' split) <;> (first | with_reducible rfl | (simp only [fw_up_ne (c := 9) (i := 0) (k := 0) (c' := 0) (i' := 0) (k' := k) (by omega), msend_0k (i := 0) (k := k) (by omega) (by omega) (by omega), mz56_Mo_pulse_1_j4 hc, mz56_Mo_pulse_1_j127 hc]; done)))
theorem mz56_Mo_pulse_1_j2 {k : Nat} (hc : k = 56) : ∀ (v : fw_V) (x4 : Int32), (mf_Mo_pulse_1_j2 v x4) 0 0 k = v 0 0 k := by
  intro v x4
  unfold mf_Mo_pulse_1_j2
  (try dsimp only)
  all_goals ((repeat' split) <;> (first | with_reducible rfl | (simp only [msend_0k (i := 0) (k := k) (by omega) (by omega) (by omega), mz56_Mo_pulse_1_j3 hc]; done)))
theorem mz56_Mo_pulse_1_j134 {k : Nat} (hc : k = 56) : ∀ (v : fw_V) (x4 : Int32) (x90 : Int32), (mf_Mo_pulse_1_j134 v x4 x90) 0 0 k = v 0 0 k := by
  intro v x4 x90
  unfold mf_Mo_pulse_1_j134
  (try dsimp only)
  all_goals ((repeat' split) <;> (first | with_reducible rfl | (simp only [fw_up_ne (c := 9) (i := 0) (k := 0) (c' := 0) (i' := 0) (k' := k) (by omega), msend_0k (i := 0) (k := k) (by omega) (by omega) (by omega), mz56_Mo_pulse_1_j4 hc, mz56_Mo_pulse_1_j127 hc]; done)))
theorem mz56_Mo_pulse_1_j1 {k : Nat} (hc : k = 56) : ∀ (v : fw_V), (mf_Mo_pulse_1_j1 v) 0 0 k = v 0 0 k := by
  intro v
  unfold mf_Mo_pulse_1_j1
  (try dsimp only)
  all_goals ((repeat' split) <;> (first | with_reducible rfl | (simp only [msend_0k (i := 0) (k := k) (by omega) (by omega) (by omega), mz56_Mo_pulse_1_j2 hc, mz56_Mo_pulse_1_j134 hc]; done)))

theorem xv_De_showFallback_j7 {c i k : Nat} (hc : c = 19 ∧ k = 18) : ∀ (v : fw_V) (r : Nat) (a1 : Int32) (x2 : Int32), (xf_De_showFallback_j7 v r a1 x2) c i k = v c i k := by
  intro v r a1 x2
  unfold xf_De_showFallback_j7
  (try dsimp only)
  all_goals ((repeat' split) <;> (first | with_reducible rfl | (simp only [xsend_c (c' := c) (by omega) (by omega) (by omega)]; done)))
theorem xv_De_showFallback_j6 {c i k : Nat} (hc : c = 19 ∧ k = 18) : ∀ (v : fw_V) (r : Nat) (a1 : Int32) (x2 : Int32), (xf_De_showFallback_j6 v r a1 x2) c i k = v c i k := by
  intro v r a1 x2
  unfold xf_De_showFallback_j6
  (try dsimp only)
  all_goals ((repeat' split) <;> (first | with_reducible rfl | (simp only [xsend_c (c' := c) (by omega) (by omega) (by omega), xv_De_showFallback_j7 hc]; done)))
theorem xv_De_showFallback_j5 {c i k : Nat} (hc : c = 19 ∧ k = 18) : ∀ (v : fw_V) (r : Nat) (a1 : Int32) (x2 : Int32) (x4 : Int32), (xf_De_showFallback_j5 v r a1 x2 x4) c i k = v c i k := by
  intro v r a1 x2 x4
  unfold xf_De_showFallback_j5
  (try dsimp only)
  all_goals ((repeat' split) <;> (first | with_reducible rfl | (simp only [fw_up_c (c := 25) (c' := c) (by omega), xsend_c (c' := c) (by omega) (by omega) (by omega), xv_De_showFallback_j6 hc]; done)))
theorem xv_De_showFallback_j4 {c i k : Nat} (hc : c = 19 ∧ k = 18) : ∀ (v : fw_V) (r : Nat) (a1 : Int32) (x2 : Int32), (xf_De_showFallback_j4 v r a1 x2) c i k = v c i k := by
  intro v r a1 x2
  unfold xf_De_showFallback_j4
  (try dsimp only)
  all_goals ((repeat' split) <;> (first | with_reducible rfl | (simp only [fw_up_c (c := 25) (c' := c) (by omega), xsend_c (c' := c) (by omega) (by omega) (by omega), xv_De_showFallback_j5 hc, xv_De_showFallback_j6 hc]; done)))
theorem xv_De_showFallback_j3 {c i k : Nat} (hc : c = 19 ∧ k = 18) : ∀ (v : fw_V) (r : Nat) (a1 : Int32) (x2 : Int32), (xf_De_showFallback_j3 v r a1 x2) c i k = v c i k := by
  intro v r a1 x2
  unfold xf_De_showFallback_j3
  (try dsimp only)
  all_goals ((repeat' split) <;> (first | with_reducible rfl | (simp only [xsend_c (c' := c) (by omega) (by omega) (by omega), xv_De_showFallback_j4 hc]; done)))
theorem xv_De_showFallback_j2 {c i k : Nat} (hc : c = 19 ∧ k = 18) : ∀ (v : fw_V) (r : Nat) (a1 : Int32) (x2 : Int32) (x4 : Int32), (xf_De_showFallback_j2 v r a1 x2 x4) c i k = v c i k := by
  intro v r a1 x2 x4
  unfold xf_De_showFallback_j2
  (try dsimp only)
  all_goals ((repeat' split) <;> (first | with_reducible rfl | (simp only [fw_up_c (c := 25) (c' := c) (by omega), xsend_c (c' := c) (by omega) (by omega) (by omega), xv_De_showFallback_j3 hc]; done)))
theorem xv_De_showFallback_j1 {c i k : Nat} (hc : c = 19 ∧ k = 18) : ∀ (v : fw_V) (r : Nat) (a1 : Int32) (x2 : Int32), (xf_De_showFallback_j1 v r a1 x2) c i k = v c i k := by
  intro v r a1 x2
  unfold xf_De_showFallback_j1
  (try dsimp only)
  all_goals ((repeat' split) <;> (first | with_reducible rfl | (simp only [fw_up_c (c := 25) (c' := c) (by omega), xsend_c (c' := c) (by omega) (by omega) (by omega), xv_De_showFallback_j2 hc, xv_De_showFallback_j3 hc]; done)))
theorem xv_De_showFallback {c i k : Nat} (hc : c = 19 ∧ k = 18) : ∀ (v0 : fw_V) (r : Nat) (a1 : Int32), (xf_De_showFallback v0 r a1) c i k = v0 c i k := by
  intro v0 r a1
  unfold xf_De_showFallback
  (try dsimp only)
  all_goals ((repeat' split) <;> (first | with_reducible rfl | (simp only [xsend_c (c' := c) (by omega) (by omega) (by omega), xv_De_showFallback_j1 hc]; done)))
theorem xv_AQ_clear {c i k : Nat} (hc : c = 19 ∧ k = 18) : ∀ (v0 : fw_V) (r : Nat), (xf_AQ_clear v0 r) c i k = v0 c i k := by
  intro v0 r
  unfold xf_AQ_clear
  (try dsimp only)
  all_goals ((repeat' split) <;> (first | with_reducible rfl | (simp only [fw_up_ne (c := 20) (i := r) (k := 2) (c' := c) (i' := i) (k' := k) (by omega), fw_up_ne (c := 20) (i := r) (k := 3) (c' := c) (i' := i) (k' := k) (by omega), fw_up_ne (c := 20) (i := r) (k := 4) (c' := c) (i' := i) (k' := k) (by omega), xsend_c (c' := c) (by omega) (by omega) (by omega)]; done)))
theorem xv_De_becomeIdle_j1 {c i k : Nat} (hc : c = 19 ∧ k = 18) : ∀ (v : fw_V) (r : Nat), (xf_De_becomeIdle_j1 v r) c i k = v c i k := by
  intro v r
  unfold xf_De_becomeIdle_j1
  (try dsimp only)
  all_goals ((repeat' split) <;> (first | with_reducible rfl | (simp only [fw_up_ne (c := 19) (i := r) (k := 11) (c' := c) (i' := i) (k' := k) (by omega), fw_up_ne (c := 19) (i := r) (k := 12) (c' := c) (i' := i) (k' := k) (by omega), fw_up_ne (c := 19) (i := r) (k := 16) (c' := c) (i' := i) (k' := k) (by omega), fw_up_ne (c := 19) (i := r) (k := 15) (c' := c) (i' := i) (k' := k) (by omega), fw_row_c (c := 27) (c' := c) (by omega), xsend_c (c' := c) (by omega) (by omega) (by omega), xv_AQ_clear hc]; done)))
theorem xv_De_becomeIdle_j5 {c i k : Nat} (hc : c = 19 ∧ k = 18) : ∀ (v : fw_V) (r : Nat), (xf_De_becomeIdle_j5 v r) c i k = v c i k := by
  intro v r
  unfold xf_De_becomeIdle_j5
  (try dsimp only)
  all_goals ((repeat' split) <;> (first | with_reducible rfl | (simp only [xsend_c (c' := c) (by omega) (by omega) (by omega), xv_De_becomeIdle_j1 hc]; done)))
theorem xv_De_becomeIdle_j4 {c i k : Nat} (hc : c = 19 ∧ k = 18) : ∀ (v : fw_V) (r : Nat), (xf_De_becomeIdle_j4 v r) c i k = v c i k := by
  intro v r
  unfold xf_De_becomeIdle_j4
  (try dsimp only)
  all_goals ((repeat' split) <;> (first | with_reducible rfl | (simp only [xsend_c (c' := c) (by omega) (by omega) (by omega), xv_De_showFallback hc, xv_De_becomeIdle_j5 hc]; done)))
theorem xv_De_becomeIdle_j3 {c i k : Nat} (hc : c = 19 ∧ k = 18) : ∀ (v : fw_V) (r : Nat), (xf_De_becomeIdle_j3 v r) c i k = v c i k := by
  intro v r
  unfold xf_De_becomeIdle_j3
  (try dsimp only)
  all_goals ((repeat' split) <;> (first | with_reducible rfl | (simp only [xsend_c (c' := c) (by omega) (by omega) (by omega), xv_De_showFallback hc, xv_De_becomeIdle_j4 hc]; done)))
theorem xv_De_becomeIdle_j2 {c i k : Nat} (hc : c = 19 ∧ k = 18) : ∀ (v : fw_V) (r : Nat), (xf_De_becomeIdle_j2 v r) c i k = v c i k := by
  intro v r
  unfold xf_De_becomeIdle_j2
  (try dsimp only)
  all_goals ((repeat' split) <;> (first | with_reducible rfl | (simp only [xsend_c (c' := c) (by omega) (by omega) (by omega), xv_De_showFallback hc, xv_De_becomeIdle_j3 hc]; done)))
theorem xv_De_becomeIdle {c i k : Nat} (hc : c = 19 ∧ k = 18) : ∀ (v0 : fw_V) (r : Nat), (xf_De_becomeIdle v0 r) c i k = v0 c i k := by
  intro v0 r
  unfold xf_De_becomeIdle
  (try dsimp only)
  all_goals ((repeat' split) <;> (first | with_reducible rfl | (simp only [xsend_c (c' := c) (by omega) (by omega) (by omega), xv_De_becomeIdle_j2 hc, xv_De_becomeIdle_j1 hc]; done)))
theorem xv_De_abort {c i k : Nat} (hc : c = 19 ∧ k = 18) : ∀ (v0 : fw_V) (r : Nat), (xf_De_abort v0 r) c i k = v0 c i k := by
  intro v0 r
  unfold xf_De_abort
  (try dsimp only)
  all_goals ((repeat' split) <;> (first | with_reducible rfl | (simp only [xsend_c (c' := c) (by omega) (by omega) (by omega), xv_De_becomeIdle hc]; done)))
theorem xv_De_answerSeek {c i k : Nat} (hc : c = 19 ∧ k = 18) : ∀ (v0 : fw_V) (r : Nat) (a1 : Int32), (xf_De_answerSeek v0 r a1) c i k = v0 c i k := by
  intro v0 r a1
  unfold xf_De_answerSeek
  (try dsimp only)
  all_goals ((repeat' split) <;> (first | with_reducible rfl | (simp only [fw_up_c (c := 8) (c' := c) (by omega), xsend_c (c' := c) (by omega) (by omega) (by omega)]; done)))
theorem xv_De_connect_j10 {c i k : Nat} (hc : c = 19 ∧ k = 18) : ∀ (v : fw_V) (r : Nat) (k1 : Nat), (xf_De_connect_j10 v r k1) c i k = v c i k := by
  intro v r k1
  unfold xf_De_connect_j10
  (try dsimp only)
  all_goals ((repeat' split) <;> (first | with_reducible rfl | (simp only [xsend_c (c' := c) (by omega) (by omega) (by omega)]; done)))
theorem xv_De_connect_j9 {c i k : Nat} (hc : c = 19 ∧ k = 18) : ∀ (v : fw_V) (r : Nat) (k1 : Nat), (xf_De_connect_j9 v r k1) c i k = v c i k := by
  intro v r k1
  unfold xf_De_connect_j9
  (try dsimp only)
  all_goals ((repeat' split) <;> (first | with_reducible rfl | (simp only [fw_up_ne (c := 19) (i := r) (k := 15) (c' := c) (i' := i) (k' := k) (by omega), xsend_c (c' := c) (by omega) (by omega) (by omega), xv_De_connect_j10 hc]; done)))
theorem xv_De_connect_j8 {c i k : Nat} (hc : c = 19 ∧ k = 18) : ∀ (v : fw_V) (r : Nat) (k1 : Nat), (xf_De_connect_j8 v r k1) c i k = v c i k := by
  intro v r k1
  unfold xf_De_connect_j8
  (try dsimp only)
  all_goals ((repeat' split) <;> (first | with_reducible rfl | (simp only [xsend_c (c' := c) (by omega) (by omega) (by omega), xv_De_connect_j9 hc]; done)))
theorem xv_De_connect_j11 {c i k : Nat} (hc : c = 19 ∧ k = 18) : ∀ (v : fw_V) (r : Nat) (k1 : Nat), (xf_De_connect_j11 v r k1) c i k = v c i k := by
  intro v r k1
  unfold xf_De_connect_j11
  (try dsimp only)
  all_goals ((repeat' split) <;> (first | with_reducible rfl | (simp only [fw_up_ne (c := 19) (i := r) (k := 15) (c' := c) (i' := i) (k' := k) (by omega), xsend_c (c' := c) (by omega) (by omega) (by omega), xv_De_connect_j10 hc]; done)))
theorem xv_De_connect_j7 {c i k : Nat} (hc : c = 19 ∧ k = 18) : ∀ (v : fw_V) (r : Nat) (k1 : Nat), (xf_De_connect_j7 v r k1) c i k = v c i k := by
  intro v r k1
  unfold xf_De_connect_j7
  (try dsimp only)
  all_goals ((repeat' split) <;> (first | with_reducible rfl | (simp only [fw_up_ne (c := 26) (i := r) (k := 2) (c' := c) (i' := i) (k' := k) (by omega), xsend_c (c' := c) (by omega) (by omega) (by omega), xv_De_connect_j8 hc, xv_De_connect_j11 hc]; done)))
theorem xv_De_connect_j6 {c i k : Nat} (hc : c = 19 ∧ k = 18) : ∀ (v : fw_V) (r : Nat) (k1 : Nat), (xf_De_connect_j6 v r k1) c i k = v c i k := by
  intro v r k1
  unfold xf_De_connect_j6
  (try dsimp only)
  all_goals ((repeat' split) <;> (first | with_reducible rfl | (simp only [fw_up_ne (c := 19) (i := r) (k := 15) (c' := c) (i' := i) (k' := k) (by omega), xsend_c (c' := c) (by omega) (by omega) (by omega), xv_De_connect_j7 hc]; done)))
theorem xv_De_connect_j5 {c i k : Nat} (hc : c = 19 ∧ k = 18) : ∀ (v : fw_V) (r : Nat) (k1 : Nat), (xf_De_connect_j5 v r k1) c i k = v c i k := by
  intro v r k1
  unfold xf_De_connect_j5
  (try dsimp only)
  all_goals ((repeat' split) <;> (first | with_reducible rfl | (simp only [xsend_c (c' := c) (by omega) (by omega) (by omega), xv_De_connect_j6 hc]; done)))
theorem xv_De_connect_j12 {c i k : Nat} (hc : c = 19 ∧ k = 18) : ∀ (v : fw_V) (r : Nat) (k1 : Nat), (xf_De_connect_j12 v r k1) c i k = v c i k := by
  intro v r k1
  unfold xf_De_connect_j12
  (try dsimp only)
  all_goals ((repeat' split) <;> (first | with_reducible rfl | (simp only [fw_up_ne (c := 19) (i := r) (k := 15) (c' := c) (i' := i) (k' := k) (by omega), xsend_c (c' := c) (by omega) (by omega) (by omega), xv_De_connect_j7 hc]; done)))
theorem xv_De_connect_j4 {c i k : Nat} (hc : c = 19 ∧ k = 18) : ∀ (v : fw_V) (r : Nat) (k1 : Nat), (xf_De_connect_j4 v r k1) c i k = v c i k := by
  intro v r k1
  unfold xf_De_connect_j4
  (try dsimp only)
  all_goals ((repeat' split) <;> (first | with_reducible rfl | (simp only [fw_up_ne (c := 26) (i := r) (k := 1) (c' := c) (i' := i) (k' := k) (by omega), xsend_c (c' := c) (by omega) (by omega) (by omega), xv_De_connect_j5 hc, xv_De_connect_j12 hc]; done)))
theorem xv_De_connect_j3 {c i k : Nat} (hc : c = 19 ∧ k = 18) : ∀ (v : fw_V) (r : Nat) (k1 : Nat), (xf_De_connect_j3 v r k1) c i k = v c i k := by
  intro v r k1
  unfold xf_De_connect_j3
  (try dsimp only)
  all_goals ((repeat' split) <;> (first | with_reducible rfl | (simp only [fw_up_ne (c := 19) (i := r) (k := 15) (c' := c) (i' := i) (k' := k) (by omega), xsend_c (c' := c) (by omega) (by omega) (by omega), xv_De_connect_j4 hc]; done)))
theorem xv_De_connect_j2 {c i k : Nat} (hc : c = 19 ∧ k = 18) : ∀ (v : fw_V) (r : Nat) (k1 : Nat), (xf_De_connect_j2 v r k1) c i k = v c i k := by
  intro v r k1
  unfold xf_De_connect_j2
  (try dsimp only)
  all_goals ((repeat' split) <;> (first | with_reducible rfl | (simp only [xsend_c (c' := c) (by omega) (by omega) (by omega), xv_De_connect_j3 hc]; done)))
theorem xv_De_connect_j13 {c i k : Nat} (hc : c = 19 ∧ k = 18) : ∀ (v : fw_V) (r : Nat) (k1 : Nat), (xf_De_connect_j13 v r k1) c i k = v c i k := by
  intro v r k1
  unfold xf_De_connect_j13
  (try dsimp only)
  all_goals ((repeat' split) <;> (first | with_reducible rfl | (simp only [fw_up_ne (c := 19) (i := r) (k := 15) (c' := c) (i' := i) (k' := k) (by omega), xsend_c (c' := c) (by omega) (by omega) (by omega), xv_De_connect_j4 hc]; done)))
theorem xv_De_connect_j1 {c i k : Nat} (hc : c = 19 ∧ k = 18) : ∀ (v : fw_V) (r : Nat) (k1 : Nat), (xf_De_connect_j1 v r k1) c i k = v c i k := by
  intro v r k1
  unfold xf_De_connect_j1
  (try dsimp only)
  all_goals ((repeat' split) <;> (first | with_reducible rfl | (simp only [fw_up_ne (c := 26) (i := r) (k := 0) (c' := c) (i' := i) (k' := k) (by omega), xsend_c (c' := c) (by omega) (by omega) (by omega), xv_De_connect_j2 hc, xv_De_connect_j13 hc]; done)))
theorem xv_De_connect {c i k : Nat} (hc : c = 19 ∧ k = 18) : ∀ (v0 : fw_V) (r : Nat) (k1 : Nat), (xf_De_connect v0 r k1) c i k = v0 c i k := by
  intro v0 r k1
  unfold xf_De_connect
  (try dsimp only)
  all_goals ((repeat' split) <;> (first | with_reducible rfl | (simp only [fw_up_ne (c := 19) (i := r) (k := 11) (c' := c) (i' := i) (k' := k) (by omega), fw_up_ne (c := 19) (i := r) (k := 12) (c' := c) (i' := i) (k' := k) (by omega), fw_up_ne (c := 19) (i := r) (k := 16) (c' := c) (i' := i) (k' := k) (by omega), fw_row_c (c := 27) (c' := c) (by omega), xsend_c (c' := c) (by omega) (by omega) (by omega), xv_De_connect_j1 hc]; done)))
theorem xv_De_answerConnect_j2 {c i k : Nat} (hc : c = 19 ∧ k = 18) : ∀ (v : fw_V) (r : Nat) (k1 : Nat), (xf_De_answerConnect_j2 v r k1) c i k = v c i k := by
  intro v r k1
  unfold xf_De_answerConnect_j2
  (try dsimp only)
  all_goals ((repeat' split) <;> (first | with_reducible rfl | (simp only [xsend_c (c' := c) (by omega) (by omega) (by omega), xv_De_connect hc]; done)))
theorem xv_De_answerConnect_j1 {c i k : Nat} (hc : c = 19 ∧ k = 18) : ∀ (v : fw_V) (r : Nat) (k1 : Nat), (xf_De_answerConnect_j1 v r k1) c i k = v c i k := by
  intro v r k1
  unfold xf_De_answerConnect_j1
  (try dsimp only)
  all_goals ((repeat' split) <;> (first | with_reducible rfl | (simp only [xsend_c (c' := c) (by omega) (by omega) (by omega), xv_De_answerConnect_j2 hc]; done)))
theorem xv_De_answerConnect {c i k : Nat} (hc : c = 19 ∧ k = 18) : ∀ (v0 : fw_V) (r : Nat) (k1 : Nat), (xf_De_answerConnect v0 r k1) c i k = v0 c i k := by
  intro v0 r k1
  unfold xf_De_answerConnect
  (try dsimp only)
  all_goals ((repeat' split) <;> (first | with_reducible rfl | (simp only [xsend_c (c' := c) (by omega) (by omega) (by omega), xv_De_answerConnect_j1 hc]; done)))
theorem xv_De_keepParameter {c i k : Nat} (hc : c = 19 ∧ k = 18) : ∀ (v0 : fw_V) (r : Nat) (k1 : Nat), (xf_De_keepParameter v0 r k1) c i k = v0 c i k := by
  intro v0 r k1
  unfold xf_De_keepParameter
  (try dsimp only)
  all_goals ((repeat' split) <;> (first | with_reducible rfl | (simp only [fw_up_c (c := 27) (c' := c) (by omega), fw_up_ne (c := 19) (i := r) (k := 16) (c' := c) (i' := i) (k' := k) (by omega), xsend_c (c' := c) (by omega) (by omega) (by omega)]; done)))
theorem xv_De_answerEnd_j1 {c i k : Nat} (hc : c = 19 ∧ k = 18) : ∀ (v : fw_V) (r : Nat), (xf_De_answerEnd_j1 v r) c i k = v c i k := by
  intro v r
  unfold xf_De_answerEnd_j1
  (try dsimp only)
  all_goals ((repeat' split) <;> (first | with_reducible rfl | (simp only [fw_up_ne (c := 19) (i := r) (k := 11) (c' := c) (i' := i) (k' := k) (by omega), fw_up_ne (c := 19) (i := r) (k := 16) (c' := c) (i' := i) (k' := k) (by omega), fw_up_ne (c := 19) (i := r) (k := 17) (c' := c) (i' := i) (k' := k) (by omega), xsend_c (c' := c) (by omega) (by omega) (by omega)]; done)))
theorem xv_De_answerEnd {c i k : Nat} (hc : c = 19 ∧ k = 18) : ∀ (v0 : fw_V) (r : Nat), (xf_De_answerEnd v0 r) c i k = v0 c i k := by
  intro v0 r
  unfold xf_De_answerEnd
  (try dsimp only)
  all_goals ((repeat' split) <;> (first | with_reducible rfl | (simp only [xsend_c (c' := c) (by omega) (by omega) (by omega), xv_De_answerEnd_j1 hc, xv_De_abort hc]; done)))
theorem xv_Cy_restart {c i k : Nat} (hc : c = 19 ∧ k = 18) : ∀ (v0 : fw_V) (r : Nat), (xf_Cy_restart v0 r) c i k = v0 c i k := by
  intro v0 r
  unfold xf_Cy_restart
  (try dsimp only)
  all_goals ((repeat' split) <;> (first | with_reducible rfl | (simp only [fw_up_ne (c := 14) (i := r) (k := 0) (c' := c) (i' := i) (k' := k) (by omega), fw_up_ne (c := 14) (i := r) (k := 1) (c' := c) (i' := i) (k' := k) (by omega), xsend_c (c' := c) (by omega) (by omega) (by omega)]; done)))
theorem xv_De_beginData {c i k : Nat} (hc : c = 19 ∧ k = 18) : ∀ (v0 : fw_V) (r : Nat), (xf_De_beginData v0 r) c i k = v0 c i k := by
  intro v0 r
  unfold xf_De_beginData
  (try dsimp only)
  all_goals ((repeat' split) <;> (first | with_reducible rfl | (simp only [fw_up_ne (c := 19) (i := r) (k := 11) (c' := c) (i' := i) (k' := k) (by omega), fw_up_ne (c := 19) (i := r) (k := 16) (c' := c) (i' := i) (k' := k) (by omega), xsend_c (c' := c) (by omega) (by omega) (by omega), xv_Cy_restart hc]; done)))
theorem xv_Cy_takes {c i k : Nat} (hc : c = 19 ∧ k = 18) : ∀ (v0 : fw_V) (r : Nat) (a1 : Int32), (xf_Cy_takes v0 r a1).2 c i k = v0 c i k := by
  intro v0 r a1
  unfold xf_Cy_takes
  (try dsimp only)
  all_goals ((repeat' split) <;> (first | with_reducible rfl | (simp only [fw_up_ne (c := 14) (i := r) (k := 1) (c' := c) (i' := i) (k' := k) (by omega), xsend_c (c' := c) (by omega) (by omega) (by omega)]; done)))
theorem xv_De_takeOutput_j7 {c i k : Nat} (hc : c = 19 ∧ k = 18) : ∀ (v : fw_V) (r : Nat) (k1 : Nat), (xf_De_takeOutput_j7 v r k1) c i k = v c i k := by
  intro v r k1
  unfold xf_De_takeOutput_j7
  (try dsimp only)
  all_goals ((repeat' split) <;> (first | with_reducible rfl | (simp only [xsend_c (c' := c) (by omega) (by omega) (by omega)]; done)))
theorem xv_De_takeOutput_j6 {c i k : Nat} (hc : c = 19 ∧ k = 18) : ∀ (v : fw_V) (r : Nat) (k1 : Nat), (xf_De_takeOutput_j6 v r k1) c i k = v c i k := by
  intro v r k1
  unfold xf_De_takeOutput_j6
  (try dsimp only)
  all_goals ((repeat' split) <;> (first | with_reducible rfl | (simp only [xsend_c (c' := c) (by omega) (by omega) (by omega), xv_De_takeOutput_j7 hc]; done)))
theorem xv_De_showRow_j5 {c i k : Nat} (hc : c = 19 ∧ k = 18) : ∀ (v : fw_V) (r : Nat) (k1 : Nat) (a2 : Int32) (x3 : Int32), (xf_De_showRow_j5 v r k1 a2 x3) c i k = v c i k := by
  intro v r k1 a2 x3
  unfold xf_De_showRow_j5
  (try dsimp only)
  all_goals ((repeat' split) <;> (first | with_reducible rfl | (simp only [xsend_c (c' := c) (by omega) (by omega) (by omega)]; done)))
theorem xv_De_showRow_j4 {c i k : Nat} (hc : c = 19 ∧ k = 18) : ∀ (v : fw_V) (r : Nat) (k1 : Nat) (a2 : Int32) (x3 : Int32) (x91 : Int32), (xf_De_showRow_j4 v r k1 a2 x3 x91) c i k = v c i k := by
  intro v r k1 a2 x3 x91
  unfold xf_De_showRow_j4
  (try dsimp only)
  all_goals ((repeat' split) <;> (first | with_reducible rfl | (simp only [fw_up_c (c := 25) (c' := c) (by omega), xsend_c (c' := c) (by omega) (by omega) (by omega), xv_De_showRow_j5 hc]; done)))
theorem xv_De_showRow_j6 {c i k : Nat} (hc : c = 19 ∧ k = 18) : ∀ (v : fw_V) (r : Nat) (k1 : Nat) (a2 : Int32) (x3 : Int32) (x90 : Int32) (x91 : Int32), (xf_De_showRow_j6 v r k1 a2 x3 x90 x91) c i k = v c i k := by
  intro v r k1 a2 x3 x90 x91
  unfold xf_De_showRow_j6
  (try dsimp only)
  all_goals ((repeat' split) <;> (first | with_reducible rfl | (simp only [fw_up_c (c := 25) (c' := c) (by omega), xsend_c (c' := c) (by omega) (by omega) (by omega), xv_De_showRow_j5 hc]; done)))
theorem xv_De_showRow_j3 {c i k : Nat} (hc : c = 19 ∧ k = 18) : ∀ (v : fw_V) (r : Nat) (k1 : Nat) (a2 : Int32) (x3 : Int32), (xf_De_showRow_j3 v r k1 a2 x3) c i k = v c i k := by
  intro v r k1 a2 x3
  unfold xf_De_showRow_j3
  (try dsimp only)
  all_goals ((repeat' split) <;> (first | with_reducible rfl | (simp only [xsend_c (c' := c) (by omega) (by omega) (by omega), xv_De_showRow_j4 hc, xv_De_showRow_j6 hc]; done)))
theorem xv_De_showRow_j2 {c i k : Nat} (hc : c = 19 ∧ k = 18) : ∀ (v : fw_V) (r : Nat) (k1 : Nat) (a2 : Int32) (x3 : Int32) (x91 : Int32), (xf_De_showRow_j2 v r k1 a2 x3 x91) c i k = v c i k := by
  intro v r k1 a2 x3 x91
  unfold xf_De_showRow_j2
  (try dsimp only)
  all_goals ((repeat' split) <;> (first | with_reducible rfl | (simp only [fw_up_c (c := 25) (c' := c) (by omega), xsend_c (c' := c) (by omega) (by omega) (by omega), xv_De_showRow_j3 hc]; done)))
theorem xv_De_showRow_j7 {c i k : Nat} (hc : c = 19 ∧ k = 18) : ∀ (v : fw_V) (r : Nat) (k1 : Nat) (a2 : Int32) (x3 : Int32) (x90 : Int32) (x91 : Int32), (xf_De_showRow_j7 v r k1 a2 x3 x90 x91) c i k = v c i k := by
  intro v r k1 a2 x3 x90 x91
  unfold xf_De_showRow_j7
  (try dsimp only)
  all_goals ((repeat' split) <;> (first | with_reducible rfl | (simp only [fw_up_c (c := 25) (c' := c) (by omega), xsend_c (c' := c) (by omega) (by omega) (by omega), xv_De_showRow_j3 hc]; done)))
theorem xv_De_showRow_j1 {c i k : Nat} (hc : c = 19 ∧ k = 18) : ∀ (v : fw_V) (r : Nat) (k1 : Nat) (a2 : Int32) (x3 : Int32), (xf_De_showRow_j1 v r k1 a2 x3) c i k = v c i k := by
  intro v r k1 a2 x3
  unfold xf_De_showRow_j1
  (try dsimp only)
  all_goals ((repeat' split) <;> (first | with_reducible rfl | (simp only [xsend_c (c' := c) (by omega) (by omega) (by omega), xv_De_showRow_j2 hc, xv_De_showRow_j7 hc]; done)))
theorem xv_De_showRow {c i k : Nat} (hc : c = 19 ∧ k = 18) : ∀ (v0 : fw_V) (r : Nat) (k1 : Nat) (a2 : Int32), (xf_De_showRow v0 r k1 a2) c i k = v0 c i k := by
  intro v0 r k1 a2
  unfold xf_De_showRow
  (try dsimp only)
  all_goals ((repeat' split) <;> (first | with_reducible rfl | (simp only [xsend_c (c' := c) (by omega) (by omega) (by omega), xv_De_showRow_j1 hc]; done)))
theorem xv_De_takeOutput_j5 {c i k : Nat} (hc : c = 19 ∧ k = 18) : ∀ (v : fw_V) (r : Nat) (k1 : Nat), (xf_De_takeOutput_j5 v r k1) c i k = v c i k := by
  intro v r k1
  unfold xf_De_takeOutput_j5
  (try dsimp only)
  all_goals ((repeat' split) <;> (first | with_reducible rfl | (simp only [xsend_c (c' := c) (by omega) (by omega) (by omega), xv_De_takeOutput_j6 hc, xv_De_showRow hc]; done)))
theorem xv_De_takeOutput_j4 {c i k : Nat} (hc : c = 19 ∧ k = 18) : ∀ (v : fw_V) (r : Nat) (k1 : Nat), (xf_De_takeOutput_j4 v r k1) c i k = v c i k := by
  intro v r k1
  unfold xf_De_takeOutput_j4
  (try dsimp only)
  all_goals ((repeat' split) <;> (first | with_reducible rfl | (simp only [xsend_c (c' := c) (by omega) (by omega) (by omega), xv_De_takeOutput_j5 hc]; done)))
theorem xv_De_takeOutput_j3 {c i k : Nat} (hc : c = 19 ∧ k = 18) : ∀ (v : fw_V) (r : Nat) (k1 : Nat), (xf_De_takeOutput_j3 v r k1) c i k = v c i k := by
  intro v r k1
  unfold xf_De_takeOutput_j3
  (try dsimp only)
  all_goals ((repeat' split) <;> (first | with_reducible rfl | (simp only [xsend_c (c' := c) (by omega) (by omega) (by omega), xv_De_takeOutput_j4 hc, xv_De_showRow hc]; done)))
theorem xv_De_takeOutput_j2 {c i k : Nat} (hc : c = 19 ∧ k = 18) : ∀ (v : fw_V) (r : Nat) (k1 : Nat), (xf_De_takeOutput_j2 v r k1) c i k = v c i k := by
  intro v r k1
  unfold xf_De_takeOutput_j2
  (try dsimp only)
  all_goals ((repeat' split) <;> (first | with_reducible rfl | (simp only [xsend_c (c' := c) (by omega) (by omega) (by omega), xv_De_takeOutput_j3 hc]; done)))
theorem xv_De_takeOutput_j1 {c i k : Nat} (hc : c = 19 ∧ k = 18) : ∀ (v : fw_V) (r : Nat) (k1 : Nat), (xf_De_takeOutput_j1 v r k1) c i k = v c i k := by
  intro v r k1
  unfold xf_De_takeOutput_j1
  (try dsimp only)
  all_goals ((repeat' split) <;> (first | with_reducible rfl | (simp only [xsend_c (c' := c) (by omega) (by omega) (by omega), xv_De_takeOutput_j2 hc, xv_De_showRow hc]; done)))
theorem xv_De_takeOutput {c i k : Nat} (hc : c = 19 ∧ k = 18) : ∀ (v0 : fw_V) (r : Nat) (k1 : Nat), (xf_De_takeOutput v0 r k1) c i k = v0 c i k := by
  intro v0 r k1
  unfold xf_De_takeOutput
  (try dsimp only)
  all_goals ((repeat' split) <;> (first | with_reducible rfl | (simp only [fw_up_ne (c := 19) (i := r) (k := 16) (c' := c) (i' := i) (k' := k) (by omega), xsend_c (c' := c) (by omega) (by omega) (by omega), xv_Cy_takes hc, xv_De_takeOutput_j1 hc]; done)))
theorem xv_AQ_taken_j4 {c i k : Nat} (hc : c = 19 ∧ k = 18) : ∀ (v : fw_V) (r : Nat) (a1 : Int32), (xf_AQ_taken_j4 v r a1) c i k = v c i k := by
  intro v r a1
  unfold xf_AQ_taken_j4
  (try dsimp only)
  all_goals ((repeat' split) <;> (first | with_reducible rfl | (simp only [xsend_c (c' := c) (by omega) (by omega) (by omega)]; done)))
theorem xv_AQ_taken_j3 {c i k : Nat} (hc : c = 19 ∧ k = 18) : ∀ (v : fw_V) (r : Nat) (a1 : Int32), (xf_AQ_taken_j3 v r a1) c i k = v c i k := by
  intro v r a1
  unfold xf_AQ_taken_j3
  (try dsimp only)
  all_goals ((repeat' split) <;> (first | with_reducible rfl | (simp only [fw_up_ne (c := 21) (i := r) (k := 2) (c' := c) (i' := i) (k' := k) (by omega), fw_up_ne (c := 22) (i := r) (k := 2) (c' := c) (i' := i) (k' := k) (by omega), xsend_c (c' := c) (by omega) (by omega) (by omega), xv_AQ_taken_j4 hc]; done)))
theorem xv_AQ_taken_j2 {c i k : Nat} (hc : c = 19 ∧ k = 18) : ∀ (v : fw_V) (r : Nat) (a1 : Int32), (xf_AQ_taken_j2 v r a1) c i k = v c i k := by
  intro v r a1
  unfold xf_AQ_taken_j2
  (try dsimp only)
  all_goals ((repeat' split) <;> (first | with_reducible rfl | (simp only [fw_up_ne (c := 21) (i := r) (k := 1) (c' := c) (i' := i) (k' := k) (by omega), fw_up_ne (c := 22) (i := r) (k := 1) (c' := c) (i' := i) (k' := k) (by omega), xsend_c (c' := c) (by omega) (by omega) (by omega), xv_AQ_taken_j3 hc]; done)))
theorem xv_AQ_taken_j1 {c i k : Nat} (hc : c = 19 ∧ k = 18) : ∀ (v : fw_V) (r : Nat) (a1 : Int32), (xf_AQ_taken_j1 v r a1) c i k = v c i k := by
  intro v r a1
  unfold xf_AQ_taken_j1
  (try dsimp only)
  all_goals ((repeat' split) <;> (first | with_reducible rfl | (simp only [fw_up_ne (c := 21) (i := r) (k := 0) (c' := c) (i' := i) (k' := k) (by omega), fw_up_ne (c := 22) (i := r) (k := 0) (c' := c) (i' := i) (k' := k) (by omega), xsend_c (c' := c) (by omega) (by omega) (by omega), xv_AQ_taken_j2 hc]; done)))
theorem xv_AQ_taken {c i k : Nat} (hc : c = 19 ∧ k = 18) : ∀ (v0 : fw_V) (r : Nat) (a1 : Int32), (xf_AQ_taken v0 r a1) c i k = v0 c i k := by
  intro v0 r a1
  unfold xf_AQ_taken
  (try dsimp only)
  all_goals ((repeat' split) <;> (first | with_reducible rfl | (simp only [fw_up_ne (c := 20) (i := r) (k := 3) (c' := c) (i' := i) (k' := k) (by omega), fw_up_ne (c := 20) (i := r) (k := 2) (c' := c) (i' := i) (k' := k) (by omega), xsend_c (c' := c) (by omega) (by omega) (by omega), xv_AQ_taken_j1 hc]; done)))
theorem xv_De_receive {c i k : Nat} (hc : c = 19 ∧ k = 18) : ∀ (v0 : fw_V) (r : Nat) (k1 : Nat), (xf_De_receive v0 r k1) c i k = v0 c i k := by
  intro v0 r k1
  unfold xf_De_receive
  (try dsimp only)
  all_goals ((repeat' split) <;> (first | with_reducible rfl | (simp only [xsend_c (c' := c) (by omega) (by omega) (by omega), xv_De_answerSeek hc, xv_De_answerConnect hc, xv_De_keepParameter hc, xv_De_answerEnd hc, xv_De_beginData hc, xv_De_takeOutput hc, xv_AQ_taken hc, xv_De_becomeIdle hc]; done)))
theorem xv_AQ_add {c i k : Nat} (hc : c = 19 ∧ k = 18) : ∀ (v0 : fw_V) (r : Nat) (a1 : Int32) (a2 : Int32), (xf_AQ_add v0 r a1 a2) c i k = v0 c i k := by
  intro v0 r a1 a2
  unfold xf_AQ_add
  (try dsimp only)
  all_goals ((repeat' split) <;> (first | with_reducible rfl | (simp only [fw_up_c (c := 21) (c' := c) (by omega), fw_up_c (c := 22) (c' := c) (by omega), fw_up_ne (c := 20) (i := r) (k := 2) (c' := c) (i' := i) (k' := k) (by omega), xsend_c (c' := c) (by omega) (by omega) (by omega)]; done)))
theorem xv_De_changeModule_j1 {c i k : Nat} (hc : c = 19 ∧ k = 18) : ∀ (v : fw_V) (r : Nat) (a1 : Int32) (a2 : Int32) (x92 : Int32), (xf_De_changeModule_j1 v r a1 a2 x92) c i k = v c i k := by
  intro v r a1 a2 x92
  unfold xf_De_changeModule_j1
  (try dsimp only)
  all_goals ((repeat' split) <;> (first | with_reducible rfl | (simp only [fw_up_ne (c := 19) (i := r) (k := 15) (c' := c) (i' := i) (k' := k) (by omega), xsend_c (c' := c) (by omega) (by omega) (by omega), xv_AQ_add hc]; done)))
theorem xv_De_changeModule_j2 {c i k : Nat} (hc : c = 19 ∧ k = 18) : ∀ (v : fw_V) (r : Nat) (a1 : Int32) (a2 : Int32) (x92 : Int32), (xf_De_changeModule_j2 v r a1 a2 x92) c i k = v c i k := by
  intro v r a1 a2 x92
  unfold xf_De_changeModule_j2
  (try dsimp only)
  all_goals ((repeat' split) <;> (first | with_reducible rfl | (simp only [fw_up_ne (c := 19) (i := r) (k := 15) (c' := c) (i' := i) (k' := k) (by omega), xsend_c (c' := c) (by omega) (by omega) (by omega), xv_AQ_add hc]; done)))
theorem xv_De_changeModule {c i k : Nat} (hc : c = 19 ∧ k = 18) : ∀ (v0 : fw_V) (r : Nat) (a1 : Int32) (a2 : Int32), (xf_De_changeModule v0 r a1 a2) c i k = v0 c i k := by
  intro v0 r a1 a2
  unfold xf_De_changeModule
  (try dsimp only)
  all_goals ((repeat' split) <;> (first | with_reducible rfl | (simp only [fw_up_c (c := 23) (c' := c) (by omega), xsend_c (c' := c) (by omega) (by omega) (by omega), xv_De_showFallback hc, xv_De_changeModule_j1 hc, xv_De_changeModule_j2 hc]; done)))
theorem xv_AQ_isDueThisTick_j1 {c i k : Nat} (hc : c = 19 ∧ k = 18) : ∀ (v : fw_V) (r : Nat) (x90 : Int32), (xf_AQ_isDueThisTick_j1 v r x90).2 c i k = v c i k := by
  intro v r x90
  unfold xf_AQ_isDueThisTick_j1
  (try dsimp only)
  all_goals ((repeat' split) <;> (first | with_reducible rfl | (simp only [fw_up_ne (c := 20) (i := r) (k := 4) (c' := c) (i' := i) (k' := k) (by omega), fw_up_ne (c := 20) (i := r) (k := 3) (c' := c) (i' := i) (k' := k) (by omega), fw_up_ne (c := 20) (i := r) (k := 5) (c' := c) (i' := i) (k' := k) (by omega), xsend_c (c' := c) (by omega) (by omega) (by omega)]; done)))
theorem xv_AQ_isDueThisTick_j2 {c i k : Nat} (hc : c = 19 ∧ k = 18) : ∀ (v : fw_V) (r : Nat), (xf_AQ_isDueThisTick_j2 v r).2 c i k = v c i k := by
  intro v r
  unfold xf_AQ_isDueThisTick_j2
  (try dsimp only)
  all_goals ((repeat' split) <;> (first | with_reducible rfl | (simp only [fw_up_ne (c := 20) (i := r) (k := 4) (c' := c) (i' := i) (k' := k) (by omega), fw_up_ne (c := 20) (i := r) (k := 3) (c' := c) (i' := i) (k' := k) (by omega), fw_up_ne (c := 20) (i := r) (k := 5) (c' := c) (i' := i) (k' := k) (by omega), xsend_c (c' := c) (by omega) (by omega) (by omega)]; done)))
theorem xv_AQ_isDueThisTick {c i k : Nat} (hc : c = 19 ∧ k = 18) : ∀ (v0 : fw_V) (r : Nat), (xf_AQ_isDueThisTick v0 r).2 c i k = v0 c i k := by
  intro v0 r
  unfold xf_AQ_isDueThisTick
  (try dsimp only)
  all_goals ((repeat' split) <;> (first | with_reducible rfl | (simp only [fw_up_ne (c := 20) (i := r) (k := 5) (c' := c) (i' := i) (k' := k) (by omega), xsend_c (c' := c) (by omega) (by omega) (by omega), xv_AQ_isDueThisTick_j1 hc, xv_AQ_isDueThisTick_j2 hc]; done)))
theorem xv_De_sendAlarm {c i k : Nat} (hc : c = 19 ∧ k = 18) : ∀ (v0 : fw_V) (r : Nat), (xf_De_sendAlarm v0 r) c i k = v0 c i k := by
  intro v0 r
  unfold xf_De_sendAlarm
  (try dsimp only)
  all_goals ((repeat' split) <;> (first | with_reducible rfl | (simp only [fw_up_c (c := 8) (c' := c) (by omega), xsend_c (c' := c) (by omega) (by omega) (by omega)]; done)))
theorem xv_Cy_nextToSend {c i k : Nat} (hc : c = 19 ∧ k = 18) : ∀ (v0 : fw_V) (r : Nat), (xf_Cy_nextToSend v0 r).2 c i k = v0 c i k := by
  intro v0 r
  unfold xf_Cy_nextToSend
  (try dsimp only)
  all_goals ((repeat' split) <;> (first | with_reducible rfl | (simp only [fw_up_ne (c := 14) (i := r) (k := 0) (c' := c) (i' := i) (k' := k) (by omega), xsend_c (c' := c) (by omega) (by omega) (by omega)]; done)))
theorem xv_De_sendInput_j7 {c i k : Nat} (hc : c = 19 ∧ k = 18) : ∀ (v : fw_V) (r : Nat) (k1 : Nat), (xf_De_sendInput_j7 v r k1) c i k = v c i k := by
  intro v r k1
  unfold xf_De_sendInput_j7
  (try dsimp only)
  all_goals ((repeat' split) <;> (first | with_reducible rfl | (simp only [fw_up_ne (c := 8) (i := k1) (k := 6) (c' := c) (i' := i) (k' := k) (by omega), xsend_c (c' := c) (by omega) (by omega) (by omega)]; done)))
theorem xv_De_sendInput_j6 {c i k : Nat} (hc : c = 19 ∧ k = 18) : ∀ (v : fw_V) (r : Nat) (k1 : Nat), (xf_De_sendInput_j6 v r k1) c i k = v c i k := by
  intro v r k1
  unfold xf_De_sendInput_j6
  (try dsimp only)
  all_goals ((repeat' split) <;> (first | with_reducible rfl | (simp only [xsend_c (c' := c) (by omega) (by omega) (by omega), xv_De_sendInput_j7 hc]; done)))
theorem xv_De_copySensed_j3 {c i k : Nat} (hc : c = 19 ∧ k = 18) : ∀ (v : fw_V) (r : Nat) (k1 : Nat) (a2 : Int32) (x3 : Int32), (xf_De_copySensed_j3 v r k1 a2 x3) c i k = v c i k := by
  intro v r k1 a2 x3
  unfold xf_De_copySensed_j3
  (try dsimp only)
  all_goals ((repeat' split) <;> (first | with_reducible rfl | (simp only [xsend_c (c' := c) (by omega) (by omega) (by omega)]; done)))
theorem xv_De_copySensed_j2 {c i k : Nat} (hc : c = 19 ∧ k = 18) : ∀ (v : fw_V) (r : Nat) (k1 : Nat) (a2 : Int32) (x3 : Int32), (xf_De_copySensed_j2 v r k1 a2 x3) c i k = v c i k := by
  intro v r k1 a2 x3
  unfold xf_De_copySensed_j2
  (try dsimp only)
  all_goals ((repeat' split) <;> (first | with_reducible rfl | (simp only [fw_up_c (c := 8) (c' := c) (by omega), xsend_c (c' := c) (by omega) (by omega) (by omega), xv_De_copySensed_j3 hc]; done)))
theorem xv_De_copySensed_j1 {c i k : Nat} (hc : c = 19 ∧ k = 18) : ∀ (v : fw_V) (r : Nat) (k1 : Nat) (a2 : Int32) (x3 : Int32), (xf_De_copySensed_j1 v r k1 a2 x3) c i k = v c i k := by
  intro v r k1 a2 x3
  unfold xf_De_copySensed_j1
  (try dsimp only)
  all_goals ((repeat' split) <;> (first | with_reducible rfl | (simp only [fw_up_c (c := 8) (c' := c) (by omega), xsend_c (c' := c) (by omega) (by omega) (by omega), xv_De_copySensed_j2 hc]; done)))
theorem xv_De_copySensed {c i k : Nat} (hc : c = 19 ∧ k = 18) : ∀ (v0 : fw_V) (r : Nat) (k1 : Nat) (a2 : Int32), (xf_De_copySensed v0 r k1 a2) c i k = v0 c i k := by
  intro v0 r k1 a2
  unfold xf_De_copySensed
  (try dsimp only)
  all_goals ((repeat' split) <;> (first | with_reducible rfl | (simp only [xsend_c (c' := c) (by omega) (by omega) (by omega), xv_De_copySensed_j1 hc]; done)))
theorem xv_De_sendInput_j9 {c i k : Nat} (hc : c = 19 ∧ k = 18) : ∀ (v : fw_V) (r : Nat) (k1 : Nat) (x2 : Int32), (xf_De_sendInput_j9 v r k1 x2) c i k = v c i k := by
  intro v r k1 x2
  unfold xf_De_sendInput_j9
  (try dsimp only)
  all_goals ((repeat' split) <;> (first | with_reducible rfl | (simp only [fw_up_ne (c := 8) (i := k1) (k := 6) (c' := c) (i' := i) (k' := k) (by omega), xsend_c (c' := c) (by omega) (by omega) (by omega)]; done)))
theorem xv_De_sendInput_j8 {c i k : Nat} (hc : c = 19 ∧ k = 18) : ∀ (v : fw_V) (r : Nat) (k1 : Nat) (x2 : Int32), (xf_De_sendInput_j8 v r k1 x2) c i k = v c i k := by
  intro v r k1 x2
  unfold xf_De_sendInput_j8
  (try dsimp only)
  all_goals ((repeat' split) <;> (first | with_reducible rfl | (simp only [xsend_c (c' := c) (by omega) (by omega) (by omega), xv_De_sendInput_j9 hc]; done)))
theorem xv_De_sendInput_j5 {c i k : Nat} (hc : c = 19 ∧ k = 18) : ∀ (v : fw_V) (r : Nat) (k1 : Nat), (xf_De_sendInput_j5 v r k1) c i k = v c i k := by
  intro v r k1
  unfold xf_De_sendInput_j5
  (try dsimp only)
  all_goals ((repeat' split) <;> (first | with_reducible rfl | (simp only [xsend_c (c' := c) (by omega) (by omega) (by omega), xv_De_sendInput_j6 hc, xv_De_copySensed hc, xv_De_sendInput_j8 hc]; done)))
theorem xv_De_sendInput_j4 {c i k : Nat} (hc : c = 19 ∧ k = 18) : ∀ (v : fw_V) (r : Nat) (k1 : Nat), (xf_De_sendInput_j4 v r k1) c i k = v c i k := by
  intro v r k1
  unfold xf_De_sendInput_j4
  (try dsimp only)
  all_goals ((repeat' split) <;> (first | with_reducible rfl | (simp only [xsend_c (c' := c) (by omega) (by omega) (by omega), xv_De_sendInput_j5 hc]; done)))
theorem xv_De_sendInput_j11 {c i k : Nat} (hc : c = 19 ∧ k = 18) : ∀ (v : fw_V) (r : Nat) (k1 : Nat) (x2 : Int32), (xf_De_sendInput_j11 v r k1 x2) c i k = v c i k := by
  intro v r k1 x2
  unfold xf_De_sendInput_j11
  (try dsimp only)
  all_goals ((repeat' split) <;> (first | with_reducible rfl | (simp only [xsend_c (c' := c) (by omega) (by omega) (by omega), xv_De_sendInput_j8 hc, xv_De_copySensed hc]; done)))
theorem xv_De_sendInput_j10 {c i k : Nat} (hc : c = 19 ∧ k = 18) : ∀ (v : fw_V) (r : Nat) (k1 : Nat) (x2 : Int32), (xf_De_sendInput_j10 v r k1 x2) c i k = v c i k := by
  intro v r k1 x2
  unfold xf_De_sendInput_j10
  (try dsimp only)
  all_goals ((repeat' split) <;> (first | with_reducible rfl | (simp only [xsend_c (c' := c) (by omega) (by omega) (by omega), xv_De_sendInput_j11 hc]; done)))
theorem xv_De_sendInput_j3 {c i k : Nat} (hc : c = 19 ∧ k = 18) : ∀ (v : fw_V) (r : Nat) (k1 : Nat), (xf_De_sendInput_j3 v r k1) c i k = v c i k := by
  intro v r k1
  unfold xf_De_sendInput_j3
  (try dsimp only)
  all_goals ((repeat' split) <;> (first | with_reducible rfl | (simp only [xsend_c (c' := c) (by omega) (by omega) (by omega), xv_De_sendInput_j4 hc, xv_De_copySensed hc, xv_De_sendInput_j10 hc]; done)))
theorem xv_De_sendInput_j2 {c i k : Nat} (hc : c = 19 ∧ k = 18) : ∀ (v : fw_V) (r : Nat) (k1 : Nat), (xf_De_sendInput_j2 v r k1) c i k = v c i k := by
  intro v r k1
  unfold xf_De_sendInput_j2
  (try dsimp only)
  all_goals ((repeat' split) <;> (first | with_reducible rfl | (simp only [xsend_c (c' := c) (by omega) (by omega) (by omega), xv_De_sendInput_j3 hc]; done)))
theorem xv_De_sendInput_j13 {c i k : Nat} (hc : c = 19 ∧ k = 18) : ∀ (v : fw_V) (r : Nat) (k1 : Nat) (x2 : Int32), (xf_De_sendInput_j13 v r k1 x2) c i k = v c i k := by
  intro v r k1 x2
  unfold xf_De_sendInput_j13
  (try dsimp only)
  all_goals ((repeat' split) <;> (first | with_reducible rfl | (simp only [xsend_c (c' := c) (by omega) (by omega) (by omega), xv_De_sendInput_j10 hc, xv_De_copySensed hc]; done)))
theorem xv_De_sendInput_j12 {c i k : Nat} (hc : c = 19 ∧ k = 18) : ∀ (v : fw_V) (r : Nat) (k1 : Nat) (x2 : Int32), (xf_De_sendInput_j12 v r k1 x2) c i k = v c i k := by
  intro v r k1 x2
  unfold xf_De_sendInput_j12
  (try dsimp only)
  all_goals ((repeat' split) <;> (first | with_reducible rfl | (simp only [xsend_c (c' := c) (by omega) (by omega) (by omega), xv_De_sendInput_j13 hc]; done)))
theorem xv_De_sendInput_j1 {c i k : Nat} (hc : c = 19 ∧ k = 18) : ∀ (v : fw_V) (r : Nat) (k1 : Nat), (xf_De_sendInput_j1 v r k1) c i k = v c i k := by
  intro v r k1
  unfold xf_De_sendInput_j1
  (try dsimp only)
  all_goals ((repeat' split) <;> (first | with_reducible rfl | (simp only [xsend_c (c' := c) (by omega) (by omega) (by omega), xv_De_sendInput_j2 hc, xv_De_copySensed hc, xv_De_sendInput_j12 hc]; done)))
theorem xv_De_sendInput {c i k : Nat} (hc : c = 19 ∧ k = 18) : ∀ (v0 : fw_V) (r : Nat), (xf_De_sendInput v0 r) c i k = v0 c i k := by
  intro v0 r
  unfold xf_De_sendInput
  (try dsimp only)
  all_goals ((repeat' split) <;> (first | with_reducible rfl | (simp only [xsend_c (c' := c) (by omega) (by omega) (by omega), xv_Cy_nextToSend hc, xv_De_sendInput_j1 hc]; done)))
theorem xv_De_readyAgain {c i k : Nat} (hc : c = 19 ∧ k = 18) : ∀ (v0 : fw_V) (r : Nat), (xf_De_readyAgain v0 r) c i k = v0 c i k := by
  intro v0 r
  unfold xf_De_readyAgain
  (try dsimp only)
  all_goals ((repeat' split) <;> (first | with_reducible rfl | (simp only [fw_up_ne (c := 19) (i := r) (k := 17) (c' := c) (i' := i) (k' := k) (by omega), fw_up_ne (c := 19) (i := r) (k := 16) (c' := c) (i' := i) (k' := k) (by omega), xsend_c (c' := c) (by omega) (by omega) (by omega), xv_De_abort hc]; done)))
theorem md0_28 {c i k : Nat} (hc : c ≠ 0 ∧ c ≠ 4 ∧ c ≠ 5 ∧ c ≠ 6 ∧ c ≠ 7 ∧ c ≠ 8 ∧ c ≠ 9 ∧ c ≠ 44) (hi : ¬ ((28 ≤ c ∧ c ≤ 39 ∧ k = 0) ∨ (c = 43 ∧ 0 ≤ k ∧ k < 3) ∨ (c = 46 ∧ 0 ≤ k ∧ k < 6) ∨ ((c = 47 ∨ c = 48) ∧ 0 ≤ k ∧ k < 4))) (v : fw_V) (x : Int32) : fw_up v 28 0 0 x c i k = v c i k := fw_up_ne (fun q => hi (by omega))
theorem md0_29 {c i k : Nat} (hc : c ≠ 0 ∧ c ≠ 4 ∧ c ≠ 5 ∧ c ≠ 6 ∧ c ≠ 7 ∧ c ≠ 8 ∧ c ≠ 9 ∧ c ≠ 44) (hi : ¬ ((28 ≤ c ∧ c ≤ 39 ∧ k = 0) ∨ (c = 43 ∧ 0 ≤ k ∧ k < 3) ∨ (c = 46 ∧ 0 ≤ k ∧ k < 6) ∨ ((c = 47 ∨ c = 48) ∧ 0 ≤ k ∧ k < 4))) (v : fw_V) (x : Int32) : fw_up v 29 0 0 x c i k = v c i k := fw_up_ne (fun q => hi (by omega))
theorem md0_31 {c i k : Nat} (hc : c ≠ 0 ∧ c ≠ 4 ∧ c ≠ 5 ∧ c ≠ 6 ∧ c ≠ 7 ∧ c ≠ 8 ∧ c ≠ 9 ∧ c ≠ 44) (hi : ¬ ((28 ≤ c ∧ c ≤ 39 ∧ k = 0) ∨ (c = 43 ∧ 0 ≤ k ∧ k < 3) ∨ (c = 46 ∧ 0 ≤ k ∧ k < 6) ∨ ((c = 47 ∨ c = 48) ∧ 0 ≤ k ∧ k < 4))) (v : fw_V) (x : Int32) : fw_up v 31 0 0 x c i k = v c i k := fw_up_ne (fun q => hi (by omega))
theorem md0_32 {c i k : Nat} (hc : c ≠ 0 ∧ c ≠ 4 ∧ c ≠ 5 ∧ c ≠ 6 ∧ c ≠ 7 ∧ c ≠ 8 ∧ c ≠ 9 ∧ c ≠ 44) (hi : ¬ ((28 ≤ c ∧ c ≤ 39 ∧ k = 0) ∨ (c = 43 ∧ 0 ≤ k ∧ k < 3) ∨ (c = 46 ∧ 0 ≤ k ∧ k < 6) ∨ ((c = 47 ∨ c = 48) ∧ 0 ≤ k ∧ k < 4))) (v : fw_V) (x : Int32) : fw_up v 32 0 0 x c i k = v c i k := fw_up_ne (fun q => hi (by omega))
theorem md0_33 {c i k : Nat} (hc : c ≠ 0 ∧ c ≠ 4 ∧ c ≠ 5 ∧ c ≠ 6 ∧ c ≠ 7 ∧ c ≠ 8 ∧ c ≠ 9 ∧ c ≠ 44) (hi : ¬ ((28 ≤ c ∧ c ≤ 39 ∧ k = 0) ∨ (c = 43 ∧ 0 ≤ k ∧ k < 3) ∨ (c = 46 ∧ 0 ≤ k ∧ k < 6) ∨ ((c = 47 ∨ c = 48) ∧ 0 ≤ k ∧ k < 4))) (v : fw_V) (x : Int32) : fw_up v 33 0 0 x c i k = v c i k := fw_up_ne (fun q => hi (by omega))
theorem md0_34 {c i k : Nat} (hc : c ≠ 0 ∧ c ≠ 4 ∧ c ≠ 5 ∧ c ≠ 6 ∧ c ≠ 7 ∧ c ≠ 8 ∧ c ≠ 9 ∧ c ≠ 44) (hi : ¬ ((28 ≤ c ∧ c ≤ 39 ∧ k = 0) ∨ (c = 43 ∧ 0 ≤ k ∧ k < 3) ∨ (c = 46 ∧ 0 ≤ k ∧ k < 6) ∨ ((c = 47 ∨ c = 48) ∧ 0 ≤ k ∧ k < 4))) (v : fw_V) (x : Int32) : fw_up v 34 0 0 x c i k = v c i k := fw_up_ne (fun q => hi (by omega))
theorem md0_35 {c i k : Nat} (hc : c ≠ 0 ∧ c ≠ 4 ∧ c ≠ 5 ∧ c ≠ 6 ∧ c ≠ 7 ∧ c ≠ 8 ∧ c ≠ 9 ∧ c ≠ 44) (hi : ¬ ((28 ≤ c ∧ c ≤ 39 ∧ k = 0) ∨ (c = 43 ∧ 0 ≤ k ∧ k < 3) ∨ (c = 46 ∧ 0 ≤ k ∧ k < 6) ∨ ((c = 47 ∨ c = 48) ∧ 0 ≤ k ∧ k < 4))) (v : fw_V) (x : Int32) : fw_up v 35 0 0 x c i k = v c i k := fw_up_ne (fun q => hi (by omega))
theorem md0_36 {c i k : Nat} (hc : c ≠ 0 ∧ c ≠ 4 ∧ c ≠ 5 ∧ c ≠ 6 ∧ c ≠ 7 ∧ c ≠ 8 ∧ c ≠ 9 ∧ c ≠ 44) (hi : ¬ ((28 ≤ c ∧ c ≤ 39 ∧ k = 0) ∨ (c = 43 ∧ 0 ≤ k ∧ k < 3) ∨ (c = 46 ∧ 0 ≤ k ∧ k < 6) ∨ ((c = 47 ∨ c = 48) ∧ 0 ≤ k ∧ k < 4))) (v : fw_V) (x : Int32) : fw_up v 36 0 0 x c i k = v c i k := fw_up_ne (fun q => hi (by omega))
theorem md0_37 {c i k : Nat} (hc : c ≠ 0 ∧ c ≠ 4 ∧ c ≠ 5 ∧ c ≠ 6 ∧ c ≠ 7 ∧ c ≠ 8 ∧ c ≠ 9 ∧ c ≠ 44) (hi : ¬ ((28 ≤ c ∧ c ≤ 39 ∧ k = 0) ∨ (c = 43 ∧ 0 ≤ k ∧ k < 3) ∨ (c = 46 ∧ 0 ≤ k ∧ k < 6) ∨ ((c = 47 ∨ c = 48) ∧ 0 ≤ k ∧ k < 4))) (v : fw_V) (x : Int32) : fw_up v 37 0 0 x c i k = v c i k := fw_up_ne (fun q => hi (by omega))
theorem md0_38 {c i k : Nat} (hc : c ≠ 0 ∧ c ≠ 4 ∧ c ≠ 5 ∧ c ≠ 6 ∧ c ≠ 7 ∧ c ≠ 8 ∧ c ≠ 9 ∧ c ≠ 44) (hi : ¬ ((28 ≤ c ∧ c ≤ 39 ∧ k = 0) ∨ (c = 43 ∧ 0 ≤ k ∧ k < 3) ∨ (c = 46 ∧ 0 ≤ k ∧ k < 6) ∨ ((c = 47 ∨ c = 48) ∧ 0 ≤ k ∧ k < 4))) (v : fw_V) (x : Int32) : fw_up v 38 0 0 x c i k = v c i k := fw_up_ne (fun q => hi (by omega))
theorem md0_39 {c i k : Nat} (hc : c ≠ 0 ∧ c ≠ 4 ∧ c ≠ 5 ∧ c ≠ 6 ∧ c ≠ 7 ∧ c ≠ 8 ∧ c ≠ 9 ∧ c ≠ 44) (hi : ¬ ((28 ≤ c ∧ c ≤ 39 ∧ k = 0) ∨ (c = 43 ∧ 0 ≤ k ∧ k < 3) ∨ (c = 46 ∧ 0 ≤ k ∧ k < 6) ∨ ((c = 47 ∨ c = 48) ∧ 0 ≤ k ∧ k < 4))) (v : fw_V) (x : Int32) : fw_up v 39 0 0 x c i k = v c i k := fw_up_ne (fun q => hi (by omega))
theorem md0_43_0 {c i k : Nat} (hc : c ≠ 0 ∧ c ≠ 4 ∧ c ≠ 5 ∧ c ≠ 6 ∧ c ≠ 7 ∧ c ≠ 8 ∧ c ≠ 9 ∧ c ≠ 44) (hi : ¬ ((28 ≤ c ∧ c ≤ 39 ∧ k = 0) ∨ (c = 43 ∧ 0 ≤ k ∧ k < 3) ∨ (c = 46 ∧ 0 ≤ k ∧ k < 6) ∨ ((c = 47 ∨ c = 48) ∧ 0 ≤ k ∧ k < 4))) (v : fw_V) (x : Int32) : fw_up v 43 0 0 x c i k = v c i k := fw_up_ne (fun q => hi (by omega))
theorem md0_43_1 {c i k : Nat} (hc : c ≠ 0 ∧ c ≠ 4 ∧ c ≠ 5 ∧ c ≠ 6 ∧ c ≠ 7 ∧ c ≠ 8 ∧ c ≠ 9 ∧ c ≠ 44) (hi : ¬ ((28 ≤ c ∧ c ≤ 39 ∧ k = 0) ∨ (c = 43 ∧ 0 ≤ k ∧ k < 3) ∨ (c = 46 ∧ 0 ≤ k ∧ k < 6) ∨ ((c = 47 ∨ c = 48) ∧ 0 ≤ k ∧ k < 4))) (v : fw_V) (x : Int32) : fw_up v 43 0 1 x c i k = v c i k := fw_up_ne (fun q => hi (by omega))
theorem md0_43_2 {c i k : Nat} (hc : c ≠ 0 ∧ c ≠ 4 ∧ c ≠ 5 ∧ c ≠ 6 ∧ c ≠ 7 ∧ c ≠ 8 ∧ c ≠ 9 ∧ c ≠ 44) (hi : ¬ ((28 ≤ c ∧ c ≤ 39 ∧ k = 0) ∨ (c = 43 ∧ 0 ≤ k ∧ k < 3) ∨ (c = 46 ∧ 0 ≤ k ∧ k < 6) ∨ ((c = 47 ∨ c = 48) ∧ 0 ≤ k ∧ k < 4))) (v : fw_V) (x : Int32) : fw_up v 43 0 2 x c i k = v c i k := fw_up_ne (fun q => hi (by omega))
theorem md0_47_0 {c i k : Nat} (hc : c ≠ 0 ∧ c ≠ 4 ∧ c ≠ 5 ∧ c ≠ 6 ∧ c ≠ 7 ∧ c ≠ 8 ∧ c ≠ 9 ∧ c ≠ 44) (hi : ¬ ((28 ≤ c ∧ c ≤ 39 ∧ k = 0) ∨ (c = 43 ∧ 0 ≤ k ∧ k < 3) ∨ (c = 46 ∧ 0 ≤ k ∧ k < 6) ∨ ((c = 47 ∨ c = 48) ∧ 0 ≤ k ∧ k < 4))) (v : fw_V) (x : Int32) : fw_up v 47 0 0 x c i k = v c i k := fw_up_ne (fun q => hi (by omega))
theorem md0_48_0 {c i k : Nat} (hc : c ≠ 0 ∧ c ≠ 4 ∧ c ≠ 5 ∧ c ≠ 6 ∧ c ≠ 7 ∧ c ≠ 8 ∧ c ≠ 9 ∧ c ≠ 44) (hi : ¬ ((28 ≤ c ∧ c ≤ 39 ∧ k = 0) ∨ (c = 43 ∧ 0 ≤ k ∧ k < 3) ∨ (c = 46 ∧ 0 ≤ k ∧ k < 6) ∨ ((c = 47 ∨ c = 48) ∧ 0 ≤ k ∧ k < 4))) (v : fw_V) (x : Int32) : fw_up v 48 0 0 x c i k = v c i k := fw_up_ne (fun q => hi (by omega))
theorem md0_47_1 {c i k : Nat} (hc : c ≠ 0 ∧ c ≠ 4 ∧ c ≠ 5 ∧ c ≠ 6 ∧ c ≠ 7 ∧ c ≠ 8 ∧ c ≠ 9 ∧ c ≠ 44) (hi : ¬ ((28 ≤ c ∧ c ≤ 39 ∧ k = 0) ∨ (c = 43 ∧ 0 ≤ k ∧ k < 3) ∨ (c = 46 ∧ 0 ≤ k ∧ k < 6) ∨ ((c = 47 ∨ c = 48) ∧ 0 ≤ k ∧ k < 4))) (v : fw_V) (x : Int32) : fw_up v 47 0 1 x c i k = v c i k := fw_up_ne (fun q => hi (by omega))
theorem md0_48_1 {c i k : Nat} (hc : c ≠ 0 ∧ c ≠ 4 ∧ c ≠ 5 ∧ c ≠ 6 ∧ c ≠ 7 ∧ c ≠ 8 ∧ c ≠ 9 ∧ c ≠ 44) (hi : ¬ ((28 ≤ c ∧ c ≤ 39 ∧ k = 0) ∨ (c = 43 ∧ 0 ≤ k ∧ k < 3) ∨ (c = 46 ∧ 0 ≤ k ∧ k < 6) ∨ ((c = 47 ∨ c = 48) ∧ 0 ≤ k ∧ k < 4))) (v : fw_V) (x : Int32) : fw_up v 48 0 1 x c i k = v c i k := fw_up_ne (fun q => hi (by omega))
theorem md0_47_2 {c i k : Nat} (hc : c ≠ 0 ∧ c ≠ 4 ∧ c ≠ 5 ∧ c ≠ 6 ∧ c ≠ 7 ∧ c ≠ 8 ∧ c ≠ 9 ∧ c ≠ 44) (hi : ¬ ((28 ≤ c ∧ c ≤ 39 ∧ k = 0) ∨ (c = 43 ∧ 0 ≤ k ∧ k < 3) ∨ (c = 46 ∧ 0 ≤ k ∧ k < 6) ∨ ((c = 47 ∨ c = 48) ∧ 0 ≤ k ∧ k < 4))) (v : fw_V) (x : Int32) : fw_up v 47 0 2 x c i k = v c i k := fw_up_ne (fun q => hi (by omega))
theorem md0_48_2 {c i k : Nat} (hc : c ≠ 0 ∧ c ≠ 4 ∧ c ≠ 5 ∧ c ≠ 6 ∧ c ≠ 7 ∧ c ≠ 8 ∧ c ≠ 9 ∧ c ≠ 44) (hi : ¬ ((28 ≤ c ∧ c ≤ 39 ∧ k = 0) ∨ (c = 43 ∧ 0 ≤ k ∧ k < 3) ∨ (c = 46 ∧ 0 ≤ k ∧ k < 6) ∨ ((c = 47 ∨ c = 48) ∧ 0 ≤ k ∧ k < 4))) (v : fw_V) (x : Int32) : fw_up v 48 0 2 x c i k = v c i k := fw_up_ne (fun q => hi (by omega))
theorem md0_47_3 {c i k : Nat} (hc : c ≠ 0 ∧ c ≠ 4 ∧ c ≠ 5 ∧ c ≠ 6 ∧ c ≠ 7 ∧ c ≠ 8 ∧ c ≠ 9 ∧ c ≠ 44) (hi : ¬ ((28 ≤ c ∧ c ≤ 39 ∧ k = 0) ∨ (c = 43 ∧ 0 ≤ k ∧ k < 3) ∨ (c = 46 ∧ 0 ≤ k ∧ k < 6) ∨ ((c = 47 ∨ c = 48) ∧ 0 ≤ k ∧ k < 4))) (v : fw_V) (x : Int32) : fw_up v 47 0 3 x c i k = v c i k := fw_up_ne (fun q => hi (by omega))
theorem md0_48_3 {c i k : Nat} (hc : c ≠ 0 ∧ c ≠ 4 ∧ c ≠ 5 ∧ c ≠ 6 ∧ c ≠ 7 ∧ c ≠ 8 ∧ c ≠ 9 ∧ c ≠ 44) (hi : ¬ ((28 ≤ c ∧ c ≤ 39 ∧ k = 0) ∨ (c = 43 ∧ 0 ≤ k ∧ k < 3) ∨ (c = 46 ∧ 0 ≤ k ∧ k < 6) ∨ ((c = 47 ∨ c = 48) ∧ 0 ≤ k ∧ k < 4))) (v : fw_V) (x : Int32) : fw_up v 48 0 3 x c i k = v c i k := fw_up_ne (fun q => hi (by omega))
theorem md0_46_0 {c i k : Nat} (hc : c ≠ 0 ∧ c ≠ 4 ∧ c ≠ 5 ∧ c ≠ 6 ∧ c ≠ 7 ∧ c ≠ 8 ∧ c ≠ 9 ∧ c ≠ 44) (hi : ¬ ((28 ≤ c ∧ c ≤ 39 ∧ k = 0) ∨ (c = 43 ∧ 0 ≤ k ∧ k < 3) ∨ (c = 46 ∧ 0 ≤ k ∧ k < 6) ∨ ((c = 47 ∨ c = 48) ∧ 0 ≤ k ∧ k < 4))) (v : fw_V) (x : Int32) : fw_up v 46 0 0 x c i k = v c i k := fw_up_ne (fun q => hi (by omega))
theorem md0_46_1 {c i k : Nat} (hc : c ≠ 0 ∧ c ≠ 4 ∧ c ≠ 5 ∧ c ≠ 6 ∧ c ≠ 7 ∧ c ≠ 8 ∧ c ≠ 9 ∧ c ≠ 44) (hi : ¬ ((28 ≤ c ∧ c ≤ 39 ∧ k = 0) ∨ (c = 43 ∧ 0 ≤ k ∧ k < 3) ∨ (c = 46 ∧ 0 ≤ k ∧ k < 6) ∨ ((c = 47 ∨ c = 48) ∧ 0 ≤ k ∧ k < 4))) (v : fw_V) (x : Int32) : fw_up v 46 0 1 x c i k = v c i k := fw_up_ne (fun q => hi (by omega))
theorem md0_46_2 {c i k : Nat} (hc : c ≠ 0 ∧ c ≠ 4 ∧ c ≠ 5 ∧ c ≠ 6 ∧ c ≠ 7 ∧ c ≠ 8 ∧ c ≠ 9 ∧ c ≠ 44) (hi : ¬ ((28 ≤ c ∧ c ≤ 39 ∧ k = 0) ∨ (c = 43 ∧ 0 ≤ k ∧ k < 3) ∨ (c = 46 ∧ 0 ≤ k ∧ k < 6) ∨ ((c = 47 ∨ c = 48) ∧ 0 ≤ k ∧ k < 4))) (v : fw_V) (x : Int32) : fw_up v 46 0 2 x c i k = v c i k := fw_up_ne (fun q => hi (by omega))
theorem md0_46_3 {c i k : Nat} (hc : c ≠ 0 ∧ c ≠ 4 ∧ c ≠ 5 ∧ c ≠ 6 ∧ c ≠ 7 ∧ c ≠ 8 ∧ c ≠ 9 ∧ c ≠ 44) (hi : ¬ ((28 ≤ c ∧ c ≤ 39 ∧ k = 0) ∨ (c = 43 ∧ 0 ≤ k ∧ k < 3) ∨ (c = 46 ∧ 0 ≤ k ∧ k < 6) ∨ ((c = 47 ∨ c = 48) ∧ 0 ≤ k ∧ k < 4))) (v : fw_V) (x : Int32) : fw_up v 46 0 3 x c i k = v c i k := fw_up_ne (fun q => hi (by omega))
theorem md0_46_4 {c i k : Nat} (hc : c ≠ 0 ∧ c ≠ 4 ∧ c ≠ 5 ∧ c ≠ 6 ∧ c ≠ 7 ∧ c ≠ 8 ∧ c ≠ 9 ∧ c ≠ 44) (hi : ¬ ((28 ≤ c ∧ c ≤ 39 ∧ k = 0) ∨ (c = 43 ∧ 0 ≤ k ∧ k < 3) ∨ (c = 46 ∧ 0 ≤ k ∧ k < 6) ∨ ((c = 47 ∨ c = 48) ∧ 0 ≤ k ∧ k < 4))) (v : fw_V) (x : Int32) : fw_up v 46 0 4 x c i k = v c i k := fw_up_ne (fun q => hi (by omega))
theorem md0_46_5 {c i k : Nat} (hc : c ≠ 0 ∧ c ≠ 4 ∧ c ≠ 5 ∧ c ≠ 6 ∧ c ≠ 7 ∧ c ≠ 8 ∧ c ≠ 9 ∧ c ≠ 44) (hi : ¬ ((28 ≤ c ∧ c ≤ 39 ∧ k = 0) ∨ (c = 43 ∧ 0 ≤ k ∧ k < 3) ∨ (c = 46 ∧ 0 ≤ k ∧ k < 6) ∨ ((c = 47 ∨ c = 48) ∧ 0 ≤ k ∧ k < 4))) (v : fw_V) (x : Int32) : fw_up v 46 0 5 x c i k = v c i k := fw_up_ne (fun q => hi (by omega))
theorem md0_0 {c i k : Nat} (hc : c ≠ 0 ∧ c ≠ 4 ∧ c ≠ 5 ∧ c ≠ 6 ∧ c ≠ 7 ∧ c ≠ 8 ∧ c ≠ 9 ∧ c ≠ 44) (hi : ¬ ((28 ≤ c ∧ c ≤ 39 ∧ k = 0) ∨ (c = 43 ∧ 0 ≤ k ∧ k < 3) ∨ (c = 46 ∧ 0 ≤ k ∧ k < 6) ∨ ((c = 47 ∨ c = 48) ∧ 0 ≤ k ∧ k < 4))) (v : fw_V) (y k0 : Nat) (x : Int32) : fw_up v 0 y k0 x c i k = v c i k := fw_up_c hc.1
theorem md0_9 {c i k : Nat} (hc : c ≠ 0 ∧ c ≠ 4 ∧ c ≠ 5 ∧ c ≠ 6 ∧ c ≠ 7 ∧ c ≠ 8 ∧ c ≠ 9 ∧ c ≠ 44) (hi : ¬ ((28 ≤ c ∧ c ≤ 39 ∧ k = 0) ∨ (c = 43 ∧ 0 ≤ k ∧ k < 3) ∨ (c = 46 ∧ 0 ≤ k ∧ k < 6) ∨ ((c = 47 ∨ c = 48) ∧ 0 ≤ k ∧ k < 4))) (v : fw_V) (y k0 : Nat) (x : Int32) : fw_up v 9 y k0 x c i k = v c i k := fw_up_c hc.2.2.2.2.2.2.1
theorem md0_44 {c i k : Nat} (hc : c ≠ 0 ∧ c ≠ 4 ∧ c ≠ 5 ∧ c ≠ 6 ∧ c ≠ 7 ∧ c ≠ 8 ∧ c ≠ 9 ∧ c ≠ 44) (hi : ¬ ((28 ≤ c ∧ c ≤ 39 ∧ k = 0) ∨ (c = 43 ∧ 0 ≤ k ∧ k < 3) ∨ (c = 46 ∧ 0 ≤ k ∧ k < 6) ∨ ((c = 47 ∨ c = 48) ∧ 0 ≤ k ∧ k < 4))) (v : fw_V) (y k0 : Nat) (x : Int32) : fw_up v 44 y k0 x c i k = v c i k := fw_up_c hc.2.2.2.2.2.2.2
theorem md0_send {c i k : Nat} (hc : c ≠ 0 ∧ c ≠ 4 ∧ c ≠ 5 ∧ c ≠ 6 ∧ c ≠ 7 ∧ c ≠ 8 ∧ c ≠ 9 ∧ c ≠ 44) (hi : ¬ ((28 ≤ c ∧ c ≤ 39 ∧ k = 0) ∨ (c = 43 ∧ 0 ≤ k ∧ k < 3) ∨ (c = 46 ∧ 0 ≤ k ∧ k < 6) ∨ ((c = 47 ∨ c = 48) ∧ 0 ≤ k ∧ k < 4))) (v : fw_V) (a b c' d : Int32) : mf_Mo_send v a b c' d c i k = v c i k := msend_c hc.1 hc.2.1 hc.2.2.1 hc.2.2.2.1 hc.2.2.2.2.1 hc.2.2.2.2.2.1 hc.2.2.2.2.2.2.1
theorem md0_rp0 {c i k : Nat} (hc : c ≠ 0 ∧ c ≠ 4 ∧ c ≠ 5 ∧ c ≠ 6 ∧ c ≠ 7 ∧ c ≠ 8 ∧ c ≠ 9 ∧ c ≠ 44) (hi : ¬ ((28 ≤ c ∧ c ≤ 39 ∧ k = 0) ∨ (c = 43 ∧ 0 ≤ k ∧ k < 3) ∨ (c = 46 ∧ 0 ≤ k ∧ k < 6) ∨ ((c = 47 ∨ c = 48) ∧ 0 ≤ k ∧ k < 4))) (v : fw_V) : mf_Mo_replace_0 v (0 : Int32) c i k = v c i k := rp_o_0 (s := 0) (by decide) (fun q => hi (by omega))
theorem md0_rp1 {c i k : Nat} (hc : c ≠ 0 ∧ c ≠ 4 ∧ c ≠ 5 ∧ c ≠ 6 ∧ c ≠ 7 ∧ c ≠ 8 ∧ c ≠ 9 ∧ c ≠ 44) (hi : ¬ ((28 ≤ c ∧ c ≤ 39 ∧ k = 0) ∨ (c = 43 ∧ 0 ≤ k ∧ k < 3) ∨ (c = 46 ∧ 0 ≤ k ∧ k < 6) ∨ ((c = 47 ∨ c = 48) ∧ 0 ≤ k ∧ k < 4))) (v : fw_V) : mf_Mo_replace_0 v (1 : Int32) c i k = v c i k := rp_o_0 (s := 1) (by decide) (fun q => hi (by omega))
theorem md0_rp2 {c i k : Nat} (hc : c ≠ 0 ∧ c ≠ 4 ∧ c ≠ 5 ∧ c ≠ 6 ∧ c ≠ 7 ∧ c ≠ 8 ∧ c ≠ 9 ∧ c ≠ 44) (hi : ¬ ((28 ≤ c ∧ c ≤ 39 ∧ k = 0) ∨ (c = 43 ∧ 0 ≤ k ∧ k < 3) ∨ (c = 46 ∧ 0 ≤ k ∧ k < 6) ∨ ((c = 47 ∨ c = 48) ∧ 0 ≤ k ∧ k < 4))) (v : fw_V) : mf_Mo_replace_0 v (2 : Int32) c i k = v c i k := rp_o_0 (s := 2) (by decide) (fun q => hi (by omega))
theorem md0_Mo_mark_0_j2 {c i k : Nat} (hc : c ≠ 0 ∧ c ≠ 4 ∧ c ≠ 5 ∧ c ≠ 6 ∧ c ≠ 7 ∧ c ≠ 8 ∧ c ≠ 9 ∧ c ≠ 44) (hi : ¬ ((28 ≤ c ∧ c ≤ 39 ∧ k = 0) ∨ (c = 43 ∧ 0 ≤ k ∧ k < 3) ∨ (c = 46 ∧ 0 ≤ k ∧ k < 6) ∨ ((c = 47 ∨ c = 48) ∧ 0 ≤ k ∧ k < 4))) : ∀ (v0 : fw_V) (a2 : Int32), mf_Mo_mark_0_j2 v0 a2 c i k = v0 c i k := by
  intro v0 a2
  unfold mf_Mo_mark_0_j2
  (try dsimp only)
  all_goals ((repeat' split) <;> (first | with_reducible rfl | (simp only [md0_28 hc hi, md0_29 hc hi, md0_31 hc hi, md0_32 hc hi, md0_33 hc hi, md0_34 hc hi, md0_35 hc hi, md0_36 hc hi, md0_37 hc hi, md0_38 hc hi, md0_39 hc hi, md0_43_0 hc hi, md0_43_1 hc hi, md0_43_2 hc hi, md0_47_0 hc hi, md0_48_0 hc hi, md0_47_1 hc hi, md0_48_1 hc hi, md0_47_2 hc hi, md0_48_2 hc hi, md0_47_3 hc hi, md0_48_3 hc hi, md0_46_0 hc hi, md0_46_1 hc hi, md0_46_2 hc hi, md0_46_3 hc hi, md0_46_4 hc hi, md0_46_5 hc hi, md0_0 hc hi, md0_9 hc hi, md0_44 hc hi, md0_send hc hi, md0_rp0 hc hi, md0_rp1 hc hi, md0_rp2 hc hi]; done)))
theorem md0_Mo_mark_0_j1 {c i k : Nat} (hc : c ≠ 0 ∧ c ≠ 4 ∧ c ≠ 5 ∧ c ≠ 6 ∧ c ≠ 7 ∧ c ≠ 8 ∧ c ≠ 9 ∧ c ≠ 44) (hi : ¬ ((28 ≤ c ∧ c ≤ 39 ∧ k = 0) ∨ (c = 43 ∧ 0 ≤ k ∧ k < 3) ∨ (c = 46 ∧ 0 ≤ k ∧ k < 6) ∨ ((c = 47 ∨ c = 48) ∧ 0 ≤ k ∧ k < 4))) : ∀ (v0 : fw_V) (a2 : Int32), mf_Mo_mark_0_j1 v0 a2 c i k = v0 c i k := by
  intro v0 a2
  unfold mf_Mo_mark_0_j1
  (try dsimp only)
  all_goals ((repeat' split) <;> (first | with_reducible rfl | (simp only [md0_28 hc hi, md0_29 hc hi, md0_31 hc hi, md0_32 hc hi, md0_33 hc hi, md0_34 hc hi, md0_35 hc hi, md0_36 hc hi, md0_37 hc hi, md0_38 hc hi, md0_39 hc hi, md0_43_0 hc hi, md0_43_1 hc hi, md0_43_2 hc hi, md0_47_0 hc hi, md0_48_0 hc hi, md0_47_1 hc hi, md0_48_1 hc hi, md0_47_2 hc hi, md0_48_2 hc hi, md0_47_3 hc hi, md0_48_3 hc hi, md0_46_0 hc hi, md0_46_1 hc hi, md0_46_2 hc hi, md0_46_3 hc hi, md0_46_4 hc hi, md0_46_5 hc hi, md0_0 hc hi, md0_9 hc hi, md0_44 hc hi, md0_send hc hi, md0_rp0 hc hi, md0_rp1 hc hi, md0_rp2 hc hi, md0_Mo_mark_0_j2 hc hi]; done)))
theorem md0_Mo_mark_0_j3 {c i k : Nat} (hc : c ≠ 0 ∧ c ≠ 4 ∧ c ≠ 5 ∧ c ≠ 6 ∧ c ≠ 7 ∧ c ≠ 8 ∧ c ≠ 9 ∧ c ≠ 44) (hi : ¬ ((28 ≤ c ∧ c ≤ 39 ∧ k = 0) ∨ (c = 43 ∧ 0 ≤ k ∧ k < 3) ∨ (c = 46 ∧ 0 ≤ k ∧ k < 6) ∨ ((c = 47 ∨ c = 48) ∧ 0 ≤ k ∧ k < 4))) : ∀ (v0 : fw_V) (a2 : Int32), mf_Mo_mark_0_j3 v0 a2 c i k = v0 c i k := by
  intro v0 a2
  unfold mf_Mo_mark_0_j3
  (try dsimp only)
  all_goals ((repeat' split) <;> (first | with_reducible rfl | (simp only [md0_28 hc hi, md0_29 hc hi, md0_31 hc hi, md0_32 hc hi, md0_33 hc hi, md0_34 hc hi, md0_35 hc hi, md0_36 hc hi, md0_37 hc hi, md0_38 hc hi, md0_39 hc hi, md0_43_0 hc hi, md0_43_1 hc hi, md0_43_2 hc hi, md0_47_0 hc hi, md0_48_0 hc hi, md0_47_1 hc hi, md0_48_1 hc hi, md0_47_2 hc hi, md0_48_2 hc hi, md0_47_3 hc hi, md0_48_3 hc hi, md0_46_0 hc hi, md0_46_1 hc hi, md0_46_2 hc hi, md0_46_3 hc hi, md0_46_4 hc hi, md0_46_5 hc hi, md0_0 hc hi, md0_9 hc hi, md0_44 hc hi, md0_send hc hi, md0_rp0 hc hi, md0_rp1 hc hi, md0_rp2 hc hi]; done)))
theorem md0_Mo_mark_0 {c i k : Nat} (hc : c ≠ 0 ∧ c ≠ 4 ∧ c ≠ 5 ∧ c ≠ 6 ∧ c ≠ 7 ∧ c ≠ 8 ∧ c ≠ 9 ∧ c ≠ 44) (hi : ¬ ((28 ≤ c ∧ c ≤ 39 ∧ k = 0) ∨ (c = 43 ∧ 0 ≤ k ∧ k < 3) ∨ (c = 46 ∧ 0 ≤ k ∧ k < 6) ∨ ((c = 47 ∨ c = 48) ∧ 0 ≤ k ∧ k < 4))) : ∀ (v0 : fw_V) (a2 : Int32), mf_Mo_mark_0 v0 a2 c i k = v0 c i k := by
  intro v0 a2
  unfold mf_Mo_mark_0
  (try dsimp only)
  all_goals ((repeat' split) <;> (first | with_reducible rfl | (simp only [md0_28 hc hi, md0_29 hc hi, md0_31 hc hi, md0_32 hc hi, md0_33 hc hi, md0_34 hc hi, md0_35 hc hi, md0_36 hc hi, md0_37 hc hi, md0_38 hc hi, md0_39 hc hi, md0_43_0 hc hi, md0_43_1 hc hi, md0_43_2 hc hi, md0_47_0 hc hi, md0_48_0 hc hi, md0_47_1 hc hi, md0_48_1 hc hi, md0_47_2 hc hi, md0_48_2 hc hi, md0_47_3 hc hi, md0_48_3 hc hi, md0_46_0 hc hi, md0_46_1 hc hi, md0_46_2 hc hi, md0_46_3 hc hi, md0_46_4 hc hi, md0_46_5 hc hi, md0_0 hc hi, md0_9 hc hi, md0_44 hc hi, md0_send hc hi, md0_rp0 hc hi, md0_rp1 hc hi, md0_rp2 hc hi, md0_Mo_mark_0_j1 hc hi, md0_Mo_mark_0_j3 hc hi]; done)))
theorem md0_Mo_reply_0 {c i k : Nat} (hc : c ≠ 0 ∧ c ≠ 4 ∧ c ≠ 5 ∧ c ≠ 6 ∧ c ≠ 7 ∧ c ≠ 8 ∧ c ≠ 9 ∧ c ≠ 44) (hi : ¬ ((28 ≤ c ∧ c ≤ 39 ∧ k = 0) ∨ (c = 43 ∧ 0 ≤ k ∧ k < 3) ∨ (c = 46 ∧ 0 ≤ k ∧ k < 6) ∨ ((c = 47 ∨ c = 48) ∧ 0 ≤ k ∧ k < 4))) : ∀ (v0 : fw_V) (a2 : Int32) (a3 : Int32), mf_Mo_reply_0 v0 a2 a3 c i k = v0 c i k := by
  intro v0 a2 a3
  unfold mf_Mo_reply_0
  (try dsimp only)
  all_goals ((repeat' split) <;> (first | with_reducible rfl | (simp only [md0_28 hc hi, md0_29 hc hi, md0_31 hc hi, md0_32 hc hi, md0_33 hc hi, md0_34 hc hi, md0_35 hc hi, md0_36 hc hi, md0_37 hc hi, md0_38 hc hi, md0_39 hc hi, md0_43_0 hc hi, md0_43_1 hc hi, md0_43_2 hc hi, md0_47_0 hc hi, md0_48_0 hc hi, md0_47_1 hc hi, md0_48_1 hc hi, md0_47_2 hc hi, md0_48_2 hc hi, md0_47_3 hc hi, md0_48_3 hc hi, md0_46_0 hc hi, md0_46_1 hc hi, md0_46_2 hc hi, md0_46_3 hc hi, md0_46_4 hc hi, md0_46_5 hc hi, md0_0 hc hi, md0_9 hc hi, md0_44 hc hi, md0_send hc hi, md0_rp0 hc hi, md0_rp1 hc hi, md0_rp2 hc hi, md0_send hc hi]; done)))
theorem md0_Mo_connect_0_j1 {c i k : Nat} (hc : c ≠ 0 ∧ c ≠ 4 ∧ c ≠ 5 ∧ c ≠ 6 ∧ c ≠ 7 ∧ c ≠ 8 ∧ c ≠ 9 ∧ c ≠ 44) (hi : ¬ ((28 ≤ c ∧ c ≤ 39 ∧ k = 0) ∨ (c = 43 ∧ 0 ≤ k ∧ k < 3) ∨ (c = 46 ∧ 0 ≤ k ∧ k < 6) ∨ ((c = 47 ∨ c = 48) ∧ 0 ≤ k ∧ k < 4))) : ∀ (v0 : fw_V) (a2 : Int32), mf_Mo_connect_0_j1 v0 a2 c i k = v0 c i k := by
  intro v0 a2
  unfold mf_Mo_connect_0_j1
  (try dsimp only)
  all_goals ((repeat' split) <;> (first | with_reducible rfl | (simp only [md0_28 hc hi, md0_29 hc hi, md0_31 hc hi, md0_32 hc hi, md0_33 hc hi, md0_34 hc hi, md0_35 hc hi, md0_36 hc hi, md0_37 hc hi, md0_38 hc hi, md0_39 hc hi, md0_43_0 hc hi, md0_43_1 hc hi, md0_43_2 hc hi, md0_47_0 hc hi, md0_48_0 hc hi, md0_47_1 hc hi, md0_48_1 hc hi, md0_47_2 hc hi, md0_48_2 hc hi, md0_47_3 hc hi, md0_48_3 hc hi, md0_46_0 hc hi, md0_46_1 hc hi, md0_46_2 hc hi, md0_46_3 hc hi, md0_46_4 hc hi, md0_46_5 hc hi, md0_0 hc hi, md0_9 hc hi, md0_44 hc hi, md0_send hc hi, md0_rp0 hc hi, md0_rp1 hc hi, md0_rp2 hc hi, md0_Mo_mark_0 hc hi, md0_Mo_reply_0 hc hi]; done)))
theorem md0_Mo_connect_0 {c i k : Nat} (hc : c ≠ 0 ∧ c ≠ 4 ∧ c ≠ 5 ∧ c ≠ 6 ∧ c ≠ 7 ∧ c ≠ 8 ∧ c ≠ 9 ∧ c ≠ 44) (hi : ¬ ((28 ≤ c ∧ c ≤ 39 ∧ k = 0) ∨ (c = 43 ∧ 0 ≤ k ∧ k < 3) ∨ (c = 46 ∧ 0 ≤ k ∧ k < 6) ∨ ((c = 47 ∨ c = 48) ∧ 0 ≤ k ∧ k < 4))) : ∀ (v0 : fw_V) (a2 : Int32), mf_Mo_connect_0 v0 a2 c i k = v0 c i k := by
  intro v0 a2
  unfold mf_Mo_connect_0
  (try dsimp only)
  all_goals ((repeat' split) <;> (first | with_reducible rfl | (simp only [md0_28 hc hi, md0_29 hc hi, md0_31 hc hi, md0_32 hc hi, md0_33 hc hi, md0_34 hc hi, md0_35 hc hi, md0_36 hc hi, md0_37 hc hi, md0_38 hc hi, md0_39 hc hi, md0_43_0 hc hi, md0_43_1 hc hi, md0_43_2 hc hi, md0_47_0 hc hi, md0_48_0 hc hi, md0_47_1 hc hi, md0_48_1 hc hi, md0_47_2 hc hi, md0_48_2 hc hi, md0_47_3 hc hi, md0_48_3 hc hi, md0_46_0 hc hi, md0_46_1 hc hi, md0_46_2 hc hi, md0_46_3 hc hi, md0_46_4 hc hi, md0_46_5 hc hi, md0_0 hc hi, md0_9 hc hi, md0_44 hc hi, md0_send hc hi, md0_rp0 hc hi, md0_rp1 hc hi, md0_rp2 hc hi, md0_Mo_connect_0_j1 hc hi, md0_send hc hi]; done)))
theorem md0_Mo_obeys_0_j44 {c i k : Nat} (hc : c ≠ 0 ∧ c ≠ 4 ∧ c ≠ 5 ∧ c ≠ 6 ∧ c ≠ 7 ∧ c ≠ 8 ∧ c ≠ 9 ∧ c ≠ 44) (hi : ¬ ((28 ≤ c ∧ c ≤ 39 ∧ k = 0) ∨ (c = 43 ∧ 0 ≤ k ∧ k < 3) ∨ (c = 46 ∧ 0 ≤ k ∧ k < 6) ∨ ((c = 47 ∨ c = 48) ∧ 0 ≤ k ∧ k < 4))) : ∀ (v0 : fw_V) (a2 : Int32) (a3 : Int32), mf_Mo_obeys_0_j44 v0 a2 a3 c i k = v0 c i k := by
  intro v0 a2 a3
  unfold mf_Mo_obeys_0_j44
  (try dsimp only)
  all_goals ((repeat' split) <;> (first | with_reducible rfl | (simp only [md0_28 hc hi, md0_29 hc hi, md0_31 hc hi, md0_32 hc hi, md0_33 hc hi, md0_34 hc hi, md0_35 hc hi, md0_36 hc hi, md0_37 hc hi, md0_38 hc hi, md0_39 hc hi, md0_43_0 hc hi, md0_43_1 hc hi, md0_43_2 hc hi, md0_47_0 hc hi, md0_48_0 hc hi, md0_47_1 hc hi, md0_48_1 hc hi, md0_47_2 hc hi, md0_48_2 hc hi, md0_47_3 hc hi, md0_48_3 hc hi, md0_46_0 hc hi, md0_46_1 hc hi, md0_46_2 hc hi, md0_46_3 hc hi, md0_46_4 hc hi, md0_46_5 hc hi, md0_0 hc hi, md0_9 hc hi, md0_44 hc hi, md0_send hc hi, md0_rp0 hc hi, md0_rp1 hc hi, md0_rp2 hc hi, md0_Mo_reply_0 hc hi]; done)))
theorem md0_Mo_obeys_0_j43 {c i k : Nat} (hc : c ≠ 0 ∧ c ≠ 4 ∧ c ≠ 5 ∧ c ≠ 6 ∧ c ≠ 7 ∧ c ≠ 8 ∧ c ≠ 9 ∧ c ≠ 44) (hi : ¬ ((28 ≤ c ∧ c ≤ 39 ∧ k = 0) ∨ (c = 43 ∧ 0 ≤ k ∧ k < 3) ∨ (c = 46 ∧ 0 ≤ k ∧ k < 6) ∨ ((c = 47 ∨ c = 48) ∧ 0 ≤ k ∧ k < 4))) : ∀ (v0 : fw_V) (a2 : Int32) (a3 : Int32), mf_Mo_obeys_0_j43 v0 a2 a3 c i k = v0 c i k := by
  intro v0 a2 a3
  unfold mf_Mo_obeys_0_j43
  (try dsimp only)
  all_goals ((repeat' split) <;> (first | with_reducible rfl | (simp only [md0_28 hc hi, md0_29 hc hi, md0_31 hc hi, md0_32 hc hi, md0_33 hc hi, md0_34 hc hi, md0_35 hc hi, md0_36 hc hi, md0_37 hc hi, md0_38 hc hi, md0_39 hc hi, md0_43_0 hc hi, md0_43_1 hc hi, md0_43_2 hc hi, md0_47_0 hc hi, md0_48_0 hc hi, md0_47_1 hc hi, md0_48_1 hc hi, md0_47_2 hc hi, md0_48_2 hc hi, md0_47_3 hc hi, md0_48_3 hc hi, md0_46_0 hc hi, md0_46_1 hc hi, md0_46_2 hc hi, md0_46_3 hc hi, md0_46_4 hc hi, md0_46_5 hc hi, md0_0 hc hi, md0_9 hc hi, md0_44 hc hi, md0_send hc hi, md0_rp0 hc hi, md0_rp1 hc hi, md0_rp2 hc hi, md0_Mo_obeys_0_j44 hc hi]; done)))
theorem md0_Mo_obeys_0_j42 {c i k : Nat} (hc : c ≠ 0 ∧ c ≠ 4 ∧ c ≠ 5 ∧ c ≠ 6 ∧ c ≠ 7 ∧ c ≠ 8 ∧ c ≠ 9 ∧ c ≠ 44) (hi : ¬ ((28 ≤ c ∧ c ≤ 39 ∧ k = 0) ∨ (c = 43 ∧ 0 ≤ k ∧ k < 3) ∨ (c = 46 ∧ 0 ≤ k ∧ k < 6) ∨ ((c = 47 ∨ c = 48) ∧ 0 ≤ k ∧ k < 4))) : ∀ (v0 : fw_V) (a2 : Int32) (a3 : Int32), mf_Mo_obeys_0_j42 v0 a2 a3 c i k = v0 c i k := by
  intro v0 a2 a3
  unfold mf_Mo_obeys_0_j42
  (try dsimp only)
  all_goals ((repeat' split) <;> (first | with_reducible rfl | (simp only [md0_28 hc hi, md0_29 hc hi, md0_31 hc hi, md0_32 hc hi, md0_33 hc hi, md0_34 hc hi, md0_35 hc hi, md0_36 hc hi, md0_37 hc hi, md0_38 hc hi, md0_39 hc hi, md0_43_0 hc hi, md0_43_1 hc hi, md0_43_2 hc hi, md0_47_0 hc hi, md0_48_0 hc hi, md0_47_1 hc hi, md0_48_1 hc hi, md0_47_2 hc hi, md0_48_2 hc hi, md0_47_3 hc hi, md0_48_3 hc hi, md0_46_0 hc hi, md0_46_1 hc hi, md0_46_2 hc hi, md0_46_3 hc hi, md0_46_4 hc hi, md0_46_5 hc hi, md0_0 hc hi, md0_9 hc hi, md0_44 hc hi, md0_send hc hi, md0_rp0 hc hi, md0_rp1 hc hi, md0_rp2 hc hi, md0_Mo_obeys_0_j43 hc hi]; done)))
theorem md0_Mo_rest_0_j7 {c i k : Nat} (hc : c ≠ 0 ∧ c ≠ 4 ∧ c ≠ 5 ∧ c ≠ 6 ∧ c ≠ 7 ∧ c ≠ 8 ∧ c ≠ 9 ∧ c ≠ 44) (hi : ¬ ((28 ≤ c ∧ c ≤ 39 ∧ k = 0) ∨ (c = 43 ∧ 0 ≤ k ∧ k < 3) ∨ (c = 46 ∧ 0 ≤ k ∧ k < 6) ∨ ((c = 47 ∨ c = 48) ∧ 0 ≤ k ∧ k < 4))) : ∀ (v : fw_V), mf_Mo_rest_0_j7 v c i k = v c i k := by
  intro v
  unfold mf_Mo_rest_0_j7
  (try dsimp only)
  all_goals ((repeat' split) <;> (first | with_reducible rfl | (simp only [md0_28 hc hi, md0_29 hc hi, md0_31 hc hi, md0_32 hc hi, md0_33 hc hi, md0_34 hc hi, md0_35 hc hi, md0_36 hc hi, md0_37 hc hi, md0_38 hc hi, md0_39 hc hi, md0_43_0 hc hi, md0_43_1 hc hi, md0_43_2 hc hi, md0_47_0 hc hi, md0_48_0 hc hi, md0_47_1 hc hi, md0_48_1 hc hi, md0_47_2 hc hi, md0_48_2 hc hi, md0_47_3 hc hi, md0_48_3 hc hi, md0_46_0 hc hi, md0_46_1 hc hi, md0_46_2 hc hi, md0_46_3 hc hi, md0_46_4 hc hi, md0_46_5 hc hi, md0_0 hc hi, md0_9 hc hi, md0_44 hc hi, md0_send hc hi, md0_rp0 hc hi, md0_rp1 hc hi, md0_rp2 hc hi]; done)))
theorem md0_Mo_rest_0_j6 {c i k : Nat} (hc : c ≠ 0 ∧ c ≠ 4 ∧ c ≠ 5 ∧ c ≠ 6 ∧ c ≠ 7 ∧ c ≠ 8 ∧ c ≠ 9 ∧ c ≠ 44) (hi : ¬ ((28 ≤ c ∧ c ≤ 39 ∧ k = 0) ∨ (c = 43 ∧ 0 ≤ k ∧ k < 3) ∨ (c = 46 ∧ 0 ≤ k ∧ k < 6) ∨ ((c = 47 ∨ c = 48) ∧ 0 ≤ k ∧ k < 4))) : ∀ (v : fw_V), mf_Mo_rest_0_j6 v c i k = v c i k := by
  intro v
  unfold mf_Mo_rest_0_j6
  (try dsimp only)
  all_goals ((repeat' split) <;> (first | with_reducible rfl | (simp only [md0_28 hc hi, md0_29 hc hi, md0_31 hc hi, md0_32 hc hi, md0_33 hc hi, md0_34 hc hi, md0_35 hc hi, md0_36 hc hi, md0_37 hc hi, md0_38 hc hi, md0_39 hc hi, md0_43_0 hc hi, md0_43_1 hc hi, md0_43_2 hc hi, md0_47_0 hc hi, md0_48_0 hc hi, md0_47_1 hc hi, md0_48_1 hc hi, md0_47_2 hc hi, md0_48_2 hc hi, md0_47_3 hc hi, md0_48_3 hc hi, md0_46_0 hc hi, md0_46_1 hc hi, md0_46_2 hc hi, md0_46_3 hc hi, md0_46_4 hc hi, md0_46_5 hc hi, md0_0 hc hi, md0_9 hc hi, md0_44 hc hi, md0_send hc hi, md0_rp0 hc hi, md0_rp1 hc hi, md0_rp2 hc hi, md0_rp0 hc hi, md0_Mo_rest_0_j7 hc hi]; done)))
theorem md0_Mo_rest_0_j5 {c i k : Nat} (hc : c ≠ 0 ∧ c ≠ 4 ∧ c ≠ 5 ∧ c ≠ 6 ∧ c ≠ 7 ∧ c ≠ 8 ∧ c ≠ 9 ∧ c ≠ 44) (hi : ¬ ((28 ≤ c ∧ c ≤ 39 ∧ k = 0) ∨ (c = 43 ∧ 0 ≤ k ∧ k < 3) ∨ (c = 46 ∧ 0 ≤ k ∧ k < 6) ∨ ((c = 47 ∨ c = 48) ∧ 0 ≤ k ∧ k < 4))) : ∀ (v : fw_V), mf_Mo_rest_0_j5 v c i k = v c i k := by
  intro v
  unfold mf_Mo_rest_0_j5
  (try dsimp only)
  all_goals ((repeat' split) <;> (first | with_reducible rfl | (simp only [md0_28 hc hi, md0_29 hc hi, md0_31 hc hi, md0_32 hc hi, md0_33 hc hi, md0_34 hc hi, md0_35 hc hi, md0_36 hc hi, md0_37 hc hi, md0_38 hc hi, md0_39 hc hi, md0_43_0 hc hi, md0_43_1 hc hi, md0_43_2 hc hi, md0_47_0 hc hi, md0_48_0 hc hi, md0_47_1 hc hi, md0_48_1 hc hi, md0_47_2 hc hi, md0_48_2 hc hi, md0_47_3 hc hi, md0_48_3 hc hi, md0_46_0 hc hi, md0_46_1 hc hi, md0_46_2 hc hi, md0_46_3 hc hi, md0_46_4 hc hi, md0_46_5 hc hi, md0_0 hc hi, md0_9 hc hi, md0_44 hc hi, md0_send hc hi, md0_rp0 hc hi, md0_rp1 hc hi, md0_rp2 hc hi, md0_rp0 hc hi, md0_Mo_rest_0_j6 hc hi]; done)))
theorem md0_Mo_rest_0_j4 {c i k : Nat} (hc : c ≠ 0 ∧ c ≠ 4 ∧ c ≠ 5 ∧ c ≠ 6 ∧ c ≠ 7 ∧ c ≠ 8 ∧ c ≠ 9 ∧ c ≠ 44) (hi : ¬ ((28 ≤ c ∧ c ≤ 39 ∧ k = 0) ∨ (c = 43 ∧ 0 ≤ k ∧ k < 3) ∨ (c = 46 ∧ 0 ≤ k ∧ k < 6) ∨ ((c = 47 ∨ c = 48) ∧ 0 ≤ k ∧ k < 4))) : ∀ (v : fw_V), mf_Mo_rest_0_j4 v c i k = v c i k := by
  intro v
  unfold mf_Mo_rest_0_j4
  (try dsimp only)
  all_goals ((repeat' split) <;> (first | with_reducible rfl | (simp only [md0_28 hc hi, md0_29 hc hi, md0_31 hc hi, md0_32 hc hi, md0_33 hc hi, md0_34 hc hi, md0_35 hc hi, md0_36 hc hi, md0_37 hc hi, md0_38 hc hi, md0_39 hc hi, md0_43_0 hc hi, md0_43_1 hc hi, md0_43_2 hc hi, md0_47_0 hc hi, md0_48_0 hc hi, md0_47_1 hc hi, md0_48_1 hc hi, md0_47_2 hc hi, md0_48_2 hc hi, md0_47_3 hc hi, md0_48_3 hc hi, md0_46_0 hc hi, md0_46_1 hc hi, md0_46_2 hc hi, md0_46_3 hc hi, md0_46_4 hc hi, md0_46_5 hc hi, md0_0 hc hi, md0_9 hc hi, md0_44 hc hi, md0_send hc hi, md0_rp0 hc hi, md0_rp1 hc hi, md0_rp2 hc hi, md0_rp0 hc hi, md0_Mo_rest_0_j5 hc hi]; done)))
theorem md0_Mo_rest_0_j3 {c i k : Nat} (hc : c ≠ 0 ∧ c ≠ 4 ∧ c ≠ 5 ∧ c ≠ 6 ∧ c ≠ 7 ∧ c ≠ 8 ∧ c ≠ 9 ∧ c ≠ 44) (hi : ¬ ((28 ≤ c ∧ c ≤ 39 ∧ k = 0) ∨ (c = 43 ∧ 0 ≤ k ∧ k < 3) ∨ (c = 46 ∧ 0 ≤ k ∧ k < 6) ∨ ((c = 47 ∨ c = 48) ∧ 0 ≤ k ∧ k < 4))) : ∀ (v0 : fw_V), mf_Mo_rest_0_j3 v0 c i k = v0 c i k := by
  intro v0
  unfold mf_Mo_rest_0_j3
  (try dsimp only)
  all_goals ((repeat' split) <;> (first | with_reducible rfl | (simp only [md0_28 hc hi, md0_29 hc hi, md0_31 hc hi, md0_32 hc hi, md0_33 hc hi, md0_34 hc hi, md0_35 hc hi, md0_36 hc hi, md0_37 hc hi, md0_38 hc hi, md0_39 hc hi, md0_43_0 hc hi, md0_43_1 hc hi, md0_43_2 hc hi, md0_47_0 hc hi, md0_48_0 hc hi, md0_47_1 hc hi, md0_48_1 hc hi, md0_47_2 hc hi, md0_48_2 hc hi, md0_47_3 hc hi, md0_48_3 hc hi, md0_46_0 hc hi, md0_46_1 hc hi, md0_46_2 hc hi, md0_46_3 hc hi, md0_46_4 hc hi, md0_46_5 hc hi, md0_0 hc hi, md0_9 hc hi, md0_44 hc hi, md0_send hc hi, md0_rp0 hc hi, md0_rp1 hc hi, md0_rp2 hc hi, md0_Mo_rest_0_j4 hc hi]; done)))
theorem md0_Mo_rest_0_j2 {c i k : Nat} (hc : c ≠ 0 ∧ c ≠ 4 ∧ c ≠ 5 ∧ c ≠ 6 ∧ c ≠ 7 ∧ c ≠ 8 ∧ c ≠ 9 ∧ c ≠ 44) (hi : ¬ ((28 ≤ c ∧ c ≤ 39 ∧ k = 0) ∨ (c = 43 ∧ 0 ≤ k ∧ k < 3) ∨ (c = 46 ∧ 0 ≤ k ∧ k < 6) ∨ ((c = 47 ∨ c = 48) ∧ 0 ≤ k ∧ k < 4))) : ∀ (v : fw_V), mf_Mo_rest_0_j2 v c i k = v c i k := by
  intro v
  unfold mf_Mo_rest_0_j2
  (try dsimp only)
  all_goals ((repeat' split) <;> (first | with_reducible rfl | (simp only [md0_28 hc hi, md0_29 hc hi, md0_31 hc hi, md0_32 hc hi, md0_33 hc hi, md0_34 hc hi, md0_35 hc hi, md0_36 hc hi, md0_37 hc hi, md0_38 hc hi, md0_39 hc hi, md0_43_0 hc hi, md0_43_1 hc hi, md0_43_2 hc hi, md0_47_0 hc hi, md0_48_0 hc hi, md0_47_1 hc hi, md0_48_1 hc hi, md0_47_2 hc hi, md0_48_2 hc hi, md0_47_3 hc hi, md0_48_3 hc hi, md0_46_0 hc hi, md0_46_1 hc hi, md0_46_2 hc hi, md0_46_3 hc hi, md0_46_4 hc hi, md0_46_5 hc hi, md0_0 hc hi, md0_9 hc hi, md0_44 hc hi, md0_send hc hi, md0_rp0 hc hi, md0_rp1 hc hi, md0_rp2 hc hi]; done)))
theorem md0_Mo_rest_0_j1 {c i k : Nat} (hc : c ≠ 0 ∧ c ≠ 4 ∧ c ≠ 5 ∧ c ≠ 6 ∧ c ≠ 7 ∧ c ≠ 8 ∧ c ≠ 9 ∧ c ≠ 44) (hi : ¬ ((28 ≤ c ∧ c ≤ 39 ∧ k = 0) ∨ (c = 43 ∧ 0 ≤ k ∧ k < 3) ∨ (c = 46 ∧ 0 ≤ k ∧ k < 6) ∨ ((c = 47 ∨ c = 48) ∧ 0 ≤ k ∧ k < 4))) : ∀ (v0 : fw_V), mf_Mo_rest_0_j1 v0 c i k = v0 c i k := by
  intro v0
  unfold mf_Mo_rest_0_j1
  (try dsimp only)
  all_goals ((repeat' split) <;> (first | with_reducible rfl | (simp only [md0_28 hc hi, md0_29 hc hi, md0_31 hc hi, md0_32 hc hi, md0_33 hc hi, md0_34 hc hi, md0_35 hc hi, md0_36 hc hi, md0_37 hc hi, md0_38 hc hi, md0_39 hc hi, md0_43_0 hc hi, md0_43_1 hc hi, md0_43_2 hc hi, md0_47_0 hc hi, md0_48_0 hc hi, md0_47_1 hc hi, md0_48_1 hc hi, md0_47_2 hc hi, md0_48_2 hc hi, md0_47_3 hc hi, md0_48_3 hc hi, md0_46_0 hc hi, md0_46_1 hc hi, md0_46_2 hc hi, md0_46_3 hc hi, md0_46_4 hc hi, md0_46_5 hc hi, md0_0 hc hi, md0_9 hc hi, md0_44 hc hi, md0_send hc hi, md0_rp0 hc hi, md0_rp1 hc hi, md0_rp2 hc hi, md0_Mo_rest_0_j2 hc hi]; done)))
theorem md0_Mo_rest_0 {c i k : Nat} (hc : c ≠ 0 ∧ c ≠ 4 ∧ c ≠ 5 ∧ c ≠ 6 ∧ c ≠ 7 ∧ c ≠ 8 ∧ c ≠ 9 ∧ c ≠ 44) (hi : ¬ ((28 ≤ c ∧ c ≤ 39 ∧ k = 0) ∨ (c = 43 ∧ 0 ≤ k ∧ k < 3) ∨ (c = 46 ∧ 0 ≤ k ∧ k < 6) ∨ ((c = 47 ∨ c = 48) ∧ 0 ≤ k ∧ k < 4))) : ∀ (v0 : fw_V), mf_Mo_rest_0 v0 c i k = v0 c i k := by
  intro v0
  unfold mf_Mo_rest_0
  (try dsimp only)
  all_goals ((repeat' split) <;> (first | with_reducible rfl | (simp only [md0_28 hc hi, md0_29 hc hi, md0_31 hc hi, md0_32 hc hi, md0_33 hc hi, md0_34 hc hi, md0_35 hc hi, md0_36 hc hi, md0_37 hc hi, md0_38 hc hi, md0_39 hc hi, md0_43_0 hc hi, md0_43_1 hc hi, md0_43_2 hc hi, md0_47_0 hc hi, md0_48_0 hc hi, md0_47_1 hc hi, md0_48_1 hc hi, md0_47_2 hc hi, md0_48_2 hc hi, md0_47_3 hc hi, md0_48_3 hc hi, md0_46_0 hc hi, md0_46_1 hc hi, md0_46_2 hc hi, md0_46_3 hc hi, md0_46_4 hc hi, md0_46_5 hc hi, md0_0 hc hi, md0_9 hc hi, md0_44 hc hi, md0_send hc hi, md0_rp0 hc hi, md0_rp1 hc hi, md0_rp2 hc hi, md0_Mo_rest_0_j3 hc hi, md0_Mo_rest_0_j1 hc hi]; done)))
theorem md0_Mo_quit_0 {c i k : Nat} (hc : c ≠ 0 ∧ c ≠ 4 ∧ c ≠ 5 ∧ c ≠ 6 ∧ c ≠ 7 ∧ c ≠ 8 ∧ c ≠ 9 ∧ c ≠ 44) (hi : ¬ ((28 ≤ c ∧ c ≤ 39 ∧ k = 0) ∨ (c = 43 ∧ 0 ≤ k ∧ k < 3) ∨ (c = 46 ∧ 0 ≤ k ∧ k < 6) ∨ ((c = 47 ∨ c = 48) ∧ 0 ≤ k ∧ k < 4))) : ∀ (v0 : fw_V), mf_Mo_quit_0 v0 c i k = v0 c i k := by
  intro v0
  unfold mf_Mo_quit_0
  (try dsimp only)
  all_goals ((repeat' split) <;> (first | with_reducible rfl | (simp only [md0_28 hc hi, md0_29 hc hi, md0_31 hc hi, md0_32 hc hi, md0_33 hc hi, md0_34 hc hi, md0_35 hc hi, md0_36 hc hi, md0_37 hc hi, md0_38 hc hi, md0_39 hc hi, md0_43_0 hc hi, md0_43_1 hc hi, md0_43_2 hc hi, md0_47_0 hc hi, md0_48_0 hc hi, md0_47_1 hc hi, md0_48_1 hc hi, md0_47_2 hc hi, md0_48_2 hc hi, md0_47_3 hc hi, md0_48_3 hc hi, md0_46_0 hc hi, md0_46_1 hc hi, md0_46_2 hc hi, md0_46_3 hc hi, md0_46_4 hc hi, md0_46_5 hc hi, md0_0 hc hi, md0_9 hc hi, md0_44 hc hi, md0_send hc hi, md0_rp0 hc hi, md0_rp1 hc hi, md0_rp2 hc hi, md0_Mo_reply_0 hc hi, md0_Mo_rest_0 hc hi]; done)))
theorem md0_Mo_obeys_0_j46 {c i k : Nat} (hc : c ≠ 0 ∧ c ≠ 4 ∧ c ≠ 5 ∧ c ≠ 6 ∧ c ≠ 7 ∧ c ≠ 8 ∧ c ≠ 9 ∧ c ≠ 44) (hi : ¬ ((28 ≤ c ∧ c ≤ 39 ∧ k = 0) ∨ (c = 43 ∧ 0 ≤ k ∧ k < 3) ∨ (c = 46 ∧ 0 ≤ k ∧ k < 6) ∨ ((c = 47 ∨ c = 48) ∧ 0 ≤ k ∧ k < 4))) : ∀ (v0 : fw_V) (a2 : Int32) (a3 : Int32), mf_Mo_obeys_0_j46 v0 a2 a3 c i k = v0 c i k := by
  intro v0 a2 a3
  unfold mf_Mo_obeys_0_j46
  (try dsimp only)
  all_goals ((repeat' split) <;> (first | with_reducible rfl | (simp only [md0_28 hc hi, md0_29 hc hi, md0_31 hc hi, md0_32 hc hi, md0_33 hc hi, md0_34 hc hi, md0_35 hc hi, md0_36 hc hi, md0_37 hc hi, md0_38 hc hi, md0_39 hc hi, md0_43_0 hc hi, md0_43_1 hc hi, md0_43_2 hc hi, md0_47_0 hc hi, md0_48_0 hc hi, md0_47_1 hc hi, md0_48_1 hc hi, md0_47_2 hc hi, md0_48_2 hc hi, md0_47_3 hc hi, md0_48_3 hc hi, md0_46_0 hc hi, md0_46_1 hc hi, md0_46_2 hc hi, md0_46_3 hc hi, md0_46_4 hc hi, md0_46_5 hc hi, md0_0 hc hi, md0_9 hc hi, md0_44 hc hi, md0_send hc hi, md0_rp0 hc hi, md0_rp1 hc hi, md0_rp2 hc hi, md0_Mo_quit_0 hc hi]; done)))
theorem md0_Mo_obeys_0_j45 {c i k : Nat} (hc : c ≠ 0 ∧ c ≠ 4 ∧ c ≠ 5 ∧ c ≠ 6 ∧ c ≠ 7 ∧ c ≠ 8 ∧ c ≠ 9 ∧ c ≠ 44) (hi : ¬ ((28 ≤ c ∧ c ≤ 39 ∧ k = 0) ∨ (c = 43 ∧ 0 ≤ k ∧ k < 3) ∨ (c = 46 ∧ 0 ≤ k ∧ k < 6) ∨ ((c = 47 ∨ c = 48) ∧ 0 ≤ k ∧ k < 4))) : ∀ (v0 : fw_V) (a2 : Int32) (a3 : Int32), mf_Mo_obeys_0_j45 v0 a2 a3 c i k = v0 c i k := by
  intro v0 a2 a3
  unfold mf_Mo_obeys_0_j45
  (try dsimp only)
  all_goals ((repeat' split) <;> (first | with_reducible rfl | (simp only [md0_28 hc hi, md0_29 hc hi, md0_31 hc hi, md0_32 hc hi, md0_33 hc hi, md0_34 hc hi, md0_35 hc hi, md0_36 hc hi, md0_37 hc hi, md0_38 hc hi, md0_39 hc hi, md0_43_0 hc hi, md0_43_1 hc hi, md0_43_2 hc hi, md0_47_0 hc hi, md0_48_0 hc hi, md0_47_1 hc hi, md0_48_1 hc hi, md0_47_2 hc hi, md0_48_2 hc hi, md0_47_3 hc hi, md0_48_3 hc hi, md0_46_0 hc hi, md0_46_1 hc hi, md0_46_2 hc hi, md0_46_3 hc hi, md0_46_4 hc hi, md0_46_5 hc hi, md0_0 hc hi, md0_9 hc hi, md0_44 hc hi, md0_send hc hi, md0_rp0 hc hi, md0_rp1 hc hi, md0_rp2 hc hi, md0_Mo_obeys_0_j46 hc hi]; done)))
theorem md0_Mo_obeys_0_j41 {c i k : Nat} (hc : c ≠ 0 ∧ c ≠ 4 ∧ c ≠ 5 ∧ c ≠ 6 ∧ c ≠ 7 ∧ c ≠ 8 ∧ c ≠ 9 ∧ c ≠ 44) (hi : ¬ ((28 ≤ c ∧ c ≤ 39 ∧ k = 0) ∨ (c = 43 ∧ 0 ≤ k ∧ k < 3) ∨ (c = 46 ∧ 0 ≤ k ∧ k < 6) ∨ ((c = 47 ∨ c = 48) ∧ 0 ≤ k ∧ k < 4))) : ∀ (v0 : fw_V) (a2 : Int32) (a3 : Int32), mf_Mo_obeys_0_j41 v0 a2 a3 c i k = v0 c i k := by
  intro v0 a2 a3
  unfold mf_Mo_obeys_0_j41
  (try dsimp only)
  all_goals ((repeat' split) <;> (first | with_reducible rfl | (simp only [md0_28 hc hi, md0_29 hc hi, md0_31 hc hi, md0_32 hc hi, md0_33 hc hi, md0_34 hc hi, md0_35 hc hi, md0_36 hc hi, md0_37 hc hi, md0_38 hc hi, md0_39 hc hi, md0_43_0 hc hi, md0_43_1 hc hi, md0_43_2 hc hi, md0_47_0 hc hi, md0_48_0 hc hi, md0_47_1 hc hi, md0_48_1 hc hi, md0_47_2 hc hi, md0_48_2 hc hi, md0_47_3 hc hi, md0_48_3 hc hi, md0_46_0 hc hi, md0_46_1 hc hi, md0_46_2 hc hi, md0_46_3 hc hi, md0_46_4 hc hi, md0_46_5 hc hi, md0_0 hc hi, md0_9 hc hi, md0_44 hc hi, md0_send hc hi, md0_rp0 hc hi, md0_rp1 hc hi, md0_rp2 hc hi, md0_Mo_obeys_0_j42 hc hi, md0_Mo_obeys_0_j45 hc hi]; done)))
theorem md0_Mo_obeys_0_j40 {c i k : Nat} (hc : c ≠ 0 ∧ c ≠ 4 ∧ c ≠ 5 ∧ c ≠ 6 ∧ c ≠ 7 ∧ c ≠ 8 ∧ c ≠ 9 ∧ c ≠ 44) (hi : ¬ ((28 ≤ c ∧ c ≤ 39 ∧ k = 0) ∨ (c = 43 ∧ 0 ≤ k ∧ k < 3) ∨ (c = 46 ∧ 0 ≤ k ∧ k < 6) ∨ ((c = 47 ∨ c = 48) ∧ 0 ≤ k ∧ k < 4))) : ∀ (v0 : fw_V) (a2 : Int32) (a3 : Int32), mf_Mo_obeys_0_j40 v0 a2 a3 c i k = v0 c i k := by
  intro v0 a2 a3
  unfold mf_Mo_obeys_0_j40
  (try dsimp only)
  all_goals ((repeat' split) <;> (first | with_reducible rfl | (simp only [md0_28 hc hi, md0_29 hc hi, md0_31 hc hi, md0_32 hc hi, md0_33 hc hi, md0_34 hc hi, md0_35 hc hi, md0_36 hc hi, md0_37 hc hi, md0_38 hc hi, md0_39 hc hi, md0_43_0 hc hi, md0_43_1 hc hi, md0_43_2 hc hi, md0_47_0 hc hi, md0_48_0 hc hi, md0_47_1 hc hi, md0_48_1 hc hi, md0_47_2 hc hi, md0_48_2 hc hi, md0_47_3 hc hi, md0_48_3 hc hi, md0_46_0 hc hi, md0_46_1 hc hi, md0_46_2 hc hi, md0_46_3 hc hi, md0_46_4 hc hi, md0_46_5 hc hi, md0_0 hc hi, md0_9 hc hi, md0_44 hc hi, md0_send hc hi, md0_rp0 hc hi, md0_rp1 hc hi, md0_rp2 hc hi, md0_Mo_obeys_0_j41 hc hi]; done)))
theorem md0_Mo_obeys_0_j39 {c i k : Nat} (hc : c ≠ 0 ∧ c ≠ 4 ∧ c ≠ 5 ∧ c ≠ 6 ∧ c ≠ 7 ∧ c ≠ 8 ∧ c ≠ 9 ∧ c ≠ 44) (hi : ¬ ((28 ≤ c ∧ c ≤ 39 ∧ k = 0) ∨ (c = 43 ∧ 0 ≤ k ∧ k < 3) ∨ (c = 46 ∧ 0 ≤ k ∧ k < 6) ∨ ((c = 47 ∨ c = 48) ∧ 0 ≤ k ∧ k < 4))) : ∀ (v0 : fw_V) (a2 : Int32) (a3 : Int32), mf_Mo_obeys_0_j39 v0 a2 a3 c i k = v0 c i k := by
  intro v0 a2 a3
  unfold mf_Mo_obeys_0_j39
  (try dsimp only)
  all_goals ((repeat' split) <;> (first | with_reducible rfl | (simp only [md0_28 hc hi, md0_29 hc hi, md0_31 hc hi, md0_32 hc hi, md0_33 hc hi, md0_34 hc hi, md0_35 hc hi, md0_36 hc hi, md0_37 hc hi, md0_38 hc hi, md0_39 hc hi, md0_43_0 hc hi, md0_43_1 hc hi, md0_43_2 hc hi, md0_47_0 hc hi, md0_48_0 hc hi, md0_47_1 hc hi, md0_48_1 hc hi, md0_47_2 hc hi, md0_48_2 hc hi, md0_47_3 hc hi, md0_48_3 hc hi, md0_46_0 hc hi, md0_46_1 hc hi, md0_46_2 hc hi, md0_46_3 hc hi, md0_46_4 hc hi, md0_46_5 hc hi, md0_0 hc hi, md0_9 hc hi, md0_44 hc hi, md0_send hc hi, md0_rp0 hc hi, md0_rp1 hc hi, md0_rp2 hc hi, md0_Mo_obeys_0_j40 hc hi]; done)))
theorem md0_Mo_obeys_0_j50 {c i k : Nat} (hc : c ≠ 0 ∧ c ≠ 4 ∧ c ≠ 5 ∧ c ≠ 6 ∧ c ≠ 7 ∧ c ≠ 8 ∧ c ≠ 9 ∧ c ≠ 44) (hi : ¬ ((28 ≤ c ∧ c ≤ 39 ∧ k = 0) ∨ (c = 43 ∧ 0 ≤ k ∧ k < 3) ∨ (c = 46 ∧ 0 ≤ k ∧ k < 6) ∨ ((c = 47 ∨ c = 48) ∧ 0 ≤ k ∧ k < 4))) : ∀ (v0 : fw_V) (a2 : Int32) (a3 : Int32), mf_Mo_obeys_0_j50 v0 a2 a3 c i k = v0 c i k := by
  intro v0 a2 a3
  unfold mf_Mo_obeys_0_j50
  (try dsimp only)
  all_goals ((repeat' split) <;> (first | with_reducible rfl | (simp only [md0_28 hc hi, md0_29 hc hi, md0_31 hc hi, md0_32 hc hi, md0_33 hc hi, md0_34 hc hi, md0_35 hc hi, md0_36 hc hi, md0_37 hc hi, md0_38 hc hi, md0_39 hc hi, md0_43_0 hc hi, md0_43_1 hc hi, md0_43_2 hc hi, md0_47_0 hc hi, md0_48_0 hc hi, md0_47_1 hc hi, md0_48_1 hc hi, md0_47_2 hc hi, md0_48_2 hc hi, md0_47_3 hc hi, md0_48_3 hc hi, md0_46_0 hc hi, md0_46_1 hc hi, md0_46_2 hc hi, md0_46_3 hc hi, md0_46_4 hc hi, md0_46_5 hc hi, md0_0 hc hi, md0_9 hc hi, md0_44 hc hi, md0_send hc hi, md0_rp0 hc hi, md0_rp1 hc hi, md0_rp2 hc hi, md0_Mo_obeys_0_j46 hc hi]; done)))
theorem md0_Mo_obeys_0_j49 {c i k : Nat} (hc : c ≠ 0 ∧ c ≠ 4 ∧ c ≠ 5 ∧ c ≠ 6 ∧ c ≠ 7 ∧ c ≠ 8 ∧ c ≠ 9 ∧ c ≠ 44) (hi : ¬ ((28 ≤ c ∧ c ≤ 39 ∧ k = 0) ∨ (c = 43 ∧ 0 ≤ k ∧ k < 3) ∨ (c = 46 ∧ 0 ≤ k ∧ k < 6) ∨ ((c = 47 ∨ c = 48) ∧ 0 ≤ k ∧ k < 4))) : ∀ (v0 : fw_V) (a2 : Int32) (a3 : Int32), mf_Mo_obeys_0_j49 v0 a2 a3 c i k = v0 c i k := by
  intro v0 a2 a3
  unfold mf_Mo_obeys_0_j49
  (try dsimp only)
  all_goals ((repeat' split) <;> (first | with_reducible rfl | (simp only [md0_28 hc hi, md0_29 hc hi, md0_31 hc hi, md0_32 hc hi, md0_33 hc hi, md0_34 hc hi, md0_35 hc hi, md0_36 hc hi, md0_37 hc hi, md0_38 hc hi, md0_39 hc hi, md0_43_0 hc hi, md0_43_1 hc hi, md0_43_2 hc hi, md0_47_0 hc hi, md0_48_0 hc hi, md0_47_1 hc hi, md0_48_1 hc hi, md0_47_2 hc hi, md0_48_2 hc hi, md0_47_3 hc hi, md0_48_3 hc hi, md0_46_0 hc hi, md0_46_1 hc hi, md0_46_2 hc hi, md0_46_3 hc hi, md0_46_4 hc hi, md0_46_5 hc hi, md0_0 hc hi, md0_9 hc hi, md0_44 hc hi, md0_send hc hi, md0_rp0 hc hi, md0_rp1 hc hi, md0_rp2 hc hi, md0_Mo_obeys_0_j50 hc hi]; done)))
theorem md0_Mo_obeys_0_j51 {c i k : Nat} (hc : c ≠ 0 ∧ c ≠ 4 ∧ c ≠ 5 ∧ c ≠ 6 ∧ c ≠ 7 ∧ c ≠ 8 ∧ c ≠ 9 ∧ c ≠ 44) (hi : ¬ ((28 ≤ c ∧ c ≤ 39 ∧ k = 0) ∨ (c = 43 ∧ 0 ≤ k ∧ k < 3) ∨ (c = 46 ∧ 0 ≤ k ∧ k < 6) ∨ ((c = 47 ∨ c = 48) ∧ 0 ≤ k ∧ k < 4))) : ∀ (v0 : fw_V) (a2 : Int32) (a3 : Int32), mf_Mo_obeys_0_j51 v0 a2 a3 c i k = v0 c i k := by
  intro v0 a2 a3
  unfold mf_Mo_obeys_0_j51
  (try dsimp only)
  all_goals ((repeat' split) <;> (first | with_reducible rfl | (simp only [md0_28 hc hi, md0_29 hc hi, md0_31 hc hi, md0_32 hc hi, md0_33 hc hi, md0_34 hc hi, md0_35 hc hi, md0_36 hc hi, md0_37 hc hi, md0_38 hc hi, md0_39 hc hi, md0_43_0 hc hi, md0_43_1 hc hi, md0_43_2 hc hi, md0_47_0 hc hi, md0_48_0 hc hi, md0_47_1 hc hi, md0_48_1 hc hi, md0_47_2 hc hi, md0_48_2 hc hi, md0_47_3 hc hi, md0_48_3 hc hi, md0_46_0 hc hi, md0_46_1 hc hi, md0_46_2 hc hi, md0_46_3 hc hi, md0_46_4 hc hi, md0_46_5 hc hi, md0_0 hc hi, md0_9 hc hi, md0_44 hc hi, md0_send hc hi, md0_rp0 hc hi, md0_rp1 hc hi, md0_rp2 hc hi, md0_Mo_obeys_0_j46 hc hi]; done)))
theorem md0_Mo_obeys_0_j48 {c i k : Nat} (hc : c ≠ 0 ∧ c ≠ 4 ∧ c ≠ 5 ∧ c ≠ 6 ∧ c ≠ 7 ∧ c ≠ 8 ∧ c ≠ 9 ∧ c ≠ 44) (hi : ¬ ((28 ≤ c ∧ c ≤ 39 ∧ k = 0) ∨ (c = 43 ∧ 0 ≤ k ∧ k < 3) ∨ (c = 46 ∧ 0 ≤ k ∧ k < 6) ∨ ((c = 47 ∨ c = 48) ∧ 0 ≤ k ∧ k < 4))) : ∀ (v0 : fw_V) (a2 : Int32) (a3 : Int32), mf_Mo_obeys_0_j48 v0 a2 a3 c i k = v0 c i k := by
  intro v0 a2 a3
  unfold mf_Mo_obeys_0_j48
  (try dsimp only)
  all_goals ((repeat' split) <;> (first | with_reducible rfl | (simp only [md0_28 hc hi, md0_29 hc hi, md0_31 hc hi, md0_32 hc hi, md0_33 hc hi, md0_34 hc hi, md0_35 hc hi, md0_36 hc hi, md0_37 hc hi, md0_38 hc hi, md0_39 hc hi, md0_43_0 hc hi, md0_43_1 hc hi, md0_43_2 hc hi, md0_47_0 hc hi, md0_48_0 hc hi, md0_47_1 hc hi, md0_48_1 hc hi, md0_47_2 hc hi, md0_48_2 hc hi, md0_47_3 hc hi, md0_48_3 hc hi, md0_46_0 hc hi, md0_46_1 hc hi, md0_46_2 hc hi, md0_46_3 hc hi, md0_46_4 hc hi, md0_46_5 hc hi, md0_0 hc hi, md0_9 hc hi, md0_44 hc hi, md0_send hc hi, md0_rp0 hc hi, md0_rp1 hc hi, md0_rp2 hc hi, md0_Mo_obeys_0_j49 hc hi, md0_Mo_obeys_0_j51 hc hi]; done)))
theorem md0_Mo_obeys_0_j47 {c i k : Nat} (hc : c ≠ 0 ∧ c ≠ 4 ∧ c ≠ 5 ∧ c ≠ 6 ∧ c ≠ 7 ∧ c ≠ 8 ∧ c ≠ 9 ∧ c ≠ 44) (hi : ¬ ((28 ≤ c ∧ c ≤ 39 ∧ k = 0) ∨ (c = 43 ∧ 0 ≤ k ∧ k < 3) ∨ (c = 46 ∧ 0 ≤ k ∧ k < 6) ∨ ((c = 47 ∨ c = 48) ∧ 0 ≤ k ∧ k < 4))) : ∀ (v0 : fw_V) (a2 : Int32) (a3 : Int32), mf_Mo_obeys_0_j47 v0 a2 a3 c i k = v0 c i k := by
  intro v0 a2 a3
  unfold mf_Mo_obeys_0_j47
  (try dsimp only)
  all_goals ((repeat' split) <;> (first | with_reducible rfl | (simp only [md0_28 hc hi, md0_29 hc hi, md0_31 hc hi, md0_32 hc hi, md0_33 hc hi, md0_34 hc hi, md0_35 hc hi, md0_36 hc hi, md0_37 hc hi, md0_38 hc hi, md0_39 hc hi, md0_43_0 hc hi, md0_43_1 hc hi, md0_43_2 hc hi, md0_47_0 hc hi, md0_48_0 hc hi, md0_47_1 hc hi, md0_48_1 hc hi, md0_47_2 hc hi, md0_48_2 hc hi, md0_47_3 hc hi, md0_48_3 hc hi, md0_46_0 hc hi, md0_46_1 hc hi, md0_46_2 hc hi, md0_46_3 hc hi, md0_46_4 hc hi, md0_46_5 hc hi, md0_0 hc hi, md0_9 hc hi, md0_44 hc hi, md0_send hc hi, md0_rp0 hc hi, md0_rp1 hc hi, md0_rp2 hc hi, md0_Mo_obeys_0_j48 hc hi]; done)))
theorem md0_Mo_obeys_0_j38 {c i k : Nat} (hc : c ≠ 0 ∧ c ≠ 4 ∧ c ≠ 5 ∧ c ≠ 6 ∧ c ≠ 7 ∧ c ≠ 8 ∧ c ≠ 9 ∧ c ≠ 44) (hi : ¬ ((28 ≤ c ∧ c ≤ 39 ∧ k = 0) ∨ (c = 43 ∧ 0 ≤ k ∧ k < 3) ∨ (c = 46 ∧ 0 ≤ k ∧ k < 6) ∨ ((c = 47 ∨ c = 48) ∧ 0 ≤ k ∧ k < 4))) : ∀ (v0 : fw_V) (a2 : Int32) (a3 : Int32), mf_Mo_obeys_0_j38 v0 a2 a3 c i k = v0 c i k := by
  intro v0 a2 a3
  unfold mf_Mo_obeys_0_j38
  (try dsimp only)
  all_goals ((repeat' split) <;> (first | with_reducible rfl | (simp only [md0_28 hc hi, md0_29 hc hi, md0_31 hc hi, md0_32 hc hi, md0_33 hc hi, md0_34 hc hi, md0_35 hc hi, md0_36 hc hi, md0_37 hc hi, md0_38 hc hi, md0_39 hc hi, md0_43_0 hc hi, md0_43_1 hc hi, md0_43_2 hc hi, md0_47_0 hc hi, md0_48_0 hc hi, md0_47_1 hc hi, md0_48_1 hc hi, md0_47_2 hc hi, md0_48_2 hc hi, md0_47_3 hc hi, md0_48_3 hc hi, md0_46_0 hc hi, md0_46_1 hc hi, md0_46_2 hc hi, md0_46_3 hc hi, md0_46_4 hc hi, md0_46_5 hc hi, md0_0 hc hi, md0_9 hc hi, md0_44 hc hi, md0_send hc hi, md0_rp0 hc hi, md0_rp1 hc hi, md0_rp2 hc hi, md0_Mo_obeys_0_j39 hc hi, md0_Mo_obeys_0_j47 hc hi]; done)))
theorem md0_Mo_obeys_0_j37 {c i k : Nat} (hc : c ≠ 0 ∧ c ≠ 4 ∧ c ≠ 5 ∧ c ≠ 6 ∧ c ≠ 7 ∧ c ≠ 8 ∧ c ≠ 9 ∧ c ≠ 44) (hi : ¬ ((28 ≤ c ∧ c ≤ 39 ∧ k = 0) ∨ (c = 43 ∧ 0 ≤ k ∧ k < 3) ∨ (c = 46 ∧ 0 ≤ k ∧ k < 6) ∨ ((c = 47 ∨ c = 48) ∧ 0 ≤ k ∧ k < 4))) : ∀ (v0 : fw_V) (a2 : Int32) (a3 : Int32), mf_Mo_obeys_0_j37 v0 a2 a3 c i k = v0 c i k := by
  intro v0 a2 a3
  unfold mf_Mo_obeys_0_j37
  (try dsimp only)
  all_goals ((repeat' split) <;> (first | with_reducible rfl | (simp only [md0_28 hc hi, md0_29 hc hi, md0_31 hc hi, md0_32 hc hi, md0_33 hc hi, md0_34 hc hi, md0_35 hc hi, md0_36 hc hi, md0_37 hc hi, md0_38 hc hi, md0_39 hc hi, md0_43_0 hc hi, md0_43_1 hc hi, md0_43_2 hc hi, md0_47_0 hc hi, md0_48_0 hc hi, md0_47_1 hc hi, md0_48_1 hc hi, md0_47_2 hc hi, md0_48_2 hc hi, md0_47_3 hc hi, md0_48_3 hc hi, md0_46_0 hc hi, md0_46_1 hc hi, md0_46_2 hc hi, md0_46_3 hc hi, md0_46_4 hc hi, md0_46_5 hc hi, md0_0 hc hi, md0_9 hc hi, md0_44 hc hi, md0_send hc hi, md0_rp0 hc hi, md0_rp1 hc hi, md0_rp2 hc hi, md0_Mo_obeys_0_j38 hc hi]; done)))
theorem md0_Mo_obeys_0_j36 {c i k : Nat} (hc : c ≠ 0 ∧ c ≠ 4 ∧ c ≠ 5 ∧ c ≠ 6 ∧ c ≠ 7 ∧ c ≠ 8 ∧ c ≠ 9 ∧ c ≠ 44) (hi : ¬ ((28 ≤ c ∧ c ≤ 39 ∧ k = 0) ∨ (c = 43 ∧ 0 ≤ k ∧ k < 3) ∨ (c = 46 ∧ 0 ≤ k ∧ k < 6) ∨ ((c = 47 ∨ c = 48) ∧ 0 ≤ k ∧ k < 4))) : ∀ (v0 : fw_V) (a2 : Int32) (a3 : Int32), mf_Mo_obeys_0_j36 v0 a2 a3 c i k = v0 c i k := by
  intro v0 a2 a3
  unfold mf_Mo_obeys_0_j36
  (try dsimp only)
  all_goals ((repeat' split) <;> (first | with_reducible rfl | (simp only [md0_28 hc hi, md0_29 hc hi, md0_31 hc hi, md0_32 hc hi, md0_33 hc hi, md0_34 hc hi, md0_35 hc hi, md0_36 hc hi, md0_37 hc hi, md0_38 hc hi, md0_39 hc hi, md0_43_0 hc hi, md0_43_1 hc hi, md0_43_2 hc hi, md0_47_0 hc hi, md0_48_0 hc hi, md0_47_1 hc hi, md0_48_1 hc hi, md0_47_2 hc hi, md0_48_2 hc hi, md0_47_3 hc hi, md0_48_3 hc hi, md0_46_0 hc hi, md0_46_1 hc hi, md0_46_2 hc hi, md0_46_3 hc hi, md0_46_4 hc hi, md0_46_5 hc hi, md0_0 hc hi, md0_9 hc hi, md0_44 hc hi, md0_send hc hi, md0_rp0 hc hi, md0_rp1 hc hi, md0_rp2 hc hi, md0_Mo_obeys_0_j37 hc hi]; done)))
theorem md0_Mo_obeys_0_j55 {c i k : Nat} (hc : c ≠ 0 ∧ c ≠ 4 ∧ c ≠ 5 ∧ c ≠ 6 ∧ c ≠ 7 ∧ c ≠ 8 ∧ c ≠ 9 ∧ c ≠ 44) (hi : ¬ ((28 ≤ c ∧ c ≤ 39 ∧ k = 0) ∨ (c = 43 ∧ 0 ≤ k ∧ k < 3) ∨ (c = 46 ∧ 0 ≤ k ∧ k < 6) ∨ ((c = 47 ∨ c = 48) ∧ 0 ≤ k ∧ k < 4))) : ∀ (v0 : fw_V) (a2 : Int32) (a3 : Int32), mf_Mo_obeys_0_j55 v0 a2 a3 c i k = v0 c i k := by
  intro v0 a2 a3
  unfold mf_Mo_obeys_0_j55
  (try dsimp only)
  all_goals ((repeat' split) <;> (first | with_reducible rfl | (simp only [md0_28 hc hi, md0_29 hc hi, md0_31 hc hi, md0_32 hc hi, md0_33 hc hi, md0_34 hc hi, md0_35 hc hi, md0_36 hc hi, md0_37 hc hi, md0_38 hc hi, md0_39 hc hi, md0_43_0 hc hi, md0_43_1 hc hi, md0_43_2 hc hi, md0_47_0 hc hi, md0_48_0 hc hi, md0_47_1 hc hi, md0_48_1 hc hi, md0_47_2 hc hi, md0_48_2 hc hi, md0_47_3 hc hi, md0_48_3 hc hi, md0_46_0 hc hi, md0_46_1 hc hi, md0_46_2 hc hi, md0_46_3 hc hi, md0_46_4 hc hi, md0_46_5 hc hi, md0_0 hc hi, md0_9 hc hi, md0_44 hc hi, md0_send hc hi, md0_rp0 hc hi, md0_rp1 hc hi, md0_rp2 hc hi, md0_Mo_obeys_0_j48 hc hi]; done)))
theorem md0_Mo_obeys_0_j54 {c i k : Nat} (hc : c ≠ 0 ∧ c ≠ 4 ∧ c ≠ 5 ∧ c ≠ 6 ∧ c ≠ 7 ∧ c ≠ 8 ∧ c ≠ 9 ∧ c ≠ 44) (hi : ¬ ((28 ≤ c ∧ c ≤ 39 ∧ k = 0) ∨ (c = 43 ∧ 0 ≤ k ∧ k < 3) ∨ (c = 46 ∧ 0 ≤ k ∧ k < 6) ∨ ((c = 47 ∨ c = 48) ∧ 0 ≤ k ∧ k < 4))) : ∀ (v0 : fw_V) (a2 : Int32) (a3 : Int32), mf_Mo_obeys_0_j54 v0 a2 a3 c i k = v0 c i k := by
  intro v0 a2 a3
  unfold mf_Mo_obeys_0_j54
  (try dsimp only)
  all_goals ((repeat' split) <;> (first | with_reducible rfl | (simp only [md0_28 hc hi, md0_29 hc hi, md0_31 hc hi, md0_32 hc hi, md0_33 hc hi, md0_34 hc hi, md0_35 hc hi, md0_36 hc hi, md0_37 hc hi, md0_38 hc hi, md0_39 hc hi, md0_43_0 hc hi, md0_43_1 hc hi, md0_43_2 hc hi, md0_47_0 hc hi, md0_48_0 hc hi, md0_47_1 hc hi, md0_48_1 hc hi, md0_47_2 hc hi, md0_48_2 hc hi, md0_47_3 hc hi, md0_48_3 hc hi, md0_46_0 hc hi, md0_46_1 hc hi, md0_46_2 hc hi, md0_46_3 hc hi, md0_46_4 hc hi, md0_46_5 hc hi, md0_0 hc hi, md0_9 hc hi, md0_44 hc hi, md0_send hc hi, md0_rp0 hc hi, md0_rp1 hc hi, md0_rp2 hc hi, md0_Mo_obeys_0_j55 hc hi]; done)))
theorem md0_Mo_obeys_0_j56 {c i k : Nat} (hc : c ≠ 0 ∧ c ≠ 4 ∧ c ≠ 5 ∧ c ≠ 6 ∧ c ≠ 7 ∧ c ≠ 8 ∧ c ≠ 9 ∧ c ≠ 44) (hi : ¬ ((28 ≤ c ∧ c ≤ 39 ∧ k = 0) ∨ (c = 43 ∧ 0 ≤ k ∧ k < 3) ∨ (c = 46 ∧ 0 ≤ k ∧ k < 6) ∨ ((c = 47 ∨ c = 48) ∧ 0 ≤ k ∧ k < 4))) : ∀ (v0 : fw_V) (a2 : Int32) (a3 : Int32), mf_Mo_obeys_0_j56 v0 a2 a3 c i k = v0 c i k := by
  intro v0 a2 a3
  unfold mf_Mo_obeys_0_j56
  (try dsimp only)
  all_goals ((repeat' split) <;> (first | with_reducible rfl | (simp only [md0_28 hc hi, md0_29 hc hi, md0_31 hc hi, md0_32 hc hi, md0_33 hc hi, md0_34 hc hi, md0_35 hc hi, md0_36 hc hi, md0_37 hc hi, md0_38 hc hi, md0_39 hc hi, md0_43_0 hc hi, md0_43_1 hc hi, md0_43_2 hc hi, md0_47_0 hc hi, md0_48_0 hc hi, md0_47_1 hc hi, md0_48_1 hc hi, md0_47_2 hc hi, md0_48_2 hc hi, md0_47_3 hc hi, md0_48_3 hc hi, md0_46_0 hc hi, md0_46_1 hc hi, md0_46_2 hc hi, md0_46_3 hc hi, md0_46_4 hc hi, md0_46_5 hc hi, md0_0 hc hi, md0_9 hc hi, md0_44 hc hi, md0_send hc hi, md0_rp0 hc hi, md0_rp1 hc hi, md0_rp2 hc hi, md0_Mo_obeys_0_j48 hc hi]; done)))
theorem md0_Mo_obeys_0_j53 {c i k : Nat} (hc : c ≠ 0 ∧ c ≠ 4 ∧ c ≠ 5 ∧ c ≠ 6 ∧ c ≠ 7 ∧ c ≠ 8 ∧ c ≠ 9 ∧ c ≠ 44) (hi : ¬ ((28 ≤ c ∧ c ≤ 39 ∧ k = 0) ∨ (c = 43 ∧ 0 ≤ k ∧ k < 3) ∨ (c = 46 ∧ 0 ≤ k ∧ k < 6) ∨ ((c = 47 ∨ c = 48) ∧ 0 ≤ k ∧ k < 4))) : ∀ (v0 : fw_V) (a2 : Int32) (a3 : Int32), mf_Mo_obeys_0_j53 v0 a2 a3 c i k = v0 c i k := by
  intro v0 a2 a3
  unfold mf_Mo_obeys_0_j53
  (try dsimp only)
  all_goals ((repeat' split) <;> (first | with_reducible rfl | (simp only [md0_28 hc hi, md0_29 hc hi, md0_31 hc hi, md0_32 hc hi, md0_33 hc hi, md0_34 hc hi, md0_35 hc hi, md0_36 hc hi, md0_37 hc hi, md0_38 hc hi, md0_39 hc hi, md0_43_0 hc hi, md0_43_1 hc hi, md0_43_2 hc hi, md0_47_0 hc hi, md0_48_0 hc hi, md0_47_1 hc hi, md0_48_1 hc hi, md0_47_2 hc hi, md0_48_2 hc hi, md0_47_3 hc hi, md0_48_3 hc hi, md0_46_0 hc hi, md0_46_1 hc hi, md0_46_2 hc hi, md0_46_3 hc hi, md0_46_4 hc hi, md0_46_5 hc hi, md0_0 hc hi, md0_9 hc hi, md0_44 hc hi, md0_send hc hi, md0_rp0 hc hi, md0_rp1 hc hi, md0_rp2 hc hi, md0_Mo_obeys_0_j54 hc hi, md0_Mo_obeys_0_j56 hc hi]; done)))
theorem md0_Mo_obeys_0_j52 {c i k : Nat} (hc : c ≠ 0 ∧ c ≠ 4 ∧ c ≠ 5 ∧ c ≠ 6 ∧ c ≠ 7 ∧ c ≠ 8 ∧ c ≠ 9 ∧ c ≠ 44) (hi : ¬ ((28 ≤ c ∧ c ≤ 39 ∧ k = 0) ∨ (c = 43 ∧ 0 ≤ k ∧ k < 3) ∨ (c = 46 ∧ 0 ≤ k ∧ k < 6) ∨ ((c = 47 ∨ c = 48) ∧ 0 ≤ k ∧ k < 4))) : ∀ (v0 : fw_V) (a2 : Int32) (a3 : Int32), mf_Mo_obeys_0_j52 v0 a2 a3 c i k = v0 c i k := by
  intro v0 a2 a3
  unfold mf_Mo_obeys_0_j52
  (try dsimp only)
  all_goals ((repeat' split) <;> (first | with_reducible rfl | (simp only [md0_28 hc hi, md0_29 hc hi, md0_31 hc hi, md0_32 hc hi, md0_33 hc hi, md0_34 hc hi, md0_35 hc hi, md0_36 hc hi, md0_37 hc hi, md0_38 hc hi, md0_39 hc hi, md0_43_0 hc hi, md0_43_1 hc hi, md0_43_2 hc hi, md0_47_0 hc hi, md0_48_0 hc hi, md0_47_1 hc hi, md0_48_1 hc hi, md0_47_2 hc hi, md0_48_2 hc hi, md0_47_3 hc hi, md0_48_3 hc hi, md0_46_0 hc hi, md0_46_1 hc hi, md0_46_2 hc hi, md0_46_3 hc hi, md0_46_4 hc hi, md0_46_5 hc hi, md0_0 hc hi, md0_9 hc hi, md0_44 hc hi, md0_send hc hi, md0_rp0 hc hi, md0_rp1 hc hi, md0_rp2 hc hi, md0_Mo_obeys_0_j53 hc hi]; done)))
theorem md0_Mo_obeys_0_j35 {c i k : Nat} (hc : c ≠ 0 ∧ c ≠ 4 ∧ c ≠ 5 ∧ c ≠ 6 ∧ c ≠ 7 ∧ c ≠ 8 ∧ c ≠ 9 ∧ c ≠ 44) (hi : ¬ ((28 ≤ c ∧ c ≤ 39 ∧ k = 0) ∨ (c = 43 ∧ 0 ≤ k ∧ k < 3) ∨ (c = 46 ∧ 0 ≤ k ∧ k < 6) ∨ ((c = 47 ∨ c = 48) ∧ 0 ≤ k ∧ k < 4))) : ∀ (v0 : fw_V) (a2 : Int32) (a3 : Int32), mf_Mo_obeys_0_j35 v0 a2 a3 c i k = v0 c i k := by
  intro v0 a2 a3
  unfold mf_Mo_obeys_0_j35
  (try dsimp only)
  all_goals ((repeat' split) <;> (first | with_reducible rfl | (simp only [md0_28 hc hi, md0_29 hc hi, md0_31 hc hi, md0_32 hc hi, md0_33 hc hi, md0_34 hc hi, md0_35 hc hi, md0_36 hc hi, md0_37 hc hi, md0_38 hc hi, md0_39 hc hi, md0_43_0 hc hi, md0_43_1 hc hi, md0_43_2 hc hi, md0_47_0 hc hi, md0_48_0 hc hi, md0_47_1 hc hi, md0_48_1 hc hi, md0_47_2 hc hi, md0_48_2 hc hi, md0_47_3 hc hi, md0_48_3 hc hi, md0_46_0 hc hi, md0_46_1 hc hi, md0_46_2 hc hi, md0_46_3 hc hi, md0_46_4 hc hi, md0_46_5 hc hi, md0_0 hc hi, md0_9 hc hi, md0_44 hc hi, md0_send hc hi, md0_rp0 hc hi, md0_rp1 hc hi, md0_rp2 hc hi, md0_Mo_obeys_0_j36 hc hi, md0_Mo_obeys_0_j52 hc hi]; done)))
theorem md0_Mo_obeys_0_j9 {c i k : Nat} (hc : c ≠ 0 ∧ c ≠ 4 ∧ c ≠ 5 ∧ c ≠ 6 ∧ c ≠ 7 ∧ c ≠ 8 ∧ c ≠ 9 ∧ c ≠ 44) (hi : ¬ ((28 ≤ c ∧ c ≤ 39 ∧ k = 0) ∨ (c = 43 ∧ 0 ≤ k ∧ k < 3) ∨ (c = 46 ∧ 0 ≤ k ∧ k < 6) ∨ ((c = 47 ∨ c = 48) ∧ 0 ≤ k ∧ k < 4))) : ∀ (v : fw_V) (a2 : Int32) (a3 : Int32), mf_Mo_obeys_0_j9 v a2 a3 c i k = v c i k := by
  intro v a2 a3
  unfold mf_Mo_obeys_0_j9
  (try dsimp only)
  all_goals ((repeat' split) <;> (first | with_reducible rfl | (simp only [md0_28 hc hi, md0_29 hc hi, md0_31 hc hi, md0_32 hc hi, md0_33 hc hi, md0_34 hc hi, md0_35 hc hi, md0_36 hc hi, md0_37 hc hi, md0_38 hc hi, md0_39 hc hi, md0_43_0 hc hi, md0_43_1 hc hi, md0_43_2 hc hi, md0_47_0 hc hi, md0_48_0 hc hi, md0_47_1 hc hi, md0_48_1 hc hi, md0_47_2 hc hi, md0_48_2 hc hi, md0_47_3 hc hi, md0_48_3 hc hi, md0_46_0 hc hi, md0_46_1 hc hi, md0_46_2 hc hi, md0_46_3 hc hi, md0_46_4 hc hi, md0_46_5 hc hi, md0_0 hc hi, md0_9 hc hi, md0_44 hc hi, md0_send hc hi, md0_rp0 hc hi, md0_rp1 hc hi, md0_rp2 hc hi]; done)))
theorem md0_Mo_obeys_0_j8 {c i k : Nat} (hc : c ≠ 0 ∧ c ≠ 4 ∧ c ≠ 5 ∧ c ≠ 6 ∧ c ≠ 7 ∧ c ≠ 8 ∧ c ≠ 9 ∧ c ≠ 44) (hi : ¬ ((28 ≤ c ∧ c ≤ 39 ∧ k = 0) ∨ (c = 43 ∧ 0 ≤ k ∧ k < 3) ∨ (c = 46 ∧ 0 ≤ k ∧ k < 6) ∨ ((c = 47 ∨ c = 48) ∧ 0 ≤ k ∧ k < 4))) : ∀ (v : fw_V) (a2 : Int32) (a3 : Int32), mf_Mo_obeys_0_j8 v a2 a3 c i k = v c i k := by
  intro v a2 a3
  unfold mf_Mo_obeys_0_j8
  (try dsimp only)
  all_goals ((repeat' split) <;> (first | with_reducible rfl | (simp only [md0_28 hc hi, md0_29 hc hi, md0_31 hc hi, md0_32 hc hi, md0_33 hc hi, md0_34 hc hi, md0_35 hc hi, md0_36 hc hi, md0_37 hc hi, md0_38 hc hi, md0_39 hc hi, md0_43_0 hc hi, md0_43_1 hc hi, md0_43_2 hc hi, md0_47_0 hc hi, md0_48_0 hc hi, md0_47_1 hc hi, md0_48_1 hc hi, md0_47_2 hc hi, md0_48_2 hc hi, md0_47_3 hc hi, md0_48_3 hc hi, md0_46_0 hc hi, md0_46_1 hc hi, md0_46_2 hc hi, md0_46_3 hc hi, md0_46_4 hc hi, md0_46_5 hc hi, md0_0 hc hi, md0_9 hc hi, md0_44 hc hi, md0_send hc hi, md0_rp0 hc hi, md0_rp1 hc hi, md0_rp2 hc hi, md0_Mo_obeys_0_j9 hc hi]; done)))
theorem md0_Mo_obeys_0_j7 {c i k : Nat} (hc : c ≠ 0 ∧ c ≠ 4 ∧ c ≠ 5 ∧ c ≠ 6 ∧ c ≠ 7 ∧ c ≠ 8 ∧ c ≠ 9 ∧ c ≠ 44) (hi : ¬ ((28 ≤ c ∧ c ≤ 39 ∧ k = 0) ∨ (c = 43 ∧ 0 ≤ k ∧ k < 3) ∨ (c = 46 ∧ 0 ≤ k ∧ k < 6) ∨ ((c = 47 ∨ c = 48) ∧ 0 ≤ k ∧ k < 4))) : ∀ (v : fw_V) (a2 : Int32) (a3 : Int32), mf_Mo_obeys_0_j7 v a2 a3 c i k = v c i k := by
  intro v a2 a3
  unfold mf_Mo_obeys_0_j7
  (try dsimp only)
  all_goals ((repeat' split) <;> (first | with_reducible rfl | (simp only [md0_28 hc hi, md0_29 hc hi, md0_31 hc hi, md0_32 hc hi, md0_33 hc hi, md0_34 hc hi, md0_35 hc hi, md0_36 hc hi, md0_37 hc hi, md0_38 hc hi, md0_39 hc hi, md0_43_0 hc hi, md0_43_1 hc hi, md0_43_2 hc hi, md0_47_0 hc hi, md0_48_0 hc hi, md0_47_1 hc hi, md0_48_1 hc hi, md0_47_2 hc hi, md0_48_2 hc hi, md0_47_3 hc hi, md0_48_3 hc hi, md0_46_0 hc hi, md0_46_1 hc hi, md0_46_2 hc hi, md0_46_3 hc hi, md0_46_4 hc hi, md0_46_5 hc hi, md0_0 hc hi, md0_9 hc hi, md0_44 hc hi, md0_send hc hi, md0_rp0 hc hi, md0_rp1 hc hi, md0_rp2 hc hi, md0_Mo_obeys_0_j8 hc hi]; done)))
theorem md0_Mo_obeys_0_j6 {c i k : Nat} (hc : c ≠ 0 ∧ c ≠ 4 ∧ c ≠ 5 ∧ c ≠ 6 ∧ c ≠ 7 ∧ c ≠ 8 ∧ c ≠ 9 ∧ c ≠ 44) (hi : ¬ ((28 ≤ c ∧ c ≤ 39 ∧ k = 0) ∨ (c = 43 ∧ 0 ≤ k ∧ k < 3) ∨ (c = 46 ∧ 0 ≤ k ∧ k < 6) ∨ ((c = 47 ∨ c = 48) ∧ 0 ≤ k ∧ k < 4))) : ∀ (v : fw_V) (a2 : Int32) (a3 : Int32), mf_Mo_obeys_0_j6 v a2 a3 c i k = v c i k := by
  intro v a2 a3
  unfold mf_Mo_obeys_0_j6
  (try dsimp only)
  all_goals ((repeat' split) <;> (first | with_reducible rfl | (simp only [md0_28 hc hi, md0_29 hc hi, md0_31 hc hi, md0_32 hc hi, md0_33 hc hi, md0_34 hc hi, md0_35 hc hi, md0_36 hc hi, md0_37 hc hi, md0_38 hc hi, md0_39 hc hi, md0_43_0 hc hi, md0_43_1 hc hi, md0_43_2 hc hi, md0_47_0 hc hi, md0_48_0 hc hi, md0_47_1 hc hi, md0_48_1 hc hi, md0_47_2 hc hi, md0_48_2 hc hi, md0_47_3 hc hi, md0_48_3 hc hi, md0_46_0 hc hi, md0_46_1 hc hi, md0_46_2 hc hi, md0_46_3 hc hi, md0_46_4 hc hi, md0_46_5 hc hi, md0_0 hc hi, md0_9 hc hi, md0_44 hc hi, md0_send hc hi, md0_rp0 hc hi, md0_rp1 hc hi, md0_rp2 hc hi, md0_Mo_obeys_0_j7 hc hi]; done)))
theorem md0_Mo_obeys_0_j61 {c i k : Nat} (hc : c ≠ 0 ∧ c ≠ 4 ∧ c ≠ 5 ∧ c ≠ 6 ∧ c ≠ 7 ∧ c ≠ 8 ∧ c ≠ 9 ∧ c ≠ 44) (hi : ¬ ((28 ≤ c ∧ c ≤ 39 ∧ k = 0) ∨ (c = 43 ∧ 0 ≤ k ∧ k < 3) ∨ (c = 46 ∧ 0 ≤ k ∧ k < 6) ∨ ((c = 47 ∨ c = 48) ∧ 0 ≤ k ∧ k < 4))) : ∀ (v0 : fw_V) (a2 : Int32) (a3 : Int32), mf_Mo_obeys_0_j61 v0 a2 a3 c i k = v0 c i k := by
  intro v0 a2 a3
  unfold mf_Mo_obeys_0_j61
  (try dsimp only)
  all_goals ((repeat' split) <;> (first | with_reducible rfl | (simp only [md0_28 hc hi, md0_29 hc hi, md0_31 hc hi, md0_32 hc hi, md0_33 hc hi, md0_34 hc hi, md0_35 hc hi, md0_36 hc hi, md0_37 hc hi, md0_38 hc hi, md0_39 hc hi, md0_43_0 hc hi, md0_43_1 hc hi, md0_43_2 hc hi, md0_47_0 hc hi, md0_48_0 hc hi, md0_47_1 hc hi, md0_48_1 hc hi, md0_47_2 hc hi, md0_48_2 hc hi, md0_47_3 hc hi, md0_48_3 hc hi, md0_46_0 hc hi, md0_46_1 hc hi, md0_46_2 hc hi, md0_46_3 hc hi, md0_46_4 hc hi, md0_46_5 hc hi, md0_0 hc hi, md0_9 hc hi, md0_44 hc hi, md0_send hc hi, md0_rp0 hc hi, md0_rp1 hc hi, md0_rp2 hc hi, md0_Mo_rest_0 hc hi, md0_Mo_obeys_0_j6 hc hi]; done)))
theorem md0_Mo_obeys_0_j22 {c i k : Nat} (hc : c ≠ 0 ∧ c ≠ 4 ∧ c ≠ 5 ∧ c ≠ 6 ∧ c ≠ 7 ∧ c ≠ 8 ∧ c ≠ 9 ∧ c ≠ 44) (hi : ¬ ((28 ≤ c ∧ c ≤ 39 ∧ k = 0) ∨ (c = 43 ∧ 0 ≤ k ∧ k < 3) ∨ (c = 46 ∧ 0 ≤ k ∧ k < 6) ∨ ((c = 47 ∨ c = 48) ∧ 0 ≤ k ∧ k < 4))) : ∀ (v : fw_V) (a2 : Int32) (a3 : Int32), mf_Mo_obeys_0_j22 v a2 a3 c i k = v c i k := by
  intro v a2 a3
  unfold mf_Mo_obeys_0_j22
  (try dsimp only)
  all_goals ((repeat' split) <;> (first | with_reducible rfl | (simp only [md0_28 hc hi, md0_29 hc hi, md0_31 hc hi, md0_32 hc hi, md0_33 hc hi, md0_34 hc hi, md0_35 hc hi, md0_36 hc hi, md0_37 hc hi, md0_38 hc hi, md0_39 hc hi, md0_43_0 hc hi, md0_43_1 hc hi, md0_43_2 hc hi, md0_47_0 hc hi, md0_48_0 hc hi, md0_47_1 hc hi, md0_48_1 hc hi, md0_47_2 hc hi, md0_48_2 hc hi, md0_47_3 hc hi, md0_48_3 hc hi, md0_46_0 hc hi, md0_46_1 hc hi, md0_46_2 hc hi, md0_46_3 hc hi, md0_46_4 hc hi, md0_46_5 hc hi, md0_0 hc hi, md0_9 hc hi, md0_44 hc hi, md0_send hc hi, md0_rp0 hc hi, md0_rp1 hc hi, md0_rp2 hc hi]; done)))
theorem md0_Mo_obeys_0_j21 {c i k : Nat} (hc : c ≠ 0 ∧ c ≠ 4 ∧ c ≠ 5 ∧ c ≠ 6 ∧ c ≠ 7 ∧ c ≠ 8 ∧ c ≠ 9 ∧ c ≠ 44) (hi : ¬ ((28 ≤ c ∧ c ≤ 39 ∧ k = 0) ∨ (c = 43 ∧ 0 ≤ k ∧ k < 3) ∨ (c = 46 ∧ 0 ≤ k ∧ k < 6) ∨ ((c = 47 ∨ c = 48) ∧ 0 ≤ k ∧ k < 4))) : ∀ (v : fw_V) (a2 : Int32) (a3 : Int32), mf_Mo_obeys_0_j21 v a2 a3 c i k = v c i k := by
  intro v a2 a3
  unfold mf_Mo_obeys_0_j21
  (try dsimp only)
  all_goals ((repeat' split) <;> (first | with_reducible rfl | (simp only [md0_28 hc hi, md0_29 hc hi, md0_31 hc hi, md0_32 hc hi, md0_33 hc hi, md0_34 hc hi, md0_35 hc hi, md0_36 hc hi, md0_37 hc hi, md0_38 hc hi, md0_39 hc hi, md0_43_0 hc hi, md0_43_1 hc hi, md0_43_2 hc hi, md0_47_0 hc hi, md0_48_0 hc hi, md0_47_1 hc hi, md0_48_1 hc hi, md0_47_2 hc hi, md0_48_2 hc hi, md0_47_3 hc hi, md0_48_3 hc hi, md0_46_0 hc hi, md0_46_1 hc hi, md0_46_2 hc hi, md0_46_3 hc hi, md0_46_4 hc hi, md0_46_5 hc hi, md0_0 hc hi, md0_9 hc hi, md0_44 hc hi, md0_send hc hi, md0_rp0 hc hi, md0_rp1 hc hi, md0_rp2 hc hi, md0_Mo_obeys_0_j22 hc hi]; done)))
theorem md0_Mo_obeys_0_j23 {c i k : Nat} (hc : c ≠ 0 ∧ c ≠ 4 ∧ c ≠ 5 ∧ c ≠ 6 ∧ c ≠ 7 ∧ c ≠ 8 ∧ c ≠ 9 ∧ c ≠ 44) (hi : ¬ ((28 ≤ c ∧ c ≤ 39 ∧ k = 0) ∨ (c = 43 ∧ 0 ≤ k ∧ k < 3) ∨ (c = 46 ∧ 0 ≤ k ∧ k < 6) ∨ ((c = 47 ∨ c = 48) ∧ 0 ≤ k ∧ k < 4))) : ∀ (v : fw_V) (a2 : Int32) (a3 : Int32), mf_Mo_obeys_0_j23 v a2 a3 c i k = v c i k := by
  intro v a2 a3
  unfold mf_Mo_obeys_0_j23
  (try dsimp only)
  all_goals ((repeat' split) <;> (first | with_reducible rfl | (simp only [md0_28 hc hi, md0_29 hc hi, md0_31 hc hi, md0_32 hc hi, md0_33 hc hi, md0_34 hc hi, md0_35 hc hi, md0_36 hc hi, md0_37 hc hi, md0_38 hc hi, md0_39 hc hi, md0_43_0 hc hi, md0_43_1 hc hi, md0_43_2 hc hi, md0_47_0 hc hi, md0_48_0 hc hi, md0_47_1 hc hi, md0_48_1 hc hi, md0_47_2 hc hi, md0_48_2 hc hi, md0_47_3 hc hi, md0_48_3 hc hi, md0_46_0 hc hi, md0_46_1 hc hi, md0_46_2 hc hi, md0_46_3 hc hi, md0_46_4 hc hi, md0_46_5 hc hi, md0_0 hc hi, md0_9 hc hi, md0_44 hc hi, md0_send hc hi, md0_rp0 hc hi, md0_rp1 hc hi, md0_rp2 hc hi, md0_Mo_obeys_0_j21 hc hi]; done)))
theorem md0_Mo_obeys_0_j24 {c i k : Nat} (hc : c ≠ 0 ∧ c ≠ 4 ∧ c ≠ 5 ∧ c ≠ 6 ∧ c ≠ 7 ∧ c ≠ 8 ∧ c ≠ 9 ∧ c ≠ 44) (hi : ¬ ((28 ≤ c ∧ c ≤ 39 ∧ k = 0) ∨ (c = 43 ∧ 0 ≤ k ∧ k < 3) ∨ (c = 46 ∧ 0 ≤ k ∧ k < 6) ∨ ((c = 47 ∨ c = 48) ∧ 0 ≤ k ∧ k < 4))) : ∀ (v : fw_V) (a2 : Int32) (a3 : Int32) (x90 : Int32), mf_Mo_obeys_0_j24 v a2 a3 x90 c i k = v c i k := by
  intro v a2 a3 x90
  unfold mf_Mo_obeys_0_j24
  (try dsimp only)
  all_goals ((repeat' split) <;> (first | with_reducible rfl | (simp only [md0_28 hc hi, md0_29 hc hi, md0_31 hc hi, md0_32 hc hi, md0_33 hc hi, md0_34 hc hi, md0_35 hc hi, md0_36 hc hi, md0_37 hc hi, md0_38 hc hi, md0_39 hc hi, md0_43_0 hc hi, md0_43_1 hc hi, md0_43_2 hc hi, md0_47_0 hc hi, md0_48_0 hc hi, md0_47_1 hc hi, md0_48_1 hc hi, md0_47_2 hc hi, md0_48_2 hc hi, md0_47_3 hc hi, md0_48_3 hc hi, md0_46_0 hc hi, md0_46_1 hc hi, md0_46_2 hc hi, md0_46_3 hc hi, md0_46_4 hc hi, md0_46_5 hc hi, md0_0 hc hi, md0_9 hc hi, md0_44 hc hi, md0_send hc hi, md0_rp0 hc hi, md0_rp1 hc hi, md0_rp2 hc hi, md0_Mo_obeys_0_j21 hc hi]; done)))
theorem md0_Mo_obeys_0_j20 {c i k : Nat} (hc : c ≠ 0 ∧ c ≠ 4 ∧ c ≠ 5 ∧ c ≠ 6 ∧ c ≠ 7 ∧ c ≠ 8 ∧ c ≠ 9 ∧ c ≠ 44) (hi : ¬ ((28 ≤ c ∧ c ≤ 39 ∧ k = 0) ∨ (c = 43 ∧ 0 ≤ k ∧ k < 3) ∨ (c = 46 ∧ 0 ≤ k ∧ k < 6) ∨ ((c = 47 ∨ c = 48) ∧ 0 ≤ k ∧ k < 4))) : ∀ (v : fw_V) (a2 : Int32) (a3 : Int32), mf_Mo_obeys_0_j20 v a2 a3 c i k = v c i k := by
  intro v a2 a3
  unfold mf_Mo_obeys_0_j20
  (try dsimp only)
  all_goals ((repeat' split) <;> (first | with_reducible rfl | (simp only [md0_28 hc hi, md0_29 hc hi, md0_31 hc hi, md0_32 hc hi, md0_33 hc hi, md0_34 hc hi, md0_35 hc hi, md0_36 hc hi, md0_37 hc hi, md0_38 hc hi, md0_39 hc hi, md0_43_0 hc hi, md0_43_1 hc hi, md0_43_2 hc hi, md0_47_0 hc hi, md0_48_0 hc hi, md0_47_1 hc hi, md0_48_1 hc hi, md0_47_2 hc hi, md0_48_2 hc hi, md0_47_3 hc hi, md0_48_3 hc hi, md0_46_0 hc hi, md0_46_1 hc hi, md0_46_2 hc hi, md0_46_3 hc hi, md0_46_4 hc hi, md0_46_5 hc hi, md0_0 hc hi, md0_9 hc hi, md0_44 hc hi, md0_send hc hi, md0_rp0 hc hi, md0_rp1 hc hi, md0_rp2 hc hi, md0_Mo_obeys_0_j21 hc hi, md0_Mo_obeys_0_j23 hc hi, md0_Mo_obeys_0_j24 hc hi]; done)))
theorem md0_Mo_obeys_0_j19 {c i k : Nat} (hc : c ≠ 0 ∧ c ≠ 4 ∧ c ≠ 5 ∧ c ≠ 6 ∧ c ≠ 7 ∧ c ≠ 8 ∧ c ≠ 9 ∧ c ≠ 44) (hi : ¬ ((28 ≤ c ∧ c ≤ 39 ∧ k = 0) ∨ (c = 43 ∧ 0 ≤ k ∧ k < 3) ∨ (c = 46 ∧ 0 ≤ k ∧ k < 6) ∨ ((c = 47 ∨ c = 48) ∧ 0 ≤ k ∧ k < 4))) : ∀ (v : fw_V) (a2 : Int32) (a3 : Int32), mf_Mo_obeys_0_j19 v a2 a3 c i k = v c i k := by
  intro v a2 a3
  unfold mf_Mo_obeys_0_j19
  (try dsimp only)
  all_goals ((repeat' split) <;> (first | with_reducible rfl | (simp only [md0_28 hc hi, md0_29 hc hi, md0_31 hc hi, md0_32 hc hi, md0_33 hc hi, md0_34 hc hi, md0_35 hc hi, md0_36 hc hi, md0_37 hc hi, md0_38 hc hi, md0_39 hc hi, md0_43_0 hc hi, md0_43_1 hc hi, md0_43_2 hc hi, md0_47_0 hc hi, md0_48_0 hc hi, md0_47_1 hc hi, md0_48_1 hc hi, md0_47_2 hc hi, md0_48_2 hc hi, md0_47_3 hc hi, md0_48_3 hc hi, md0_46_0 hc hi, md0_46_1 hc hi, md0_46_2 hc hi, md0_46_3 hc hi, md0_46_4 hc hi, md0_46_5 hc hi, md0_0 hc hi, md0_9 hc hi, md0_44 hc hi, md0_send hc hi, md0_rp0 hc hi, md0_rp1 hc hi, md0_rp2 hc hi, md0_Mo_obeys_0_j20 hc hi]; done)))
theorem md0_Mo_obeys_0_j25 {c i k : Nat} (hc : c ≠ 0 ∧ c ≠ 4 ∧ c ≠ 5 ∧ c ≠ 6 ∧ c ≠ 7 ∧ c ≠ 8 ∧ c ≠ 9 ∧ c ≠ 44) (hi : ¬ ((28 ≤ c ∧ c ≤ 39 ∧ k = 0) ∨ (c = 43 ∧ 0 ≤ k ∧ k < 3) ∨ (c = 46 ∧ 0 ≤ k ∧ k < 6) ∨ ((c = 47 ∨ c = 48) ∧ 0 ≤ k ∧ k < 4))) : ∀ (v : fw_V) (a2 : Int32) (a3 : Int32), mf_Mo_obeys_0_j25 v a2 a3 c i k = v c i k := by
  intro v a2 a3
  unfold mf_Mo_obeys_0_j25
  (try dsimp only)
  all_goals ((repeat' split) <;> (first | with_reducible rfl | (simp only [md0_28 hc hi, md0_29 hc hi, md0_31 hc hi, md0_32 hc hi, md0_33 hc hi, md0_34 hc hi, md0_35 hc hi, md0_36 hc hi, md0_37 hc hi, md0_38 hc hi, md0_39 hc hi, md0_43_0 hc hi, md0_43_1 hc hi, md0_43_2 hc hi, md0_47_0 hc hi, md0_48_0 hc hi, md0_47_1 hc hi, md0_48_1 hc hi, md0_47_2 hc hi, md0_48_2 hc hi, md0_47_3 hc hi, md0_48_3 hc hi, md0_46_0 hc hi, md0_46_1 hc hi, md0_46_2 hc hi, md0_46_3 hc hi, md0_46_4 hc hi, md0_46_5 hc hi, md0_0 hc hi, md0_9 hc hi, md0_44 hc hi, md0_send hc hi, md0_rp0 hc hi, md0_rp1 hc hi, md0_rp2 hc hi, md0_Mo_obeys_0_j19 hc hi]; done)))
theorem md0_Mo_obeys_0_j26 {c i k : Nat} (hc : c ≠ 0 ∧ c ≠ 4 ∧ c ≠ 5 ∧ c ≠ 6 ∧ c ≠ 7 ∧ c ≠ 8 ∧ c ≠ 9 ∧ c ≠ 44) (hi : ¬ ((28 ≤ c ∧ c ≤ 39 ∧ k = 0) ∨ (c = 43 ∧ 0 ≤ k ∧ k < 3) ∨ (c = 46 ∧ 0 ≤ k ∧ k < 6) ∨ ((c = 47 ∨ c = 48) ∧ 0 ≤ k ∧ k < 4))) : ∀ (v : fw_V) (a2 : Int32) (a3 : Int32) (x90 : Int32), mf_Mo_obeys_0_j26 v a2 a3 x90 c i k = v c i k := by
  intro v a2 a3 x90
  unfold mf_Mo_obeys_0_j26
  (try dsimp only)
  all_goals ((repeat' split) <;> (first | with_reducible rfl | (simp only [md0_28 hc hi, md0_29 hc hi, md0_31 hc hi, md0_32 hc hi, md0_33 hc hi, md0_34 hc hi, md0_35 hc hi, md0_36 hc hi, md0_37 hc hi, md0_38 hc hi, md0_39 hc hi, md0_43_0 hc hi, md0_43_1 hc hi, md0_43_2 hc hi, md0_47_0 hc hi, md0_48_0 hc hi, md0_47_1 hc hi, md0_48_1 hc hi, md0_47_2 hc hi, md0_48_2 hc hi, md0_47_3 hc hi, md0_48_3 hc hi, md0_46_0 hc hi, md0_46_1 hc hi, md0_46_2 hc hi, md0_46_3 hc hi, md0_46_4 hc hi, md0_46_5 hc hi, md0_0 hc hi, md0_9 hc hi, md0_44 hc hi, md0_send hc hi, md0_rp0 hc hi, md0_rp1 hc hi, md0_rp2 hc hi, md0_Mo_obeys_0_j19 hc hi]; done)))
theorem md0_Mo_obeys_0_j18 {c i k : Nat} (hc : c ≠ 0 ∧ c ≠ 4 ∧ c ≠ 5 ∧ c ≠ 6 ∧ c ≠ 7 ∧ c ≠ 8 ∧ c ≠ 9 ∧ c ≠ 44) (hi : ¬ ((28 ≤ c ∧ c ≤ 39 ∧ k = 0) ∨ (c = 43 ∧ 0 ≤ k ∧ k < 3) ∨ (c = 46 ∧ 0 ≤ k ∧ k < 6) ∨ ((c = 47 ∨ c = 48) ∧ 0 ≤ k ∧ k < 4))) : ∀ (v : fw_V) (a2 : Int32) (a3 : Int32), mf_Mo_obeys_0_j18 v a2 a3 c i k = v c i k := by
  intro v a2 a3
  unfold mf_Mo_obeys_0_j18
  (try dsimp only)
  all_goals ((repeat' split) <;> (first | with_reducible rfl | (simp only [md0_28 hc hi, md0_29 hc hi, md0_31 hc hi, md0_32 hc hi, md0_33 hc hi, md0_34 hc hi, md0_35 hc hi, md0_36 hc hi, md0_37 hc hi, md0_38 hc hi, md0_39 hc hi, md0_43_0 hc hi, md0_43_1 hc hi, md0_43_2 hc hi, md0_47_0 hc hi, md0_48_0 hc hi, md0_47_1 hc hi, md0_48_1 hc hi, md0_47_2 hc hi, md0_48_2 hc hi, md0_47_3 hc hi, md0_48_3 hc hi, md0_46_0 hc hi, md0_46_1 hc hi, md0_46_2 hc hi, md0_46_3 hc hi, md0_46_4 hc hi, md0_46_5 hc hi, md0_0 hc hi, md0_9 hc hi, md0_44 hc hi, md0_send hc hi, md0_rp0 hc hi, md0_rp1 hc hi, md0_rp2 hc hi, md0_Mo_obeys_0_j19 hc hi, md0_Mo_obeys_0_j25 hc hi, md0_Mo_obeys_0_j26 hc hi]; done)))
theorem md0_Mo_obeys_0_j17 {c i k : Nat} (hc : c ≠ 0 ∧ c ≠ 4 ∧ c ≠ 5 ∧ c ≠ 6 ∧ c ≠ 7 ∧ c ≠ 8 ∧ c ≠ 9 ∧ c ≠ 44) (hi : ¬ ((28 ≤ c ∧ c ≤ 39 ∧ k = 0) ∨ (c = 43 ∧ 0 ≤ k ∧ k < 3) ∨ (c = 46 ∧ 0 ≤ k ∧ k < 6) ∨ ((c = 47 ∨ c = 48) ∧ 0 ≤ k ∧ k < 4))) : ∀ (v : fw_V) (a2 : Int32) (a3 : Int32), mf_Mo_obeys_0_j17 v a2 a3 c i k = v c i k := by
  intro v a2 a3
  unfold mf_Mo_obeys_0_j17
  (try dsimp only)
  all_goals ((repeat' split) <;> (first | with_reducible rfl | (simp only [md0_28 hc hi, md0_29 hc hi, md0_31 hc hi, md0_32 hc hi, md0_33 hc hi, md0_34 hc hi, md0_35 hc hi, md0_36 hc hi, md0_37 hc hi, md0_38 hc hi, md0_39 hc hi, md0_43_0 hc hi, md0_43_1 hc hi, md0_43_2 hc hi, md0_47_0 hc hi, md0_48_0 hc hi, md0_47_1 hc hi, md0_48_1 hc hi, md0_47_2 hc hi, md0_48_2 hc hi, md0_47_3 hc hi, md0_48_3 hc hi, md0_46_0 hc hi, md0_46_1 hc hi, md0_46_2 hc hi, md0_46_3 hc hi, md0_46_4 hc hi, md0_46_5 hc hi, md0_0 hc hi, md0_9 hc hi, md0_44 hc hi, md0_send hc hi, md0_rp0 hc hi, md0_rp1 hc hi, md0_rp2 hc hi, md0_Mo_obeys_0_j18 hc hi]; done)))
theorem md0_Mo_obeys_0_j27 {c i k : Nat} (hc : c ≠ 0 ∧ c ≠ 4 ∧ c ≠ 5 ∧ c ≠ 6 ∧ c ≠ 7 ∧ c ≠ 8 ∧ c ≠ 9 ∧ c ≠ 44) (hi : ¬ ((28 ≤ c ∧ c ≤ 39 ∧ k = 0) ∨ (c = 43 ∧ 0 ≤ k ∧ k < 3) ∨ (c = 46 ∧ 0 ≤ k ∧ k < 6) ∨ ((c = 47 ∨ c = 48) ∧ 0 ≤ k ∧ k < 4))) : ∀ (v : fw_V) (a2 : Int32) (a3 : Int32), mf_Mo_obeys_0_j27 v a2 a3 c i k = v c i k := by
  intro v a2 a3
  unfold mf_Mo_obeys_0_j27
  (try dsimp only)
  all_goals ((repeat' split) <;> (first | with_reducible rfl | (simp only [md0_28 hc hi, md0_29 hc hi, md0_31 hc hi, md0_32 hc hi, md0_33 hc hi, md0_34 hc hi, md0_35 hc hi, md0_36 hc hi, md0_37 hc hi, md0_38 hc hi, md0_39 hc hi, md0_43_0 hc hi, md0_43_1 hc hi, md0_43_2 hc hi, md0_47_0 hc hi, md0_48_0 hc hi, md0_47_1 hc hi, md0_48_1 hc hi, md0_47_2 hc hi, md0_48_2 hc hi, md0_47_3 hc hi, md0_48_3 hc hi, md0_46_0 hc hi, md0_46_1 hc hi, md0_46_2 hc hi, md0_46_3 hc hi, md0_46_4 hc hi, md0_46_5 hc hi, md0_0 hc hi, md0_9 hc hi, md0_44 hc hi, md0_send hc hi, md0_rp0 hc hi, md0_rp1 hc hi, md0_rp2 hc hi, md0_Mo_obeys_0_j17 hc hi]; done)))
theorem md0_Mo_obeys_0_j28 {c i k : Nat} (hc : c ≠ 0 ∧ c ≠ 4 ∧ c ≠ 5 ∧ c ≠ 6 ∧ c ≠ 7 ∧ c ≠ 8 ∧ c ≠ 9 ∧ c ≠ 44) (hi : ¬ ((28 ≤ c ∧ c ≤ 39 ∧ k = 0) ∨ (c = 43 ∧ 0 ≤ k ∧ k < 3) ∨ (c = 46 ∧ 0 ≤ k ∧ k < 6) ∨ ((c = 47 ∨ c = 48) ∧ 0 ≤ k ∧ k < 4))) : ∀ (v : fw_V) (a2 : Int32) (a3 : Int32) (x90 : Int32), mf_Mo_obeys_0_j28 v a2 a3 x90 c i k = v c i k := by
  intro v a2 a3 x90
  unfold mf_Mo_obeys_0_j28
  (try dsimp only)
  all_goals ((repeat' split) <;> (first | with_reducible rfl | (simp only [md0_28 hc hi, md0_29 hc hi, md0_31 hc hi, md0_32 hc hi, md0_33 hc hi, md0_34 hc hi, md0_35 hc hi, md0_36 hc hi, md0_37 hc hi, md0_38 hc hi, md0_39 hc hi, md0_43_0 hc hi, md0_43_1 hc hi, md0_43_2 hc hi, md0_47_0 hc hi, md0_48_0 hc hi, md0_47_1 hc hi, md0_48_1 hc hi, md0_47_2 hc hi, md0_48_2 hc hi, md0_47_3 hc hi, md0_48_3 hc hi, md0_46_0 hc hi, md0_46_1 hc hi, md0_46_2 hc hi, md0_46_3 hc hi, md0_46_4 hc hi, md0_46_5 hc hi, md0_0 hc hi, md0_9 hc hi, md0_44 hc hi, md0_send hc hi, md0_rp0 hc hi, md0_rp1 hc hi, md0_rp2 hc hi, md0_Mo_obeys_0_j17 hc hi]; done)))
theorem md0_Mo_obeys_0_j16 {c i k : Nat} (hc : c ≠ 0 ∧ c ≠ 4 ∧ c ≠ 5 ∧ c ≠ 6 ∧ c ≠ 7 ∧ c ≠ 8 ∧ c ≠ 9 ∧ c ≠ 44) (hi : ¬ ((28 ≤ c ∧ c ≤ 39 ∧ k = 0) ∨ (c = 43 ∧ 0 ≤ k ∧ k < 3) ∨ (c = 46 ∧ 0 ≤ k ∧ k < 6) ∨ ((c = 47 ∨ c = 48) ∧ 0 ≤ k ∧ k < 4))) : ∀ (v : fw_V) (a2 : Int32) (a3 : Int32), mf_Mo_obeys_0_j16 v a2 a3 c i k = v c i k := by
  intro v a2 a3
  unfold mf_Mo_obeys_0_j16
  (try dsimp only)
  all_goals ((repeat' split) <;> (first | with_reducible rfl | (simp only [md0_28 hc hi, md0_29 hc hi, md0_31 hc hi, md0_32 hc hi, md0_33 hc hi, md0_34 hc hi, md0_35 hc hi, md0_36 hc hi, md0_37 hc hi, md0_38 hc hi, md0_39 hc hi, md0_43_0 hc hi, md0_43_1 hc hi, md0_43_2 hc hi, md0_47_0 hc hi, md0_48_0 hc hi, md0_47_1 hc hi, md0_48_1 hc hi, md0_47_2 hc hi, md0_48_2 hc hi, md0_47_3 hc hi, md0_48_3 hc hi, md0_46_0 hc hi, md0_46_1 hc hi, md0_46_2 hc hi, md0_46_3 hc hi, md0_46_4 hc hi, md0_46_5 hc hi, md0_0 hc hi, md0_9 hc hi, md0_44 hc hi, md0_send hc hi, md0_rp0 hc hi, md0_rp1 hc hi, md0_rp2 hc hi, md0_Mo_obeys_0_j17 hc hi, md0_Mo_obeys_0_j27 hc hi, md0_Mo_obeys_0_j28 hc hi]; done)))
theorem md0_Mo_obeys_0_j15 {c i k : Nat} (hc : c ≠ 0 ∧ c ≠ 4 ∧ c ≠ 5 ∧ c ≠ 6 ∧ c ≠ 7 ∧ c ≠ 8 ∧ c ≠ 9 ∧ c ≠ 44) (hi : ¬ ((28 ≤ c ∧ c ≤ 39 ∧ k = 0) ∨ (c = 43 ∧ 0 ≤ k ∧ k < 3) ∨ (c = 46 ∧ 0 ≤ k ∧ k < 6) ∨ ((c = 47 ∨ c = 48) ∧ 0 ≤ k ∧ k < 4))) : ∀ (v : fw_V) (a2 : Int32) (a3 : Int32), mf_Mo_obeys_0_j15 v a2 a3 c i k = v c i k := by
  intro v a2 a3
  unfold mf_Mo_obeys_0_j15
  (try dsimp only)
  all_goals ((repeat' split) <;> (first | with_reducible rfl | (simp only [md0_28 hc hi, md0_29 hc hi, md0_31 hc hi, md0_32 hc hi, md0_33 hc hi, md0_34 hc hi, md0_35 hc hi, md0_36 hc hi, md0_37 hc hi, md0_38 hc hi, md0_39 hc hi, md0_43_0 hc hi, md0_43_1 hc hi, md0_43_2 hc hi, md0_47_0 hc hi, md0_48_0 hc hi, md0_47_1 hc hi, md0_48_1 hc hi, md0_47_2 hc hi, md0_48_2 hc hi, md0_47_3 hc hi, md0_48_3 hc hi, md0_46_0 hc hi, md0_46_1 hc hi, md0_46_2 hc hi, md0_46_3 hc hi, md0_46_4 hc hi, md0_46_5 hc hi, md0_0 hc hi, md0_9 hc hi, md0_44 hc hi, md0_send hc hi, md0_rp0 hc hi, md0_rp1 hc hi, md0_rp2 hc hi, md0_Mo_obeys_0_j16 hc hi]; done)))
theorem md0_Mo_obeys_0_j29 {c i k : Nat} (hc : c ≠ 0 ∧ c ≠ 4 ∧ c ≠ 5 ∧ c ≠ 6 ∧ c ≠ 7 ∧ c ≠ 8 ∧ c ≠ 9 ∧ c ≠ 44) (hi : ¬ ((28 ≤ c ∧ c ≤ 39 ∧ k = 0) ∨ (c = 43 ∧ 0 ≤ k ∧ k < 3) ∨ (c = 46 ∧ 0 ≤ k ∧ k < 6) ∨ ((c = 47 ∨ c = 48) ∧ 0 ≤ k ∧ k < 4))) : ∀ (v : fw_V) (a2 : Int32) (a3 : Int32), mf_Mo_obeys_0_j29 v a2 a3 c i k = v c i k := by
  intro v a2 a3
  unfold mf_Mo_obeys_0_j29
  (try dsimp only)
  all_goals ((repeat' split) <;> (first | with_reducible rfl | (simp only [md0_28 hc hi, md0_29 hc hi, md0_31 hc hi, md0_32 hc hi, md0_33 hc hi, md0_34 hc hi, md0_35 hc hi, md0_36 hc hi, md0_37 hc hi, md0_38 hc hi, md0_39 hc hi, md0_43_0 hc hi, md0_43_1 hc hi, md0_43_2 hc hi, md0_47_0 hc hi, md0_48_0 hc hi, md0_47_1 hc hi, md0_48_1 hc hi, md0_47_2 hc hi, md0_48_2 hc hi, md0_47_3 hc hi, md0_48_3 hc hi, md0_46_0 hc hi, md0_46_1 hc hi, md0_46_2 hc hi, md0_46_3 hc hi, md0_46_4 hc hi, md0_46_5 hc hi, md0_0 hc hi, md0_9 hc hi, md0_44 hc hi, md0_send hc hi, md0_rp0 hc hi, md0_rp1 hc hi, md0_rp2 hc hi, md0_Mo_obeys_0_j15 hc hi]; done)))
theorem md0_Mo_obeys_0_j30 {c i k : Nat} (hc : c ≠ 0 ∧ c ≠ 4 ∧ c ≠ 5 ∧ c ≠ 6 ∧ c ≠ 7 ∧ c ≠ 8 ∧ c ≠ 9 ∧ c ≠ 44) (hi : ¬ ((28 ≤ c ∧ c ≤ 39 ∧ k = 0) ∨ (c = 43 ∧ 0 ≤ k ∧ k < 3) ∨ (c = 46 ∧ 0 ≤ k ∧ k < 6) ∨ ((c = 47 ∨ c = 48) ∧ 0 ≤ k ∧ k < 4))) : ∀ (v : fw_V) (a2 : Int32) (a3 : Int32) (x90 : Int32), mf_Mo_obeys_0_j30 v a2 a3 x90 c i k = v c i k := by
  intro v a2 a3 x90
  unfold mf_Mo_obeys_0_j30
  (try dsimp only)
  all_goals ((repeat' split) <;> (first | with_reducible rfl | (simp only [md0_28 hc hi, md0_29 hc hi, md0_31 hc hi, md0_32 hc hi, md0_33 hc hi, md0_34 hc hi, md0_35 hc hi, md0_36 hc hi, md0_37 hc hi, md0_38 hc hi, md0_39 hc hi, md0_43_0 hc hi, md0_43_1 hc hi, md0_43_2 hc hi, md0_47_0 hc hi, md0_48_0 hc hi, md0_47_1 hc hi, md0_48_1 hc hi, md0_47_2 hc hi, md0_48_2 hc hi, md0_47_3 hc hi, md0_48_3 hc hi, md0_46_0 hc hi, md0_46_1 hc hi, md0_46_2 hc hi, md0_46_3 hc hi, md0_46_4 hc hi, md0_46_5 hc hi, md0_0 hc hi, md0_9 hc hi, md0_44 hc hi, md0_send hc hi, md0_rp0 hc hi, md0_rp1 hc hi, md0_rp2 hc hi, md0_Mo_obeys_0_j15 hc hi]; done)))
theorem md0_Mo_obeys_0_j14 {c i k : Nat} (hc : c ≠ 0 ∧ c ≠ 4 ∧ c ≠ 5 ∧ c ≠ 6 ∧ c ≠ 7 ∧ c ≠ 8 ∧ c ≠ 9 ∧ c ≠ 44) (hi : ¬ ((28 ≤ c ∧ c ≤ 39 ∧ k = 0) ∨ (c = 43 ∧ 0 ≤ k ∧ k < 3) ∨ (c = 46 ∧ 0 ≤ k ∧ k < 6) ∨ ((c = 47 ∨ c = 48) ∧ 0 ≤ k ∧ k < 4))) : ∀ (v : fw_V) (a2 : Int32) (a3 : Int32), mf_Mo_obeys_0_j14 v a2 a3 c i k = v c i k := by
  intro v a2 a3
  unfold mf_Mo_obeys_0_j14
  (try dsimp only)
  all_goals ((repeat' split) <;> (first | with_reducible rfl | (simp only [md0_28 hc hi, md0_29 hc hi, md0_31 hc hi, md0_32 hc hi, md0_33 hc hi, md0_34 hc hi, md0_35 hc hi, md0_36 hc hi, md0_37 hc hi, md0_38 hc hi, md0_39 hc hi, md0_43_0 hc hi, md0_43_1 hc hi, md0_43_2 hc hi, md0_47_0 hc hi, md0_48_0 hc hi, md0_47_1 hc hi, md0_48_1 hc hi, md0_47_2 hc hi, md0_48_2 hc hi, md0_47_3 hc hi, md0_48_3 hc hi, md0_46_0 hc hi, md0_46_1 hc hi, md0_46_2 hc hi, md0_46_3 hc hi, md0_46_4 hc hi, md0_46_5 hc hi, md0_0 hc hi, md0_9 hc hi, md0_44 hc hi, md0_send hc hi, md0_rp0 hc hi, md0_rp1 hc hi, md0_rp2 hc hi, md0_Mo_obeys_0_j15 hc hi, md0_Mo_obeys_0_j29 hc hi, md0_Mo_obeys_0_j30 hc hi]; done)))
theorem md0_Mo_obeys_0_j13 {c i k : Nat} (hc : c ≠ 0 ∧ c ≠ 4 ∧ c ≠ 5 ∧ c ≠ 6 ∧ c ≠ 7 ∧ c ≠ 8 ∧ c ≠ 9 ∧ c ≠ 44) (hi : ¬ ((28 ≤ c ∧ c ≤ 39 ∧ k = 0) ∨ (c = 43 ∧ 0 ≤ k ∧ k < 3) ∨ (c = 46 ∧ 0 ≤ k ∧ k < 6) ∨ ((c = 47 ∨ c = 48) ∧ 0 ≤ k ∧ k < 4))) : ∀ (v : fw_V) (a2 : Int32) (a3 : Int32), mf_Mo_obeys_0_j13 v a2 a3 c i k = v c i k := by
  intro v a2 a3
  unfold mf_Mo_obeys_0_j13
  (try dsimp only)
  all_goals ((repeat' split) <;> (first | with_reducible rfl | (simp only [md0_28 hc hi, md0_29 hc hi, md0_31 hc hi, md0_32 hc hi, md0_33 hc hi, md0_34 hc hi, md0_35 hc hi, md0_36 hc hi, md0_37 hc hi, md0_38 hc hi, md0_39 hc hi, md0_43_0 hc hi, md0_43_1 hc hi, md0_43_2 hc hi, md0_47_0 hc hi, md0_48_0 hc hi, md0_47_1 hc hi, md0_48_1 hc hi, md0_47_2 hc hi, md0_48_2 hc hi, md0_47_3 hc hi, md0_48_3 hc hi, md0_46_0 hc hi, md0_46_1 hc hi, md0_46_2 hc hi, md0_46_3 hc hi, md0_46_4 hc hi, md0_46_5 hc hi, md0_0 hc hi, md0_9 hc hi, md0_44 hc hi, md0_send hc hi, md0_rp0 hc hi, md0_rp1 hc hi, md0_rp2 hc hi, md0_Mo_obeys_0_j14 hc hi]; done)))
theorem md0_Mo_obeys_0_j31 {c i k : Nat} (hc : c ≠ 0 ∧ c ≠ 4 ∧ c ≠ 5 ∧ c ≠ 6 ∧ c ≠ 7 ∧ c ≠ 8 ∧ c ≠ 9 ∧ c ≠ 44) (hi : ¬ ((28 ≤ c ∧ c ≤ 39 ∧ k = 0) ∨ (c = 43 ∧ 0 ≤ k ∧ k < 3) ∨ (c = 46 ∧ 0 ≤ k ∧ k < 6) ∨ ((c = 47 ∨ c = 48) ∧ 0 ≤ k ∧ k < 4))) : ∀ (v : fw_V) (a2 : Int32) (a3 : Int32), mf_Mo_obeys_0_j31 v a2 a3 c i k = v c i k := by
  intro v a2 a3
  unfold mf_Mo_obeys_0_j31
  (try dsimp only)
  all_goals ((repeat' split) <;> (first | with_reducible rfl | (simp only [md0_28 hc hi, md0_29 hc hi, md0_31 hc hi, md0_32 hc hi, md0_33 hc hi, md0_34 hc hi, md0_35 hc hi, md0_36 hc hi, md0_37 hc hi, md0_38 hc hi, md0_39 hc hi, md0_43_0 hc hi, md0_43_1 hc hi, md0_43_2 hc hi, md0_47_0 hc hi, md0_48_0 hc hi, md0_47_1 hc hi, md0_48_1 hc hi, md0_47_2 hc hi, md0_48_2 hc hi, md0_47_3 hc hi, md0_48_3 hc hi, md0_46_0 hc hi, md0_46_1 hc hi, md0_46_2 hc hi, md0_46_3 hc hi, md0_46_4 hc hi, md0_46_5 hc hi, md0_0 hc hi, md0_9 hc hi, md0_44 hc hi, md0_send hc hi, md0_rp0 hc hi, md0_rp1 hc hi, md0_rp2 hc hi, md0_Mo_obeys_0_j13 hc hi]; done)))
theorem md0_Mo_obeys_0_j32 {c i k : Nat} (hc : c ≠ 0 ∧ c ≠ 4 ∧ c ≠ 5 ∧ c ≠ 6 ∧ c ≠ 7 ∧ c ≠ 8 ∧ c ≠ 9 ∧ c ≠ 44) (hi : ¬ ((28 ≤ c ∧ c ≤ 39 ∧ k = 0) ∨ (c = 43 ∧ 0 ≤ k ∧ k < 3) ∨ (c = 46 ∧ 0 ≤ k ∧ k < 6) ∨ ((c = 47 ∨ c = 48) ∧ 0 ≤ k ∧ k < 4))) : ∀ (v : fw_V) (a2 : Int32) (a3 : Int32) (x90 : Int32), mf_Mo_obeys_0_j32 v a2 a3 x90 c i k = v c i k := by
  intro v a2 a3 x90
  unfold mf_Mo_obeys_0_j32
  (try dsimp only)
  all_goals ((repeat' split) <;> (first | with_reducible rfl | (simp only [md0_28 hc hi, md0_29 hc hi, md0_31 hc hi, md0_32 hc hi, md0_33 hc hi, md0_34 hc hi, md0_35 hc hi, md0_36 hc hi, md0_37 hc hi, md0_38 hc hi, md0_39 hc hi, md0_43_0 hc hi, md0_43_1 hc hi, md0_43_2 hc hi, md0_47_0 hc hi, md0_48_0 hc hi, md0_47_1 hc hi, md0_48_1 hc hi, md0_47_2 hc hi, md0_48_2 hc hi, md0_47_3 hc hi, md0_48_3 hc hi, md0_46_0 hc hi, md0_46_1 hc hi, md0_46_2 hc hi, md0_46_3 hc hi, md0_46_4 hc hi, md0_46_5 hc hi, md0_0 hc hi, md0_9 hc hi, md0_44 hc hi, md0_send hc hi, md0_rp0 hc hi, md0_rp1 hc hi, md0_rp2 hc hi, md0_Mo_obeys_0_j13 hc hi]; done)))
theorem md0_Mo_obeys_0_j12 {c i k : Nat} (hc : c ≠ 0 ∧ c ≠ 4 ∧ c ≠ 5 ∧ c ≠ 6 ∧ c ≠ 7 ∧ c ≠ 8 ∧ c ≠ 9 ∧ c ≠ 44) (hi : ¬ ((28 ≤ c ∧ c ≤ 39 ∧ k = 0) ∨ (c = 43 ∧ 0 ≤ k ∧ k < 3) ∨ (c = 46 ∧ 0 ≤ k ∧ k < 6) ∨ ((c = 47 ∨ c = 48) ∧ 0 ≤ k ∧ k < 4))) : ∀ (v : fw_V) (a2 : Int32) (a3 : Int32), mf_Mo_obeys_0_j12 v a2 a3 c i k = v c i k := by
  intro v a2 a3
  unfold mf_Mo_obeys_0_j12
  (try dsimp only)
  all_goals ((repeat' split) <;> (first | with_reducible rfl | (simp only [md0_28 hc hi, md0_29 hc hi, md0_31 hc hi, md0_32 hc hi, md0_33 hc hi, md0_34 hc hi, md0_35 hc hi, md0_36 hc hi, md0_37 hc hi, md0_38 hc hi, md0_39 hc hi, md0_43_0 hc hi, md0_43_1 hc hi, md0_43_2 hc hi, md0_47_0 hc hi, md0_48_0 hc hi, md0_47_1 hc hi, md0_48_1 hc hi, md0_47_2 hc hi, md0_48_2 hc hi, md0_47_3 hc hi, md0_48_3 hc hi, md0_46_0 hc hi, md0_46_1 hc hi, md0_46_2 hc hi, md0_46_3 hc hi, md0_46_4 hc hi, md0_46_5 hc hi, md0_0 hc hi, md0_9 hc hi, md0_44 hc hi, md0_send hc hi, md0_rp0 hc hi, md0_rp1 hc hi, md0_rp2 hc hi, md0_Mo_obeys_0_j13 hc hi, md0_Mo_obeys_0_j31 hc hi, md0_Mo_obeys_0_j32 hc hi]; done)))
theorem md0_Mo_obeys_0_j11 {c i k : Nat} (hc : c ≠ 0 ∧ c ≠ 4 ∧ c ≠ 5 ∧ c ≠ 6 ∧ c ≠ 7 ∧ c ≠ 8 ∧ c ≠ 9 ∧ c ≠ 44) (hi : ¬ ((28 ≤ c ∧ c ≤ 39 ∧ k = 0) ∨ (c = 43 ∧ 0 ≤ k ∧ k < 3) ∨ (c = 46 ∧ 0 ≤ k ∧ k < 6) ∨ ((c = 47 ∨ c = 48) ∧ 0 ≤ k ∧ k < 4))) : ∀ (v : fw_V) (a2 : Int32) (a3 : Int32), mf_Mo_obeys_0_j11 v a2 a3 c i k = v c i k := by
  intro v a2 a3
  unfold mf_Mo_obeys_0_j11
  (try dsimp only)
  all_goals ((repeat' split) <;> (first | with_reducible rfl | (simp only [md0_28 hc hi, md0_29 hc hi, md0_31 hc hi, md0_32 hc hi, md0_33 hc hi, md0_34 hc hi, md0_35 hc hi, md0_36 hc hi, md0_37 hc hi, md0_38 hc hi, md0_39 hc hi, md0_43_0 hc hi, md0_43_1 hc hi, md0_43_2 hc hi, md0_47_0 hc hi, md0_48_0 hc hi, md0_47_1 hc hi, md0_48_1 hc hi, md0_47_2 hc hi, md0_48_2 hc hi, md0_47_3 hc hi, md0_48_3 hc hi, md0_46_0 hc hi, md0_46_1 hc hi, md0_46_2 hc hi, md0_46_3 hc hi, md0_46_4 hc hi, md0_46_5 hc hi, md0_0 hc hi, md0_9 hc hi, md0_44 hc hi, md0_send hc hi, md0_rp0 hc hi, md0_rp1 hc hi, md0_rp2 hc hi, md0_Mo_obeys_0_j12 hc hi]; done)))
theorem md0_Mo_obeys_0_j33 {c i k : Nat} (hc : c ≠ 0 ∧ c ≠ 4 ∧ c ≠ 5 ∧ c ≠ 6 ∧ c ≠ 7 ∧ c ≠ 8 ∧ c ≠ 9 ∧ c ≠ 44) (hi : ¬ ((28 ≤ c ∧ c ≤ 39 ∧ k = 0) ∨ (c = 43 ∧ 0 ≤ k ∧ k < 3) ∨ (c = 46 ∧ 0 ≤ k ∧ k < 6) ∨ ((c = 47 ∨ c = 48) ∧ 0 ≤ k ∧ k < 4))) : ∀ (v : fw_V) (a2 : Int32) (a3 : Int32), mf_Mo_obeys_0_j33 v a2 a3 c i k = v c i k := by
  intro v a2 a3
  unfold mf_Mo_obeys_0_j33
  (try dsimp only)
  all_goals ((repeat' split) <;> (first | with_reducible rfl | (simp only [md0_28 hc hi, md0_29 hc hi, md0_31 hc hi, md0_32 hc hi, md0_33 hc hi, md0_34 hc hi, md0_35 hc hi, md0_36 hc hi, md0_37 hc hi, md0_38 hc hi, md0_39 hc hi, md0_43_0 hc hi, md0_43_1 hc hi, md0_43_2 hc hi, md0_47_0 hc hi, md0_48_0 hc hi, md0_47_1 hc hi, md0_48_1 hc hi, md0_47_2 hc hi, md0_48_2 hc hi, md0_47_3 hc hi, md0_48_3 hc hi, md0_46_0 hc hi, md0_46_1 hc hi, md0_46_2 hc hi, md0_46_3 hc hi, md0_46_4 hc hi, md0_46_5 hc hi, md0_0 hc hi, md0_9 hc hi, md0_44 hc hi, md0_send hc hi, md0_rp0 hc hi, md0_rp1 hc hi, md0_rp2 hc hi, md0_Mo_obeys_0_j11 hc hi]; done)))
theorem md0_Mo_obeys_0_j34 {c i k : Nat} (hc : c ≠ 0 ∧ c ≠ 4 ∧ c ≠ 5 ∧ c ≠ 6 ∧ c ≠ 7 ∧ c ≠ 8 ∧ c ≠ 9 ∧ c ≠ 44) (hi : ¬ ((28 ≤ c ∧ c ≤ 39 ∧ k = 0) ∨ (c = 43 ∧ 0 ≤ k ∧ k < 3) ∨ (c = 46 ∧ 0 ≤ k ∧ k < 6) ∨ ((c = 47 ∨ c = 48) ∧ 0 ≤ k ∧ k < 4))) : ∀ (v : fw_V) (a2 : Int32) (a3 : Int32) (x90 : Int32), mf_Mo_obeys_0_j34 v a2 a3 x90 c i k = v c i k := by
  intro v a2 a3 x90
  unfold mf_Mo_obeys_0_j34
  (try dsimp only)
  all_goals ((repeat' split) <;> (first | with_reducible rfl | (simp only [md0_28 hc hi, md0_29 hc hi, md0_31 hc hi, md0_32 hc hi, md0_33 hc hi, md0_34 hc hi, md0_35 hc hi, md0_36 hc hi, md0_37 hc hi, md0_38 hc hi, md0_39 hc hi, md0_43_0 hc hi, md0_43_1 hc hi, md0_43_2 hc hi, md0_47_0 hc hi, md0_48_0 hc hi, md0_47_1 hc hi, md0_48_1 hc hi, md0_47_2 hc hi, md0_48_2 hc hi, md0_47_3 hc hi, md0_48_3 hc hi, md0_46_0 hc hi, md0_46_1 hc hi, md0_46_2 hc hi, md0_46_3 hc hi, md0_46_4 hc hi, md0_46_5 hc hi, md0_0 hc hi, md0_9 hc hi, md0_44 hc hi, md0_send hc hi, md0_rp0 hc hi, md0_rp1 hc hi, md0_rp2 hc hi, md0_Mo_obeys_0_j11 hc hi]; done)))
theorem md0_Mo_obeys_0_j10 {c i k : Nat} (hc : c ≠ 0 ∧ c ≠ 4 ∧ c ≠ 5 ∧ c ≠ 6 ∧ c ≠ 7 ∧ c ≠ 8 ∧ c ≠ 9 ∧ c ≠ 44) (hi : ¬ ((28 ≤ c ∧ c ≤ 39 ∧ k = 0) ∨ (c = 43 ∧ 0 ≤ k ∧ k < 3) ∨ (c = 46 ∧ 0 ≤ k ∧ k < 6) ∨ ((c = 47 ∨ c = 48) ∧ 0 ≤ k ∧ k < 4))) : ∀ (v : fw_V) (a2 : Int32) (a3 : Int32), mf_Mo_obeys_0_j10 v a2 a3 c i k = v c i k := by
  intro v a2 a3
  unfold mf_Mo_obeys_0_j10
  (try dsimp only)
  all_goals ((repeat' split) <;> (first | with_reducible rfl | (simp only [md0_28 hc hi, md0_29 hc hi, md0_31 hc hi, md0_32 hc hi, md0_33 hc hi, md0_34 hc hi, md0_35 hc hi, md0_36 hc hi, md0_37 hc hi, md0_38 hc hi, md0_39 hc hi, md0_43_0 hc hi, md0_43_1 hc hi, md0_43_2 hc hi, md0_47_0 hc hi, md0_48_0 hc hi, md0_47_1 hc hi, md0_48_1 hc hi, md0_47_2 hc hi, md0_48_2 hc hi, md0_47_3 hc hi, md0_48_3 hc hi, md0_46_0 hc hi, md0_46_1 hc hi, md0_46_2 hc hi, md0_46_3 hc hi, md0_46_4 hc hi, md0_46_5 hc hi, md0_0 hc hi, md0_9 hc hi, md0_44 hc hi, md0_send hc hi, md0_rp0 hc hi, md0_rp1 hc hi, md0_rp2 hc hi, md0_Mo_obeys_0_j11 hc hi, md0_Mo_obeys_0_j33 hc hi, md0_Mo_obeys_0_j34 hc hi]; done)))
theorem md0_Mo_obeys_0_j60 {c i k : Nat} (hc : c ≠ 0 ∧ c ≠ 4 ∧ c ≠ 5 ∧ c ≠ 6 ∧ c ≠ 7 ∧ c ≠ 8 ∧ c ≠ 9 ∧ c ≠ 44) (hi : ¬ ((28 ≤ c ∧ c ≤ 39 ∧ k = 0) ∨ (c = 43 ∧ 0 ≤ k ∧ k < 3) ∨ (c = 46 ∧ 0 ≤ k ∧ k < 6) ∨ ((c = 47 ∨ c = 48) ∧ 0 ≤ k ∧ k < 4))) : ∀ (v0 : fw_V) (a2 : Int32) (a3 : Int32), mf_Mo_obeys_0_j60 v0 a2 a3 c i k = v0 c i k := by
  intro v0 a2 a3
  unfold mf_Mo_obeys_0_j60
  (try dsimp only)
  all_goals ((repeat' split) <;> (first | with_reducible rfl | (simp only [md0_28 hc hi, md0_29 hc hi, md0_31 hc hi, md0_32 hc hi, md0_33 hc hi, md0_34 hc hi, md0_35 hc hi, md0_36 hc hi, md0_37 hc hi, md0_38 hc hi, md0_39 hc hi, md0_43_0 hc hi, md0_43_1 hc hi, md0_43_2 hc hi, md0_47_0 hc hi, md0_48_0 hc hi, md0_47_1 hc hi, md0_48_1 hc hi, md0_47_2 hc hi, md0_48_2 hc hi, md0_47_3 hc hi, md0_48_3 hc hi, md0_46_0 hc hi, md0_46_1 hc hi, md0_46_2 hc hi, md0_46_3 hc hi, md0_46_4 hc hi, md0_46_5 hc hi, md0_0 hc hi, md0_9 hc hi, md0_44 hc hi, md0_send hc hi, md0_rp0 hc hi, md0_rp1 hc hi, md0_rp2 hc hi, md0_Mo_obeys_0_j61 hc hi, md0_Mo_obeys_0_j10 hc hi]; done)))
theorem md0_Mo_obeys_0_j59 {c i k : Nat} (hc : c ≠ 0 ∧ c ≠ 4 ∧ c ≠ 5 ∧ c ≠ 6 ∧ c ≠ 7 ∧ c ≠ 8 ∧ c ≠ 9 ∧ c ≠ 44) (hi : ¬ ((28 ≤ c ∧ c ≤ 39 ∧ k = 0) ∨ (c = 43 ∧ 0 ≤ k ∧ k < 3) ∨ (c = 46 ∧ 0 ≤ k ∧ k < 6) ∨ ((c = 47 ∨ c = 48) ∧ 0 ≤ k ∧ k < 4))) : ∀ (v0 : fw_V) (a2 : Int32) (a3 : Int32), mf_Mo_obeys_0_j59 v0 a2 a3 c i k = v0 c i k := by
  intro v0 a2 a3
  unfold mf_Mo_obeys_0_j59
  (try dsimp only)
  all_goals ((repeat' split) <;> (first | with_reducible rfl | (simp only [md0_28 hc hi, md0_29 hc hi, md0_31 hc hi, md0_32 hc hi, md0_33 hc hi, md0_34 hc hi, md0_35 hc hi, md0_36 hc hi, md0_37 hc hi, md0_38 hc hi, md0_39 hc hi, md0_43_0 hc hi, md0_43_1 hc hi, md0_43_2 hc hi, md0_47_0 hc hi, md0_48_0 hc hi, md0_47_1 hc hi, md0_48_1 hc hi, md0_47_2 hc hi, md0_48_2 hc hi, md0_47_3 hc hi, md0_48_3 hc hi, md0_46_0 hc hi, md0_46_1 hc hi, md0_46_2 hc hi, md0_46_3 hc hi, md0_46_4 hc hi, md0_46_5 hc hi, md0_0 hc hi, md0_9 hc hi, md0_44 hc hi, md0_send hc hi, md0_rp0 hc hi, md0_rp1 hc hi, md0_rp2 hc hi, md0_Mo_obeys_0_j60 hc hi]; done)))
theorem md0_Mo_obeys_0_j58 {c i k : Nat} (hc : c ≠ 0 ∧ c ≠ 4 ∧ c ≠ 5 ∧ c ≠ 6 ∧ c ≠ 7 ∧ c ≠ 8 ∧ c ≠ 9 ∧ c ≠ 44) (hi : ¬ ((28 ≤ c ∧ c ≤ 39 ∧ k = 0) ∨ (c = 43 ∧ 0 ≤ k ∧ k < 3) ∨ (c = 46 ∧ 0 ≤ k ∧ k < 6) ∨ ((c = 47 ∨ c = 48) ∧ 0 ≤ k ∧ k < 4))) : ∀ (v0 : fw_V) (a2 : Int32) (a3 : Int32), mf_Mo_obeys_0_j58 v0 a2 a3 c i k = v0 c i k := by
  intro v0 a2 a3
  unfold mf_Mo_obeys_0_j58
  (try dsimp only)
  all_goals ((repeat' split) <;> (first | with_reducible rfl | (simp only [md0_28 hc hi, md0_29 hc hi, md0_31 hc hi, md0_32 hc hi, md0_33 hc hi, md0_34 hc hi, md0_35 hc hi, md0_36 hc hi, md0_37 hc hi, md0_38 hc hi, md0_39 hc hi, md0_43_0 hc hi, md0_43_1 hc hi, md0_43_2 hc hi, md0_47_0 hc hi, md0_48_0 hc hi, md0_47_1 hc hi, md0_48_1 hc hi, md0_47_2 hc hi, md0_48_2 hc hi, md0_47_3 hc hi, md0_48_3 hc hi, md0_46_0 hc hi, md0_46_1 hc hi, md0_46_2 hc hi, md0_46_3 hc hi, md0_46_4 hc hi, md0_46_5 hc hi, md0_0 hc hi, md0_9 hc hi, md0_44 hc hi, md0_send hc hi, md0_rp0 hc hi, md0_rp1 hc hi, md0_rp2 hc hi, md0_Mo_reply_0 hc hi, md0_Mo_obeys_0_j59 hc hi]; done)))
theorem md0_Mo_obeys_0_j57 {c i k : Nat} (hc : c ≠ 0 ∧ c ≠ 4 ∧ c ≠ 5 ∧ c ≠ 6 ∧ c ≠ 7 ∧ c ≠ 8 ∧ c ≠ 9 ∧ c ≠ 44) (hi : ¬ ((28 ≤ c ∧ c ≤ 39 ∧ k = 0) ∨ (c = 43 ∧ 0 ≤ k ∧ k < 3) ∨ (c = 46 ∧ 0 ≤ k ∧ k < 6) ∨ ((c = 47 ∨ c = 48) ∧ 0 ≤ k ∧ k < 4))) : ∀ (v0 : fw_V) (a2 : Int32) (a3 : Int32), mf_Mo_obeys_0_j57 v0 a2 a3 c i k = v0 c i k := by
  intro v0 a2 a3
  unfold mf_Mo_obeys_0_j57
  (try dsimp only)
  all_goals ((repeat' split) <;> (first | with_reducible rfl | (simp only [md0_28 hc hi, md0_29 hc hi, md0_31 hc hi, md0_32 hc hi, md0_33 hc hi, md0_34 hc hi, md0_35 hc hi, md0_36 hc hi, md0_37 hc hi, md0_38 hc hi, md0_39 hc hi, md0_43_0 hc hi, md0_43_1 hc hi, md0_43_2 hc hi, md0_47_0 hc hi, md0_48_0 hc hi, md0_47_1 hc hi, md0_48_1 hc hi, md0_47_2 hc hi, md0_48_2 hc hi, md0_47_3 hc hi, md0_48_3 hc hi, md0_46_0 hc hi, md0_46_1 hc hi, md0_46_2 hc hi, md0_46_3 hc hi, md0_46_4 hc hi, md0_46_5 hc hi, md0_0 hc hi, md0_9 hc hi, md0_44 hc hi, md0_send hc hi, md0_rp0 hc hi, md0_rp1 hc hi, md0_rp2 hc hi, md0_Mo_obeys_0_j35 hc hi, md0_Mo_obeys_0_j58 hc hi]; done)))
theorem md0_Mo_obeys_0_j5 {c i k : Nat} (hc : c ≠ 0 ∧ c ≠ 4 ∧ c ≠ 5 ∧ c ≠ 6 ∧ c ≠ 7 ∧ c ≠ 8 ∧ c ≠ 9 ∧ c ≠ 44) (hi : ¬ ((28 ≤ c ∧ c ≤ 39 ∧ k = 0) ∨ (c = 43 ∧ 0 ≤ k ∧ k < 3) ∨ (c = 46 ∧ 0 ≤ k ∧ k < 6) ∨ ((c = 47 ∨ c = 48) ∧ 0 ≤ k ∧ k < 4))) : ∀ (v0 : fw_V) (a2 : Int32) (a3 : Int32), mf_Mo_obeys_0_j5 v0 a2 a3 c i k = v0 c i k := by
  intro v0 a2 a3
  unfold mf_Mo_obeys_0_j5
  (try dsimp only)
  all_goals ((repeat' split) <;> (first | with_reducible rfl | (simp only [md0_28 hc hi, md0_29 hc hi, md0_31 hc hi, md0_32 hc hi, md0_33 hc hi, md0_34 hc hi, md0_35 hc hi, md0_36 hc hi, md0_37 hc hi, md0_38 hc hi, md0_39 hc hi, md0_43_0 hc hi, md0_43_1 hc hi, md0_43_2 hc hi, md0_47_0 hc hi, md0_48_0 hc hi, md0_47_1 hc hi, md0_48_1 hc hi, md0_47_2 hc hi, md0_48_2 hc hi, md0_47_3 hc hi, md0_48_3 hc hi, md0_46_0 hc hi, md0_46_1 hc hi, md0_46_2 hc hi, md0_46_3 hc hi, md0_46_4 hc hi, md0_46_5 hc hi, md0_0 hc hi, md0_9 hc hi, md0_44 hc hi, md0_send hc hi, md0_rp0 hc hi, md0_rp1 hc hi, md0_rp2 hc hi, md0_Mo_rest_0 hc hi, md0_Mo_obeys_0_j6 hc hi]; done)))
theorem md0_Mo_obeys_0_j4 {c i k : Nat} (hc : c ≠ 0 ∧ c ≠ 4 ∧ c ≠ 5 ∧ c ≠ 6 ∧ c ≠ 7 ∧ c ≠ 8 ∧ c ≠ 9 ∧ c ≠ 44) (hi : ¬ ((28 ≤ c ∧ c ≤ 39 ∧ k = 0) ∨ (c = 43 ∧ 0 ≤ k ∧ k < 3) ∨ (c = 46 ∧ 0 ≤ k ∧ k < 6) ∨ ((c = 47 ∨ c = 48) ∧ 0 ≤ k ∧ k < 4))) : ∀ (v0 : fw_V) (a2 : Int32) (a3 : Int32), mf_Mo_obeys_0_j4 v0 a2 a3 c i k = v0 c i k := by
  intro v0 a2 a3
  unfold mf_Mo_obeys_0_j4
  (try dsimp only)
  all_goals ((repeat' split) <;> (first | with_reducible rfl | (simp only [md0_28 hc hi, md0_29 hc hi, md0_31 hc hi, md0_32 hc hi, md0_33 hc hi, md0_34 hc hi, md0_35 hc hi, md0_36 hc hi, md0_37 hc hi, md0_38 hc hi, md0_39 hc hi, md0_43_0 hc hi, md0_43_1 hc hi, md0_43_2 hc hi, md0_47_0 hc hi, md0_48_0 hc hi, md0_47_1 hc hi, md0_48_1 hc hi, md0_47_2 hc hi, md0_48_2 hc hi, md0_47_3 hc hi, md0_48_3 hc hi, md0_46_0 hc hi, md0_46_1 hc hi, md0_46_2 hc hi, md0_46_3 hc hi, md0_46_4 hc hi, md0_46_5 hc hi, md0_0 hc hi, md0_9 hc hi, md0_44 hc hi, md0_send hc hi, md0_rp0 hc hi, md0_rp1 hc hi, md0_rp2 hc hi, md0_Mo_obeys_0_j5 hc hi, md0_Mo_obeys_0_j10 hc hi]; done)))
theorem md0_Mo_obeys_0_j3 {c i k : Nat} (hc : c ≠ 0 ∧ c ≠ 4 ∧ c ≠ 5 ∧ c ≠ 6 ∧ c ≠ 7 ∧ c ≠ 8 ∧ c ≠ 9 ∧ c ≠ 44) (hi : ¬ ((28 ≤ c ∧ c ≤ 39 ∧ k = 0) ∨ (c = 43 ∧ 0 ≤ k ∧ k < 3) ∨ (c = 46 ∧ 0 ≤ k ∧ k < 6) ∨ ((c = 47 ∨ c = 48) ∧ 0 ≤ k ∧ k < 4))) : ∀ (v0 : fw_V) (a2 : Int32) (a3 : Int32), mf_Mo_obeys_0_j3 v0 a2 a3 c i k = v0 c i k := by
  intro v0 a2 a3
  unfold mf_Mo_obeys_0_j3
  (try dsimp only)
  all_goals ((repeat' split) <;> (first | with_reducible rfl | (simp only [md0_28 hc hi, md0_29 hc hi, md0_31 hc hi, md0_32 hc hi, md0_33 hc hi, md0_34 hc hi, md0_35 hc hi, md0_36 hc hi, md0_37 hc hi, md0_38 hc hi, md0_39 hc hi, md0_43_0 hc hi, md0_43_1 hc hi, md0_43_2 hc hi, md0_47_0 hc hi, md0_48_0 hc hi, md0_47_1 hc hi, md0_48_1 hc hi, md0_47_2 hc hi, md0_48_2 hc hi, md0_47_3 hc hi, md0_48_3 hc hi, md0_46_0 hc hi, md0_46_1 hc hi, md0_46_2 hc hi, md0_46_3 hc hi, md0_46_4 hc hi, md0_46_5 hc hi, md0_0 hc hi, md0_9 hc hi, md0_44 hc hi, md0_send hc hi, md0_rp0 hc hi, md0_rp1 hc hi, md0_rp2 hc hi, md0_Mo_obeys_0_j4 hc hi]; done)))
theorem md0_Mo_obeys_0_j2 {c i k : Nat} (hc : c ≠ 0 ∧ c ≠ 4 ∧ c ≠ 5 ∧ c ≠ 6 ∧ c ≠ 7 ∧ c ≠ 8 ∧ c ≠ 9 ∧ c ≠ 44) (hi : ¬ ((28 ≤ c ∧ c ≤ 39 ∧ k = 0) ∨ (c = 43 ∧ 0 ≤ k ∧ k < 3) ∨ (c = 46 ∧ 0 ≤ k ∧ k < 6) ∨ ((c = 47 ∨ c = 48) ∧ 0 ≤ k ∧ k < 4))) : ∀ (v0 : fw_V) (a2 : Int32) (a3 : Int32), mf_Mo_obeys_0_j2 v0 a2 a3 c i k = v0 c i k := by
  intro v0 a2 a3
  unfold mf_Mo_obeys_0_j2
  (try dsimp only)
  all_goals ((repeat' split) <;> (first | with_reducible rfl | (simp only [md0_28 hc hi, md0_29 hc hi, md0_31 hc hi, md0_32 hc hi, md0_33 hc hi, md0_34 hc hi, md0_35 hc hi, md0_36 hc hi, md0_37 hc hi, md0_38 hc hi, md0_39 hc hi, md0_43_0 hc hi, md0_43_1 hc hi, md0_43_2 hc hi, md0_47_0 hc hi, md0_48_0 hc hi, md0_47_1 hc hi, md0_48_1 hc hi, md0_47_2 hc hi, md0_48_2 hc hi, md0_47_3 hc hi, md0_48_3 hc hi, md0_46_0 hc hi, md0_46_1 hc hi, md0_46_2 hc hi, md0_46_3 hc hi, md0_46_4 hc hi, md0_46_5 hc hi, md0_0 hc hi, md0_9 hc hi, md0_44 hc hi, md0_send hc hi, md0_rp0 hc hi, md0_rp1 hc hi, md0_rp2 hc hi, md0_Mo_reply_0 hc hi, md0_Mo_obeys_0_j3 hc hi]; done)))
theorem md0_Mo_obeys_0_j1 {c i k : Nat} (hc : c ≠ 0 ∧ c ≠ 4 ∧ c ≠ 5 ∧ c ≠ 6 ∧ c ≠ 7 ∧ c ≠ 8 ∧ c ≠ 9 ∧ c ≠ 44) (hi : ¬ ((28 ≤ c ∧ c ≤ 39 ∧ k = 0) ∨ (c = 43 ∧ 0 ≤ k ∧ k < 3) ∨ (c = 46 ∧ 0 ≤ k ∧ k < 6) ∨ ((c = 47 ∨ c = 48) ∧ 0 ≤ k ∧ k < 4))) : ∀ (v0 : fw_V) (a2 : Int32) (a3 : Int32), mf_Mo_obeys_0_j1 v0 a2 a3 c i k = v0 c i k := by
  intro v0 a2 a3
  unfold mf_Mo_obeys_0_j1
  (try dsimp only)
  all_goals ((repeat' split) <;> (first | with_reducible rfl | (simp only [md0_28 hc hi, md0_29 hc hi, md0_31 hc hi, md0_32 hc hi, md0_33 hc hi, md0_34 hc hi, md0_35 hc hi, md0_36 hc hi, md0_37 hc hi, md0_38 hc hi, md0_39 hc hi, md0_43_0 hc hi, md0_43_1 hc hi, md0_43_2 hc hi, md0_47_0 hc hi, md0_48_0 hc hi, md0_47_1 hc hi, md0_48_1 hc hi, md0_47_2 hc hi, md0_48_2 hc hi, md0_47_3 hc hi, md0_48_3 hc hi, md0_46_0 hc hi, md0_46_1 hc hi, md0_46_2 hc hi, md0_46_3 hc hi, md0_46_4 hc hi, md0_46_5 hc hi, md0_0 hc hi, md0_9 hc hi, md0_44 hc hi, md0_send hc hi, md0_rp0 hc hi, md0_rp1 hc hi, md0_rp2 hc hi, md0_Mo_obeys_0_j35 hc hi, md0_Mo_obeys_0_j2 hc hi]; done)))
theorem md0_Mo_obeys_0 {c i k : Nat} (hc : c ≠ 0 ∧ c ≠ 4 ∧ c ≠ 5 ∧ c ≠ 6 ∧ c ≠ 7 ∧ c ≠ 8 ∧ c ≠ 9 ∧ c ≠ 44) (hi : ¬ ((28 ≤ c ∧ c ≤ 39 ∧ k = 0) ∨ (c = 43 ∧ 0 ≤ k ∧ k < 3) ∨ (c = 46 ∧ 0 ≤ k ∧ k < 6) ∨ ((c = 47 ∨ c = 48) ∧ 0 ≤ k ∧ k < 4))) : ∀ (v0 : fw_V) (a2 : Int32) (a3 : Int32), mf_Mo_obeys_0 v0 a2 a3 c i k = v0 c i k := by
  intro v0 a2 a3
  unfold mf_Mo_obeys_0
  (try dsimp only)
  all_goals ((repeat' split) <;> (first | with_reducible rfl | (simp only [md0_28 hc hi, md0_29 hc hi, md0_31 hc hi, md0_32 hc hi, md0_33 hc hi, md0_34 hc hi, md0_35 hc hi, md0_36 hc hi, md0_37 hc hi, md0_38 hc hi, md0_39 hc hi, md0_43_0 hc hi, md0_43_1 hc hi, md0_43_2 hc hi, md0_47_0 hc hi, md0_48_0 hc hi, md0_47_1 hc hi, md0_48_1 hc hi, md0_47_2 hc hi, md0_48_2 hc hi, md0_47_3 hc hi, md0_48_3 hc hi, md0_46_0 hc hi, md0_46_1 hc hi, md0_46_2 hc hi, md0_46_3 hc hi, md0_46_4 hc hi, md0_46_5 hc hi, md0_0 hc hi, md0_9 hc hi, md0_44 hc hi, md0_send hc hi, md0_rp0 hc hi, md0_rp1 hc hi, md0_rp2 hc hi, md0_Mo_reply_0 hc hi, md0_Mo_obeys_0_j57 hc hi, md0_Mo_obeys_0_j1 hc hi]; done)))
theorem md0_Mo_arrives_0 {c i k : Nat} (hc : c ≠ 0 ∧ c ≠ 4 ∧ c ≠ 5 ∧ c ≠ 6 ∧ c ≠ 7 ∧ c ≠ 8 ∧ c ≠ 9 ∧ c ≠ 44) (hi : ¬ ((28 ≤ c ∧ c ≤ 39 ∧ k = 0) ∨ (c = 43 ∧ 0 ≤ k ∧ k < 3) ∨ (c = 46 ∧ 0 ≤ k ∧ k < 6) ∨ ((c = 47 ∨ c = 48) ∧ 0 ≤ k ∧ k < 4))) : ∀ (v0 : fw_V) (a2 : Int32) (a3 : Int32) (a4 : Int32), mf_Mo_arrives_0 v0 a2 a3 a4 c i k = v0 c i k := by
  intro v0 a2 a3 a4
  unfold mf_Mo_arrives_0
  (try dsimp only)
  all_goals ((repeat' split) <;> (first | with_reducible rfl | (simp only [md0_28 hc hi, md0_29 hc hi, md0_31 hc hi, md0_32 hc hi, md0_33 hc hi, md0_34 hc hi, md0_35 hc hi, md0_36 hc hi, md0_37 hc hi, md0_38 hc hi, md0_39 hc hi, md0_43_0 hc hi, md0_43_1 hc hi, md0_43_2 hc hi, md0_47_0 hc hi, md0_48_0 hc hi, md0_47_1 hc hi, md0_48_1 hc hi, md0_47_2 hc hi, md0_48_2 hc hi, md0_47_3 hc hi, md0_48_3 hc hi, md0_46_0 hc hi, md0_46_1 hc hi, md0_46_2 hc hi, md0_46_3 hc hi, md0_46_4 hc hi, md0_46_5 hc hi, md0_0 hc hi, md0_9 hc hi, md0_44 hc hi, md0_send hc hi, md0_rp0 hc hi, md0_rp1 hc hi, md0_rp2 hc hi, md0_send hc hi, md0_Mo_connect_0 hc hi, md0_Mo_obeys_0 hc hi]; done)))
theorem md0_Mo_alarm_0_j2 {c i k : Nat} (hc : c ≠ 0 ∧ c ≠ 4 ∧ c ≠ 5 ∧ c ≠ 6 ∧ c ≠ 7 ∧ c ≠ 8 ∧ c ≠ 9 ∧ c ≠ 44) (hi : ¬ ((28 ≤ c ∧ c ≤ 39 ∧ k = 0) ∨ (c = 43 ∧ 0 ≤ k ∧ k < 3) ∨ (c = 46 ∧ 0 ≤ k ∧ k < 6) ∨ ((c = 47 ∨ c = 48) ∧ 0 ≤ k ∧ k < 4))) : ∀ (v : fw_V), mf_Mo_alarm_0_j2 v c i k = v c i k := by
  intro v
  unfold mf_Mo_alarm_0_j2
  (try dsimp only)
  all_goals ((repeat' split) <;> (first | with_reducible rfl | (simp only [md0_28 hc hi, md0_29 hc hi, md0_31 hc hi, md0_32 hc hi, md0_33 hc hi, md0_34 hc hi, md0_35 hc hi, md0_36 hc hi, md0_37 hc hi, md0_38 hc hi, md0_39 hc hi, md0_43_0 hc hi, md0_43_1 hc hi, md0_43_2 hc hi, md0_47_0 hc hi, md0_48_0 hc hi, md0_47_1 hc hi, md0_48_1 hc hi, md0_47_2 hc hi, md0_48_2 hc hi, md0_47_3 hc hi, md0_48_3 hc hi, md0_46_0 hc hi, md0_46_1 hc hi, md0_46_2 hc hi, md0_46_3 hc hi, md0_46_4 hc hi, md0_46_5 hc hi, md0_0 hc hi, md0_9 hc hi, md0_44 hc hi, md0_send hc hi, md0_rp0 hc hi, md0_rp1 hc hi, md0_rp2 hc hi, md0_Mo_reply_0 hc hi]; done)))
theorem md0_Mo_alarm_0_j3 {c i k : Nat} (hc : c ≠ 0 ∧ c ≠ 4 ∧ c ≠ 5 ∧ c ≠ 6 ∧ c ≠ 7 ∧ c ≠ 8 ∧ c ≠ 9 ∧ c ≠ 44) (hi : ¬ ((28 ≤ c ∧ c ≤ 39 ∧ k = 0) ∨ (c = 43 ∧ 0 ≤ k ∧ k < 3) ∨ (c = 46 ∧ 0 ≤ k ∧ k < 6) ∨ ((c = 47 ∨ c = 48) ∧ 0 ≤ k ∧ k < 4))) : ∀ (v0 : fw_V), mf_Mo_alarm_0_j3 v0 c i k = v0 c i k := by
  intro v0
  unfold mf_Mo_alarm_0_j3
  (try dsimp only)
  all_goals ((repeat' split) <;> (first | with_reducible rfl | (simp only [md0_28 hc hi, md0_29 hc hi, md0_31 hc hi, md0_32 hc hi, md0_33 hc hi, md0_34 hc hi, md0_35 hc hi, md0_36 hc hi, md0_37 hc hi, md0_38 hc hi, md0_39 hc hi, md0_43_0 hc hi, md0_43_1 hc hi, md0_43_2 hc hi, md0_47_0 hc hi, md0_48_0 hc hi, md0_47_1 hc hi, md0_48_1 hc hi, md0_47_2 hc hi, md0_48_2 hc hi, md0_47_3 hc hi, md0_48_3 hc hi, md0_46_0 hc hi, md0_46_1 hc hi, md0_46_2 hc hi, md0_46_3 hc hi, md0_46_4 hc hi, md0_46_5 hc hi, md0_0 hc hi, md0_9 hc hi, md0_44 hc hi, md0_send hc hi, md0_rp0 hc hi, md0_rp1 hc hi, md0_rp2 hc hi, md0_Mo_alarm_0_j2 hc hi]; done)))
theorem md0_Mo_alarm_0_j1 {c i k : Nat} (hc : c ≠ 0 ∧ c ≠ 4 ∧ c ≠ 5 ∧ c ≠ 6 ∧ c ≠ 7 ∧ c ≠ 8 ∧ c ≠ 9 ∧ c ≠ 44) (hi : ¬ ((28 ≤ c ∧ c ≤ 39 ∧ k = 0) ∨ (c = 43 ∧ 0 ≤ k ∧ k < 3) ∨ (c = 46 ∧ 0 ≤ k ∧ k < 6) ∨ ((c = 47 ∨ c = 48) ∧ 0 ≤ k ∧ k < 4))) : ∀ (v0 : fw_V), mf_Mo_alarm_0_j1 v0 c i k = v0 c i k := by
  intro v0
  unfold mf_Mo_alarm_0_j1
  (try dsimp only)
  all_goals ((repeat' split) <;> (first | with_reducible rfl | (simp only [md0_28 hc hi, md0_29 hc hi, md0_31 hc hi, md0_32 hc hi, md0_33 hc hi, md0_34 hc hi, md0_35 hc hi, md0_36 hc hi, md0_37 hc hi, md0_38 hc hi, md0_39 hc hi, md0_43_0 hc hi, md0_43_1 hc hi, md0_43_2 hc hi, md0_47_0 hc hi, md0_48_0 hc hi, md0_47_1 hc hi, md0_48_1 hc hi, md0_47_2 hc hi, md0_48_2 hc hi, md0_47_3 hc hi, md0_48_3 hc hi, md0_46_0 hc hi, md0_46_1 hc hi, md0_46_2 hc hi, md0_46_3 hc hi, md0_46_4 hc hi, md0_46_5 hc hi, md0_0 hc hi, md0_9 hc hi, md0_44 hc hi, md0_send hc hi, md0_rp0 hc hi, md0_rp1 hc hi, md0_rp2 hc hi, md0_Mo_alarm_0_j2 hc hi]; done)))
theorem md0_Mo_alarm_0 {c i k : Nat} (hc : c ≠ 0 ∧ c ≠ 4 ∧ c ≠ 5 ∧ c ≠ 6 ∧ c ≠ 7 ∧ c ≠ 8 ∧ c ≠ 9 ∧ c ≠ 44) (hi : ¬ ((28 ≤ c ∧ c ≤ 39 ∧ k = 0) ∨ (c = 43 ∧ 0 ≤ k ∧ k < 3) ∨ (c = 46 ∧ 0 ≤ k ∧ k < 6) ∨ ((c = 47 ∨ c = 48) ∧ 0 ≤ k ∧ k < 4))) : ∀ (v0 : fw_V), mf_Mo_alarm_0 v0 c i k = v0 c i k := by
  intro v0
  unfold mf_Mo_alarm_0
  (try dsimp only)
  all_goals ((repeat' split) <;> (first | with_reducible rfl | (simp only [md0_28 hc hi, md0_29 hc hi, md0_31 hc hi, md0_32 hc hi, md0_33 hc hi, md0_34 hc hi, md0_35 hc hi, md0_36 hc hi, md0_37 hc hi, md0_38 hc hi, md0_39 hc hi, md0_43_0 hc hi, md0_43_1 hc hi, md0_43_2 hc hi, md0_47_0 hc hi, md0_48_0 hc hi, md0_47_1 hc hi, md0_48_1 hc hi, md0_47_2 hc hi, md0_48_2 hc hi, md0_47_3 hc hi, md0_48_3 hc hi, md0_46_0 hc hi, md0_46_1 hc hi, md0_46_2 hc hi, md0_46_3 hc hi, md0_46_4 hc hi, md0_46_5 hc hi, md0_0 hc hi, md0_9 hc hi, md0_44 hc hi, md0_send hc hi, md0_rp0 hc hi, md0_rp1 hc hi, md0_rp2 hc hi, md0_Mo_alarm_0_j3 hc hi, md0_Mo_alarm_0_j1 hc hi, md0_Mo_alarm_0_j2 hc hi]; done)))
theorem md0_Mo_pulse_0_j25 {c i k : Nat} (hc : c ≠ 0 ∧ c ≠ 4 ∧ c ≠ 5 ∧ c ≠ 6 ∧ c ≠ 7 ∧ c ≠ 8 ∧ c ≠ 9 ∧ c ≠ 44) (hi : ¬ ((28 ≤ c ∧ c ≤ 39 ∧ k = 0) ∨ (c = 43 ∧ 0 ≤ k ∧ k < 3) ∨ (c = 46 ∧ 0 ≤ k ∧ k < 6) ∨ ((c = 47 ∨ c = 48) ∧ 0 ≤ k ∧ k < 4))) : ∀ (v : fw_V), mf_Mo_pulse_0_j25 v c i k = v c i k := by
  intro v
  unfold mf_Mo_pulse_0_j25
  (try dsimp only)
  all_goals ((repeat' split) <;> (first | with_reducible rfl | (simp only [md0_28 hc hi, md0_29 hc hi, md0_31 hc hi, md0_32 hc hi, md0_33 hc hi, md0_34 hc hi, md0_35 hc hi, md0_36 hc hi, md0_37 hc hi, md0_38 hc hi, md0_39 hc hi, md0_43_0 hc hi, md0_43_1 hc hi, md0_43_2 hc hi, md0_47_0 hc hi, md0_48_0 hc hi, md0_47_1 hc hi, md0_48_1 hc hi, md0_47_2 hc hi, md0_48_2 hc hi, md0_47_3 hc hi, md0_48_3 hc hi, md0_46_0 hc hi, md0_46_1 hc hi, md0_46_2 hc hi, md0_46_3 hc hi, md0_46_4 hc hi, md0_46_5 hc hi, md0_0 hc hi, md0_9 hc hi, md0_44 hc hi, md0_send hc hi, md0_rp0 hc hi, md0_rp1 hc hi, md0_rp2 hc hi, md0_Mo_reply_0 hc hi]; done)))
theorem md0_Mo_pulse_0_j24 {c i k : Nat} (hc : c ≠ 0 ∧ c ≠ 4 ∧ c ≠ 5 ∧ c ≠ 6 ∧ c ≠ 7 ∧ c ≠ 8 ∧ c ≠ 9 ∧ c ≠ 44) (hi : ¬ ((28 ≤ c ∧ c ≤ 39 ∧ k = 0) ∨ (c = 43 ∧ 0 ≤ k ∧ k < 3) ∨ (c = 46 ∧ 0 ≤ k ∧ k < 6) ∨ ((c = 47 ∨ c = 48) ∧ 0 ≤ k ∧ k < 4))) : ∀ (v : fw_V), mf_Mo_pulse_0_j24 v c i k = v c i k := by
  intro v
  unfold mf_Mo_pulse_0_j24
  (try dsimp only)
  all_goals ((repeat' split) <;> (first | with_reducible rfl | (simp only [md0_28 hc hi, md0_29 hc hi, md0_31 hc hi, md0_32 hc hi, md0_33 hc hi, md0_34 hc hi, md0_35 hc hi, md0_36 hc hi, md0_37 hc hi, md0_38 hc hi, md0_39 hc hi, md0_43_0 hc hi, md0_43_1 hc hi, md0_43_2 hc hi, md0_47_0 hc hi, md0_48_0 hc hi, md0_47_1 hc hi, md0_48_1 hc hi, md0_47_2 hc hi, md0_48_2 hc hi, md0_47_3 hc hi, md0_48_3 hc hi, md0_46_0 hc hi, md0_46_1 hc hi, md0_46_2 hc hi, md0_46_3 hc hi, md0_46_4 hc hi, md0_46_5 hc hi, md0_0 hc hi, md0_9 hc hi, md0_44 hc hi, md0_send hc hi, md0_rp0 hc hi, md0_rp1 hc hi, md0_rp2 hc hi, md0_Mo_pulse_0_j25 hc hi]; done)))
theorem md0_Mo_pulse_0_j27 {c i k : Nat} (hc : c ≠ 0 ∧ c ≠ 4 ∧ c ≠ 5 ∧ c ≠ 6 ∧ c ≠ 7 ∧ c ≠ 8 ∧ c ≠ 9 ∧ c ≠ 44) (hi : ¬ ((28 ≤ c ∧ c ≤ 39 ∧ k = 0) ∨ (c = 43 ∧ 0 ≤ k ∧ k < 3) ∨ (c = 46 ∧ 0 ≤ k ∧ k < 6) ∨ ((c = 47 ∨ c = 48) ∧ 0 ≤ k ∧ k < 4))) : ∀ (v : fw_V), mf_Mo_pulse_0_j27 v c i k = v c i k := by
  intro v
  unfold mf_Mo_pulse_0_j27
  (try dsimp only)
  all_goals ((repeat' split) <;> (first | with_reducible rfl | (simp only [md0_28 hc hi, md0_29 hc hi, md0_31 hc hi, md0_32 hc hi, md0_33 hc hi, md0_34 hc hi, md0_35 hc hi, md0_36 hc hi, md0_37 hc hi, md0_38 hc hi, md0_39 hc hi, md0_43_0 hc hi, md0_43_1 hc hi, md0_43_2 hc hi, md0_47_0 hc hi, md0_48_0 hc hi, md0_47_1 hc hi, md0_48_1 hc hi, md0_47_2 hc hi, md0_48_2 hc hi, md0_47_3 hc hi, md0_48_3 hc hi, md0_46_0 hc hi, md0_46_1 hc hi, md0_46_2 hc hi, md0_46_3 hc hi, md0_46_4 hc hi, md0_46_5 hc hi, md0_0 hc hi, md0_9 hc hi, md0_44 hc hi, md0_send hc hi, md0_rp0 hc hi, md0_rp1 hc hi, md0_rp2 hc hi, md0_Mo_reply_0 hc hi]; done)))
theorem md0_Mo_pulse_0_j26 {c i k : Nat} (hc : c ≠ 0 ∧ c ≠ 4 ∧ c ≠ 5 ∧ c ≠ 6 ∧ c ≠ 7 ∧ c ≠ 8 ∧ c ≠ 9 ∧ c ≠ 44) (hi : ¬ ((28 ≤ c ∧ c ≤ 39 ∧ k = 0) ∨ (c = 43 ∧ 0 ≤ k ∧ k < 3) ∨ (c = 46 ∧ 0 ≤ k ∧ k < 6) ∨ ((c = 47 ∨ c = 48) ∧ 0 ≤ k ∧ k < 4))) : ∀ (v : fw_V), mf_Mo_pulse_0_j26 v c i k = v c i k := by
  intro v
  unfold mf_Mo_pulse_0_j26
  (try dsimp only)
  all_goals ((repeat' split) <;> (first | with_reducible rfl | (simp only [md0_28 hc hi, md0_29 hc hi, md0_31 hc hi, md0_32 hc hi, md0_33 hc hi, md0_34 hc hi, md0_35 hc hi, md0_36 hc hi, md0_37 hc hi, md0_38 hc hi, md0_39 hc hi, md0_43_0 hc hi, md0_43_1 hc hi, md0_43_2 hc hi, md0_47_0 hc hi, md0_48_0 hc hi, md0_47_1 hc hi, md0_48_1 hc hi, md0_47_2 hc hi, md0_48_2 hc hi, md0_47_3 hc hi, md0_48_3 hc hi, md0_46_0 hc hi, md0_46_1 hc hi, md0_46_2 hc hi, md0_46_3 hc hi, md0_46_4 hc hi, md0_46_5 hc hi, md0_0 hc hi, md0_9 hc hi, md0_44 hc hi, md0_send hc hi, md0_rp0 hc hi, md0_rp1 hc hi, md0_rp2 hc hi, md0_Mo_pulse_0_j27 hc hi]; done)))
theorem md0_Mo_pulse_0_j23 {c i k : Nat} (hc : c ≠ 0 ∧ c ≠ 4 ∧ c ≠ 5 ∧ c ≠ 6 ∧ c ≠ 7 ∧ c ≠ 8 ∧ c ≠ 9 ∧ c ≠ 44) (hi : ¬ ((28 ≤ c ∧ c ≤ 39 ∧ k = 0) ∨ (c = 43 ∧ 0 ≤ k ∧ k < 3) ∨ (c = 46 ∧ 0 ≤ k ∧ k < 6) ∨ ((c = 47 ∨ c = 48) ∧ 0 ≤ k ∧ k < 4))) : ∀ (v : fw_V) (x4 : Int32), mf_Mo_pulse_0_j23 v x4 c i k = v c i k := by
  intro v x4
  unfold mf_Mo_pulse_0_j23
  (try dsimp only)
  all_goals ((repeat' split) <;> (first | with_reducible rfl | (simp only [md0_28 hc hi, md0_29 hc hi, md0_31 hc hi, md0_32 hc hi, md0_33 hc hi, md0_34 hc hi, md0_35 hc hi, md0_36 hc hi, md0_37 hc hi, md0_38 hc hi, md0_39 hc hi, md0_43_0 hc hi, md0_43_1 hc hi, md0_43_2 hc hi, md0_47_0 hc hi, md0_48_0 hc hi, md0_47_1 hc hi, md0_48_1 hc hi, md0_47_2 hc hi, md0_48_2 hc hi, md0_47_3 hc hi, md0_48_3 hc hi, md0_46_0 hc hi, md0_46_1 hc hi, md0_46_2 hc hi, md0_46_3 hc hi, md0_46_4 hc hi, md0_46_5 hc hi, md0_0 hc hi, md0_9 hc hi, md0_44 hc hi, md0_send hc hi, md0_rp0 hc hi, md0_rp1 hc hi, md0_rp2 hc hi, md0_Mo_pulse_0_j24 hc hi, md0_Mo_pulse_0_j26 hc hi]; done)))
theorem md0_Mo_pulse_0_j22 {c i k : Nat} (hc : c ≠ 0 ∧ c ≠ 4 ∧ c ≠ 5 ∧ c ≠ 6 ∧ c ≠ 7 ∧ c ≠ 8 ∧ c ≠ 9 ∧ c ≠ 44) (hi : ¬ ((28 ≤ c ∧ c ≤ 39 ∧ k = 0) ∨ (c = 43 ∧ 0 ≤ k ∧ k < 3) ∨ (c = 46 ∧ 0 ≤ k ∧ k < 6) ∨ ((c = 47 ∨ c = 48) ∧ 0 ≤ k ∧ k < 4))) : ∀ (v : fw_V) (x4 : Int32), mf_Mo_pulse_0_j22 v x4 c i k = v c i k := by
  intro v x4
  unfold mf_Mo_pulse_0_j22
  (try dsimp only)
  all_goals ((repeat' split) <;> (first | with_reducible rfl | (simp only [md0_28 hc hi, md0_29 hc hi, md0_31 hc hi, md0_32 hc hi, md0_33 hc hi, md0_34 hc hi, md0_35 hc hi, md0_36 hc hi, md0_37 hc hi, md0_38 hc hi, md0_39 hc hi, md0_43_0 hc hi, md0_43_1 hc hi, md0_43_2 hc hi, md0_47_0 hc hi, md0_48_0 hc hi, md0_47_1 hc hi, md0_48_1 hc hi, md0_47_2 hc hi, md0_48_2 hc hi, md0_47_3 hc hi, md0_48_3 hc hi, md0_46_0 hc hi, md0_46_1 hc hi, md0_46_2 hc hi, md0_46_3 hc hi, md0_46_4 hc hi, md0_46_5 hc hi, md0_0 hc hi, md0_9 hc hi, md0_44 hc hi, md0_send hc hi, md0_rp0 hc hi, md0_rp1 hc hi, md0_rp2 hc hi, md0_Mo_pulse_0_j23 hc hi]; done)))
theorem md0_Mo_pulse_0_j28 {c i k : Nat} (hc : c ≠ 0 ∧ c ≠ 4 ∧ c ≠ 5 ∧ c ≠ 6 ∧ c ≠ 7 ∧ c ≠ 8 ∧ c ≠ 9 ∧ c ≠ 44) (hi : ¬ ((28 ≤ c ∧ c ≤ 39 ∧ k = 0) ∨ (c = 43 ∧ 0 ≤ k ∧ k < 3) ∨ (c = 46 ∧ 0 ≤ k ∧ k < 6) ∨ ((c = 47 ∨ c = 48) ∧ 0 ≤ k ∧ k < 4))) : ∀ (v : fw_V) (x4 : Int32) (x90 : Int32), mf_Mo_pulse_0_j28 v x4 x90 c i k = v c i k := by
  intro v x4 x90
  unfold mf_Mo_pulse_0_j28
  (try dsimp only)
  all_goals ((repeat' split) <;> (first | with_reducible rfl | (simp only [md0_28 hc hi, md0_29 hc hi, md0_31 hc hi, md0_32 hc hi, md0_33 hc hi, md0_34 hc hi, md0_35 hc hi, md0_36 hc hi, md0_37 hc hi, md0_38 hc hi, md0_39 hc hi, md0_43_0 hc hi, md0_43_1 hc hi, md0_43_2 hc hi, md0_47_0 hc hi, md0_48_0 hc hi, md0_47_1 hc hi, md0_48_1 hc hi, md0_47_2 hc hi, md0_48_2 hc hi, md0_47_3 hc hi, md0_48_3 hc hi, md0_46_0 hc hi, md0_46_1 hc hi, md0_46_2 hc hi, md0_46_3 hc hi, md0_46_4 hc hi, md0_46_5 hc hi, md0_0 hc hi, md0_9 hc hi, md0_44 hc hi, md0_send hc hi, md0_rp0 hc hi, md0_rp1 hc hi, md0_rp2 hc hi, md0_Mo_pulse_0_j24 hc hi, md0_Mo_pulse_0_j26 hc hi]; done)))
theorem md0_Mo_pulse_0_j21 {c i k : Nat} (hc : c ≠ 0 ∧ c ≠ 4 ∧ c ≠ 5 ∧ c ≠ 6 ∧ c ≠ 7 ∧ c ≠ 8 ∧ c ≠ 9 ∧ c ≠ 44) (hi : ¬ ((28 ≤ c ∧ c ≤ 39 ∧ k = 0) ∨ (c = 43 ∧ 0 ≤ k ∧ k < 3) ∨ (c = 46 ∧ 0 ≤ k ∧ k < 6) ∨ ((c = 47 ∨ c = 48) ∧ 0 ≤ k ∧ k < 4))) : ∀ (v : fw_V), mf_Mo_pulse_0_j21 v c i k = v c i k := by
  intro v
  unfold mf_Mo_pulse_0_j21
  (try dsimp only)
  all_goals ((repeat' split) <;> (first | with_reducible rfl | (simp only [md0_28 hc hi, md0_29 hc hi, md0_31 hc hi, md0_32 hc hi, md0_33 hc hi, md0_34 hc hi, md0_35 hc hi, md0_36 hc hi, md0_37 hc hi, md0_38 hc hi, md0_39 hc hi, md0_43_0 hc hi, md0_43_1 hc hi, md0_43_2 hc hi, md0_47_0 hc hi, md0_48_0 hc hi, md0_47_1 hc hi, md0_48_1 hc hi, md0_47_2 hc hi, md0_48_2 hc hi, md0_47_3 hc hi, md0_48_3 hc hi, md0_46_0 hc hi, md0_46_1 hc hi, md0_46_2 hc hi, md0_46_3 hc hi, md0_46_4 hc hi, md0_46_5 hc hi, md0_0 hc hi, md0_9 hc hi, md0_44 hc hi, md0_send hc hi, md0_rp0 hc hi, md0_rp1 hc hi, md0_rp2 hc hi, md0_Mo_pulse_0_j22 hc hi, md0_Mo_pulse_0_j28 hc hi]; done)))
theorem md0_Mo_pulse_0_j20 {c i k : Nat} (hc : c ≠ 0 ∧ c ≠ 4 ∧ c ≠ 5 ∧ c ≠ 6 ∧ c ≠ 7 ∧ c ≠ 8 ∧ c ≠ 9 ∧ c ≠ 44) (hi : ¬ ((28 ≤ c ∧ c ≤ 39 ∧ k = 0) ∨ (c = 43 ∧ 0 ≤ k ∧ k < 3) ∨ (c = 46 ∧ 0 ≤ k ∧ k < 6) ∨ ((c = 47 ∨ c = 48) ∧ 0 ≤ k ∧ k < 4))) : ∀ (v : fw_V), mf_Mo_pulse_0_j20 v c i k = v c i k := by
  intro v
  unfold mf_Mo_pulse_0_j20
  (try dsimp only)
  all_goals ((repeat' split) <;> (first | with_reducible rfl | (simp only [md0_28 hc hi, md0_29 hc hi, md0_31 hc hi, md0_32 hc hi, md0_33 hc hi, md0_34 hc hi, md0_35 hc hi, md0_36 hc hi, md0_37 hc hi, md0_38 hc hi, md0_39 hc hi, md0_43_0 hc hi, md0_43_1 hc hi, md0_43_2 hc hi, md0_47_0 hc hi, md0_48_0 hc hi, md0_47_1 hc hi, md0_48_1 hc hi, md0_47_2 hc hi, md0_48_2 hc hi, md0_47_3 hc hi, md0_48_3 hc hi, md0_46_0 hc hi, md0_46_1 hc hi, md0_46_2 hc hi, md0_46_3 hc hi, md0_46_4 hc hi, md0_46_5 hc hi, md0_0 hc hi, md0_9 hc hi, md0_44 hc hi, md0_send hc hi, md0_rp0 hc hi, md0_rp1 hc hi, md0_rp2 hc hi, md0_Mo_pulse_0_j21 hc hi]; done)))
theorem md0_Mo_pulse_0_j33 {c i k : Nat} (hc : c ≠ 0 ∧ c ≠ 4 ∧ c ≠ 5 ∧ c ≠ 6 ∧ c ≠ 7 ∧ c ≠ 8 ∧ c ≠ 9 ∧ c ≠ 44) (hi : ¬ ((28 ≤ c ∧ c ≤ 39 ∧ k = 0) ∨ (c = 43 ∧ 0 ≤ k ∧ k < 3) ∨ (c = 46 ∧ 0 ≤ k ∧ k < 6) ∨ ((c = 47 ∨ c = 48) ∧ 0 ≤ k ∧ k < 4))) : ∀ (v : fw_V), mf_Mo_pulse_0_j33 v c i k = v c i k := by
  intro v
  unfold mf_Mo_pulse_0_j33
  (try dsimp only)
  all_goals ((repeat' split) <;> (first | with_reducible rfl | (simp only [md0_28 hc hi, md0_29 hc hi, md0_31 hc hi, md0_32 hc hi, md0_33 hc hi, md0_34 hc hi, md0_35 hc hi, md0_36 hc hi, md0_37 hc hi, md0_38 hc hi, md0_39 hc hi, md0_43_0 hc hi, md0_43_1 hc hi, md0_43_2 hc hi, md0_47_0 hc hi, md0_48_0 hc hi, md0_47_1 hc hi, md0_48_1 hc hi, md0_47_2 hc hi, md0_48_2 hc hi, md0_47_3 hc hi, md0_48_3 hc hi, md0_46_0 hc hi, md0_46_1 hc hi, md0_46_2 hc hi, md0_46_3 hc hi, md0_46_4 hc hi, md0_46_5 hc hi, md0_0 hc hi, md0_9 hc hi, md0_44 hc hi, md0_send hc hi, md0_rp0 hc hi, md0_rp1 hc hi, md0_rp2 hc hi, md0_Mo_pulse_0_j27 hc hi]; done)))
theorem md0_Mo_pulse_0_j34 {c i k : Nat} (hc : c ≠ 0 ∧ c ≠ 4 ∧ c ≠ 5 ∧ c ≠ 6 ∧ c ≠ 7 ∧ c ≠ 8 ∧ c ≠ 9 ∧ c ≠ 44) (hi : ¬ ((28 ≤ c ∧ c ≤ 39 ∧ k = 0) ∨ (c = 43 ∧ 0 ≤ k ∧ k < 3) ∨ (c = 46 ∧ 0 ≤ k ∧ k < 6) ∨ ((c = 47 ∨ c = 48) ∧ 0 ≤ k ∧ k < 4))) : ∀ (v : fw_V), mf_Mo_pulse_0_j34 v c i k = v c i k := by
  intro v
  unfold mf_Mo_pulse_0_j34
  (try dsimp only)
  all_goals ((repeat' split) <;> (first | with_reducible rfl | (simp only [md0_28 hc hi, md0_29 hc hi, md0_31 hc hi, md0_32 hc hi, md0_33 hc hi, md0_34 hc hi, md0_35 hc hi, md0_36 hc hi, md0_37 hc hi, md0_38 hc hi, md0_39 hc hi, md0_43_0 hc hi, md0_43_1 hc hi, md0_43_2 hc hi, md0_47_0 hc hi, md0_48_0 hc hi, md0_47_1 hc hi, md0_48_1 hc hi, md0_47_2 hc hi, md0_48_2 hc hi, md0_47_3 hc hi, md0_48_3 hc hi, md0_46_0 hc hi, md0_46_1 hc hi, md0_46_2 hc hi, md0_46_3 hc hi, md0_46_4 hc hi, md0_46_5 hc hi, md0_0 hc hi, md0_9 hc hi, md0_44 hc hi, md0_send hc hi, md0_rp0 hc hi, md0_rp1 hc hi, md0_rp2 hc hi, md0_Mo_pulse_0_j27 hc hi]; done)))
theorem md0_Mo_pulse_0_j32 {c i k : Nat} (hc : c ≠ 0 ∧ c ≠ 4 ∧ c ≠ 5 ∧ c ≠ 6 ∧ c ≠ 7 ∧ c ≠ 8 ∧ c ≠ 9 ∧ c ≠ 44) (hi : ¬ ((28 ≤ c ∧ c ≤ 39 ∧ k = 0) ∨ (c = 43 ∧ 0 ≤ k ∧ k < 3) ∨ (c = 46 ∧ 0 ≤ k ∧ k < 6) ∨ ((c = 47 ∨ c = 48) ∧ 0 ≤ k ∧ k < 4))) : ∀ (v : fw_V) (x4 : Int32), mf_Mo_pulse_0_j32 v x4 c i k = v c i k := by
  intro v x4
  unfold mf_Mo_pulse_0_j32
  (try dsimp only)
  all_goals ((repeat' split) <;> (first | with_reducible rfl | (simp only [md0_28 hc hi, md0_29 hc hi, md0_31 hc hi, md0_32 hc hi, md0_33 hc hi, md0_34 hc hi, md0_35 hc hi, md0_36 hc hi, md0_37 hc hi, md0_38 hc hi, md0_39 hc hi, md0_43_0 hc hi, md0_43_1 hc hi, md0_43_2 hc hi, md0_47_0 hc hi, md0_48_0 hc hi, md0_47_1 hc hi, md0_48_1 hc hi, md0_47_2 hc hi, md0_48_2 hc hi, md0_47_3 hc hi, md0_48_3 hc hi, md0_46_0 hc hi, md0_46_1 hc hi, md0_46_2 hc hi, md0_46_3 hc hi, md0_46_4 hc hi, md0_46_5 hc hi, md0_0 hc hi, md0_9 hc hi, md0_44 hc hi, md0_send hc hi, md0_rp0 hc hi, md0_rp1 hc hi, md0_rp2 hc hi, md0_Mo_pulse_0_j33 hc hi, md0_Mo_pulse_0_j34 hc hi]; done)))
theorem md0_Mo_pulse_0_j31 {c i k : Nat} (hc : c ≠ 0 ∧ c ≠ 4 ∧ c ≠ 5 ∧ c ≠ 6 ∧ c ≠ 7 ∧ c ≠ 8 ∧ c ≠ 9 ∧ c ≠ 44) (hi : ¬ ((28 ≤ c ∧ c ≤ 39 ∧ k = 0) ∨ (c = 43 ∧ 0 ≤ k ∧ k < 3) ∨ (c = 46 ∧ 0 ≤ k ∧ k < 6) ∨ ((c = 47 ∨ c = 48) ∧ 0 ≤ k ∧ k < 4))) : ∀ (v : fw_V) (x4 : Int32), mf_Mo_pulse_0_j31 v x4 c i k = v c i k := by
  intro v x4
  unfold mf_Mo_pulse_0_j31
  (try dsimp only)
  all_goals ((repeat' split) <;> (first | with_reducible rfl | (simp only [md0_28 hc hi, md0_29 hc hi, md0_31 hc hi, md0_32 hc hi, md0_33 hc hi, md0_34 hc hi, md0_35 hc hi, md0_36 hc hi, md0_37 hc hi, md0_38 hc hi, md0_39 hc hi, md0_43_0 hc hi, md0_43_1 hc hi, md0_43_2 hc hi, md0_47_0 hc hi, md0_48_0 hc hi, md0_47_1 hc hi, md0_48_1 hc hi, md0_47_2 hc hi, md0_48_2 hc hi, md0_47_3 hc hi, md0_48_3 hc hi, md0_46_0 hc hi, md0_46_1 hc hi, md0_46_2 hc hi, md0_46_3 hc hi, md0_46_4 hc hi, md0_46_5 hc hi, md0_0 hc hi, md0_9 hc hi, md0_44 hc hi, md0_send hc hi, md0_rp0 hc hi, md0_rp1 hc hi, md0_rp2 hc hi, md0_Mo_pulse_0_j32 hc hi]; done)))
theorem md0_Mo_pulse_0_j35 {c i k : Nat} (hc : c ≠ 0 ∧ c ≠ 4 ∧ c ≠ 5 ∧ c ≠ 6 ∧ c ≠ 7 ∧ c ≠ 8 ∧ c ≠ 9 ∧ c ≠ 44) (hi : ¬ ((28 ≤ c ∧ c ≤ 39 ∧ k = 0) ∨ (c = 43 ∧ 0 ≤ k ∧ k < 3) ∨ (c = 46 ∧ 0 ≤ k ∧ k < 6) ∨ ((c = 47 ∨ c = 48) ∧ 0 ≤ k ∧ k < 4))) : ∀ (v : fw_V) (x4 : Int32) (x90 : Int32), mf_Mo_pulse_0_j35 v x4 x90 c i k = v c i k := by
  intro v x4 x90
  unfold mf_Mo_pulse_0_j35
  (try dsimp only)
  all_goals ((repeat' split) <;> (first | with_reducible rfl | (simp only [md0_28 hc hi, md0_29 hc hi, md0_31 hc hi, md0_32 hc hi, md0_33 hc hi, md0_34 hc hi, md0_35 hc hi, md0_36 hc hi, md0_37 hc hi, md0_38 hc hi, md0_39 hc hi, md0_43_0 hc hi, md0_43_1 hc hi, md0_43_2 hc hi, md0_47_0 hc hi, md0_48_0 hc hi, md0_47_1 hc hi, md0_48_1 hc hi, md0_47_2 hc hi, md0_48_2 hc hi, md0_47_3 hc hi, md0_48_3 hc hi, md0_46_0 hc hi, md0_46_1 hc hi, md0_46_2 hc hi, md0_46_3 hc hi, md0_46_4 hc hi, md0_46_5 hc hi, md0_0 hc hi, md0_9 hc hi, md0_44 hc hi, md0_send hc hi, md0_rp0 hc hi, md0_rp1 hc hi, md0_rp2 hc hi, md0_Mo_pulse_0_j33 hc hi, md0_Mo_pulse_0_j34 hc hi]; done)))
theorem md0_Mo_pulse_0_j30 {c i k : Nat} (hc : c ≠ 0 ∧ c ≠ 4 ∧ c ≠ 5 ∧ c ≠ 6 ∧ c ≠ 7 ∧ c ≠ 8 ∧ c ≠ 9 ∧ c ≠ 44) (hi : ¬ ((28 ≤ c ∧ c ≤ 39 ∧ k = 0) ∨ (c = 43 ∧ 0 ≤ k ∧ k < 3) ∨ (c = 46 ∧ 0 ≤ k ∧ k < 6) ∨ ((c = 47 ∨ c = 48) ∧ 0 ≤ k ∧ k < 4))) : ∀ (v : fw_V), mf_Mo_pulse_0_j30 v c i k = v c i k := by
  intro v
  unfold mf_Mo_pulse_0_j30
  (try dsimp only)
  all_goals ((repeat' split) <;> (first | with_reducible rfl | (simp only [md0_28 hc hi, md0_29 hc hi, md0_31 hc hi, md0_32 hc hi, md0_33 hc hi, md0_34 hc hi, md0_35 hc hi, md0_36 hc hi, md0_37 hc hi, md0_38 hc hi, md0_39 hc hi, md0_43_0 hc hi, md0_43_1 hc hi, md0_43_2 hc hi, md0_47_0 hc hi, md0_48_0 hc hi, md0_47_1 hc hi, md0_48_1 hc hi, md0_47_2 hc hi, md0_48_2 hc hi, md0_47_3 hc hi, md0_48_3 hc hi, md0_46_0 hc hi, md0_46_1 hc hi, md0_46_2 hc hi, md0_46_3 hc hi, md0_46_4 hc hi, md0_46_5 hc hi, md0_0 hc hi, md0_9 hc hi, md0_44 hc hi, md0_send hc hi, md0_rp0 hc hi, md0_rp1 hc hi, md0_rp2 hc hi, md0_Mo_pulse_0_j31 hc hi, md0_Mo_pulse_0_j35 hc hi]; done)))
theorem md0_Mo_pulse_0_j29 {c i k : Nat} (hc : c ≠ 0 ∧ c ≠ 4 ∧ c ≠ 5 ∧ c ≠ 6 ∧ c ≠ 7 ∧ c ≠ 8 ∧ c ≠ 9 ∧ c ≠ 44) (hi : ¬ ((28 ≤ c ∧ c ≤ 39 ∧ k = 0) ∨ (c = 43 ∧ 0 ≤ k ∧ k < 3) ∨ (c = 46 ∧ 0 ≤ k ∧ k < 6) ∨ ((c = 47 ∨ c = 48) ∧ 0 ≤ k ∧ k < 4))) : ∀ (v : fw_V), mf_Mo_pulse_0_j29 v c i k = v c i k := by
  intro v
  unfold mf_Mo_pulse_0_j29
  (try dsimp only)
  all_goals ((repeat' split) <;> (first | with_reducible rfl | (simp only [md0_28 hc hi, md0_29 hc hi, md0_31 hc hi, md0_32 hc hi, md0_33 hc hi, md0_34 hc hi, md0_35 hc hi, md0_36 hc hi, md0_37 hc hi, md0_38 hc hi, md0_39 hc hi, md0_43_0 hc hi, md0_43_1 hc hi, md0_43_2 hc hi, md0_47_0 hc hi, md0_48_0 hc hi, md0_47_1 hc hi, md0_48_1 hc hi, md0_47_2 hc hi, md0_48_2 hc hi, md0_47_3 hc hi, md0_48_3 hc hi, md0_46_0 hc hi, md0_46_1 hc hi, md0_46_2 hc hi, md0_46_3 hc hi, md0_46_4 hc hi, md0_46_5 hc hi, md0_0 hc hi, md0_9 hc hi, md0_44 hc hi, md0_send hc hi, md0_rp0 hc hi, md0_rp1 hc hi, md0_rp2 hc hi, md0_Mo_pulse_0_j30 hc hi]; done)))
theorem md0_Mo_pulse_0_j19 {c i k : Nat} (hc : c ≠ 0 ∧ c ≠ 4 ∧ c ≠ 5 ∧ c ≠ 6 ∧ c ≠ 7 ∧ c ≠ 8 ∧ c ≠ 9 ∧ c ≠ 44) (hi : ¬ ((28 ≤ c ∧ c ≤ 39 ∧ k = 0) ∨ (c = 43 ∧ 0 ≤ k ∧ k < 3) ∨ (c = 46 ∧ 0 ≤ k ∧ k < 6) ∨ ((c = 47 ∨ c = 48) ∧ 0 ≤ k ∧ k < 4))) : ∀ (v : fw_V) (x4 : Int32), mf_Mo_pulse_0_j19 v x4 c i k = v c i k := by
  intro v x4
  unfold mf_Mo_pulse_0_j19
  (try dsimp only)
  all_goals ((repeat' split) <;> (first | with_reducible rfl | (simp only [md0_28 hc hi, md0_29 hc hi, md0_31 hc hi, md0_32 hc hi, md0_33 hc hi, md0_34 hc hi, md0_35 hc hi, md0_36 hc hi, md0_37 hc hi, md0_38 hc hi, md0_39 hc hi, md0_43_0 hc hi, md0_43_1 hc hi, md0_43_2 hc hi, md0_47_0 hc hi, md0_48_0 hc hi, md0_47_1 hc hi, md0_48_1 hc hi, md0_47_2 hc hi, md0_48_2 hc hi, md0_47_3 hc hi, md0_48_3 hc hi, md0_46_0 hc hi, md0_46_1 hc hi, md0_46_2 hc hi, md0_46_3 hc hi, md0_46_4 hc hi, md0_46_5 hc hi, md0_0 hc hi, md0_9 hc hi, md0_44 hc hi, md0_send hc hi, md0_rp0 hc hi, md0_rp1 hc hi, md0_rp2 hc hi, md0_Mo_pulse_0_j20 hc hi, md0_Mo_pulse_0_j29 hc hi]; done)))
theorem md0_Mo_pulse_0_j18 {c i k : Nat} (hc : c ≠ 0 ∧ c ≠ 4 ∧ c ≠ 5 ∧ c ≠ 6 ∧ c ≠ 7 ∧ c ≠ 8 ∧ c ≠ 9 ∧ c ≠ 44) (hi : ¬ ((28 ≤ c ∧ c ≤ 39 ∧ k = 0) ∨ (c = 43 ∧ 0 ≤ k ∧ k < 3) ∨ (c = 46 ∧ 0 ≤ k ∧ k < 6) ∨ ((c = 47 ∨ c = 48) ∧ 0 ≤ k ∧ k < 4))) : ∀ (v : fw_V) (x4 : Int32), mf_Mo_pulse_0_j18 v x4 c i k = v c i k := by
  intro v x4
  unfold mf_Mo_pulse_0_j18
  (try dsimp only)
  all_goals ((repeat' split) <;> (first | with_reducible rfl | (simp only [md0_28 hc hi, md0_29 hc hi, md0_31 hc hi, md0_32 hc hi, md0_33 hc hi, md0_34 hc hi, md0_35 hc hi, md0_36 hc hi, md0_37 hc hi, md0_38 hc hi, md0_39 hc hi, md0_43_0 hc hi, md0_43_1 hc hi, md0_43_2 hc hi, md0_47_0 hc hi, md0_48_0 hc hi, md0_47_1 hc hi, md0_48_1 hc hi, md0_47_2 hc hi, md0_48_2 hc hi, md0_47_3 hc hi, md0_48_3 hc hi, md0_46_0 hc hi, md0_46_1 hc hi, md0_46_2 hc hi, md0_46_3 hc hi, md0_46_4 hc hi, md0_46_5 hc hi, md0_0 hc hi, md0_9 hc hi, md0_44 hc hi, md0_send hc hi, md0_rp0 hc hi, md0_rp1 hc hi, md0_rp2 hc hi, md0_Mo_pulse_0_j19 hc hi]; done)))
theorem md0_Mo_pulse_0_j36 {c i k : Nat} (hc : c ≠ 0 ∧ c ≠ 4 ∧ c ≠ 5 ∧ c ≠ 6 ∧ c ≠ 7 ∧ c ≠ 8 ∧ c ≠ 9 ∧ c ≠ 44) (hi : ¬ ((28 ≤ c ∧ c ≤ 39 ∧ k = 0) ∨ (c = 43 ∧ 0 ≤ k ∧ k < 3) ∨ (c = 46 ∧ 0 ≤ k ∧ k < 6) ∨ ((c = 47 ∨ c = 48) ∧ 0 ≤ k ∧ k < 4))) : ∀ (v : fw_V) (x4 : Int32) (x90 : Int32), mf_Mo_pulse_0_j36 v x4 x90 c i k = v c i k := by
  intro v x4 x90
  unfold mf_Mo_pulse_0_j36
  (try dsimp only)
  all_goals ((repeat' split) <;> (first | with_reducible rfl | (simp only [md0_28 hc hi, md0_29 hc hi, md0_31 hc hi, md0_32 hc hi, md0_33 hc hi, md0_34 hc hi, md0_35 hc hi, md0_36 hc hi, md0_37 hc hi, md0_38 hc hi, md0_39 hc hi, md0_43_0 hc hi, md0_43_1 hc hi, md0_43_2 hc hi, md0_47_0 hc hi, md0_48_0 hc hi, md0_47_1 hc hi, md0_48_1 hc hi, md0_47_2 hc hi, md0_48_2 hc hi, md0_47_3 hc hi, md0_48_3 hc hi, md0_46_0 hc hi, md0_46_1 hc hi, md0_46_2 hc hi, md0_46_3 hc hi, md0_46_4 hc hi, md0_46_5 hc hi, md0_0 hc hi, md0_9 hc hi, md0_44 hc hi, md0_send hc hi, md0_rp0 hc hi, md0_rp1 hc hi, md0_rp2 hc hi, md0_Mo_pulse_0_j20 hc hi, md0_Mo_pulse_0_j29 hc hi]; done)))
theorem md0_Mo_pulse_0_j17 {c i k : Nat} (hc : c ≠ 0 ∧ c ≠ 4 ∧ c ≠ 5 ∧ c ≠ 6 ∧ c ≠ 7 ∧ c ≠ 8 ∧ c ≠ 9 ∧ c ≠ 44) (hi : ¬ ((28 ≤ c ∧ c ≤ 39 ∧ k = 0) ∨ (c = 43 ∧ 0 ≤ k ∧ k < 3) ∨ (c = 46 ∧ 0 ≤ k ∧ k < 6) ∨ ((c = 47 ∨ c = 48) ∧ 0 ≤ k ∧ k < 4))) : ∀ (v : fw_V), mf_Mo_pulse_0_j17 v c i k = v c i k := by
  intro v
  unfold mf_Mo_pulse_0_j17
  (try dsimp only)
  all_goals ((repeat' split) <;> (first | with_reducible rfl | (simp only [md0_28 hc hi, md0_29 hc hi, md0_31 hc hi, md0_32 hc hi, md0_33 hc hi, md0_34 hc hi, md0_35 hc hi, md0_36 hc hi, md0_37 hc hi, md0_38 hc hi, md0_39 hc hi, md0_43_0 hc hi, md0_43_1 hc hi, md0_43_2 hc hi, md0_47_0 hc hi, md0_48_0 hc hi, md0_47_1 hc hi, md0_48_1 hc hi, md0_47_2 hc hi, md0_48_2 hc hi, md0_47_3 hc hi, md0_48_3 hc hi, md0_46_0 hc hi, md0_46_1 hc hi, md0_46_2 hc hi, md0_46_3 hc hi, md0_46_4 hc hi, md0_46_5 hc hi, md0_0 hc hi, md0_9 hc hi, md0_44 hc hi, md0_send hc hi, md0_rp0 hc hi, md0_rp1 hc hi, md0_rp2 hc hi, md0_Mo_pulse_0_j18 hc hi, md0_Mo_pulse_0_j36 hc hi]; done)))
theorem md0_Mo_pulse_0_j16 {c i k : Nat} (hc : c ≠ 0 ∧ c ≠ 4 ∧ c ≠ 5 ∧ c ≠ 6 ∧ c ≠ 7 ∧ c ≠ 8 ∧ c ≠ 9 ∧ c ≠ 44) (hi : ¬ ((28 ≤ c ∧ c ≤ 39 ∧ k = 0) ∨ (c = 43 ∧ 0 ≤ k ∧ k < 3) ∨ (c = 46 ∧ 0 ≤ k ∧ k < 6) ∨ ((c = 47 ∨ c = 48) ∧ 0 ≤ k ∧ k < 4))) : ∀ (v : fw_V), mf_Mo_pulse_0_j16 v c i k = v c i k := by
  intro v
  unfold mf_Mo_pulse_0_j16
  (try dsimp only)
  all_goals ((repeat' split) <;> (first | with_reducible rfl | (simp only [md0_28 hc hi, md0_29 hc hi, md0_31 hc hi, md0_32 hc hi, md0_33 hc hi, md0_34 hc hi, md0_35 hc hi, md0_36 hc hi, md0_37 hc hi, md0_38 hc hi, md0_39 hc hi, md0_43_0 hc hi, md0_43_1 hc hi, md0_43_2 hc hi, md0_47_0 hc hi, md0_48_0 hc hi, md0_47_1 hc hi, md0_48_1 hc hi, md0_47_2 hc hi, md0_48_2 hc hi, md0_47_3 hc hi, md0_48_3 hc hi, md0_46_0 hc hi, md0_46_1 hc hi, md0_46_2 hc hi, md0_46_3 hc hi, md0_46_4 hc hi, md0_46_5 hc hi, md0_0 hc hi, md0_9 hc hi, md0_44 hc hi, md0_send hc hi, md0_rp0 hc hi, md0_rp1 hc hi, md0_rp2 hc hi, md0_Mo_pulse_0_j17 hc hi]; done)))
theorem md0_Mo_pulse_0_j46 {c i k : Nat} (hc : c ≠ 0 ∧ c ≠ 4 ∧ c ≠ 5 ∧ c ≠ 6 ∧ c ≠ 7 ∧ c ≠ 8 ∧ c ≠ 9 ∧ c ≠ 44) (hi : ¬ ((28 ≤ c ∧ c ≤ 39 ∧ k = 0) ∨ (c = 43 ∧ 0 ≤ k ∧ k < 3) ∨ (c = 46 ∧ 0 ≤ k ∧ k < 6) ∨ ((c = 47 ∨ c = 48) ∧ 0 ≤ k ∧ k < 4))) : ∀ (v : fw_V), mf_Mo_pulse_0_j46 v c i k = v c i k := by
  intro v
  unfold mf_Mo_pulse_0_j46
  (try dsimp only)
  all_goals ((repeat' split) <;> (first | with_reducible rfl | (simp only [md0_28 hc hi, md0_29 hc hi, md0_31 hc hi, md0_32 hc hi, md0_33 hc hi, md0_34 hc hi, md0_35 hc hi, md0_36 hc hi, md0_37 hc hi, md0_38 hc hi, md0_39 hc hi, md0_43_0 hc hi, md0_43_1 hc hi, md0_43_2 hc hi, md0_47_0 hc hi, md0_48_0 hc hi, md0_47_1 hc hi, md0_48_1 hc hi, md0_47_2 hc hi, md0_48_2 hc hi, md0_47_3 hc hi, md0_48_3 hc hi, md0_46_0 hc hi, md0_46_1 hc hi, md0_46_2 hc hi, md0_46_3 hc hi, md0_46_4 hc hi, md0_46_5 hc hi, md0_0 hc hi, md0_9 hc hi, md0_44 hc hi, md0_send hc hi, md0_rp0 hc hi, md0_rp1 hc hi, md0_rp2 hc hi, md0_Mo_reply_0 hc hi]; done)))
theorem md0_Mo_pulse_0_j45 {c i k : Nat} (hc : c ≠ 0 ∧ c ≠ 4 ∧ c ≠ 5 ∧ c ≠ 6 ∧ c ≠ 7 ∧ c ≠ 8 ∧ c ≠ 9 ∧ c ≠ 44) (hi : ¬ ((28 ≤ c ∧ c ≤ 39 ∧ k = 0) ∨ (c = 43 ∧ 0 ≤ k ∧ k < 3) ∨ (c = 46 ∧ 0 ≤ k ∧ k < 6) ∨ ((c = 47 ∨ c = 48) ∧ 0 ≤ k ∧ k < 4))) : ∀ (v : fw_V), mf_Mo_pulse_0_j45 v c i k = v c i k := by
  intro v
  unfold mf_Mo_pulse_0_j45
  (try dsimp only)
  all_goals ((repeat' split) <;> (first | with_reducible rfl | (simp only [md0_28 hc hi, md0_29 hc hi, md0_31 hc hi, md0_32 hc hi, md0_33 hc hi, md0_34 hc hi, md0_35 hc hi, md0_36 hc hi, md0_37 hc hi, md0_38 hc hi, md0_39 hc hi, md0_43_0 hc hi, md0_43_1 hc hi, md0_43_2 hc hi, md0_47_0 hc hi, md0_48_0 hc hi, md0_47_1 hc hi, md0_48_1 hc hi, md0_47_2 hc hi, md0_48_2 hc hi, md0_47_3 hc hi, md0_48_3 hc hi, md0_46_0 hc hi, md0_46_1 hc hi, md0_46_2 hc hi, md0_46_3 hc hi, md0_46_4 hc hi, md0_46_5 hc hi, md0_0 hc hi, md0_9 hc hi, md0_44 hc hi, md0_send hc hi, md0_rp0 hc hi, md0_rp1 hc hi, md0_rp2 hc hi, md0_Mo_pulse_0_j46 hc hi]; done)))
theorem md0_Mo_pulse_0_j48 {c i k : Nat} (hc : c ≠ 0 ∧ c ≠ 4 ∧ c ≠ 5 ∧ c ≠ 6 ∧ c ≠ 7 ∧ c ≠ 8 ∧ c ≠ 9 ∧ c ≠ 44) (hi : ¬ ((28 ≤ c ∧ c ≤ 39 ∧ k = 0) ∨ (c = 43 ∧ 0 ≤ k ∧ k < 3) ∨ (c = 46 ∧ 0 ≤ k ∧ k < 6) ∨ ((c = 47 ∨ c = 48) ∧ 0 ≤ k ∧ k < 4))) : ∀ (v : fw_V), mf_Mo_pulse_0_j48 v c i k = v c i k := by
  intro v
  unfold mf_Mo_pulse_0_j48
  (try dsimp only)
  all_goals ((repeat' split) <;> (first | with_reducible rfl | (simp only [md0_28 hc hi, md0_29 hc hi, md0_31 hc hi, md0_32 hc hi, md0_33 hc hi, md0_34 hc hi, md0_35 hc hi, md0_36 hc hi, md0_37 hc hi, md0_38 hc hi, md0_39 hc hi, md0_43_0 hc hi, md0_43_1 hc hi, md0_43_2 hc hi, md0_47_0 hc hi, md0_48_0 hc hi, md0_47_1 hc hi, md0_48_1 hc hi, md0_47_2 hc hi, md0_48_2 hc hi, md0_47_3 hc hi, md0_48_3 hc hi, md0_46_0 hc hi, md0_46_1 hc hi, md0_46_2 hc hi, md0_46_3 hc hi, md0_46_4 hc hi, md0_46_5 hc hi, md0_0 hc hi, md0_9 hc hi, md0_44 hc hi, md0_send hc hi, md0_rp0 hc hi, md0_rp1 hc hi, md0_rp2 hc hi, md0_Mo_reply_0 hc hi]; done)))
theorem md0_Mo_pulse_0_j47 {c i k : Nat} (hc : c ≠ 0 ∧ c ≠ 4 ∧ c ≠ 5 ∧ c ≠ 6 ∧ c ≠ 7 ∧ c ≠ 8 ∧ c ≠ 9 ∧ c ≠ 44) (hi : ¬ ((28 ≤ c ∧ c ≤ 39 ∧ k = 0) ∨ (c = 43 ∧ 0 ≤ k ∧ k < 3) ∨ (c = 46 ∧ 0 ≤ k ∧ k < 6) ∨ ((c = 47 ∨ c = 48) ∧ 0 ≤ k ∧ k < 4))) : ∀ (v : fw_V), mf_Mo_pulse_0_j47 v c i k = v c i k := by
  intro v
  unfold mf_Mo_pulse_0_j47
  (try dsimp only)
  all_goals ((repeat' split) <;> (first | with_reducible rfl | (simp only [md0_28 hc hi, md0_29 hc hi, md0_31 hc hi, md0_32 hc hi, md0_33 hc hi, md0_34 hc hi, md0_35 hc hi, md0_36 hc hi, md0_37 hc hi, md0_38 hc hi, md0_39 hc hi, md0_43_0 hc hi, md0_43_1 hc hi, md0_43_2 hc hi, md0_47_0 hc hi, md0_48_0 hc hi, md0_47_1 hc hi, md0_48_1 hc hi, md0_47_2 hc hi, md0_48_2 hc hi, md0_47_3 hc hi, md0_48_3 hc hi, md0_46_0 hc hi, md0_46_1 hc hi, md0_46_2 hc hi, md0_46_3 hc hi, md0_46_4 hc hi, md0_46_5 hc hi, md0_0 hc hi, md0_9 hc hi, md0_44 hc hi, md0_send hc hi, md0_rp0 hc hi, md0_rp1 hc hi, md0_rp2 hc hi, md0_Mo_pulse_0_j48 hc hi]; done)))
theorem md0_Mo_pulse_0_j44 {c i k : Nat} (hc : c ≠ 0 ∧ c ≠ 4 ∧ c ≠ 5 ∧ c ≠ 6 ∧ c ≠ 7 ∧ c ≠ 8 ∧ c ≠ 9 ∧ c ≠ 44) (hi : ¬ ((28 ≤ c ∧ c ≤ 39 ∧ k = 0) ∨ (c = 43 ∧ 0 ≤ k ∧ k < 3) ∨ (c = 46 ∧ 0 ≤ k ∧ k < 6) ∨ ((c = 47 ∨ c = 48) ∧ 0 ≤ k ∧ k < 4))) : ∀ (v : fw_V) (x4 : Int32), mf_Mo_pulse_0_j44 v x4 c i k = v c i k := by
  intro v x4
  unfold mf_Mo_pulse_0_j44
  (try dsimp only)
  all_goals ((repeat' split) <;> (first | with_reducible rfl | (simp only [md0_28 hc hi, md0_29 hc hi, md0_31 hc hi, md0_32 hc hi, md0_33 hc hi, md0_34 hc hi, md0_35 hc hi, md0_36 hc hi, md0_37 hc hi, md0_38 hc hi, md0_39 hc hi, md0_43_0 hc hi, md0_43_1 hc hi, md0_43_2 hc hi, md0_47_0 hc hi, md0_48_0 hc hi, md0_47_1 hc hi, md0_48_1 hc hi, md0_47_2 hc hi, md0_48_2 hc hi, md0_47_3 hc hi, md0_48_3 hc hi, md0_46_0 hc hi, md0_46_1 hc hi, md0_46_2 hc hi, md0_46_3 hc hi, md0_46_4 hc hi, md0_46_5 hc hi, md0_0 hc hi, md0_9 hc hi, md0_44 hc hi, md0_send hc hi, md0_rp0 hc hi, md0_rp1 hc hi, md0_rp2 hc hi, md0_Mo_pulse_0_j45 hc hi, md0_Mo_pulse_0_j47 hc hi]; done)))
theorem md0_Mo_pulse_0_j43 {c i k : Nat} (hc : c ≠ 0 ∧ c ≠ 4 ∧ c ≠ 5 ∧ c ≠ 6 ∧ c ≠ 7 ∧ c ≠ 8 ∧ c ≠ 9 ∧ c ≠ 44) (hi : ¬ ((28 ≤ c ∧ c ≤ 39 ∧ k = 0) ∨ (c = 43 ∧ 0 ≤ k ∧ k < 3) ∨ (c = 46 ∧ 0 ≤ k ∧ k < 6) ∨ ((c = 47 ∨ c = 48) ∧ 0 ≤ k ∧ k < 4))) : ∀ (v : fw_V) (x4 : Int32), mf_Mo_pulse_0_j43 v x4 c i k = v c i k := by
  intro v x4
  unfold mf_Mo_pulse_0_j43
  (try dsimp only)
  all_goals ((repeat' split) <;> (first | with_reducible rfl | (simp only [md0_28 hc hi, md0_29 hc hi, md0_31 hc hi, md0_32 hc hi, md0_33 hc hi, md0_34 hc hi, md0_35 hc hi, md0_36 hc hi, md0_37 hc hi, md0_38 hc hi, md0_39 hc hi, md0_43_0 hc hi, md0_43_1 hc hi, md0_43_2 hc hi, md0_47_0 hc hi, md0_48_0 hc hi, md0_47_1 hc hi, md0_48_1 hc hi, md0_47_2 hc hi, md0_48_2 hc hi, md0_47_3 hc hi, md0_48_3 hc hi, md0_46_0 hc hi, md0_46_1 hc hi, md0_46_2 hc hi, md0_46_3 hc hi, md0_46_4 hc hi, md0_46_5 hc hi, md0_0 hc hi, md0_9 hc hi, md0_44 hc hi, md0_send hc hi, md0_rp0 hc hi, md0_rp1 hc hi, md0_rp2 hc hi, md0_Mo_pulse_0_j44 hc hi]; done)))
theorem md0_Mo_pulse_0_j49 {c i k : Nat} (hc : c ≠ 0 ∧ c ≠ 4 ∧ c ≠ 5 ∧ c ≠ 6 ∧ c ≠ 7 ∧ c ≠ 8 ∧ c ≠ 9 ∧ c ≠ 44) (hi : ¬ ((28 ≤ c ∧ c ≤ 39 ∧ k = 0) ∨ (c = 43 ∧ 0 ≤ k ∧ k < 3) ∨ (c = 46 ∧ 0 ≤ k ∧ k < 6) ∨ ((c = 47 ∨ c = 48) ∧ 0 ≤ k ∧ k < 4))) : ∀ (v : fw_V) (x4 : Int32) (x90 : Int32), mf_Mo_pulse_0_j49 v x4 x90 c i k = v c i k := by
  intro v x4 x90
  unfold mf_Mo_pulse_0_j49
  (try dsimp only)
  all_goals ((repeat' split) <;> (first | with_reducible rfl | (simp only [md0_28 hc hi, md0_29 hc hi, md0_31 hc hi, md0_32 hc hi, md0_33 hc hi, md0_34 hc hi, md0_35 hc hi, md0_36 hc hi, md0_37 hc hi, md0_38 hc hi, md0_39 hc hi, md0_43_0 hc hi, md0_43_1 hc hi, md0_43_2 hc hi, md0_47_0 hc hi, md0_48_0 hc hi, md0_47_1 hc hi, md0_48_1 hc hi, md0_47_2 hc hi, md0_48_2 hc hi, md0_47_3 hc hi, md0_48_3 hc hi, md0_46_0 hc hi, md0_46_1 hc hi, md0_46_2 hc hi, md0_46_3 hc hi, md0_46_4 hc hi, md0_46_5 hc hi, md0_0 hc hi, md0_9 hc hi, md0_44 hc hi, md0_send hc hi, md0_rp0 hc hi, md0_rp1 hc hi, md0_rp2 hc hi, md0_Mo_pulse_0_j45 hc hi, md0_Mo_pulse_0_j47 hc hi]; done)))
theorem md0_Mo_pulse_0_j42 {c i k : Nat} (hc : c ≠ 0 ∧ c ≠ 4 ∧ c ≠ 5 ∧ c ≠ 6 ∧ c ≠ 7 ∧ c ≠ 8 ∧ c ≠ 9 ∧ c ≠ 44) (hi : ¬ ((28 ≤ c ∧ c ≤ 39 ∧ k = 0) ∨ (c = 43 ∧ 0 ≤ k ∧ k < 3) ∨ (c = 46 ∧ 0 ≤ k ∧ k < 6) ∨ ((c = 47 ∨ c = 48) ∧ 0 ≤ k ∧ k < 4))) : ∀ (v : fw_V), mf_Mo_pulse_0_j42 v c i k = v c i k := by
  intro v
  unfold mf_Mo_pulse_0_j42
  (try dsimp only)
  all_goals ((repeat' split) <;> (first | with_reducible rfl | (simp only [md0_28 hc hi, md0_29 hc hi, md0_31 hc hi, md0_32 hc hi, md0_33 hc hi, md0_34 hc hi, md0_35 hc hi, md0_36 hc hi, md0_37 hc hi, md0_38 hc hi, md0_39 hc hi, md0_43_0 hc hi, md0_43_1 hc hi, md0_43_2 hc hi, md0_47_0 hc hi, md0_48_0 hc hi, md0_47_1 hc hi, md0_48_1 hc hi, md0_47_2 hc hi, md0_48_2 hc hi, md0_47_3 hc hi, md0_48_3 hc hi, md0_46_0 hc hi, md0_46_1 hc hi, md0_46_2 hc hi, md0_46_3 hc hi, md0_46_4 hc hi, md0_46_5 hc hi, md0_0 hc hi, md0_9 hc hi, md0_44 hc hi, md0_send hc hi, md0_rp0 hc hi, md0_rp1 hc hi, md0_rp2 hc hi, md0_Mo_pulse_0_j43 hc hi, md0_Mo_pulse_0_j49 hc hi]; done)))
theorem md0_Mo_pulse_0_j41 {c i k : Nat} (hc : c ≠ 0 ∧ c ≠ 4 ∧ c ≠ 5 ∧ c ≠ 6 ∧ c ≠ 7 ∧ c ≠ 8 ∧ c ≠ 9 ∧ c ≠ 44) (hi : ¬ ((28 ≤ c ∧ c ≤ 39 ∧ k = 0) ∨ (c = 43 ∧ 0 ≤ k ∧ k < 3) ∨ (c = 46 ∧ 0 ≤ k ∧ k < 6) ∨ ((c = 47 ∨ c = 48) ∧ 0 ≤ k ∧ k < 4))) : ∀ (v : fw_V), mf_Mo_pulse_0_j41 v c i k = v c i k := by
  intro v
  unfold mf_Mo_pulse_0_j41
  (try dsimp only)
  all_goals ((repeat' split) <;> (first | with_reducible rfl | (simp only [md0_28 hc hi, md0_29 hc hi, md0_31 hc hi, md0_32 hc hi, md0_33 hc hi, md0_34 hc hi, md0_35 hc hi, md0_36 hc hi, md0_37 hc hi, md0_38 hc hi, md0_39 hc hi, md0_43_0 hc hi, md0_43_1 hc hi, md0_43_2 hc hi, md0_47_0 hc hi, md0_48_0 hc hi, md0_47_1 hc hi, md0_48_1 hc hi, md0_47_2 hc hi, md0_48_2 hc hi, md0_47_3 hc hi, md0_48_3 hc hi, md0_46_0 hc hi, md0_46_1 hc hi, md0_46_2 hc hi, md0_46_3 hc hi, md0_46_4 hc hi, md0_46_5 hc hi, md0_0 hc hi, md0_9 hc hi, md0_44 hc hi, md0_send hc hi, md0_rp0 hc hi, md0_rp1 hc hi, md0_rp2 hc hi, md0_Mo_pulse_0_j42 hc hi]; done)))
theorem md0_Mo_pulse_0_j54 {c i k : Nat} (hc : c ≠ 0 ∧ c ≠ 4 ∧ c ≠ 5 ∧ c ≠ 6 ∧ c ≠ 7 ∧ c ≠ 8 ∧ c ≠ 9 ∧ c ≠ 44) (hi : ¬ ((28 ≤ c ∧ c ≤ 39 ∧ k = 0) ∨ (c = 43 ∧ 0 ≤ k ∧ k < 3) ∨ (c = 46 ∧ 0 ≤ k ∧ k < 6) ∨ ((c = 47 ∨ c = 48) ∧ 0 ≤ k ∧ k < 4))) : ∀ (v : fw_V), mf_Mo_pulse_0_j54 v c i k = v c i k := by
  intro v
  unfold mf_Mo_pulse_0_j54
  (try dsimp only)
  all_goals ((repeat' split) <;> (first | with_reducible rfl | (simp only [md0_28 hc hi, md0_29 hc hi, md0_31 hc hi, md0_32 hc hi, md0_33 hc hi, md0_34 hc hi, md0_35 hc hi, md0_36 hc hi, md0_37 hc hi, md0_38 hc hi, md0_39 hc hi, md0_43_0 hc hi, md0_43_1 hc hi, md0_43_2 hc hi, md0_47_0 hc hi, md0_48_0 hc hi, md0_47_1 hc hi, md0_48_1 hc hi, md0_47_2 hc hi, md0_48_2 hc hi, md0_47_3 hc hi, md0_48_3 hc hi, md0_46_0 hc hi, md0_46_1 hc hi, md0_46_2 hc hi, md0_46_3 hc hi, md0_46_4 hc hi, md0_46_5 hc hi, md0_0 hc hi, md0_9 hc hi, md0_44 hc hi, md0_send hc hi, md0_rp0 hc hi, md0_rp1 hc hi, md0_rp2 hc hi, md0_Mo_pulse_0_j48 hc hi]; done)))
theorem md0_Mo_pulse_0_j55 {c i k : Nat} (hc : c ≠ 0 ∧ c ≠ 4 ∧ c ≠ 5 ∧ c ≠ 6 ∧ c ≠ 7 ∧ c ≠ 8 ∧ c ≠ 9 ∧ c ≠ 44) (hi : ¬ ((28 ≤ c ∧ c ≤ 39 ∧ k = 0) ∨ (c = 43 ∧ 0 ≤ k ∧ k < 3) ∨ (c = 46 ∧ 0 ≤ k ∧ k < 6) ∨ ((c = 47 ∨ c = 48) ∧ 0 ≤ k ∧ k < 4))) : ∀ (v : fw_V), mf_Mo_pulse_0_j55 v c i k = v c i k := by
  intro v
  unfold mf_Mo_pulse_0_j55
  (try dsimp only)
  all_goals ((repeat' split) <;> (first | with_reducible rfl | (simp only [md0_28 hc hi, md0_29 hc hi, md0_31 hc hi, md0_32 hc hi, md0_33 hc hi, md0_34 hc hi, md0_35 hc hi, md0_36 hc hi, md0_37 hc hi, md0_38 hc hi, md0_39 hc hi, md0_43_0 hc hi, md0_43_1 hc hi, md0_43_2 hc hi, md0_47_0 hc hi, md0_48_0 hc hi, md0_47_1 hc hi, md0_48_1 hc hi, md0_47_2 hc hi, md0_48_2 hc hi, md0_47_3 hc hi, md0_48_3 hc hi, md0_46_0 hc hi, md0_46_1 hc hi, md0_46_2 hc hi, md0_46_3 hc hi, md0_46_4 hc hi, md0_46_5 hc hi, md0_0 hc hi, md0_9 hc hi, md0_44 hc hi, md0_send hc hi, md0_rp0 hc hi, md0_rp1 hc hi, md0_rp2 hc hi, md0_Mo_pulse_0_j48 hc hi]; done)))
theorem md0_Mo_pulse_0_j53 {c i k : Nat} (hc : c ≠ 0 ∧ c ≠ 4 ∧ c ≠ 5 ∧ c ≠ 6 ∧ c ≠ 7 ∧ c ≠ 8 ∧ c ≠ 9 ∧ c ≠ 44) (hi : ¬ ((28 ≤ c ∧ c ≤ 39 ∧ k = 0) ∨ (c = 43 ∧ 0 ≤ k ∧ k < 3) ∨ (c = 46 ∧ 0 ≤ k ∧ k < 6) ∨ ((c = 47 ∨ c = 48) ∧ 0 ≤ k ∧ k < 4))) : ∀ (v : fw_V) (x4 : Int32), mf_Mo_pulse_0_j53 v x4 c i k = v c i k := by
  intro v x4
  unfold mf_Mo_pulse_0_j53
  (try dsimp only)
  all_goals ((repeat' split) <;> (first | with_reducible rfl | (simp only [md0_28 hc hi, md0_29 hc hi, md0_31 hc hi, md0_32 hc hi, md0_33 hc hi, md0_34 hc hi, md0_35 hc hi, md0_36 hc hi, md0_37 hc hi, md0_38 hc hi, md0_39 hc hi, md0_43_0 hc hi, md0_43_1 hc hi, md0_43_2 hc hi, md0_47_0 hc hi, md0_48_0 hc hi, md0_47_1 hc hi, md0_48_1 hc hi, md0_47_2 hc hi, md0_48_2 hc hi, md0_47_3 hc hi, md0_48_3 hc hi, md0_46_0 hc hi, md0_46_1 hc hi, md0_46_2 hc hi, md0_46_3 hc hi, md0_46_4 hc hi, md0_46_5 hc hi, md0_0 hc hi, md0_9 hc hi, md0_44 hc hi, md0_send hc hi, md0_rp0 hc hi, md0_rp1 hc hi, md0_rp2 hc hi, md0_Mo_pulse_0_j54 hc hi, md0_Mo_pulse_0_j55 hc hi]; done)))
theorem md0_Mo_pulse_0_j52 {c i k : Nat} (hc : c ≠ 0 ∧ c ≠ 4 ∧ c ≠ 5 ∧ c ≠ 6 ∧ c ≠ 7 ∧ c ≠ 8 ∧ c ≠ 9 ∧ c ≠ 44) (hi : ¬ ((28 ≤ c ∧ c ≤ 39 ∧ k = 0) ∨ (c = 43 ∧ 0 ≤ k ∧ k < 3) ∨ (c = 46 ∧ 0 ≤ k ∧ k < 6) ∨ ((c = 47 ∨ c = 48) ∧ 0 ≤ k ∧ k < 4))) : ∀ (v : fw_V) (x4 : Int32), mf_Mo_pulse_0_j52 v x4 c i k = v c i k := by
  intro v x4
  unfold mf_Mo_pulse_0_j52
  (try dsimp only)
  all_goals ((repeat' split) <;> (first | with_reducible rfl | (simp only [md0_28 hc hi, md0_29 hc hi, md0_31 hc hi, md0_32 hc hi, md0_33 hc hi, md0_34 hc hi, md0_35 hc hi, md0_36 hc hi, md0_37 hc hi, md0_38 hc hi, md0_39 hc hi, md0_43_0 hc hi, md0_43_1 hc hi, md0_43_2 hc hi, md0_47_0 hc hi, md0_48_0 hc hi, md0_47_1 hc hi, md0_48_1 hc hi, md0_47_2 hc hi, md0_48_2 hc hi, md0_47_3 hc hi, md0_48_3 hc hi, md0_46_0 hc hi, md0_46_1 hc hi, md0_46_2 hc hi, md0_46_3 hc hi, md0_46_4 hc hi, md0_46_5 hc hi, md0_0 hc hi, md0_9 hc hi, md0_44 hc hi, md0_send hc hi, md0_rp0 hc hi, md0_rp1 hc hi, md0_rp2 hc hi, md0_Mo_pulse_0_j53 hc hi]; done)))
theorem md0_Mo_pulse_0_j56 {c i k : Nat} (hc : c ≠ 0 ∧ c ≠ 4 ∧ c ≠ 5 ∧ c ≠ 6 ∧ c ≠ 7 ∧ c ≠ 8 ∧ c ≠ 9 ∧ c ≠ 44) (hi : ¬ ((28 ≤ c ∧ c ≤ 39 ∧ k = 0) ∨ (c = 43 ∧ 0 ≤ k ∧ k < 3) ∨ (c = 46 ∧ 0 ≤ k ∧ k < 6) ∨ ((c = 47 ∨ c = 48) ∧ 0 ≤ k ∧ k < 4))) : ∀ (v : fw_V) (x4 : Int32) (x90 : Int32), mf_Mo_pulse_0_j56 v x4 x90 c i k = v c i k := by
  intro v x4 x90
  unfold mf_Mo_pulse_0_j56
  (try dsimp only)
  all_goals ((repeat' split) <;> (first | with_reducible rfl | (simp only [md0_28 hc hi, md0_29 hc hi, md0_31 hc hi, md0_32 hc hi, md0_33 hc hi, md0_34 hc hi, md0_35 hc hi, md0_36 hc hi, md0_37 hc hi, md0_38 hc hi, md0_39 hc hi, md0_43_0 hc hi, md0_43_1 hc hi, md0_43_2 hc hi, md0_47_0 hc hi, md0_48_0 hc hi, md0_47_1 hc hi, md0_48_1 hc hi, md0_47_2 hc hi, md0_48_2 hc hi, md0_47_3 hc hi, md0_48_3 hc hi, md0_46_0 hc hi, md0_46_1 hc hi, md0_46_2 hc hi, md0_46_3 hc hi, md0_46_4 hc hi, md0_46_5 hc hi, md0_0 hc hi, md0_9 hc hi, md0_44 hc hi, md0_send hc hi, md0_rp0 hc hi, md0_rp1 hc hi, md0_rp2 hc hi, md0_Mo_pulse_0_j54 hc hi, md0_Mo_pulse_0_j55 hc hi]; done)))
theorem md0_Mo_pulse_0_j51 {c i k : Nat} (hc : c ≠ 0 ∧ c ≠ 4 ∧ c ≠ 5 ∧ c ≠ 6 ∧ c ≠ 7 ∧ c ≠ 8 ∧ c ≠ 9 ∧ c ≠ 44) (hi : ¬ ((28 ≤ c ∧ c ≤ 39 ∧ k = 0) ∨ (c = 43 ∧ 0 ≤ k ∧ k < 3) ∨ (c = 46 ∧ 0 ≤ k ∧ k < 6) ∨ ((c = 47 ∨ c = 48) ∧ 0 ≤ k ∧ k < 4))) : ∀ (v : fw_V), mf_Mo_pulse_0_j51 v c i k = v c i k := by
  intro v
  unfold mf_Mo_pulse_0_j51
  (try dsimp only)
  all_goals ((repeat' split) <;> (first | with_reducible rfl | (simp only [md0_28 hc hi, md0_29 hc hi, md0_31 hc hi, md0_32 hc hi, md0_33 hc hi, md0_34 hc hi, md0_35 hc hi, md0_36 hc hi, md0_37 hc hi, md0_38 hc hi, md0_39 hc hi, md0_43_0 hc hi, md0_43_1 hc hi, md0_43_2 hc hi, md0_47_0 hc hi, md0_48_0 hc hi, md0_47_1 hc hi, md0_48_1 hc hi, md0_47_2 hc hi, md0_48_2 hc hi, md0_47_3 hc hi, md0_48_3 hc hi, md0_46_0 hc hi, md0_46_1 hc hi, md0_46_2 hc hi, md0_46_3 hc hi, md0_46_4 hc hi, md0_46_5 hc hi, md0_0 hc hi, md0_9 hc hi, md0_44 hc hi, md0_send hc hi, md0_rp0 hc hi, md0_rp1 hc hi, md0_rp2 hc hi, md0_Mo_pulse_0_j52 hc hi, md0_Mo_pulse_0_j56 hc hi]; done)))
theorem md0_Mo_pulse_0_j50 {c i k : Nat} (hc : c ≠ 0 ∧ c ≠ 4 ∧ c ≠ 5 ∧ c ≠ 6 ∧ c ≠ 7 ∧ c ≠ 8 ∧ c ≠ 9 ∧ c ≠ 44) (hi : ¬ ((28 ≤ c ∧ c ≤ 39 ∧ k = 0) ∨ (c = 43 ∧ 0 ≤ k ∧ k < 3) ∨ (c = 46 ∧ 0 ≤ k ∧ k < 6) ∨ ((c = 47 ∨ c = 48) ∧ 0 ≤ k ∧ k < 4))) : ∀ (v : fw_V), mf_Mo_pulse_0_j50 v c i k = v c i k := by
  intro v
  unfold mf_Mo_pulse_0_j50
  (try dsimp only)
  all_goals ((repeat' split) <;> (first | with_reducible rfl | (simp only [md0_28 hc hi, md0_29 hc hi, md0_31 hc hi, md0_32 hc hi, md0_33 hc hi, md0_34 hc hi, md0_35 hc hi, md0_36 hc hi, md0_37 hc hi, md0_38 hc hi, md0_39 hc hi, md0_43_0 hc hi, md0_43_1 hc hi, md0_43_2 hc hi, md0_47_0 hc hi, md0_48_0 hc hi, md0_47_1 hc hi, md0_48_1 hc hi, md0_47_2 hc hi, md0_48_2 hc hi, md0_47_3 hc hi, md0_48_3 hc hi, md0_46_0 hc hi, md0_46_1 hc hi, md0_46_2 hc hi, md0_46_3 hc hi, md0_46_4 hc hi, md0_46_5 hc hi, md0_0 hc hi, md0_9 hc hi, md0_44 hc hi, md0_send hc hi, md0_rp0 hc hi, md0_rp1 hc hi, md0_rp2 hc hi, md0_Mo_pulse_0_j51 hc hi]; done)))
theorem md0_Mo_pulse_0_j40 {c i k : Nat} (hc : c ≠ 0 ∧ c ≠ 4 ∧ c ≠ 5 ∧ c ≠ 6 ∧ c ≠ 7 ∧ c ≠ 8 ∧ c ≠ 9 ∧ c ≠ 44) (hi : ¬ ((28 ≤ c ∧ c ≤ 39 ∧ k = 0) ∨ (c = 43 ∧ 0 ≤ k ∧ k < 3) ∨ (c = 46 ∧ 0 ≤ k ∧ k < 6) ∨ ((c = 47 ∨ c = 48) ∧ 0 ≤ k ∧ k < 4))) : ∀ (v : fw_V) (x4 : Int32), mf_Mo_pulse_0_j40 v x4 c i k = v c i k := by
  intro v x4
  unfold mf_Mo_pulse_0_j40
  (try dsimp only)
  all_goals ((repeat' split) <;> (first | with_reducible rfl | (simp only [md0_28 hc hi, md0_29 hc hi, md0_31 hc hi, md0_32 hc hi, md0_33 hc hi, md0_34 hc hi, md0_35 hc hi, md0_36 hc hi, md0_37 hc hi, md0_38 hc hi, md0_39 hc hi, md0_43_0 hc hi, md0_43_1 hc hi, md0_43_2 hc hi, md0_47_0 hc hi, md0_48_0 hc hi, md0_47_1 hc hi, md0_48_1 hc hi, md0_47_2 hc hi, md0_48_2 hc hi, md0_47_3 hc hi, md0_48_3 hc hi, md0_46_0 hc hi, md0_46_1 hc hi, md0_46_2 hc hi, md0_46_3 hc hi, md0_46_4 hc hi, md0_46_5 hc hi, md0_0 hc hi, md0_9 hc hi, md0_44 hc hi, md0_send hc hi, md0_rp0 hc hi, md0_rp1 hc hi, md0_rp2 hc hi, md0_Mo_pulse_0_j41 hc hi, md0_Mo_pulse_0_j50 hc hi]; done)))
theorem md0_Mo_pulse_0_j39 {c i k : Nat} (hc : c ≠ 0 ∧ c ≠ 4 ∧ c ≠ 5 ∧ c ≠ 6 ∧ c ≠ 7 ∧ c ≠ 8 ∧ c ≠ 9 ∧ c ≠ 44) (hi : ¬ ((28 ≤ c ∧ c ≤ 39 ∧ k = 0) ∨ (c = 43 ∧ 0 ≤ k ∧ k < 3) ∨ (c = 46 ∧ 0 ≤ k ∧ k < 6) ∨ ((c = 47 ∨ c = 48) ∧ 0 ≤ k ∧ k < 4))) : ∀ (v : fw_V) (x4 : Int32), mf_Mo_pulse_0_j39 v x4 c i k = v c i k := by
  intro v x4
  unfold mf_Mo_pulse_0_j39
  (try dsimp only)
  all_goals ((repeat' split) <;> (first | with_reducible rfl | (simp only [md0_28 hc hi, md0_29 hc hi, md0_31 hc hi, md0_32 hc hi, md0_33 hc hi, md0_34 hc hi, md0_35 hc hi, md0_36 hc hi, md0_37 hc hi, md0_38 hc hi, md0_39 hc hi, md0_43_0 hc hi, md0_43_1 hc hi, md0_43_2 hc hi, md0_47_0 hc hi, md0_48_0 hc hi, md0_47_1 hc hi, md0_48_1 hc hi, md0_47_2 hc hi, md0_48_2 hc hi, md0_47_3 hc hi, md0_48_3 hc hi, md0_46_0 hc hi, md0_46_1 hc hi, md0_46_2 hc hi, md0_46_3 hc hi, md0_46_4 hc hi, md0_46_5 hc hi, md0_0 hc hi, md0_9 hc hi, md0_44 hc hi, md0_send hc hi, md0_rp0 hc hi, md0_rp1 hc hi, md0_rp2 hc hi, md0_Mo_pulse_0_j40 hc hi]; done)))
theorem md0_Mo_pulse_0_j57 {c i k : Nat} (hc : c ≠ 0 ∧ c ≠ 4 ∧ c ≠ 5 ∧ c ≠ 6 ∧ c ≠ 7 ∧ c ≠ 8 ∧ c ≠ 9 ∧ c ≠ 44) (hi : ¬ ((28 ≤ c ∧ c ≤ 39 ∧ k = 0) ∨ (c = 43 ∧ 0 ≤ k ∧ k < 3) ∨ (c = 46 ∧ 0 ≤ k ∧ k < 6) ∨ ((c = 47 ∨ c = 48) ∧ 0 ≤ k ∧ k < 4))) : ∀ (v : fw_V) (x4 : Int32) (x90 : Int32), mf_Mo_pulse_0_j57 v x4 x90 c i k = v c i k := by
  intro v x4 x90
  unfold mf_Mo_pulse_0_j57
  (try dsimp only)
  all_goals ((repeat' split) <;> (first | with_reducible rfl | (simp only [md0_28 hc hi, md0_29 hc hi, md0_31 hc hi, md0_32 hc hi, md0_33 hc hi, md0_34 hc hi, md0_35 hc hi, md0_36 hc hi, md0_37 hc hi, md0_38 hc hi, md0_39 hc hi, md0_43_0 hc hi, md0_43_1 hc hi, md0_43_2 hc hi, md0_47_0 hc hi, md0_48_0 hc hi, md0_47_1 hc hi, md0_48_1 hc hi, md0_47_2 hc hi, md0_48_2 hc hi, md0_47_3 hc hi, md0_48_3 hc hi, md0_46_0 hc hi, md0_46_1 hc hi, md0_46_2 hc hi, md0_46_3 hc hi, md0_46_4 hc hi, md0_46_5 hc hi, md0_0 hc hi, md0_9 hc hi, md0_44 hc hi, md0_send hc hi, md0_rp0 hc hi, md0_rp1 hc hi, md0_rp2 hc hi, md0_Mo_pulse_0_j41 hc hi, md0_Mo_pulse_0_j50 hc hi]; done)))
theorem md0_Mo_pulse_0_j38 {c i k : Nat} (hc : c ≠ 0 ∧ c ≠ 4 ∧ c ≠ 5 ∧ c ≠ 6 ∧ c ≠ 7 ∧ c ≠ 8 ∧ c ≠ 9 ∧ c ≠ 44) (hi : ¬ ((28 ≤ c ∧ c ≤ 39 ∧ k = 0) ∨ (c = 43 ∧ 0 ≤ k ∧ k < 3) ∨ (c = 46 ∧ 0 ≤ k ∧ k < 6) ∨ ((c = 47 ∨ c = 48) ∧ 0 ≤ k ∧ k < 4))) : ∀ (v : fw_V), mf_Mo_pulse_0_j38 v c i k = v c i k := by
  intro v
  unfold mf_Mo_pulse_0_j38
  (try dsimp only)
  all_goals ((repeat' split) <;> (first | with_reducible rfl | (simp only [md0_28 hc hi, md0_29 hc hi, md0_31 hc hi, md0_32 hc hi, md0_33 hc hi, md0_34 hc hi, md0_35 hc hi, md0_36 hc hi, md0_37 hc hi, md0_38 hc hi, md0_39 hc hi, md0_43_0 hc hi, md0_43_1 hc hi, md0_43_2 hc hi, md0_47_0 hc hi, md0_48_0 hc hi, md0_47_1 hc hi, md0_48_1 hc hi, md0_47_2 hc hi, md0_48_2 hc hi, md0_47_3 hc hi, md0_48_3 hc hi, md0_46_0 hc hi, md0_46_1 hc hi, md0_46_2 hc hi, md0_46_3 hc hi, md0_46_4 hc hi, md0_46_5 hc hi, md0_0 hc hi, md0_9 hc hi, md0_44 hc hi, md0_send hc hi, md0_rp0 hc hi, md0_rp1 hc hi, md0_rp2 hc hi, md0_Mo_pulse_0_j39 hc hi, md0_Mo_pulse_0_j57 hc hi]; done)))
theorem md0_Mo_pulse_0_j37 {c i k : Nat} (hc : c ≠ 0 ∧ c ≠ 4 ∧ c ≠ 5 ∧ c ≠ 6 ∧ c ≠ 7 ∧ c ≠ 8 ∧ c ≠ 9 ∧ c ≠ 44) (hi : ¬ ((28 ≤ c ∧ c ≤ 39 ∧ k = 0) ∨ (c = 43 ∧ 0 ≤ k ∧ k < 3) ∨ (c = 46 ∧ 0 ≤ k ∧ k < 6) ∨ ((c = 47 ∨ c = 48) ∧ 0 ≤ k ∧ k < 4))) : ∀ (v : fw_V), mf_Mo_pulse_0_j37 v c i k = v c i k := by
  intro v
  unfold mf_Mo_pulse_0_j37
  (try dsimp only)
  all_goals ((repeat' split) <;> (first | with_reducible rfl | (simp only [md0_28 hc hi, md0_29 hc hi, md0_31 hc hi, md0_32 hc hi, md0_33 hc hi, md0_34 hc hi, md0_35 hc hi, md0_36 hc hi, md0_37 hc hi, md0_38 hc hi, md0_39 hc hi, md0_43_0 hc hi, md0_43_1 hc hi, md0_43_2 hc hi, md0_47_0 hc hi, md0_48_0 hc hi, md0_47_1 hc hi, md0_48_1 hc hi, md0_47_2 hc hi, md0_48_2 hc hi, md0_47_3 hc hi, md0_48_3 hc hi, md0_46_0 hc hi, md0_46_1 hc hi, md0_46_2 hc hi, md0_46_3 hc hi, md0_46_4 hc hi, md0_46_5 hc hi, md0_0 hc hi, md0_9 hc hi, md0_44 hc hi, md0_send hc hi, md0_rp0 hc hi, md0_rp1 hc hi, md0_rp2 hc hi, md0_Mo_pulse_0_j38 hc hi]; done)))
theorem md0_Mo_pulse_0_j15 {c i k : Nat} (hc : c ≠ 0 ∧ c ≠ 4 ∧ c ≠ 5 ∧ c ≠ 6 ∧ c ≠ 7 ∧ c ≠ 8 ∧ c ≠ 9 ∧ c ≠ 44) (hi : ¬ ((28 ≤ c ∧ c ≤ 39 ∧ k = 0) ∨ (c = 43 ∧ 0 ≤ k ∧ k < 3) ∨ (c = 46 ∧ 0 ≤ k ∧ k < 6) ∨ ((c = 47 ∨ c = 48) ∧ 0 ≤ k ∧ k < 4))) : ∀ (v : fw_V) (x4 : Int32), mf_Mo_pulse_0_j15 v x4 c i k = v c i k := by
  intro v x4
  unfold mf_Mo_pulse_0_j15
  (try dsimp only)
  all_goals ((repeat' split) <;> (first | with_reducible rfl | (simp only [md0_28 hc hi, md0_29 hc hi, md0_31 hc hi, md0_32 hc hi, md0_33 hc hi, md0_34 hc hi, md0_35 hc hi, md0_36 hc hi, md0_37 hc hi, md0_38 hc hi, md0_39 hc hi, md0_43_0 hc hi, md0_43_1 hc hi, md0_43_2 hc hi, md0_47_0 hc hi, md0_48_0 hc hi, md0_47_1 hc hi, md0_48_1 hc hi, md0_47_2 hc hi, md0_48_2 hc hi, md0_47_3 hc hi, md0_48_3 hc hi, md0_46_0 hc hi, md0_46_1 hc hi, md0_46_2 hc hi, md0_46_3 hc hi, md0_46_4 hc hi, md0_46_5 hc hi, md0_0 hc hi, md0_9 hc hi, md0_44 hc hi, md0_send hc hi, md0_rp0 hc hi, md0_rp1 hc hi, md0_rp2 hc hi, md0_Mo_pulse_0_j16 hc hi, md0_Mo_pulse_0_j37 hc hi]; done)))
theorem md0_Mo_pulse_0_j14 {c i k : Nat} (hc : c ≠ 0 ∧ c ≠ 4 ∧ c ≠ 5 ∧ c ≠ 6 ∧ c ≠ 7 ∧ c ≠ 8 ∧ c ≠ 9 ∧ c ≠ 44) (hi : ¬ ((28 ≤ c ∧ c ≤ 39 ∧ k = 0) ∨ (c = 43 ∧ 0 ≤ k ∧ k < 3) ∨ (c = 46 ∧ 0 ≤ k ∧ k < 6) ∨ ((c = 47 ∨ c = 48) ∧ 0 ≤ k ∧ k < 4))) : ∀ (v : fw_V) (x4 : Int32), mf_Mo_pulse_0_j14 v x4 c i k = v c i k := by
  intro v x4
  unfold mf_Mo_pulse_0_j14
  (try dsimp only)
  all_goals ((repeat' split) <;> (first | with_reducible rfl | (simp only [md0_28 hc hi, md0_29 hc hi, md0_31 hc hi, md0_32 hc hi, md0_33 hc hi, md0_34 hc hi, md0_35 hc hi, md0_36 hc hi, md0_37 hc hi, md0_38 hc hi, md0_39 hc hi, md0_43_0 hc hi, md0_43_1 hc hi, md0_43_2 hc hi, md0_47_0 hc hi, md0_48_0 hc hi, md0_47_1 hc hi, md0_48_1 hc hi, md0_47_2 hc hi, md0_48_2 hc hi, md0_47_3 hc hi, md0_48_3 hc hi, md0_46_0 hc hi, md0_46_1 hc hi, md0_46_2 hc hi, md0_46_3 hc hi, md0_46_4 hc hi, md0_46_5 hc hi, md0_0 hc hi, md0_9 hc hi, md0_44 hc hi, md0_send hc hi, md0_rp0 hc hi, md0_rp1 hc hi, md0_rp2 hc hi, md0_Mo_pulse_0_j15 hc hi]; done)))
theorem md0_Mo_pulse_0_j58 {c i k : Nat} (hc : c ≠ 0 ∧ c ≠ 4 ∧ c ≠ 5 ∧ c ≠ 6 ∧ c ≠ 7 ∧ c ≠ 8 ∧ c ≠ 9 ∧ c ≠ 44) (hi : ¬ ((28 ≤ c ∧ c ≤ 39 ∧ k = 0) ∨ (c = 43 ∧ 0 ≤ k ∧ k < 3) ∨ (c = 46 ∧ 0 ≤ k ∧ k < 6) ∨ ((c = 47 ∨ c = 48) ∧ 0 ≤ k ∧ k < 4))) : ∀ (v : fw_V) (x4 : Int32) (x90 : Int32), mf_Mo_pulse_0_j58 v x4 x90 c i k = v c i k := by
  intro v x4 x90
  unfold mf_Mo_pulse_0_j58
  (try dsimp only)
  all_goals ((repeat' split) <;> (first | with_reducible rfl | (simp only [md0_28 hc hi, md0_29 hc hi, md0_31 hc hi, md0_32 hc hi, md0_33 hc hi, md0_34 hc hi, md0_35 hc hi, md0_36 hc hi, md0_37 hc hi, md0_38 hc hi, md0_39 hc hi, md0_43_0 hc hi, md0_43_1 hc hi, md0_43_2 hc hi, md0_47_0 hc hi, md0_48_0 hc hi, md0_47_1 hc hi, md0_48_1 hc hi, md0_47_2 hc hi, md0_48_2 hc hi, md0_47_3 hc hi, md0_48_3 hc hi, md0_46_0 hc hi, md0_46_1 hc hi, md0_46_2 hc hi, md0_46_3 hc hi, md0_46_4 hc hi, md0_46_5 hc hi, md0_0 hc hi, md0_9 hc hi, md0_44 hc hi, md0_send hc hi, md0_rp0 hc hi, md0_rp1 hc hi, md0_rp2 hc hi, md0_Mo_pulse_0_j16 hc hi, md0_Mo_pulse_0_j37 hc hi]; done)))
theorem md0_Mo_pulse_0_j13 {c i k : Nat} (hc : c ≠ 0 ∧ c ≠ 4 ∧ c ≠ 5 ∧ c ≠ 6 ∧ c ≠ 7 ∧ c ≠ 8 ∧ c ≠ 9 ∧ c ≠ 44) (hi : ¬ ((28 ≤ c ∧ c ≤ 39 ∧ k = 0) ∨ (c = 43 ∧ 0 ≤ k ∧ k < 3) ∨ (c = 46 ∧ 0 ≤ k ∧ k < 6) ∨ ((c = 47 ∨ c = 48) ∧ 0 ≤ k ∧ k < 4))) : ∀ (v : fw_V), mf_Mo_pulse_0_j13 v c i k = v c i k := by
  intro v
  unfold mf_Mo_pulse_0_j13
  (try dsimp only)
  all_goals ((repeat' split) <;> (first | with_reducible rfl | (simp only [md0_28 hc hi, md0_29 hc hi, md0_31 hc hi, md0_32 hc hi, md0_33 hc hi, md0_34 hc hi, md0_35 hc hi, md0_36 hc hi, md0_37 hc hi, md0_38 hc hi, md0_39 hc hi, md0_43_0 hc hi, md0_43_1 hc hi, md0_43_2 hc hi, md0_47_0 hc hi, md0_48_0 hc hi, md0_47_1 hc hi, md0_48_1 hc hi, md0_47_2 hc hi, md0_48_2 hc hi, md0_47_3 hc hi, md0_48_3 hc hi, md0_46_0 hc hi, md0_46_1 hc hi, md0_46_2 hc hi, md0_46_3 hc hi, md0_46_4 hc hi, md0_46_5 hc hi, md0_0 hc hi, md0_9 hc hi, md0_44 hc hi, md0_send hc hi, md0_rp0 hc hi, md0_rp1 hc hi, md0_rp2 hc hi, md0_Mo_pulse_0_j14 hc hi, md0_Mo_pulse_0_j58 hc hi]; done)))
theorem md0_Mo_pulse_0_j12 {c i k : Nat} (hc : c ≠ 0 ∧ c ≠ 4 ∧ c ≠ 5 ∧ c ≠ 6 ∧ c ≠ 7 ∧ c ≠ 8 ∧ c ≠ 9 ∧ c ≠ 44) (hi : ¬ ((28 ≤ c ∧ c ≤ 39 ∧ k = 0) ∨ (c = 43 ∧ 0 ≤ k ∧ k < 3) ∨ (c = 46 ∧ 0 ≤ k ∧ k < 6) ∨ ((c = 47 ∨ c = 48) ∧ 0 ≤ k ∧ k < 4))) : ∀ (v : fw_V), mf_Mo_pulse_0_j12 v c i k = v c i k := by
  intro v
  unfold mf_Mo_pulse_0_j12
  (try dsimp only)
  all_goals ((repeat' split) <;> (first | with_reducible rfl | (simp only [md0_28 hc hi, md0_29 hc hi, md0_31 hc hi, md0_32 hc hi, md0_33 hc hi, md0_34 hc hi, md0_35 hc hi, md0_36 hc hi, md0_37 hc hi, md0_38 hc hi, md0_39 hc hi, md0_43_0 hc hi, md0_43_1 hc hi, md0_43_2 hc hi, md0_47_0 hc hi, md0_48_0 hc hi, md0_47_1 hc hi, md0_48_1 hc hi, md0_47_2 hc hi, md0_48_2 hc hi, md0_47_3 hc hi, md0_48_3 hc hi, md0_46_0 hc hi, md0_46_1 hc hi, md0_46_2 hc hi, md0_46_3 hc hi, md0_46_4 hc hi, md0_46_5 hc hi, md0_0 hc hi, md0_9 hc hi, md0_44 hc hi, md0_send hc hi, md0_rp0 hc hi, md0_rp1 hc hi, md0_rp2 hc hi, md0_Mo_pulse_0_j13 hc hi]; done)))
theorem md0_Mo_pulse_0_j63 {c i k : Nat} (hc : c ≠ 0 ∧ c ≠ 4 ∧ c ≠ 5 ∧ c ≠ 6 ∧ c ≠ 7 ∧ c ≠ 8 ∧ c ≠ 9 ∧ c ≠ 44) (hi : ¬ ((28 ≤ c ∧ c ≤ 39 ∧ k = 0) ∨ (c = 43 ∧ 0 ≤ k ∧ k < 3) ∨ (c = 46 ∧ 0 ≤ k ∧ k < 6) ∨ ((c = 47 ∨ c = 48) ∧ 0 ≤ k ∧ k < 4))) : ∀ (v : fw_V), mf_Mo_pulse_0_j63 v c i k = v c i k := by
  intro v
  unfold mf_Mo_pulse_0_j63
  (try dsimp only)
  all_goals ((repeat' split) <;> (first | with_reducible rfl | (simp only [md0_28 hc hi, md0_29 hc hi, md0_31 hc hi, md0_32 hc hi, md0_33 hc hi, md0_34 hc hi, md0_35 hc hi, md0_36 hc hi, md0_37 hc hi, md0_38 hc hi, md0_39 hc hi, md0_43_0 hc hi, md0_43_1 hc hi, md0_43_2 hc hi, md0_47_0 hc hi, md0_48_0 hc hi, md0_47_1 hc hi, md0_48_1 hc hi, md0_47_2 hc hi, md0_48_2 hc hi, md0_47_3 hc hi, md0_48_3 hc hi, md0_46_0 hc hi, md0_46_1 hc hi, md0_46_2 hc hi, md0_46_3 hc hi, md0_46_4 hc hi, md0_46_5 hc hi, md0_0 hc hi, md0_9 hc hi, md0_44 hc hi, md0_send hc hi, md0_rp0 hc hi, md0_rp1 hc hi, md0_rp2 hc hi, md0_Mo_pulse_0_j38 hc hi]; done)))
theorem md0_Mo_pulse_0_j64 {c i k : Nat} (hc : c ≠ 0 ∧ c ≠ 4 ∧ c ≠ 5 ∧ c ≠ 6 ∧ c ≠ 7 ∧ c ≠ 8 ∧ c ≠ 9 ∧ c ≠ 44) (hi : ¬ ((28 ≤ c ∧ c ≤ 39 ∧ k = 0) ∨ (c = 43 ∧ 0 ≤ k ∧ k < 3) ∨ (c = 46 ∧ 0 ≤ k ∧ k < 6) ∨ ((c = 47 ∨ c = 48) ∧ 0 ≤ k ∧ k < 4))) : ∀ (v : fw_V), mf_Mo_pulse_0_j64 v c i k = v c i k := by
  intro v
  unfold mf_Mo_pulse_0_j64
  (try dsimp only)
  all_goals ((repeat' split) <;> (first | with_reducible rfl | (simp only [md0_28 hc hi, md0_29 hc hi, md0_31 hc hi, md0_32 hc hi, md0_33 hc hi, md0_34 hc hi, md0_35 hc hi, md0_36 hc hi, md0_37 hc hi, md0_38 hc hi, md0_39 hc hi, md0_43_0 hc hi, md0_43_1 hc hi, md0_43_2 hc hi, md0_47_0 hc hi, md0_48_0 hc hi, md0_47_1 hc hi, md0_48_1 hc hi, md0_47_2 hc hi, md0_48_2 hc hi, md0_47_3 hc hi, md0_48_3 hc hi, md0_46_0 hc hi, md0_46_1 hc hi, md0_46_2 hc hi, md0_46_3 hc hi, md0_46_4 hc hi, md0_46_5 hc hi, md0_0 hc hi, md0_9 hc hi, md0_44 hc hi, md0_send hc hi, md0_rp0 hc hi, md0_rp1 hc hi, md0_rp2 hc hi, md0_Mo_pulse_0_j38 hc hi]; done)))
theorem md0_Mo_pulse_0_j62 {c i k : Nat} (hc : c ≠ 0 ∧ c ≠ 4 ∧ c ≠ 5 ∧ c ≠ 6 ∧ c ≠ 7 ∧ c ≠ 8 ∧ c ≠ 9 ∧ c ≠ 44) (hi : ¬ ((28 ≤ c ∧ c ≤ 39 ∧ k = 0) ∨ (c = 43 ∧ 0 ≤ k ∧ k < 3) ∨ (c = 46 ∧ 0 ≤ k ∧ k < 6) ∨ ((c = 47 ∨ c = 48) ∧ 0 ≤ k ∧ k < 4))) : ∀ (v : fw_V) (x4 : Int32), mf_Mo_pulse_0_j62 v x4 c i k = v c i k := by
  intro v x4
  unfold mf_Mo_pulse_0_j62
  (try dsimp only)
  all_goals ((repeat' split) <;> (first | with_reducible rfl | (simp only [md0_28 hc hi, md0_29 hc hi, md0_31 hc hi, md0_32 hc hi, md0_33 hc hi, md0_34 hc hi, md0_35 hc hi, md0_36 hc hi, md0_37 hc hi, md0_38 hc hi, md0_39 hc hi, md0_43_0 hc hi, md0_43_1 hc hi, md0_43_2 hc hi, md0_47_0 hc hi, md0_48_0 hc hi, md0_47_1 hc hi, md0_48_1 hc hi, md0_47_2 hc hi, md0_48_2 hc hi, md0_47_3 hc hi, md0_48_3 hc hi, md0_46_0 hc hi, md0_46_1 hc hi, md0_46_2 hc hi, md0_46_3 hc hi, md0_46_4 hc hi, md0_46_5 hc hi, md0_0 hc hi, md0_9 hc hi, md0_44 hc hi, md0_send hc hi, md0_rp0 hc hi, md0_rp1 hc hi, md0_rp2 hc hi, md0_Mo_pulse_0_j63 hc hi, md0_Mo_pulse_0_j64 hc hi]; done)))
theorem md0_Mo_pulse_0_j61 {c i k : Nat} (hc : c ≠ 0 ∧ c ≠ 4 ∧ c ≠ 5 ∧ c ≠ 6 ∧ c ≠ 7 ∧ c ≠ 8 ∧ c ≠ 9 ∧ c ≠ 44) (hi : ¬ ((28 ≤ c ∧ c ≤ 39 ∧ k = 0) ∨ (c = 43 ∧ 0 ≤ k ∧ k < 3) ∨ (c = 46 ∧ 0 ≤ k ∧ k < 6) ∨ ((c = 47 ∨ c = 48) ∧ 0 ≤ k ∧ k < 4))) : ∀ (v : fw_V) (x4 : Int32), mf_Mo_pulse_0_j61 v x4 c i k = v c i k := by
  intro v x4
  unfold mf_Mo_pulse_0_j61
  (try dsimp only)
  all_goals ((repeat' split) <;> (first | with_reducible rfl | (simp only [md0_28 hc hi, md0_29 hc hi, md0_31 hc hi, md0_32 hc hi, md0_33 hc hi, md0_34 hc hi, md0_35 hc hi, md0_36 hc hi, md0_37 hc hi, md0_38 hc hi, md0_39 hc hi, md0_43_0 hc hi, md0_43_1 hc hi, md0_43_2 hc hi, md0_47_0 hc hi, md0_48_0 hc hi, md0_47_1 hc hi, md0_48_1 hc hi, md0_47_2 hc hi, md0_48_2 hc hi, md0_47_3 hc hi, md0_48_3 hc hi, md0_46_0 hc hi, md0_46_1 hc hi, md0_46_2 hc hi, md0_46_3 hc hi, md0_46_4 hc hi, md0_46_5 hc hi, md0_0 hc hi, md0_9 hc hi, md0_44 hc hi, md0_send hc hi, md0_rp0 hc hi, md0_rp1 hc hi, md0_rp2 hc hi, md0_Mo_pulse_0_j62 hc hi]; done)))
theorem md0_Mo_pulse_0_j65 {c i k : Nat} (hc : c ≠ 0 ∧ c ≠ 4 ∧ c ≠ 5 ∧ c ≠ 6 ∧ c ≠ 7 ∧ c ≠ 8 ∧ c ≠ 9 ∧ c ≠ 44) (hi : ¬ ((28 ≤ c ∧ c ≤ 39 ∧ k = 0) ∨ (c = 43 ∧ 0 ≤ k ∧ k < 3) ∨ (c = 46 ∧ 0 ≤ k ∧ k < 6) ∨ ((c = 47 ∨ c = 48) ∧ 0 ≤ k ∧ k < 4))) : ∀ (v : fw_V) (x4 : Int32) (x90 : Int32), mf_Mo_pulse_0_j65 v x4 x90 c i k = v c i k := by
  intro v x4 x90
  unfold mf_Mo_pulse_0_j65
  (try dsimp only)
  all_goals ((repeat' split) <;> (first | with_reducible rfl | (simp only [md0_28 hc hi, md0_29 hc hi, md0_31 hc hi, md0_32 hc hi, md0_33 hc hi, md0_34 hc hi, md0_35 hc hi, md0_36 hc hi, md0_37 hc hi, md0_38 hc hi, md0_39 hc hi, md0_43_0 hc hi, md0_43_1 hc hi, md0_43_2 hc hi, md0_47_0 hc hi, md0_48_0 hc hi, md0_47_1 hc hi, md0_48_1 hc hi, md0_47_2 hc hi, md0_48_2 hc hi, md0_47_3 hc hi, md0_48_3 hc hi, md0_46_0 hc hi, md0_46_1 hc hi, md0_46_2 hc hi, md0_46_3 hc hi, md0_46_4 hc hi, md0_46_5 hc hi, md0_0 hc hi, md0_9 hc hi, md0_44 hc hi, md0_send hc hi, md0_rp0 hc hi, md0_rp1 hc hi, md0_rp2 hc hi, md0_Mo_pulse_0_j63 hc hi, md0_Mo_pulse_0_j64 hc hi]; done)))
theorem md0_Mo_pulse_0_j60 {c i k : Nat} (hc : c ≠ 0 ∧ c ≠ 4 ∧ c ≠ 5 ∧ c ≠ 6 ∧ c ≠ 7 ∧ c ≠ 8 ∧ c ≠ 9 ∧ c ≠ 44) (hi : ¬ ((28 ≤ c ∧ c ≤ 39 ∧ k = 0) ∨ (c = 43 ∧ 0 ≤ k ∧ k < 3) ∨ (c = 46 ∧ 0 ≤ k ∧ k < 6) ∨ ((c = 47 ∨ c = 48) ∧ 0 ≤ k ∧ k < 4))) : ∀ (v : fw_V), mf_Mo_pulse_0_j60 v c i k = v c i k := by
  intro v
  unfold mf_Mo_pulse_0_j60
  (try dsimp only)
  all_goals ((repeat' split) <;> (first | with_reducible rfl | (simp only [md0_28 hc hi, md0_29 hc hi, md0_31 hc hi, md0_32 hc hi, md0_33 hc hi, md0_34 hc hi, md0_35 hc hi, md0_36 hc hi, md0_37 hc hi, md0_38 hc hi, md0_39 hc hi, md0_43_0 hc hi, md0_43_1 hc hi, md0_43_2 hc hi, md0_47_0 hc hi, md0_48_0 hc hi, md0_47_1 hc hi, md0_48_1 hc hi, md0_47_2 hc hi, md0_48_2 hc hi, md0_47_3 hc hi, md0_48_3 hc hi, md0_46_0 hc hi, md0_46_1 hc hi, md0_46_2 hc hi, md0_46_3 hc hi, md0_46_4 hc hi, md0_46_5 hc hi, md0_0 hc hi, md0_9 hc hi, md0_44 hc hi, md0_send hc hi, md0_rp0 hc hi, md0_rp1 hc hi, md0_rp2 hc hi, md0_Mo_pulse_0_j61 hc hi, md0_Mo_pulse_0_j65 hc hi]; done)))
theorem md0_Mo_pulse_0_j59 {c i k : Nat} (hc : c ≠ 0 ∧ c ≠ 4 ∧ c ≠ 5 ∧ c ≠ 6 ∧ c ≠ 7 ∧ c ≠ 8 ∧ c ≠ 9 ∧ c ≠ 44) (hi : ¬ ((28 ≤ c ∧ c ≤ 39 ∧ k = 0) ∨ (c = 43 ∧ 0 ≤ k ∧ k < 3) ∨ (c = 46 ∧ 0 ≤ k ∧ k < 6) ∨ ((c = 47 ∨ c = 48) ∧ 0 ≤ k ∧ k < 4))) : ∀ (v : fw_V), mf_Mo_pulse_0_j59 v c i k = v c i k := by
  intro v
  unfold mf_Mo_pulse_0_j59
  (try dsimp only)
  all_goals ((repeat' split) <;> (first | with_reducible rfl | (simp only [md0_28 hc hi, md0_29 hc hi, md0_31 hc hi, md0_32 hc hi, md0_33 hc hi, md0_34 hc hi, md0_35 hc hi, md0_36 hc hi, md0_37 hc hi, md0_38 hc hi, md0_39 hc hi, md0_43_0 hc hi, md0_43_1 hc hi, md0_43_2 hc hi, md0_47_0 hc hi, md0_48_0 hc hi, md0_47_1 hc hi, md0_48_1 hc hi, md0_47_2 hc hi, md0_48_2 hc hi, md0_47_3 hc hi, md0_48_3 hc hi, md0_46_0 hc hi, md0_46_1 hc hi, md0_46_2 hc hi, md0_46_3 hc hi, md0_46_4 hc hi, md0_46_5 hc hi, md0_0 hc hi, md0_9 hc hi, md0_44 hc hi, md0_send hc hi, md0_rp0 hc hi, md0_rp1 hc hi, md0_rp2 hc hi, md0_Mo_pulse_0_j60 hc hi]; done)))
theorem md0_Mo_pulse_0_j11 {c i k : Nat} (hc : c ≠ 0 ∧ c ≠ 4 ∧ c ≠ 5 ∧ c ≠ 6 ∧ c ≠ 7 ∧ c ≠ 8 ∧ c ≠ 9 ∧ c ≠ 44) (hi : ¬ ((28 ≤ c ∧ c ≤ 39 ∧ k = 0) ∨ (c = 43 ∧ 0 ≤ k ∧ k < 3) ∨ (c = 46 ∧ 0 ≤ k ∧ k < 6) ∨ ((c = 47 ∨ c = 48) ∧ 0 ≤ k ∧ k < 4))) : ∀ (v : fw_V) (x4 : Int32), mf_Mo_pulse_0_j11 v x4 c i k = v c i k := by
  intro v x4
  unfold mf_Mo_pulse_0_j11
  (try dsimp only)
  all_goals ((repeat' split) <;> (first | with_reducible rfl | (simp only [md0_28 hc hi, md0_29 hc hi, md0_31 hc hi, md0_32 hc hi, md0_33 hc hi, md0_34 hc hi, md0_35 hc hi, md0_36 hc hi, md0_37 hc hi, md0_38 hc hi, md0_39 hc hi, md0_43_0 hc hi, md0_43_1 hc hi, md0_43_2 hc hi, md0_47_0 hc hi, md0_48_0 hc hi, md0_47_1 hc hi, md0_48_1 hc hi, md0_47_2 hc hi, md0_48_2 hc hi, md0_47_3 hc hi, md0_48_3 hc hi, md0_46_0 hc hi, md0_46_1 hc hi, md0_46_2 hc hi, md0_46_3 hc hi, md0_46_4 hc hi, md0_46_5 hc hi, md0_0 hc hi, md0_9 hc hi, md0_44 hc hi, md0_send hc hi, md0_rp0 hc hi, md0_rp1 hc hi, md0_rp2 hc hi, md0_Mo_pulse_0_j12 hc hi, md0_Mo_pulse_0_j59 hc hi]; done)))
theorem md0_Mo_pulse_0_j10 {c i k : Nat} (hc : c ≠ 0 ∧ c ≠ 4 ∧ c ≠ 5 ∧ c ≠ 6 ∧ c ≠ 7 ∧ c ≠ 8 ∧ c ≠ 9 ∧ c ≠ 44) (hi : ¬ ((28 ≤ c ∧ c ≤ 39 ∧ k = 0) ∨ (c = 43 ∧ 0 ≤ k ∧ k < 3) ∨ (c = 46 ∧ 0 ≤ k ∧ k < 6) ∨ ((c = 47 ∨ c = 48) ∧ 0 ≤ k ∧ k < 4))) : ∀ (v : fw_V) (x4 : Int32), mf_Mo_pulse_0_j10 v x4 c i k = v c i k := by
  intro v x4
  unfold mf_Mo_pulse_0_j10
  (try dsimp only)
  all_goals ((repeat' split) <;> (first | with_reducible rfl | (simp only [md0_28 hc hi, md0_29 hc hi, md0_31 hc hi, md0_32 hc hi, md0_33 hc hi, md0_34 hc hi, md0_35 hc hi, md0_36 hc hi, md0_37 hc hi, md0_38 hc hi, md0_39 hc hi, md0_43_0 hc hi, md0_43_1 hc hi, md0_43_2 hc hi, md0_47_0 hc hi, md0_48_0 hc hi, md0_47_1 hc hi, md0_48_1 hc hi, md0_47_2 hc hi, md0_48_2 hc hi, md0_47_3 hc hi, md0_48_3 hc hi, md0_46_0 hc hi, md0_46_1 hc hi, md0_46_2 hc hi, md0_46_3 hc hi, md0_46_4 hc hi, md0_46_5 hc hi, md0_0 hc hi, md0_9 hc hi, md0_44 hc hi, md0_send hc hi, md0_rp0 hc hi, md0_rp1 hc hi, md0_rp2 hc hi, md0_Mo_pulse_0_j11 hc hi]; done)))
theorem md0_Mo_pulse_0_j66 {c i k : Nat} (hc : c ≠ 0 ∧ c ≠ 4 ∧ c ≠ 5 ∧ c ≠ 6 ∧ c ≠ 7 ∧ c ≠ 8 ∧ c ≠ 9 ∧ c ≠ 44) (hi : ¬ ((28 ≤ c ∧ c ≤ 39 ∧ k = 0) ∨ (c = 43 ∧ 0 ≤ k ∧ k < 3) ∨ (c = 46 ∧ 0 ≤ k ∧ k < 6) ∨ ((c = 47 ∨ c = 48) ∧ 0 ≤ k ∧ k < 4))) : ∀ (v : fw_V) (x4 : Int32) (x90 : Int32), mf_Mo_pulse_0_j66 v x4 x90 c i k = v c i k := by
  intro v x4 x90
  unfold mf_Mo_pulse_0_j66
  (try dsimp only)
  all_goals ((repeat' split) <;> (first | with_reducible rfl | (simp only [md0_28 hc hi, md0_29 hc hi, md0_31 hc hi, md0_32 hc hi, md0_33 hc hi, md0_34 hc hi, md0_35 hc hi, md0_36 hc hi, md0_37 hc hi, md0_38 hc hi, md0_39 hc hi, md0_43_0 hc hi, md0_43_1 hc hi, md0_43_2 hc hi, md0_47_0 hc hi, md0_48_0 hc hi, md0_47_1 hc hi, md0_48_1 hc hi, md0_47_2 hc hi, md0_48_2 hc hi, md0_47_3 hc hi, md0_48_3 hc hi, md0_46_0 hc hi, md0_46_1 hc hi, md0_46_2 hc hi, md0_46_3 hc hi, md0_46_4 hc hi, md0_46_5 hc hi, md0_0 hc hi, md0_9 hc hi, md0_44 hc hi, md0_send hc hi, md0_rp0 hc hi, md0_rp1 hc hi, md0_rp2 hc hi, md0_Mo_pulse_0_j12 hc hi, md0_Mo_pulse_0_j59 hc hi]; done)))
theorem md0_Mo_pulse_0_j9 {c i k : Nat} (hc : c ≠ 0 ∧ c ≠ 4 ∧ c ≠ 5 ∧ c ≠ 6 ∧ c ≠ 7 ∧ c ≠ 8 ∧ c ≠ 9 ∧ c ≠ 44) (hi : ¬ ((28 ≤ c ∧ c ≤ 39 ∧ k = 0) ∨ (c = 43 ∧ 0 ≤ k ∧ k < 3) ∨ (c = 46 ∧ 0 ≤ k ∧ k < 6) ∨ ((c = 47 ∨ c = 48) ∧ 0 ≤ k ∧ k < 4))) : ∀ (v : fw_V), mf_Mo_pulse_0_j9 v c i k = v c i k := by
  intro v
  unfold mf_Mo_pulse_0_j9
  (try dsimp only)
  all_goals ((repeat' split) <;> (first | with_reducible rfl | (simp only [md0_28 hc hi, md0_29 hc hi, md0_31 hc hi, md0_32 hc hi, md0_33 hc hi, md0_34 hc hi, md0_35 hc hi, md0_36 hc hi, md0_37 hc hi, md0_38 hc hi, md0_39 hc hi, md0_43_0 hc hi, md0_43_1 hc hi, md0_43_2 hc hi, md0_47_0 hc hi, md0_48_0 hc hi, md0_47_1 hc hi, md0_48_1 hc hi, md0_47_2 hc hi, md0_48_2 hc hi, md0_47_3 hc hi, md0_48_3 hc hi, md0_46_0 hc hi, md0_46_1 hc hi, md0_46_2 hc hi, md0_46_3 hc hi, md0_46_4 hc hi, md0_46_5 hc hi, md0_0 hc hi, md0_9 hc hi, md0_44 hc hi, md0_send hc hi, md0_rp0 hc hi, md0_rp1 hc hi, md0_rp2 hc hi, md0_Mo_pulse_0_j10 hc hi, md0_Mo_pulse_0_j66 hc hi]; done)))
theorem md0_Mo_pulse_0_j8 {c i k : Nat} (hc : c ≠ 0 ∧ c ≠ 4 ∧ c ≠ 5 ∧ c ≠ 6 ∧ c ≠ 7 ∧ c ≠ 8 ∧ c ≠ 9 ∧ c ≠ 44) (hi : ¬ ((28 ≤ c ∧ c ≤ 39 ∧ k = 0) ∨ (c = 43 ∧ 0 ≤ k ∧ k < 3) ∨ (c = 46 ∧ 0 ≤ k ∧ k < 6) ∨ ((c = 47 ∨ c = 48) ∧ 0 ≤ k ∧ k < 4))) : ∀ (v : fw_V), mf_Mo_pulse_0_j8 v c i k = v c i k := by
  intro v
  unfold mf_Mo_pulse_0_j8
  (try dsimp only)
  all_goals ((repeat' split) <;> (first | with_reducible rfl | (simp only [md0_28 hc hi, md0_29 hc hi, md0_31 hc hi, md0_32 hc hi, md0_33 hc hi, md0_34 hc hi, md0_35 hc hi, md0_36 hc hi, md0_37 hc hi, md0_38 hc hi, md0_39 hc hi, md0_43_0 hc hi, md0_43_1 hc hi, md0_43_2 hc hi, md0_47_0 hc hi, md0_48_0 hc hi, md0_47_1 hc hi, md0_48_1 hc hi, md0_47_2 hc hi, md0_48_2 hc hi, md0_47_3 hc hi, md0_48_3 hc hi, md0_46_0 hc hi, md0_46_1 hc hi, md0_46_2 hc hi, md0_46_3 hc hi, md0_46_4 hc hi, md0_46_5 hc hi, md0_0 hc hi, md0_9 hc hi, md0_44 hc hi, md0_send hc hi, md0_rp0 hc hi, md0_rp1 hc hi, md0_rp2 hc hi, md0_Mo_pulse_0_j9 hc hi]; done)))
theorem md0_Mo_pulse_0_j84 {c i k : Nat} (hc : c ≠ 0 ∧ c ≠ 4 ∧ c ≠ 5 ∧ c ≠ 6 ∧ c ≠ 7 ∧ c ≠ 8 ∧ c ≠ 9 ∧ c ≠ 44) (hi : ¬ ((28 ≤ c ∧ c ≤ 39 ∧ k = 0) ∨ (c = 43 ∧ 0 ≤ k ∧ k < 3) ∨ (c = 46 ∧ 0 ≤ k ∧ k < 6) ∨ ((c = 47 ∨ c = 48) ∧ 0 ≤ k ∧ k < 4))) : ∀ (v : fw_V), mf_Mo_pulse_0_j84 v c i k = v c i k := by
  intro v
  unfold mf_Mo_pulse_0_j84
  (try dsimp only)
  all_goals ((repeat' split) <;> (first | with_reducible rfl | (simp only [md0_28 hc hi, md0_29 hc hi, md0_31 hc hi, md0_32 hc hi, md0_33 hc hi, md0_34 hc hi, md0_35 hc hi, md0_36 hc hi, md0_37 hc hi, md0_38 hc hi, md0_39 hc hi, md0_43_0 hc hi, md0_43_1 hc hi, md0_43_2 hc hi, md0_47_0 hc hi, md0_48_0 hc hi, md0_47_1 hc hi, md0_48_1 hc hi, md0_47_2 hc hi, md0_48_2 hc hi, md0_47_3 hc hi, md0_48_3 hc hi, md0_46_0 hc hi, md0_46_1 hc hi, md0_46_2 hc hi, md0_46_3 hc hi, md0_46_4 hc hi, md0_46_5 hc hi, md0_0 hc hi, md0_9 hc hi, md0_44 hc hi, md0_send hc hi, md0_rp0 hc hi, md0_rp1 hc hi, md0_rp2 hc hi, md0_Mo_reply_0 hc hi]; done)))
theorem md0_Mo_pulse_0_j83 {c i k : Nat} (hc : c ≠ 0 ∧ c ≠ 4 ∧ c ≠ 5 ∧ c ≠ 6 ∧ c ≠ 7 ∧ c ≠ 8 ∧ c ≠ 9 ∧ c ≠ 44) (hi : ¬ ((28 ≤ c ∧ c ≤ 39 ∧ k = 0) ∨ (c = 43 ∧ 0 ≤ k ∧ k < 3) ∨ (c = 46 ∧ 0 ≤ k ∧ k < 6) ∨ ((c = 47 ∨ c = 48) ∧ 0 ≤ k ∧ k < 4))) : ∀ (v : fw_V), mf_Mo_pulse_0_j83 v c i k = v c i k := by
  intro v
  unfold mf_Mo_pulse_0_j83
  (try dsimp only)
  all_goals ((repeat' split) <;> (first | with_reducible rfl | (simp only [md0_28 hc hi, md0_29 hc hi, md0_31 hc hi, md0_32 hc hi, md0_33 hc hi, md0_34 hc hi, md0_35 hc hi, md0_36 hc hi, md0_37 hc hi, md0_38 hc hi, md0_39 hc hi, md0_43_0 hc hi, md0_43_1 hc hi, md0_43_2 hc hi, md0_47_0 hc hi, md0_48_0 hc hi, md0_47_1 hc hi, md0_48_1 hc hi, md0_47_2 hc hi, md0_48_2 hc hi, md0_47_3 hc hi, md0_48_3 hc hi, md0_46_0 hc hi, md0_46_1 hc hi, md0_46_2 hc hi, md0_46_3 hc hi, md0_46_4 hc hi, md0_46_5 hc hi, md0_0 hc hi, md0_9 hc hi, md0_44 hc hi, md0_send hc hi, md0_rp0 hc hi, md0_rp1 hc hi, md0_rp2 hc hi, md0_Mo_pulse_0_j84 hc hi]; done)))
theorem md0_Mo_pulse_0_j86 {c i k : Nat} (hc : c ≠ 0 ∧ c ≠ 4 ∧ c ≠ 5 ∧ c ≠ 6 ∧ c ≠ 7 ∧ c ≠ 8 ∧ c ≠ 9 ∧ c ≠ 44) (hi : ¬ ((28 ≤ c ∧ c ≤ 39 ∧ k = 0) ∨ (c = 43 ∧ 0 ≤ k ∧ k < 3) ∨ (c = 46 ∧ 0 ≤ k ∧ k < 6) ∨ ((c = 47 ∨ c = 48) ∧ 0 ≤ k ∧ k < 4))) : ∀ (v : fw_V), mf_Mo_pulse_0_j86 v c i k = v c i k := by
  intro v
  unfold mf_Mo_pulse_0_j86
  (try dsimp only)
  all_goals ((repeat' split) <;> (first | with_reducible rfl | (simp only [md0_28 hc hi, md0_29 hc hi, md0_31 hc hi, md0_32 hc hi, md0_33 hc hi, md0_34 hc hi, md0_35 hc hi, md0_36 hc hi, md0_37 hc hi, md0_38 hc hi, md0_39 hc hi, md0_43_0 hc hi, md0_43_1 hc hi, md0_43_2 hc hi, md0_47_0 hc hi, md0_48_0 hc hi, md0_47_1 hc hi, md0_48_1 hc hi, md0_47_2 hc hi, md0_48_2 hc hi, md0_47_3 hc hi, md0_48_3 hc hi, md0_46_0 hc hi, md0_46_1 hc hi, md0_46_2 hc hi, md0_46_3 hc hi, md0_46_4 hc hi, md0_46_5 hc hi, md0_0 hc hi, md0_9 hc hi, md0_44 hc hi, md0_send hc hi, md0_rp0 hc hi, md0_rp1 hc hi, md0_rp2 hc hi, md0_Mo_reply_0 hc hi]; done)))
theorem md0_Mo_pulse_0_j85 {c i k : Nat} (hc : c ≠ 0 ∧ c ≠ 4 ∧ c ≠ 5 ∧ c ≠ 6 ∧ c ≠ 7 ∧ c ≠ 8 ∧ c ≠ 9 ∧ c ≠ 44) (hi : ¬ ((28 ≤ c ∧ c ≤ 39 ∧ k = 0) ∨ (c = 43 ∧ 0 ≤ k ∧ k < 3) ∨ (c = 46 ∧ 0 ≤ k ∧ k < 6) ∨ ((c = 47 ∨ c = 48) ∧ 0 ≤ k ∧ k < 4))) : ∀ (v : fw_V), mf_Mo_pulse_0_j85 v c i k = v c i k := by
  intro v
  unfold mf_Mo_pulse_0_j85
  (try dsimp only)
  all_goals ((repeat' split) <;> (first | with_reducible rfl | (simp only [md0_28 hc hi, md0_29 hc hi, md0_31 hc hi, md0_32 hc hi, md0_33 hc hi, md0_34 hc hi, md0_35 hc hi, md0_36 hc hi, md0_37 hc hi, md0_38 hc hi, md0_39 hc hi, md0_43_0 hc hi, md0_43_1 hc hi, md0_43_2 hc hi, md0_47_0 hc hi, md0_48_0 hc hi, md0_47_1 hc hi, md0_48_1 hc hi, md0_47_2 hc hi, md0_48_2 hc hi, md0_47_3 hc hi, md0_48_3 hc hi, md0_46_0 hc hi, md0_46_1 hc hi, md0_46_2 hc hi, md0_46_3 hc hi, md0_46_4 hc hi, md0_46_5 hc hi, md0_0 hc hi, md0_9 hc hi, md0_44 hc hi, md0_send hc hi, md0_rp0 hc hi, md0_rp1 hc hi, md0_rp2 hc hi, md0_Mo_pulse_0_j86 hc hi]; done)))
theorem md0_Mo_pulse_0_j82 {c i k : Nat} (hc : c ≠ 0 ∧ c ≠ 4 ∧ c ≠ 5 ∧ c ≠ 6 ∧ c ≠ 7 ∧ c ≠ 8 ∧ c ≠ 9 ∧ c ≠ 44) (hi : ¬ ((28 ≤ c ∧ c ≤ 39 ∧ k = 0) ∨ (c = 43 ∧ 0 ≤ k ∧ k < 3) ∨ (c = 46 ∧ 0 ≤ k ∧ k < 6) ∨ ((c = 47 ∨ c = 48) ∧ 0 ≤ k ∧ k < 4))) : ∀ (v : fw_V) (x4 : Int32), mf_Mo_pulse_0_j82 v x4 c i k = v c i k := by
  intro v x4
  unfold mf_Mo_pulse_0_j82
  (try dsimp only)
  all_goals ((repeat' split) <;> (first | with_reducible rfl | (simp only [md0_28 hc hi, md0_29 hc hi, md0_31 hc hi, md0_32 hc hi, md0_33 hc hi, md0_34 hc hi, md0_35 hc hi, md0_36 hc hi, md0_37 hc hi, md0_38 hc hi, md0_39 hc hi, md0_43_0 hc hi, md0_43_1 hc hi, md0_43_2 hc hi, md0_47_0 hc hi, md0_48_0 hc hi, md0_47_1 hc hi, md0_48_1 hc hi, md0_47_2 hc hi, md0_48_2 hc hi, md0_47_3 hc hi, md0_48_3 hc hi, md0_46_0 hc hi, md0_46_1 hc hi, md0_46_2 hc hi, md0_46_3 hc hi, md0_46_4 hc hi, md0_46_5 hc hi, md0_0 hc hi, md0_9 hc hi, md0_44 hc hi, md0_send hc hi, md0_rp0 hc hi, md0_rp1 hc hi, md0_rp2 hc hi, md0_Mo_pulse_0_j83 hc hi, md0_Mo_pulse_0_j85 hc hi]; done)))
theorem md0_Mo_pulse_0_j81 {c i k : Nat} (hc : c ≠ 0 ∧ c ≠ 4 ∧ c ≠ 5 ∧ c ≠ 6 ∧ c ≠ 7 ∧ c ≠ 8 ∧ c ≠ 9 ∧ c ≠ 44) (hi : ¬ ((28 ≤ c ∧ c ≤ 39 ∧ k = 0) ∨ (c = 43 ∧ 0 ≤ k ∧ k < 3) ∨ (c = 46 ∧ 0 ≤ k ∧ k < 6) ∨ ((c = 47 ∨ c = 48) ∧ 0 ≤ k ∧ k < 4))) : ∀ (v : fw_V) (x4 : Int32), mf_Mo_pulse_0_j81 v x4 c i k = v c i k := by
  intro v x4
  unfold mf_Mo_pulse_0_j81
  (try dsimp only)
  all_goals ((repeat' split) <;> (first | with_reducible rfl | (simp only [md0_28 hc hi, md0_29 hc hi, md0_31 hc hi, md0_32 hc hi, md0_33 hc hi, md0_34 hc hi, md0_35 hc hi, md0_36 hc hi, md0_37 hc hi, md0_38 hc hi, md0_39 hc hi, md0_43_0 hc hi, md0_43_1 hc hi, md0_43_2 hc hi, md0_47_0 hc hi, md0_48_0 hc hi, md0_47_1 hc hi, md0_48_1 hc hi, md0_47_2 hc hi, md0_48_2 hc hi, md0_47_3 hc hi, md0_48_3 hc hi, md0_46_0 hc hi, md0_46_1 hc hi, md0_46_2 hc hi, md0_46_3 hc hi, md0_46_4 hc hi, md0_46_5 hc hi, md0_0 hc hi, md0_9 hc hi, md0_44 hc hi, md0_send hc hi, md0_rp0 hc hi, md0_rp1 hc hi, md0_rp2 hc hi, md0_Mo_pulse_0_j82 hc hi]; done)))
theorem md0_Mo_pulse_0_j87 {c i k : Nat} (hc : c ≠ 0 ∧ c ≠ 4 ∧ c ≠ 5 ∧ c ≠ 6 ∧ c ≠ 7 ∧ c ≠ 8 ∧ c ≠ 9 ∧ c ≠ 44) (hi : ¬ ((28 ≤ c ∧ c ≤ 39 ∧ k = 0) ∨ (c = 43 ∧ 0 ≤ k ∧ k < 3) ∨ (c = 46 ∧ 0 ≤ k ∧ k < 6) ∨ ((c = 47 ∨ c = 48) ∧ 0 ≤ k ∧ k < 4))) : ∀ (v : fw_V) (x4 : Int32) (x90 : Int32), mf_Mo_pulse_0_j87 v x4 x90 c i k = v c i k := by
  intro v x4 x90
  unfold mf_Mo_pulse_0_j87
  (try dsimp only)
  all_goals ((repeat' split) <;> (first | with_reducible rfl | (simp only [md0_28 hc hi, md0_29 hc hi, md0_31 hc hi, md0_32 hc hi, md0_33 hc hi, md0_34 hc hi, md0_35 hc hi, md0_36 hc hi, md0_37 hc hi, md0_38 hc hi, md0_39 hc hi, md0_43_0 hc hi, md0_43_1 hc hi, md0_43_2 hc hi, md0_47_0 hc hi, md0_48_0 hc hi, md0_47_1 hc hi, md0_48_1 hc hi, md0_47_2 hc hi, md0_48_2 hc hi, md0_47_3 hc hi, md0_48_3 hc hi, md0_46_0 hc hi, md0_46_1 hc hi, md0_46_2 hc hi, md0_46_3 hc hi, md0_46_4 hc hi, md0_46_5 hc hi, md0_0 hc hi, md0_9 hc hi, md0_44 hc hi, md0_send hc hi, md0_rp0 hc hi, md0_rp1 hc hi, md0_rp2 hc hi, md0_Mo_pulse_0_j83 hc hi, md0_Mo_pulse_0_j85 hc hi]; done)))
theorem md0_Mo_pulse_0_j80 {c i k : Nat} (hc : c ≠ 0 ∧ c ≠ 4 ∧ c ≠ 5 ∧ c ≠ 6 ∧ c ≠ 7 ∧ c ≠ 8 ∧ c ≠ 9 ∧ c ≠ 44) (hi : ¬ ((28 ≤ c ∧ c ≤ 39 ∧ k = 0) ∨ (c = 43 ∧ 0 ≤ k ∧ k < 3) ∨ (c = 46 ∧ 0 ≤ k ∧ k < 6) ∨ ((c = 47 ∨ c = 48) ∧ 0 ≤ k ∧ k < 4))) : ∀ (v : fw_V), mf_Mo_pulse_0_j80 v c i k = v c i k := by
  intro v
  unfold mf_Mo_pulse_0_j80
  (try dsimp only)
  all_goals ((repeat' split) <;> (first | with_reducible rfl | (simp only [md0_28 hc hi, md0_29 hc hi, md0_31 hc hi, md0_32 hc hi, md0_33 hc hi, md0_34 hc hi, md0_35 hc hi, md0_36 hc hi, md0_37 hc hi, md0_38 hc hi, md0_39 hc hi, md0_43_0 hc hi, md0_43_1 hc hi, md0_43_2 hc hi, md0_47_0 hc hi, md0_48_0 hc hi, md0_47_1 hc hi, md0_48_1 hc hi, md0_47_2 hc hi, md0_48_2 hc hi, md0_47_3 hc hi, md0_48_3 hc hi, md0_46_0 hc hi, md0_46_1 hc hi, md0_46_2 hc hi, md0_46_3 hc hi, md0_46_4 hc hi, md0_46_5 hc hi, md0_0 hc hi, md0_9 hc hi, md0_44 hc hi, md0_send hc hi, md0_rp0 hc hi, md0_rp1 hc hi, md0_rp2 hc hi, md0_Mo_pulse_0_j81 hc hi, md0_Mo_pulse_0_j87 hc hi]; done)))
theorem md0_Mo_pulse_0_j79 {c i k : Nat} (hc : c ≠ 0 ∧ c ≠ 4 ∧ c ≠ 5 ∧ c ≠ 6 ∧ c ≠ 7 ∧ c ≠ 8 ∧ c ≠ 9 ∧ c ≠ 44) (hi : ¬ ((28 ≤ c ∧ c ≤ 39 ∧ k = 0) ∨ (c = 43 ∧ 0 ≤ k ∧ k < 3) ∨ (c = 46 ∧ 0 ≤ k ∧ k < 6) ∨ ((c = 47 ∨ c = 48) ∧ 0 ≤ k ∧ k < 4))) : ∀ (v : fw_V), mf_Mo_pulse_0_j79 v c i k = v c i k := by
  intro v
  unfold mf_Mo_pulse_0_j79
  (try dsimp only)
  all_goals ((repeat' split) <;> (first | with_reducible rfl | (simp only [md0_28 hc hi, md0_29 hc hi, md0_31 hc hi, md0_32 hc hi, md0_33 hc hi, md0_34 hc hi, md0_35 hc hi, md0_36 hc hi, md0_37 hc hi, md0_38 hc hi, md0_39 hc hi, md0_43_0 hc hi, md0_43_1 hc hi, md0_43_2 hc hi, md0_47_0 hc hi, md0_48_0 hc hi, md0_47_1 hc hi, md0_48_1 hc hi, md0_47_2 hc hi, md0_48_2 hc hi, md0_47_3 hc hi, md0_48_3 hc hi, md0_46_0 hc hi, md0_46_1 hc hi, md0_46_2 hc hi, md0_46_3 hc hi, md0_46_4 hc hi, md0_46_5 hc hi, md0_0 hc hi, md0_9 hc hi, md0_44 hc hi, md0_send hc hi, md0_rp0 hc hi, md0_rp1 hc hi, md0_rp2 hc hi, md0_Mo_pulse_0_j80 hc hi]; done)))
theorem md0_Mo_pulse_0_j92 {c i k : Nat} (hc : c ≠ 0 ∧ c ≠ 4 ∧ c ≠ 5 ∧ c ≠ 6 ∧ c ≠ 7 ∧ c ≠ 8 ∧ c ≠ 9 ∧ c ≠ 44) (hi : ¬ ((28 ≤ c ∧ c ≤ 39 ∧ k = 0) ∨ (c = 43 ∧ 0 ≤ k ∧ k < 3) ∨ (c = 46 ∧ 0 ≤ k ∧ k < 6) ∨ ((c = 47 ∨ c = 48) ∧ 0 ≤ k ∧ k < 4))) : ∀ (v : fw_V), mf_Mo_pulse_0_j92 v c i k = v c i k := by
  intro v
  unfold mf_Mo_pulse_0_j92
  (try dsimp only)
  all_goals ((repeat' split) <;> (first | with_reducible rfl | (simp only [md0_28 hc hi, md0_29 hc hi, md0_31 hc hi, md0_32 hc hi, md0_33 hc hi, md0_34 hc hi, md0_35 hc hi, md0_36 hc hi, md0_37 hc hi, md0_38 hc hi, md0_39 hc hi, md0_43_0 hc hi, md0_43_1 hc hi, md0_43_2 hc hi, md0_47_0 hc hi, md0_48_0 hc hi, md0_47_1 hc hi, md0_48_1 hc hi, md0_47_2 hc hi, md0_48_2 hc hi, md0_47_3 hc hi, md0_48_3 hc hi, md0_46_0 hc hi, md0_46_1 hc hi, md0_46_2 hc hi, md0_46_3 hc hi, md0_46_4 hc hi, md0_46_5 hc hi, md0_0 hc hi, md0_9 hc hi, md0_44 hc hi, md0_send hc hi, md0_rp0 hc hi, md0_rp1 hc hi, md0_rp2 hc hi, md0_Mo_pulse_0_j86 hc hi]; done)))
theorem md0_Mo_pulse_0_j93 {c i k : Nat} (hc : c ≠ 0 ∧ c ≠ 4 ∧ c ≠ 5 ∧ c ≠ 6 ∧ c ≠ 7 ∧ c ≠ 8 ∧ c ≠ 9 ∧ c ≠ 44) (hi : ¬ ((28 ≤ c ∧ c ≤ 39 ∧ k = 0) ∨ (c = 43 ∧ 0 ≤ k ∧ k < 3) ∨ (c = 46 ∧ 0 ≤ k ∧ k < 6) ∨ ((c = 47 ∨ c = 48) ∧ 0 ≤ k ∧ k < 4))) : ∀ (v : fw_V), mf_Mo_pulse_0_j93 v c i k = v c i k := by
  intro v
  unfold mf_Mo_pulse_0_j93
  (try dsimp only)
  all_goals ((repeat' split) <;> (first | with_reducible rfl | (simp only [md0_28 hc hi, md0_29 hc hi, md0_31 hc hi, md0_32 hc hi, md0_33 hc hi, md0_34 hc hi, md0_35 hc hi, md0_36 hc hi, md0_37 hc hi, md0_38 hc hi, md0_39 hc hi, md0_43_0 hc hi, md0_43_1 hc hi, md0_43_2 hc hi, md0_47_0 hc hi, md0_48_0 hc hi, md0_47_1 hc hi, md0_48_1 hc hi, md0_47_2 hc hi, md0_48_2 hc hi, md0_47_3 hc hi, md0_48_3 hc hi, md0_46_0 hc hi, md0_46_1 hc hi, md0_46_2 hc hi, md0_46_3 hc hi, md0_46_4 hc hi, md0_46_5 hc hi, md0_0 hc hi, md0_9 hc hi, md0_44 hc hi, md0_send hc hi, md0_rp0 hc hi, md0_rp1 hc hi, md0_rp2 hc hi, md0_Mo_pulse_0_j86 hc hi]; done)))
theorem md0_Mo_pulse_0_j91 {c i k : Nat} (hc : c ≠ 0 ∧ c ≠ 4 ∧ c ≠ 5 ∧ c ≠ 6 ∧ c ≠ 7 ∧ c ≠ 8 ∧ c ≠ 9 ∧ c ≠ 44) (hi : ¬ ((28 ≤ c ∧ c ≤ 39 ∧ k = 0) ∨ (c = 43 ∧ 0 ≤ k ∧ k < 3) ∨ (c = 46 ∧ 0 ≤ k ∧ k < 6) ∨ ((c = 47 ∨ c = 48) ∧ 0 ≤ k ∧ k < 4))) : ∀ (v : fw_V) (x4 : Int32), mf_Mo_pulse_0_j91 v x4 c i k = v c i k := by
  intro v x4
  unfold mf_Mo_pulse_0_j91
  (try dsimp only)
  all_goals ((repeat' split) <;> (first | with_reducible rfl | (simp only [md0_28 hc hi, md0_29 hc hi, md0_31 hc hi, md0_32 hc hi, md0_33 hc hi, md0_34 hc hi, md0_35 hc hi, md0_36 hc hi, md0_37 hc hi, md0_38 hc hi, md0_39 hc hi, md0_43_0 hc hi, md0_43_1 hc hi, md0_43_2 hc hi, md0_47_0 hc hi, md0_48_0 hc hi, md0_47_1 hc hi, md0_48_1 hc hi, md0_47_2 hc hi, md0_48_2 hc hi, md0_47_3 hc hi, md0_48_3 hc hi, md0_46_0 hc hi, md0_46_1 hc hi, md0_46_2 hc hi, md0_46_3 hc hi, md0_46_4 hc hi, md0_46_5 hc hi, md0_0 hc hi, md0_9 hc hi, md0_44 hc hi, md0_send hc hi, md0_rp0 hc hi, md0_rp1 hc hi, md0_rp2 hc hi, md0_Mo_pulse_0_j92 hc hi, md0_Mo_pulse_0_j93 hc hi]; done)))
theorem md0_Mo_pulse_0_j90 {c i k : Nat} (hc : c ≠ 0 ∧ c ≠ 4 ∧ c ≠ 5 ∧ c ≠ 6 ∧ c ≠ 7 ∧ c ≠ 8 ∧ c ≠ 9 ∧ c ≠ 44) (hi : ¬ ((28 ≤ c ∧ c ≤ 39 ∧ k = 0) ∨ (c = 43 ∧ 0 ≤ k ∧ k < 3) ∨ (c = 46 ∧ 0 ≤ k ∧ k < 6) ∨ ((c = 47 ∨ c = 48) ∧ 0 ≤ k ∧ k < 4))) : ∀ (v : fw_V) (x4 : Int32), mf_Mo_pulse_0_j90 v x4 c i k = v c i k := by
  intro v x4
  unfold mf_Mo_pulse_0_j90
  (try dsimp only)
  all_goals ((repeat' split) <;> (first | with_reducible rfl | (simp only [md0_28 hc hi, md0_29 hc hi, md0_31 hc hi, md0_32 hc hi, md0_33 hc hi, md0_34 hc hi, md0_35 hc hi, md0_36 hc hi, md0_37 hc hi, md0_38 hc hi, md0_39 hc hi, md0_43_0 hc hi, md0_43_1 hc hi, md0_43_2 hc hi, md0_47_0 hc hi, md0_48_0 hc hi, md0_47_1 hc hi, md0_48_1 hc hi, md0_47_2 hc hi, md0_48_2 hc hi, md0_47_3 hc hi, md0_48_3 hc hi, md0_46_0 hc hi, md0_46_1 hc hi, md0_46_2 hc hi, md0_46_3 hc hi, md0_46_4 hc hi, md0_46_5 hc hi, md0_0 hc hi, md0_9 hc hi, md0_44 hc hi, md0_send hc hi, md0_rp0 hc hi, md0_rp1 hc hi, md0_rp2 hc hi, md0_Mo_pulse_0_j91 hc hi]; done)))
theorem md0_Mo_pulse_0_j94 {c i k : Nat} (hc : c ≠ 0 ∧ c ≠ 4 ∧ c ≠ 5 ∧ c ≠ 6 ∧ c ≠ 7 ∧ c ≠ 8 ∧ c ≠ 9 ∧ c ≠ 44) (hi : ¬ ((28 ≤ c ∧ c ≤ 39 ∧ k = 0) ∨ (c = 43 ∧ 0 ≤ k ∧ k < 3) ∨ (c = 46 ∧ 0 ≤ k ∧ k < 6) ∨ ((c = 47 ∨ c = 48) ∧ 0 ≤ k ∧ k < 4))) : ∀ (v : fw_V) (x4 : Int32) (x90 : Int32), mf_Mo_pulse_0_j94 v x4 x90 c i k = v c i k := by
  intro v x4 x90
  unfold mf_Mo_pulse_0_j94
  (try dsimp only)
  all_goals ((repeat' split) <;> (first | with_reducible rfl | (simp only [md0_28 hc hi, md0_29 hc hi, md0_31 hc hi, md0_32 hc hi, md0_33 hc hi, md0_34 hc hi, md0_35 hc hi, md0_36 hc hi, md0_37 hc hi, md0_38 hc hi, md0_39 hc hi, md0_43_0 hc hi, md0_43_1 hc hi, md0_43_2 hc hi, md0_47_0 hc hi, md0_48_0 hc hi, md0_47_1 hc hi, md0_48_1 hc hi, md0_47_2 hc hi, md0_48_2 hc hi, md0_47_3 hc hi, md0_48_3 hc hi, md0_46_0 hc hi, md0_46_1 hc hi, md0_46_2 hc hi, md0_46_3 hc hi, md0_46_4 hc hi, md0_46_5 hc hi, md0_0 hc hi, md0_9 hc hi, md0_44 hc hi, md0_send hc hi, md0_rp0 hc hi, md0_rp1 hc hi, md0_rp2 hc hi, md0_Mo_pulse_0_j92 hc hi, md0_Mo_pulse_0_j93 hc hi]; done)))
theorem md0_Mo_pulse_0_j89 {c i k : Nat} (hc : c ≠ 0 ∧ c ≠ 4 ∧ c ≠ 5 ∧ c ≠ 6 ∧ c ≠ 7 ∧ c ≠ 8 ∧ c ≠ 9 ∧ c ≠ 44) (hi : ¬ ((28 ≤ c ∧ c ≤ 39 ∧ k = 0) ∨ (c = 43 ∧ 0 ≤ k ∧ k < 3) ∨ (c = 46 ∧ 0 ≤ k ∧ k < 6) ∨ ((c = 47 ∨ c = 48) ∧ 0 ≤ k ∧ k < 4))) : ∀ (v : fw_V), mf_Mo_pulse_0_j89 v c i k = v c i k := by
  intro v
  unfold mf_Mo_pulse_0_j89
  (try dsimp only)
  all_goals ((repeat' split) <;> (first | with_reducible rfl | (simp only [md0_28 hc hi, md0_29 hc hi, md0_31 hc hi, md0_32 hc hi, md0_33 hc hi, md0_34 hc hi, md0_35 hc hi, md0_36 hc hi, md0_37 hc hi, md0_38 hc hi, md0_39 hc hi, md0_43_0 hc hi, md0_43_1 hc hi, md0_43_2 hc hi, md0_47_0 hc hi, md0_48_0 hc hi, md0_47_1 hc hi, md0_48_1 hc hi, md0_47_2 hc hi, md0_48_2 hc hi, md0_47_3 hc hi, md0_48_3 hc hi, md0_46_0 hc hi, md0_46_1 hc hi, md0_46_2 hc hi, md0_46_3 hc hi, md0_46_4 hc hi, md0_46_5 hc hi, md0_0 hc hi, md0_9 hc hi, md0_44 hc hi, md0_send hc hi, md0_rp0 hc hi, md0_rp1 hc hi, md0_rp2 hc hi, md0_Mo_pulse_0_j90 hc hi, md0_Mo_pulse_0_j94 hc hi]; done)))
theorem md0_Mo_pulse_0_j88 {c i k : Nat} (hc : c ≠ 0 ∧ c ≠ 4 ∧ c ≠ 5 ∧ c ≠ 6 ∧ c ≠ 7 ∧ c ≠ 8 ∧ c ≠ 9 ∧ c ≠ 44) (hi : ¬ ((28 ≤ c ∧ c ≤ 39 ∧ k = 0) ∨ (c = 43 ∧ 0 ≤ k ∧ k < 3) ∨ (c = 46 ∧ 0 ≤ k ∧ k < 6) ∨ ((c = 47 ∨ c = 48) ∧ 0 ≤ k ∧ k < 4))) : ∀ (v : fw_V), mf_Mo_pulse_0_j88 v c i k = v c i k := by
  intro v
  unfold mf_Mo_pulse_0_j88
  (try dsimp only)
  all_goals ((repeat' split) <;> (first | with_reducible rfl | (simp only [md0_28 hc hi, md0_29 hc hi, md0_31 hc hi, md0_32 hc hi, md0_33 hc hi, md0_34 hc hi, md0_35 hc hi, md0_36 hc hi, md0_37 hc hi, md0_38 hc hi, md0_39 hc hi, md0_43_0 hc hi, md0_43_1 hc hi, md0_43_2 hc hi, md0_47_0 hc hi, md0_48_0 hc hi, md0_47_1 hc hi, md0_48_1 hc hi, md0_47_2 hc hi, md0_48_2 hc hi, md0_47_3 hc hi, md0_48_3 hc hi, md0_46_0 hc hi, md0_46_1 hc hi, md0_46_2 hc hi, md0_46_3 hc hi, md0_46_4 hc hi, md0_46_5 hc hi, md0_0 hc hi, md0_9 hc hi, md0_44 hc hi, md0_send hc hi, md0_rp0 hc hi, md0_rp1 hc hi, md0_rp2 hc hi, md0_Mo_pulse_0_j89 hc hi]; done)))
theorem md0_Mo_pulse_0_j78 {c i k : Nat} (hc : c ≠ 0 ∧ c ≠ 4 ∧ c ≠ 5 ∧ c ≠ 6 ∧ c ≠ 7 ∧ c ≠ 8 ∧ c ≠ 9 ∧ c ≠ 44) (hi : ¬ ((28 ≤ c ∧ c ≤ 39 ∧ k = 0) ∨ (c = 43 ∧ 0 ≤ k ∧ k < 3) ∨ (c = 46 ∧ 0 ≤ k ∧ k < 6) ∨ ((c = 47 ∨ c = 48) ∧ 0 ≤ k ∧ k < 4))) : ∀ (v : fw_V) (x4 : Int32), mf_Mo_pulse_0_j78 v x4 c i k = v c i k := by
  intro v x4
  unfold mf_Mo_pulse_0_j78
  (try dsimp only)
  all_goals ((repeat' split) <;> (first | with_reducible rfl | (simp only [md0_28 hc hi, md0_29 hc hi, md0_31 hc hi, md0_32 hc hi, md0_33 hc hi, md0_34 hc hi, md0_35 hc hi, md0_36 hc hi, md0_37 hc hi, md0_38 hc hi, md0_39 hc hi, md0_43_0 hc hi, md0_43_1 hc hi, md0_43_2 hc hi, md0_47_0 hc hi, md0_48_0 hc hi, md0_47_1 hc hi, md0_48_1 hc hi, md0_47_2 hc hi, md0_48_2 hc hi, md0_47_3 hc hi, md0_48_3 hc hi, md0_46_0 hc hi, md0_46_1 hc hi, md0_46_2 hc hi, md0_46_3 hc hi, md0_46_4 hc hi, md0_46_5 hc hi, md0_0 hc hi, md0_9 hc hi, md0_44 hc hi, md0_send hc hi, md0_rp0 hc hi, md0_rp1 hc hi, md0_rp2 hc hi, md0_Mo_pulse_0_j79 hc hi, md0_Mo_pulse_0_j88 hc hi]; done)))
theorem md0_Mo_pulse_0_j77 {c i k : Nat} (hc : c ≠ 0 ∧ c ≠ 4 ∧ c ≠ 5 ∧ c ≠ 6 ∧ c ≠ 7 ∧ c ≠ 8 ∧ c ≠ 9 ∧ c ≠ 44) (hi : ¬ ((28 ≤ c ∧ c ≤ 39 ∧ k = 0) ∨ (c = 43 ∧ 0 ≤ k ∧ k < 3) ∨ (c = 46 ∧ 0 ≤ k ∧ k < 6) ∨ ((c = 47 ∨ c = 48) ∧ 0 ≤ k ∧ k < 4))) : ∀ (v : fw_V) (x4 : Int32), mf_Mo_pulse_0_j77 v x4 c i k = v c i k := by
  intro v x4
  unfold mf_Mo_pulse_0_j77
  (try dsimp only)
  all_goals ((repeat' split) <;> (first | with_reducible rfl | (simp only [md0_28 hc hi, md0_29 hc hi, md0_31 hc hi, md0_32 hc hi, md0_33 hc hi, md0_34 hc hi, md0_35 hc hi, md0_36 hc hi, md0_37 hc hi, md0_38 hc hi, md0_39 hc hi, md0_43_0 hc hi, md0_43_1 hc hi, md0_43_2 hc hi, md0_47_0 hc hi, md0_48_0 hc hi, md0_47_1 hc hi, md0_48_1 hc hi, md0_47_2 hc hi, md0_48_2 hc hi, md0_47_3 hc hi, md0_48_3 hc hi, md0_46_0 hc hi, md0_46_1 hc hi, md0_46_2 hc hi, md0_46_3 hc hi, md0_46_4 hc hi, md0_46_5 hc hi, md0_0 hc hi, md0_9 hc hi, md0_44 hc hi, md0_send hc hi, md0_rp0 hc hi, md0_rp1 hc hi, md0_rp2 hc hi, md0_Mo_pulse_0_j78 hc hi]; done)))
theorem md0_Mo_pulse_0_j95 {c i k : Nat} (hc : c ≠ 0 ∧ c ≠ 4 ∧ c ≠ 5 ∧ c ≠ 6 ∧ c ≠ 7 ∧ c ≠ 8 ∧ c ≠ 9 ∧ c ≠ 44) (hi : ¬ ((28 ≤ c ∧ c ≤ 39 ∧ k = 0) ∨ (c = 43 ∧ 0 ≤ k ∧ k < 3) ∨ (c = 46 ∧ 0 ≤ k ∧ k < 6) ∨ ((c = 47 ∨ c = 48) ∧ 0 ≤ k ∧ k < 4))) : ∀ (v : fw_V) (x4 : Int32) (x90 : Int32), mf_Mo_pulse_0_j95 v x4 x90 c i k = v c i k := by
  intro v x4 x90
  unfold mf_Mo_pulse_0_j95
  (try dsimp only)
  all_goals ((repeat' split) <;> (first | with_reducible rfl | (simp only [md0_28 hc hi, md0_29 hc hi, md0_31 hc hi, md0_32 hc hi, md0_33 hc hi, md0_34 hc hi, md0_35 hc hi, md0_36 hc hi, md0_37 hc hi, md0_38 hc hi, md0_39 hc hi, md0_43_0 hc hi, md0_43_1 hc hi, md0_43_2 hc hi, md0_47_0 hc hi, md0_48_0 hc hi, md0_47_1 hc hi, md0_48_1 hc hi, md0_47_2 hc hi, md0_48_2 hc hi, md0_47_3 hc hi, md0_48_3 hc hi, md0_46_0 hc hi, md0_46_1 hc hi, md0_46_2 hc hi, md0_46_3 hc hi, md0_46_4 hc hi, md0_46_5 hc hi, md0_0 hc hi, md0_9 hc hi, md0_44 hc hi, md0_send hc hi, md0_rp0 hc hi, md0_rp1 hc hi, md0_rp2 hc hi, md0_Mo_pulse_0_j79 hc hi, md0_Mo_pulse_0_j88 hc hi]; done)))
theorem md0_Mo_pulse_0_j76 {c i k : Nat} (hc : c ≠ 0 ∧ c ≠ 4 ∧ c ≠ 5 ∧ c ≠ 6 ∧ c ≠ 7 ∧ c ≠ 8 ∧ c ≠ 9 ∧ c ≠ 44) (hi : ¬ ((28 ≤ c ∧ c ≤ 39 ∧ k = 0) ∨ (c = 43 ∧ 0 ≤ k ∧ k < 3) ∨ (c = 46 ∧ 0 ≤ k ∧ k < 6) ∨ ((c = 47 ∨ c = 48) ∧ 0 ≤ k ∧ k < 4))) : ∀ (v : fw_V), mf_Mo_pulse_0_j76 v c i k = v c i k := by
  intro v
  unfold mf_Mo_pulse_0_j76
  (try dsimp only)
  all_goals ((repeat' split) <;> (first | with_reducible rfl | (simp only [md0_28 hc hi, md0_29 hc hi, md0_31 hc hi, md0_32 hc hi, md0_33 hc hi, md0_34 hc hi, md0_35 hc hi, md0_36 hc hi, md0_37 hc hi, md0_38 hc hi, md0_39 hc hi, md0_43_0 hc hi, md0_43_1 hc hi, md0_43_2 hc hi, md0_47_0 hc hi, md0_48_0 hc hi, md0_47_1 hc hi, md0_48_1 hc hi, md0_47_2 hc hi, md0_48_2 hc hi, md0_47_3 hc hi, md0_48_3 hc hi, md0_46_0 hc hi, md0_46_1 hc hi, md0_46_2 hc hi, md0_46_3 hc hi, md0_46_4 hc hi, md0_46_5 hc hi, md0_0 hc hi, md0_9 hc hi, md0_44 hc hi, md0_send hc hi, md0_rp0 hc hi, md0_rp1 hc hi, md0_rp2 hc hi, md0_Mo_pulse_0_j77 hc hi, md0_Mo_pulse_0_j95 hc hi]; done)))
theorem md0_Mo_pulse_0_j75 {c i k : Nat} (hc : c ≠ 0 ∧ c ≠ 4 ∧ c ≠ 5 ∧ c ≠ 6 ∧ c ≠ 7 ∧ c ≠ 8 ∧ c ≠ 9 ∧ c ≠ 44) (hi : ¬ ((28 ≤ c ∧ c ≤ 39 ∧ k = 0) ∨ (c = 43 ∧ 0 ≤ k ∧ k < 3) ∨ (c = 46 ∧ 0 ≤ k ∧ k < 6) ∨ ((c = 47 ∨ c = 48) ∧ 0 ≤ k ∧ k < 4))) : ∀ (v : fw_V), mf_Mo_pulse_0_j75 v c i k = v c i k := by
  intro v
  unfold mf_Mo_pulse_0_j75
  (try dsimp only)
  all_goals ((repeat' split) <;> (first | with_reducible rfl | (simp only [md0_28 hc hi, md0_29 hc hi, md0_31 hc hi, md0_32 hc hi, md0_33 hc hi, md0_34 hc hi, md0_35 hc hi, md0_36 hc hi, md0_37 hc hi, md0_38 hc hi, md0_39 hc hi, md0_43_0 hc hi, md0_43_1 hc hi, md0_43_2 hc hi, md0_47_0 hc hi, md0_48_0 hc hi, md0_47_1 hc hi, md0_48_1 hc hi, md0_47_2 hc hi, md0_48_2 hc hi, md0_47_3 hc hi, md0_48_3 hc hi, md0_46_0 hc hi, md0_46_1 hc hi, md0_46_2 hc hi, md0_46_3 hc hi, md0_46_4 hc hi, md0_46_5 hc hi, md0_0 hc hi, md0_9 hc hi, md0_44 hc hi, md0_send hc hi, md0_rp0 hc hi, md0_rp1 hc hi, md0_rp2 hc hi, md0_Mo_pulse_0_j76 hc hi]; done)))
theorem md0_Mo_pulse_0_j105 {c i k : Nat} (hc : c ≠ 0 ∧ c ≠ 4 ∧ c ≠ 5 ∧ c ≠ 6 ∧ c ≠ 7 ∧ c ≠ 8 ∧ c ≠ 9 ∧ c ≠ 44) (hi : ¬ ((28 ≤ c ∧ c ≤ 39 ∧ k = 0) ∨ (c = 43 ∧ 0 ≤ k ∧ k < 3) ∨ (c = 46 ∧ 0 ≤ k ∧ k < 6) ∨ ((c = 47 ∨ c = 48) ∧ 0 ≤ k ∧ k < 4))) : ∀ (v : fw_V), mf_Mo_pulse_0_j105 v c i k = v c i k := by
  intro v
  unfold mf_Mo_pulse_0_j105
  (try dsimp only)
  all_goals ((repeat' split) <;> (first | with_reducible rfl | (simp only [md0_28 hc hi, md0_29 hc hi, md0_31 hc hi, md0_32 hc hi, md0_33 hc hi, md0_34 hc hi, md0_35 hc hi, md0_36 hc hi, md0_37 hc hi, md0_38 hc hi, md0_39 hc hi, md0_43_0 hc hi, md0_43_1 hc hi, md0_43_2 hc hi, md0_47_0 hc hi, md0_48_0 hc hi, md0_47_1 hc hi, md0_48_1 hc hi, md0_47_2 hc hi, md0_48_2 hc hi, md0_47_3 hc hi, md0_48_3 hc hi, md0_46_0 hc hi, md0_46_1 hc hi, md0_46_2 hc hi, md0_46_3 hc hi, md0_46_4 hc hi, md0_46_5 hc hi, md0_0 hc hi, md0_9 hc hi, md0_44 hc hi, md0_send hc hi, md0_rp0 hc hi, md0_rp1 hc hi, md0_rp2 hc hi, md0_Mo_reply_0 hc hi]; done)))
theorem md0_Mo_pulse_0_j104 {c i k : Nat} (hc : c ≠ 0 ∧ c ≠ 4 ∧ c ≠ 5 ∧ c ≠ 6 ∧ c ≠ 7 ∧ c ≠ 8 ∧ c ≠ 9 ∧ c ≠ 44) (hi : ¬ ((28 ≤ c ∧ c ≤ 39 ∧ k = 0) ∨ (c = 43 ∧ 0 ≤ k ∧ k < 3) ∨ (c = 46 ∧ 0 ≤ k ∧ k < 6) ∨ ((c = 47 ∨ c = 48) ∧ 0 ≤ k ∧ k < 4))) : ∀ (v : fw_V), mf_Mo_pulse_0_j104 v c i k = v c i k := by
  intro v
  unfold mf_Mo_pulse_0_j104
  (try dsimp only)
  all_goals ((repeat' split) <;> (first | with_reducible rfl | (simp only [md0_28 hc hi, md0_29 hc hi, md0_31 hc hi, md0_32 hc hi, md0_33 hc hi, md0_34 hc hi, md0_35 hc hi, md0_36 hc hi, md0_37 hc hi, md0_38 hc hi, md0_39 hc hi, md0_43_0 hc hi, md0_43_1 hc hi, md0_43_2 hc hi, md0_47_0 hc hi, md0_48_0 hc hi, md0_47_1 hc hi, md0_48_1 hc hi, md0_47_2 hc hi, md0_48_2 hc hi, md0_47_3 hc hi, md0_48_3 hc hi, md0_46_0 hc hi, md0_46_1 hc hi, md0_46_2 hc hi, md0_46_3 hc hi, md0_46_4 hc hi, md0_46_5 hc hi, md0_0 hc hi, md0_9 hc hi, md0_44 hc hi, md0_send hc hi, md0_rp0 hc hi, md0_rp1 hc hi, md0_rp2 hc hi, md0_Mo_pulse_0_j105 hc hi]; done)))
theorem md0_Mo_pulse_0_j107 {c i k : Nat} (hc : c ≠ 0 ∧ c ≠ 4 ∧ c ≠ 5 ∧ c ≠ 6 ∧ c ≠ 7 ∧ c ≠ 8 ∧ c ≠ 9 ∧ c ≠ 44) (hi : ¬ ((28 ≤ c ∧ c ≤ 39 ∧ k = 0) ∨ (c = 43 ∧ 0 ≤ k ∧ k < 3) ∨ (c = 46 ∧ 0 ≤ k ∧ k < 6) ∨ ((c = 47 ∨ c = 48) ∧ 0 ≤ k ∧ k < 4))) : ∀ (v : fw_V), mf_Mo_pulse_0_j107 v c i k = v c i k := by
  intro v
  unfold mf_Mo_pulse_0_j107
  (try dsimp only)
  all_goals ((repeat' split) <;> (first | with_reducible rfl | (simp only [md0_28 hc hi, md0_29 hc hi, md0_31 hc hi, md0_32 hc hi, md0_33 hc hi, md0_34 hc hi, md0_35 hc hi, md0_36 hc hi, md0_37 hc hi, md0_38 hc hi, md0_39 hc hi, md0_43_0 hc hi, md0_43_1 hc hi, md0_43_2 hc hi, md0_47_0 hc hi, md0_48_0 hc hi, md0_47_1 hc hi, md0_48_1 hc hi, md0_47_2 hc hi, md0_48_2 hc hi, md0_47_3 hc hi, md0_48_3 hc hi, md0_46_0 hc hi, md0_46_1 hc hi, md0_46_2 hc hi, md0_46_3 hc hi, md0_46_4 hc hi, md0_46_5 hc hi, md0_0 hc hi, md0_9 hc hi, md0_44 hc hi, md0_send hc hi, md0_rp0 hc hi, md0_rp1 hc hi, md0_rp2 hc hi, md0_Mo_reply_0 hc hi]; done)))
theorem md0_Mo_pulse_0_j106 {c i k : Nat} (hc : c ≠ 0 ∧ c ≠ 4 ∧ c ≠ 5 ∧ c ≠ 6 ∧ c ≠ 7 ∧ c ≠ 8 ∧ c ≠ 9 ∧ c ≠ 44) (hi : ¬ ((28 ≤ c ∧ c ≤ 39 ∧ k = 0) ∨ (c = 43 ∧ 0 ≤ k ∧ k < 3) ∨ (c = 46 ∧ 0 ≤ k ∧ k < 6) ∨ ((c = 47 ∨ c = 48) ∧ 0 ≤ k ∧ k < 4))) : ∀ (v : fw_V), mf_Mo_pulse_0_j106 v c i k = v c i k := by
  intro v
  unfold mf_Mo_pulse_0_j106
  (try dsimp only)
  all_goals ((repeat' split) <;> (first | with_reducible rfl | (simp only [md0_28 hc hi, md0_29 hc hi, md0_31 hc hi, md0_32 hc hi, md0_33 hc hi, md0_34 hc hi, md0_35 hc hi, md0_36 hc hi, md0_37 hc hi, md0_38 hc hi, md0_39 hc hi, md0_43_0 hc hi, md0_43_1 hc hi, md0_43_2 hc hi, md0_47_0 hc hi, md0_48_0 hc hi, md0_47_1 hc hi, md0_48_1 hc hi, md0_47_2 hc hi, md0_48_2 hc hi, md0_47_3 hc hi, md0_48_3 hc hi, md0_46_0 hc hi, md0_46_1 hc hi, md0_46_2 hc hi, md0_46_3 hc hi, md0_46_4 hc hi, md0_46_5 hc hi, md0_0 hc hi, md0_9 hc hi, md0_44 hc hi, md0_send hc hi, md0_rp0 hc hi, md0_rp1 hc hi, md0_rp2 hc hi, md0_Mo_pulse_0_j107 hc hi]; done)))
theorem md0_Mo_pulse_0_j103 {c i k : Nat} (hc : c ≠ 0 ∧ c ≠ 4 ∧ c ≠ 5 ∧ c ≠ 6 ∧ c ≠ 7 ∧ c ≠ 8 ∧ c ≠ 9 ∧ c ≠ 44) (hi : ¬ ((28 ≤ c ∧ c ≤ 39 ∧ k = 0) ∨ (c = 43 ∧ 0 ≤ k ∧ k < 3) ∨ (c = 46 ∧ 0 ≤ k ∧ k < 6) ∨ ((c = 47 ∨ c = 48) ∧ 0 ≤ k ∧ k < 4))) : ∀ (v : fw_V) (x4 : Int32), mf_Mo_pulse_0_j103 v x4 c i k = v c i k := by
  intro v x4
  unfold mf_Mo_pulse_0_j103
  (try dsimp only)
  all_goals ((repeat' split) <;> (first | with_reducible rfl | (simp only [md0_28 hc hi, md0_29 hc hi, md0_31 hc hi, md0_32 hc hi, md0_33 hc hi, md0_34 hc hi, md0_35 hc hi, md0_36 hc hi, md0_37 hc hi, md0_38 hc hi, md0_39 hc hi, md0_43_0 hc hi, md0_43_1 hc hi, md0_43_2 hc hi, md0_47_0 hc hi, md0_48_0 hc hi, md0_47_1 hc hi, md0_48_1 hc hi, md0_47_2 hc hi, md0_48_2 hc hi, md0_47_3 hc hi, md0_48_3 hc hi, md0_46_0 hc hi, md0_46_1 hc hi, md0_46_2 hc hi, md0_46_3 hc hi, md0_46_4 hc hi, md0_46_5 hc hi, md0_0 hc hi, md0_9 hc hi, md0_44 hc hi, md0_send hc hi, md0_rp0 hc hi, md0_rp1 hc hi, md0_rp2 hc hi, md0_Mo_pulse_0_j104 hc hi, md0_Mo_pulse_0_j106 hc hi]; done)))
theorem md0_Mo_pulse_0_j102 {c i k : Nat} (hc : c ≠ 0 ∧ c ≠ 4 ∧ c ≠ 5 ∧ c ≠ 6 ∧ c ≠ 7 ∧ c ≠ 8 ∧ c ≠ 9 ∧ c ≠ 44) (hi : ¬ ((28 ≤ c ∧ c ≤ 39 ∧ k = 0) ∨ (c = 43 ∧ 0 ≤ k ∧ k < 3) ∨ (c = 46 ∧ 0 ≤ k ∧ k < 6) ∨ ((c = 47 ∨ c = 48) ∧ 0 ≤ k ∧ k < 4))) : ∀ (v : fw_V) (x4 : Int32), mf_Mo_pulse_0_j102 v x4 c i k = v c i k := by
  intro v x4
  unfold mf_Mo_pulse_0_j102
  (try dsimp only)
  all_goals ((repeat' split) <;> (first | with_reducible rfl | (simp only [md0_28 hc hi, md0_29 hc hi, md0_31 hc hi, md0_32 hc hi, md0_33 hc hi, md0_34 hc hi, md0_35 hc hi, md0_36 hc hi, md0_37 hc hi, md0_38 hc hi, md0_39 hc hi, md0_43_0 hc hi, md0_43_1 hc hi, md0_43_2 hc hi, md0_47_0 hc hi, md0_48_0 hc hi, md0_47_1 hc hi, md0_48_1 hc hi, md0_47_2 hc hi, md0_48_2 hc hi, md0_47_3 hc hi, md0_48_3 hc hi, md0_46_0 hc hi, md0_46_1 hc hi, md0_46_2 hc hi, md0_46_3 hc hi, md0_46_4 hc hi, md0_46_5 hc hi, md0_0 hc hi, md0_9 hc hi, md0_44 hc hi, md0_send hc hi, md0_rp0 hc hi, md0_rp1 hc hi, md0_rp2 hc hi, md0_Mo_pulse_0_j103 hc hi]; done)))
theorem md0_Mo_pulse_0_j108 {c i k : Nat} (hc : c ≠ 0 ∧ c ≠ 4 ∧ c ≠ 5 ∧ c ≠ 6 ∧ c ≠ 7 ∧ c ≠ 8 ∧ c ≠ 9 ∧ c ≠ 44) (hi : ¬ ((28 ≤ c ∧ c ≤ 39 ∧ k = 0) ∨ (c = 43 ∧ 0 ≤ k ∧ k < 3) ∨ (c = 46 ∧ 0 ≤ k ∧ k < 6) ∨ ((c = 47 ∨ c = 48) ∧ 0 ≤ k ∧ k < 4))) : ∀ (v : fw_V) (x4 : Int32) (x90 : Int32), mf_Mo_pulse_0_j108 v x4 x90 c i k = v c i k := by
  intro v x4 x90
  unfold mf_Mo_pulse_0_j108
  (try dsimp only)
  all_goals ((repeat' split) <;> (first | with_reducible rfl | (simp only [md0_28 hc hi, md0_29 hc hi, md0_31 hc hi, md0_32 hc hi, md0_33 hc hi, md0_34 hc hi, md0_35 hc hi, md0_36 hc hi, md0_37 hc hi, md0_38 hc hi, md0_39 hc hi, md0_43_0 hc hi, md0_43_1 hc hi, md0_43_2 hc hi, md0_47_0 hc hi, md0_48_0 hc hi, md0_47_1 hc hi, md0_48_1 hc hi, md0_47_2 hc hi, md0_48_2 hc hi, md0_47_3 hc hi, md0_48_3 hc hi, md0_46_0 hc hi, md0_46_1 hc hi, md0_46_2 hc hi, md0_46_3 hc hi, md0_46_4 hc hi, md0_46_5 hc hi, md0_0 hc hi, md0_9 hc hi, md0_44 hc hi, md0_send hc hi, md0_rp0 hc hi, md0_rp1 hc hi, md0_rp2 hc hi, md0_Mo_pulse_0_j104 hc hi, md0_Mo_pulse_0_j106 hc hi]; done)))
theorem md0_Mo_pulse_0_j101 {c i k : Nat} (hc : c ≠ 0 ∧ c ≠ 4 ∧ c ≠ 5 ∧ c ≠ 6 ∧ c ≠ 7 ∧ c ≠ 8 ∧ c ≠ 9 ∧ c ≠ 44) (hi : ¬ ((28 ≤ c ∧ c ≤ 39 ∧ k = 0) ∨ (c = 43 ∧ 0 ≤ k ∧ k < 3) ∨ (c = 46 ∧ 0 ≤ k ∧ k < 6) ∨ ((c = 47 ∨ c = 48) ∧ 0 ≤ k ∧ k < 4))) : ∀ (v : fw_V), mf_Mo_pulse_0_j101 v c i k = v c i k := by
  intro v
  unfold mf_Mo_pulse_0_j101
  (try dsimp only)
  all_goals ((repeat' split) <;> (first | with_reducible rfl | (simp only [md0_28 hc hi, md0_29 hc hi, md0_31 hc hi, md0_32 hc hi, md0_33 hc hi, md0_34 hc hi, md0_35 hc hi, md0_36 hc hi, md0_37 hc hi, md0_38 hc hi, md0_39 hc hi, md0_43_0 hc hi, md0_43_1 hc hi, md0_43_2 hc hi, md0_47_0 hc hi, md0_48_0 hc hi, md0_47_1 hc hi, md0_48_1 hc hi, md0_47_2 hc hi, md0_48_2 hc hi, md0_47_3 hc hi, md0_48_3 hc hi, md0_46_0 hc hi, md0_46_1 hc hi, md0_46_2 hc hi, md0_46_3 hc hi, md0_46_4 hc hi, md0_46_5 hc hi, md0_0 hc hi, md0_9 hc hi, md0_44 hc hi, md0_send hc hi, md0_rp0 hc hi, md0_rp1 hc hi, md0_rp2 hc hi, md0_Mo_pulse_0_j102 hc hi, md0_Mo_pulse_0_j108 hc hi]; done)))
theorem md0_Mo_pulse_0_j100 {c i k : Nat} (hc : c ≠ 0 ∧ c ≠ 4 ∧ c ≠ 5 ∧ c ≠ 6 ∧ c ≠ 7 ∧ c ≠ 8 ∧ c ≠ 9 ∧ c ≠ 44) (hi : ¬ ((28 ≤ c ∧ c ≤ 39 ∧ k = 0) ∨ (c = 43 ∧ 0 ≤ k ∧ k < 3) ∨ (c = 46 ∧ 0 ≤ k ∧ k < 6) ∨ ((c = 47 ∨ c = 48) ∧ 0 ≤ k ∧ k < 4))) : ∀ (v : fw_V), mf_Mo_pulse_0_j100 v c i k = v c i k := by
  intro v
  unfold mf_Mo_pulse_0_j100
  (try dsimp only)
  all_goals ((repeat' split) <;> (first | with_reducible rfl | (simp only [md0_28 hc hi, md0_29 hc hi, md0_31 hc hi, md0_32 hc hi, md0_33 hc hi, md0_34 hc hi, md0_35 hc hi, md0_36 hc hi, md0_37 hc hi, md0_38 hc hi, md0_39 hc hi, md0_43_0 hc hi, md0_43_1 hc hi, md0_43_2 hc hi, md0_47_0 hc hi, md0_48_0 hc hi, md0_47_1 hc hi, md0_48_1 hc hi, md0_47_2 hc hi, md0_48_2 hc hi, md0_47_3 hc hi, md0_48_3 hc hi, md0_46_0 hc hi, md0_46_1 hc hi, md0_46_2 hc hi, md0_46_3 hc hi, md0_46_4 hc hi, md0_46_5 hc hi, md0_0 hc hi, md0_9 hc hi, md0_44 hc hi, md0_send hc hi, md0_rp0 hc hi, md0_rp1 hc hi, md0_rp2 hc hi, md0_Mo_pulse_0_j101 hc hi]; done)))
theorem md0_Mo_pulse_0_j113 {c i k : Nat} (hc : c ≠ 0 ∧ c ≠ 4 ∧ c ≠ 5 ∧ c ≠ 6 ∧ c ≠ 7 ∧ c ≠ 8 ∧ c ≠ 9 ∧ c ≠ 44) (hi : ¬ ((28 ≤ c ∧ c ≤ 39 ∧ k = 0) ∨ (c = 43 ∧ 0 ≤ k ∧ k < 3) ∨ (c = 46 ∧ 0 ≤ k ∧ k < 6) ∨ ((c = 47 ∨ c = 48) ∧ 0 ≤ k ∧ k < 4))) : ∀ (v : fw_V), mf_Mo_pulse_0_j113 v c i k = v c i k := by
  intro v
  unfold mf_Mo_pulse_0_j113
  (try dsimp only)
  all_goals ((repeat' split) <;> (first | with_reducible rfl | (simp only [md0_28 hc hi, md0_29 hc hi, md0_31 hc hi, md0_32 hc hi, md0_33 hc hi, md0_34 hc hi, md0_35 hc hi, md0_36 hc hi, md0_37 hc hi, md0_38 hc hi, md0_39 hc hi, md0_43_0 hc hi, md0_43_1 hc hi, md0_43_2 hc hi, md0_47_0 hc hi, md0_48_0 hc hi, md0_47_1 hc hi, md0_48_1 hc hi, md0_47_2 hc hi, md0_48_2 hc hi, md0_47_3 hc hi, md0_48_3 hc hi, md0_46_0 hc hi, md0_46_1 hc hi, md0_46_2 hc hi, md0_46_3 hc hi, md0_46_4 hc hi, md0_46_5 hc hi, md0_0 hc hi, md0_9 hc hi, md0_44 hc hi, md0_send hc hi, md0_rp0 hc hi, md0_rp1 hc hi, md0_rp2 hc hi, md0_Mo_pulse_0_j107 hc hi]; done)))
theorem md0_Mo_pulse_0_j114 {c i k : Nat} (hc : c ≠ 0 ∧ c ≠ 4 ∧ c ≠ 5 ∧ c ≠ 6 ∧ c ≠ 7 ∧ c ≠ 8 ∧ c ≠ 9 ∧ c ≠ 44) (hi : ¬ ((28 ≤ c ∧ c ≤ 39 ∧ k = 0) ∨ (c = 43 ∧ 0 ≤ k ∧ k < 3) ∨ (c = 46 ∧ 0 ≤ k ∧ k < 6) ∨ ((c = 47 ∨ c = 48) ∧ 0 ≤ k ∧ k < 4))) : ∀ (v : fw_V), mf_Mo_pulse_0_j114 v c i k = v c i k := by
  intro v
  unfold mf_Mo_pulse_0_j114
  (try dsimp only)
  all_goals ((repeat' split) <;> (first | with_reducible rfl | (simp only [md0_28 hc hi, md0_29 hc hi, md0_31 hc hi, md0_32 hc hi, md0_33 hc hi, md0_34 hc hi, md0_35 hc hi, md0_36 hc hi, md0_37 hc hi, md0_38 hc hi, md0_39 hc hi, md0_43_0 hc hi, md0_43_1 hc hi, md0_43_2 hc hi, md0_47_0 hc hi, md0_48_0 hc hi, md0_47_1 hc hi, md0_48_1 hc hi, md0_47_2 hc hi, md0_48_2 hc hi, md0_47_3 hc hi, md0_48_3 hc hi, md0_46_0 hc hi, md0_46_1 hc hi, md0_46_2 hc hi, md0_46_3 hc hi, md0_46_4 hc hi, md0_46_5 hc hi, md0_0 hc hi, md0_9 hc hi, md0_44 hc hi, md0_send hc hi, md0_rp0 hc hi, md0_rp1 hc hi, md0_rp2 hc hi, md0_Mo_pulse_0_j107 hc hi]; done)))
theorem md0_Mo_pulse_0_j112 {c i k : Nat} (hc : c ≠ 0 ∧ c ≠ 4 ∧ c ≠ 5 ∧ c ≠ 6 ∧ c ≠ 7 ∧ c ≠ 8 ∧ c ≠ 9 ∧ c ≠ 44) (hi : ¬ ((28 ≤ c ∧ c ≤ 39 ∧ k = 0) ∨ (c = 43 ∧ 0 ≤ k ∧ k < 3) ∨ (c = 46 ∧ 0 ≤ k ∧ k < 6) ∨ ((c = 47 ∨ c = 48) ∧ 0 ≤ k ∧ k < 4))) : ∀ (v : fw_V) (x4 : Int32), mf_Mo_pulse_0_j112 v x4 c i k = v c i k := by
  intro v x4
  unfold mf_Mo_pulse_0_j112
  (try dsimp only)
  all_goals ((repeat' split) <;> (first | with_reducible rfl | (simp only [md0_28 hc hi, md0_29 hc hi, md0_31 hc hi, md0_32 hc hi, md0_33 hc hi, md0_34 hc hi, md0_35 hc hi, md0_36 hc hi, md0_37 hc hi, md0_38 hc hi, md0_39 hc hi, md0_43_0 hc hi, md0_43_1 hc hi, md0_43_2 hc hi, md0_47_0 hc hi, md0_48_0 hc hi, md0_47_1 hc hi, md0_48_1 hc hi, md0_47_2 hc hi, md0_48_2 hc hi, md0_47_3 hc hi, md0_48_3 hc hi, md0_46_0 hc hi, md0_46_1 hc hi, md0_46_2 hc hi, md0_46_3 hc hi, md0_46_4 hc hi, md0_46_5 hc hi, md0_0 hc hi, md0_9 hc hi, md0_44 hc hi, md0_send hc hi, md0_rp0 hc hi, md0_rp1 hc hi, md0_rp2 hc hi, md0_Mo_pulse_0_j113 hc hi, md0_Mo_pulse_0_j114 hc hi]; done)))
theorem md0_Mo_pulse_0_j111 {c i k : Nat} (hc : c ≠ 0 ∧ c ≠ 4 ∧ c ≠ 5 ∧ c ≠ 6 ∧ c ≠ 7 ∧ c ≠ 8 ∧ c ≠ 9 ∧ c ≠ 44) (hi : ¬ ((28 ≤ c ∧ c ≤ 39 ∧ k = 0) ∨ (c = 43 ∧ 0 ≤ k ∧ k < 3) ∨ (c = 46 ∧ 0 ≤ k ∧ k < 6) ∨ ((c = 47 ∨ c = 48) ∧ 0 ≤ k ∧ k < 4))) : ∀ (v : fw_V) (x4 : Int32), mf_Mo_pulse_0_j111 v x4 c i k = v c i k := by
  intro v x4
  unfold mf_Mo_pulse_0_j111
  (try dsimp only)
  all_goals ((repeat' split) <;> (first | with_reducible rfl | (simp only [md0_28 hc hi, md0_29 hc hi, md0_31 hc hi, md0_32 hc hi, md0_33 hc hi, md0_34 hc hi, md0_35 hc hi, md0_36 hc hi, md0_37 hc hi, md0_38 hc hi, md0_39 hc hi, md0_43_0 hc hi, md0_43_1 hc hi, md0_43_2 hc hi, md0_47_0 hc hi, md0_48_0 hc hi, md0_47_1 hc hi, md0_48_1 hc hi, md0_47_2 hc hi, md0_48_2 hc hi, md0_47_3 hc hi, md0_48_3 hc hi, md0_46_0 hc hi, md0_46_1 hc hi, md0_46_2 hc hi, md0_46_3 hc hi, md0_46_4 hc hi, md0_46_5 hc hi, md0_0 hc hi, md0_9 hc hi, md0_44 hc hi, md0_send hc hi, md0_rp0 hc hi, md0_rp1 hc hi, md0_rp2 hc hi, md0_Mo_pulse_0_j112 hc hi]; done)))
theorem md0_Mo_pulse_0_j115 {c i k : Nat} (hc : c ≠ 0 ∧ c ≠ 4 ∧ c ≠ 5 ∧ c ≠ 6 ∧ c ≠ 7 ∧ c ≠ 8 ∧ c ≠ 9 ∧ c ≠ 44) (hi : ¬ ((28 ≤ c ∧ c ≤ 39 ∧ k = 0) ∨ (c = 43 ∧ 0 ≤ k ∧ k < 3) ∨ (c = 46 ∧ 0 ≤ k ∧ k < 6) ∨ ((c = 47 ∨ c = 48) ∧ 0 ≤ k ∧ k < 4))) : ∀ (v : fw_V) (x4 : Int32) (x90 : Int32), mf_Mo_pulse_0_j115 v x4 x90 c i k = v c i k := by
  intro v x4 x90
  unfold mf_Mo_pulse_0_j115
  (try dsimp only)
  all_goals ((repeat' split) <;> (first | with_reducible rfl | (simp only [md0_28 hc hi, md0_29 hc hi, md0_31 hc hi, md0_32 hc hi, md0_33 hc hi, md0_34 hc hi, md0_35 hc hi, md0_36 hc hi, md0_37 hc hi, md0_38 hc hi, md0_39 hc hi, md0_43_0 hc hi, md0_43_1 hc hi, md0_43_2 hc hi, md0_47_0 hc hi, md0_48_0 hc hi, md0_47_1 hc hi, md0_48_1 hc hi, md0_47_2 hc hi, md0_48_2 hc hi, md0_47_3 hc hi, md0_48_3 hc hi, md0_46_0 hc hi, md0_46_1 hc hi, md0_46_2 hc hi, md0_46_3 hc hi, md0_46_4 hc hi, md0_46_5 hc hi, md0_0 hc hi, md0_9 hc hi, md0_44 hc hi, md0_send hc hi, md0_rp0 hc hi, md0_rp1 hc hi, md0_rp2 hc hi, md0_Mo_pulse_0_j113 hc hi, md0_Mo_pulse_0_j114 hc hi]; done)))
theorem md0_Mo_pulse_0_j110 {c i k : Nat} (hc : c ≠ 0 ∧ c ≠ 4 ∧ c ≠ 5 ∧ c ≠ 6 ∧ c ≠ 7 ∧ c ≠ 8 ∧ c ≠ 9 ∧ c ≠ 44) (hi : ¬ ((28 ≤ c ∧ c ≤ 39 ∧ k = 0) ∨ (c = 43 ∧ 0 ≤ k ∧ k < 3) ∨ (c = 46 ∧ 0 ≤ k ∧ k < 6) ∨ ((c = 47 ∨ c = 48) ∧ 0 ≤ k ∧ k < 4))) : ∀ (v : fw_V), mf_Mo_pulse_0_j110 v c i k = v c i k := by
  intro v
  unfold mf_Mo_pulse_0_j110
  (try dsimp only)
  all_goals ((repeat' split) <;> (first | with_reducible rfl | (simp only [md0_28 hc hi, md0_29 hc hi, md0_31 hc hi, md0_32 hc hi, md0_33 hc hi, md0_34 hc hi, md0_35 hc hi, md0_36 hc hi, md0_37 hc hi, md0_38 hc hi, md0_39 hc hi, md0_43_0 hc hi, md0_43_1 hc hi, md0_43_2 hc hi, md0_47_0 hc hi, md0_48_0 hc hi, md0_47_1 hc hi, md0_48_1 hc hi, md0_47_2 hc hi, md0_48_2 hc hi, md0_47_3 hc hi, md0_48_3 hc hi, md0_46_0 hc hi, md0_46_1 hc hi, md0_46_2 hc hi, md0_46_3 hc hi, md0_46_4 hc hi, md0_46_5 hc hi, md0_0 hc hi, md0_9 hc hi, md0_44 hc hi, md0_send hc hi, md0_rp0 hc hi, md0_rp1 hc hi, md0_rp2 hc hi, md0_Mo_pulse_0_j111 hc hi, md0_Mo_pulse_0_j115 hc hi]; done)))
theorem md0_Mo_pulse_0_j109 {c i k : Nat} (hc : c ≠ 0 ∧ c ≠ 4 ∧ c ≠ 5 ∧ c ≠ 6 ∧ c ≠ 7 ∧ c ≠ 8 ∧ c ≠ 9 ∧ c ≠ 44) (hi : ¬ ((28 ≤ c ∧ c ≤ 39 ∧ k = 0) ∨ (c = 43 ∧ 0 ≤ k ∧ k < 3) ∨ (c = 46 ∧ 0 ≤ k ∧ k < 6) ∨ ((c = 47 ∨ c = 48) ∧ 0 ≤ k ∧ k < 4))) : ∀ (v : fw_V), mf_Mo_pulse_0_j109 v c i k = v c i k := by
  intro v
  unfold mf_Mo_pulse_0_j109
  (try dsimp only)
  all_goals ((repeat' split) <;> (first | with_reducible rfl | (simp only [md0_28 hc hi, md0_29 hc hi, md0_31 hc hi, md0_32 hc hi, md0_33 hc hi, md0_34 hc hi, md0_35 hc hi, md0_36 hc hi, md0_37 hc hi, md0_38 hc hi, md0_39 hc hi, md0_43_0 hc hi, md0_43_1 hc hi, md0_43_2 hc hi, md0_47_0 hc hi, md0_48_0 hc hi, md0_47_1 hc hi, md0_48_1 hc hi, md0_47_2 hc hi, md0_48_2 hc hi, md0_47_3 hc hi, md0_48_3 hc hi, md0_46_0 hc hi, md0_46_1 hc hi, md0_46_2 hc hi, md0_46_3 hc hi, md0_46_4 hc hi, md0_46_5 hc hi, md0_0 hc hi, md0_9 hc hi, md0_44 hc hi, md0_send hc hi, md0_rp0 hc hi, md0_rp1 hc hi, md0_rp2 hc hi, md0_Mo_pulse_0_j110 hc hi]; done)))
theorem md0_Mo_pulse_0_j99 {c i k : Nat} (hc : c ≠ 0 ∧ c ≠ 4 ∧ c ≠ 5 ∧ c ≠ 6 ∧ c ≠ 7 ∧ c ≠ 8 ∧ c ≠ 9 ∧ c ≠ 44) (hi : ¬ ((28 ≤ c ∧ c ≤ 39 ∧ k = 0) ∨ (c = 43 ∧ 0 ≤ k ∧ k < 3) ∨ (c = 46 ∧ 0 ≤ k ∧ k < 6) ∨ ((c = 47 ∨ c = 48) ∧ 0 ≤ k ∧ k < 4))) : ∀ (v : fw_V) (x4 : Int32), mf_Mo_pulse_0_j99 v x4 c i k = v c i k := by
  intro v x4
  unfold mf_Mo_pulse_0_j99
  (try dsimp only)
  all_goals ((repeat' split) <;> (first | with_reducible rfl | (simp only [md0_28 hc hi, md0_29 hc hi, md0_31 hc hi, md0_32 hc hi, md0_33 hc hi, md0_34 hc hi, md0_35 hc hi, md0_36 hc hi, md0_37 hc hi, md0_38 hc hi, md0_39 hc hi, md0_43_0 hc hi, md0_43_1 hc hi, md0_43_2 hc hi, md0_47_0 hc hi, md0_48_0 hc hi, md0_47_1 hc hi, md0_48_1 hc hi, md0_47_2 hc hi, md0_48_2 hc hi, md0_47_3 hc hi, md0_48_3 hc hi, md0_46_0 hc hi, md0_46_1 hc hi, md0_46_2 hc hi, md0_46_3 hc hi, md0_46_4 hc hi, md0_46_5 hc hi, md0_0 hc hi, md0_9 hc hi, md0_44 hc hi, md0_send hc hi, md0_rp0 hc hi, md0_rp1 hc hi, md0_rp2 hc hi, md0_Mo_pulse_0_j100 hc hi, md0_Mo_pulse_0_j109 hc hi]; done)))
theorem md0_Mo_pulse_0_j98 {c i k : Nat} (hc : c ≠ 0 ∧ c ≠ 4 ∧ c ≠ 5 ∧ c ≠ 6 ∧ c ≠ 7 ∧ c ≠ 8 ∧ c ≠ 9 ∧ c ≠ 44) (hi : ¬ ((28 ≤ c ∧ c ≤ 39 ∧ k = 0) ∨ (c = 43 ∧ 0 ≤ k ∧ k < 3) ∨ (c = 46 ∧ 0 ≤ k ∧ k < 6) ∨ ((c = 47 ∨ c = 48) ∧ 0 ≤ k ∧ k < 4))) : ∀ (v : fw_V) (x4 : Int32), mf_Mo_pulse_0_j98 v x4 c i k = v c i k := by
  intro v x4
  unfold mf_Mo_pulse_0_j98
  (try dsimp only)
  all_goals ((repeat' split) <;> (first | with_reducible rfl | (simp only [md0_28 hc hi, md0_29 hc hi, md0_31 hc hi, md0_32 hc hi, md0_33 hc hi, md0_34 hc hi, md0_35 hc hi, md0_36 hc hi, md0_37 hc hi, md0_38 hc hi, md0_39 hc hi, md0_43_0 hc hi, md0_43_1 hc hi, md0_43_2 hc hi, md0_47_0 hc hi, md0_48_0 hc hi, md0_47_1 hc hi, md0_48_1 hc hi, md0_47_2 hc hi, md0_48_2 hc hi, md0_47_3 hc hi, md0_48_3 hc hi, md0_46_0 hc hi, md0_46_1 hc hi, md0_46_2 hc hi, md0_46_3 hc hi, md0_46_4 hc hi, md0_46_5 hc hi, md0_0 hc hi, md0_9 hc hi, md0_44 hc hi, md0_send hc hi, md0_rp0 hc hi, md0_rp1 hc hi, md0_rp2 hc hi, md0_Mo_pulse_0_j99 hc hi]; done)))
theorem md0_Mo_pulse_0_j116 {c i k : Nat} (hc : c ≠ 0 ∧ c ≠ 4 ∧ c ≠ 5 ∧ c ≠ 6 ∧ c ≠ 7 ∧ c ≠ 8 ∧ c ≠ 9 ∧ c ≠ 44) (hi : ¬ ((28 ≤ c ∧ c ≤ 39 ∧ k = 0) ∨ (c = 43 ∧ 0 ≤ k ∧ k < 3) ∨ (c = 46 ∧ 0 ≤ k ∧ k < 6) ∨ ((c = 47 ∨ c = 48) ∧ 0 ≤ k ∧ k < 4))) : ∀ (v : fw_V) (x4 : Int32) (x90 : Int32), mf_Mo_pulse_0_j116 v x4 x90 c i k = v c i k := by
  intro v x4 x90
  unfold mf_Mo_pulse_0_j116
  (try dsimp only)
  all_goals ((repeat' split) <;> (first | with_reducible rfl | (simp only [md0_28 hc hi, md0_29 hc hi, md0_31 hc hi, md0_32 hc hi, md0_33 hc hi, md0_34 hc hi, md0_35 hc hi, md0_36 hc hi, md0_37 hc hi, md0_38 hc hi, md0_39 hc hi, md0_43_0 hc hi, md0_43_1 hc hi, md0_43_2 hc hi, md0_47_0 hc hi, md0_48_0 hc hi, md0_47_1 hc hi, md0_48_1 hc hi, md0_47_2 hc hi, md0_48_2 hc hi, md0_47_3 hc hi, md0_48_3 hc hi, md0_46_0 hc hi, md0_46_1 hc hi, md0_46_2 hc hi, md0_46_3 hc hi, md0_46_4 hc hi, md0_46_5 hc hi, md0_0 hc hi, md0_9 hc hi, md0_44 hc hi, md0_send hc hi, md0_rp0 hc hi, md0_rp1 hc hi, md0_rp2 hc hi, md0_Mo_pulse_0_j100 hc hi, md0_Mo_pulse_0_j109 hc hi]; done)))
theorem md0_Mo_pulse_0_j97 {c i k : Nat} (hc : c ≠ 0 ∧ c ≠ 4 ∧ c ≠ 5 ∧ c ≠ 6 ∧ c ≠ 7 ∧ c ≠ 8 ∧ c ≠ 9 ∧ c ≠ 44) (hi : ¬ ((28 ≤ c ∧ c ≤ 39 ∧ k = 0) ∨ (c = 43 ∧ 0 ≤ k ∧ k < 3) ∨ (c = 46 ∧ 0 ≤ k ∧ k < 6) ∨ ((c = 47 ∨ c = 48) ∧ 0 ≤ k ∧ k < 4))) : ∀ (v : fw_V), mf_Mo_pulse_0_j97 v c i k = v c i k := by
  intro v
  unfold mf_Mo_pulse_0_j97
  (try dsimp only)
  all_goals ((repeat' split) <;> (first | with_reducible rfl | (simp only [md0_28 hc hi, md0_29 hc hi, md0_31 hc hi, md0_32 hc hi, md0_33 hc hi, md0_34 hc hi, md0_35 hc hi, md0_36 hc hi, md0_37 hc hi, md0_38 hc hi, md0_39 hc hi, md0_43_0 hc hi, md0_43_1 hc hi, md0_43_2 hc hi, md0_47_0 hc hi, md0_48_0 hc hi, md0_47_1 hc hi, md0_48_1 hc hi, md0_47_2 hc hi, md0_48_2 hc hi, md0_47_3 hc hi, md0_48_3 hc hi, md0_46_0 hc hi, md0_46_1 hc hi, md0_46_2 hc hi, md0_46_3 hc hi, md0_46_4 hc hi, md0_46_5 hc hi, md0_0 hc hi, md0_9 hc hi, md0_44 hc hi, md0_send hc hi, md0_rp0 hc hi, md0_rp1 hc hi, md0_rp2 hc hi, md0_Mo_pulse_0_j98 hc hi, md0_Mo_pulse_0_j116 hc hi]; done)))
theorem md0_Mo_pulse_0_j96 {c i k : Nat} (hc : c ≠ 0 ∧ c ≠ 4 ∧ c ≠ 5 ∧ c ≠ 6 ∧ c ≠ 7 ∧ c ≠ 8 ∧ c ≠ 9 ∧ c ≠ 44) (hi : ¬ ((28 ≤ c ∧ c ≤ 39 ∧ k = 0) ∨ (c = 43 ∧ 0 ≤ k ∧ k < 3) ∨ (c = 46 ∧ 0 ≤ k ∧ k < 6) ∨ ((c = 47 ∨ c = 48) ∧ 0 ≤ k ∧ k < 4))) : ∀ (v : fw_V), mf_Mo_pulse_0_j96 v c i k = v c i k := by
  intro v
  unfold mf_Mo_pulse_0_j96
  (try dsimp only)
  all_goals ((repeat' split) <;> (first | with_reducible rfl | (simp only [md0_28 hc hi, md0_29 hc hi, md0_31 hc hi, md0_32 hc hi, md0_33 hc hi, md0_34 hc hi, md0_35 hc hi, md0_36 hc hi, md0_37 hc hi, md0_38 hc hi, md0_39 hc hi, md0_43_0 hc hi, md0_43_1 hc hi, md0_43_2 hc hi, md0_47_0 hc hi, md0_48_0 hc hi, md0_47_1 hc hi, md0_48_1 hc hi, md0_47_2 hc hi, md0_48_2 hc hi, md0_47_3 hc hi, md0_48_3 hc hi, md0_46_0 hc hi, md0_46_1 hc hi, md0_46_2 hc hi, md0_46_3 hc hi, md0_46_4 hc hi, md0_46_5 hc hi, md0_0 hc hi, md0_9 hc hi, md0_44 hc hi, md0_send hc hi, md0_rp0 hc hi, md0_rp1 hc hi, md0_rp2 hc hi, md0_Mo_pulse_0_j97 hc hi]; done)))
theorem md0_Mo_pulse_0_j74 {c i k : Nat} (hc : c ≠ 0 ∧ c ≠ 4 ∧ c ≠ 5 ∧ c ≠ 6 ∧ c ≠ 7 ∧ c ≠ 8 ∧ c ≠ 9 ∧ c ≠ 44) (hi : ¬ ((28 ≤ c ∧ c ≤ 39 ∧ k = 0) ∨ (c = 43 ∧ 0 ≤ k ∧ k < 3) ∨ (c = 46 ∧ 0 ≤ k ∧ k < 6) ∨ ((c = 47 ∨ c = 48) ∧ 0 ≤ k ∧ k < 4))) : ∀ (v : fw_V) (x4 : Int32), mf_Mo_pulse_0_j74 v x4 c i k = v c i k := by
  intro v x4
  unfold mf_Mo_pulse_0_j74
  (try dsimp only)
  all_goals ((repeat' split) <;> (first | with_reducible rfl | (simp only [md0_28 hc hi, md0_29 hc hi, md0_31 hc hi, md0_32 hc hi, md0_33 hc hi, md0_34 hc hi, md0_35 hc hi, md0_36 hc hi, md0_37 hc hi, md0_38 hc hi, md0_39 hc hi, md0_43_0 hc hi, md0_43_1 hc hi, md0_43_2 hc hi, md0_47_0 hc hi, md0_48_0 hc hi, md0_47_1 hc hi, md0_48_1 hc hi, md0_47_2 hc hi, md0_48_2 hc hi, md0_47_3 hc hi, md0_48_3 hc hi, md0_46_0 hc hi, md0_46_1 hc hi, md0_46_2 hc hi, md0_46_3 hc hi, md0_46_4 hc hi, md0_46_5 hc hi, md0_0 hc hi, md0_9 hc hi, md0_44 hc hi, md0_send hc hi, md0_rp0 hc hi, md0_rp1 hc hi, md0_rp2 hc hi, md0_Mo_pulse_0_j75 hc hi, md0_Mo_pulse_0_j96 hc hi]; done)))
theorem md0_Mo_pulse_0_j73 {c i k : Nat} (hc : c ≠ 0 ∧ c ≠ 4 ∧ c ≠ 5 ∧ c ≠ 6 ∧ c ≠ 7 ∧ c ≠ 8 ∧ c ≠ 9 ∧ c ≠ 44) (hi : ¬ ((28 ≤ c ∧ c ≤ 39 ∧ k = 0) ∨ (c = 43 ∧ 0 ≤ k ∧ k < 3) ∨ (c = 46 ∧ 0 ≤ k ∧ k < 6) ∨ ((c = 47 ∨ c = 48) ∧ 0 ≤ k ∧ k < 4))) : ∀ (v : fw_V) (x4 : Int32), mf_Mo_pulse_0_j73 v x4 c i k = v c i k := by
  intro v x4
  unfold mf_Mo_pulse_0_j73
  (try dsimp only)
  all_goals ((repeat' split) <;> (first | with_reducible rfl | (simp only [md0_28 hc hi, md0_29 hc hi, md0_31 hc hi, md0_32 hc hi, md0_33 hc hi, md0_34 hc hi, md0_35 hc hi, md0_36 hc hi, md0_37 hc hi, md0_38 hc hi, md0_39 hc hi, md0_43_0 hc hi, md0_43_1 hc hi, md0_43_2 hc hi, md0_47_0 hc hi, md0_48_0 hc hi, md0_47_1 hc hi, md0_48_1 hc hi, md0_47_2 hc hi, md0_48_2 hc hi, md0_47_3 hc hi, md0_48_3 hc hi, md0_46_0 hc hi, md0_46_1 hc hi, md0_46_2 hc hi, md0_46_3 hc hi, md0_46_4 hc hi, md0_46_5 hc hi, md0_0 hc hi, md0_9 hc hi, md0_44 hc hi, md0_send hc hi, md0_rp0 hc hi, md0_rp1 hc hi, md0_rp2 hc hi, md0_Mo_pulse_0_j74 hc hi]; done)))
theorem md0_Mo_pulse_0_j117 {c i k : Nat} (hc : c ≠ 0 ∧ c ≠ 4 ∧ c ≠ 5 ∧ c ≠ 6 ∧ c ≠ 7 ∧ c ≠ 8 ∧ c ≠ 9 ∧ c ≠ 44) (hi : ¬ ((28 ≤ c ∧ c ≤ 39 ∧ k = 0) ∨ (c = 43 ∧ 0 ≤ k ∧ k < 3) ∨ (c = 46 ∧ 0 ≤ k ∧ k < 6) ∨ ((c = 47 ∨ c = 48) ∧ 0 ≤ k ∧ k < 4))) : ∀ (v : fw_V) (x4 : Int32) (x90 : Int32), mf_Mo_pulse_0_j117 v x4 x90 c i k = v c i k := by
  intro v x4 x90
  unfold mf_Mo_pulse_0_j117
  (try dsimp only)
  all_goals ((repeat' split) <;> (first | with_reducible rfl | (simp only [md0_28 hc hi, md0_29 hc hi, md0_31 hc hi, md0_32 hc hi, md0_33 hc hi, md0_34 hc hi, md0_35 hc hi, md0_36 hc hi, md0_37 hc hi, md0_38 hc hi, md0_39 hc hi, md0_43_0 hc hi, md0_43_1 hc hi, md0_43_2 hc hi, md0_47_0 hc hi, md0_48_0 hc hi, md0_47_1 hc hi, md0_48_1 hc hi, md0_47_2 hc hi, md0_48_2 hc hi, md0_47_3 hc hi, md0_48_3 hc hi, md0_46_0 hc hi, md0_46_1 hc hi, md0_46_2 hc hi, md0_46_3 hc hi, md0_46_4 hc hi, md0_46_5 hc hi, md0_0 hc hi, md0_9 hc hi, md0_44 hc hi, md0_send hc hi, md0_rp0 hc hi, md0_rp1 hc hi, md0_rp2 hc hi, md0_Mo_pulse_0_j75 hc hi, md0_Mo_pulse_0_j96 hc hi]; done)))
theorem md0_Mo_pulse_0_j72 {c i k : Nat} (hc : c ≠ 0 ∧ c ≠ 4 ∧ c ≠ 5 ∧ c ≠ 6 ∧ c ≠ 7 ∧ c ≠ 8 ∧ c ≠ 9 ∧ c ≠ 44) (hi : ¬ ((28 ≤ c ∧ c ≤ 39 ∧ k = 0) ∨ (c = 43 ∧ 0 ≤ k ∧ k < 3) ∨ (c = 46 ∧ 0 ≤ k ∧ k < 6) ∨ ((c = 47 ∨ c = 48) ∧ 0 ≤ k ∧ k < 4))) : ∀ (v : fw_V), mf_Mo_pulse_0_j72 v c i k = v c i k := by
  intro v
  unfold mf_Mo_pulse_0_j72
  (try dsimp only)
  all_goals ((repeat' split) <;> (first | with_reducible rfl | (simp only [md0_28 hc hi, md0_29 hc hi, md0_31 hc hi, md0_32 hc hi, md0_33 hc hi, md0_34 hc hi, md0_35 hc hi, md0_36 hc hi, md0_37 hc hi, md0_38 hc hi, md0_39 hc hi, md0_43_0 hc hi, md0_43_1 hc hi, md0_43_2 hc hi, md0_47_0 hc hi, md0_48_0 hc hi, md0_47_1 hc hi, md0_48_1 hc hi, md0_47_2 hc hi, md0_48_2 hc hi, md0_47_3 hc hi, md0_48_3 hc hi, md0_46_0 hc hi, md0_46_1 hc hi, md0_46_2 hc hi, md0_46_3 hc hi, md0_46_4 hc hi, md0_46_5 hc hi, md0_0 hc hi, md0_9 hc hi, md0_44 hc hi, md0_send hc hi, md0_rp0 hc hi, md0_rp1 hc hi, md0_rp2 hc hi, md0_Mo_pulse_0_j73 hc hi, md0_Mo_pulse_0_j117 hc hi]; done)))
theorem md0_Mo_pulse_0_j71 {c i k : Nat} (hc : c ≠ 0 ∧ c ≠ 4 ∧ c ≠ 5 ∧ c ≠ 6 ∧ c ≠ 7 ∧ c ≠ 8 ∧ c ≠ 9 ∧ c ≠ 44) (hi : ¬ ((28 ≤ c ∧ c ≤ 39 ∧ k = 0) ∨ (c = 43 ∧ 0 ≤ k ∧ k < 3) ∨ (c = 46 ∧ 0 ≤ k ∧ k < 6) ∨ ((c = 47 ∨ c = 48) ∧ 0 ≤ k ∧ k < 4))) : ∀ (v : fw_V), mf_Mo_pulse_0_j71 v c i k = v c i k := by
  intro v
  unfold mf_Mo_pulse_0_j71
  (try dsimp only)
  all_goals ((repeat' split) <;> (first | with_reducible rfl | (simp only [md0_28 hc hi, md0_29 hc hi, md0_31 hc hi, md0_32 hc hi, md0_33 hc hi, md0_34 hc hi, md0_35 hc hi, md0_36 hc hi, md0_37 hc hi, md0_38 hc hi, md0_39 hc hi, md0_43_0 hc hi, md0_43_1 hc hi, md0_43_2 hc hi, md0_47_0 hc hi, md0_48_0 hc hi, md0_47_1 hc hi, md0_48_1 hc hi, md0_47_2 hc hi, md0_48_2 hc hi, md0_47_3 hc hi, md0_48_3 hc hi, md0_46_0 hc hi, md0_46_1 hc hi, md0_46_2 hc hi, md0_46_3 hc hi, md0_46_4 hc hi, md0_46_5 hc hi, md0_0 hc hi, md0_9 hc hi, md0_44 hc hi, md0_send hc hi, md0_rp0 hc hi, md0_rp1 hc hi, md0_rp2 hc hi, md0_Mo_pulse_0_j72 hc hi]; done)))
theorem md0_Mo_pulse_0_j122 {c i k : Nat} (hc : c ≠ 0 ∧ c ≠ 4 ∧ c ≠ 5 ∧ c ≠ 6 ∧ c ≠ 7 ∧ c ≠ 8 ∧ c ≠ 9 ∧ c ≠ 44) (hi : ¬ ((28 ≤ c ∧ c ≤ 39 ∧ k = 0) ∨ (c = 43 ∧ 0 ≤ k ∧ k < 3) ∨ (c = 46 ∧ 0 ≤ k ∧ k < 6) ∨ ((c = 47 ∨ c = 48) ∧ 0 ≤ k ∧ k < 4))) : ∀ (v : fw_V), mf_Mo_pulse_0_j122 v c i k = v c i k := by
  intro v
  unfold mf_Mo_pulse_0_j122
  (try dsimp only)
  all_goals ((repeat' split) <;> (first | with_reducible rfl | (simp only [md0_28 hc hi, md0_29 hc hi, md0_31 hc hi, md0_32 hc hi, md0_33 hc hi, md0_34 hc hi, md0_35 hc hi, md0_36 hc hi, md0_37 hc hi, md0_38 hc hi, md0_39 hc hi, md0_43_0 hc hi, md0_43_1 hc hi, md0_43_2 hc hi, md0_47_0 hc hi, md0_48_0 hc hi, md0_47_1 hc hi, md0_48_1 hc hi, md0_47_2 hc hi, md0_48_2 hc hi, md0_47_3 hc hi, md0_48_3 hc hi, md0_46_0 hc hi, md0_46_1 hc hi, md0_46_2 hc hi, md0_46_3 hc hi, md0_46_4 hc hi, md0_46_5 hc hi, md0_0 hc hi, md0_9 hc hi, md0_44 hc hi, md0_send hc hi, md0_rp0 hc hi, md0_rp1 hc hi, md0_rp2 hc hi, md0_Mo_pulse_0_j97 hc hi]; done)))
theorem md0_Mo_pulse_0_j123 {c i k : Nat} (hc : c ≠ 0 ∧ c ≠ 4 ∧ c ≠ 5 ∧ c ≠ 6 ∧ c ≠ 7 ∧ c ≠ 8 ∧ c ≠ 9 ∧ c ≠ 44) (hi : ¬ ((28 ≤ c ∧ c ≤ 39 ∧ k = 0) ∨ (c = 43 ∧ 0 ≤ k ∧ k < 3) ∨ (c = 46 ∧ 0 ≤ k ∧ k < 6) ∨ ((c = 47 ∨ c = 48) ∧ 0 ≤ k ∧ k < 4))) : ∀ (v : fw_V), mf_Mo_pulse_0_j123 v c i k = v c i k := by
  intro v
  unfold mf_Mo_pulse_0_j123
  (try dsimp only)
  all_goals ((repeat' split) <;> (first | with_reducible rfl | (simp only [md0_28 hc hi, md0_29 hc hi, md0_31 hc hi, md0_32 hc hi, md0_33 hc hi, md0_34 hc hi, md0_35 hc hi, md0_36 hc hi, md0_37 hc hi, md0_38 hc hi, md0_39 hc hi, md0_43_0 hc hi, md0_43_1 hc hi, md0_43_2 hc hi, md0_47_0 hc hi, md0_48_0 hc hi, md0_47_1 hc hi, md0_48_1 hc hi, md0_47_2 hc hi, md0_48_2 hc hi, md0_47_3 hc hi, md0_48_3 hc hi, md0_46_0 hc hi, md0_46_1 hc hi, md0_46_2 hc hi, md0_46_3 hc hi, md0_46_4 hc hi, md0_46_5 hc hi, md0_0 hc hi, md0_9 hc hi, md0_44 hc hi, md0_send hc hi, md0_rp0 hc hi, md0_rp1 hc hi, md0_rp2 hc hi, md0_Mo_pulse_0_j97 hc hi]; done)))
theorem md0_Mo_pulse_0_j121 {c i k : Nat} (hc : c ≠ 0 ∧ c ≠ 4 ∧ c ≠ 5 ∧ c ≠ 6 ∧ c ≠ 7 ∧ c ≠ 8 ∧ c ≠ 9 ∧ c ≠ 44) (hi : ¬ ((28 ≤ c ∧ c ≤ 39 ∧ k = 0) ∨ (c = 43 ∧ 0 ≤ k ∧ k < 3) ∨ (c = 46 ∧ 0 ≤ k ∧ k < 6) ∨ ((c = 47 ∨ c = 48) ∧ 0 ≤ k ∧ k < 4))) : ∀ (v : fw_V) (x4 : Int32), mf_Mo_pulse_0_j121 v x4 c i k = v c i k := by
  intro v x4
  unfold mf_Mo_pulse_0_j121
  (try dsimp only)
  all_goals ((repeat' split) <;> (first | with_reducible rfl | (simp only [md0_28 hc hi, md0_29 hc hi, md0_31 hc hi, md0_32 hc hi, md0_33 hc hi, md0_34 hc hi, md0_35 hc hi, md0_36 hc hi, md0_37 hc hi, md0_38 hc hi, md0_39 hc hi, md0_43_0 hc hi, md0_43_1 hc hi, md0_43_2 hc hi, md0_47_0 hc hi, md0_48_0 hc hi, md0_47_1 hc hi, md0_48_1 hc hi, md0_47_2 hc hi, md0_48_2 hc hi, md0_47_3 hc hi, md0_48_3 hc hi, md0_46_0 hc hi, md0_46_1 hc hi, md0_46_2 hc hi, md0_46_3 hc hi, md0_46_4 hc hi, md0_46_5 hc hi, md0_0 hc hi, md0_9 hc hi, md0_44 hc hi, md0_send hc hi, md0_rp0 hc hi, md0_rp1 hc hi, md0_rp2 hc hi, md0_Mo_pulse_0_j122 hc hi, md0_Mo_pulse_0_j123 hc hi]; done)))
theorem md0_Mo_pulse_0_j120 {c i k : Nat} (hc : c ≠ 0 ∧ c ≠ 4 ∧ c ≠ 5 ∧ c ≠ 6 ∧ c ≠ 7 ∧ c ≠ 8 ∧ c ≠ 9 ∧ c ≠ 44) (hi : ¬ ((28 ≤ c ∧ c ≤ 39 ∧ k = 0) ∨ (c = 43 ∧ 0 ≤ k ∧ k < 3) ∨ (c = 46 ∧ 0 ≤ k ∧ k < 6) ∨ ((c = 47 ∨ c = 48) ∧ 0 ≤ k ∧ k < 4))) : ∀ (v : fw_V) (x4 : Int32), mf_Mo_pulse_0_j120 v x4 c i k = v c i k := by
  intro v x4
  unfold mf_Mo_pulse_0_j120
  (try dsimp only)
  all_goals ((repeat' split) <;> (first | with_reducible rfl | (simp only [md0_28 hc hi, md0_29 hc hi, md0_31 hc hi, md0_32 hc hi, md0_33 hc hi, md0_34 hc hi, md0_35 hc hi, md0_36 hc hi, md0_37 hc hi, md0_38 hc hi, md0_39 hc hi, md0_43_0 hc hi, md0_43_1 hc hi, md0_43_2 hc hi, md0_47_0 hc hi, md0_48_0 hc hi, md0_47_1 hc hi, md0_48_1 hc hi, md0_47_2 hc hi, md0_48_2 hc hi, md0_47_3 hc hi, md0_48_3 hc hi, md0_46_0 hc hi, md0_46_1 hc hi, md0_46_2 hc hi, md0_46_3 hc hi, md0_46_4 hc hi, md0_46_5 hc hi, md0_0 hc hi, md0_9 hc hi, md0_44 hc hi, md0_send hc hi, md0_rp0 hc hi, md0_rp1 hc hi, md0_rp2 hc hi, md0_Mo_pulse_0_j121 hc hi]; done)))
theorem md0_Mo_pulse_0_j124 {c i k : Nat} (hc : c ≠ 0 ∧ c ≠ 4 ∧ c ≠ 5 ∧ c ≠ 6 ∧ c ≠ 7 ∧ c ≠ 8 ∧ c ≠ 9 ∧ c ≠ 44) (hi : ¬ ((28 ≤ c ∧ c ≤ 39 ∧ k = 0) ∨ (c = 43 ∧ 0 ≤ k ∧ k < 3) ∨ (c = 46 ∧ 0 ≤ k ∧ k < 6) ∨ ((c = 47 ∨ c = 48) ∧ 0 ≤ k ∧ k < 4))) : ∀ (v : fw_V) (x4 : Int32) (x90 : Int32), mf_Mo_pulse_0_j124 v x4 x90 c i k = v c i k := by
  intro v x4 x90
  unfold mf_Mo_pulse_0_j124
  (try dsimp only)
  all_goals ((repeat' split) <;> (first | with_reducible rfl | (simp only [md0_28 hc hi, md0_29 hc hi, md0_31 hc hi, md0_32 hc hi, md0_33 hc hi, md0_34 hc hi, md0_35 hc hi, md0_36 hc hi, md0_37 hc hi, md0_38 hc hi, md0_39 hc hi, md0_43_0 hc hi, md0_43_1 hc hi, md0_43_2 hc hi, md0_47_0 hc hi, md0_48_0 hc hi, md0_47_1 hc hi, md0_48_1 hc hi, md0_47_2 hc hi, md0_48_2 hc hi, md0_47_3 hc hi, md0_48_3 hc hi, md0_46_0 hc hi, md0_46_1 hc hi, md0_46_2 hc hi, md0_46_3 hc hi, md0_46_4 hc hi, md0_46_5 hc hi, md0_0 hc hi, md0_9 hc hi, md0_44 hc hi, md0_send hc hi, md0_rp0 hc hi, md0_rp1 hc hi, md0_rp2 hc hi, md0_Mo_pulse_0_j122 hc hi, md0_Mo_pulse_0_j123 hc hi]; done)))
theorem md0_Mo_pulse_0_j119 {c i k : Nat} (hc : c ≠ 0 ∧ c ≠ 4 ∧ c ≠ 5 ∧ c ≠ 6 ∧ c ≠ 7 ∧ c ≠ 8 ∧ c ≠ 9 ∧ c ≠ 44) (hi : ¬ ((28 ≤ c ∧ c ≤ 39 ∧ k = 0) ∨ (c = 43 ∧ 0 ≤ k ∧ k < 3) ∨ (c = 46 ∧ 0 ≤ k ∧ k < 6) ∨ ((c = 47 ∨ c = 48) ∧ 0 ≤ k ∧ k < 4))) : ∀ (v : fw_V), mf_Mo_pulse_0_j119 v c i k = v c i k := by
  intro v
  unfold mf_Mo_pulse_0_j119
  (try dsimp only)
  all_goals ((repeat' split) <;> (first | with_reducible rfl | (simp only [md0_28 hc hi, md0_29 hc hi, md0_31 hc hi, md0_32 hc hi, md0_33 hc hi, md0_34 hc hi, md0_35 hc hi, md0_36 hc hi, md0_37 hc hi, md0_38 hc hi, md0_39 hc hi, md0_43_0 hc hi, md0_43_1 hc hi, md0_43_2 hc hi, md0_47_0 hc hi, md0_48_0 hc hi, md0_47_1 hc hi, md0_48_1 hc hi, md0_47_2 hc hi, md0_48_2 hc hi, md0_47_3 hc hi, md0_48_3 hc hi, md0_46_0 hc hi, md0_46_1 hc hi, md0_46_2 hc hi, md0_46_3 hc hi, md0_46_4 hc hi, md0_46_5 hc hi, md0_0 hc hi, md0_9 hc hi, md0_44 hc hi, md0_send hc hi, md0_rp0 hc hi, md0_rp1 hc hi, md0_rp2 hc hi, md0_Mo_pulse_0_j120 hc hi, md0_Mo_pulse_0_j124 hc hi]; done)))
theorem md0_Mo_pulse_0_j118 {c i k : Nat} (hc : c ≠ 0 ∧ c ≠ 4 ∧ c ≠ 5 ∧ c ≠ 6 ∧ c ≠ 7 ∧ c ≠ 8 ∧ c ≠ 9 ∧ c ≠ 44) (hi : ¬ ((28 ≤ c ∧ c ≤ 39 ∧ k = 0) ∨ (c = 43 ∧ 0 ≤ k ∧ k < 3) ∨ (c = 46 ∧ 0 ≤ k ∧ k < 6) ∨ ((c = 47 ∨ c = 48) ∧ 0 ≤ k ∧ k < 4))) : ∀ (v : fw_V), mf_Mo_pulse_0_j118 v c i k = v c i k := by
  intro v
  unfold mf_Mo_pulse_0_j118
  (try dsimp only)
  all_goals ((repeat' split) <;> (first | with_reducible rfl | (simp only [md0_28 hc hi, md0_29 hc hi, md0_31 hc hi, md0_32 hc hi, md0_33 hc hi, md0_34 hc hi, md0_35 hc hi, md0_36 hc hi, md0_37 hc hi, md0_38 hc hi, md0_39 hc hi, md0_43_0 hc hi, md0_43_1 hc hi, md0_43_2 hc hi, md0_47_0 hc hi, md0_48_0 hc hi, md0_47_1 hc hi, md0_48_1 hc hi, md0_47_2 hc hi, md0_48_2 hc hi, md0_47_3 hc hi, md0_48_3 hc hi, md0_46_0 hc hi, md0_46_1 hc hi, md0_46_2 hc hi, md0_46_3 hc hi, md0_46_4 hc hi, md0_46_5 hc hi, md0_0 hc hi, md0_9 hc hi, md0_44 hc hi, md0_send hc hi, md0_rp0 hc hi, md0_rp1 hc hi, md0_rp2 hc hi, md0_Mo_pulse_0_j119 hc hi]; done)))
theorem md0_Mo_pulse_0_j70 {c i k : Nat} (hc : c ≠ 0 ∧ c ≠ 4 ∧ c ≠ 5 ∧ c ≠ 6 ∧ c ≠ 7 ∧ c ≠ 8 ∧ c ≠ 9 ∧ c ≠ 44) (hi : ¬ ((28 ≤ c ∧ c ≤ 39 ∧ k = 0) ∨ (c = 43 ∧ 0 ≤ k ∧ k < 3) ∨ (c = 46 ∧ 0 ≤ k ∧ k < 6) ∨ ((c = 47 ∨ c = 48) ∧ 0 ≤ k ∧ k < 4))) : ∀ (v : fw_V) (x4 : Int32), mf_Mo_pulse_0_j70 v x4 c i k = v c i k := by
  intro v x4
  unfold mf_Mo_pulse_0_j70
  (try dsimp only)
  all_goals ((repeat' split) <;> (first | with_reducible rfl | (simp only [md0_28 hc hi, md0_29 hc hi, md0_31 hc hi, md0_32 hc hi, md0_33 hc hi, md0_34 hc hi, md0_35 hc hi, md0_36 hc hi, md0_37 hc hi, md0_38 hc hi, md0_39 hc hi, md0_43_0 hc hi, md0_43_1 hc hi, md0_43_2 hc hi, md0_47_0 hc hi, md0_48_0 hc hi, md0_47_1 hc hi, md0_48_1 hc hi, md0_47_2 hc hi, md0_48_2 hc hi, md0_47_3 hc hi, md0_48_3 hc hi, md0_46_0 hc hi, md0_46_1 hc hi, md0_46_2 hc hi, md0_46_3 hc hi, md0_46_4 hc hi, md0_46_5 hc hi, md0_0 hc hi, md0_9 hc hi, md0_44 hc hi, md0_send hc hi, md0_rp0 hc hi, md0_rp1 hc hi, md0_rp2 hc hi, md0_Mo_pulse_0_j71 hc hi, md0_Mo_pulse_0_j118 hc hi]; done)))
theorem md0_Mo_pulse_0_j69 {c i k : Nat} (hc : c ≠ 0 ∧ c ≠ 4 ∧ c ≠ 5 ∧ c ≠ 6 ∧ c ≠ 7 ∧ c ≠ 8 ∧ c ≠ 9 ∧ c ≠ 44) (hi : ¬ ((28 ≤ c ∧ c ≤ 39 ∧ k = 0) ∨ (c = 43 ∧ 0 ≤ k ∧ k < 3) ∨ (c = 46 ∧ 0 ≤ k ∧ k < 6) ∨ ((c = 47 ∨ c = 48) ∧ 0 ≤ k ∧ k < 4))) : ∀ (v : fw_V) (x4 : Int32), mf_Mo_pulse_0_j69 v x4 c i k = v c i k := by
  intro v x4
  unfold mf_Mo_pulse_0_j69
  (try dsimp only)
  all_goals ((repeat' split) <;> (first | with_reducible rfl | (simp only [md0_28 hc hi, md0_29 hc hi, md0_31 hc hi, md0_32 hc hi, md0_33 hc hi, md0_34 hc hi, md0_35 hc hi, md0_36 hc hi, md0_37 hc hi, md0_38 hc hi, md0_39 hc hi, md0_43_0 hc hi, md0_43_1 hc hi, md0_43_2 hc hi, md0_47_0 hc hi, md0_48_0 hc hi, md0_47_1 hc hi, md0_48_1 hc hi, md0_47_2 hc hi, md0_48_2 hc hi, md0_47_3 hc hi, md0_48_3 hc hi, md0_46_0 hc hi, md0_46_1 hc hi, md0_46_2 hc hi, md0_46_3 hc hi, md0_46_4 hc hi, md0_46_5 hc hi, md0_0 hc hi, md0_9 hc hi, md0_44 hc hi, md0_send hc hi, md0_rp0 hc hi, md0_rp1 hc hi, md0_rp2 hc hi, md0_Mo_pulse_0_j70 hc hi]; done)))
theorem md0_Mo_pulse_0_j125 {c i k : Nat} (hc : c ≠ 0 ∧ c ≠ 4 ∧ c ≠ 5 ∧ c ≠ 6 ∧ c ≠ 7 ∧ c ≠ 8 ∧ c ≠ 9 ∧ c ≠ 44) (hi : ¬ ((28 ≤ c ∧ c ≤ 39 ∧ k = 0) ∨ (c = 43 ∧ 0 ≤ k ∧ k < 3) ∨ (c = 46 ∧ 0 ≤ k ∧ k < 6) ∨ ((c = 47 ∨ c = 48) ∧ 0 ≤ k ∧ k < 4))) : ∀ (v : fw_V) (x4 : Int32) (x90 : Int32), mf_Mo_pulse_0_j125 v x4 x90 c i k = v c i k := by
  intro v x4 x90
  unfold mf_Mo_pulse_0_j125
  (try dsimp only)
  all_goals ((repeat' split) <;> (first | with_reducible rfl | (simp only [md0_28 hc hi, md0_29 hc hi, md0_31 hc hi, md0_32 hc hi, md0_33 hc hi, md0_34 hc hi, md0_35 hc hi, md0_36 hc hi, md0_37 hc hi, md0_38 hc hi, md0_39 hc hi, md0_43_0 hc hi, md0_43_1 hc hi, md0_43_2 hc hi, md0_47_0 hc hi, md0_48_0 hc hi, md0_47_1 hc hi, md0_48_1 hc hi, md0_47_2 hc hi, md0_48_2 hc hi, md0_47_3 hc hi, md0_48_3 hc hi, md0_46_0 hc hi, md0_46_1 hc hi, md0_46_2 hc hi, md0_46_3 hc hi, md0_46_4 hc hi, md0_46_5 hc hi, md0_0 hc hi, md0_9 hc hi, md0_44 hc hi, md0_send hc hi, md0_rp0 hc hi, md0_rp1 hc hi, md0_rp2 hc hi, md0_Mo_pulse_0_j71 hc hi, md0_Mo_pulse_0_j118 hc hi]; done)))
theorem md0_Mo_pulse_0_j68 {c i k : Nat} (hc : c ≠ 0 ∧ c ≠ 4 ∧ c ≠ 5 ∧ c ≠ 6 ∧ c ≠ 7 ∧ c ≠ 8 ∧ c ≠ 9 ∧ c ≠ 44) (hi : ¬ ((28 ≤ c ∧ c ≤ 39 ∧ k = 0) ∨ (c = 43 ∧ 0 ≤ k ∧ k < 3) ∨ (c = 46 ∧ 0 ≤ k ∧ k < 6) ∨ ((c = 47 ∨ c = 48) ∧ 0 ≤ k ∧ k < 4))) : ∀ (v : fw_V), mf_Mo_pulse_0_j68 v c i k = v c i k := by
  intro v
  unfold mf_Mo_pulse_0_j68
  (try dsimp only)
  all_goals ((repeat' split) <;> (first | with_reducible rfl | (simp only [md0_28 hc hi, md0_29 hc hi, md0_31 hc hi, md0_32 hc hi, md0_33 hc hi, md0_34 hc hi, md0_35 hc hi, md0_36 hc hi, md0_37 hc hi, md0_38 hc hi, md0_39 hc hi, md0_43_0 hc hi, md0_43_1 hc hi, md0_43_2 hc hi, md0_47_0 hc hi, md0_48_0 hc hi, md0_47_1 hc hi, md0_48_1 hc hi, md0_47_2 hc hi, md0_48_2 hc hi, md0_47_3 hc hi, md0_48_3 hc hi, md0_46_0 hc hi, md0_46_1 hc hi, md0_46_2 hc hi, md0_46_3 hc hi, md0_46_4 hc hi, md0_46_5 hc hi, md0_0 hc hi, md0_9 hc hi, md0_44 hc hi, md0_send hc hi, md0_rp0 hc hi, md0_rp1 hc hi, md0_rp2 hc hi, md0_Mo_pulse_0_j69 hc hi, md0_Mo_pulse_0_j125 hc hi]; done)))
theorem md0_Mo_pulse_0_j67 {c i k : Nat} (hc : c ≠ 0 ∧ c ≠ 4 ∧ c ≠ 5 ∧ c ≠ 6 ∧ c ≠ 7 ∧ c ≠ 8 ∧ c ≠ 9 ∧ c ≠ 44) (hi : ¬ ((28 ≤ c ∧ c ≤ 39 ∧ k = 0) ∨ (c = 43 ∧ 0 ≤ k ∧ k < 3) ∨ (c = 46 ∧ 0 ≤ k ∧ k < 6) ∨ ((c = 47 ∨ c = 48) ∧ 0 ≤ k ∧ k < 4))) : ∀ (v : fw_V), mf_Mo_pulse_0_j67 v c i k = v c i k := by
  intro v
  unfold mf_Mo_pulse_0_j67
  (try dsimp only)
  all_goals ((repeat' split) <;> (first | with_reducible rfl | (simp only [md0_28 hc hi, md0_29 hc hi, md0_31 hc hi, md0_32 hc hi, md0_33 hc hi, md0_34 hc hi, md0_35 hc hi, md0_36 hc hi, md0_37 hc hi, md0_38 hc hi, md0_39 hc hi, md0_43_0 hc hi, md0_43_1 hc hi, md0_43_2 hc hi, md0_47_0 hc hi, md0_48_0 hc hi, md0_47_1 hc hi, md0_48_1 hc hi, md0_47_2 hc hi, md0_48_2 hc hi, md0_47_3 hc hi, md0_48_3 hc hi, md0_46_0 hc hi, md0_46_1 hc hi, md0_46_2 hc hi, md0_46_3 hc hi, md0_46_4 hc hi, md0_46_5 hc hi, md0_0 hc hi, md0_9 hc hi, md0_44 hc hi, md0_send hc hi, md0_rp0 hc hi, md0_rp1 hc hi, md0_rp2 hc hi, md0_Mo_pulse_0_j68 hc hi]; done)))
theorem md0_Mo_pulse_0_j7 {c i k : Nat} (hc : c ≠ 0 ∧ c ≠ 4 ∧ c ≠ 5 ∧ c ≠ 6 ∧ c ≠ 7 ∧ c ≠ 8 ∧ c ≠ 9 ∧ c ≠ 44) (hi : ¬ ((28 ≤ c ∧ c ≤ 39 ∧ k = 0) ∨ (c = 43 ∧ 0 ≤ k ∧ k < 3) ∨ (c = 46 ∧ 0 ≤ k ∧ k < 6) ∨ ((c = 47 ∨ c = 48) ∧ 0 ≤ k ∧ k < 4))) : ∀ (v : fw_V) (x4 : Int32), mf_Mo_pulse_0_j7 v x4 c i k = v c i k := by
  intro v x4
  unfold mf_Mo_pulse_0_j7
  (try dsimp only)
  all_goals ((repeat' split) <;> (first | with_reducible rfl | (simp only [md0_28 hc hi, md0_29 hc hi, md0_31 hc hi, md0_32 hc hi, md0_33 hc hi, md0_34 hc hi, md0_35 hc hi, md0_36 hc hi, md0_37 hc hi, md0_38 hc hi, md0_39 hc hi, md0_43_0 hc hi, md0_43_1 hc hi, md0_43_2 hc hi, md0_47_0 hc hi, md0_48_0 hc hi, md0_47_1 hc hi, md0_48_1 hc hi, md0_47_2 hc hi, md0_48_2 hc hi, md0_47_3 hc hi, md0_48_3 hc hi, md0_46_0 hc hi, md0_46_1 hc hi, md0_46_2 hc hi, md0_46_3 hc hi, md0_46_4 hc hi, md0_46_5 hc hi, md0_0 hc hi, md0_9 hc hi, md0_44 hc hi, md0_send hc hi, md0_rp0 hc hi, md0_rp1 hc hi, md0_rp2 hc hi, md0_Mo_pulse_0_j8 hc hi, md0_Mo_pulse_0_j67 hc hi]; done)))
theorem md0_Mo_pulse_0_j6 {c i k : Nat} (hc : c ≠ 0 ∧ c ≠ 4 ∧ c ≠ 5 ∧ c ≠ 6 ∧ c ≠ 7 ∧ c ≠ 8 ∧ c ≠ 9 ∧ c ≠ 44) (hi : ¬ ((28 ≤ c ∧ c ≤ 39 ∧ k = 0) ∨ (c = 43 ∧ 0 ≤ k ∧ k < 3) ∨ (c = 46 ∧ 0 ≤ k ∧ k < 6) ∨ ((c = 47 ∨ c = 48) ∧ 0 ≤ k ∧ k < 4))) : ∀ (v : fw_V) (x4 : Int32), mf_Mo_pulse_0_j6 v x4 c i k = v c i k := by
  intro v x4
  unfold mf_Mo_pulse_0_j6
  (try dsimp only)
  all_goals ((repeat' split) <;> (first | with_reducible rfl | (simp only [md0_28 hc hi, md0_29 hc hi, md0_31 hc hi, md0_32 hc hi, md0_33 hc hi, md0_34 hc hi, md0_35 hc hi, md0_36 hc hi, md0_37 hc hi, md0_38 hc hi, md0_39 hc hi, md0_43_0 hc hi, md0_43_1 hc hi, md0_43_2 hc hi, md0_47_0 hc hi, md0_48_0 hc hi, md0_47_1 hc hi, md0_48_1 hc hi, md0_47_2 hc hi, md0_48_2 hc hi, md0_47_3 hc hi, md0_48_3 hc hi, md0_46_0 hc hi, md0_46_1 hc hi, md0_46_2 hc hi, md0_46_3 hc hi, md0_46_4 hc hi, md0_46_5 hc hi, md0_0 hc hi, md0_9 hc hi, md0_44 hc hi, md0_send hc hi, md0_rp0 hc hi, md0_rp1 hc hi, md0_rp2 hc hi, md0_Mo_pulse_0_j7 hc hi]; done)))
theorem md0_Mo_pulse_0_j126 {c i k : Nat} (hc : c ≠ 0 ∧ c ≠ 4 ∧ c ≠ 5 ∧ c ≠ 6 ∧ c ≠ 7 ∧ c ≠ 8 ∧ c ≠ 9 ∧ c ≠ 44) (hi : ¬ ((28 ≤ c ∧ c ≤ 39 ∧ k = 0) ∨ (c = 43 ∧ 0 ≤ k ∧ k < 3) ∨ (c = 46 ∧ 0 ≤ k ∧ k < 6) ∨ ((c = 47 ∨ c = 48) ∧ 0 ≤ k ∧ k < 4))) : ∀ (v : fw_V) (x4 : Int32) (x90 : Int32), mf_Mo_pulse_0_j126 v x4 x90 c i k = v c i k := by
  intro v x4 x90
  unfold mf_Mo_pulse_0_j126
  (try dsimp only)
  all_goals ((repeat' split) <;> (first | with_reducible rfl | (simp only [md0_28 hc hi, md0_29 hc hi, md0_31 hc hi, md0_32 hc hi, md0_33 hc hi, md0_34 hc hi, md0_35 hc hi, md0_36 hc hi, md0_37 hc hi, md0_38 hc hi, md0_39 hc hi, md0_43_0 hc hi, md0_43_1 hc hi, md0_43_2 hc hi, md0_47_0 hc hi, md0_48_0 hc hi, md0_47_1 hc hi, md0_48_1 hc hi, md0_47_2 hc hi, md0_48_2 hc hi, md0_47_3 hc hi, md0_48_3 hc hi, md0_46_0 hc hi, md0_46_1 hc hi, md0_46_2 hc hi, md0_46_3 hc hi, md0_46_4 hc hi, md0_46_5 hc hi, md0_0 hc hi, md0_9 hc hi, md0_44 hc hi, md0_send hc hi, md0_rp0 hc hi, md0_rp1 hc hi, md0_rp2 hc hi, md0_Mo_pulse_0_j8 hc hi, md0_Mo_pulse_0_j67 hc hi]; done)))
theorem md0_Mo_pulse_0_j5 {c i k : Nat} (hc : c ≠ 0 ∧ c ≠ 4 ∧ c ≠ 5 ∧ c ≠ 6 ∧ c ≠ 7 ∧ c ≠ 8 ∧ c ≠ 9 ∧ c ≠ 44) (hi : ¬ ((28 ≤ c ∧ c ≤ 39 ∧ k = 0) ∨ (c = 43 ∧ 0 ≤ k ∧ k < 3) ∨ (c = 46 ∧ 0 ≤ k ∧ k < 6) ∨ ((c = 47 ∨ c = 48) ∧ 0 ≤ k ∧ k < 4))) : ∀ (v : fw_V), mf_Mo_pulse_0_j5 v c i k = v c i k := by
  intro v
  unfold mf_Mo_pulse_0_j5
  (try dsimp only)
  all_goals ((repeat' split) <;> (first | with_reducible rfl | (simp only [md0_28 hc hi, md0_29 hc hi, md0_31 hc hi, md0_32 hc hi, md0_33 hc hi, md0_34 hc hi, md0_35 hc hi, md0_36 hc hi, md0_37 hc hi, md0_38 hc hi, md0_39 hc hi, md0_43_0 hc hi, md0_43_1 hc hi, md0_43_2 hc hi, md0_47_0 hc hi, md0_48_0 hc hi, md0_47_1 hc hi, md0_48_1 hc hi, md0_47_2 hc hi, md0_48_2 hc hi, md0_47_3 hc hi, md0_48_3 hc hi, md0_46_0 hc hi, md0_46_1 hc hi, md0_46_2 hc hi, md0_46_3 hc hi, md0_46_4 hc hi, md0_46_5 hc hi, md0_0 hc hi, md0_9 hc hi, md0_44 hc hi, md0_send hc hi, md0_rp0 hc hi, md0_rp1 hc hi, md0_rp2 hc hi, md0_Mo_pulse_0_j6 hc hi, md0_Mo_pulse_0_j126 hc hi]; done)))
theorem md0_Mo_pulse_0_j4 {c i k : Nat} (hc : c ≠ 0 ∧ c ≠ 4 ∧ c ≠ 5 ∧ c ≠ 6 ∧ c ≠ 7 ∧ c ≠ 8 ∧ c ≠ 9 ∧ c ≠ 44) (hi : ¬ ((28 ≤ c ∧ c ≤ 39 ∧ k = 0) ∨ (c = 43 ∧ 0 ≤ k ∧ k < 3) ∨ (c = 46 ∧ 0 ≤ k ∧ k < 6) ∨ ((c = 47 ∨ c = 48) ∧ 0 ≤ k ∧ k < 4))) : ∀ (v : fw_V), mf_Mo_pulse_0_j4 v c i k = v c i k := by
  intro v
  unfold mf_Mo_pulse_0_j4
  (try dsimp only)
  all_goals ((repeat' split) <;> (first | with_reducible rfl | (simp only [md0_28 hc hi, md0_29 hc hi, md0_31 hc hi, md0_32 hc hi, md0_33 hc hi, md0_34 hc hi, md0_35 hc hi, md0_36 hc hi, md0_37 hc hi, md0_38 hc hi, md0_39 hc hi, md0_43_0 hc hi, md0_43_1 hc hi, md0_43_2 hc hi, md0_47_0 hc hi, md0_48_0 hc hi, md0_47_1 hc hi, md0_48_1 hc hi, md0_47_2 hc hi, md0_48_2 hc hi, md0_47_3 hc hi, md0_48_3 hc hi, md0_46_0 hc hi, md0_46_1 hc hi, md0_46_2 hc hi, md0_46_3 hc hi, md0_46_4 hc hi, md0_46_5 hc hi, md0_0 hc hi, md0_9 hc hi, md0_44 hc hi, md0_send hc hi, md0_rp0 hc hi, md0_rp1 hc hi, md0_rp2 hc hi, md0_Mo_pulse_0_j5 hc hi]; done)))
theorem md0_Mo_pulse_0_j131 {c i k : Nat} (hc : c ≠ 0 ∧ c ≠ 4 ∧ c ≠ 5 ∧ c ≠ 6 ∧ c ≠ 7 ∧ c ≠ 8 ∧ c ≠ 9 ∧ c ≠ 44) (hi : ¬ ((28 ≤ c ∧ c ≤ 39 ∧ k = 0) ∨ (c = 43 ∧ 0 ≤ k ∧ k < 3) ∨ (c = 46 ∧ 0 ≤ k ∧ k < 6) ∨ ((c = 47 ∨ c = 48) ∧ 0 ≤ k ∧ k < 4))) : ∀ (v : fw_V), mf_Mo_pulse_0_j131 v c i k = v c i k := by
  intro v
  unfold mf_Mo_pulse_0_j131
  (try dsimp only)
  all_goals ((repeat' split) <;> (first | with_reducible rfl | (simp only [md0_28 hc hi, md0_29 hc hi, md0_31 hc hi, md0_32 hc hi, md0_33 hc hi, md0_34 hc hi, md0_35 hc hi, md0_36 hc hi, md0_37 hc hi, md0_38 hc hi, md0_39 hc hi, md0_43_0 hc hi, md0_43_1 hc hi, md0_43_2 hc hi, md0_47_0 hc hi, md0_48_0 hc hi, md0_47_1 hc hi, md0_48_1 hc hi, md0_47_2 hc hi, md0_48_2 hc hi, md0_47_3 hc hi, md0_48_3 hc hi, md0_46_0 hc hi, md0_46_1 hc hi, md0_46_2 hc hi, md0_46_3 hc hi, md0_46_4 hc hi, md0_46_5 hc hi, md0_0 hc hi, md0_9 hc hi, md0_44 hc hi, md0_send hc hi, md0_rp0 hc hi, md0_rp1 hc hi, md0_rp2 hc hi, md0_Mo_pulse_0_j68 hc hi]; done)))
theorem md0_Mo_pulse_0_j132 {c i k : Nat} (hc : c ≠ 0 ∧ c ≠ 4 ∧ c ≠ 5 ∧ c ≠ 6 ∧ c ≠ 7 ∧ c ≠ 8 ∧ c ≠ 9 ∧ c ≠ 44) (hi : ¬ ((28 ≤ c ∧ c ≤ 39 ∧ k = 0) ∨ (c = 43 ∧ 0 ≤ k ∧ k < 3) ∨ (c = 46 ∧ 0 ≤ k ∧ k < 6) ∨ ((c = 47 ∨ c = 48) ∧ 0 ≤ k ∧ k < 4))) : ∀ (v : fw_V), mf_Mo_pulse_0_j132 v c i k = v c i k := by
  intro v
  unfold mf_Mo_pulse_0_j132
  (try dsimp only)
  all_goals ((repeat' split) <;> (first | with_reducible rfl | (simp only [md0_28 hc hi, md0_29 hc hi, md0_31 hc hi, md0_32 hc hi, md0_33 hc hi, md0_34 hc hi, md0_35 hc hi, md0_36 hc hi, md0_37 hc hi, md0_38 hc hi, md0_39 hc hi, md0_43_0 hc hi, md0_43_1 hc hi, md0_43_2 hc hi, md0_47_0 hc hi, md0_48_0 hc hi, md0_47_1 hc hi, md0_48_1 hc hi, md0_47_2 hc hi, md0_48_2 hc hi, md0_47_3 hc hi, md0_48_3 hc hi, md0_46_0 hc hi, md0_46_1 hc hi, md0_46_2 hc hi, md0_46_3 hc hi, md0_46_4 hc hi, md0_46_5 hc hi, md0_0 hc hi, md0_9 hc hi, md0_44 hc hi, md0_send hc hi, md0_rp0 hc hi, md0_rp1 hc hi, md0_rp2 hc hi, md0_Mo_pulse_0_j68 hc hi]; done)))
theorem md0_Mo_pulse_0_j130 {c i k : Nat} (hc : c ≠ 0 ∧ c ≠ 4 ∧ c ≠ 5 ∧ c ≠ 6 ∧ c ≠ 7 ∧ c ≠ 8 ∧ c ≠ 9 ∧ c ≠ 44) (hi : ¬ ((28 ≤ c ∧ c ≤ 39 ∧ k = 0) ∨ (c = 43 ∧ 0 ≤ k ∧ k < 3) ∨ (c = 46 ∧ 0 ≤ k ∧ k < 6) ∨ ((c = 47 ∨ c = 48) ∧ 0 ≤ k ∧ k < 4))) : ∀ (v : fw_V) (x4 : Int32), mf_Mo_pulse_0_j130 v x4 c i k = v c i k := by
  intro v x4
  unfold mf_Mo_pulse_0_j130
  (try dsimp only)
  all_goals ((repeat' split) <;> (first | with_reducible rfl | (simp only [md0_28 hc hi, md0_29 hc hi, md0_31 hc hi, md0_32 hc hi, md0_33 hc hi, md0_34 hc hi, md0_35 hc hi, md0_36 hc hi, md0_37 hc hi, md0_38 hc hi, md0_39 hc hi, md0_43_0 hc hi, md0_43_1 hc hi, md0_43_2 hc hi, md0_47_0 hc hi, md0_48_0 hc hi, md0_47_1 hc hi, md0_48_1 hc hi, md0_47_2 hc hi, md0_48_2 hc hi, md0_47_3 hc hi, md0_48_3 hc hi, md0_46_0 hc hi, md0_46_1 hc hi, md0_46_2 hc hi, md0_46_3 hc hi, md0_46_4 hc hi, md0_46_5 hc hi, md0_0 hc hi, md0_9 hc hi, md0_44 hc hi, md0_send hc hi, md0_rp0 hc hi, md0_rp1 hc hi, md0_rp2 hc hi, md0_Mo_pulse_0_j131 hc hi, md0_Mo_pulse_0_j132 hc hi]; done)))
theorem md0_Mo_pulse_0_j129 {c i k : Nat} (hc : c ≠ 0 ∧ c ≠ 4 ∧ c ≠ 5 ∧ c ≠ 6 ∧ c ≠ 7 ∧ c ≠ 8 ∧ c ≠ 9 ∧ c ≠ 44) (hi : ¬ ((28 ≤ c ∧ c ≤ 39 ∧ k = 0) ∨ (c = 43 ∧ 0 ≤ k ∧ k < 3) ∨ (c = 46 ∧ 0 ≤ k ∧ k < 6) ∨ ((c = 47 ∨ c = 48) ∧ 0 ≤ k ∧ k < 4))) : ∀ (v : fw_V) (x4 : Int32), mf_Mo_pulse_0_j129 v x4 c i k = v c i k := by
  intro v x4
  unfold mf_Mo_pulse_0_j129
  (try dsimp only)
  all_goals ((repeat' split) <;> (first | with_reducible rfl | (simp only [md0_28 hc hi, md0_29 hc hi, md0_31 hc hi, md0_32 hc hi, md0_33 hc hi, md0_34 hc hi, md0_35 hc hi, md0_36 hc hi, md0_37 hc hi, md0_38 hc hi, md0_39 hc hi, md0_43_0 hc hi, md0_43_1 hc hi, md0_43_2 hc hi, md0_47_0 hc hi, md0_48_0 hc hi, md0_47_1 hc hi, md0_48_1 hc hi, md0_47_2 hc hi, md0_48_2 hc hi, md0_47_3 hc hi, md0_48_3 hc hi, md0_46_0 hc hi, md0_46_1 hc hi, md0_46_2 hc hi, md0_46_3 hc hi, md0_46_4 hc hi, md0_46_5 hc hi, md0_0 hc hi, md0_9 hc hi, md0_44 hc hi, md0_send hc hi, md0_rp0 hc hi, md0_rp1 hc hi, md0_rp2 hc hi, md0_Mo_pulse_0_j130 hc hi]; done)))
theorem md0_Mo_pulse_0_j133 {c i k : Nat} (hc : c ≠ 0 ∧ c ≠ 4 ∧ c ≠ 5 ∧ c ≠ 6 ∧ c ≠ 7 ∧ c ≠ 8 ∧ c ≠ 9 ∧ c ≠ 44) (hi : ¬ ((28 ≤ c ∧ c ≤ 39 ∧ k = 0) ∨ (c = 43 ∧ 0 ≤ k ∧ k < 3) ∨ (c = 46 ∧ 0 ≤ k ∧ k < 6) ∨ ((c = 47 ∨ c = 48) ∧ 0 ≤ k ∧ k < 4))) : ∀ (v : fw_V) (x4 : Int32) (x90 : Int32), mf_Mo_pulse_0_j133 v x4 x90 c i k = v c i k := by
  intro v x4 x90
  unfold mf_Mo_pulse_0_j133
  (try dsimp only)
  all_goals ((repeat' split) <;> (first | with_reducible rfl | (simp only [md0_28 hc hi, md0_29 hc hi, md0_31 hc hi, md0_32 hc hi, md0_33 hc hi, md0_34 hc hi, md0_35 hc hi, md0_36 hc hi, md0_37 hc hi, md0_38 hc hi, md0_39 hc hi, md0_43_0 hc hi, md0_43_1 hc hi, md0_43_2 hc hi, md0_47_0 hc hi, md0_48_0 hc hi, md0_47_1 hc hi, md0_48_1 hc hi, md0_47_2 hc hi, md0_48_2 hc hi, md0_47_3 hc hi, md0_48_3 hc hi, md0_46_0 hc hi, md0_46_1 hc hi, md0_46_2 hc hi, md0_46_3 hc hi, md0_46_4 hc hi, md0_46_5 hc hi, md0_0 hc hi, md0_9 hc hi, md0_44 hc hi, md0_send hc hi, md0_rp0 hc hi, md0_rp1 hc hi, md0_rp2 hc hi, md0_Mo_pulse_0_j131 hc hi, md0_Mo_pulse_0_j132 hc hi]; done)))
theorem md0_Mo_pulse_0_j128 {c i k : Nat} (hc : c ≠ 0 ∧ c ≠ 4 ∧ c ≠ 5 ∧ c ≠ 6 ∧ c ≠ 7 ∧ c ≠ 8 ∧ c ≠ 9 ∧ c ≠ 44) (hi : ¬ ((28 ≤ c ∧ c ≤ 39 ∧ k = 0) ∨ (c = 43 ∧ 0 ≤ k ∧ k < 3) ∨ (c = 46 ∧ 0 ≤ k ∧ k < 6) ∨ ((c = 47 ∨ c = 48) ∧ 0 ≤ k ∧ k < 4))) : ∀ (v : fw_V), mf_Mo_pulse_0_j128 v c i k = v c i k := by
  intro v
  unfold mf_Mo_pulse_0_j128
  (try dsimp only)
  all_goals ((repeat' split) <;> (first | with_reducible rfl | (simp only [md0_28 hc hi, md0_29 hc hi, md0_31 hc hi, md0_32 hc hi, md0_33 hc hi, md0_34 hc hi, md0_35 hc hi, md0_36 hc hi, md0_37 hc hi, md0_38 hc hi, md0_39 hc hi, md0_43_0 hc hi, md0_43_1 hc hi, md0_43_2 hc hi, md0_47_0 hc hi, md0_48_0 hc hi, md0_47_1 hc hi, md0_48_1 hc hi, md0_47_2 hc hi, md0_48_2 hc hi, md0_47_3 hc hi, md0_48_3 hc hi, md0_46_0 hc hi, md0_46_1 hc hi, md0_46_2 hc hi, md0_46_3 hc hi, md0_46_4 hc hi, md0_46_5 hc hi, md0_0 hc hi, md0_9 hc hi, md0_44 hc hi, md0_send hc hi, md0_rp0 hc hi, md0_rp1 hc hi, md0_rp2 hc hi, md0_Mo_pulse_0_j129 hc hi, md0_Mo_pulse_0_j133 hc hi]; done)))
theorem md0_Mo_pulse_0_j127 {c i k : Nat} (hc : c ≠ 0 ∧ c ≠ 4 ∧ c ≠ 5 ∧ c ≠ 6 ∧ c ≠ 7 ∧ c ≠ 8 ∧ c ≠ 9 ∧ c ≠ 44) (hi : ¬ ((28 ≤ c ∧ c ≤ 39 ∧ k = 0) ∨ (c = 43 ∧ 0 ≤ k ∧ k < 3) ∨ (c = 46 ∧ 0 ≤ k ∧ k < 6) ∨ ((c = 47 ∨ c = 48) ∧ 0 ≤ k ∧ k < 4))) : ∀ (v : fw_V), mf_Mo_pulse_0_j127 v c i k = v c i k := by
  intro v
  unfold mf_Mo_pulse_0_j127
  (try dsimp only)
  all_goals ((repeat' split) <;> (first | with_reducible rfl | (simp only [md0_28 hc hi, md0_29 hc hi, md0_31 hc hi, md0_32 hc hi, md0_33 hc hi, md0_34 hc hi, md0_35 hc hi, md0_36 hc hi, md0_37 hc hi, md0_38 hc hi, md0_39 hc hi, md0_43_0 hc hi, md0_43_1 hc hi, md0_43_2 hc hi, md0_47_0 hc hi, md0_48_0 hc hi, md0_47_1 hc hi, md0_48_1 hc hi, md0_47_2 hc hi, md0_48_2 hc hi, md0_47_3 hc hi, md0_48_3 hc hi, md0_46_0 hc hi, md0_46_1 hc hi, md0_46_2 hc hi, md0_46_3 hc hi, md0_46_4 hc hi, md0_46_5 hc hi, md0_0 hc hi, md0_9 hc hi, md0_44 hc hi, md0_send hc hi, md0_rp0 hc hi, md0_rp1 hc hi, md0_rp2 hc hi, md0_Mo_pulse_0_j128 hc hi]; done)))
theorem md0_Mo_pulse_0_j3 {c i k : Nat} (hc : c ≠ 0 ∧ c ≠ 4 ∧ c ≠ 5 ∧ c ≠ 6 ∧ c ≠ 7 ∧ c ≠ 8 ∧ c ≠ 9 ∧ c ≠ 44) (hi : ¬ ((28 ≤ c ∧ c ≤ 39 ∧ k = 0) ∨ (c = 43 ∧ 0 ≤ k ∧ k < 3) ∨ (c = 46 ∧ 0 ≤ k ∧ k < 6) ∨ ((c = 47 ∨ c = 48) ∧ 0 ≤ k ∧ k < 4))) : ∀ (v : fw_V) (x4 : Int32), mf_Mo_pulse_0_j3 v x4 c i k = v c i k := by
  intro v x4
  unfold mf_Mo_pulse_0_j3
  (try dsimp only)
  all_goals ((repeat' split) <;> (first | with_reducible rfl | (simp only [md0_28 hc hi, md0_29 hc hi, md0_31 hc hi, md0_32 hc hi, md0_33 hc hi, md0_34 hc hi, md0_35 hc hi, md0_36 hc hi, md0_37 hc hi, md0_38 hc hi, md0_39 hc hi, md0_43_0 hc hi, md0_43_1 hc hi, md0_43_2 hc hi, md0_47_0 hc hi, md0_48_0 hc hi, md0_47_1 hc hi, md0_48_1 hc hi, md0_47_2 hc hi, md0_48_2 hc hi, md0_47_3 hc hi, md0_48_3 hc hi, md0_46_0 hc hi, md0_46_1 hc hi, md0_46_2 hc hi, md0_46_3 hc hi, md0_46_4 hc hi, md0_46_5 hc hi, md0_0 hc hi, md0_9 hc hi, md0_44 hc hi, md0_send hc hi, md0_rp0 hc hi, md0_rp1 hc hi, md0_rp2 hc hi, md0_Mo_pulse_0_j4 hc hi, md0_Mo_pulse_0_j127 hc hi]; done)))
theorem md0_Mo_pulse_0_j2 {c i k : Nat} (hc : c ≠ 0 ∧ c ≠ 4 ∧ c ≠ 5 ∧ c ≠ 6 ∧ c ≠ 7 ∧ c ≠ 8 ∧ c ≠ 9 ∧ c ≠ 44) (hi : ¬ ((28 ≤ c ∧ c ≤ 39 ∧ k = 0) ∨ (c = 43 ∧ 0 ≤ k ∧ k < 3) ∨ (c = 46 ∧ 0 ≤ k ∧ k < 6) ∨ ((c = 47 ∨ c = 48) ∧ 0 ≤ k ∧ k < 4))) : ∀ (v : fw_V) (x4 : Int32), mf_Mo_pulse_0_j2 v x4 c i k = v c i k := by
  intro v x4
  unfold mf_Mo_pulse_0_j2
  (try dsimp only)
  all_goals ((repeat' split) <;> (first | with_reducible rfl | (simp only [md0_28 hc hi, md0_29 hc hi, md0_31 hc hi, md0_32 hc hi, md0_33 hc hi, md0_34 hc hi, md0_35 hc hi, md0_36 hc hi, md0_37 hc hi, md0_38 hc hi, md0_39 hc hi, md0_43_0 hc hi, md0_43_1 hc hi, md0_43_2 hc hi, md0_47_0 hc hi, md0_48_0 hc hi, md0_47_1 hc hi, md0_48_1 hc hi, md0_47_2 hc hi, md0_48_2 hc hi, md0_47_3 hc hi, md0_48_3 hc hi, md0_46_0 hc hi, md0_46_1 hc hi, md0_46_2 hc hi, md0_46_3 hc hi, md0_46_4 hc hi, md0_46_5 hc hi, md0_0 hc hi, md0_9 hc hi, md0_44 hc hi, md0_send hc hi, md0_rp0 hc hi, md0_rp1 hc hi, md0_rp2 hc hi, md0_Mo_pulse_0_j3 hc hi]; done)))
theorem md0_Mo_pulse_0_j134 {c i k : Nat} (hc : c ≠ 0 ∧ c ≠ 4 ∧ c ≠ 5 ∧ c ≠ 6 ∧ c ≠ 7 ∧ c ≠ 8 ∧ c ≠ 9 ∧ c ≠ 44) (hi : ¬ ((28 ≤ c ∧ c ≤ 39 ∧ k = 0) ∨ (c = 43 ∧ 0 ≤ k ∧ k < 3) ∨ (c = 46 ∧ 0 ≤ k ∧ k < 6) ∨ ((c = 47 ∨ c = 48) ∧ 0 ≤ k ∧ k < 4))) : ∀ (v : fw_V) (x4 : Int32) (x90 : Int32), mf_Mo_pulse_0_j134 v x4 x90 c i k = v c i k := by
  intro v x4 x90
  unfold mf_Mo_pulse_0_j134
  (try dsimp only)
  all_goals ((repeat' split) <;> (first | with_reducible rfl | (simp only [md0_28 hc hi, md0_29 hc hi, md0_31 hc hi, md0_32 hc hi, md0_33 hc hi, md0_34 hc hi, md0_35 hc hi, md0_36 hc hi, md0_37 hc hi, md0_38 hc hi, md0_39 hc hi, md0_43_0 hc hi, md0_43_1 hc hi, md0_43_2 hc hi, md0_47_0 hc hi, md0_48_0 hc hi, md0_47_1 hc hi, md0_48_1 hc hi, md0_47_2 hc hi, md0_48_2 hc hi, md0_47_3 hc hi, md0_48_3 hc hi, md0_46_0 hc hi, md0_46_1 hc hi, md0_46_2 hc hi, md0_46_3 hc hi, md0_46_4 hc hi, md0_46_5 hc hi, md0_0 hc hi, md0_9 hc hi, md0_44 hc hi, md0_send hc hi, md0_rp0 hc hi, md0_rp1 hc hi, md0_rp2 hc hi, md0_Mo_pulse_0_j4 hc hi, md0_Mo_pulse_0_j127 hc hi]; done)))
theorem md0_Mo_pulse_0_j1 {c i k : Nat} (hc : c ≠ 0 ∧ c ≠ 4 ∧ c ≠ 5 ∧ c ≠ 6 ∧ c ≠ 7 ∧ c ≠ 8 ∧ c ≠ 9 ∧ c ≠ 44) (hi : ¬ ((28 ≤ c ∧ c ≤ 39 ∧ k = 0) ∨ (c = 43 ∧ 0 ≤ k ∧ k < 3) ∨ (c = 46 ∧ 0 ≤ k ∧ k < 6) ∨ ((c = 47 ∨ c = 48) ∧ 0 ≤ k ∧ k < 4))) : ∀ (v : fw_V), mf_Mo_pulse_0_j1 v c i k = v c i k := by
  intro v
  unfold mf_Mo_pulse_0_j1
  (try dsimp only)
  all_goals ((repeat' split) <;> (first | with_reducible rfl | (simp only [md0_28 hc hi, md0_29 hc hi, md0_31 hc hi, md0_32 hc hi, md0_33 hc hi, md0_34 hc hi, md0_35 hc hi, md0_36 hc hi, md0_37 hc hi, md0_38 hc hi, md0_39 hc hi, md0_43_0 hc hi, md0_43_1 hc hi, md0_43_2 hc hi, md0_47_0 hc hi, md0_48_0 hc hi, md0_47_1 hc hi, md0_48_1 hc hi, md0_47_2 hc hi, md0_48_2 hc hi, md0_47_3 hc hi, md0_48_3 hc hi, md0_46_0 hc hi, md0_46_1 hc hi, md0_46_2 hc hi, md0_46_3 hc hi, md0_46_4 hc hi, md0_46_5 hc hi, md0_0 hc hi, md0_9 hc hi, md0_44 hc hi, md0_send hc hi, md0_rp0 hc hi, md0_rp1 hc hi, md0_rp2 hc hi, md0_Mo_pulse_0_j2 hc hi, md0_Mo_pulse_0_j134 hc hi]; done)))
theorem md0_Mo_pulse_0 {c i k : Nat} (hc : c ≠ 0 ∧ c ≠ 4 ∧ c ≠ 5 ∧ c ≠ 6 ∧ c ≠ 7 ∧ c ≠ 8 ∧ c ≠ 9 ∧ c ≠ 44) (hi : ¬ ((28 ≤ c ∧ c ≤ 39 ∧ k = 0) ∨ (c = 43 ∧ 0 ≤ k ∧ k < 3) ∨ (c = 46 ∧ 0 ≤ k ∧ k < 6) ∨ ((c = 47 ∨ c = 48) ∧ 0 ≤ k ∧ k < 4))) : ∀ (v0 : fw_V), mf_Mo_pulse_0 v0 c i k = v0 c i k := by
  intro v0
  unfold mf_Mo_pulse_0
  (try dsimp only)
  all_goals ((repeat' split) <;> (first | with_reducible rfl | (simp only [md0_28 hc hi, md0_29 hc hi, md0_31 hc hi, md0_32 hc hi, md0_33 hc hi, md0_34 hc hi, md0_35 hc hi, md0_36 hc hi, md0_37 hc hi, md0_38 hc hi, md0_39 hc hi, md0_43_0 hc hi, md0_43_1 hc hi, md0_43_2 hc hi, md0_47_0 hc hi, md0_48_0 hc hi, md0_47_1 hc hi, md0_48_1 hc hi, md0_47_2 hc hi, md0_48_2 hc hi, md0_47_3 hc hi, md0_48_3 hc hi, md0_46_0 hc hi, md0_46_1 hc hi, md0_46_2 hc hi, md0_46_3 hc hi, md0_46_4 hc hi, md0_46_5 hc hi, md0_0 hc hi, md0_9 hc hi, md0_44 hc hi, md0_send hc hi, md0_rp0 hc hi, md0_rp1 hc hi, md0_rp2 hc hi, md0_Mo_rest_0 hc hi, md0_Mo_quit_0 hc hi, md0_Mo_reply_0 hc hi, md0_Mo_alarm_0 hc hi, md0_Mo_pulse_0_j1 hc hi]; done)))
theorem md1_28 {c i k : Nat} (hc : c ≠ 0 ∧ c ≠ 4 ∧ c ≠ 5 ∧ c ≠ 6 ∧ c ≠ 7 ∧ c ≠ 8 ∧ c ≠ 9 ∧ c ≠ 44) (hi : ¬ ((28 ≤ c ∧ c ≤ 39 ∧ k = 1) ∨ (c = 43 ∧ 3 ≤ k ∧ k < 6) ∨ (c = 46 ∧ 6 ≤ k ∧ k < 12) ∨ ((c = 47 ∨ c = 48) ∧ 4 ≤ k ∧ k < 8))) (v : fw_V) (x : Int32) : fw_up v 28 0 1 x c i k = v c i k := fw_up_ne (fun q => hi (by omega))
theorem md1_29 {c i k : Nat} (hc : c ≠ 0 ∧ c ≠ 4 ∧ c ≠ 5 ∧ c ≠ 6 ∧ c ≠ 7 ∧ c ≠ 8 ∧ c ≠ 9 ∧ c ≠ 44) (hi : ¬ ((28 ≤ c ∧ c ≤ 39 ∧ k = 1) ∨ (c = 43 ∧ 3 ≤ k ∧ k < 6) ∨ (c = 46 ∧ 6 ≤ k ∧ k < 12) ∨ ((c = 47 ∨ c = 48) ∧ 4 ≤ k ∧ k < 8))) (v : fw_V) (x : Int32) : fw_up v 29 0 1 x c i k = v c i k := fw_up_ne (fun q => hi (by omega))
theorem md1_31 {c i k : Nat} (hc : c ≠ 0 ∧ c ≠ 4 ∧ c ≠ 5 ∧ c ≠ 6 ∧ c ≠ 7 ∧ c ≠ 8 ∧ c ≠ 9 ∧ c ≠ 44) (hi : ¬ ((28 ≤ c ∧ c ≤ 39 ∧ k = 1) ∨ (c = 43 ∧ 3 ≤ k ∧ k < 6) ∨ (c = 46 ∧ 6 ≤ k ∧ k < 12) ∨ ((c = 47 ∨ c = 48) ∧ 4 ≤ k ∧ k < 8))) (v : fw_V) (x : Int32) : fw_up v 31 0 1 x c i k = v c i k := fw_up_ne (fun q => hi (by omega))
theorem md1_32 {c i k : Nat} (hc : c ≠ 0 ∧ c ≠ 4 ∧ c ≠ 5 ∧ c ≠ 6 ∧ c ≠ 7 ∧ c ≠ 8 ∧ c ≠ 9 ∧ c ≠ 44) (hi : ¬ ((28 ≤ c ∧ c ≤ 39 ∧ k = 1) ∨ (c = 43 ∧ 3 ≤ k ∧ k < 6) ∨ (c = 46 ∧ 6 ≤ k ∧ k < 12) ∨ ((c = 47 ∨ c = 48) ∧ 4 ≤ k ∧ k < 8))) (v : fw_V) (x : Int32) : fw_up v 32 0 1 x c i k = v c i k := fw_up_ne (fun q => hi (by omega))
theorem md1_33 {c i k : Nat} (hc : c ≠ 0 ∧ c ≠ 4 ∧ c ≠ 5 ∧ c ≠ 6 ∧ c ≠ 7 ∧ c ≠ 8 ∧ c ≠ 9 ∧ c ≠ 44) (hi : ¬ ((28 ≤ c ∧ c ≤ 39 ∧ k = 1) ∨ (c = 43 ∧ 3 ≤ k ∧ k < 6) ∨ (c = 46 ∧ 6 ≤ k ∧ k < 12) ∨ ((c = 47 ∨ c = 48) ∧ 4 ≤ k ∧ k < 8))) (v : fw_V) (x : Int32) : fw_up v 33 0 1 x c i k = v c i k := fw_up_ne (fun q => hi (by omega))
theorem md1_34 {c i k : Nat} (hc : c ≠ 0 ∧ c ≠ 4 ∧ c ≠ 5 ∧ c ≠ 6 ∧ c ≠ 7 ∧ c ≠ 8 ∧ c ≠ 9 ∧ c ≠ 44) (hi : ¬ ((28 ≤ c ∧ c ≤ 39 ∧ k = 1) ∨ (c = 43 ∧ 3 ≤ k ∧ k < 6) ∨ (c = 46 ∧ 6 ≤ k ∧ k < 12) ∨ ((c = 47 ∨ c = 48) ∧ 4 ≤ k ∧ k < 8))) (v : fw_V) (x : Int32) : fw_up v 34 0 1 x c i k = v c i k := fw_up_ne (fun q => hi (by omega))
theorem md1_35 {c i k : Nat} (hc : c ≠ 0 ∧ c ≠ 4 ∧ c ≠ 5 ∧ c ≠ 6 ∧ c ≠ 7 ∧ c ≠ 8 ∧ c ≠ 9 ∧ c ≠ 44) (hi : ¬ ((28 ≤ c ∧ c ≤ 39 ∧ k = 1) ∨ (c = 43 ∧ 3 ≤ k ∧ k < 6) ∨ (c = 46 ∧ 6 ≤ k ∧ k < 12) ∨ ((c = 47 ∨ c = 48) ∧ 4 ≤ k ∧ k < 8))) (v : fw_V) (x : Int32) : fw_up v 35 0 1 x c i k = v c i k := fw_up_ne (fun q => hi (by omega))
theorem md1_36 {c i k : Nat} (hc : c ≠ 0 ∧ c ≠ 4 ∧ c ≠ 5 ∧ c ≠ 6 ∧ c ≠ 7 ∧ c ≠ 8 ∧ c ≠ 9 ∧ c ≠ 44) (hi : ¬ ((28 ≤ c ∧ c ≤ 39 ∧ k = 1) ∨ (c = 43 ∧ 3 ≤ k ∧ k < 6) ∨ (c = 46 ∧ 6 ≤ k ∧ k < 12) ∨ ((c = 47 ∨ c = 48) ∧ 4 ≤ k ∧ k < 8))) (v : fw_V) (x : Int32) : fw_up v 36 0 1 x c i k = v c i k := fw_up_ne (fun q => hi (by omega))
theorem md1_37 {c i k : Nat} (hc : c ≠ 0 ∧ c ≠ 4 ∧ c ≠ 5 ∧ c ≠ 6 ∧ c ≠ 7 ∧ c ≠ 8 ∧ c ≠ 9 ∧ c ≠ 44) (hi : ¬ ((28 ≤ c ∧ c ≤ 39 ∧ k = 1) ∨ (c = 43 ∧ 3 ≤ k ∧ k < 6) ∨ (c = 46 ∧ 6 ≤ k ∧ k < 12) ∨ ((c = 47 ∨ c = 48) ∧ 4 ≤ k ∧ k < 8))) (v : fw_V) (x : Int32) : fw_up v 37 0 1 x c i k = v c i k := fw_up_ne (fun q => hi (by omega))
theorem md1_38 {c i k : Nat} (hc : c ≠ 0 ∧ c ≠ 4 ∧ c ≠ 5 ∧ c ≠ 6 ∧ c ≠ 7 ∧ c ≠ 8 ∧ c ≠ 9 ∧ c ≠ 44) (hi : ¬ ((28 ≤ c ∧ c ≤ 39 ∧ k = 1) ∨ (c = 43 ∧ 3 ≤ k ∧ k < 6) ∨ (c = 46 ∧ 6 ≤ k ∧ k < 12) ∨ ((c = 47 ∨ c = 48) ∧ 4 ≤ k ∧ k < 8))) (v : fw_V) (x : Int32) : fw_up v 38 0 1 x c i k = v c i k := fw_up_ne (fun q => hi (by omega))
theorem md1_39 {c i k : Nat} (hc : c ≠ 0 ∧ c ≠ 4 ∧ c ≠ 5 ∧ c ≠ 6 ∧ c ≠ 7 ∧ c ≠ 8 ∧ c ≠ 9 ∧ c ≠ 44) (hi : ¬ ((28 ≤ c ∧ c ≤ 39 ∧ k = 1) ∨ (c = 43 ∧ 3 ≤ k ∧ k < 6) ∨ (c = 46 ∧ 6 ≤ k ∧ k < 12) ∨ ((c = 47 ∨ c = 48) ∧ 4 ≤ k ∧ k < 8))) (v : fw_V) (x : Int32) : fw_up v 39 0 1 x c i k = v c i k := fw_up_ne (fun q => hi (by omega))
theorem md1_43_3 {c i k : Nat} (hc : c ≠ 0 ∧ c ≠ 4 ∧ c ≠ 5 ∧ c ≠ 6 ∧ c ≠ 7 ∧ c ≠ 8 ∧ c ≠ 9 ∧ c ≠ 44) (hi : ¬ ((28 ≤ c ∧ c ≤ 39 ∧ k = 1) ∨ (c = 43 ∧ 3 ≤ k ∧ k < 6) ∨ (c = 46 ∧ 6 ≤ k ∧ k < 12) ∨ ((c = 47 ∨ c = 48) ∧ 4 ≤ k ∧ k < 8))) (v : fw_V) (x : Int32) : fw_up v 43 0 3 x c i k = v c i k := fw_up_ne (fun q => hi (by omega))
theorem md1_43_4 {c i k : Nat} (hc : c ≠ 0 ∧ c ≠ 4 ∧ c ≠ 5 ∧ c ≠ 6 ∧ c ≠ 7 ∧ c ≠ 8 ∧ c ≠ 9 ∧ c ≠ 44) (hi : ¬ ((28 ≤ c ∧ c ≤ 39 ∧ k = 1) ∨ (c = 43 ∧ 3 ≤ k ∧ k < 6) ∨ (c = 46 ∧ 6 ≤ k ∧ k < 12) ∨ ((c = 47 ∨ c = 48) ∧ 4 ≤ k ∧ k < 8))) (v : fw_V) (x : Int32) : fw_up v 43 0 4 x c i k = v c i k := fw_up_ne (fun q => hi (by omega))
theorem md1_43_5 {c i k : Nat} (hc : c ≠ 0 ∧ c ≠ 4 ∧ c ≠ 5 ∧ c ≠ 6 ∧ c ≠ 7 ∧ c ≠ 8 ∧ c ≠ 9 ∧ c ≠ 44) (hi : ¬ ((28 ≤ c ∧ c ≤ 39 ∧ k = 1) ∨ (c = 43 ∧ 3 ≤ k ∧ k < 6) ∨ (c = 46 ∧ 6 ≤ k ∧ k < 12) ∨ ((c = 47 ∨ c = 48) ∧ 4 ≤ k ∧ k < 8))) (v : fw_V) (x : Int32) : fw_up v 43 0 5 x c i k = v c i k := fw_up_ne (fun q => hi (by omega))
theorem md1_47_4 {c i k : Nat} (hc : c ≠ 0 ∧ c ≠ 4 ∧ c ≠ 5 ∧ c ≠ 6 ∧ c ≠ 7 ∧ c ≠ 8 ∧ c ≠ 9 ∧ c ≠ 44) (hi : ¬ ((28 ≤ c ∧ c ≤ 39 ∧ k = 1) ∨ (c = 43 ∧ 3 ≤ k ∧ k < 6) ∨ (c = 46 ∧ 6 ≤ k ∧ k < 12) ∨ ((c = 47 ∨ c = 48) ∧ 4 ≤ k ∧ k < 8))) (v : fw_V) (x : Int32) : fw_up v 47 0 4 x c i k = v c i k := fw_up_ne (fun q => hi (by omega))
theorem md1_48_4 {c i k : Nat} (hc : c ≠ 0 ∧ c ≠ 4 ∧ c ≠ 5 ∧ c ≠ 6 ∧ c ≠ 7 ∧ c ≠ 8 ∧ c ≠ 9 ∧ c ≠ 44) (hi : ¬ ((28 ≤ c ∧ c ≤ 39 ∧ k = 1) ∨ (c = 43 ∧ 3 ≤ k ∧ k < 6) ∨ (c = 46 ∧ 6 ≤ k ∧ k < 12) ∨ ((c = 47 ∨ c = 48) ∧ 4 ≤ k ∧ k < 8))) (v : fw_V) (x : Int32) : fw_up v 48 0 4 x c i k = v c i k := fw_up_ne (fun q => hi (by omega))
theorem md1_47_5 {c i k : Nat} (hc : c ≠ 0 ∧ c ≠ 4 ∧ c ≠ 5 ∧ c ≠ 6 ∧ c ≠ 7 ∧ c ≠ 8 ∧ c ≠ 9 ∧ c ≠ 44) (hi : ¬ ((28 ≤ c ∧ c ≤ 39 ∧ k = 1) ∨ (c = 43 ∧ 3 ≤ k ∧ k < 6) ∨ (c = 46 ∧ 6 ≤ k ∧ k < 12) ∨ ((c = 47 ∨ c = 48) ∧ 4 ≤ k ∧ k < 8))) (v : fw_V) (x : Int32) : fw_up v 47 0 5 x c i k = v c i k := fw_up_ne (fun q => hi (by omega))
theorem md1_48_5 {c i k : Nat} (hc : c ≠ 0 ∧ c ≠ 4 ∧ c ≠ 5 ∧ c ≠ 6 ∧ c ≠ 7 ∧ c ≠ 8 ∧ c ≠ 9 ∧ c ≠ 44) (hi : ¬ ((28 ≤ c ∧ c ≤ 39 ∧ k = 1) ∨ (c = 43 ∧ 3 ≤ k ∧ k < 6) ∨ (c = 46 ∧ 6 ≤ k ∧ k < 12) ∨ ((c = 47 ∨ c = 48) ∧ 4 ≤ k ∧ k < 8))) (v : fw_V) (x : Int32) : fw_up v 48 0 5 x c i k = v c i k := fw_up_ne (fun q => hi (by omega))
theorem md1_47_6 {c i k : Nat} (hc : c ≠ 0 ∧ c ≠ 4 ∧ c ≠ 5 ∧ c ≠ 6 ∧ c ≠ 7 ∧ c ≠ 8 ∧ c ≠ 9 ∧ c ≠ 44) (hi : ¬ ((28 ≤ c ∧ c ≤ 39 ∧ k = 1) ∨ (c = 43 ∧ 3 ≤ k ∧ k < 6) ∨ (c = 46 ∧ 6 ≤ k ∧ k < 12) ∨ ((c = 47 ∨ c = 48) ∧ 4 ≤ k ∧ k < 8))) (v : fw_V) (x : Int32) : fw_up v 47 0 6 x c i k = v c i k := fw_up_ne (fun q => hi (by omega))
theorem md1_48_6 {c i k : Nat} (hc : c ≠ 0 ∧ c ≠ 4 ∧ c ≠ 5 ∧ c ≠ 6 ∧ c ≠ 7 ∧ c ≠ 8 ∧ c ≠ 9 ∧ c ≠ 44) (hi : ¬ ((28 ≤ c ∧ c ≤ 39 ∧ k = 1) ∨ (c = 43 ∧ 3 ≤ k ∧ k < 6) ∨ (c = 46 ∧ 6 ≤ k ∧ k < 12) ∨ ((c = 47 ∨ c = 48) ∧ 4 ≤ k ∧ k < 8))) (v : fw_V) (x : Int32) : fw_up v 48 0 6 x c i k = v c i k := fw_up_ne (fun q => hi (by omega))
theorem md1_47_7 {c i k : Nat} (hc : c ≠ 0 ∧ c ≠ 4 ∧ c ≠ 5 ∧ c ≠ 6 ∧ c ≠ 7 ∧ c ≠ 8 ∧ c ≠ 9 ∧ c ≠ 44) (hi : ¬ ((28 ≤ c ∧ c ≤ 39 ∧ k = 1) ∨ (c = 43 ∧ 3 ≤ k ∧ k < 6) ∨ (c = 46 ∧ 6 ≤ k ∧ k < 12) ∨ ((c = 47 ∨ c = 48) ∧ 4 ≤ k ∧ k < 8))) (v : fw_V) (x : Int32) : fw_up v 47 0 7 x c i k = v c i k := fw_up_ne (fun q => hi (by omega))
theorem md1_48_7 {c i k : Nat} (hc : c ≠ 0 ∧ c ≠ 4 ∧ c ≠ 5 ∧ c ≠ 6 ∧ c ≠ 7 ∧ c ≠ 8 ∧ c ≠ 9 ∧ c ≠ 44) (hi : ¬ ((28 ≤ c ∧ c ≤ 39 ∧ k = 1) ∨ (c = 43 ∧ 3 ≤ k ∧ k < 6) ∨ (c = 46 ∧ 6 ≤ k ∧ k < 12) ∨ ((c = 47 ∨ c = 48) ∧ 4 ≤ k ∧ k < 8))) (v : fw_V) (x : Int32) : fw_up v 48 0 7 x c i k = v c i k := fw_up_ne (fun q => hi (by omega))
theorem md1_46_6 {c i k : Nat} (hc : c ≠ 0 ∧ c ≠ 4 ∧ c ≠ 5 ∧ c ≠ 6 ∧ c ≠ 7 ∧ c ≠ 8 ∧ c ≠ 9 ∧ c ≠ 44) (hi : ¬ ((28 ≤ c ∧ c ≤ 39 ∧ k = 1) ∨ (c = 43 ∧ 3 ≤ k ∧ k < 6) ∨ (c = 46 ∧ 6 ≤ k ∧ k < 12) ∨ ((c = 47 ∨ c = 48) ∧ 4 ≤ k ∧ k < 8))) (v : fw_V) (x : Int32) : fw_up v 46 0 6 x c i k = v c i k := fw_up_ne (fun q => hi (by omega))
theorem md1_46_7 {c i k : Nat} (hc : c ≠ 0 ∧ c ≠ 4 ∧ c ≠ 5 ∧ c ≠ 6 ∧ c ≠ 7 ∧ c ≠ 8 ∧ c ≠ 9 ∧ c ≠ 44) (hi : ¬ ((28 ≤ c ∧ c ≤ 39 ∧ k = 1) ∨ (c = 43 ∧ 3 ≤ k ∧ k < 6) ∨ (c = 46 ∧ 6 ≤ k ∧ k < 12) ∨ ((c = 47 ∨ c = 48) ∧ 4 ≤ k ∧ k < 8))) (v : fw_V) (x : Int32) : fw_up v 46 0 7 x c i k = v c i k := fw_up_ne (fun q => hi (by omega))
theorem md1_46_8 {c i k : Nat} (hc : c ≠ 0 ∧ c ≠ 4 ∧ c ≠ 5 ∧ c ≠ 6 ∧ c ≠ 7 ∧ c ≠ 8 ∧ c ≠ 9 ∧ c ≠ 44) (hi : ¬ ((28 ≤ c ∧ c ≤ 39 ∧ k = 1) ∨ (c = 43 ∧ 3 ≤ k ∧ k < 6) ∨ (c = 46 ∧ 6 ≤ k ∧ k < 12) ∨ ((c = 47 ∨ c = 48) ∧ 4 ≤ k ∧ k < 8))) (v : fw_V) (x : Int32) : fw_up v 46 0 8 x c i k = v c i k := fw_up_ne (fun q => hi (by omega))
theorem md1_46_9 {c i k : Nat} (hc : c ≠ 0 ∧ c ≠ 4 ∧ c ≠ 5 ∧ c ≠ 6 ∧ c ≠ 7 ∧ c ≠ 8 ∧ c ≠ 9 ∧ c ≠ 44) (hi : ¬ ((28 ≤ c ∧ c ≤ 39 ∧ k = 1) ∨ (c = 43 ∧ 3 ≤ k ∧ k < 6) ∨ (c = 46 ∧ 6 ≤ k ∧ k < 12) ∨ ((c = 47 ∨ c = 48) ∧ 4 ≤ k ∧ k < 8))) (v : fw_V) (x : Int32) : fw_up v 46 0 9 x c i k = v c i k := fw_up_ne (fun q => hi (by omega))
theorem md1_46_10 {c i k : Nat} (hc : c ≠ 0 ∧ c ≠ 4 ∧ c ≠ 5 ∧ c ≠ 6 ∧ c ≠ 7 ∧ c ≠ 8 ∧ c ≠ 9 ∧ c ≠ 44) (hi : ¬ ((28 ≤ c ∧ c ≤ 39 ∧ k = 1) ∨ (c = 43 ∧ 3 ≤ k ∧ k < 6) ∨ (c = 46 ∧ 6 ≤ k ∧ k < 12) ∨ ((c = 47 ∨ c = 48) ∧ 4 ≤ k ∧ k < 8))) (v : fw_V) (x : Int32) : fw_up v 46 0 10 x c i k = v c i k := fw_up_ne (fun q => hi (by omega))
theorem md1_46_11 {c i k : Nat} (hc : c ≠ 0 ∧ c ≠ 4 ∧ c ≠ 5 ∧ c ≠ 6 ∧ c ≠ 7 ∧ c ≠ 8 ∧ c ≠ 9 ∧ c ≠ 44) (hi : ¬ ((28 ≤ c ∧ c ≤ 39 ∧ k = 1) ∨ (c = 43 ∧ 3 ≤ k ∧ k < 6) ∨ (c = 46 ∧ 6 ≤ k ∧ k < 12) ∨ ((c = 47 ∨ c = 48) ∧ 4 ≤ k ∧ k < 8))) (v : fw_V) (x : Int32) : fw_up v 46 0 11 x c i k = v c i k := fw_up_ne (fun q => hi (by omega))
theorem md1_0 {c i k : Nat} (hc : c ≠ 0 ∧ c ≠ 4 ∧ c ≠ 5 ∧ c ≠ 6 ∧ c ≠ 7 ∧ c ≠ 8 ∧ c ≠ 9 ∧ c ≠ 44) (hi : ¬ ((28 ≤ c ∧ c ≤ 39 ∧ k = 1) ∨ (c = 43 ∧ 3 ≤ k ∧ k < 6) ∨ (c = 46 ∧ 6 ≤ k ∧ k < 12) ∨ ((c = 47 ∨ c = 48) ∧ 4 ≤ k ∧ k < 8))) (v : fw_V) (y k0 : Nat) (x : Int32) : fw_up v 0 y k0 x c i k = v c i k := fw_up_c hc.1
theorem md1_9 {c i k : Nat} (hc : c ≠ 0 ∧ c ≠ 4 ∧ c ≠ 5 ∧ c ≠ 6 ∧ c ≠ 7 ∧ c ≠ 8 ∧ c ≠ 9 ∧ c ≠ 44) (hi : ¬ ((28 ≤ c ∧ c ≤ 39 ∧ k = 1) ∨ (c = 43 ∧ 3 ≤ k ∧ k < 6) ∨ (c = 46 ∧ 6 ≤ k ∧ k < 12) ∨ ((c = 47 ∨ c = 48) ∧ 4 ≤ k ∧ k < 8))) (v : fw_V) (y k0 : Nat) (x : Int32) : fw_up v 9 y k0 x c i k = v c i k := fw_up_c hc.2.2.2.2.2.2.1
theorem md1_44 {c i k : Nat} (hc : c ≠ 0 ∧ c ≠ 4 ∧ c ≠ 5 ∧ c ≠ 6 ∧ c ≠ 7 ∧ c ≠ 8 ∧ c ≠ 9 ∧ c ≠ 44) (hi : ¬ ((28 ≤ c ∧ c ≤ 39 ∧ k = 1) ∨ (c = 43 ∧ 3 ≤ k ∧ k < 6) ∨ (c = 46 ∧ 6 ≤ k ∧ k < 12) ∨ ((c = 47 ∨ c = 48) ∧ 4 ≤ k ∧ k < 8))) (v : fw_V) (y k0 : Nat) (x : Int32) : fw_up v 44 y k0 x c i k = v c i k := fw_up_c hc.2.2.2.2.2.2.2
theorem md1_send {c i k : Nat} (hc : c ≠ 0 ∧ c ≠ 4 ∧ c ≠ 5 ∧ c ≠ 6 ∧ c ≠ 7 ∧ c ≠ 8 ∧ c ≠ 9 ∧ c ≠ 44) (hi : ¬ ((28 ≤ c ∧ c ≤ 39 ∧ k = 1) ∨ (c = 43 ∧ 3 ≤ k ∧ k < 6) ∨ (c = 46 ∧ 6 ≤ k ∧ k < 12) ∨ ((c = 47 ∨ c = 48) ∧ 4 ≤ k ∧ k < 8))) (v : fw_V) (a b c' d : Int32) : mf_Mo_send v a b c' d c i k = v c i k := msend_c hc.1 hc.2.1 hc.2.2.1 hc.2.2.2.1 hc.2.2.2.2.1 hc.2.2.2.2.2.1 hc.2.2.2.2.2.2.1
theorem md1_rp0 {c i k : Nat} (hc : c ≠ 0 ∧ c ≠ 4 ∧ c ≠ 5 ∧ c ≠ 6 ∧ c ≠ 7 ∧ c ≠ 8 ∧ c ≠ 9 ∧ c ≠ 44) (hi : ¬ ((28 ≤ c ∧ c ≤ 39 ∧ k = 1) ∨ (c = 43 ∧ 3 ≤ k ∧ k < 6) ∨ (c = 46 ∧ 6 ≤ k ∧ k < 12) ∨ ((c = 47 ∨ c = 48) ∧ 4 ≤ k ∧ k < 8))) (v : fw_V) : mf_Mo_replace_1 v (0 : Int32) c i k = v c i k := rp_o_1 (s := 0) (by decide) (fun q => hi (by omega))
theorem md1_rp1 {c i k : Nat} (hc : c ≠ 0 ∧ c ≠ 4 ∧ c ≠ 5 ∧ c ≠ 6 ∧ c ≠ 7 ∧ c ≠ 8 ∧ c ≠ 9 ∧ c ≠ 44) (hi : ¬ ((28 ≤ c ∧ c ≤ 39 ∧ k = 1) ∨ (c = 43 ∧ 3 ≤ k ∧ k < 6) ∨ (c = 46 ∧ 6 ≤ k ∧ k < 12) ∨ ((c = 47 ∨ c = 48) ∧ 4 ≤ k ∧ k < 8))) (v : fw_V) : mf_Mo_replace_1 v (1 : Int32) c i k = v c i k := rp_o_1 (s := 1) (by decide) (fun q => hi (by omega))
theorem md1_rp2 {c i k : Nat} (hc : c ≠ 0 ∧ c ≠ 4 ∧ c ≠ 5 ∧ c ≠ 6 ∧ c ≠ 7 ∧ c ≠ 8 ∧ c ≠ 9 ∧ c ≠ 44) (hi : ¬ ((28 ≤ c ∧ c ≤ 39 ∧ k = 1) ∨ (c = 43 ∧ 3 ≤ k ∧ k < 6) ∨ (c = 46 ∧ 6 ≤ k ∧ k < 12) ∨ ((c = 47 ∨ c = 48) ∧ 4 ≤ k ∧ k < 8))) (v : fw_V) : mf_Mo_replace_1 v (2 : Int32) c i k = v c i k := rp_o_1 (s := 2) (by decide) (fun q => hi (by omega))
theorem md1_Mo_mark_1_j2 {c i k : Nat} (hc : c ≠ 0 ∧ c ≠ 4 ∧ c ≠ 5 ∧ c ≠ 6 ∧ c ≠ 7 ∧ c ≠ 8 ∧ c ≠ 9 ∧ c ≠ 44) (hi : ¬ ((28 ≤ c ∧ c ≤ 39 ∧ k = 1) ∨ (c = 43 ∧ 3 ≤ k ∧ k < 6) ∨ (c = 46 ∧ 6 ≤ k ∧ k < 12) ∨ ((c = 47 ∨ c = 48) ∧ 4 ≤ k ∧ k < 8))) : ∀ (v0 : fw_V) (a2 : Int32), mf_Mo_mark_1_j2 v0 a2 c i k = v0 c i k := by
  intro v0 a2
  unfold mf_Mo_mark_1_j2
  (try dsimp only)
  all_goals ((repeat' split) <;> (first | with_reducible rfl | (simp only [md1_28 hc hi, md1_29 hc hi, md1_31 hc hi, md1_32 hc hi, md1_33 hc hi, md1_34 hc hi, md1_35 hc hi, md1_36 hc hi, md1_37 hc hi, md1_38 hc hi, md1_39 hc hi, md1_43_3 hc hi, md1_43_4 hc hi, md1_43_5 hc hi, md1_47_4 hc hi, md1_48_4 hc hi, md1_47_5 hc hi, md1_48_5 hc hi, md1_47_6 hc hi, md1_48_6 hc hi, md1_47_7 hc hi, md1_48_7 hc hi, md1_46_6 hc hi, md1_46_7 hc hi, md1_46_8 hc hi, md1_46_9 hc hi, md1_46_10 hc hi, md1_46_11 hc hi, md1_0 hc hi, md1_9 hc hi, md1_44 hc hi, md1_send hc hi, md1_rp0 hc hi, md1_rp1 hc hi, md1_rp2 hc hi]; done)))
theorem md1_Mo_mark_1_j1 {c i k : Nat} (hc : c ≠ 0 ∧ c ≠ 4 ∧ c ≠ 5 ∧ c ≠ 6 ∧ c ≠ 7 ∧ c ≠ 8 ∧ c ≠ 9 ∧ c ≠ 44) (hi : ¬ ((28 ≤ c ∧ c ≤ 39 ∧ k = 1) ∨ (c = 43 ∧ 3 ≤ k ∧ k < 6) ∨ (c = 46 ∧ 6 ≤ k ∧ k < 12) ∨ ((c = 47 ∨ c = 48) ∧ 4 ≤ k ∧ k < 8))) : ∀ (v0 : fw_V) (a2 : Int32), mf_Mo_mark_1_j1 v0 a2 c i k = v0 c i k := by
  intro v0 a2
  unfold mf_Mo_mark_1_j1
  (try dsimp only)
  all_goals ((repeat' split) <;> (first | with_reducible rfl | (simp only [md1_28 hc hi, md1_29 hc hi, md1_31 hc hi, md1_32 hc hi, md1_33 hc hi, md1_34 hc hi, md1_35 hc hi, md1_36 hc hi, md1_37 hc hi, md1_38 hc hi, md1_39 hc hi, md1_43_3 hc hi, md1_43_4 hc hi, md1_43_5 hc hi, md1_47_4 hc hi, md1_48_4 hc hi, md1_47_5 hc hi, md1_48_5 hc hi, md1_47_6 hc hi, md1_48_6 hc hi, md1_47_7 hc hi, md1_48_7 hc hi, md1_46_6 hc hi, md1_46_7 hc hi, md1_46_8 hc hi, md1_46_9 hc hi, md1_46_10 hc hi, md1_46_11 hc hi, md1_0 hc hi, md1_9 hc hi, md1_44 hc hi, md1_send hc hi, md1_rp0 hc hi, md1_rp1 hc hi, md1_rp2 hc hi, md1_Mo_mark_1_j2 hc hi]; done)))
theorem md1_Mo_mark_1_j3 {c i k : Nat} (hc : c ≠ 0 ∧ c ≠ 4 ∧ c ≠ 5 ∧ c ≠ 6 ∧ c ≠ 7 ∧ c ≠ 8 ∧ c ≠ 9 ∧ c ≠ 44) (hi : ¬ ((28 ≤ c ∧ c ≤ 39 ∧ k = 1) ∨ (c = 43 ∧ 3 ≤ k ∧ k < 6) ∨ (c = 46 ∧ 6 ≤ k ∧ k < 12) ∨ ((c = 47 ∨ c = 48) ∧ 4 ≤ k ∧ k < 8))) : ∀ (v0 : fw_V) (a2 : Int32), mf_Mo_mark_1_j3 v0 a2 c i k = v0 c i k := by
  intro v0 a2
  unfold mf_Mo_mark_1_j3
  (try dsimp only)
  all_goals ((repeat' split) <;> (first | with_reducible rfl | (simp only [md1_28 hc hi, md1_29 hc hi, md1_31 hc hi, md1_32 hc hi, md1_33 hc hi, md1_34 hc hi, md1_35 hc hi, md1_36 hc hi, md1_37 hc hi, md1_38 hc hi, md1_39 hc hi, md1_43_3 hc hi, md1_43_4 hc hi, md1_43_5 hc hi, md1_47_4 hc hi, md1_48_4 hc hi, md1_47_5 hc hi, md1_48_5 hc hi, md1_47_6 hc hi, md1_48_6 hc hi, md1_47_7 hc hi, md1_48_7 hc hi, md1_46_6 hc hi, md1_46_7 hc hi, md1_46_8 hc hi, md1_46_9 hc hi, md1_46_10 hc hi, md1_46_11 hc hi, md1_0 hc hi, md1_9 hc hi, md1_44 hc hi, md1_send hc hi, md1_rp0 hc hi, md1_rp1 hc hi, md1_rp2 hc hi]; done)))
theorem md1_Mo_mark_1 {c i k : Nat} (hc : c ≠ 0 ∧ c ≠ 4 ∧ c ≠ 5 ∧ c ≠ 6 ∧ c ≠ 7 ∧ c ≠ 8 ∧ c ≠ 9 ∧ c ≠ 44) (hi : ¬ ((28 ≤ c ∧ c ≤ 39 ∧ k = 1) ∨ (c = 43 ∧ 3 ≤ k ∧ k < 6) ∨ (c = 46 ∧ 6 ≤ k ∧ k < 12) ∨ ((c = 47 ∨ c = 48) ∧ 4 ≤ k ∧ k < 8))) : ∀ (v0 : fw_V) (a2 : Int32), mf_Mo_mark_1 v0 a2 c i k = v0 c i k := by
  intro v0 a2
  unfold mf_Mo_mark_1
  (try dsimp only)
  all_goals ((repeat' split) <;> (first | with_reducible rfl | (simp only [md1_28 hc hi, md1_29 hc hi, md1_31 hc hi, md1_32 hc hi, md1_33 hc hi, md1_34 hc hi, md1_35 hc hi, md1_36 hc hi, md1_37 hc hi, md1_38 hc hi, md1_39 hc hi, md1_43_3 hc hi, md1_43_4 hc hi, md1_43_5 hc hi, md1_47_4 hc hi, md1_48_4 hc hi, md1_47_5 hc hi, md1_48_5 hc hi, md1_47_6 hc hi, md1_48_6 hc hi, md1_47_7 hc hi, md1_48_7 hc hi, md1_46_6 hc hi, md1_46_7 hc hi, md1_46_8 hc hi, md1_46_9 hc hi, md1_46_10 hc hi, md1_46_11 hc hi, md1_0 hc hi, md1_9 hc hi, md1_44 hc hi, md1_send hc hi, md1_rp0 hc hi, md1_rp1 hc hi, md1_rp2 hc hi, md1_Mo_mark_1_j1 hc hi, md1_Mo_mark_1_j3 hc hi]; done)))
theorem md1_Mo_reply_1 {c i k : Nat} (hc : c ≠ 0 ∧ c ≠ 4 ∧ c ≠ 5 ∧ c ≠ 6 ∧ c ≠ 7 ∧ c ≠ 8 ∧ c ≠ 9 ∧ c ≠ 44) (hi : ¬ ((28 ≤ c ∧ c ≤ 39 ∧ k = 1) ∨ (c = 43 ∧ 3 ≤ k ∧ k < 6) ∨ (c = 46 ∧ 6 ≤ k ∧ k < 12) ∨ ((c = 47 ∨ c = 48) ∧ 4 ≤ k ∧ k < 8))) : ∀ (v0 : fw_V) (a2 : Int32) (a3 : Int32), mf_Mo_reply_1 v0 a2 a3 c i k = v0 c i k := by
  intro v0 a2 a3
  unfold mf_Mo_reply_1
  (try dsimp only)
  all_goals ((repeat' split) <;> (first | with_reducible rfl | (simp only [md1_28 hc hi, md1_29 hc hi, md1_31 hc hi, md1_32 hc hi, md1_33 hc hi, md1_34 hc hi, md1_35 hc hi, md1_36 hc hi, md1_37 hc hi, md1_38 hc hi, md1_39 hc hi, md1_43_3 hc hi, md1_43_4 hc hi, md1_43_5 hc hi, md1_47_4 hc hi, md1_48_4 hc hi, md1_47_5 hc hi, md1_48_5 hc hi, md1_47_6 hc hi, md1_48_6 hc hi, md1_47_7 hc hi, md1_48_7 hc hi, md1_46_6 hc hi, md1_46_7 hc hi, md1_46_8 hc hi, md1_46_9 hc hi, md1_46_10 hc hi, md1_46_11 hc hi, md1_0 hc hi, md1_9 hc hi, md1_44 hc hi, md1_send hc hi, md1_rp0 hc hi, md1_rp1 hc hi, md1_rp2 hc hi, md1_send hc hi]; done)))
theorem md1_Mo_connect_1_j1 {c i k : Nat} (hc : c ≠ 0 ∧ c ≠ 4 ∧ c ≠ 5 ∧ c ≠ 6 ∧ c ≠ 7 ∧ c ≠ 8 ∧ c ≠ 9 ∧ c ≠ 44) (hi : ¬ ((28 ≤ c ∧ c ≤ 39 ∧ k = 1) ∨ (c = 43 ∧ 3 ≤ k ∧ k < 6) ∨ (c = 46 ∧ 6 ≤ k ∧ k < 12) ∨ ((c = 47 ∨ c = 48) ∧ 4 ≤ k ∧ k < 8))) : ∀ (v0 : fw_V) (a2 : Int32), mf_Mo_connect_1_j1 v0 a2 c i k = v0 c i k := by
  intro v0 a2
  unfold mf_Mo_connect_1_j1
  (try dsimp only)
  all_goals ((repeat' split) <;> (first | with_reducible rfl | (simp only [md1_28 hc hi, md1_29 hc hi, md1_31 hc hi, md1_32 hc hi, md1_33 hc hi, md1_34 hc hi, md1_35 hc hi, md1_36 hc hi, md1_37 hc hi, md1_38 hc hi, md1_39 hc hi, md1_43_3 hc hi, md1_43_4 hc hi, md1_43_5 hc hi, md1_47_4 hc hi, md1_48_4 hc hi, md1_47_5 hc hi, md1_48_5 hc hi, md1_47_6 hc hi, md1_48_6 hc hi, md1_47_7 hc hi, md1_48_7 hc hi, md1_46_6 hc hi, md1_46_7 hc hi, md1_46_8 hc hi, md1_46_9 hc hi, md1_46_10 hc hi, md1_46_11 hc hi, md1_0 hc hi, md1_9 hc hi, md1_44 hc hi, md1_send hc hi, md1_rp0 hc hi, md1_rp1 hc hi, md1_rp2 hc hi, md1_Mo_mark_1 hc hi, md1_Mo_reply_1 hc hi]; done)))
theorem md1_Mo_connect_1 {c i k : Nat} (hc : c ≠ 0 ∧ c ≠ 4 ∧ c ≠ 5 ∧ c ≠ 6 ∧ c ≠ 7 ∧ c ≠ 8 ∧ c ≠ 9 ∧ c ≠ 44) (hi : ¬ ((28 ≤ c ∧ c ≤ 39 ∧ k = 1) ∨ (c = 43 ∧ 3 ≤ k ∧ k < 6) ∨ (c = 46 ∧ 6 ≤ k ∧ k < 12) ∨ ((c = 47 ∨ c = 48) ∧ 4 ≤ k ∧ k < 8))) : ∀ (v0 : fw_V) (a2 : Int32), mf_Mo_connect_1 v0 a2 c i k = v0 c i k := by
  intro v0 a2
  unfold mf_Mo_connect_1
  (try dsimp only)
  all_goals ((repeat' split) <;> (first | with_reducible rfl | (simp only [md1_28 hc hi, md1_29 hc hi, md1_31 hc hi, md1_32 hc hi, md1_33 hc hi, md1_34 hc hi, md1_35 hc hi, md1_36 hc hi, md1_37 hc hi, md1_38 hc hi, md1_39 hc hi, md1_43_3 hc hi, md1_43_4 hc hi, md1_43_5 hc hi, md1_47_4 hc hi, md1_48_4 hc hi, md1_47_5 hc hi, md1_48_5 hc hi, md1_47_6 hc hi, md1_48_6 hc hi, md1_47_7 hc hi, md1_48_7 hc hi, md1_46_6 hc hi, md1_46_7 hc hi, md1_46_8 hc hi, md1_46_9 hc hi, md1_46_10 hc hi, md1_46_11 hc hi, md1_0 hc hi, md1_9 hc hi, md1_44 hc hi, md1_send hc hi, md1_rp0 hc hi, md1_rp1 hc hi, md1_rp2 hc hi, md1_Mo_connect_1_j1 hc hi, md1_send hc hi]; done)))
theorem md1_Mo_obeys_1_j44 {c i k : Nat} (hc : c ≠ 0 ∧ c ≠ 4 ∧ c ≠ 5 ∧ c ≠ 6 ∧ c ≠ 7 ∧ c ≠ 8 ∧ c ≠ 9 ∧ c ≠ 44) (hi : ¬ ((28 ≤ c ∧ c ≤ 39 ∧ k = 1) ∨ (c = 43 ∧ 3 ≤ k ∧ k < 6) ∨ (c = 46 ∧ 6 ≤ k ∧ k < 12) ∨ ((c = 47 ∨ c = 48) ∧ 4 ≤ k ∧ k < 8))) : ∀ (v0 : fw_V) (a2 : Int32) (a3 : Int32), mf_Mo_obeys_1_j44 v0 a2 a3 c i k = v0 c i k := by
  intro v0 a2 a3
  unfold mf_Mo_obeys_1_j44
  (try dsimp only)
  all_goals ((repeat' split) <;> (first | with_reducible rfl | (simp only [md1_28 hc hi, md1_29 hc hi, md1_31 hc hi, md1_32 hc hi, md1_33 hc hi, md1_34 hc hi, md1_35 hc hi, md1_36 hc hi, md1_37 hc hi, md1_38 hc hi, md1_39 hc hi, md1_43_3 hc hi, md1_43_4 hc hi, md1_43_5 hc hi, md1_47_4 hc hi, md1_48_4 hc hi, md1_47_5 hc hi, md1_48_5 hc hi, md1_47_6 hc hi, md1_48_6 hc hi, md1_47_7 hc hi, md1_48_7 hc hi, md1_46_6 hc hi, md1_46_7 hc hi, md1_46_8 hc hi, md1_46_9 hc hi, md1_46_10 hc hi, md1_46_11 hc hi, md1_0 hc hi, md1_9 hc hi, md1_44 hc hi, md1_send hc hi, md1_rp0 hc hi, md1_rp1 hc hi, md1_rp2 hc hi, md1_Mo_reply_1 hc hi]; done)))
theorem md1_Mo_obeys_1_j43 {c i k : Nat} (hc : c ≠ 0 ∧ c ≠ 4 ∧ c ≠ 5 ∧ c ≠ 6 ∧ c ≠ 7 ∧ c ≠ 8 ∧ c ≠ 9 ∧ c ≠ 44) (hi : ¬ ((28 ≤ c ∧ c ≤ 39 ∧ k = 1) ∨ (c = 43 ∧ 3 ≤ k ∧ k < 6) ∨ (c = 46 ∧ 6 ≤ k ∧ k < 12) ∨ ((c = 47 ∨ c = 48) ∧ 4 ≤ k ∧ k < 8))) : ∀ (v0 : fw_V) (a2 : Int32) (a3 : Int32), mf_Mo_obeys_1_j43 v0 a2 a3 c i k = v0 c i k := by
  intro v0 a2 a3
  unfold mf_Mo_obeys_1_j43
  (try dsimp only)
  all_goals ((repeat' split) <;> (first | with_reducible rfl | (simp only [md1_28 hc hi, md1_29 hc hi, md1_31 hc hi, md1_32 hc hi, md1_33 hc hi, md1_34 hc hi, md1_35 hc hi, md1_36 hc hi, md1_37 hc hi, md1_38 hc hi, md1_39 hc hi, md1_43_3 hc hi, md1_43_4 hc hi, md1_43_5 hc hi, md1_47_4 hc hi, md1_48_4 hc hi, md1_47_5 hc hi, md1_48_5 hc hi, md1_47_6 hc hi, md1_48_6 hc hi, md1_47_7 hc hi, md1_48_7 hc hi, md1_46_6 hc hi, md1_46_7 hc hi, md1_46_8 hc hi, md1_46_9 hc hi, md1_46_10 hc hi, md1_46_11 hc hi, md1_0 hc hi, md1_9 hc hi, md1_44 hc hi, md1_send hc hi, md1_rp0 hc hi, md1_rp1 hc hi, md1_rp2 hc hi, md1_Mo_obeys_1_j44 hc hi]; done)))
theorem md1_Mo_obeys_1_j42 {c i k : Nat} (hc : c ≠ 0 ∧ c ≠ 4 ∧ c ≠ 5 ∧ c ≠ 6 ∧ c ≠ 7 ∧ c ≠ 8 ∧ c ≠ 9 ∧ c ≠ 44) (hi : ¬ ((28 ≤ c ∧ c ≤ 39 ∧ k = 1) ∨ (c = 43 ∧ 3 ≤ k ∧ k < 6) ∨ (c = 46 ∧ 6 ≤ k ∧ k < 12) ∨ ((c = 47 ∨ c = 48) ∧ 4 ≤ k ∧ k < 8))) : ∀ (v0 : fw_V) (a2 : Int32) (a3 : Int32), mf_Mo_obeys_1_j42 v0 a2 a3 c i k = v0 c i k := by
  intro v0 a2 a3
  unfold mf_Mo_obeys_1_j42
  (try dsimp only)
  all_goals ((repeat' split) <;> (first | with_reducible rfl | (simp only [md1_28 hc hi, md1_29 hc hi, md1_31 hc hi, md1_32 hc hi, md1_33 hc hi, md1_34 hc hi, md1_35 hc hi, md1_36 hc hi, md1_37 hc hi, md1_38 hc hi, md1_39 hc hi, md1_43_3 hc hi, md1_43_4 hc hi, md1_43_5 hc hi, md1_47_4 hc hi, md1_48_4 hc hi, md1_47_5 hc hi, md1_48_5 hc hi, md1_47_6 hc hi, md1_48_6 hc hi, md1_47_7 hc hi, md1_48_7 hc hi, md1_46_6 hc hi, md1_46_7 hc hi, md1_46_8 hc hi, md1_46_9 hc hi, md1_46_10 hc hi, md1_46_11 hc hi, md1_0 hc hi, md1_9 hc hi, md1_44 hc hi, md1_send hc hi, md1_rp0 hc hi, md1_rp1 hc hi, md1_rp2 hc hi, md1_Mo_obeys_1_j43 hc hi]; done)))
theorem md1_Mo_rest_1_j7 {c i k : Nat} (hc : c ≠ 0 ∧ c ≠ 4 ∧ c ≠ 5 ∧ c ≠ 6 ∧ c ≠ 7 ∧ c ≠ 8 ∧ c ≠ 9 ∧ c ≠ 44) (hi : ¬ ((28 ≤ c ∧ c ≤ 39 ∧ k = 1) ∨ (c = 43 ∧ 3 ≤ k ∧ k < 6) ∨ (c = 46 ∧ 6 ≤ k ∧ k < 12) ∨ ((c = 47 ∨ c = 48) ∧ 4 ≤ k ∧ k < 8))) : ∀ (v : fw_V), mf_Mo_rest_1_j7 v c i k = v c i k := by
  intro v
  unfold mf_Mo_rest_1_j7
  (try dsimp only)
  all_goals ((repeat' split) <;> (first | with_reducible rfl | (simp only [md1_28 hc hi, md1_29 hc hi, md1_31 hc hi, md1_32 hc hi, md1_33 hc hi, md1_34 hc hi, md1_35 hc hi, md1_36 hc hi, md1_37 hc hi, md1_38 hc hi, md1_39 hc hi, md1_43_3 hc hi, md1_43_4 hc hi, md1_43_5 hc hi, md1_47_4 hc hi, md1_48_4 hc hi, md1_47_5 hc hi, md1_48_5 hc hi, md1_47_6 hc hi, md1_48_6 hc hi, md1_47_7 hc hi, md1_48_7 hc hi, md1_46_6 hc hi, md1_46_7 hc hi, md1_46_8 hc hi, md1_46_9 hc hi, md1_46_10 hc hi, md1_46_11 hc hi, md1_0 hc hi, md1_9 hc hi, md1_44 hc hi, md1_send hc hi, md1_rp0 hc hi, md1_rp1 hc hi, md1_rp2 hc hi]; done)))
theorem md1_Mo_rest_1_j6 {c i k : Nat} (hc : c ≠ 0 ∧ c ≠ 4 ∧ c ≠ 5 ∧ c ≠ 6 ∧ c ≠ 7 ∧ c ≠ 8 ∧ c ≠ 9 ∧ c ≠ 44) (hi : ¬ ((28 ≤ c ∧ c ≤ 39 ∧ k = 1) ∨ (c = 43 ∧ 3 ≤ k ∧ k < 6) ∨ (c = 46 ∧ 6 ≤ k ∧ k < 12) ∨ ((c = 47 ∨ c = 48) ∧ 4 ≤ k ∧ k < 8))) : ∀ (v : fw_V), mf_Mo_rest_1_j6 v c i k = v c i k := by
  intro v
  unfold mf_Mo_rest_1_j6
  (try dsimp only)
  all_goals ((repeat' split) <;> (first | with_reducible rfl | (simp only [md1_28 hc hi, md1_29 hc hi, md1_31 hc hi, md1_32 hc hi, md1_33 hc hi, md1_34 hc hi, md1_35 hc hi, md1_36 hc hi, md1_37 hc hi, md1_38 hc hi, md1_39 hc hi, md1_43_3 hc hi, md1_43_4 hc hi, md1_43_5 hc hi, md1_47_4 hc hi, md1_48_4 hc hi, md1_47_5 hc hi, md1_48_5 hc hi, md1_47_6 hc hi, md1_48_6 hc hi, md1_47_7 hc hi, md1_48_7 hc hi, md1_46_6 hc hi, md1_46_7 hc hi, md1_46_8 hc hi, md1_46_9 hc hi, md1_46_10 hc hi, md1_46_11 hc hi, md1_0 hc hi, md1_9 hc hi, md1_44 hc hi, md1_send hc hi, md1_rp0 hc hi, md1_rp1 hc hi, md1_rp2 hc hi, md1_rp0 hc hi, md1_Mo_rest_1_j7 hc hi]; done)))
theorem md1_Mo_rest_1_j5 {c i k : Nat} (hc : c ≠ 0 ∧ c ≠ 4 ∧ c ≠ 5 ∧ c ≠ 6 ∧ c ≠ 7 ∧ c ≠ 8 ∧ c ≠ 9 ∧ c ≠ 44) (hi : ¬ ((28 ≤ c ∧ c ≤ 39 ∧ k = 1) ∨ (c = 43 ∧ 3 ≤ k ∧ k < 6) ∨ (c = 46 ∧ 6 ≤ k ∧ k < 12) ∨ ((c = 47 ∨ c = 48) ∧ 4 ≤ k ∧ k < 8))) : ∀ (v : fw_V), mf_Mo_rest_1_j5 v c i k = v c i k := by
  intro v
  unfold mf_Mo_rest_1_j5
  (try dsimp only)
  all_goals ((repeat' split) <;> (first | with_reducible rfl | (simp only [md1_28 hc hi, md1_29 hc hi, md1_31 hc hi, md1_32 hc hi, md1_33 hc hi, md1_34 hc hi, md1_35 hc hi, md1_36 hc hi, md1_37 hc hi, md1_38 hc hi, md1_39 hc hi, md1_43_3 hc hi, md1_43_4 hc hi, md1_43_5 hc hi, md1_47_4 hc hi, md1_48_4 hc hi, md1_47_5 hc hi, md1_48_5 hc hi, md1_47_6 hc hi, md1_48_6 hc hi, md1_47_7 hc hi, md1_48_7 hc hi, md1_46_6 hc hi, md1_46_7 hc hi, md1_46_8 hc hi, md1_46_9 hc hi, md1_46_10 hc hi, md1_46_11 hc hi, md1_0 hc hi, md1_9 hc hi, md1_44 hc hi, md1_send hc hi, md1_rp0 hc hi, md1_rp1 hc hi, md1_rp2 hc hi, md1_rp0 hc hi, md1_Mo_rest_1_j6 hc hi]; done)))
theorem md1_Mo_rest_1_j4 {c i k : Nat} (hc : c ≠ 0 ∧ c ≠ 4 ∧ c ≠ 5 ∧ c ≠ 6 ∧ c ≠ 7 ∧ c ≠ 8 ∧ c ≠ 9 ∧ c ≠ 44) (hi : ¬ ((28 ≤ c ∧ c ≤ 39 ∧ k = 1) ∨ (c = 43 ∧ 3 ≤ k ∧ k < 6) ∨ (c = 46 ∧ 6 ≤ k ∧ k < 12) ∨ ((c = 47 ∨ c = 48) ∧ 4 ≤ k ∧ k < 8))) : ∀ (v : fw_V), mf_Mo_rest_1_j4 v c i k = v c i k := by
  intro v
  unfold mf_Mo_rest_1_j4
  (try dsimp only)
  all_goals ((repeat' split) <;> (first | with_reducible rfl | (simp only [md1_28 hc hi, md1_29 hc hi, md1_31 hc hi, md1_32 hc hi, md1_33 hc hi, md1_34 hc hi, md1_35 hc hi, md1_36 hc hi, md1_37 hc hi, md1_38 hc hi, md1_39 hc hi, md1_43_3 hc hi, md1_43_4 hc hi, md1_43_5 hc hi, md1_47_4 hc hi, md1_48_4 hc hi, md1_47_5 hc hi, md1_48_5 hc hi, md1_47_6 hc hi, md1_48_6 hc hi, md1_47_7 hc hi, md1_48_7 hc hi, md1_46_6 hc hi, md1_46_7 hc hi, md1_46_8 hc hi, md1_46_9 hc hi, md1_46_10 hc hi, md1_46_11 hc hi, md1_0 hc hi, md1_9 hc hi, md1_44 hc hi, md1_send hc hi, md1_rp0 hc hi, md1_rp1 hc hi, md1_rp2 hc hi, md1_rp0 hc hi, md1_Mo_rest_1_j5 hc hi]; done)))
theorem md1_Mo_rest_1_j3 {c i k : Nat} (hc : c ≠ 0 ∧ c ≠ 4 ∧ c ≠ 5 ∧ c ≠ 6 ∧ c ≠ 7 ∧ c ≠ 8 ∧ c ≠ 9 ∧ c ≠ 44) (hi : ¬ ((28 ≤ c ∧ c ≤ 39 ∧ k = 1) ∨ (c = 43 ∧ 3 ≤ k ∧ k < 6) ∨ (c = 46 ∧ 6 ≤ k ∧ k < 12) ∨ ((c = 47 ∨ c = 48) ∧ 4 ≤ k ∧ k < 8))) : ∀ (v0 : fw_V), mf_Mo_rest_1_j3 v0 c i k = v0 c i k := by
  intro v0
  unfold mf_Mo_rest_1_j3
  (try dsimp only)
  all_goals ((repeat' split) <;> (first | with_reducible rfl | (simp only [md1_28 hc hi, md1_29 hc hi, md1_31 hc hi, md1_32 hc hi, md1_33 hc hi, md1_34 hc hi, md1_35 hc hi, md1_36 hc hi, md1_37 hc hi, md1_38 hc hi, md1_39 hc hi, md1_43_3 hc hi, md1_43_4 hc hi, md1_43_5 hc hi, md1_47_4 hc hi, md1_48_4 hc hi, md1_47_5 hc hi, md1_48_5 hc hi, md1_47_6 hc hi, md1_48_6 hc hi, md1_47_7 hc hi, md1_48_7 hc hi, md1_46_6 hc hi, md1_46_7 hc hi, md1_46_8 hc hi, md1_46_9 hc hi, md1_46_10 hc hi, md1_46_11 hc hi, md1_0 hc hi, md1_9 hc hi, md1_44 hc hi, md1_send hc hi, md1_rp0 hc hi, md1_rp1 hc hi, md1_rp2 hc hi, md1_Mo_rest_1_j4 hc hi]; done)))
theorem md1_Mo_rest_1_j2 {c i k : Nat} (hc : c ≠ 0 ∧ c ≠ 4 ∧ c ≠ 5 ∧ c ≠ 6 ∧ c ≠ 7 ∧ c ≠ 8 ∧ c ≠ 9 ∧ c ≠ 44) (hi : ¬ ((28 ≤ c ∧ c ≤ 39 ∧ k = 1) ∨ (c = 43 ∧ 3 ≤ k ∧ k < 6) ∨ (c = 46 ∧ 6 ≤ k ∧ k < 12) ∨ ((c = 47 ∨ c = 48) ∧ 4 ≤ k ∧ k < 8))) : ∀ (v : fw_V), mf_Mo_rest_1_j2 v c i k = v c i k := by
  intro v
  unfold mf_Mo_rest_1_j2
  (try dsimp only)
  all_goals ((repeat' split) <;> (first | with_reducible rfl | (simp only [md1_28 hc hi, md1_29 hc hi, md1_31 hc hi, md1_32 hc hi, md1_33 hc hi, md1_34 hc hi, md1_35 hc hi, md1_36 hc hi, md1_37 hc hi, md1_38 hc hi, md1_39 hc hi, md1_43_3 hc hi, md1_43_4 hc hi, md1_43_5 hc hi, md1_47_4 hc hi, md1_48_4 hc hi, md1_47_5 hc hi, md1_48_5 hc hi, md1_47_6 hc hi, md1_48_6 hc hi, md1_47_7 hc hi, md1_48_7 hc hi, md1_46_6 hc hi, md1_46_7 hc hi, md1_46_8 hc hi, md1_46_9 hc hi, md1_46_10 hc hi, md1_46_11 hc hi, md1_0 hc hi, md1_9 hc hi, md1_44 hc hi, md1_send hc hi, md1_rp0 hc hi, md1_rp1 hc hi, md1_rp2 hc hi]; done)))
theorem md1_Mo_rest_1_j1 {c i k : Nat} (hc : c ≠ 0 ∧ c ≠ 4 ∧ c ≠ 5 ∧ c ≠ 6 ∧ c ≠ 7 ∧ c ≠ 8 ∧ c ≠ 9 ∧ c ≠ 44) (hi : ¬ ((28 ≤ c ∧ c ≤ 39 ∧ k = 1) ∨ (c = 43 ∧ 3 ≤ k ∧ k < 6) ∨ (c = 46 ∧ 6 ≤ k ∧ k < 12) ∨ ((c = 47 ∨ c = 48) ∧ 4 ≤ k ∧ k < 8))) : ∀ (v0 : fw_V), mf_Mo_rest_1_j1 v0 c i k = v0 c i k := by
  intro v0
  unfold mf_Mo_rest_1_j1
  (try dsimp only)
  all_goals ((repeat' split) <;> (first | with_reducible rfl | (simp only [md1_28 hc hi, md1_29 hc hi, md1_31 hc hi, md1_32 hc hi, md1_33 hc hi, md1_34 hc hi, md1_35 hc hi, md1_36 hc hi, md1_37 hc hi, md1_38 hc hi, md1_39 hc hi, md1_43_3 hc hi, md1_43_4 hc hi, md1_43_5 hc hi, md1_47_4 hc hi, md1_48_4 hc hi, md1_47_5 hc hi, md1_48_5 hc hi, md1_47_6 hc hi, md1_48_6 hc hi, md1_47_7 hc hi, md1_48_7 hc hi, md1_46_6 hc hi, md1_46_7 hc hi, md1_46_8 hc hi, md1_46_9 hc hi, md1_46_10 hc hi, md1_46_11 hc hi, md1_0 hc hi, md1_9 hc hi, md1_44 hc hi, md1_send hc hi, md1_rp0 hc hi, md1_rp1 hc hi, md1_rp2 hc hi, md1_Mo_rest_1_j2 hc hi]; done)))
theorem md1_Mo_rest_1 {c i k : Nat} (hc : c ≠ 0 ∧ c ≠ 4 ∧ c ≠ 5 ∧ c ≠ 6 ∧ c ≠ 7 ∧ c ≠ 8 ∧ c ≠ 9 ∧ c ≠ 44) (hi : ¬ ((28 ≤ c ∧ c ≤ 39 ∧ k = 1) ∨ (c = 43 ∧ 3 ≤ k ∧ k < 6) ∨ (c = 46 ∧ 6 ≤ k ∧ k < 12) ∨ ((c = 47 ∨ c = 48) ∧ 4 ≤ k ∧ k < 8))) : ∀ (v0 : fw_V), mf_Mo_rest_1 v0 c i k = v0 c i k := by
  intro v0
  unfold mf_Mo_rest_1
  (try dsimp only)
  all_goals ((repeat' split) <;> (first | with_reducible rfl | (simp only [md1_28 hc hi, md1_29 hc hi, md1_31 hc hi, md1_32 hc hi, md1_33 hc hi, md1_34 hc hi, md1_35 hc hi, md1_36 hc hi, md1_37 hc hi, md1_38 hc hi, md1_39 hc hi, md1_43_3 hc hi, md1_43_4 hc hi, md1_43_5 hc hi, md1_47_4 hc hi, md1_48_4 hc hi, md1_47_5 hc hi, md1_48_5 hc hi, md1_47_6 hc hi, md1_48_6 hc hi, md1_47_7 hc hi, md1_48_7 hc hi, md1_46_6 hc hi, md1_46_7 hc hi, md1_46_8 hc hi, md1_46_9 hc hi, md1_46_10 hc hi, md1_46_11 hc hi, md1_0 hc hi, md1_9 hc hi, md1_44 hc hi, md1_send hc hi, md1_rp0 hc hi, md1_rp1 hc hi, md1_rp2 hc hi, md1_Mo_rest_1_j3 hc hi, md1_Mo_rest_1_j1 hc hi]; done)))
theorem md1_Mo_quit_1 {c i k : Nat} (hc : c ≠ 0 ∧ c ≠ 4 ∧ c ≠ 5 ∧ c ≠ 6 ∧ c ≠ 7 ∧ c ≠ 8 ∧ c ≠ 9 ∧ c ≠ 44) (hi : ¬ ((28 ≤ c ∧ c ≤ 39 ∧ k = 1) ∨ (c = 43 ∧ 3 ≤ k ∧ k < 6) ∨ (c = 46 ∧ 6 ≤ k ∧ k < 12) ∨ ((c = 47 ∨ c = 48) ∧ 4 ≤ k ∧ k < 8))) : ∀ (v0 : fw_V), mf_Mo_quit_1 v0 c i k = v0 c i k := by
  intro v0
  unfold mf_Mo_quit_1
  (try dsimp only)
  all_goals ((repeat' split) <;> (first | with_reducible rfl | (simp only [md1_28 hc hi, md1_29 hc hi, md1_31 hc hi, md1_32 hc hi, md1_33 hc hi, md1_34 hc hi, md1_35 hc hi, md1_36 hc hi, md1_37 hc hi, md1_38 hc hi, md1_39 hc hi, md1_43_3 hc hi, md1_43_4 hc hi, md1_43_5 hc hi, md1_47_4 hc hi, md1_48_4 hc hi, md1_47_5 hc hi, md1_48_5 hc hi, md1_47_6 hc hi, md1_48_6 hc hi, md1_47_7 hc hi, md1_48_7 hc hi, md1_46_6 hc hi, md1_46_7 hc hi, md1_46_8 hc hi, md1_46_9 hc hi, md1_46_10 hc hi, md1_46_11 hc hi, md1_0 hc hi, md1_9 hc hi, md1_44 hc hi, md1_send hc hi, md1_rp0 hc hi, md1_rp1 hc hi, md1_rp2 hc hi, md1_Mo_reply_1 hc hi, md1_Mo_rest_1 hc hi]; done)))
theorem md1_Mo_obeys_1_j46 {c i k : Nat} (hc : c ≠ 0 ∧ c ≠ 4 ∧ c ≠ 5 ∧ c ≠ 6 ∧ c ≠ 7 ∧ c ≠ 8 ∧ c ≠ 9 ∧ c ≠ 44) (hi : ¬ ((28 ≤ c ∧ c ≤ 39 ∧ k = 1) ∨ (c = 43 ∧ 3 ≤ k ∧ k < 6) ∨ (c = 46 ∧ 6 ≤ k ∧ k < 12) ∨ ((c = 47 ∨ c = 48) ∧ 4 ≤ k ∧ k < 8))) : ∀ (v0 : fw_V) (a2 : Int32) (a3 : Int32), mf_Mo_obeys_1_j46 v0 a2 a3 c i k = v0 c i k := by
  intro v0 a2 a3
  unfold mf_Mo_obeys_1_j46
  (try dsimp only)
  all_goals ((repeat' split) <;> (first | with_reducible rfl | (simp only [md1_28 hc hi, md1_29 hc hi, md1_31 hc hi, md1_32 hc hi, md1_33 hc hi, md1_34 hc hi, md1_35 hc hi, md1_36 hc hi, md1_37 hc hi, md1_38 hc hi, md1_39 hc hi, md1_43_3 hc hi, md1_43_4 hc hi, md1_43_5 hc hi, md1_47_4 hc hi, md1_48_4 hc hi, md1_47_5 hc hi, md1_48_5 hc hi, md1_47_6 hc hi, md1_48_6 hc hi, md1_47_7 hc hi, md1_48_7 hc hi, md1_46_6 hc hi, md1_46_7 hc hi, md1_46_8 hc hi, md1_46_9 hc hi, md1_46_10 hc hi, md1_46_11 hc hi, md1_0 hc hi, md1_9 hc hi, md1_44 hc hi, md1_send hc hi, md1_rp0 hc hi, md1_rp1 hc hi, md1_rp2 hc hi, md1_Mo_quit_1 hc hi]; done)))
theorem md1_Mo_obeys_1_j45 {c i k : Nat} (hc : c ≠ 0 ∧ c ≠ 4 ∧ c ≠ 5 ∧ c ≠ 6 ∧ c ≠ 7 ∧ c ≠ 8 ∧ c ≠ 9 ∧ c ≠ 44) (hi : ¬ ((28 ≤ c ∧ c ≤ 39 ∧ k = 1) ∨ (c = 43 ∧ 3 ≤ k ∧ k < 6) ∨ (c = 46 ∧ 6 ≤ k ∧ k < 12) ∨ ((c = 47 ∨ c = 48) ∧ 4 ≤ k ∧ k < 8))) : ∀ (v0 : fw_V) (a2 : Int32) (a3 : Int32), mf_Mo_obeys_1_j45 v0 a2 a3 c i k = v0 c i k := by
  intro v0 a2 a3
  unfold mf_Mo_obeys_1_j45
  (try dsimp only)
  all_goals ((repeat' split) <;> (first | with_reducible rfl | (simp only [md1_28 hc hi, md1_29 hc hi, md1_31 hc hi, md1_32 hc hi, md1_33 hc hi, md1_34 hc hi, md1_35 hc hi, md1_36 hc hi, md1_37 hc hi, md1_38 hc hi, md1_39 hc hi, md1_43_3 hc hi, md1_43_4 hc hi, md1_43_5 hc hi, md1_47_4 hc hi, md1_48_4 hc hi, md1_47_5 hc hi, md1_48_5 hc hi, md1_47_6 hc hi, md1_48_6 hc hi, md1_47_7 hc hi, md1_48_7 hc hi, md1_46_6 hc hi, md1_46_7 hc hi, md1_46_8 hc hi, md1_46_9 hc hi, md1_46_10 hc hi, md1_46_11 hc hi, md1_0 hc hi, md1_9 hc hi, md1_44 hc hi, md1_send hc hi, md1_rp0 hc hi, md1_rp1 hc hi, md1_rp2 hc hi, md1_Mo_obeys_1_j46 hc hi]; done)))
theorem md1_Mo_obeys_1_j41 {c i k : Nat} (hc : c ≠ 0 ∧ c ≠ 4 ∧ c ≠ 5 ∧ c ≠ 6 ∧ c ≠ 7 ∧ c ≠ 8 ∧ c ≠ 9 ∧ c ≠ 44) (hi : ¬ ((28 ≤ c ∧ c ≤ 39 ∧ k = 1) ∨ (c = 43 ∧ 3 ≤ k ∧ k < 6) ∨ (c = 46 ∧ 6 ≤ k ∧ k < 12) ∨ ((c = 47 ∨ c = 48) ∧ 4 ≤ k ∧ k < 8))) : ∀ (v0 : fw_V) (a2 : Int32) (a3 : Int32), mf_Mo_obeys_1_j41 v0 a2 a3 c i k = v0 c i k := by
  intro v0 a2 a3
  unfold mf_Mo_obeys_1_j41
  (try dsimp only)
  all_goals ((repeat' split) <;> (first | with_reducible rfl | (simp only [md1_28 hc hi, md1_29 hc hi, md1_31 hc hi, md1_32 hc hi, md1_33 hc hi, md1_34 hc hi, md1_35 hc hi, md1_36 hc hi, md1_37 hc hi, md1_38 hc hi, md1_39 hc hi, md1_43_3 hc hi, md1_43_4 hc hi, md1_43_5 hc hi, md1_47_4 hc hi, md1_48_4 hc hi, md1_47_5 hc hi, md1_48_5 hc hi, md1_47_6 hc hi, md1_48_6 hc hi, md1_47_7 hc hi, md1_48_7 hc hi, md1_46_6 hc hi, md1_46_7 hc hi, md1_46_8 hc hi, md1_46_9 hc hi, md1_46_10 hc hi, md1_46_11 hc hi, md1_0 hc hi, md1_9 hc hi, md1_44 hc hi, md1_send hc hi, md1_rp0 hc hi, md1_rp1 hc hi, md1_rp2 hc hi, md1_Mo_obeys_1_j42 hc hi, md1_Mo_obeys_1_j45 hc hi]; done)))
theorem md1_Mo_obeys_1_j40 {c i k : Nat} (hc : c ≠ 0 ∧ c ≠ 4 ∧ c ≠ 5 ∧ c ≠ 6 ∧ c ≠ 7 ∧ c ≠ 8 ∧ c ≠ 9 ∧ c ≠ 44) (hi : ¬ ((28 ≤ c ∧ c ≤ 39 ∧ k = 1) ∨ (c = 43 ∧ 3 ≤ k ∧ k < 6) ∨ (c = 46 ∧ 6 ≤ k ∧ k < 12) ∨ ((c = 47 ∨ c = 48) ∧ 4 ≤ k ∧ k < 8))) : ∀ (v0 : fw_V) (a2 : Int32) (a3 : Int32), mf_Mo_obeys_1_j40 v0 a2 a3 c i k = v0 c i k := by
  intro v0 a2 a3
  unfold mf_Mo_obeys_1_j40
  (try dsimp only)
  all_goals ((repeat' split) <;> (first | with_reducible rfl | (simp only [md1_28 hc hi, md1_29 hc hi, md1_31 hc hi, md1_32 hc hi, md1_33 hc hi, md1_34 hc hi, md1_35 hc hi, md1_36 hc hi, md1_37 hc hi, md1_38 hc hi, md1_39 hc hi, md1_43_3 hc hi, md1_43_4 hc hi, md1_43_5 hc hi, md1_47_4 hc hi, md1_48_4 hc hi, md1_47_5 hc hi, md1_48_5 hc hi, md1_47_6 hc hi, md1_48_6 hc hi, md1_47_7 hc hi, md1_48_7 hc hi, md1_46_6 hc hi, md1_46_7 hc hi, md1_46_8 hc hi, md1_46_9 hc hi, md1_46_10 hc hi, md1_46_11 hc hi, md1_0 hc hi, md1_9 hc hi, md1_44 hc hi, md1_send hc hi, md1_rp0 hc hi, md1_rp1 hc hi, md1_rp2 hc hi, md1_Mo_obeys_1_j41 hc hi]; done)))
theorem md1_Mo_obeys_1_j39 {c i k : Nat} (hc : c ≠ 0 ∧ c ≠ 4 ∧ c ≠ 5 ∧ c ≠ 6 ∧ c ≠ 7 ∧ c ≠ 8 ∧ c ≠ 9 ∧ c ≠ 44) (hi : ¬ ((28 ≤ c ∧ c ≤ 39 ∧ k = 1) ∨ (c = 43 ∧ 3 ≤ k ∧ k < 6) ∨ (c = 46 ∧ 6 ≤ k ∧ k < 12) ∨ ((c = 47 ∨ c = 48) ∧ 4 ≤ k ∧ k < 8))) : ∀ (v0 : fw_V) (a2 : Int32) (a3 : Int32), mf_Mo_obeys_1_j39 v0 a2 a3 c i k = v0 c i k := by
  intro v0 a2 a3
  unfold mf_Mo_obeys_1_j39
  (try dsimp only)
  all_goals ((repeat' split) <;> (first | with_reducible rfl | (simp only [md1_28 hc hi, md1_29 hc hi, md1_31 hc hi, md1_32 hc hi, md1_33 hc hi, md1_34 hc hi, md1_35 hc hi, md1_36 hc hi, md1_37 hc hi, md1_38 hc hi, md1_39 hc hi, md1_43_3 hc hi, md1_43_4 hc hi, md1_43_5 hc hi, md1_47_4 hc hi, md1_48_4 hc hi, md1_47_5 hc hi, md1_48_5 hc hi, md1_47_6 hc hi, md1_48_6 hc hi, md1_47_7 hc hi, md1_48_7 hc hi, md1_46_6 hc hi, md1_46_7 hc hi, md1_46_8 hc hi, md1_46_9 hc hi, md1_46_10 hc hi, md1_46_11 hc hi, md1_0 hc hi, md1_9 hc hi, md1_44 hc hi, md1_send hc hi, md1_rp0 hc hi, md1_rp1 hc hi, md1_rp2 hc hi, md1_Mo_obeys_1_j40 hc hi]; done)))
theorem md1_Mo_obeys_1_j50 {c i k : Nat} (hc : c ≠ 0 ∧ c ≠ 4 ∧ c ≠ 5 ∧ c ≠ 6 ∧ c ≠ 7 ∧ c ≠ 8 ∧ c ≠ 9 ∧ c ≠ 44) (hi : ¬ ((28 ≤ c ∧ c ≤ 39 ∧ k = 1) ∨ (c = 43 ∧ 3 ≤ k ∧ k < 6) ∨ (c = 46 ∧ 6 ≤ k ∧ k < 12) ∨ ((c = 47 ∨ c = 48) ∧ 4 ≤ k ∧ k < 8))) : ∀ (v0 : fw_V) (a2 : Int32) (a3 : Int32), mf_Mo_obeys_1_j50 v0 a2 a3 c i k = v0 c i k := by
  intro v0 a2 a3
  unfold mf_Mo_obeys_1_j50
  (try dsimp only)
  all_goals ((repeat' split) <;> (first | with_reducible rfl | (simp only [md1_28 hc hi, md1_29 hc hi, md1_31 hc hi, md1_32 hc hi, md1_33 hc hi, md1_34 hc hi, md1_35 hc hi, md1_36 hc hi, md1_37 hc hi, md1_38 hc hi, md1_39 hc hi, md1_43_3 hc hi, md1_43_4 hc hi, md1_43_5 hc hi, md1_47_4 hc hi, md1_48_4 hc hi, md1_47_5 hc hi, md1_48_5 hc hi, md1_47_6 hc hi, md1_48_6 hc hi, md1_47_7 hc hi, md1_48_7 hc hi, md1_46_6 hc hi, md1_46_7 hc hi, md1_46_8 hc hi, md1_46_9 hc hi, md1_46_10 hc hi, md1_46_11 hc hi, md1_0 hc hi, md1_9 hc hi, md1_44 hc hi, md1_send hc hi, md1_rp0 hc hi, md1_rp1 hc hi, md1_rp2 hc hi, md1_Mo_obeys_1_j46 hc hi]; done)))
theorem md1_Mo_obeys_1_j49 {c i k : Nat} (hc : c ≠ 0 ∧ c ≠ 4 ∧ c ≠ 5 ∧ c ≠ 6 ∧ c ≠ 7 ∧ c ≠ 8 ∧ c ≠ 9 ∧ c ≠ 44) (hi : ¬ ((28 ≤ c ∧ c ≤ 39 ∧ k = 1) ∨ (c = 43 ∧ 3 ≤ k ∧ k < 6) ∨ (c = 46 ∧ 6 ≤ k ∧ k < 12) ∨ ((c = 47 ∨ c = 48) ∧ 4 ≤ k ∧ k < 8))) : ∀ (v0 : fw_V) (a2 : Int32) (a3 : Int32), mf_Mo_obeys_1_j49 v0 a2 a3 c i k = v0 c i k := by
  intro v0 a2 a3
  unfold mf_Mo_obeys_1_j49
  (try dsimp only)
  all_goals ((repeat' split) <;> (first | with_reducible rfl | (simp only [md1_28 hc hi, md1_29 hc hi, md1_31 hc hi, md1_32 hc hi, md1_33 hc hi, md1_34 hc hi, md1_35 hc hi, md1_36 hc hi, md1_37 hc hi, md1_38 hc hi, md1_39 hc hi, md1_43_3 hc hi, md1_43_4 hc hi, md1_43_5 hc hi, md1_47_4 hc hi, md1_48_4 hc hi, md1_47_5 hc hi, md1_48_5 hc hi, md1_47_6 hc hi, md1_48_6 hc hi, md1_47_7 hc hi, md1_48_7 hc hi, md1_46_6 hc hi, md1_46_7 hc hi, md1_46_8 hc hi, md1_46_9 hc hi, md1_46_10 hc hi, md1_46_11 hc hi, md1_0 hc hi, md1_9 hc hi, md1_44 hc hi, md1_send hc hi, md1_rp0 hc hi, md1_rp1 hc hi, md1_rp2 hc hi, md1_Mo_obeys_1_j50 hc hi]; done)))
theorem md1_Mo_obeys_1_j51 {c i k : Nat} (hc : c ≠ 0 ∧ c ≠ 4 ∧ c ≠ 5 ∧ c ≠ 6 ∧ c ≠ 7 ∧ c ≠ 8 ∧ c ≠ 9 ∧ c ≠ 44) (hi : ¬ ((28 ≤ c ∧ c ≤ 39 ∧ k = 1) ∨ (c = 43 ∧ 3 ≤ k ∧ k < 6) ∨ (c = 46 ∧ 6 ≤ k ∧ k < 12) ∨ ((c = 47 ∨ c = 48) ∧ 4 ≤ k ∧ k < 8))) : ∀ (v0 : fw_V) (a2 : Int32) (a3 : Int32), mf_Mo_obeys_1_j51 v0 a2 a3 c i k = v0 c i k := by
  intro v0 a2 a3
  unfold mf_Mo_obeys_1_j51
  (try dsimp only)
  all_goals ((repeat' split) <;> (first | with_reducible rfl | (simp only [md1_28 hc hi, md1_29 hc hi, md1_31 hc hi, md1_32 hc hi, md1_33 hc hi, md1_34 hc hi, md1_35 hc hi, md1_36 hc hi, md1_37 hc hi, md1_38 hc hi, md1_39 hc hi, md1_43_3 hc hi, md1_43_4 hc hi, md1_43_5 hc hi, md1_47_4 hc hi, md1_48_4 hc hi, md1_47_5 hc hi, md1_48_5 hc hi, md1_47_6 hc hi, md1_48_6 hc hi, md1_47_7 hc hi, md1_48_7 hc hi, md1_46_6 hc hi, md1_46_7 hc hi, md1_46_8 hc hi, md1_46_9 hc hi, md1_46_10 hc hi, md1_46_11 hc hi, md1_0 hc hi, md1_9 hc hi, md1_44 hc hi, md1_send hc hi, md1_rp0 hc hi, md1_rp1 hc hi, md1_rp2 hc hi, md1_Mo_obeys_1_j46 hc hi]; done)))
theorem md1_Mo_obeys_1_j48 {c i k : Nat} (hc : c ≠ 0 ∧ c ≠ 4 ∧ c ≠ 5 ∧ c ≠ 6 ∧ c ≠ 7 ∧ c ≠ 8 ∧ c ≠ 9 ∧ c ≠ 44) (hi : ¬ ((28 ≤ c ∧ c ≤ 39 ∧ k = 1) ∨ (c = 43 ∧ 3 ≤ k ∧ k < 6) ∨ (c = 46 ∧ 6 ≤ k ∧ k < 12) ∨ ((c = 47 ∨ c = 48) ∧ 4 ≤ k ∧ k < 8))) : ∀ (v0 : fw_V) (a2 : Int32) (a3 : Int32), mf_Mo_obeys_1_j48 v0 a2 a3 c i k = v0 c i k := by
  intro v0 a2 a3
  unfold mf_Mo_obeys_1_j48
  (try dsimp only)
  all_goals ((repeat' split) <;> (first | with_reducible rfl | (simp only [md1_28 hc hi, md1_29 hc hi, md1_31 hc hi, md1_32 hc hi, md1_33 hc hi, md1_34 hc hi, md1_35 hc hi, md1_36 hc hi, md1_37 hc hi, md1_38 hc hi, md1_39 hc hi, md1_43_3 hc hi, md1_43_4 hc hi, md1_43_5 hc hi, md1_47_4 hc hi, md1_48_4 hc hi, md1_47_5 hc hi, md1_48_5 hc hi, md1_47_6 hc hi, md1_48_6 hc hi, md1_47_7 hc hi, md1_48_7 hc hi, md1_46_6 hc hi, md1_46_7 hc hi, md1_46_8 hc hi, md1_46_9 hc hi, md1_46_10 hc hi, md1_46_11 hc hi, md1_0 hc hi, md1_9 hc hi, md1_44 hc hi, md1_send hc hi, md1_rp0 hc hi, md1_rp1 hc hi, md1_rp2 hc hi, md1_Mo_obeys_1_j49 hc hi, md1_Mo_obeys_1_j51 hc hi]; done)))
theorem md1_Mo_obeys_1_j47 {c i k : Nat} (hc : c ≠ 0 ∧ c ≠ 4 ∧ c ≠ 5 ∧ c ≠ 6 ∧ c ≠ 7 ∧ c ≠ 8 ∧ c ≠ 9 ∧ c ≠ 44) (hi : ¬ ((28 ≤ c ∧ c ≤ 39 ∧ k = 1) ∨ (c = 43 ∧ 3 ≤ k ∧ k < 6) ∨ (c = 46 ∧ 6 ≤ k ∧ k < 12) ∨ ((c = 47 ∨ c = 48) ∧ 4 ≤ k ∧ k < 8))) : ∀ (v0 : fw_V) (a2 : Int32) (a3 : Int32), mf_Mo_obeys_1_j47 v0 a2 a3 c i k = v0 c i k := by
  intro v0 a2 a3
  unfold mf_Mo_obeys_1_j47
  (try dsimp only)
  all_goals ((repeat' split) <;> (first | with_reducible rfl | (simp only [md1_28 hc hi, md1_29 hc hi, md1_31 hc hi, md1_32 hc hi, md1_33 hc hi, md1_34 hc hi, md1_35 hc hi, md1_36 hc hi, md1_37 hc hi, md1_38 hc hi, md1_39 hc hi, md1_43_3 hc hi, md1_43_4 hc hi, md1_43_5 hc hi, md1_47_4 hc hi, md1_48_4 hc hi, md1_47_5 hc hi, md1_48_5 hc hi, md1_47_6 hc hi, md1_48_6 hc hi, md1_47_7 hc hi, md1_48_7 hc hi, md1_46_6 hc hi, md1_46_7 hc hi, md1_46_8 hc hi, md1_46_9 hc hi, md1_46_10 hc hi, md1_46_11 hc hi, md1_0 hc hi, md1_9 hc hi, md1_44 hc hi, md1_send hc hi, md1_rp0 hc hi, md1_rp1 hc hi, md1_rp2 hc hi, md1_Mo_obeys_1_j48 hc hi]; done)))
theorem md1_Mo_obeys_1_j38 {c i k : Nat} (hc : c ≠ 0 ∧ c ≠ 4 ∧ c ≠ 5 ∧ c ≠ 6 ∧ c ≠ 7 ∧ c ≠ 8 ∧ c ≠ 9 ∧ c ≠ 44) (hi : ¬ ((28 ≤ c ∧ c ≤ 39 ∧ k = 1) ∨ (c = 43 ∧ 3 ≤ k ∧ k < 6) ∨ (c = 46 ∧ 6 ≤ k ∧ k < 12) ∨ ((c = 47 ∨ c = 48) ∧ 4 ≤ k ∧ k < 8))) : ∀ (v0 : fw_V) (a2 : Int32) (a3 : Int32), mf_Mo_obeys_1_j38 v0 a2 a3 c i k = v0 c i k := by
  intro v0 a2 a3
  unfold mf_Mo_obeys_1_j38
  (try dsimp only)
  all_goals ((repeat' split) <;> (first | with_reducible rfl | (simp only [md1_28 hc hi, md1_29 hc hi, md1_31 hc hi, md1_32 hc hi, md1_33 hc hi, md1_34 hc hi, md1_35 hc hi, md1_36 hc hi, md1_37 hc hi, md1_38 hc hi, md1_39 hc hi, md1_43_3 hc hi, md1_43_4 hc hi, md1_43_5 hc hi, md1_47_4 hc hi, md1_48_4 hc hi, md1_47_5 hc hi, md1_48_5 hc hi, md1_47_6 hc hi, md1_48_6 hc hi, md1_47_7 hc hi, md1_48_7 hc hi, md1_46_6 hc hi, md1_46_7 hc hi, md1_46_8 hc hi, md1_46_9 hc hi, md1_46_10 hc hi, md1_46_11 hc hi, md1_0 hc hi, md1_9 hc hi, md1_44 hc hi, md1_send hc hi, md1_rp0 hc hi, md1_rp1 hc hi, md1_rp2 hc hi, md1_Mo_obeys_1_j39 hc hi, md1_Mo_obeys_1_j47 hc hi]; done)))
theorem md1_Mo_obeys_1_j37 {c i k : Nat} (hc : c ≠ 0 ∧ c ≠ 4 ∧ c ≠ 5 ∧ c ≠ 6 ∧ c ≠ 7 ∧ c ≠ 8 ∧ c ≠ 9 ∧ c ≠ 44) (hi : ¬ ((28 ≤ c ∧ c ≤ 39 ∧ k = 1) ∨ (c = 43 ∧ 3 ≤ k ∧ k < 6) ∨ (c = 46 ∧ 6 ≤ k ∧ k < 12) ∨ ((c = 47 ∨ c = 48) ∧ 4 ≤ k ∧ k < 8))) : ∀ (v0 : fw_V) (a2 : Int32) (a3 : Int32), mf_Mo_obeys_1_j37 v0 a2 a3 c i k = v0 c i k := by
  intro v0 a2 a3
  unfold mf_Mo_obeys_1_j37
  (try dsimp only)
  all_goals ((repeat' split) <;> (first | with_reducible rfl | (simp only [md1_28 hc hi, md1_29 hc hi, md1_31 hc hi, md1_32 hc hi, md1_33 hc hi, md1_34 hc hi, md1_35 hc hi, md1_36 hc hi, md1_37 hc hi, md1_38 hc hi, md1_39 hc hi, md1_43_3 hc hi, md1_43_4 hc hi, md1_43_5 hc hi, md1_47_4 hc hi, md1_48_4 hc hi, md1_47_5 hc hi, md1_48_5 hc hi, md1_47_6 hc hi, md1_48_6 hc hi, md1_47_7 hc hi, md1_48_7 hc hi, md1_46_6 hc hi, md1_46_7 hc hi, md1_46_8 hc hi, md1_46_9 hc hi, md1_46_10 hc hi, md1_46_11 hc hi, md1_0 hc hi, md1_9 hc hi, md1_44 hc hi, md1_send hc hi, md1_rp0 hc hi, md1_rp1 hc hi, md1_rp2 hc hi, md1_Mo_obeys_1_j38 hc hi]; done)))
theorem md1_Mo_obeys_1_j36 {c i k : Nat} (hc : c ≠ 0 ∧ c ≠ 4 ∧ c ≠ 5 ∧ c ≠ 6 ∧ c ≠ 7 ∧ c ≠ 8 ∧ c ≠ 9 ∧ c ≠ 44) (hi : ¬ ((28 ≤ c ∧ c ≤ 39 ∧ k = 1) ∨ (c = 43 ∧ 3 ≤ k ∧ k < 6) ∨ (c = 46 ∧ 6 ≤ k ∧ k < 12) ∨ ((c = 47 ∨ c = 48) ∧ 4 ≤ k ∧ k < 8))) : ∀ (v0 : fw_V) (a2 : Int32) (a3 : Int32), mf_Mo_obeys_1_j36 v0 a2 a3 c i k = v0 c i k := by
  intro v0 a2 a3
  unfold mf_Mo_obeys_1_j36
  (try dsimp only)
  all_goals ((repeat' split) <;> (first | with_reducible rfl | (simp only [md1_28 hc hi, md1_29 hc hi, md1_31 hc hi, md1_32 hc hi, md1_33 hc hi, md1_34 hc hi, md1_35 hc hi, md1_36 hc hi, md1_37 hc hi, md1_38 hc hi, md1_39 hc hi, md1_43_3 hc hi, md1_43_4 hc hi, md1_43_5 hc hi, md1_47_4 hc hi, md1_48_4 hc hi, md1_47_5 hc hi, md1_48_5 hc hi, md1_47_6 hc hi, md1_48_6 hc hi, md1_47_7 hc hi, md1_48_7 hc hi, md1_46_6 hc hi, md1_46_7 hc hi, md1_46_8 hc hi, md1_46_9 hc hi, md1_46_10 hc hi, md1_46_11 hc hi, md1_0 hc hi, md1_9 hc hi, md1_44 hc hi, md1_send hc hi, md1_rp0 hc hi, md1_rp1 hc hi, md1_rp2 hc hi, md1_Mo_obeys_1_j37 hc hi]; done)))
theorem md1_Mo_obeys_1_j55 {c i k : Nat} (hc : c ≠ 0 ∧ c ≠ 4 ∧ c ≠ 5 ∧ c ≠ 6 ∧ c ≠ 7 ∧ c ≠ 8 ∧ c ≠ 9 ∧ c ≠ 44) (hi : ¬ ((28 ≤ c ∧ c ≤ 39 ∧ k = 1) ∨ (c = 43 ∧ 3 ≤ k ∧ k < 6) ∨ (c = 46 ∧ 6 ≤ k ∧ k < 12) ∨ ((c = 47 ∨ c = 48) ∧ 4 ≤ k ∧ k < 8))) : ∀ (v0 : fw_V) (a2 : Int32) (a3 : Int32), mf_Mo_obeys_1_j55 v0 a2 a3 c i k = v0 c i k := by
  intro v0 a2 a3
  unfold mf_Mo_obeys_1_j55
  (try dsimp only)
  all_goals ((repeat' split) <;> (first | with_reducible rfl | (simp only [md1_28 hc hi, md1_29 hc hi, md1_31 hc hi, md1_32 hc hi, md1_33 hc hi, md1_34 hc hi, md1_35 hc hi, md1_36 hc hi, md1_37 hc hi, md1_38 hc hi, md1_39 hc hi, md1_43_3 hc hi, md1_43_4 hc hi, md1_43_5 hc hi, md1_47_4 hc hi, md1_48_4 hc hi, md1_47_5 hc hi, md1_48_5 hc hi, md1_47_6 hc hi, md1_48_6 hc hi, md1_47_7 hc hi, md1_48_7 hc hi, md1_46_6 hc hi, md1_46_7 hc hi, md1_46_8 hc hi, md1_46_9 hc hi, md1_46_10 hc hi, md1_46_11 hc hi, md1_0 hc hi, md1_9 hc hi, md1_44 hc hi, md1_send hc hi, md1_rp0 hc hi, md1_rp1 hc hi, md1_rp2 hc hi, md1_Mo_obeys_1_j48 hc hi]; done)))
theorem md1_Mo_obeys_1_j54 {c i k : Nat} (hc : c ≠ 0 ∧ c ≠ 4 ∧ c ≠ 5 ∧ c ≠ 6 ∧ c ≠ 7 ∧ c ≠ 8 ∧ c ≠ 9 ∧ c ≠ 44) (hi : ¬ ((28 ≤ c ∧ c ≤ 39 ∧ k = 1) ∨ (c = 43 ∧ 3 ≤ k ∧ k < 6) ∨ (c = 46 ∧ 6 ≤ k ∧ k < 12) ∨ ((c = 47 ∨ c = 48) ∧ 4 ≤ k ∧ k < 8))) : ∀ (v0 : fw_V) (a2 : Int32) (a3 : Int32), mf_Mo_obeys_1_j54 v0 a2 a3 c i k = v0 c i k := by
  intro v0 a2 a3
  unfold mf_Mo_obeys_1_j54
  (try dsimp only)
  all_goals ((repeat' split) <;> (first | with_reducible rfl | (simp only [md1_28 hc hi, md1_29 hc hi, md1_31 hc hi, md1_32 hc hi, md1_33 hc hi, md1_34 hc hi, md1_35 hc hi, md1_36 hc hi, md1_37 hc hi, md1_38 hc hi, md1_39 hc hi, md1_43_3 hc hi, md1_43_4 hc hi, md1_43_5 hc hi, md1_47_4 hc hi, md1_48_4 hc hi, md1_47_5 hc hi, md1_48_5 hc hi, md1_47_6 hc hi, md1_48_6 hc hi, md1_47_7 hc hi, md1_48_7 hc hi, md1_46_6 hc hi, md1_46_7 hc hi, md1_46_8 hc hi, md1_46_9 hc hi, md1_46_10 hc hi, md1_46_11 hc hi, md1_0 hc hi, md1_9 hc hi, md1_44 hc hi, md1_send hc hi, md1_rp0 hc hi, md1_rp1 hc hi, md1_rp2 hc hi, md1_Mo_obeys_1_j55 hc hi]; done)))
theorem md1_Mo_obeys_1_j56 {c i k : Nat} (hc : c ≠ 0 ∧ c ≠ 4 ∧ c ≠ 5 ∧ c ≠ 6 ∧ c ≠ 7 ∧ c ≠ 8 ∧ c ≠ 9 ∧ c ≠ 44) (hi : ¬ ((28 ≤ c ∧ c ≤ 39 ∧ k = 1) ∨ (c = 43 ∧ 3 ≤ k ∧ k < 6) ∨ (c = 46 ∧ 6 ≤ k ∧ k < 12) ∨ ((c = 47 ∨ c = 48) ∧ 4 ≤ k ∧ k < 8))) : ∀ (v0 : fw_V) (a2 : Int32) (a3 : Int32), mf_Mo_obeys_1_j56 v0 a2 a3 c i k = v0 c i k := by
  intro v0 a2 a3
  unfold mf_Mo_obeys_1_j56
  (try dsimp only)
  all_goals ((repeat' split) <;> (first | with_reducible rfl | (simp only [md1_28 hc hi, md1_29 hc hi, md1_31 hc hi, md1_32 hc hi, md1_33 hc hi, md1_34 hc hi, md1_35 hc hi, md1_36 hc hi, md1_37 hc hi, md1_38 hc hi, md1_39 hc hi, md1_43_3 hc hi, md1_43_4 hc hi, md1_43_5 hc hi, md1_47_4 hc hi, md1_48_4 hc hi, md1_47_5 hc hi, md1_48_5 hc hi, md1_47_6 hc hi, md1_48_6 hc hi, md1_47_7 hc hi, md1_48_7 hc hi, md1_46_6 hc hi, md1_46_7 hc hi, md1_46_8 hc hi, md1_46_9 hc hi, md1_46_10 hc hi, md1_46_11 hc hi, md1_0 hc hi, md1_9 hc hi, md1_44 hc hi, md1_send hc hi, md1_rp0 hc hi, md1_rp1 hc hi, md1_rp2 hc hi, md1_Mo_obeys_1_j48 hc hi]; done)))
theorem md1_Mo_obeys_1_j53 {c i k : Nat} (hc : c ≠ 0 ∧ c ≠ 4 ∧ c ≠ 5 ∧ c ≠ 6 ∧ c ≠ 7 ∧ c ≠ 8 ∧ c ≠ 9 ∧ c ≠ 44) (hi : ¬ ((28 ≤ c ∧ c ≤ 39 ∧ k = 1) ∨ (c = 43 ∧ 3 ≤ k ∧ k < 6) ∨ (c = 46 ∧ 6 ≤ k ∧ k < 12) ∨ ((c = 47 ∨ c = 48) ∧ 4 ≤ k ∧ k < 8))) : ∀ (v0 : fw_V) (a2 : Int32) (a3 : Int32), mf_Mo_obeys_1_j53 v0 a2 a3 c i k = v0 c i k := by
  intro v0 a2 a3
  unfold mf_Mo_obeys_1_j53
  (try dsimp only)
  all_goals ((repeat' split) <;> (first | with_reducible rfl | (simp only [md1_28 hc hi, md1_29 hc hi, md1_31 hc hi, md1_32 hc hi, md1_33 hc hi, md1_34 hc hi, md1_35 hc hi, md1_36 hc hi, md1_37 hc hi, md1_38 hc hi, md1_39 hc hi, md1_43_3 hc hi, md1_43_4 hc hi, md1_43_5 hc hi, md1_47_4 hc hi, md1_48_4 hc hi, md1_47_5 hc hi, md1_48_5 hc hi, md1_47_6 hc hi, md1_48_6 hc hi, md1_47_7 hc hi, md1_48_7 hc hi, md1_46_6 hc hi, md1_46_7 hc hi, md1_46_8 hc hi, md1_46_9 hc hi, md1_46_10 hc hi, md1_46_11 hc hi, md1_0 hc hi, md1_9 hc hi, md1_44 hc hi, md1_send hc hi, md1_rp0 hc hi, md1_rp1 hc hi, md1_rp2 hc hi, md1_Mo_obeys_1_j54 hc hi, md1_Mo_obeys_1_j56 hc hi]; done)))
theorem md1_Mo_obeys_1_j52 {c i k : Nat} (hc : c ≠ 0 ∧ c ≠ 4 ∧ c ≠ 5 ∧ c ≠ 6 ∧ c ≠ 7 ∧ c ≠ 8 ∧ c ≠ 9 ∧ c ≠ 44) (hi : ¬ ((28 ≤ c ∧ c ≤ 39 ∧ k = 1) ∨ (c = 43 ∧ 3 ≤ k ∧ k < 6) ∨ (c = 46 ∧ 6 ≤ k ∧ k < 12) ∨ ((c = 47 ∨ c = 48) ∧ 4 ≤ k ∧ k < 8))) : ∀ (v0 : fw_V) (a2 : Int32) (a3 : Int32), mf_Mo_obeys_1_j52 v0 a2 a3 c i k = v0 c i k := by
  intro v0 a2 a3
  unfold mf_Mo_obeys_1_j52
  (try dsimp only)
  all_goals ((repeat' split) <;> (first | with_reducible rfl | (simp only [md1_28 hc hi, md1_29 hc hi, md1_31 hc hi, md1_32 hc hi, md1_33 hc hi, md1_34 hc hi, md1_35 hc hi, md1_36 hc hi, md1_37 hc hi, md1_38 hc hi, md1_39 hc hi, md1_43_3 hc hi, md1_43_4 hc hi, md1_43_5 hc hi, md1_47_4 hc hi, md1_48_4 hc hi, md1_47_5 hc hi, md1_48_5 hc hi, md1_47_6 hc hi, md1_48_6 hc hi, md1_47_7 hc hi, md1_48_7 hc hi, md1_46_6 hc hi, md1_46_7 hc hi, md1_46_8 hc hi, md1_46_9 hc hi, md1_46_10 hc hi, md1_46_11 hc hi, md1_0 hc hi, md1_9 hc hi, md1_44 hc hi, md1_send hc hi, md1_rp0 hc hi, md1_rp1 hc hi, md1_rp2 hc hi, md1_Mo_obeys_1_j53 hc hi]; done)))
theorem md1_Mo_obeys_1_j35 {c i k : Nat} (hc : c ≠ 0 ∧ c ≠ 4 ∧ c ≠ 5 ∧ c ≠ 6 ∧ c ≠ 7 ∧ c ≠ 8 ∧ c ≠ 9 ∧ c ≠ 44) (hi : ¬ ((28 ≤ c ∧ c ≤ 39 ∧ k = 1) ∨ (c = 43 ∧ 3 ≤ k ∧ k < 6) ∨ (c = 46 ∧ 6 ≤ k ∧ k < 12) ∨ ((c = 47 ∨ c = 48) ∧ 4 ≤ k ∧ k < 8))) : ∀ (v0 : fw_V) (a2 : Int32) (a3 : Int32), mf_Mo_obeys_1_j35 v0 a2 a3 c i k = v0 c i k := by
  intro v0 a2 a3
  unfold mf_Mo_obeys_1_j35
  (try dsimp only)
  all_goals ((repeat' split) <;> (first | with_reducible rfl | (simp only [md1_28 hc hi, md1_29 hc hi, md1_31 hc hi, md1_32 hc hi, md1_33 hc hi, md1_34 hc hi, md1_35 hc hi, md1_36 hc hi, md1_37 hc hi, md1_38 hc hi, md1_39 hc hi, md1_43_3 hc hi, md1_43_4 hc hi, md1_43_5 hc hi, md1_47_4 hc hi, md1_48_4 hc hi, md1_47_5 hc hi, md1_48_5 hc hi, md1_47_6 hc hi, md1_48_6 hc hi, md1_47_7 hc hi, md1_48_7 hc hi, md1_46_6 hc hi, md1_46_7 hc hi, md1_46_8 hc hi, md1_46_9 hc hi, md1_46_10 hc hi, md1_46_11 hc hi, md1_0 hc hi, md1_9 hc hi, md1_44 hc hi, md1_send hc hi, md1_rp0 hc hi, md1_rp1 hc hi, md1_rp2 hc hi, md1_Mo_obeys_1_j36 hc hi, md1_Mo_obeys_1_j52 hc hi]; done)))
theorem md1_Mo_obeys_1_j9 {c i k : Nat} (hc : c ≠ 0 ∧ c ≠ 4 ∧ c ≠ 5 ∧ c ≠ 6 ∧ c ≠ 7 ∧ c ≠ 8 ∧ c ≠ 9 ∧ c ≠ 44) (hi : ¬ ((28 ≤ c ∧ c ≤ 39 ∧ k = 1) ∨ (c = 43 ∧ 3 ≤ k ∧ k < 6) ∨ (c = 46 ∧ 6 ≤ k ∧ k < 12) ∨ ((c = 47 ∨ c = 48) ∧ 4 ≤ k ∧ k < 8))) : ∀ (v : fw_V) (a2 : Int32) (a3 : Int32), mf_Mo_obeys_1_j9 v a2 a3 c i k = v c i k := by
  intro v a2 a3
  unfold mf_Mo_obeys_1_j9
  (try dsimp only)
  all_goals ((repeat' split) <;> (first | with_reducible rfl | (simp only [md1_28 hc hi, md1_29 hc hi, md1_31 hc hi, md1_32 hc hi, md1_33 hc hi, md1_34 hc hi, md1_35 hc hi, md1_36 hc hi, md1_37 hc hi, md1_38 hc hi, md1_39 hc hi, md1_43_3 hc hi, md1_43_4 hc hi, md1_43_5 hc hi, md1_47_4 hc hi, md1_48_4 hc hi, md1_47_5 hc hi, md1_48_5 hc hi, md1_47_6 hc hi, md1_48_6 hc hi, md1_47_7 hc hi, md1_48_7 hc hi, md1_46_6 hc hi, md1_46_7 hc hi, md1_46_8 hc hi, md1_46_9 hc hi, md1_46_10 hc hi, md1_46_11 hc hi, md1_0 hc hi, md1_9 hc hi, md1_44 hc hi, md1_send hc hi, md1_rp0 hc hi, md1_rp1 hc hi, md1_rp2 hc hi]; done)))
theorem md1_Mo_obeys_1_j8 {c i k : Nat} (hc : c ≠ 0 ∧ c ≠ 4 ∧ c ≠ 5 ∧ c ≠ 6 ∧ c ≠ 7 ∧ c ≠ 8 ∧ c ≠ 9 ∧ c ≠ 44) (hi : ¬ ((28 ≤ c ∧ c ≤ 39 ∧ k = 1) ∨ (c = 43 ∧ 3 ≤ k ∧ k < 6) ∨ (c = 46 ∧ 6 ≤ k ∧ k < 12) ∨ ((c = 47 ∨ c = 48) ∧ 4 ≤ k ∧ k < 8))) : ∀ (v : fw_V) (a2 : Int32) (a3 : Int32), mf_Mo_obeys_1_j8 v a2 a3 c i k = v c i k := by
  intro v a2 a3
  unfold mf_Mo_obeys_1_j8
  (try dsimp only)
  all_goals ((repeat' split) <;> (first | with_reducible rfl | (simp only [md1_28 hc hi, md1_29 hc hi, md1_31 hc hi, md1_32 hc hi, md1_33 hc hi, md1_34 hc hi, md1_35 hc hi, md1_36 hc hi, md1_37 hc hi, md1_38 hc hi, md1_39 hc hi, md1_43_3 hc hi, md1_43_4 hc hi, md1_43_5 hc hi, md1_47_4 hc hi, md1_48_4 hc hi, md1_47_5 hc hi, md1_48_5 hc hi, md1_47_6 hc hi, md1_48_6 hc hi, md1_47_7 hc hi, md1_48_7 hc hi, md1_46_6 hc hi, md1_46_7 hc hi, md1_46_8 hc hi, md1_46_9 hc hi, md1_46_10 hc hi, md1_46_11 hc hi, md1_0 hc hi, md1_9 hc hi, md1_44 hc hi, md1_send hc hi, md1_rp0 hc hi, md1_rp1 hc hi, md1_rp2 hc hi, md1_Mo_obeys_1_j9 hc hi]; done)))
theorem md1_Mo_obeys_1_j7 {c i k : Nat} (hc : c ≠ 0 ∧ c ≠ 4 ∧ c ≠ 5 ∧ c ≠ 6 ∧ c ≠ 7 ∧ c ≠ 8 ∧ c ≠ 9 ∧ c ≠ 44) (hi : ¬ ((28 ≤ c ∧ c ≤ 39 ∧ k = 1) ∨ (c = 43 ∧ 3 ≤ k ∧ k < 6) ∨ (c = 46 ∧ 6 ≤ k ∧ k < 12) ∨ ((c = 47 ∨ c = 48) ∧ 4 ≤ k ∧ k < 8))) : ∀ (v : fw_V) (a2 : Int32) (a3 : Int32), mf_Mo_obeys_1_j7 v a2 a3 c i k = v c i k := by
  intro v a2 a3
  unfold mf_Mo_obeys_1_j7
  (try dsimp only)
  all_goals ((repeat' split) <;> (first | with_reducible rfl | (simp only [md1_28 hc hi, md1_29 hc hi, md1_31 hc hi, md1_32 hc hi, md1_33 hc hi, md1_34 hc hi, md1_35 hc hi, md1_36 hc hi, md1_37 hc hi, md1_38 hc hi, md1_39 hc hi, md1_43_3 hc hi, md1_43_4 hc hi, md1_43_5 hc hi, md1_47_4 hc hi, md1_48_4 hc hi, md1_47_5 hc hi, md1_48_5 hc hi, md1_47_6 hc hi, md1_48_6 hc hi, md1_47_7 hc hi, md1_48_7 hc hi, md1_46_6 hc hi, md1_46_7 hc hi, md1_46_8 hc hi, md1_46_9 hc hi, md1_46_10 hc hi, md1_46_11 hc hi, md1_0 hc hi, md1_9 hc hi, md1_44 hc hi, md1_send hc hi, md1_rp0 hc hi, md1_rp1 hc hi, md1_rp2 hc hi, md1_Mo_obeys_1_j8 hc hi]; done)))
theorem md1_Mo_obeys_1_j6 {c i k : Nat} (hc : c ≠ 0 ∧ c ≠ 4 ∧ c ≠ 5 ∧ c ≠ 6 ∧ c ≠ 7 ∧ c ≠ 8 ∧ c ≠ 9 ∧ c ≠ 44) (hi : ¬ ((28 ≤ c ∧ c ≤ 39 ∧ k = 1) ∨ (c = 43 ∧ 3 ≤ k ∧ k < 6) ∨ (c = 46 ∧ 6 ≤ k ∧ k < 12) ∨ ((c = 47 ∨ c = 48) ∧ 4 ≤ k ∧ k < 8))) : ∀ (v : fw_V) (a2 : Int32) (a3 : Int32), mf_Mo_obeys_1_j6 v a2 a3 c i k = v c i k := by
  intro v a2 a3
  unfold mf_Mo_obeys_1_j6
  (try dsimp only)
  all_goals ((repeat' split) <;> (first | with_reducible rfl | (simp only [md1_28 hc hi, md1_29 hc hi, md1_31 hc hi, md1_32 hc hi, md1_33 hc hi, md1_34 hc hi, md1_35 hc hi, md1_36 hc hi, md1_37 hc hi, md1_38 hc hi, md1_39 hc hi, md1_43_3 hc hi, md1_43_4 hc hi, md1_43_5 hc hi, md1_47_4 hc hi, md1_48_4 hc hi, md1_47_5 hc hi, md1_48_5 hc hi, md1_47_6 hc hi, md1_48_6 hc hi, md1_47_7 hc hi, md1_48_7 hc hi, md1_46_6 hc hi, md1_46_7 hc hi, md1_46_8 hc hi, md1_46_9 hc hi, md1_46_10 hc hi, md1_46_11 hc hi, md1_0 hc hi, md1_9 hc hi, md1_44 hc hi, md1_send hc hi, md1_rp0 hc hi, md1_rp1 hc hi, md1_rp2 hc hi, md1_Mo_obeys_1_j7 hc hi]; done)))
theorem md1_Mo_obeys_1_j61 {c i k : Nat} (hc : c ≠ 0 ∧ c ≠ 4 ∧ c ≠ 5 ∧ c ≠ 6 ∧ c ≠ 7 ∧ c ≠ 8 ∧ c ≠ 9 ∧ c ≠ 44) (hi : ¬ ((28 ≤ c ∧ c ≤ 39 ∧ k = 1) ∨ (c = 43 ∧ 3 ≤ k ∧ k < 6) ∨ (c = 46 ∧ 6 ≤ k ∧ k < 12) ∨ ((c = 47 ∨ c = 48) ∧ 4 ≤ k ∧ k < 8))) : ∀ (v0 : fw_V) (a2 : Int32) (a3 : Int32), mf_Mo_obeys_1_j61 v0 a2 a3 c i k = v0 c i k := by
  intro v0 a2 a3
  unfold mf_Mo_obeys_1_j61
  (try dsimp only)
  all_goals ((repeat' split) <;> (first | with_reducible rfl | (simp only [md1_28 hc hi, md1_29 hc hi, md1_31 hc hi, md1_32 hc hi, md1_33 hc hi, md1_34 hc hi, md1_35 hc hi, md1_36 hc hi, md1_37 hc hi, md1_38 hc hi, md1_39 hc hi, md1_43_3 hc hi, md1_43_4 hc hi, md1_43_5 hc hi, md1_47_4 hc hi, md1_48_4 hc hi, md1_47_5 hc hi, md1_48_5 hc hi, md1_47_6 hc hi, md1_48_6 hc hi, md1_47_7 hc hi, md1_48_7 hc hi, md1_46_6 hc hi, md1_46_7 hc hi, md1_46_8 hc hi, md1_46_9 hc hi, md1_46_10 hc hi, md1_46_11 hc hi, md1_0 hc hi, md1_9 hc hi, md1_44 hc hi, md1_send hc hi, md1_rp0 hc hi, md1_rp1 hc hi, md1_rp2 hc hi, md1_Mo_rest_1 hc hi, md1_Mo_obeys_1_j6 hc hi]; done)))
theorem md1_Mo_obeys_1_j22 {c i k : Nat} (hc : c ≠ 0 ∧ c ≠ 4 ∧ c ≠ 5 ∧ c ≠ 6 ∧ c ≠ 7 ∧ c ≠ 8 ∧ c ≠ 9 ∧ c ≠ 44) (hi : ¬ ((28 ≤ c ∧ c ≤ 39 ∧ k = 1) ∨ (c = 43 ∧ 3 ≤ k ∧ k < 6) ∨ (c = 46 ∧ 6 ≤ k ∧ k < 12) ∨ ((c = 47 ∨ c = 48) ∧ 4 ≤ k ∧ k < 8))) : ∀ (v : fw_V) (a2 : Int32) (a3 : Int32), mf_Mo_obeys_1_j22 v a2 a3 c i k = v c i k := by
  intro v a2 a3
  unfold mf_Mo_obeys_1_j22
  (try dsimp only)
  all_goals ((repeat' split) <;> (first | with_reducible rfl | (simp only [md1_28 hc hi, md1_29 hc hi, md1_31 hc hi, md1_32 hc hi, md1_33 hc hi, md1_34 hc hi, md1_35 hc hi, md1_36 hc hi, md1_37 hc hi, md1_38 hc hi, md1_39 hc hi, md1_43_3 hc hi, md1_43_4 hc hi, md1_43_5 hc hi, md1_47_4 hc hi, md1_48_4 hc hi, md1_47_5 hc hi, md1_48_5 hc hi, md1_47_6 hc hi, md1_48_6 hc hi, md1_47_7 hc hi, md1_48_7 hc hi, md1_46_6 hc hi, md1_46_7 hc hi, md1_46_8 hc hi, md1_46_9 hc hi, md1_46_10 hc hi, md1_46_11 hc hi, md1_0 hc hi, md1_9 hc hi, md1_44 hc hi, md1_send hc hi, md1_rp0 hc hi, md1_rp1 hc hi, md1_rp2 hc hi]; done)))
theorem md1_Mo_obeys_1_j21 {c i k : Nat} (hc : c ≠ 0 ∧ c ≠ 4 ∧ c ≠ 5 ∧ c ≠ 6 ∧ c ≠ 7 ∧ c ≠ 8 ∧ c ≠ 9 ∧ c ≠ 44) (hi : ¬ ((28 ≤ c ∧ c ≤ 39 ∧ k = 1) ∨ (c = 43 ∧ 3 ≤ k ∧ k < 6) ∨ (c = 46 ∧ 6 ≤ k ∧ k < 12) ∨ ((c = 47 ∨ c = 48) ∧ 4 ≤ k ∧ k < 8))) : ∀ (v : fw_V) (a2 : Int32) (a3 : Int32), mf_Mo_obeys_1_j21 v a2 a3 c i k = v c i k := by
  intro v a2 a3
  unfold mf_Mo_obeys_1_j21
  (try dsimp only)
  all_goals ((repeat' split) <;> (first | with_reducible rfl | (simp only [md1_28 hc hi, md1_29 hc hi, md1_31 hc hi, md1_32 hc hi, md1_33 hc hi, md1_34 hc hi, md1_35 hc hi, md1_36 hc hi, md1_37 hc hi, md1_38 hc hi, md1_39 hc hi, md1_43_3 hc hi, md1_43_4 hc hi, md1_43_5 hc hi, md1_47_4 hc hi, md1_48_4 hc hi, md1_47_5 hc hi, md1_48_5 hc hi, md1_47_6 hc hi, md1_48_6 hc hi, md1_47_7 hc hi, md1_48_7 hc hi, md1_46_6 hc hi, md1_46_7 hc hi, md1_46_8 hc hi, md1_46_9 hc hi, md1_46_10 hc hi, md1_46_11 hc hi, md1_0 hc hi, md1_9 hc hi, md1_44 hc hi, md1_send hc hi, md1_rp0 hc hi, md1_rp1 hc hi, md1_rp2 hc hi, md1_Mo_obeys_1_j22 hc hi]; done)))
theorem md1_Mo_obeys_1_j23 {c i k : Nat} (hc : c ≠ 0 ∧ c ≠ 4 ∧ c ≠ 5 ∧ c ≠ 6 ∧ c ≠ 7 ∧ c ≠ 8 ∧ c ≠ 9 ∧ c ≠ 44) (hi : ¬ ((28 ≤ c ∧ c ≤ 39 ∧ k = 1) ∨ (c = 43 ∧ 3 ≤ k ∧ k < 6) ∨ (c = 46 ∧ 6 ≤ k ∧ k < 12) ∨ ((c = 47 ∨ c = 48) ∧ 4 ≤ k ∧ k < 8))) : ∀ (v : fw_V) (a2 : Int32) (a3 : Int32), mf_Mo_obeys_1_j23 v a2 a3 c i k = v c i k := by
  intro v a2 a3
  unfold mf_Mo_obeys_1_j23
  (try dsimp only)
  all_goals ((repeat' split) <;> (first | with_reducible rfl | (simp only [md1_28 hc hi, md1_29 hc hi, md1_31 hc hi, md1_32 hc hi, md1_33 hc hi, md1_34 hc hi, md1_35 hc hi, md1_36 hc hi, md1_37 hc hi, md1_38 hc hi, md1_39 hc hi, md1_43_3 hc hi, md1_43_4 hc hi, md1_43_5 hc hi, md1_47_4 hc hi, md1_48_4 hc hi, md1_47_5 hc hi, md1_48_5 hc hi, md1_47_6 hc hi, md1_48_6 hc hi, md1_47_7 hc hi, md1_48_7 hc hi, md1_46_6 hc hi, md1_46_7 hc hi, md1_46_8 hc hi, md1_46_9 hc hi, md1_46_10 hc hi, md1_46_11 hc hi, md1_0 hc hi, md1_9 hc hi, md1_44 hc hi, md1_send hc hi, md1_rp0 hc hi, md1_rp1 hc hi, md1_rp2 hc hi, md1_Mo_obeys_1_j21 hc hi]; done)))
theorem md1_Mo_obeys_1_j24 {c i k : Nat} (hc : c ≠ 0 ∧ c ≠ 4 ∧ c ≠ 5 ∧ c ≠ 6 ∧ c ≠ 7 ∧ c ≠ 8 ∧ c ≠ 9 ∧ c ≠ 44) (hi : ¬ ((28 ≤ c ∧ c ≤ 39 ∧ k = 1) ∨ (c = 43 ∧ 3 ≤ k ∧ k < 6) ∨ (c = 46 ∧ 6 ≤ k ∧ k < 12) ∨ ((c = 47 ∨ c = 48) ∧ 4 ≤ k ∧ k < 8))) : ∀ (v : fw_V) (a2 : Int32) (a3 : Int32) (x90 : Int32), mf_Mo_obeys_1_j24 v a2 a3 x90 c i k = v c i k := by
  intro v a2 a3 x90
  unfold mf_Mo_obeys_1_j24
  (try dsimp only)
  all_goals ((repeat' split) <;> (first | with_reducible rfl | (simp only [md1_28 hc hi, md1_29 hc hi, md1_31 hc hi, md1_32 hc hi, md1_33 hc hi, md1_34 hc hi, md1_35 hc hi, md1_36 hc hi, md1_37 hc hi, md1_38 hc hi, md1_39 hc hi, md1_43_3 hc hi, md1_43_4 hc hi, md1_43_5 hc hi, md1_47_4 hc hi, md1_48_4 hc hi, md1_47_5 hc hi, md1_48_5 hc hi, md1_47_6 hc hi, md1_48_6 hc hi, md1_47_7 hc hi, md1_48_7 hc hi, md1_46_6 hc hi, md1_46_7 hc hi, md1_46_8 hc hi, md1_46_9 hc hi, md1_46_10 hc hi, md1_46_11 hc hi, md1_0 hc hi, md1_9 hc hi, md1_44 hc hi, md1_send hc hi, md1_rp0 hc hi, md1_rp1 hc hi, md1_rp2 hc hi, md1_Mo_obeys_1_j21 hc hi]; done)))
theorem md1_Mo_obeys_1_j20 {c i k : Nat} (hc : c ≠ 0 ∧ c ≠ 4 ∧ c ≠ 5 ∧ c ≠ 6 ∧ c ≠ 7 ∧ c ≠ 8 ∧ c ≠ 9 ∧ c ≠ 44) (hi : ¬ ((28 ≤ c ∧ c ≤ 39 ∧ k = 1) ∨ (c = 43 ∧ 3 ≤ k ∧ k < 6) ∨ (c = 46 ∧ 6 ≤ k ∧ k < 12) ∨ ((c = 47 ∨ c = 48) ∧ 4 ≤ k ∧ k < 8))) : ∀ (v : fw_V) (a2 : Int32) (a3 : Int32), mf_Mo_obeys_1_j20 v a2 a3 c i k = v c i k := by
  intro v a2 a3
  unfold mf_Mo_obeys_1_j20
  (try dsimp only)
  all_goals ((repeat' split) <;> (first | with_reducible rfl | (simp only [md1_28 hc hi, md1_29 hc hi, md1_31 hc hi, md1_32 hc hi, md1_33 hc hi, md1_34 hc hi, md1_35 hc hi, md1_36 hc hi, md1_37 hc hi, md1_38 hc hi, md1_39 hc hi, md1_43_3 hc hi, md1_43_4 hc hi, md1_43_5 hc hi, md1_47_4 hc hi, md1_48_4 hc hi, md1_47_5 hc hi, md1_48_5 hc hi, md1_47_6 hc hi, md1_48_6 hc hi, md1_47_7 hc hi, md1_48_7 hc hi, md1_46_6 hc hi, md1_46_7 hc hi, md1_46_8 hc hi, md1_46_9 hc hi, md1_46_10 hc hi, md1_46_11 hc hi, md1_0 hc hi, md1_9 hc hi, md1_44 hc hi, md1_send hc hi, md1_rp0 hc hi, md1_rp1 hc hi, md1_rp2 hc hi, md1_Mo_obeys_1_j21 hc hi, md1_Mo_obeys_1_j23 hc hi, md1_Mo_obeys_1_j24 hc hi]; done)))
theorem md1_Mo_obeys_1_j19 {c i k : Nat} (hc : c ≠ 0 ∧ c ≠ 4 ∧ c ≠ 5 ∧ c ≠ 6 ∧ c ≠ 7 ∧ c ≠ 8 ∧ c ≠ 9 ∧ c ≠ 44) (hi : ¬ ((28 ≤ c ∧ c ≤ 39 ∧ k = 1) ∨ (c = 43 ∧ 3 ≤ k ∧ k < 6) ∨ (c = 46 ∧ 6 ≤ k ∧ k < 12) ∨ ((c = 47 ∨ c = 48) ∧ 4 ≤ k ∧ k < 8))) : ∀ (v : fw_V) (a2 : Int32) (a3 : Int32), mf_Mo_obeys_1_j19 v a2 a3 c i k = v c i k := by
  intro v a2 a3
  unfold mf_Mo_obeys_1_j19
  (try dsimp only)
  all_goals ((repeat' split) <;> (first | with_reducible rfl | (simp only [md1_28 hc hi, md1_29 hc hi, md1_31 hc hi, md1_32 hc hi, md1_33 hc hi, md1_34 hc hi, md1_35 hc hi, md1_36 hc hi, md1_37 hc hi, md1_38 hc hi, md1_39 hc hi, md1_43_3 hc hi, md1_43_4 hc hi, md1_43_5 hc hi, md1_47_4 hc hi, md1_48_4 hc hi, md1_47_5 hc hi, md1_48_5 hc hi, md1_47_6 hc hi, md1_48_6 hc hi, md1_47_7 hc hi, md1_48_7 hc hi, md1_46_6 hc hi, md1_46_7 hc hi, md1_46_8 hc hi, md1_46_9 hc hi, md1_46_10 hc hi, md1_46_11 hc hi, md1_0 hc hi, md1_9 hc hi, md1_44 hc hi, md1_send hc hi, md1_rp0 hc hi, md1_rp1 hc hi, md1_rp2 hc hi, md1_Mo_obeys_1_j20 hc hi]; done)))
theorem md1_Mo_obeys_1_j25 {c i k : Nat} (hc : c ≠ 0 ∧ c ≠ 4 ∧ c ≠ 5 ∧ c ≠ 6 ∧ c ≠ 7 ∧ c ≠ 8 ∧ c ≠ 9 ∧ c ≠ 44) (hi : ¬ ((28 ≤ c ∧ c ≤ 39 ∧ k = 1) ∨ (c = 43 ∧ 3 ≤ k ∧ k < 6) ∨ (c = 46 ∧ 6 ≤ k ∧ k < 12) ∨ ((c = 47 ∨ c = 48) ∧ 4 ≤ k ∧ k < 8))) : ∀ (v : fw_V) (a2 : Int32) (a3 : Int32), mf_Mo_obeys_1_j25 v a2 a3 c i k = v c i k := by
  intro v a2 a3
  unfold mf_Mo_obeys_1_j25
  (try dsimp only)
  all_goals ((repeat' split) <;> (first | with_reducible rfl | (simp only [md1_28 hc hi, md1_29 hc hi, md1_31 hc hi, md1_32 hc hi, md1_33 hc hi, md1_34 hc hi, md1_35 hc hi, md1_36 hc hi, md1_37 hc hi, md1_38 hc hi, md1_39 hc hi, md1_43_3 hc hi, md1_43_4 hc hi, md1_43_5 hc hi, md1_47_4 hc hi, md1_48_4 hc hi, md1_47_5 hc hi, md1_48_5 hc hi, md1_47_6 hc hi, md1_48_6 hc hi, md1_47_7 hc hi, md1_48_7 hc hi, md1_46_6 hc hi, md1_46_7 hc hi, md1_46_8 hc hi, md1_46_9 hc hi, md1_46_10 hc hi, md1_46_11 hc hi, md1_0 hc hi, md1_9 hc hi, md1_44 hc hi, md1_send hc hi, md1_rp0 hc hi, md1_rp1 hc hi, md1_rp2 hc hi, md1_Mo_obeys_1_j19 hc hi]; done)))
theorem md1_Mo_obeys_1_j26 {c i k : Nat} (hc : c ≠ 0 ∧ c ≠ 4 ∧ c ≠ 5 ∧ c ≠ 6 ∧ c ≠ 7 ∧ c ≠ 8 ∧ c ≠ 9 ∧ c ≠ 44) (hi : ¬ ((28 ≤ c ∧ c ≤ 39 ∧ k = 1) ∨ (c = 43 ∧ 3 ≤ k ∧ k < 6) ∨ (c = 46 ∧ 6 ≤ k ∧ k < 12) ∨ ((c = 47 ∨ c = 48) ∧ 4 ≤ k ∧ k < 8))) : ∀ (v : fw_V) (a2 : Int32) (a3 : Int32) (x90 : Int32), mf_Mo_obeys_1_j26 v a2 a3 x90 c i k = v c i k := by
  intro v a2 a3 x90
  unfold mf_Mo_obeys_1_j26
  (try dsimp only)
  all_goals ((repeat' split) <;> (first | with_reducible rfl | (simp only [md1_28 hc hi, md1_29 hc hi, md1_31 hc hi, md1_32 hc hi, md1_33 hc hi, md1_34 hc hi, md1_35 hc hi, md1_36 hc hi, md1_37 hc hi, md1_38 hc hi, md1_39 hc hi, md1_43_3 hc hi, md1_43_4 hc hi, md1_43_5 hc hi, md1_47_4 hc hi, md1_48_4 hc hi, md1_47_5 hc hi, md1_48_5 hc hi, md1_47_6 hc hi, md1_48_6 hc hi, md1_47_7 hc hi, md1_48_7 hc hi, md1_46_6 hc hi, md1_46_7 hc hi, md1_46_8 hc hi, md1_46_9 hc hi, md1_46_10 hc hi, md1_46_11 hc hi, md1_0 hc hi, md1_9 hc hi, md1_44 hc hi, md1_send hc hi, md1_rp0 hc hi, md1_rp1 hc hi, md1_rp2 hc hi, md1_Mo_obeys_1_j19 hc hi]; done)))
theorem md1_Mo_obeys_1_j18 {c i k : Nat} (hc : c ≠ 0 ∧ c ≠ 4 ∧ c ≠ 5 ∧ c ≠ 6 ∧ c ≠ 7 ∧ c ≠ 8 ∧ c ≠ 9 ∧ c ≠ 44) (hi : ¬ ((28 ≤ c ∧ c ≤ 39 ∧ k = 1) ∨ (c = 43 ∧ 3 ≤ k ∧ k < 6) ∨ (c = 46 ∧ 6 ≤ k ∧ k < 12) ∨ ((c = 47 ∨ c = 48) ∧ 4 ≤ k ∧ k < 8))) : ∀ (v : fw_V) (a2 : Int32) (a3 : Int32), mf_Mo_obeys_1_j18 v a2 a3 c i k = v c i k := by
  intro v a2 a3
  unfold mf_Mo_obeys_1_j18
  (try dsimp only)
  all_goals ((repeat' split) <;> (first | with_reducible rfl | (simp only [md1_28 hc hi, md1_29 hc hi, md1_31 hc hi, md1_32 hc hi, md1_33 hc hi, md1_34 hc hi, md1_35 hc hi, md1_36 hc hi, md1_37 hc hi, md1_38 hc hi, md1_39 hc hi, md1_43_3 hc hi, md1_43_4 hc hi, md1_43_5 hc hi, md1_47_4 hc hi, md1_48_4 hc hi, md1_47_5 hc hi, md1_48_5 hc hi, md1_47_6 hc hi, md1_48_6 hc hi, md1_47_7 hc hi, md1_48_7 hc hi, md1_46_6 hc hi, md1_46_7 hc hi, md1_46_8 hc hi, md1_46_9 hc hi, md1_46_10 hc hi, md1_46_11 hc hi, md1_0 hc hi, md1_9 hc hi, md1_44 hc hi, md1_send hc hi, md1_rp0 hc hi, md1_rp1 hc hi, md1_rp2 hc hi, md1_Mo_obeys_1_j19 hc hi, md1_Mo_obeys_1_j25 hc hi, md1_Mo_obeys_1_j26 hc hi]; done)))
theorem md1_Mo_obeys_1_j17 {c i k : Nat} (hc : c ≠ 0 ∧ c ≠ 4 ∧ c ≠ 5 ∧ c ≠ 6 ∧ c ≠ 7 ∧ c ≠ 8 ∧ c ≠ 9 ∧ c ≠ 44) (hi : ¬ ((28 ≤ c ∧ c ≤ 39 ∧ k = 1) ∨ (c = 43 ∧ 3 ≤ k ∧ k < 6) ∨ (c = 46 ∧ 6 ≤ k ∧ k < 12) ∨ ((c = 47 ∨ c = 48) ∧ 4 ≤ k ∧ k < 8))) : ∀ (v : fw_V) (a2 : Int32) (a3 : Int32), mf_Mo_obeys_1_j17 v a2 a3 c i k = v c i k := by
  intro v a2 a3
  unfold mf_Mo_obeys_1_j17
  (try dsimp only)
  all_goals ((repeat' split) <;> (first | with_reducible rfl | (simp only [md1_28 hc hi, md1_29 hc hi, md1_31 hc hi, md1_32 hc hi, md1_33 hc hi, md1_34 hc hi, md1_35 hc hi, md1_36 hc hi, md1_37 hc hi, md1_38 hc hi, md1_39 hc hi, md1_43_3 hc hi, md1_43_4 hc hi, md1_43_5 hc hi, md1_47_4 hc hi, md1_48_4 hc hi, md1_47_5 hc hi, md1_48_5 hc hi, md1_47_6 hc hi, md1_48_6 hc hi, md1_47_7 hc hi, md1_48_7 hc hi, md1_46_6 hc hi, md1_46_7 hc hi, md1_46_8 hc hi, md1_46_9 hc hi, md1_46_10 hc hi, md1_46_11 hc hi, md1_0 hc hi, md1_9 hc hi, md1_44 hc hi, md1_send hc hi, md1_rp0 hc hi, md1_rp1 hc hi, md1_rp2 hc hi, md1_Mo_obeys_1_j18 hc hi]; done)))
theorem md1_Mo_obeys_1_j27 {c i k : Nat} (hc : c ≠ 0 ∧ c ≠ 4 ∧ c ≠ 5 ∧ c ≠ 6 ∧ c ≠ 7 ∧ c ≠ 8 ∧ c ≠ 9 ∧ c ≠ 44) (hi : ¬ ((28 ≤ c ∧ c ≤ 39 ∧ k = 1) ∨ (c = 43 ∧ 3 ≤ k ∧ k < 6) ∨ (c = 46 ∧ 6 ≤ k ∧ k < 12) ∨ ((c = 47 ∨ c = 48) ∧ 4 ≤ k ∧ k < 8))) : ∀ (v : fw_V) (a2 : Int32) (a3 : Int32), mf_Mo_obeys_1_j27 v a2 a3 c i k = v c i k := by
  intro v a2 a3
  unfold mf_Mo_obeys_1_j27
  (try dsimp only)
  all_goals ((repeat' split) <;> (first | with_reducible rfl | (simp only [md1_28 hc hi, md1_29 hc hi, md1_31 hc hi, md1_32 hc hi, md1_33 hc hi, md1_34 hc hi, md1_35 hc hi, md1_36 hc hi, md1_37 hc hi, md1_38 hc hi, md1_39 hc hi, md1_43_3 hc hi, md1_43_4 hc hi, md1_43_5 hc hi, md1_47_4 hc hi, md1_48_4 hc hi, md1_47_5 hc hi, md1_48_5 hc hi, md1_47_6 hc hi, md1_48_6 hc hi, md1_47_7 hc hi, md1_48_7 hc hi, md1_46_6 hc hi, md1_46_7 hc hi, md1_46_8 hc hi, md1_46_9 hc hi, md1_46_10 hc hi, md1_46_11 hc hi, md1_0 hc hi, md1_9 hc hi, md1_44 hc hi, md1_send hc hi, md1_rp0 hc hi, md1_rp1 hc hi, md1_rp2 hc hi, md1_Mo_obeys_1_j17 hc hi]; done)))
theorem md1_Mo_obeys_1_j28 {c i k : Nat} (hc : c ≠ 0 ∧ c ≠ 4 ∧ c ≠ 5 ∧ c ≠ 6 ∧ c ≠ 7 ∧ c ≠ 8 ∧ c ≠ 9 ∧ c ≠ 44) (hi : ¬ ((28 ≤ c ∧ c ≤ 39 ∧ k = 1) ∨ (c = 43 ∧ 3 ≤ k ∧ k < 6) ∨ (c = 46 ∧ 6 ≤ k ∧ k < 12) ∨ ((c = 47 ∨ c = 48) ∧ 4 ≤ k ∧ k < 8))) : ∀ (v : fw_V) (a2 : Int32) (a3 : Int32) (x90 : Int32), mf_Mo_obeys_1_j28 v a2 a3 x90 c i k = v c i k := by
  intro v a2 a3 x90
  unfold mf_Mo_obeys_1_j28
  (try dsimp only)
  all_goals ((repeat' split) <;> (first | with_reducible rfl | (simp only [md1_28 hc hi, md1_29 hc hi, md1_31 hc hi, md1_32 hc hi, md1_33 hc hi, md1_34 hc hi, md1_35 hc hi, md1_36 hc hi, md1_37 hc hi, md1_38 hc hi, md1_39 hc hi, md1_43_3 hc hi, md1_43_4 hc hi, md1_43_5 hc hi, md1_47_4 hc hi, md1_48_4 hc hi, md1_47_5 hc hi, md1_48_5 hc hi, md1_47_6 hc hi, md1_48_6 hc hi, md1_47_7 hc hi, md1_48_7 hc hi, md1_46_6 hc hi, md1_46_7 hc hi, md1_46_8 hc hi, md1_46_9 hc hi, md1_46_10 hc hi, md1_46_11 hc hi, md1_0 hc hi, md1_9 hc hi, md1_44 hc hi, md1_send hc hi, md1_rp0 hc hi, md1_rp1 hc hi, md1_rp2 hc hi, md1_Mo_obeys_1_j17 hc hi]; done)))
theorem md1_Mo_obeys_1_j16 {c i k : Nat} (hc : c ≠ 0 ∧ c ≠ 4 ∧ c ≠ 5 ∧ c ≠ 6 ∧ c ≠ 7 ∧ c ≠ 8 ∧ c ≠ 9 ∧ c ≠ 44) (hi : ¬ ((28 ≤ c ∧ c ≤ 39 ∧ k = 1) ∨ (c = 43 ∧ 3 ≤ k ∧ k < 6) ∨ (c = 46 ∧ 6 ≤ k ∧ k < 12) ∨ ((c = 47 ∨ c = 48) ∧ 4 ≤ k ∧ k < 8))) : ∀ (v : fw_V) (a2 : Int32) (a3 : Int32), mf_Mo_obeys_1_j16 v a2 a3 c i k = v c i k := by
  intro v a2 a3
  unfold mf_Mo_obeys_1_j16
  (try dsimp only)
  all_goals ((repeat' split) <;> (first | with_reducible rfl | (simp only [md1_28 hc hi, md1_29 hc hi, md1_31 hc hi, md1_32 hc hi, md1_33 hc hi, md1_34 hc hi, md1_35 hc hi, md1_36 hc hi, md1_37 hc hi, md1_38 hc hi, md1_39 hc hi, md1_43_3 hc hi, md1_43_4 hc hi, md1_43_5 hc hi, md1_47_4 hc hi, md1_48_4 hc hi, md1_47_5 hc hi, md1_48_5 hc hi, md1_47_6 hc hi, md1_48_6 hc hi, md1_47_7 hc hi, md1_48_7 hc hi, md1_46_6 hc hi, md1_46_7 hc hi, md1_46_8 hc hi, md1_46_9 hc hi, md1_46_10 hc hi, md1_46_11 hc hi, md1_0 hc hi, md1_9 hc hi, md1_44 hc hi, md1_send hc hi, md1_rp0 hc hi, md1_rp1 hc hi, md1_rp2 hc hi, md1_Mo_obeys_1_j17 hc hi, md1_Mo_obeys_1_j27 hc hi, md1_Mo_obeys_1_j28 hc hi]; done)))
theorem md1_Mo_obeys_1_j15 {c i k : Nat} (hc : c ≠ 0 ∧ c ≠ 4 ∧ c ≠ 5 ∧ c ≠ 6 ∧ c ≠ 7 ∧ c ≠ 8 ∧ c ≠ 9 ∧ c ≠ 44) (hi : ¬ ((28 ≤ c ∧ c ≤ 39 ∧ k = 1) ∨ (c = 43 ∧ 3 ≤ k ∧ k < 6) ∨ (c = 46 ∧ 6 ≤ k ∧ k < 12) ∨ ((c = 47 ∨ c = 48) ∧ 4 ≤ k ∧ k < 8))) : ∀ (v : fw_V) (a2 : Int32) (a3 : Int32), mf_Mo_obeys_1_j15 v a2 a3 c i k = v c i k := by
  intro v a2 a3
  unfold mf_Mo_obeys_1_j15
  (try dsimp only)
  all_goals ((repeat' split) <;> (first | with_reducible rfl | (simp only [md1_28 hc hi, md1_29 hc hi, md1_31 hc hi, md1_32 hc hi, md1_33 hc hi, md1_34 hc hi, md1_35 hc hi, md1_36 hc hi, md1_37 hc hi, md1_38 hc hi, md1_39 hc hi, md1_43_3 hc hi, md1_43_4 hc hi, md1_43_5 hc hi, md1_47_4 hc hi, md1_48_4 hc hi, md1_47_5 hc hi, md1_48_5 hc hi, md1_47_6 hc hi, md1_48_6 hc hi, md1_47_7 hc hi, md1_48_7 hc hi, md1_46_6 hc hi, md1_46_7 hc hi, md1_46_8 hc hi, md1_46_9 hc hi, md1_46_10 hc hi, md1_46_11 hc hi, md1_0 hc hi, md1_9 hc hi, md1_44 hc hi, md1_send hc hi, md1_rp0 hc hi, md1_rp1 hc hi, md1_rp2 hc hi, md1_Mo_obeys_1_j16 hc hi]; done)))
theorem md1_Mo_obeys_1_j29 {c i k : Nat} (hc : c ≠ 0 ∧ c ≠ 4 ∧ c ≠ 5 ∧ c ≠ 6 ∧ c ≠ 7 ∧ c ≠ 8 ∧ c ≠ 9 ∧ c ≠ 44) (hi : ¬ ((28 ≤ c ∧ c ≤ 39 ∧ k = 1) ∨ (c = 43 ∧ 3 ≤ k ∧ k < 6) ∨ (c = 46 ∧ 6 ≤ k ∧ k < 12) ∨ ((c = 47 ∨ c = 48) ∧ 4 ≤ k ∧ k < 8))) : ∀ (v : fw_V) (a2 : Int32) (a3 : Int32), mf_Mo_obeys_1_j29 v a2 a3 c i k = v c i k := by
  intro v a2 a3
  unfold mf_Mo_obeys_1_j29
  (try dsimp only)
  all_goals ((repeat' split) <;> (first | with_reducible rfl | (simp only [md1_28 hc hi, md1_29 hc hi, md1_31 hc hi, md1_32 hc hi, md1_33 hc hi, md1_34 hc hi, md1_35 hc hi, md1_36 hc hi, md1_37 hc hi, md1_38 hc hi, md1_39 hc hi, md1_43_3 hc hi, md1_43_4 hc hi, md1_43_5 hc hi, md1_47_4 hc hi, md1_48_4 hc hi, md1_47_5 hc hi, md1_48_5 hc hi, md1_47_6 hc hi, md1_48_6 hc hi, md1_47_7 hc hi, md1_48_7 hc hi, md1_46_6 hc hi, md1_46_7 hc hi, md1_46_8 hc hi, md1_46_9 hc hi, md1_46_10 hc hi, md1_46_11 hc hi, md1_0 hc hi, md1_9 hc hi, md1_44 hc hi, md1_send hc hi, md1_rp0 hc hi, md1_rp1 hc hi, md1_rp2 hc hi, md1_Mo_obeys_1_j15 hc hi]; done)))
theorem md1_Mo_obeys_1_j30 {c i k : Nat} (hc : c ≠ 0 ∧ c ≠ 4 ∧ c ≠ 5 ∧ c ≠ 6 ∧ c ≠ 7 ∧ c ≠ 8 ∧ c ≠ 9 ∧ c ≠ 44) (hi : ¬ ((28 ≤ c ∧ c ≤ 39 ∧ k = 1) ∨ (c = 43 ∧ 3 ≤ k ∧ k < 6) ∨ (c = 46 ∧ 6 ≤ k ∧ k < 12) ∨ ((c = 47 ∨ c = 48) ∧ 4 ≤ k ∧ k < 8))) : ∀ (v : fw_V) (a2 : Int32) (a3 : Int32) (x90 : Int32), mf_Mo_obeys_1_j30 v a2 a3 x90 c i k = v c i k := by
  intro v a2 a3 x90
  unfold mf_Mo_obeys_1_j30
  (try dsimp only)
  all_goals ((repeat' split) <;> (first | with_reducible rfl | (simp only [md1_28 hc hi, md1_29 hc hi, md1_31 hc hi, md1_32 hc hi, md1_33 hc hi, md1_34 hc hi, md1_35 hc hi, md1_36 hc hi, md1_37 hc hi, md1_38 hc hi, md1_39 hc hi, md1_43_3 hc hi, md1_43_4 hc hi, md1_43_5 hc hi, md1_47_4 hc hi, md1_48_4 hc hi, md1_47_5 hc hi, md1_48_5 hc hi, md1_47_6 hc hi, md1_48_6 hc hi, md1_47_7 hc hi, md1_48_7 hc hi, md1_46_6 hc hi, md1_46_7 hc hi, md1_46_8 hc hi, md1_46_9 hc hi, md1_46_10 hc hi, md1_46_11 hc hi, md1_0 hc hi, md1_9 hc hi, md1_44 hc hi, md1_send hc hi, md1_rp0 hc hi, md1_rp1 hc hi, md1_rp2 hc hi, md1_Mo_obeys_1_j15 hc hi]; done)))
theorem md1_Mo_obeys_1_j14 {c i k : Nat} (hc : c ≠ 0 ∧ c ≠ 4 ∧ c ≠ 5 ∧ c ≠ 6 ∧ c ≠ 7 ∧ c ≠ 8 ∧ c ≠ 9 ∧ c ≠ 44) (hi : ¬ ((28 ≤ c ∧ c ≤ 39 ∧ k = 1) ∨ (c = 43 ∧ 3 ≤ k ∧ k < 6) ∨ (c = 46 ∧ 6 ≤ k ∧ k < 12) ∨ ((c = 47 ∨ c = 48) ∧ 4 ≤ k ∧ k < 8))) : ∀ (v : fw_V) (a2 : Int32) (a3 : Int32), mf_Mo_obeys_1_j14 v a2 a3 c i k = v c i k := by
  intro v a2 a3
  unfold mf_Mo_obeys_1_j14
  (try dsimp only)
  all_goals ((repeat' split) <;> (first | with_reducible rfl | (simp only [md1_28 hc hi, md1_29 hc hi, md1_31 hc hi, md1_32 hc hi, md1_33 hc hi, md1_34 hc hi, md1_35 hc hi, md1_36 hc hi, md1_37 hc hi, md1_38 hc hi, md1_39 hc hi, md1_43_3 hc hi, md1_43_4 hc hi, md1_43_5 hc hi, md1_47_4 hc hi, md1_48_4 hc hi, md1_47_5 hc hi, md1_48_5 hc hi, md1_47_6 hc hi, md1_48_6 hc hi, md1_47_7 hc hi, md1_48_7 hc hi, md1_46_6 hc hi, md1_46_7 hc hi, md1_46_8 hc hi, md1_46_9 hc hi, md1_46_10 hc hi, md1_46_11 hc hi, md1_0 hc hi, md1_9 hc hi, md1_44 hc hi, md1_send hc hi, md1_rp0 hc hi, md1_rp1 hc hi, md1_rp2 hc hi, md1_Mo_obeys_1_j15 hc hi, md1_Mo_obeys_1_j29 hc hi, md1_Mo_obeys_1_j30 hc hi]; done)))
theorem md1_Mo_obeys_1_j13 {c i k : Nat} (hc : c ≠ 0 ∧ c ≠ 4 ∧ c ≠ 5 ∧ c ≠ 6 ∧ c ≠ 7 ∧ c ≠ 8 ∧ c ≠ 9 ∧ c ≠ 44) (hi : ¬ ((28 ≤ c ∧ c ≤ 39 ∧ k = 1) ∨ (c = 43 ∧ 3 ≤ k ∧ k < 6) ∨ (c = 46 ∧ 6 ≤ k ∧ k < 12) ∨ ((c = 47 ∨ c = 48) ∧ 4 ≤ k ∧ k < 8))) : ∀ (v : fw_V) (a2 : Int32) (a3 : Int32), mf_Mo_obeys_1_j13 v a2 a3 c i k = v c i k := by
  intro v a2 a3
  unfold mf_Mo_obeys_1_j13
  (try dsimp only)
  all_goals ((repeat' split) <;> (first | with_reducible rfl | (simp only [md1_28 hc hi, md1_29 hc hi, md1_31 hc hi, md1_32 hc hi, md1_33 hc hi, md1_34 hc hi, md1_35 hc hi, md1_36 hc hi, md1_37 hc hi, md1_38 hc hi, md1_39 hc hi, md1_43_3 hc hi, md1_43_4 hc hi, md1_43_5 hc hi, md1_47_4 hc hi, md1_48_4 hc hi, md1_47_5 hc hi, md1_48_5 hc hi, md1_47_6 hc hi, md1_48_6 hc hi, md1_47_7 hc hi, md1_48_7 hc hi, md1_46_6 hc hi, md1_46_7 hc hi, md1_46_8 hc hi, md1_46_9 hc hi, md1_46_10 hc hi, md1_46_11 hc hi, md1_0 hc hi, md1_9 hc hi, md1_44 hc hi, md1_send hc hi, md1_rp0 hc hi, md1_rp1 hc hi, md1_rp2 hc hi, md1_Mo_obeys_1_j14 hc hi]; done)))
theorem md1_Mo_obeys_1_j31 {c i k : Nat} (hc : c ≠ 0 ∧ c ≠ 4 ∧ c ≠ 5 ∧ c ≠ 6 ∧ c ≠ 7 ∧ c ≠ 8 ∧ c ≠ 9 ∧ c ≠ 44) (hi : ¬ ((28 ≤ c ∧ c ≤ 39 ∧ k = 1) ∨ (c = 43 ∧ 3 ≤ k ∧ k < 6) ∨ (c = 46 ∧ 6 ≤ k ∧ k < 12) ∨ ((c = 47 ∨ c = 48) ∧ 4 ≤ k ∧ k < 8))) : ∀ (v : fw_V) (a2 : Int32) (a3 : Int32), mf_Mo_obeys_1_j31 v a2 a3 c i k = v c i k := by
  intro v a2 a3
  unfold mf_Mo_obeys_1_j31
  (try dsimp only)
  all_goals ((repeat' split) <;> (first | with_reducible rfl | (simp only [md1_28 hc hi, md1_29 hc hi, md1_31 hc hi, md1_32 hc hi, md1_33 hc hi, md1_34 hc hi, md1_35 hc hi, md1_36 hc hi, md1_37 hc hi, md1_38 hc hi, md1_39 hc hi, md1_43_3 hc hi, md1_43_4 hc hi, md1_43_5 hc hi, md1_47_4 hc hi, md1_48_4 hc hi, md1_47_5 hc hi, md1_48_5 hc hi, md1_47_6 hc hi, md1_48_6 hc hi, md1_47_7 hc hi, md1_48_7 hc hi, md1_46_6 hc hi, md1_46_7 hc hi, md1_46_8 hc hi, md1_46_9 hc hi, md1_46_10 hc hi, md1_46_11 hc hi, md1_0 hc hi, md1_9 hc hi, md1_44 hc hi, md1_send hc hi, md1_rp0 hc hi, md1_rp1 hc hi, md1_rp2 hc hi, md1_Mo_obeys_1_j13 hc hi]; done)))
theorem md1_Mo_obeys_1_j32 {c i k : Nat} (hc : c ≠ 0 ∧ c ≠ 4 ∧ c ≠ 5 ∧ c ≠ 6 ∧ c ≠ 7 ∧ c ≠ 8 ∧ c ≠ 9 ∧ c ≠ 44) (hi : ¬ ((28 ≤ c ∧ c ≤ 39 ∧ k = 1) ∨ (c = 43 ∧ 3 ≤ k ∧ k < 6) ∨ (c = 46 ∧ 6 ≤ k ∧ k < 12) ∨ ((c = 47 ∨ c = 48) ∧ 4 ≤ k ∧ k < 8))) : ∀ (v : fw_V) (a2 : Int32) (a3 : Int32) (x90 : Int32), mf_Mo_obeys_1_j32 v a2 a3 x90 c i k = v c i k := by
  intro v a2 a3 x90
  unfold mf_Mo_obeys_1_j32
  (try dsimp only)
  all_goals ((repeat' split) <;> (first | with_reducible rfl | (simp only [md1_28 hc hi, md1_29 hc hi, md1_31 hc hi, md1_32 hc hi, md1_33 hc hi, md1_34 hc hi, md1_35 hc hi, md1_36 hc hi, md1_37 hc hi, md1_38 hc hi, md1_39 hc hi, md1_43_3 hc hi, md1_43_4 hc hi, md1_43_5 hc hi, md1_47_4 hc hi, md1_48_4 hc hi, md1_47_5 hc hi, md1_48_5 hc hi, md1_47_6 hc hi, md1_48_6 hc hi, md1_47_7 hc hi, md1_48_7 hc hi, md1_46_6 hc hi, md1_46_7 hc hi, md1_46_8 hc hi, md1_46_9 hc hi, md1_46_10 hc hi, md1_46_11 hc hi, md1_0 hc hi, md1_9 hc hi, md1_44 hc hi, md1_send hc hi, md1_rp0 hc hi, md1_rp1 hc hi, md1_rp2 hc hi, md1_Mo_obeys_1_j13 hc hi]; done)))
theorem md1_Mo_obeys_1_j12 {c i k : Nat} (hc : c ≠ 0 ∧ c ≠ 4 ∧ c ≠ 5 ∧ c ≠ 6 ∧ c ≠ 7 ∧ c ≠ 8 ∧ c ≠ 9 ∧ c ≠ 44) (hi : ¬ ((28 ≤ c ∧ c ≤ 39 ∧ k = 1) ∨ (c = 43 ∧ 3 ≤ k ∧ k < 6) ∨ (c = 46 ∧ 6 ≤ k ∧ k < 12) ∨ ((c = 47 ∨ c = 48) ∧ 4 ≤ k ∧ k < 8))) : ∀ (v : fw_V) (a2 : Int32) (a3 : Int32), mf_Mo_obeys_1_j12 v a2 a3 c i k = v c i k := by
  intro v a2 a3
  unfold mf_Mo_obeys_1_j12
  (try dsimp only)
  all_goals ((repeat' split) <;> (first | with_reducible rfl | (simp only [md1_28 hc hi, md1_29 hc hi, md1_31 hc hi, md1_32 hc hi, md1_33 hc hi, md1_34 hc hi, md1_35 hc hi, md1_36 hc hi, md1_37 hc hi, md1_38 hc hi, md1_39 hc hi, md1_43_3 hc hi, md1_43_4 hc hi, md1_43_5 hc hi, md1_47_4 hc hi, md1_48_4 hc hi, md1_47_5 hc hi, md1_48_5 hc hi, md1_47_6 hc hi, md1_48_6 hc hi, md1_47_7 hc hi, md1_48_7 hc hi, md1_46_6 hc hi, md1_46_7 hc hi, md1_46_8 hc hi, md1_46_9 hc hi, md1_46_10 hc hi, md1_46_11 hc hi, md1_0 hc hi, md1_9 hc hi, md1_44 hc hi, md1_send hc hi, md1_rp0 hc hi, md1_rp1 hc hi, md1_rp2 hc hi, md1_Mo_obeys_1_j13 hc hi, md1_Mo_obeys_1_j31 hc hi, md1_Mo_obeys_1_j32 hc hi]; done)))
theorem md1_Mo_obeys_1_j11 {c i k : Nat} (hc : c ≠ 0 ∧ c ≠ 4 ∧ c ≠ 5 ∧ c ≠ 6 ∧ c ≠ 7 ∧ c ≠ 8 ∧ c ≠ 9 ∧ c ≠ 44) (hi : ¬ ((28 ≤ c ∧ c ≤ 39 ∧ k = 1) ∨ (c = 43 ∧ 3 ≤ k ∧ k < 6) ∨ (c = 46 ∧ 6 ≤ k ∧ k < 12) ∨ ((c = 47 ∨ c = 48) ∧ 4 ≤ k ∧ k < 8))) : ∀ (v : fw_V) (a2 : Int32) (a3 : Int32), mf_Mo_obeys_1_j11 v a2 a3 c i k = v c i k := by
  intro v a2 a3
  unfold mf_Mo_obeys_1_j11
  (try dsimp only)
  all_goals ((repeat' split) <;> (first | with_reducible rfl | (simp only [md1_28 hc hi, md1_29 hc hi, md1_31 hc hi, md1_32 hc hi, md1_33 hc hi, md1_34 hc hi, md1_35 hc hi, md1_36 hc hi, md1_37 hc hi, md1_38 hc hi, md1_39 hc hi, md1_43_3 hc hi, md1_43_4 hc hi, md1_43_5 hc hi, md1_47_4 hc hi, md1_48_4 hc hi, md1_47_5 hc hi, md1_48_5 hc hi, md1_47_6 hc hi, md1_48_6 hc hi, md1_47_7 hc hi, md1_48_7 hc hi, md1_46_6 hc hi, md1_46_7 hc hi, md1_46_8 hc hi, md1_46_9 hc hi, md1_46_10 hc hi, md1_46_11 hc hi, md1_0 hc hi, md1_9 hc hi, md1_44 hc hi, md1_send hc hi, md1_rp0 hc hi, md1_rp1 hc hi, md1_rp2 hc hi, md1_Mo_obeys_1_j12 hc hi]; done)))
theorem md1_Mo_obeys_1_j33 {c i k : Nat} (hc : c ≠ 0 ∧ c ≠ 4 ∧ c ≠ 5 ∧ c ≠ 6 ∧ c ≠ 7 ∧ c ≠ 8 ∧ c ≠ 9 ∧ c ≠ 44) (hi : ¬ ((28 ≤ c ∧ c ≤ 39 ∧ k = 1) ∨ (c = 43 ∧ 3 ≤ k ∧ k < 6) ∨ (c = 46 ∧ 6 ≤ k ∧ k < 12) ∨ ((c = 47 ∨ c = 48) ∧ 4 ≤ k ∧ k < 8))) : ∀ (v : fw_V) (a2 : Int32) (a3 : Int32), mf_Mo_obeys_1_j33 v a2 a3 c i k = v c i k := by
  intro v a2 a3
  unfold mf_Mo_obeys_1_j33
  (try dsimp only)
  all_goals ((repeat' split) <;> (first | with_reducible rfl | (simp only [md1_28 hc hi, md1_29 hc hi, md1_31 hc hi, md1_32 hc hi, md1_33 hc hi, md1_34 hc hi, md1_35 hc hi, md1_36 hc hi, md1_37 hc hi, md1_38 hc hi, md1_39 hc hi, md1_43_3 hc hi, md1_43_4 hc hi, md1_43_5 hc hi, md1_47_4 hc hi, md1_48_4 hc hi, md1_47_5 hc hi, md1_48_5 hc hi, md1_47_6 hc hi, md1_48_6 hc hi, md1_47_7 hc hi, md1_48_7 hc hi, md1_46_6 hc hi, md1_46_7 hc hi, md1_46_8 hc hi, md1_46_9 hc hi, md1_46_10 hc hi, md1_46_11 hc hi, md1_0 hc hi, md1_9 hc hi, md1_44 hc hi, md1_send hc hi, md1_rp0 hc hi, md1_rp1 hc hi, md1_rp2 hc hi, md1_Mo_obeys_1_j11 hc hi]; done)))
theorem md1_Mo_obeys_1_j34 {c i k : Nat} (hc : c ≠ 0 ∧ c ≠ 4 ∧ c ≠ 5 ∧ c ≠ 6 ∧ c ≠ 7 ∧ c ≠ 8 ∧ c ≠ 9 ∧ c ≠ 44) (hi : ¬ ((28 ≤ c ∧ c ≤ 39 ∧ k = 1) ∨ (c = 43 ∧ 3 ≤ k ∧ k < 6) ∨ (c = 46 ∧ 6 ≤ k ∧ k < 12) ∨ ((c = 47 ∨ c = 48) ∧ 4 ≤ k ∧ k < 8))) : ∀ (v : fw_V) (a2 : Int32) (a3 : Int32) (x90 : Int32), mf_Mo_obeys_1_j34 v a2 a3 x90 c i k = v c i k := by
  intro v a2 a3 x90
  unfold mf_Mo_obeys_1_j34
  (try dsimp only)
  all_goals ((repeat' split) <;> (first | with_reducible rfl | (simp only [md1_28 hc hi, md1_29 hc hi, md1_31 hc hi, md1_32 hc hi, md1_33 hc hi, md1_34 hc hi, md1_35 hc hi, md1_36 hc hi, md1_37 hc hi, md1_38 hc hi, md1_39 hc hi, md1_43_3 hc hi, md1_43_4 hc hi, md1_43_5 hc hi, md1_47_4 hc hi, md1_48_4 hc hi, md1_47_5 hc hi, md1_48_5 hc hi, md1_47_6 hc hi, md1_48_6 hc hi, md1_47_7 hc hi, md1_48_7 hc hi, md1_46_6 hc hi, md1_46_7 hc hi, md1_46_8 hc hi, md1_46_9 hc hi, md1_46_10 hc hi, md1_46_11 hc hi, md1_0 hc hi, md1_9 hc hi, md1_44 hc hi, md1_send hc hi, md1_rp0 hc hi, md1_rp1 hc hi, md1_rp2 hc hi, md1_Mo_obeys_1_j11 hc hi]; done)))
theorem md1_Mo_obeys_1_j10 {c i k : Nat} (hc : c ≠ 0 ∧ c ≠ 4 ∧ c ≠ 5 ∧ c ≠ 6 ∧ c ≠ 7 ∧ c ≠ 8 ∧ c ≠ 9 ∧ c ≠ 44) (hi : ¬ ((28 ≤ c ∧ c ≤ 39 ∧ k = 1) ∨ (c = 43 ∧ 3 ≤ k ∧ k < 6) ∨ (c = 46 ∧ 6 ≤ k ∧ k < 12) ∨ ((c = 47 ∨ c = 48) ∧ 4 ≤ k ∧ k < 8))) : ∀ (v : fw_V) (a2 : Int32) (a3 : Int32), mf_Mo_obeys_1_j10 v a2 a3 c i k = v c i k := by
  intro v a2 a3
  unfold mf_Mo_obeys_1_j10
  (try dsimp only)
  all_goals ((repeat' split) <;> (first | with_reducible rfl | (simp only [md1_28 hc hi, md1_29 hc hi, md1_31 hc hi, md1_32 hc hi, md1_33 hc hi, md1_34 hc hi, md1_35 hc hi, md1_36 hc hi, md1_37 hc hi, md1_38 hc hi, md1_39 hc hi, md1_43_3 hc hi, md1_43_4 hc hi, md1_43_5 hc hi, md1_47_4 hc hi, md1_48_4 hc hi, md1_47_5 hc hi, md1_48_5 hc hi, md1_47_6 hc hi, md1_48_6 hc hi, md1_47_7 hc hi, md1_48_7 hc hi, md1_46_6 hc hi, md1_46_7 hc hi, md1_46_8 hc hi, md1_46_9 hc hi, md1_46_10 hc hi, md1_46_11 hc hi, md1_0 hc hi, md1_9 hc hi, md1_44 hc hi, md1_send hc hi, md1_rp0 hc hi, md1_rp1 hc hi, md1_rp2 hc hi, md1_Mo_obeys_1_j11 hc hi, md1_Mo_obeys_1_j33 hc hi, md1_Mo_obeys_1_j34 hc hi]; done)))
theorem md1_Mo_obeys_1_j60 {c i k : Nat} (hc : c ≠ 0 ∧ c ≠ 4 ∧ c ≠ 5 ∧ c ≠ 6 ∧ c ≠ 7 ∧ c ≠ 8 ∧ c ≠ 9 ∧ c ≠ 44) (hi : ¬ ((28 ≤ c ∧ c ≤ 39 ∧ k = 1) ∨ (c = 43 ∧ 3 ≤ k ∧ k < 6) ∨ (c = 46 ∧ 6 ≤ k ∧ k < 12) ∨ ((c = 47 ∨ c = 48) ∧ 4 ≤ k ∧ k < 8))) : ∀ (v0 : fw_V) (a2 : Int32) (a3 : Int32), mf_Mo_obeys_1_j60 v0 a2 a3 c i k = v0 c i k := by
  intro v0 a2 a3
  unfold mf_Mo_obeys_1_j60
  (try dsimp only)
  all_goals ((repeat' split) <;> (first | with_reducible rfl | (simp only [md1_28 hc hi, md1_29 hc hi, md1_31 hc hi, md1_32 hc hi, md1_33 hc hi, md1_34 hc hi, md1_35 hc hi, md1_36 hc hi, md1_37 hc hi, md1_38 hc hi, md1_39 hc hi, md1_43_3 hc hi, md1_43_4 hc hi, md1_43_5 hc hi, md1_47_4 hc hi, md1_48_4 hc hi, md1_47_5 hc hi, md1_48_5 hc hi, md1_47_6 hc hi, md1_48_6 hc hi, md1_47_7 hc hi, md1_48_7 hc hi, md1_46_6 hc hi, md1_46_7 hc hi, md1_46_8 hc hi, md1_46_9 hc hi, md1_46_10 hc hi, md1_46_11 hc hi, md1_0 hc hi, md1_9 hc hi, md1_44 hc hi, md1_send hc hi, md1_rp0 hc hi, md1_rp1 hc hi, md1_rp2 hc hi, md1_Mo_obeys_1_j61 hc hi, md1_Mo_obeys_1_j10 hc hi]; done)))
theorem md1_Mo_obeys_1_j59 {c i k : Nat} (hc : c ≠ 0 ∧ c ≠ 4 ∧ c ≠ 5 ∧ c ≠ 6 ∧ c ≠ 7 ∧ c ≠ 8 ∧ c ≠ 9 ∧ c ≠ 44) (hi : ¬ ((28 ≤ c ∧ c ≤ 39 ∧ k = 1) ∨ (c = 43 ∧ 3 ≤ k ∧ k < 6) ∨ (c = 46 ∧ 6 ≤ k ∧ k < 12) ∨ ((c = 47 ∨ c = 48) ∧ 4 ≤ k ∧ k < 8))) : ∀ (v0 : fw_V) (a2 : Int32) (a3 : Int32), mf_Mo_obeys_1_j59 v0 a2 a3 c i k = v0 c i k := by
  intro v0 a2 a3
  unfold mf_Mo_obeys_1_j59
  (try dsimp only)
  all_goals ((repeat' split) <;> (first | with_reducible rfl | (simp only [md1_28 hc hi, md1_29 hc hi, md1_31 hc hi, md1_32 hc hi, md1_33 hc hi, md1_34 hc hi, md1_35 hc hi, md1_36 hc hi, md1_37 hc hi, md1_38 hc hi, md1_39 hc hi, md1_43_3 hc hi, md1_43_4 hc hi, md1_43_5 hc hi, md1_47_4 hc hi, md1_48_4 hc hi, md1_47_5 hc hi, md1_48_5 hc hi, md1_47_6 hc hi, md1_48_6 hc hi, md1_47_7 hc hi, md1_48_7 hc hi, md1_46_6 hc hi, md1_46_7 hc hi, md1_46_8 hc hi, md1_46_9 hc hi, md1_46_10 hc hi, md1_46_11 hc hi, md1_0 hc hi, md1_9 hc hi, md1_44 hc hi, md1_send hc hi, md1_rp0 hc hi, md1_rp1 hc hi, md1_rp2 hc hi, md1_Mo_obeys_1_j60 hc hi]; done)))
theorem md1_Mo_obeys_1_j58 {c i k : Nat} (hc : c ≠ 0 ∧ c ≠ 4 ∧ c ≠ 5 ∧ c ≠ 6 ∧ c ≠ 7 ∧ c ≠ 8 ∧ c ≠ 9 ∧ c ≠ 44) (hi : ¬ ((28 ≤ c ∧ c ≤ 39 ∧ k = 1) ∨ (c = 43 ∧ 3 ≤ k ∧ k < 6) ∨ (c = 46 ∧ 6 ≤ k ∧ k < 12) ∨ ((c = 47 ∨ c = 48) ∧ 4 ≤ k ∧ k < 8))) : ∀ (v0 : fw_V) (a2 : Int32) (a3 : Int32), mf_Mo_obeys_1_j58 v0 a2 a3 c i k = v0 c i k := by
  intro v0 a2 a3
  unfold mf_Mo_obeys_1_j58
  (try dsimp only)
  all_goals ((repeat' split) <;> (first | with_reducible rfl | (simp only [md1_28 hc hi, md1_29 hc hi, md1_31 hc hi, md1_32 hc hi, md1_33 hc hi, md1_34 hc hi, md1_35 hc hi, md1_36 hc hi, md1_37 hc hi, md1_38 hc hi, md1_39 hc hi, md1_43_3 hc hi, md1_43_4 hc hi, md1_43_5 hc hi, md1_47_4 hc hi, md1_48_4 hc hi, md1_47_5 hc hi, md1_48_5 hc hi, md1_47_6 hc hi, md1_48_6 hc hi, md1_47_7 hc hi, md1_48_7 hc hi, md1_46_6 hc hi, md1_46_7 hc hi, md1_46_8 hc hi, md1_46_9 hc hi, md1_46_10 hc hi, md1_46_11 hc hi, md1_0 hc hi, md1_9 hc hi, md1_44 hc hi, md1_send hc hi, md1_rp0 hc hi, md1_rp1 hc hi, md1_rp2 hc hi, md1_Mo_reply_1 hc hi, md1_Mo_obeys_1_j59 hc hi]; done)))
theorem md1_Mo_obeys_1_j57 {c i k : Nat} (hc : c ≠ 0 ∧ c ≠ 4 ∧ c ≠ 5 ∧ c ≠ 6 ∧ c ≠ 7 ∧ c ≠ 8 ∧ c ≠ 9 ∧ c ≠ 44) (hi : ¬ ((28 ≤ c ∧ c ≤ 39 ∧ k = 1) ∨ (c = 43 ∧ 3 ≤ k ∧ k < 6) ∨ (c = 46 ∧ 6 ≤ k ∧ k < 12) ∨ ((c = 47 ∨ c = 48) ∧ 4 ≤ k ∧ k < 8))) : ∀ (v0 : fw_V) (a2 : Int32) (a3 : Int32), mf_Mo_obeys_1_j57 v0 a2 a3 c i k = v0 c i k := by
  intro v0 a2 a3
  unfold mf_Mo_obeys_1_j57
  (try dsimp only)
  all_goals ((repeat' split) <;> (first | with_reducible rfl | (simp only [md1_28 hc hi, md1_29 hc hi, md1_31 hc hi, md1_32 hc hi, md1_33 hc hi, md1_34 hc hi, md1_35 hc hi, md1_36 hc hi, md1_37 hc hi, md1_38 hc hi, md1_39 hc hi, md1_43_3 hc hi, md1_43_4 hc hi, md1_43_5 hc hi, md1_47_4 hc hi, md1_48_4 hc hi, md1_47_5 hc hi, md1_48_5 hc hi, md1_47_6 hc hi, md1_48_6 hc hi, md1_47_7 hc hi, md1_48_7 hc hi, md1_46_6 hc hi, md1_46_7 hc hi, md1_46_8 hc hi, md1_46_9 hc hi, md1_46_10 hc hi, md1_46_11 hc hi, md1_0 hc hi, md1_9 hc hi, md1_44 hc hi, md1_send hc hi, md1_rp0 hc hi, md1_rp1 hc hi, md1_rp2 hc hi, md1_Mo_obeys_1_j35 hc hi, md1_Mo_obeys_1_j58 hc hi]; done)))
theorem md1_Mo_obeys_1_j5 {c i k : Nat} (hc : c ≠ 0 ∧ c ≠ 4 ∧ c ≠ 5 ∧ c ≠ 6 ∧ c ≠ 7 ∧ c ≠ 8 ∧ c ≠ 9 ∧ c ≠ 44) (hi : ¬ ((28 ≤ c ∧ c ≤ 39 ∧ k = 1) ∨ (c = 43 ∧ 3 ≤ k ∧ k < 6) ∨ (c = 46 ∧ 6 ≤ k ∧ k < 12) ∨ ((c = 47 ∨ c = 48) ∧ 4 ≤ k ∧ k < 8))) : ∀ (v0 : fw_V) (a2 : Int32) (a3 : Int32), mf_Mo_obeys_1_j5 v0 a2 a3 c i k = v0 c i k := by
  intro v0 a2 a3
  unfold mf_Mo_obeys_1_j5
  (try dsimp only)
  all_goals ((repeat' split) <;> (first | with_reducible rfl | (simp only [md1_28 hc hi, md1_29 hc hi, md1_31 hc hi, md1_32 hc hi, md1_33 hc hi, md1_34 hc hi, md1_35 hc hi, md1_36 hc hi, md1_37 hc hi, md1_38 hc hi, md1_39 hc hi, md1_43_3 hc hi, md1_43_4 hc hi, md1_43_5 hc hi, md1_47_4 hc hi, md1_48_4 hc hi, md1_47_5 hc hi, md1_48_5 hc hi, md1_47_6 hc hi, md1_48_6 hc hi, md1_47_7 hc hi, md1_48_7 hc hi, md1_46_6 hc hi, md1_46_7 hc hi, md1_46_8 hc hi, md1_46_9 hc hi, md1_46_10 hc hi, md1_46_11 hc hi, md1_0 hc hi, md1_9 hc hi, md1_44 hc hi, md1_send hc hi, md1_rp0 hc hi, md1_rp1 hc hi, md1_rp2 hc hi, md1_Mo_rest_1 hc hi, md1_Mo_obeys_1_j6 hc hi]; done)))
theorem md1_Mo_obeys_1_j4 {c i k : Nat} (hc : c ≠ 0 ∧ c ≠ 4 ∧ c ≠ 5 ∧ c ≠ 6 ∧ c ≠ 7 ∧ c ≠ 8 ∧ c ≠ 9 ∧ c ≠ 44) (hi : ¬ ((28 ≤ c ∧ c ≤ 39 ∧ k = 1) ∨ (c = 43 ∧ 3 ≤ k ∧ k < 6) ∨ (c = 46 ∧ 6 ≤ k ∧ k < 12) ∨ ((c = 47 ∨ c = 48) ∧ 4 ≤ k ∧ k < 8))) : ∀ (v0 : fw_V) (a2 : Int32) (a3 : Int32), mf_Mo_obeys_1_j4 v0 a2 a3 c i k = v0 c i k := by
  intro v0 a2 a3
  unfold mf_Mo_obeys_1_j4
  (try dsimp only)
  all_goals ((repeat' split) <;> (first | with_reducible rfl | (simp only [md1_28 hc hi, md1_29 hc hi, md1_31 hc hi, md1_32 hc hi, md1_33 hc hi, md1_34 hc hi, md1_35 hc hi, md1_36 hc hi, md1_37 hc hi, md1_38 hc hi, md1_39 hc hi, md1_43_3 hc hi, md1_43_4 hc hi, md1_43_5 hc hi, md1_47_4 hc hi, md1_48_4 hc hi, md1_47_5 hc hi, md1_48_5 hc hi, md1_47_6 hc hi, md1_48_6 hc hi, md1_47_7 hc hi, md1_48_7 hc hi, md1_46_6 hc hi, md1_46_7 hc hi, md1_46_8 hc hi, md1_46_9 hc hi, md1_46_10 hc hi, md1_46_11 hc hi, md1_0 hc hi, md1_9 hc hi, md1_44 hc hi, md1_send hc hi, md1_rp0 hc hi, md1_rp1 hc hi, md1_rp2 hc hi, md1_Mo_obeys_1_j5 hc hi, md1_Mo_obeys_1_j10 hc hi]; done)))
theorem md1_Mo_obeys_1_j3 {c i k : Nat} (hc : c ≠ 0 ∧ c ≠ 4 ∧ c ≠ 5 ∧ c ≠ 6 ∧ c ≠ 7 ∧ c ≠ 8 ∧ c ≠ 9 ∧ c ≠ 44) (hi : ¬ ((28 ≤ c ∧ c ≤ 39 ∧ k = 1) ∨ (c = 43 ∧ 3 ≤ k ∧ k < 6) ∨ (c = 46 ∧ 6 ≤ k ∧ k < 12) ∨ ((c = 47 ∨ c = 48) ∧ 4 ≤ k ∧ k < 8))) : ∀ (v0 : fw_V) (a2 : Int32) (a3 : Int32), mf_Mo_obeys_1_j3 v0 a2 a3 c i k = v0 c i k := by
  intro v0 a2 a3
  unfold mf_Mo_obeys_1_j3
  (try dsimp only)
  all_goals ((repeat' split) <;> (first | with_reducible rfl | (simp only [md1_28 hc hi, md1_29 hc hi, md1_31 hc hi, md1_32 hc hi, md1_33 hc hi, md1_34 hc hi, md1_35 hc hi, md1_36 hc hi, md1_37 hc hi, md1_38 hc hi, md1_39 hc hi, md1_43_3 hc hi, md1_43_4 hc hi, md1_43_5 hc hi, md1_47_4 hc hi, md1_48_4 hc hi, md1_47_5 hc hi, md1_48_5 hc hi, md1_47_6 hc hi, md1_48_6 hc hi, md1_47_7 hc hi, md1_48_7 hc hi, md1_46_6 hc hi, md1_46_7 hc hi, md1_46_8 hc hi, md1_46_9 hc hi, md1_46_10 hc hi, md1_46_11 hc hi, md1_0 hc hi, md1_9 hc hi, md1_44 hc hi, md1_send hc hi, md1_rp0 hc hi, md1_rp1 hc hi, md1_rp2 hc hi, md1_Mo_obeys_1_j4 hc hi]; done)))
theorem md1_Mo_obeys_1_j2 {c i k : Nat} (hc : c ≠ 0 ∧ c ≠ 4 ∧ c ≠ 5 ∧ c ≠ 6 ∧ c ≠ 7 ∧ c ≠ 8 ∧ c ≠ 9 ∧ c ≠ 44) (hi : ¬ ((28 ≤ c ∧ c ≤ 39 ∧ k = 1) ∨ (c = 43 ∧ 3 ≤ k ∧ k < 6) ∨ (c = 46 ∧ 6 ≤ k ∧ k < 12) ∨ ((c = 47 ∨ c = 48) ∧ 4 ≤ k ∧ k < 8))) : ∀ (v0 : fw_V) (a2 : Int32) (a3 : Int32), mf_Mo_obeys_1_j2 v0 a2 a3 c i k = v0 c i k := by
  intro v0 a2 a3
  unfold mf_Mo_obeys_1_j2
  (try dsimp only)
  all_goals ((repeat' split) <;> (first | with_reducible rfl | (simp only [md1_28 hc hi, md1_29 hc hi, md1_31 hc hi, md1_32 hc hi, md1_33 hc hi, md1_34 hc hi, md1_35 hc hi, md1_36 hc hi, md1_37 hc hi, md1_38 hc hi, md1_39 hc hi, md1_43_3 hc hi, md1_43_4 hc hi, md1_43_5 hc hi, md1_47_4 hc hi, md1_48_4 hc hi, md1_47_5 hc hi, md1_48_5 hc hi, md1_47_6 hc hi, md1_48_6 hc hi, md1_47_7 hc hi, md1_48_7 hc hi, md1_46_6 hc hi, md1_46_7 hc hi, md1_46_8 hc hi, md1_46_9 hc hi, md1_46_10 hc hi, md1_46_11 hc hi, md1_0 hc hi, md1_9 hc hi, md1_44 hc hi, md1_send hc hi, md1_rp0 hc hi, md1_rp1 hc hi, md1_rp2 hc hi, md1_Mo_reply_1 hc hi, md1_Mo_obeys_1_j3 hc hi]; done)))
theorem md1_Mo_obeys_1_j1 {c i k : Nat} (hc : c ≠ 0 ∧ c ≠ 4 ∧ c ≠ 5 ∧ c ≠ 6 ∧ c ≠ 7 ∧ c ≠ 8 ∧ c ≠ 9 ∧ c ≠ 44) (hi : ¬ ((28 ≤ c ∧ c ≤ 39 ∧ k = 1) ∨ (c = 43 ∧ 3 ≤ k ∧ k < 6) ∨ (c = 46 ∧ 6 ≤ k ∧ k < 12) ∨ ((c = 47 ∨ c = 48) ∧ 4 ≤ k ∧ k < 8))) : ∀ (v0 : fw_V) (a2 : Int32) (a3 : Int32), mf_Mo_obeys_1_j1 v0 a2 a3 c i k = v0 c i k := by
  intro v0 a2 a3
  unfold mf_Mo_obeys_1_j1
  (try dsimp only)
  all_goals ((repeat' split) <;> (first | with_reducible rfl | (simp only [md1_28 hc hi, md1_29 hc hi, md1_31 hc hi, md1_32 hc hi, md1_33 hc hi, md1_34 hc hi, md1_35 hc hi, md1_36 hc hi, md1_37 hc hi, md1_38 hc hi, md1_39 hc hi, md1_43_3 hc hi, md1_43_4 hc hi, md1_43_5 hc hi, md1_47_4 hc hi, md1_48_4 hc hi, md1_47_5 hc hi, md1_48_5 hc hi, md1_47_6 hc hi, md1_48_6 hc hi, md1_47_7 hc hi, md1_48_7 hc hi, md1_46_6 hc hi, md1_46_7 hc hi, md1_46_8 hc hi, md1_46_9 hc hi, md1_46_10 hc hi, md1_46_11 hc hi, md1_0 hc hi, md1_9 hc hi, md1_44 hc hi, md1_send hc hi, md1_rp0 hc hi, md1_rp1 hc hi, md1_rp2 hc hi, md1_Mo_obeys_1_j35 hc hi, md1_Mo_obeys_1_j2 hc hi]; done)))
theorem md1_Mo_obeys_1 {c i k : Nat} (hc : c ≠ 0 ∧ c ≠ 4 ∧ c ≠ 5 ∧ c ≠ 6 ∧ c ≠ 7 ∧ c ≠ 8 ∧ c ≠ 9 ∧ c ≠ 44) (hi : ¬ ((28 ≤ c ∧ c ≤ 39 ∧ k = 1) ∨ (c = 43 ∧ 3 ≤ k ∧ k < 6) ∨ (c = 46 ∧ 6 ≤ k ∧ k < 12) ∨ ((c = 47 ∨ c = 48) ∧ 4 ≤ k ∧ k < 8))) : ∀ (v0 : fw_V) (a2 : Int32) (a3 : Int32), mf_Mo_obeys_1 v0 a2 a3 c i k = v0 c i k := by
  intro v0 a2 a3
  unfold mf_Mo_obeys_1
  (try dsimp only)
  all_goals ((repeat' split) <;> (first | with_reducible rfl | (simp only [md1_28 hc hi, md1_29 hc hi, md1_31 hc hi, md1_32 hc hi, md1_33 hc hi, md1_34 hc hi, md1_35 hc hi, md1_36 hc hi, md1_37 hc hi, md1_38 hc hi, md1_39 hc hi, md1_43_3 hc hi, md1_43_4 hc hi, md1_43_5 hc hi, md1_47_4 hc hi, md1_48_4 hc hi, md1_47_5 hc hi, md1_48_5 hc hi, md1_47_6 hc hi, md1_48_6 hc hi, md1_47_7 hc hi, md1_48_7 hc hi, md1_46_6 hc hi, md1_46_7 hc hi, md1_46_8 hc hi, md1_46_9 hc hi, md1_46_10 hc hi, md1_46_11 hc hi, md1_0 hc hi, md1_9 hc hi, md1_44 hc hi, md1_send hc hi, md1_rp0 hc hi, md1_rp1 hc hi, md1_rp2 hc hi, md1_Mo_reply_1 hc hi, md1_Mo_obeys_1_j57 hc hi, md1_Mo_obeys_1_j1 hc hi]; done)))
theorem md1_Mo_arrives_1 {c i k : Nat} (hc : c ≠ 0 ∧ c ≠ 4 ∧ c ≠ 5 ∧ c ≠ 6 ∧ c ≠ 7 ∧ c ≠ 8 ∧ c ≠ 9 ∧ c ≠ 44) (hi : ¬ ((28 ≤ c ∧ c ≤ 39 ∧ k = 1) ∨ (c = 43 ∧ 3 ≤ k ∧ k < 6) ∨ (c = 46 ∧ 6 ≤ k ∧ k < 12) ∨ ((c = 47 ∨ c = 48) ∧ 4 ≤ k ∧ k < 8))) : ∀ (v0 : fw_V) (a2 : Int32) (a3 : Int32) (a4 : Int32), mf_Mo_arrives_1 v0 a2 a3 a4 c i k = v0 c i k := by
  intro v0 a2 a3 a4
  unfold mf_Mo_arrives_1
  (try dsimp only)
  all_goals ((repeat' split) <;> (first | with_reducible rfl | (simp only [md1_28 hc hi, md1_29 hc hi, md1_31 hc hi, md1_32 hc hi, md1_33 hc hi, md1_34 hc hi, md1_35 hc hi, md1_36 hc hi, md1_37 hc hi, md1_38 hc hi, md1_39 hc hi, md1_43_3 hc hi, md1_43_4 hc hi, md1_43_5 hc hi, md1_47_4 hc hi, md1_48_4 hc hi, md1_47_5 hc hi, md1_48_5 hc hi, md1_47_6 hc hi, md1_48_6 hc hi, md1_47_7 hc hi, md1_48_7 hc hi, md1_46_6 hc hi, md1_46_7 hc hi, md1_46_8 hc hi, md1_46_9 hc hi, md1_46_10 hc hi, md1_46_11 hc hi, md1_0 hc hi, md1_9 hc hi, md1_44 hc hi, md1_send hc hi, md1_rp0 hc hi, md1_rp1 hc hi, md1_rp2 hc hi, md1_send hc hi, md1_Mo_connect_1 hc hi, md1_Mo_obeys_1 hc hi]; done)))
theorem md1_Mo_alarm_1_j2 {c i k : Nat} (hc : c ≠ 0 ∧ c ≠ 4 ∧ c ≠ 5 ∧ c ≠ 6 ∧ c ≠ 7 ∧ c ≠ 8 ∧ c ≠ 9 ∧ c ≠ 44) (hi : ¬ ((28 ≤ c ∧ c ≤ 39 ∧ k = 1) ∨ (c = 43 ∧ 3 ≤ k ∧ k < 6) ∨ (c = 46 ∧ 6 ≤ k ∧ k < 12) ∨ ((c = 47 ∨ c = 48) ∧ 4 ≤ k ∧ k < 8))) : ∀ (v : fw_V), mf_Mo_alarm_1_j2 v c i k = v c i k := by
  intro v
  unfold mf_Mo_alarm_1_j2
  (try dsimp only)
  all_goals ((repeat' split) <;> (first | with_reducible rfl | (simp only [md1_28 hc hi, md1_29 hc hi, md1_31 hc hi, md1_32 hc hi, md1_33 hc hi, md1_34 hc hi, md1_35 hc hi, md1_36 hc hi, md1_37 hc hi, md1_38 hc hi, md1_39 hc hi, md1_43_3 hc hi, md1_43_4 hc hi, md1_43_5 hc hi, md1_47_4 hc hi, md1_48_4 hc hi, md1_47_5 hc hi, md1_48_5 hc hi, md1_47_6 hc hi, md1_48_6 hc hi, md1_47_7 hc hi, md1_48_7 hc hi, md1_46_6 hc hi, md1_46_7 hc hi, md1_46_8 hc hi, md1_46_9 hc hi, md1_46_10 hc hi, md1_46_11 hc hi, md1_0 hc hi, md1_9 hc hi, md1_44 hc hi, md1_send hc hi, md1_rp0 hc hi, md1_rp1 hc hi, md1_rp2 hc hi, md1_Mo_reply_1 hc hi]; done)))
theorem md1_Mo_alarm_1_j3 {c i k : Nat} (hc : c ≠ 0 ∧ c ≠ 4 ∧ c ≠ 5 ∧ c ≠ 6 ∧ c ≠ 7 ∧ c ≠ 8 ∧ c ≠ 9 ∧ c ≠ 44) (hi : ¬ ((28 ≤ c ∧ c ≤ 39 ∧ k = 1) ∨ (c = 43 ∧ 3 ≤ k ∧ k < 6) ∨ (c = 46 ∧ 6 ≤ k ∧ k < 12) ∨ ((c = 47 ∨ c = 48) ∧ 4 ≤ k ∧ k < 8))) : ∀ (v0 : fw_V), mf_Mo_alarm_1_j3 v0 c i k = v0 c i k := by
  intro v0
  unfold mf_Mo_alarm_1_j3
  (try dsimp only)
  all_goals ((repeat' split) <;> (first | with_reducible rfl | (simp only [md1_28 hc hi, md1_29 hc hi, md1_31 hc hi, md1_32 hc hi, md1_33 hc hi, md1_34 hc hi, md1_35 hc hi, md1_36 hc hi, md1_37 hc hi, md1_38 hc hi, md1_39 hc hi, md1_43_3 hc hi, md1_43_4 hc hi, md1_43_5 hc hi, md1_47_4 hc hi, md1_48_4 hc hi, md1_47_5 hc hi, md1_48_5 hc hi, md1_47_6 hc hi, md1_48_6 hc hi, md1_47_7 hc hi, md1_48_7 hc hi, md1_46_6 hc hi, md1_46_7 hc hi, md1_46_8 hc hi, md1_46_9 hc hi, md1_46_10 hc hi, md1_46_11 hc hi, md1_0 hc hi, md1_9 hc hi, md1_44 hc hi, md1_send hc hi, md1_rp0 hc hi, md1_rp1 hc hi, md1_rp2 hc hi, md1_Mo_alarm_1_j2 hc hi]; done)))
theorem md1_Mo_alarm_1_j1 {c i k : Nat} (hc : c ≠ 0 ∧ c ≠ 4 ∧ c ≠ 5 ∧ c ≠ 6 ∧ c ≠ 7 ∧ c ≠ 8 ∧ c ≠ 9 ∧ c ≠ 44) (hi : ¬ ((28 ≤ c ∧ c ≤ 39 ∧ k = 1) ∨ (c = 43 ∧ 3 ≤ k ∧ k < 6) ∨ (c = 46 ∧ 6 ≤ k ∧ k < 12) ∨ ((c = 47 ∨ c = 48) ∧ 4 ≤ k ∧ k < 8))) : ∀ (v0 : fw_V), mf_Mo_alarm_1_j1 v0 c i k = v0 c i k := by
  intro v0
  unfold mf_Mo_alarm_1_j1
  (try dsimp only)
  all_goals ((repeat' split) <;> (first | with_reducible rfl | (simp only [md1_28 hc hi, md1_29 hc hi, md1_31 hc hi, md1_32 hc hi, md1_33 hc hi, md1_34 hc hi, md1_35 hc hi, md1_36 hc hi, md1_37 hc hi, md1_38 hc hi, md1_39 hc hi, md1_43_3 hc hi, md1_43_4 hc hi, md1_43_5 hc hi, md1_47_4 hc hi, md1_48_4 hc hi, md1_47_5 hc hi, md1_48_5 hc hi, md1_47_6 hc hi, md1_48_6 hc hi, md1_47_7 hc hi, md1_48_7 hc hi, md1_46_6 hc hi, md1_46_7 hc hi, md1_46_8 hc hi, md1_46_9 hc hi, md1_46_10 hc hi, md1_46_11 hc hi, md1_0 hc hi, md1_9 hc hi, md1_44 hc hi, md1_send hc hi, md1_rp0 hc hi, md1_rp1 hc hi, md1_rp2 hc hi, md1_Mo_alarm_1_j2 hc hi]; done)))
theorem md1_Mo_alarm_1 {c i k : Nat} (hc : c ≠ 0 ∧ c ≠ 4 ∧ c ≠ 5 ∧ c ≠ 6 ∧ c ≠ 7 ∧ c ≠ 8 ∧ c ≠ 9 ∧ c ≠ 44) (hi : ¬ ((28 ≤ c ∧ c ≤ 39 ∧ k = 1) ∨ (c = 43 ∧ 3 ≤ k ∧ k < 6) ∨ (c = 46 ∧ 6 ≤ k ∧ k < 12) ∨ ((c = 47 ∨ c = 48) ∧ 4 ≤ k ∧ k < 8))) : ∀ (v0 : fw_V), mf_Mo_alarm_1 v0 c i k = v0 c i k := by
  intro v0
  unfold mf_Mo_alarm_1
  (try dsimp only)
  all_goals ((repeat' split) <;> (first | with_reducible rfl | (simp only [md1_28 hc hi, md1_29 hc hi, md1_31 hc hi, md1_32 hc hi, md1_33 hc hi, md1_34 hc hi, md1_35 hc hi, md1_36 hc hi, md1_37 hc hi, md1_38 hc hi, md1_39 hc hi, md1_43_3 hc hi, md1_43_4 hc hi, md1_43_5 hc hi, md1_47_4 hc hi, md1_48_4 hc hi, md1_47_5 hc hi, md1_48_5 hc hi, md1_47_6 hc hi, md1_48_6 hc hi, md1_47_7 hc hi, md1_48_7 hc hi, md1_46_6 hc hi, md1_46_7 hc hi, md1_46_8 hc hi, md1_46_9 hc hi, md1_46_10 hc hi, md1_46_11 hc hi, md1_0 hc hi, md1_9 hc hi, md1_44 hc hi, md1_send hc hi, md1_rp0 hc hi, md1_rp1 hc hi, md1_rp2 hc hi, md1_Mo_alarm_1_j3 hc hi, md1_Mo_alarm_1_j1 hc hi, md1_Mo_alarm_1_j2 hc hi]; done)))
theorem md1_Mo_pulse_1_j25 {c i k : Nat} (hc : c ≠ 0 ∧ c ≠ 4 ∧ c ≠ 5 ∧ c ≠ 6 ∧ c ≠ 7 ∧ c ≠ 8 ∧ c ≠ 9 ∧ c ≠ 44) (hi : ¬ ((28 ≤ c ∧ c ≤ 39 ∧ k = 1) ∨ (c = 43 ∧ 3 ≤ k ∧ k < 6) ∨ (c = 46 ∧ 6 ≤ k ∧ k < 12) ∨ ((c = 47 ∨ c = 48) ∧ 4 ≤ k ∧ k < 8))) : ∀ (v : fw_V), mf_Mo_pulse_1_j25 v c i k = v c i k := by
  intro v
  unfold mf_Mo_pulse_1_j25
  (try dsimp only)
  all_goals ((repeat' split) <;> (first | with_reducible rfl | (simp only [md1_28 hc hi, md1_29 hc hi, md1_31 hc hi, md1_32 hc hi, md1_33 hc hi, md1_34 hc hi, md1_35 hc hi, md1_36 hc hi, md1_37 hc hi, md1_38 hc hi, md1_39 hc hi, md1_43_3 hc hi, md1_43_4 hc hi, md1_43_5 hc hi, md1_47_4 hc hi, md1_48_4 hc hi, md1_47_5 hc hi, md1_48_5 hc hi, md1_47_6 hc hi, md1_48_6 hc hi, md1_47_7 hc hi, md1_48_7 hc hi, md1_46_6 hc hi, md1_46_7 hc hi, md1_46_8 hc hi, md1_46_9 hc hi, md1_46_10 hc hi, md1_46_11 hc hi, md1_0 hc hi, md1_9 hc hi, md1_44 hc hi, md1_send hc hi, md1_rp0 hc hi, md1_rp1 hc hi, md1_rp2 hc hi, md1_Mo_reply_1 hc hi]; done)))
theorem md1_Mo_pulse_1_j24 {c i k : Nat} (hc : c ≠ 0 ∧ c ≠ 4 ∧ c ≠ 5 ∧ c ≠ 6 ∧ c ≠ 7 ∧ c ≠ 8 ∧ c ≠ 9 ∧ c ≠ 44) (hi : ¬ ((28 ≤ c ∧ c ≤ 39 ∧ k = 1) ∨ (c = 43 ∧ 3 ≤ k ∧ k < 6) ∨ (c = 46 ∧ 6 ≤ k ∧ k < 12) ∨ ((c = 47 ∨ c = 48) ∧ 4 ≤ k ∧ k < 8))) : ∀ (v : fw_V), mf_Mo_pulse_1_j24 v c i k = v c i k := by
  intro v
  unfold mf_Mo_pulse_1_j24
  (try dsimp only)
  all_goals ((repeat' split) <;> (first | with_reducible rfl | (simp only [md1_28 hc hi, md1_29 hc hi, md1_31 hc hi, md1_32 hc hi, md1_33 hc hi, md1_34 hc hi, md1_35 hc hi, md1_36 hc hi, md1_37 hc hi, md1_38 hc hi, md1_39 hc hi, md1_43_3 hc hi, md1_43_4 hc hi, md1_43_5 hc hi, md1_47_4 hc hi, md1_48_4 hc hi, md1_47_5 hc hi, md1_48_5 hc hi, md1_47_6 hc hi, md1_48_6 hc hi, md1_47_7 hc hi, md1_48_7 hc hi, md1_46_6 hc hi, md1_46_7 hc hi, md1_46_8 hc hi, md1_46_9 hc hi, md1_46_10 hc hi, md1_46_11 hc hi, md1_0 hc hi, md1_9 hc hi, md1_44 hc hi, md1_send hc hi, md1_rp0 hc hi, md1_rp1 hc hi, md1_rp2 hc hi, md1_Mo_pulse_1_j25 hc hi]; done)))
theorem md1_Mo_pulse_1_j27 {c i k : Nat} (hc : c ≠ 0 ∧ c ≠ 4 ∧ c ≠ 5 ∧ c ≠ 6 ∧ c ≠ 7 ∧ c ≠ 8 ∧ c ≠ 9 ∧ c ≠ 44) (hi : ¬ ((28 ≤ c ∧ c ≤ 39 ∧ k = 1) ∨ (c = 43 ∧ 3 ≤ k ∧ k < 6) ∨ (c = 46 ∧ 6 ≤ k ∧ k < 12) ∨ ((c = 47 ∨ c = 48) ∧ 4 ≤ k ∧ k < 8))) : ∀ (v : fw_V), mf_Mo_pulse_1_j27 v c i k = v c i k := by
  intro v
  unfold mf_Mo_pulse_1_j27
  (try dsimp only)
  all_goals ((repeat' split) <;> (first | with_reducible rfl | (simp only [md1_28 hc hi, md1_29 hc hi, md1_31 hc hi, md1_32 hc hi, md1_33 hc hi, md1_34 hc hi, md1_35 hc hi, md1_36 hc hi, md1_37 hc hi, md1_38 hc hi, md1_39 hc hi, md1_43_3 hc hi, md1_43_4 hc hi, md1_43_5 hc hi, md1_47_4 hc hi, md1_48_4 hc hi, md1_47_5 hc hi, md1_48_5 hc hi, md1_47_6 hc hi, md1_48_6 hc hi, md1_47_7 hc hi, md1_48_7 hc hi, md1_46_6 hc hi, md1_46_7 hc hi, md1_46_8 hc hi, md1_46_9 hc hi, md1_46_10 hc hi, md1_46_11 hc hi, md1_0 hc hi, md1_9 hc hi, md1_44 hc hi, md1_send hc hi, md1_rp0 hc hi, md1_rp1 hc hi, md1_rp2 hc hi, md1_Mo_reply_1 hc hi]; done)))
theorem md1_Mo_pulse_1_j26 {c i k : Nat} (hc : c ≠ 0 ∧ c ≠ 4 ∧ c ≠ 5 ∧ c ≠ 6 ∧ c ≠ 7 ∧ c ≠ 8 ∧ c ≠ 9 ∧ c ≠ 44) (hi : ¬ ((28 ≤ c ∧ c ≤ 39 ∧ k = 1) ∨ (c = 43 ∧ 3 ≤ k ∧ k < 6) ∨ (c = 46 ∧ 6 ≤ k ∧ k < 12) ∨ ((c = 47 ∨ c = 48) ∧ 4 ≤ k ∧ k < 8))) : ∀ (v : fw_V), mf_Mo_pulse_1_j26 v c i k = v c i k := by
  intro v
  unfold mf_Mo_pulse_1_j26
  (try dsimp only)
  all_goals ((repeat' split) <;> (first | with_reducible rfl | (simp only [md1_28 hc hi, md1_29 hc hi, md1_31 hc hi, md1_32 hc hi, md1_33 hc hi, md1_34 hc hi, md1_35 hc hi, md1_36 hc hi, md1_37 hc hi, md1_38 hc hi, md1_39 hc hi, md1_43_3 hc hi, md1_43_4 hc hi, md1_43_5 hc hi, md1_47_4 hc hi, md1_48_4 hc hi, md1_47_5 hc hi, md1_48_5 hc hi, md1_47_6 hc hi, md1_48_6 hc hi, md1_47_7 hc hi, md1_48_7 hc hi, md1_46_6 hc hi, md1_46_7 hc hi, md1_46_8 hc hi, md1_46_9 hc hi, md1_46_10 hc hi, md1_46_11 hc hi, md1_0 hc hi, md1_9 hc hi, md1_44 hc hi, md1_send hc hi, md1_rp0 hc hi, md1_rp1 hc hi, md1_rp2 hc hi, md1_Mo_pulse_1_j27 hc hi]; done)))
theorem md1_Mo_pulse_1_j23 {c i k : Nat} (hc : c ≠ 0 ∧ c ≠ 4 ∧ c ≠ 5 ∧ c ≠ 6 ∧ c ≠ 7 ∧ c ≠ 8 ∧ c ≠ 9 ∧ c ≠ 44) (hi : ¬ ((28 ≤ c ∧ c ≤ 39 ∧ k = 1) ∨ (c = 43 ∧ 3 ≤ k ∧ k < 6) ∨ (c = 46 ∧ 6 ≤ k ∧ k < 12) ∨ ((c = 47 ∨ c = 48) ∧ 4 ≤ k ∧ k < 8))) : ∀ (v : fw_V) (x4 : Int32), mf_Mo_pulse_1_j23 v x4 c i k = v c i k := by
  intro v x4
  unfold mf_Mo_pulse_1_j23
  (try dsimp only)
  all_goals ((repeat' split) <;> (first | with_reducible rfl | (simp only [md1_28 hc hi, md1_29 hc hi, md1_31 hc hi, md1_32 hc hi, md1_33 hc hi, md1_34 hc hi, md1_35 hc hi, md1_36 hc hi, md1_37 hc hi, md1_38 hc hi, md1_39 hc hi, md1_43_3 hc hi, md1_43_4 hc hi, md1_43_5 hc hi, md1_47_4 hc hi, md1_48_4 hc hi, md1_47_5 hc hi, md1_48_5 hc hi, md1_47_6 hc hi, md1_48_6 hc hi, md1_47_7 hc hi, md1_48_7 hc hi, md1_46_6 hc hi, md1_46_7 hc hi, md1_46_8 hc hi, md1_46_9 hc hi, md1_46_10 hc hi, md1_46_11 hc hi, md1_0 hc hi, md1_9 hc hi, md1_44 hc hi, md1_send hc hi, md1_rp0 hc hi, md1_rp1 hc hi, md1_rp2 hc hi, md1_Mo_pulse_1_j24 hc hi, md1_Mo_pulse_1_j26 hc hi]; done)))
theorem md1_Mo_pulse_1_j22 {c i k : Nat} (hc : c ≠ 0 ∧ c ≠ 4 ∧ c ≠ 5 ∧ c ≠ 6 ∧ c ≠ 7 ∧ c ≠ 8 ∧ c ≠ 9 ∧ c ≠ 44) (hi : ¬ ((28 ≤ c ∧ c ≤ 39 ∧ k = 1) ∨ (c = 43 ∧ 3 ≤ k ∧ k < 6) ∨ (c = 46 ∧ 6 ≤ k ∧ k < 12) ∨ ((c = 47 ∨ c = 48) ∧ 4 ≤ k ∧ k < 8))) : ∀ (v : fw_V) (x4 : Int32), mf_Mo_pulse_1_j22 v x4 c i k = v c i k := by
  intro v x4
  unfold mf_Mo_pulse_1_j22
  (try dsimp only)
  all_goals ((repeat' split) <;> (first | with_reducible rfl | (simp only [md1_28 hc hi, md1_29 hc hi, md1_31 hc hi, md1_32 hc hi, md1_33 hc hi, md1_34 hc hi, md1_35 hc hi, md1_36 hc hi, md1_37 hc hi, md1_38 hc hi, md1_39 hc hi, md1_43_3 hc hi, md1_43_4 hc hi, md1_43_5 hc hi, md1_47_4 hc hi, md1_48_4 hc hi, md1_47_5 hc hi, md1_48_5 hc hi, md1_47_6 hc hi, md1_48_6 hc hi, md1_47_7 hc hi, md1_48_7 hc hi, md1_46_6 hc hi, md1_46_7 hc hi, md1_46_8 hc hi, md1_46_9 hc hi, md1_46_10 hc hi, md1_46_11 hc hi, md1_0 hc hi, md1_9 hc hi, md1_44 hc hi, md1_send hc hi, md1_rp0 hc hi, md1_rp1 hc hi, md1_rp2 hc hi, md1_Mo_pulse_1_j23 hc hi]; done)))
theorem md1_Mo_pulse_1_j28 {c i k : Nat} (hc : c ≠ 0 ∧ c ≠ 4 ∧ c ≠ 5 ∧ c ≠ 6 ∧ c ≠ 7 ∧ c ≠ 8 ∧ c ≠ 9 ∧ c ≠ 44) (hi : ¬ ((28 ≤ c ∧ c ≤ 39 ∧ k = 1) ∨ (c = 43 ∧ 3 ≤ k ∧ k < 6) ∨ (c = 46 ∧ 6 ≤ k ∧ k < 12) ∨ ((c = 47 ∨ c = 48) ∧ 4 ≤ k ∧ k < 8))) : ∀ (v : fw_V) (x4 : Int32) (x90 : Int32), mf_Mo_pulse_1_j28 v x4 x90 c i k = v c i k := by
  intro v x4 x90
  unfold mf_Mo_pulse_1_j28
  (try dsimp only)
  all_goals ((repeat' split) <;> (first | with_reducible rfl | (simp only [md1_28 hc hi, md1_29 hc hi, md1_31 hc hi, md1_32 hc hi, md1_33 hc hi, md1_34 hc hi, md1_35 hc hi, md1_36 hc hi, md1_37 hc hi, md1_38 hc hi, md1_39 hc hi, md1_43_3 hc hi, md1_43_4 hc hi, md1_43_5 hc hi, md1_47_4 hc hi, md1_48_4 hc hi, md1_47_5 hc hi, md1_48_5 hc hi, md1_47_6 hc hi, md1_48_6 hc hi, md1_47_7 hc hi, md1_48_7 hc hi, md1_46_6 hc hi, md1_46_7 hc hi, md1_46_8 hc hi, md1_46_9 hc hi, md1_46_10 hc hi, md1_46_11 hc hi, md1_0 hc hi, md1_9 hc hi, md1_44 hc hi, md1_send hc hi, md1_rp0 hc hi, md1_rp1 hc hi, md1_rp2 hc hi, md1_Mo_pulse_1_j24 hc hi, md1_Mo_pulse_1_j26 hc hi]; done)))
theorem md1_Mo_pulse_1_j21 {c i k : Nat} (hc : c ≠ 0 ∧ c ≠ 4 ∧ c ≠ 5 ∧ c ≠ 6 ∧ c ≠ 7 ∧ c ≠ 8 ∧ c ≠ 9 ∧ c ≠ 44) (hi : ¬ ((28 ≤ c ∧ c ≤ 39 ∧ k = 1) ∨ (c = 43 ∧ 3 ≤ k ∧ k < 6) ∨ (c = 46 ∧ 6 ≤ k ∧ k < 12) ∨ ((c = 47 ∨ c = 48) ∧ 4 ≤ k ∧ k < 8))) : ∀ (v : fw_V), mf_Mo_pulse_1_j21 v c i k = v c i k := by
  intro v
  unfold mf_Mo_pulse_1_j21
  (try dsimp only)
  all_goals ((repeat' split) <;> (first | with_reducible rfl | (simp only [md1_28 hc hi, md1_29 hc hi, md1_31 hc hi, md1_32 hc hi, md1_33 hc hi, md1_34 hc hi, md1_35 hc hi, md1_36 hc hi, md1_37 hc hi, md1_38 hc hi, md1_39 hc hi, md1_43_3 hc hi, md1_43_4 hc hi, md1_43_5 hc hi, md1_47_4 hc hi, md1_48_4 hc hi, md1_47_5 hc hi, md1_48_5 hc hi, md1_47_6 hc hi, md1_48_6 hc hi, md1_47_7 hc hi, md1_48_7 hc hi, md1_46_6 hc hi, md1_46_7 hc hi, md1_46_8 hc hi, md1_46_9 hc hi, md1_46_10 hc hi, md1_46_11 hc hi, md1_0 hc hi, md1_9 hc hi, md1_44 hc hi, md1_send hc hi, md1_rp0 hc hi, md1_rp1 hc hi, md1_rp2 hc hi, md1_Mo_pulse_1_j22 hc hi, md1_Mo_pulse_1_j28 hc hi]; done)))
theorem md1_Mo_pulse_1_j20 {c i k : Nat} (hc : c ≠ 0 ∧ c ≠ 4 ∧ c ≠ 5 ∧ c ≠ 6 ∧ c ≠ 7 ∧ c ≠ 8 ∧ c ≠ 9 ∧ c ≠ 44) (hi : ¬ ((28 ≤ c ∧ c ≤ 39 ∧ k = 1) ∨ (c = 43 ∧ 3 ≤ k ∧ k < 6) ∨ (c = 46 ∧ 6 ≤ k ∧ k < 12) ∨ ((c = 47 ∨ c = 48) ∧ 4 ≤ k ∧ k < 8))) : ∀ (v : fw_V), mf_Mo_pulse_1_j20 v c i k = v c i k := by
  intro v
  unfold mf_Mo_pulse_1_j20
  (try dsimp only)
  all_goals ((repeat' split) <;> (first | with_reducible rfl | (simp only [md1_28 hc hi, md1_29 hc hi, md1_31 hc hi, md1_32 hc hi, md1_33 hc hi, md1_34 hc hi, md1_35 hc hi, md1_36 hc hi, md1_37 hc hi, md1_38 hc hi, md1_39 hc hi, md1_43_3 hc hi, md1_43_4 hc hi, md1_43_5 hc hi, md1_47_4 hc hi, md1_48_4 hc hi, md1_47_5 hc hi, md1_48_5 hc hi, md1_47_6 hc hi, md1_48_6 hc hi, md1_47_7 hc hi, md1_48_7 hc hi, md1_46_6 hc hi, md1_46_7 hc hi, md1_46_8 hc hi, md1_46_9 hc hi, md1_46_10 hc hi, md1_46_11 hc hi, md1_0 hc hi, md1_9 hc hi, md1_44 hc hi, md1_send hc hi, md1_rp0 hc hi, md1_rp1 hc hi, md1_rp2 hc hi, md1_Mo_pulse_1_j21 hc hi]; done)))
theorem md1_Mo_pulse_1_j33 {c i k : Nat} (hc : c ≠ 0 ∧ c ≠ 4 ∧ c ≠ 5 ∧ c ≠ 6 ∧ c ≠ 7 ∧ c ≠ 8 ∧ c ≠ 9 ∧ c ≠ 44) (hi : ¬ ((28 ≤ c ∧ c ≤ 39 ∧ k = 1) ∨ (c = 43 ∧ 3 ≤ k ∧ k < 6) ∨ (c = 46 ∧ 6 ≤ k ∧ k < 12) ∨ ((c = 47 ∨ c = 48) ∧ 4 ≤ k ∧ k < 8))) : ∀ (v : fw_V), mf_Mo_pulse_1_j33 v c i k = v c i k := by
  intro v
  unfold mf_Mo_pulse_1_j33
  (try dsimp only)
  all_goals ((repeat' split) <;> (first | with_reducible rfl | (simp only [md1_28 hc hi, md1_29 hc hi, md1_31 hc hi, md1_32 hc hi, md1_33 hc hi, md1_34 hc hi, md1_35 hc hi, md1_36 hc hi, md1_37 hc hi, md1_38 hc hi, md1_39 hc hi, md1_43_3 hc hi, md1_43_4 hc hi, md1_43_5 hc hi, md1_47_4 hc hi, md1_48_4 hc hi, md1_47_5 hc hi, md1_48_5 hc hi, md1_47_6 hc hi, md1_48_6 hc hi, md1_47_7 hc hi, md1_48_7 hc hi, md1_46_6 hc hi, md1_46_7 hc hi, md1_46_8 hc hi, md1_46_9 hc hi, md1_46_10 hc hi, md1_46_11 hc hi, md1_0 hc hi, md1_9 hc hi, md1_44 hc hi, md1_send hc hi, md1_rp0 hc hi, md1_rp1 hc hi, md1_rp2 hc hi, md1_Mo_pulse_1_j27 hc hi]; done)))
theorem md1_Mo_pulse_1_j34 {c i k : Nat} (hc : c ≠ 0 ∧ c ≠ 4 ∧ c ≠ 5 ∧ c ≠ 6 ∧ c ≠ 7 ∧ c ≠ 8 ∧ c ≠ 9 ∧ c ≠ 44) (hi : ¬ ((28 ≤ c ∧ c ≤ 39 ∧ k = 1) ∨ (c = 43 ∧ 3 ≤ k ∧ k < 6) ∨ (c = 46 ∧ 6 ≤ k ∧ k < 12) ∨ ((c = 47 ∨ c = 48) ∧ 4 ≤ k ∧ k < 8))) : ∀ (v : fw_V), mf_Mo_pulse_1_j34 v c i k = v c i k := by
  intro v
  unfold mf_Mo_pulse_1_j34
  (try dsimp only)
  all_goals ((repeat' split) <;> (first | with_reducible rfl | (simp only [md1_28 hc hi, md1_29 hc hi, md1_31 hc hi, md1_32 hc hi, md1_33 hc hi, md1_34 hc hi, md1_35 hc hi, md1_36 hc hi, md1_37 hc hi, md1_38 hc hi, md1_39 hc hi, md1_43_3 hc hi, md1_43_4 hc hi, md1_43_5 hc hi, md1_47_4 hc hi, md1_48_4 hc hi, md1_47_5 hc hi, md1_48_5 hc hi, md1_47_6 hc hi, md1_48_6 hc hi, md1_47_7 hc hi, md1_48_7 hc hi, md1_46_6 hc hi, md1_46_7 hc hi, md1_46_8 hc hi, md1_46_9 hc hi, md1_46_10 hc hi, md1_46_11 hc hi, md1_0 hc hi, md1_9 hc hi, md1_44 hc hi, md1_send hc hi, md1_rp0 hc hi, md1_rp1 hc hi, md1_rp2 hc hi, md1_Mo_pulse_1_j27 hc hi]; done)))
theorem md1_Mo_pulse_1_j32 {c i k : Nat} (hc : c ≠ 0 ∧ c ≠ 4 ∧ c ≠ 5 ∧ c ≠ 6 ∧ c ≠ 7 ∧ c ≠ 8 ∧ c ≠ 9 ∧ c ≠ 44) (hi : ¬ ((28 ≤ c ∧ c ≤ 39 ∧ k = 1) ∨ (c = 43 ∧ 3 ≤ k ∧ k < 6) ∨ (c = 46 ∧ 6 ≤ k ∧ k < 12) ∨ ((c = 47 ∨ c = 48) ∧ 4 ≤ k ∧ k < 8))) : ∀ (v : fw_V) (x4 : Int32), mf_Mo_pulse_1_j32 v x4 c i k = v c i k := by
  intro v x4
  unfold mf_Mo_pulse_1_j32
  (try dsimp only)
  all_goals ((repeat' split) <;> (first | with_reducible rfl | (simp only [md1_28 hc hi, md1_29 hc hi, md1_31 hc hi, md1_32 hc hi, md1_33 hc hi, md1_34 hc hi, md1_35 hc hi, md1_36 hc hi, md1_37 hc hi, md1_38 hc hi, md1_39 hc hi, md1_43_3 hc hi, md1_43_4 hc hi, md1_43_5 hc hi, md1_47_4 hc hi, md1_48_4 hc hi, md1_47_5 hc hi, md1_48_5 hc hi, md1_47_6 hc hi, md1_48_6 hc hi, md1_47_7 hc hi, md1_48_7 hc hi, md1_46_6 hc hi, md1_46_7 hc hi, md1_46_8 hc hi, md1_46_9 hc hi, md1_46_10 hc hi, md1_46_11 hc hi, md1_0 hc hi, md1_9 hc hi, md1_44 hc hi, md1_send hc hi, md1_rp0 hc hi, md1_rp1 hc hi, md1_rp2 hc hi, md1_Mo_pulse_1_j33 hc hi, md1_Mo_pulse_1_j34 hc hi]; done)))
theorem md1_Mo_pulse_1_j31 {c i k : Nat} (hc : c ≠ 0 ∧ c ≠ 4 ∧ c ≠ 5 ∧ c ≠ 6 ∧ c ≠ 7 ∧ c ≠ 8 ∧ c ≠ 9 ∧ c ≠ 44) (hi : ¬ ((28 ≤ c ∧ c ≤ 39 ∧ k = 1) ∨ (c = 43 ∧ 3 ≤ k ∧ k < 6) ∨ (c = 46 ∧ 6 ≤ k ∧ k < 12) ∨ ((c = 47 ∨ c = 48) ∧ 4 ≤ k ∧ k < 8))) : ∀ (v : fw_V) (x4 : Int32), mf_Mo_pulse_1_j31 v x4 c i k = v c i k := by
  intro v x4
  unfold mf_Mo_pulse_1_j31
  (try dsimp only)
  all_goals ((repeat' split) <;> (first | with_reducible rfl | (simp only [md1_28 hc hi, md1_29 hc hi, md1_31 hc hi, md1_32 hc hi, md1_33 hc hi, md1_34 hc hi, md1_35 hc hi, md1_36 hc hi, md1_37 hc hi, md1_38 hc hi, md1_39 hc hi, md1_43_3 hc hi, md1_43_4 hc hi, md1_43_5 hc hi, md1_47_4 hc hi, md1_48_4 hc hi, md1_47_5 hc hi, md1_48_5 hc hi, md1_47_6 hc hi, md1_48_6 hc hi, md1_47_7 hc hi, md1_48_7 hc hi, md1_46_6 hc hi, md1_46_7 hc hi, md1_46_8 hc hi, md1_46_9 hc hi, md1_46_10 hc hi, md1_46_11 hc hi, md1_0 hc hi, md1_9 hc hi, md1_44 hc hi, md1_send hc hi, md1_rp0 hc hi, md1_rp1 hc hi, md1_rp2 hc hi, md1_Mo_pulse_1_j32 hc hi]; done)))
theorem md1_Mo_pulse_1_j35 {c i k : Nat} (hc : c ≠ 0 ∧ c ≠ 4 ∧ c ≠ 5 ∧ c ≠ 6 ∧ c ≠ 7 ∧ c ≠ 8 ∧ c ≠ 9 ∧ c ≠ 44) (hi : ¬ ((28 ≤ c ∧ c ≤ 39 ∧ k = 1) ∨ (c = 43 ∧ 3 ≤ k ∧ k < 6) ∨ (c = 46 ∧ 6 ≤ k ∧ k < 12) ∨ ((c = 47 ∨ c = 48) ∧ 4 ≤ k ∧ k < 8))) : ∀ (v : fw_V) (x4 : Int32) (x90 : Int32), mf_Mo_pulse_1_j35 v x4 x90 c i k = v c i k := by
  intro v x4 x90
  unfold mf_Mo_pulse_1_j35
  (try dsimp only)
  all_goals ((repeat' split) <;> (first | with_reducible rfl | (simp only [md1_28 hc hi, md1_29 hc hi, md1_31 hc hi, md1_32 hc hi, md1_33 hc hi, md1_34 hc hi, md1_35 hc hi, md1_36 hc hi, md1_37 hc hi, md1_38 hc hi, md1_39 hc hi, md1_43_3 hc hi, md1_43_4 hc hi, md1_43_5 hc hi, md1_47_4 hc hi, md1_48_4 hc hi, md1_47_5 hc hi, md1_48_5 hc hi, md1_47_6 hc hi, md1_48_6 hc hi, md1_47_7 hc hi, md1_48_7 hc hi, md1_46_6 hc hi, md1_46_7 hc hi, md1_46_8 hc hi, md1_46_9 hc hi, md1_46_10 hc hi, md1_46_11 hc hi, md1_0 hc hi, md1_9 hc hi, md1_44 hc hi, md1_send hc hi, md1_rp0 hc hi, md1_rp1 hc hi, md1_rp2 hc hi, md1_Mo_pulse_1_j33 hc hi, md1_Mo_pulse_1_j34 hc hi]; done)))
theorem md1_Mo_pulse_1_j30 {c i k : Nat} (hc : c ≠ 0 ∧ c ≠ 4 ∧ c ≠ 5 ∧ c ≠ 6 ∧ c ≠ 7 ∧ c ≠ 8 ∧ c ≠ 9 ∧ c ≠ 44) (hi : ¬ ((28 ≤ c ∧ c ≤ 39 ∧ k = 1) ∨ (c = 43 ∧ 3 ≤ k ∧ k < 6) ∨ (c = 46 ∧ 6 ≤ k ∧ k < 12) ∨ ((c = 47 ∨ c = 48) ∧ 4 ≤ k ∧ k < 8))) : ∀ (v : fw_V), mf_Mo_pulse_1_j30 v c i k = v c i k := by
  intro v
  unfold mf_Mo_pulse_1_j30
  (try dsimp only)
  all_goals ((repeat' split) <;> (first | with_reducible rfl | (simp only [md1_28 hc hi, md1_29 hc hi, md1_31 hc hi, md1_32 hc hi, md1_33 hc hi, md1_34 hc hi, md1_35 hc hi, md1_36 hc hi, md1_37 hc hi, md1_38 hc hi, md1_39 hc hi, md1_43_3 hc hi, md1_43_4 hc hi, md1_43_5 hc hi, md1_47_4 hc hi, md1_48_4 hc hi, md1_47_5 hc hi, md1_48_5 hc hi, md1_47_6 hc hi, md1_48_6 hc hi, md1_47_7 hc hi, md1_48_7 hc hi, md1_46_6 hc hi, md1_46_7 hc hi, md1_46_8 hc hi, md1_46_9 hc hi, md1_46_10 hc hi, md1_46_11 hc hi, md1_0 hc hi, md1_9 hc hi, md1_44 hc hi, md1_send hc hi, md1_rp0 hc hi, md1_rp1 hc hi, md1_rp2 hc hi, md1_Mo_pulse_1_j31 hc hi, md1_Mo_pulse_1_j35 hc hi]; done)))
theorem md1_Mo_pulse_1_j29 {c i k : Nat} (hc : c ≠ 0 ∧ c ≠ 4 ∧ c ≠ 5 ∧ c ≠ 6 ∧ c ≠ 7 ∧ c ≠ 8 ∧ c ≠ 9 ∧ c ≠ 44) (hi : ¬ ((28 ≤ c ∧ c ≤ 39 ∧ k = 1) ∨ (c = 43 ∧ 3 ≤ k ∧ k < 6) ∨ (c = 46 ∧ 6 ≤ k ∧ k < 12) ∨ ((c = 47 ∨ c = 48) ∧ 4 ≤ k ∧ k < 8))) : ∀ (v : fw_V), mf_Mo_pulse_1_j29 v c i k = v c i k := by
  intro v
  unfold mf_Mo_pulse_1_j29
  (try dsimp only)
  all_goals ((repeat' split) <;> (first | with_reducible rfl | (simp only [md1_28 hc hi, md1_29 hc hi, md1_31 hc hi, md1_32 hc hi, md1_33 hc hi, md1_34 hc hi, md1_35 hc hi, md1_36 hc hi, md1_37 hc hi, md1_38 hc hi, md1_39 hc hi, md1_43_3 hc hi, md1_43_4 hc hi, md1_43_5 hc hi, md1_47_4 hc hi, md1_48_4 hc hi, md1_47_5 hc hi, md1_48_5 hc hi, md1_47_6 hc hi, md1_48_6 hc hi, md1_47_7 hc hi, md1_48_7 hc hi, md1_46_6 hc hi, md1_46_7 hc hi, md1_46_8 hc hi, md1_46_9 hc hi, md1_46_10 hc hi, md1_46_11 hc hi, md1_0 hc hi, md1_9 hc hi, md1_44 hc hi, md1_send hc hi, md1_rp0 hc hi, md1_rp1 hc hi, md1_rp2 hc hi, md1_Mo_pulse_1_j30 hc hi]; done)))
theorem md1_Mo_pulse_1_j19 {c i k : Nat} (hc : c ≠ 0 ∧ c ≠ 4 ∧ c ≠ 5 ∧ c ≠ 6 ∧ c ≠ 7 ∧ c ≠ 8 ∧ c ≠ 9 ∧ c ≠ 44) (hi : ¬ ((28 ≤ c ∧ c ≤ 39 ∧ k = 1) ∨ (c = 43 ∧ 3 ≤ k ∧ k < 6) ∨ (c = 46 ∧ 6 ≤ k ∧ k < 12) ∨ ((c = 47 ∨ c = 48) ∧ 4 ≤ k ∧ k < 8))) : ∀ (v : fw_V) (x4 : Int32), mf_Mo_pulse_1_j19 v x4 c i k = v c i k := by
  intro v x4
  unfold mf_Mo_pulse_1_j19
  (try dsimp only)
  all_goals ((repeat' split) <;> (first | with_reducible rfl | (simp only [md1_28 hc hi, md1_29 hc hi, md1_31 hc hi, md1_32 hc hi, md1_33 hc hi, md1_34 hc hi, md1_35 hc hi, md1_36 hc hi, md1_37 hc hi, md1_38 hc hi, md1_39 hc hi, md1_43_3 hc hi, md1_43_4 hc hi, md1_43_5 hc hi, md1_47_4 hc hi, md1_48_4 hc hi, md1_47_5 hc hi, md1_48_5 hc hi, md1_47_6 hc hi, md1_48_6 hc hi, md1_47_7 hc hi, md1_48_7 hc hi, md1_46_6 hc hi, md1_46_7 hc hi, md1_46_8 hc hi, md1_46_9 hc hi, md1_46_10 hc hi, md1_46_11 hc hi, md1_0 hc hi, md1_9 hc hi, md1_44 hc hi, md1_send hc hi, md1_rp0 hc hi, md1_rp1 hc hi, md1_rp2 hc hi, md1_Mo_pulse_1_j20 hc hi, md1_Mo_pulse_1_j29 hc hi]; done)))
theorem md1_Mo_pulse_1_j18 {c i k : Nat} (hc : c ≠ 0 ∧ c ≠ 4 ∧ c ≠ 5 ∧ c ≠ 6 ∧ c ≠ 7 ∧ c ≠ 8 ∧ c ≠ 9 ∧ c ≠ 44) (hi : ¬ ((28 ≤ c ∧ c ≤ 39 ∧ k = 1) ∨ (c = 43 ∧ 3 ≤ k ∧ k < 6) ∨ (c = 46 ∧ 6 ≤ k ∧ k < 12) ∨ ((c = 47 ∨ c = 48) ∧ 4 ≤ k ∧ k < 8))) : ∀ (v : fw_V) (x4 : Int32), mf_Mo_pulse_1_j18 v x4 c i k = v c i k := by
  intro v x4
  unfold mf_Mo_pulse_1_j18
  (try dsimp only)
  all_goals ((repeat' split) <;> (first | with_reducible rfl | (simp only [md1_28 hc hi, md1_29 hc hi, md1_31 hc hi, md1_32 hc hi, md1_33 hc hi, md1_34 hc hi, md1_35 hc hi, md1_36 hc hi, md1_37 hc hi, md1_38 hc hi, md1_39 hc hi, md1_43_3 hc hi, md1_43_4 hc hi, md1_43_5 hc hi, md1_47_4 hc hi, md1_48_4 hc hi, md1_47_5 hc hi, md1_48_5 hc hi, md1_47_6 hc hi, md1_48_6 hc hi, md1_47_7 hc hi, md1_48_7 hc hi, md1_46_6 hc hi, md1_46_7 hc hi, md1_46_8 hc hi, md1_46_9 hc hi, md1_46_10 hc hi, md1_46_11 hc hi, md1_0 hc hi, md1_9 hc hi, md1_44 hc hi, md1_send hc hi, md1_rp0 hc hi, md1_rp1 hc hi, md1_rp2 hc hi, md1_Mo_pulse_1_j19 hc hi]; done)))
theorem md1_Mo_pulse_1_j36 {c i k : Nat} (hc : c ≠ 0 ∧ c ≠ 4 ∧ c ≠ 5 ∧ c ≠ 6 ∧ c ≠ 7 ∧ c ≠ 8 ∧ c ≠ 9 ∧ c ≠ 44) (hi : ¬ ((28 ≤ c ∧ c ≤ 39 ∧ k = 1) ∨ (c = 43 ∧ 3 ≤ k ∧ k < 6) ∨ (c = 46 ∧ 6 ≤ k ∧ k < 12) ∨ ((c = 47 ∨ c = 48) ∧ 4 ≤ k ∧ k < 8))) : ∀ (v : fw_V) (x4 : Int32) (x90 : Int32), mf_Mo_pulse_1_j36 v x4 x90 c i k = v c i k := by
  intro v x4 x90
  unfold mf_Mo_pulse_1_j36
  (try dsimp only)
  all_goals ((repeat' split) <;> (first | with_reducible rfl | (simp only [md1_28 hc hi, md1_29 hc hi, md1_31 hc hi, md1_32 hc hi, md1_33 hc hi, md1_34 hc hi, md1_35 hc hi, md1_36 hc hi, md1_37 hc hi, md1_38 hc hi, md1_39 hc hi, md1_43_3 hc hi, md1_43_4 hc hi, md1_43_5 hc hi, md1_47_4 hc hi, md1_48_4 hc hi, md1_47_5 hc hi, md1_48_5 hc hi, md1_47_6 hc hi, md1_48_6 hc hi, md1_47_7 hc hi, md1_48_7 hc hi, md1_46_6 hc hi, md1_46_7 hc hi, md1_46_8 hc hi, md1_46_9 hc hi, md1_46_10 hc hi, md1_46_11 hc hi, md1_0 hc hi, md1_9 hc hi, md1_44 hc hi, md1_send hc hi, md1_rp0 hc hi, md1_rp1 hc hi, md1_rp2 hc hi, md1_Mo_pulse_1_j20 hc hi, md1_Mo_pulse_1_j29 hc hi]; done)))
theorem md1_Mo_pulse_1_j17 {c i k : Nat} (hc : c ≠ 0 ∧ c ≠ 4 ∧ c ≠ 5 ∧ c ≠ 6 ∧ c ≠ 7 ∧ c ≠ 8 ∧ c ≠ 9 ∧ c ≠ 44) (hi : ¬ ((28 ≤ c ∧ c ≤ 39 ∧ k = 1) ∨ (c = 43 ∧ 3 ≤ k ∧ k < 6) ∨ (c = 46 ∧ 6 ≤ k ∧ k < 12) ∨ ((c = 47 ∨ c = 48) ∧ 4 ≤ k ∧ k < 8))) : ∀ (v : fw_V), mf_Mo_pulse_1_j17 v c i k = v c i k := by
  intro v
  unfold mf_Mo_pulse_1_j17
  (try dsimp only)
  all_goals ((repeat' split) <;> (first | with_reducible rfl | (simp only [md1_28 hc hi, md1_29 hc hi, md1_31 hc hi, md1_32 hc hi, md1_33 hc hi, md1_34 hc hi, md1_35 hc hi, md1_36 hc hi, md1_37 hc hi, md1_38 hc hi, md1_39 hc hi, md1_43_3 hc hi, md1_43_4 hc hi, md1_43_5 hc hi, md1_47_4 hc hi, md1_48_4 hc hi, md1_47_5 hc hi, md1_48_5 hc hi, md1_47_6 hc hi, md1_48_6 hc hi, md1_47_7 hc hi, md1_48_7 hc hi, md1_46_6 hc hi, md1_46_7 hc hi, md1_46_8 hc hi, md1_46_9 hc hi, md1_46_10 hc hi, md1_46_11 hc hi, md1_0 hc hi, md1_9 hc hi, md1_44 hc hi, md1_send hc hi, md1_rp0 hc hi, md1_rp1 hc hi, md1_rp2 hc hi, md1_Mo_pulse_1_j18 hc hi, md1_Mo_pulse_1_j36 hc hi]; done)))
theorem md1_Mo_pulse_1_j16 {c i k : Nat} (hc : c ≠ 0 ∧ c ≠ 4 ∧ c ≠ 5 ∧ c ≠ 6 ∧ c ≠ 7 ∧ c ≠ 8 ∧ c ≠ 9 ∧ c ≠ 44) (hi : ¬ ((28 ≤ c ∧ c ≤ 39 ∧ k = 1) ∨ (c = 43 ∧ 3 ≤ k ∧ k < 6) ∨ (c = 46 ∧ 6 ≤ k ∧ k < 12) ∨ ((c = 47 ∨ c = 48) ∧ 4 ≤ k ∧ k < 8))) : ∀ (v : fw_V), mf_Mo_pulse_1_j16 v c i k = v c i k := by
  intro v
  unfold mf_Mo_pulse_1_j16
  (try dsimp only)
  all_goals ((repeat' split) <;> (first | with_reducible rfl | (simp only [md1_28 hc hi, md1_29 hc hi, md1_31 hc hi, md1_32 hc hi, md1_33 hc hi, md1_34 hc hi, md1_35 hc hi, md1_36 hc hi, md1_37 hc hi, md1_38 hc hi, md1_39 hc hi, md1_43_3 hc hi, md1_43_4 hc hi, md1_43_5 hc hi, md1_47_4 hc hi, md1_48_4 hc hi, md1_47_5 hc hi, md1_48_5 hc hi, md1_47_6 hc hi, md1_48_6 hc hi, md1_47_7 hc hi, md1_48_7 hc hi, md1_46_6 hc hi, md1_46_7 hc hi, md1_46_8 hc hi, md1_46_9 hc hi, md1_46_10 hc hi, md1_46_11 hc hi, md1_0 hc hi, md1_9 hc hi, md1_44 hc hi, md1_send hc hi, md1_rp0 hc hi, md1_rp1 hc hi, md1_rp2 hc hi, md1_Mo_pulse_1_j17 hc hi]; done)))
theorem md1_Mo_pulse_1_j46 {c i k : Nat} (hc : c ≠ 0 ∧ c ≠ 4 ∧ c ≠ 5 ∧ c ≠ 6 ∧ c ≠ 7 ∧ c ≠ 8 ∧ c ≠ 9 ∧ c ≠ 44) (hi : ¬ ((28 ≤ c ∧ c ≤ 39 ∧ k = 1) ∨ (c = 43 ∧ 3 ≤ k ∧ k < 6) ∨ (c = 46 ∧ 6 ≤ k ∧ k < 12) ∨ ((c = 47 ∨ c = 48) ∧ 4 ≤ k ∧ k < 8))) : ∀ (v : fw_V), mf_Mo_pulse_1_j46 v c i k = v c i k := by
  intro v
  unfold mf_Mo_pulse_1_j46
  (try dsimp only)
  all_goals ((repeat' split) <;> (first | with_reducible rfl | (simp only [md1_28 hc hi, md1_29 hc hi, md1_31 hc hi, md1_32 hc hi, md1_33 hc hi, md1_34 hc hi, md1_35 hc hi, md1_36 hc hi, md1_37 hc hi, md1_38 hc hi, md1_39 hc hi, md1_43_3 hc hi, md1_43_4 hc hi, md1_43_5 hc hi, md1_47_4 hc hi, md1_48_4 hc hi, md1_47_5 hc hi, md1_48_5 hc hi, md1_47_6 hc hi, md1_48_6 hc hi, md1_47_7 hc hi, md1_48_7 hc hi, md1_46_6 hc hi, md1_46_7 hc hi, md1_46_8 hc hi, md1_46_9 hc hi, md1_46_10 hc hi, md1_46_11 hc hi, md1_0 hc hi, md1_9 hc hi, md1_44 hc hi, md1_send hc hi, md1_rp0 hc hi, md1_rp1 hc hi, md1_rp2 hc hi, md1_Mo_reply_1 hc hi]; done)))
theorem md1_Mo_pulse_1_j45 {c i k : Nat} (hc : c ≠ 0 ∧ c ≠ 4 ∧ c ≠ 5 ∧ c ≠ 6 ∧ c ≠ 7 ∧ c ≠ 8 ∧ c ≠ 9 ∧ c ≠ 44) (hi : ¬ ((28 ≤ c ∧ c ≤ 39 ∧ k = 1) ∨ (c = 43 ∧ 3 ≤ k ∧ k < 6) ∨ (c = 46 ∧ 6 ≤ k ∧ k < 12) ∨ ((c = 47 ∨ c = 48) ∧ 4 ≤ k ∧ k < 8))) : ∀ (v : fw_V), mf_Mo_pulse_1_j45 v c i k = v c i k := by
  intro v
  unfold mf_Mo_pulse_1_j45
  (try dsimp only)
  all_goals ((repeat' split) <;> (first | with_reducible rfl | (simp only [md1_28 hc hi, md1_29 hc hi, md1_31 hc hi, md1_32 hc hi, md1_33 hc hi, md1_34 hc hi, md1_35 hc hi, md1_36 hc hi, md1_37 hc hi, md1_38 hc hi, md1_39 hc hi, md1_43_3 hc hi, md1_43_4 hc hi, md1_43_5 hc hi, md1_47_4 hc hi, md1_48_4 hc hi, md1_47_5 hc hi, md1_48_5 hc hi, md1_47_6 hc hi, md1_48_6 hc hi, md1_47_7 hc hi, md1_48_7 hc hi, md1_46_6 hc hi, md1_46_7 hc hi, md1_46_8 hc hi, md1_46_9 hc hi, md1_46_10 hc hi, md1_46_11 hc hi, md1_0 hc hi, md1_9 hc hi, md1_44 hc hi, md1_send hc hi, md1_rp0 hc hi, md1_rp1 hc hi, md1_rp2 hc hi, md1_Mo_pulse_1_j46 hc hi]; done)))
theorem md1_Mo_pulse_1_j48 {c i k : Nat} (hc : c ≠ 0 ∧ c ≠ 4 ∧ c ≠ 5 ∧ c ≠ 6 ∧ c ≠ 7 ∧ c ≠ 8 ∧ c ≠ 9 ∧ c ≠ 44) (hi : ¬ ((28 ≤ c ∧ c ≤ 39 ∧ k = 1) ∨ (c = 43 ∧ 3 ≤ k ∧ k < 6) ∨ (c = 46 ∧ 6 ≤ k ∧ k < 12) ∨ ((c = 47 ∨ c = 48) ∧ 4 ≤ k ∧ k < 8))) : ∀ (v : fw_V), mf_Mo_pulse_1_j48 v c i k = v c i k := by
  intro v
  unfold mf_Mo_pulse_1_j48
  (try dsimp only)
  all_goals ((repeat' split) <;> (first | with_reducible rfl | (simp only [md1_28 hc hi, md1_29 hc hi, md1_31 hc hi, md1_32 hc hi, md1_33 hc hi, md1_34 hc hi, md1_35 hc hi, md1_36 hc hi, md1_37 hc hi, md1_38 hc hi, md1_39 hc hi, md1_43_3 hc hi, md1_43_4 hc hi, md1_43_5 hc hi, md1_47_4 hc hi, md1_48_4 hc hi, md1_47_5 hc hi, md1_48_5 hc hi, md1_47_6 hc hi, md1_48_6 hc hi, md1_47_7 hc hi, md1_48_7 hc hi, md1_46_6 hc hi, md1_46_7 hc hi, md1_46_8 hc hi, md1_46_9 hc hi, md1_46_10 hc hi, md1_46_11 hc hi, md1_0 hc hi, md1_9 hc hi, md1_44 hc hi, md1_send hc hi, md1_rp0 hc hi, md1_rp1 hc hi, md1_rp2 hc hi, md1_Mo_reply_1 hc hi]; done)))
theorem md1_Mo_pulse_1_j47 {c i k : Nat} (hc : c ≠ 0 ∧ c ≠ 4 ∧ c ≠ 5 ∧ c ≠ 6 ∧ c ≠ 7 ∧ c ≠ 8 ∧ c ≠ 9 ∧ c ≠ 44) (hi : ¬ ((28 ≤ c ∧ c ≤ 39 ∧ k = 1) ∨ (c = 43 ∧ 3 ≤ k ∧ k < 6) ∨ (c = 46 ∧ 6 ≤ k ∧ k < 12) ∨ ((c = 47 ∨ c = 48) ∧ 4 ≤ k ∧ k < 8))) : ∀ (v : fw_V), mf_Mo_pulse_1_j47 v c i k = v c i k := by
  intro v
  unfold mf_Mo_pulse_1_j47
  (try dsimp only)
  all_goals ((repeat' split) <;> (first | with_reducible rfl | (simp only [md1_28 hc hi, md1_29 hc hi, md1_31 hc hi, md1_32 hc hi, md1_33 hc hi, md1_34 hc hi, md1_35 hc hi, md1_36 hc hi, md1_37 hc hi, md1_38 hc hi, md1_39 hc hi, md1_43_3 hc hi, md1_43_4 hc hi, md1_43_5 hc hi, md1_47_4 hc hi, md1_48_4 hc hi, md1_47_5 hc hi, md1_48_5 hc hi, md1_47_6 hc hi, md1_48_6 hc hi, md1_47_7 hc hi, md1_48_7 hc hi, md1_46_6 hc hi, md1_46_7 hc hi, md1_46_8 hc hi, md1_46_9 hc hi, md1_46_10 hc hi, md1_46_11 hc hi, md1_0 hc hi, md1_9 hc hi, md1_44 hc hi, md1_send hc hi, md1_rp0 hc hi, md1_rp1 hc hi, md1_rp2 hc hi, md1_Mo_pulse_1_j48 hc hi]; done)))
theorem md1_Mo_pulse_1_j44 {c i k : Nat} (hc : c ≠ 0 ∧ c ≠ 4 ∧ c ≠ 5 ∧ c ≠ 6 ∧ c ≠ 7 ∧ c ≠ 8 ∧ c ≠ 9 ∧ c ≠ 44) (hi : ¬ ((28 ≤ c ∧ c ≤ 39 ∧ k = 1) ∨ (c = 43 ∧ 3 ≤ k ∧ k < 6) ∨ (c = 46 ∧ 6 ≤ k ∧ k < 12) ∨ ((c = 47 ∨ c = 48) ∧ 4 ≤ k ∧ k < 8))) : ∀ (v : fw_V) (x4 : Int32), mf_Mo_pulse_1_j44 v x4 c i k = v c i k := by
  intro v x4
  unfold mf_Mo_pulse_1_j44
  (try dsimp only)
  all_goals ((repeat' split) <;> (first | with_reducible rfl | (simp only [md1_28 hc hi, md1_29 hc hi, md1_31 hc hi, md1_32 hc hi, md1_33 hc hi, md1_34 hc hi, md1_35 hc hi, md1_36 hc hi, md1_37 hc hi, md1_38 hc hi, md1_39 hc hi, md1_43_3 hc hi, md1_43_4 hc hi, md1_43_5 hc hi, md1_47_4 hc hi, md1_48_4 hc hi, md1_47_5 hc hi, md1_48_5 hc hi, md1_47_6 hc hi, md1_48_6 hc hi, md1_47_7 hc hi, md1_48_7 hc hi, md1_46_6 hc hi, md1_46_7 hc hi, md1_46_8 hc hi, md1_46_9 hc hi, md1_46_10 hc hi, md1_46_11 hc hi, md1_0 hc hi, md1_9 hc hi, md1_44 hc hi, md1_send hc hi, md1_rp0 hc hi, md1_rp1 hc hi, md1_rp2 hc hi, md1_Mo_pulse_1_j45 hc hi, md1_Mo_pulse_1_j47 hc hi]; done)))
theorem md1_Mo_pulse_1_j43 {c i k : Nat} (hc : c ≠ 0 ∧ c ≠ 4 ∧ c ≠ 5 ∧ c ≠ 6 ∧ c ≠ 7 ∧ c ≠ 8 ∧ c ≠ 9 ∧ c ≠ 44) (hi : ¬ ((28 ≤ c ∧ c ≤ 39 ∧ k = 1) ∨ (c = 43 ∧ 3 ≤ k ∧ k < 6) ∨ (c = 46 ∧ 6 ≤ k ∧ k < 12) ∨ ((c = 47 ∨ c = 48) ∧ 4 ≤ k ∧ k < 8))) : ∀ (v : fw_V) (x4 : Int32), mf_Mo_pulse_1_j43 v x4 c i k = v c i k := by
  intro v x4
  unfold mf_Mo_pulse_1_j43
  (try dsimp only)
  all_goals ((repeat' split) <;> (first | with_reducible rfl | (simp only [md1_28 hc hi, md1_29 hc hi, md1_31 hc hi, md1_32 hc hi, md1_33 hc hi, md1_34 hc hi, md1_35 hc hi, md1_36 hc hi, md1_37 hc hi, md1_38 hc hi, md1_39 hc hi, md1_43_3 hc hi, md1_43_4 hc hi, md1_43_5 hc hi, md1_47_4 hc hi, md1_48_4 hc hi, md1_47_5 hc hi, md1_48_5 hc hi, md1_47_6 hc hi, md1_48_6 hc hi, md1_47_7 hc hi, md1_48_7 hc hi, md1_46_6 hc hi, md1_46_7 hc hi, md1_46_8 hc hi, md1_46_9 hc hi, md1_46_10 hc hi, md1_46_11 hc hi, md1_0 hc hi, md1_9 hc hi, md1_44 hc hi, md1_send hc hi, md1_rp0 hc hi, md1_rp1 hc hi, md1_rp2 hc hi, md1_Mo_pulse_1_j44 hc hi]; done)))
theorem md1_Mo_pulse_1_j49 {c i k : Nat} (hc : c ≠ 0 ∧ c ≠ 4 ∧ c ≠ 5 ∧ c ≠ 6 ∧ c ≠ 7 ∧ c ≠ 8 ∧ c ≠ 9 ∧ c ≠ 44) (hi : ¬ ((28 ≤ c ∧ c ≤ 39 ∧ k = 1) ∨ (c = 43 ∧ 3 ≤ k ∧ k < 6) ∨ (c = 46 ∧ 6 ≤ k ∧ k < 12) ∨ ((c = 47 ∨ c = 48) ∧ 4 ≤ k ∧ k < 8))) : ∀ (v : fw_V) (x4 : Int32) (x90 : Int32), mf_Mo_pulse_1_j49 v x4 x90 c i k = v c i k := by
  intro v x4 x90
  unfold mf_Mo_pulse_1_j49
  (try dsimp only)
  all_goals ((repeat' split) <;> (first | with_reducible rfl | (simp only [md1_28 hc hi, md1_29 hc hi, md1_31 hc hi, md1_32 hc hi, md1_33 hc hi, md1_34 hc hi, md1_35 hc hi, md1_36 hc hi, md1_37 hc hi, md1_38 hc hi, md1_39 hc hi, md1_43_3 hc hi, md1_43_4 hc hi, md1_43_5 hc hi, md1_47_4 hc hi, md1_48_4 hc hi, md1_47_5 hc hi, md1_48_5 hc hi, md1_47_6 hc hi, md1_48_6 hc hi, md1_47_7 hc hi, md1_48_7 hc hi, md1_46_6 hc hi, md1_46_7 hc hi, md1_46_8 hc hi, md1_46_9 hc hi, md1_46_10 hc hi, md1_46_11 hc hi, md1_0 hc hi, md1_9 hc hi, md1_44 hc hi, md1_send hc hi, md1_rp0 hc hi, md1_rp1 hc hi, md1_rp2 hc hi, md1_Mo_pulse_1_j45 hc hi, md1_Mo_pulse_1_j47 hc hi]; done)))
theorem md1_Mo_pulse_1_j42 {c i k : Nat} (hc : c ≠ 0 ∧ c ≠ 4 ∧ c ≠ 5 ∧ c ≠ 6 ∧ c ≠ 7 ∧ c ≠ 8 ∧ c ≠ 9 ∧ c ≠ 44) (hi : ¬ ((28 ≤ c ∧ c ≤ 39 ∧ k = 1) ∨ (c = 43 ∧ 3 ≤ k ∧ k < 6) ∨ (c = 46 ∧ 6 ≤ k ∧ k < 12) ∨ ((c = 47 ∨ c = 48) ∧ 4 ≤ k ∧ k < 8))) : ∀ (v : fw_V), mf_Mo_pulse_1_j42 v c i k = v c i k := by
  intro v
  unfold mf_Mo_pulse_1_j42
  (try dsimp only)
  all_goals ((repeat' split) <;> (first | with_reducible rfl | (simp only [md1_28 hc hi, md1_29 hc hi, md1_31 hc hi, md1_32 hc hi, md1_33 hc hi, md1_34 hc hi, md1_35 hc hi, md1_36 hc hi, md1_37 hc hi, md1_38 hc hi, md1_39 hc hi, md1_43_3 hc hi, md1_43_4 hc hi, md1_43_5 hc hi, md1_47_4 hc hi, md1_48_4 hc hi, md1_47_5 hc hi, md1_48_5 hc hi, md1_47_6 hc hi, md1_48_6 hc hi, md1_47_7 hc hi, md1_48_7 hc hi, md1_46_6 hc hi, md1_46_7 hc hi, md1_46_8 hc hi, md1_46_9 hc hi, md1_46_10 hc hi, md1_46_11 hc hi, md1_0 hc hi, md1_9 hc hi, md1_44 hc hi, md1_send hc hi, md1_rp0 hc hi, md1_rp1 hc hi, md1_rp2 hc hi, md1_Mo_pulse_1_j43 hc hi, md1_Mo_pulse_1_j49 hc hi]; done)))
theorem md1_Mo_pulse_1_j41 {c i k : Nat} (hc : c ≠ 0 ∧ c ≠ 4 ∧ c ≠ 5 ∧ c ≠ 6 ∧ c ≠ 7 ∧ c ≠ 8 ∧ c ≠ 9 ∧ c ≠ 44) (hi : ¬ ((28 ≤ c ∧ c ≤ 39 ∧ k = 1) ∨ (c = 43 ∧ 3 ≤ k ∧ k < 6) ∨ (c = 46 ∧ 6 ≤ k ∧ k < 12) ∨ ((c = 47 ∨ c = 48) ∧ 4 ≤ k ∧ k < 8))) : ∀ (v : fw_V), mf_Mo_pulse_1_j41 v c i k = v c i k := by
  intro v
  unfold mf_Mo_pulse_1_j41
  (try dsimp only)
  all_goals ((repeat' split) <;> (first | with_reducible rfl | (simp only [md1_28 hc hi, md1_29 hc hi, md1_31 hc hi, md1_32 hc hi, md1_33 hc hi, md1_34 hc hi, md1_35 hc hi, md1_36 hc hi, md1_37 hc hi, md1_38 hc hi, md1_39 hc hi, md1_43_3 hc hi, md1_43_4 hc hi, md1_43_5 hc hi, md1_47_4 hc hi, md1_48_4 hc hi, md1_47_5 hc hi, md1_48_5 hc hi, md1_47_6 hc hi, md1_48_6 hc hi, md1_47_7 hc hi, md1_48_7 hc hi, md1_46_6 hc hi, md1_46_7 hc hi, md1_46_8 hc hi, md1_46_9 hc hi, md1_46_10 hc hi, md1_46_11 hc hi, md1_0 hc hi, md1_9 hc hi, md1_44 hc hi, md1_send hc hi, md1_rp0 hc hi, md1_rp1 hc hi, md1_rp2 hc hi, md1_Mo_pulse_1_j42 hc hi]; done)))
theorem md1_Mo_pulse_1_j54 {c i k : Nat} (hc : c ≠ 0 ∧ c ≠ 4 ∧ c ≠ 5 ∧ c ≠ 6 ∧ c ≠ 7 ∧ c ≠ 8 ∧ c ≠ 9 ∧ c ≠ 44) (hi : ¬ ((28 ≤ c ∧ c ≤ 39 ∧ k = 1) ∨ (c = 43 ∧ 3 ≤ k ∧ k < 6) ∨ (c = 46 ∧ 6 ≤ k ∧ k < 12) ∨ ((c = 47 ∨ c = 48) ∧ 4 ≤ k ∧ k < 8))) : ∀ (v : fw_V), mf_Mo_pulse_1_j54 v c i k = v c i k := by
  intro v
  unfold mf_Mo_pulse_1_j54
  (try dsimp only)
  all_goals ((repeat' split) <;> (first | with_reducible rfl | (simp only [md1_28 hc hi, md1_29 hc hi, md1_31 hc hi, md1_32 hc hi, md1_33 hc hi, md1_34 hc hi, md1_35 hc hi, md1_36 hc hi, md1_37 hc hi, md1_38 hc hi, md1_39 hc hi, md1_43_3 hc hi, md1_43_4 hc hi, md1_43_5 hc hi, md1_47_4 hc hi, md1_48_4 hc hi, md1_47_5 hc hi, md1_48_5 hc hi, md1_47_6 hc hi, md1_48_6 hc hi, md1_47_7 hc hi, md1_48_7 hc hi, md1_46_6 hc hi, md1_46_7 hc hi, md1_46_8 hc hi, md1_46_9 hc hi, md1_46_10 hc hi, md1_46_11 hc hi, md1_0 hc hi, md1_9 hc hi, md1_44 hc hi, md1_send hc hi, md1_rp0 hc hi, md1_rp1 hc hi, md1_rp2 hc hi, md1_Mo_pulse_1_j48 hc hi]; done)))
theorem md1_Mo_pulse_1_j55 {c i k : Nat} (hc : c ≠ 0 ∧ c ≠ 4 ∧ c ≠ 5 ∧ c ≠ 6 ∧ c ≠ 7 ∧ c ≠ 8 ∧ c ≠ 9 ∧ c ≠ 44) (hi : ¬ ((28 ≤ c ∧ c ≤ 39 ∧ k = 1) ∨ (c = 43 ∧ 3 ≤ k ∧ k < 6) ∨ (c = 46 ∧ 6 ≤ k ∧ k < 12) ∨ ((c = 47 ∨ c = 48) ∧ 4 ≤ k ∧ k < 8))) : ∀ (v : fw_V), mf_Mo_pulse_1_j55 v c i k = v c i k := by
  intro v
  unfold mf_Mo_pulse_1_j55
  (try dsimp only)
  all_goals ((repeat' split) <;> (first | with_reducible rfl | (simp only [md1_28 hc hi, md1_29 hc hi, md1_31 hc hi, md1_32 hc hi, md1_33 hc hi, md1_34 hc hi, md1_35 hc hi, md1_36 hc hi, md1_37 hc hi, md1_38 hc hi, md1_39 hc hi, md1_43_3 hc hi, md1_43_4 hc hi, md1_43_5 hc hi, md1_47_4 hc hi, md1_48_4 hc hi, md1_47_5 hc hi, md1_48_5 hc hi, md1_47_6 hc hi, md1_48_6 hc hi, md1_47_7 hc hi, md1_48_7 hc hi, md1_46_6 hc hi, md1_46_7 hc hi, md1_46_8 hc hi, md1_46_9 hc hi, md1_46_10 hc hi, md1_46_11 hc hi, md1_0 hc hi, md1_9 hc hi, md1_44 hc hi, md1_send hc hi, md1_rp0 hc hi, md1_rp1 hc hi, md1_rp2 hc hi, md1_Mo_pulse_1_j48 hc hi]; done)))
theorem md1_Mo_pulse_1_j53 {c i k : Nat} (hc : c ≠ 0 ∧ c ≠ 4 ∧ c ≠ 5 ∧ c ≠ 6 ∧ c ≠ 7 ∧ c ≠ 8 ∧ c ≠ 9 ∧ c ≠ 44) (hi : ¬ ((28 ≤ c ∧ c ≤ 39 ∧ k = 1) ∨ (c = 43 ∧ 3 ≤ k ∧ k < 6) ∨ (c = 46 ∧ 6 ≤ k ∧ k < 12) ∨ ((c = 47 ∨ c = 48) ∧ 4 ≤ k ∧ k < 8))) : ∀ (v : fw_V) (x4 : Int32), mf_Mo_pulse_1_j53 v x4 c i k = v c i k := by
  intro v x4
  unfold mf_Mo_pulse_1_j53
  (try dsimp only)
  all_goals ((repeat' split) <;> (first | with_reducible rfl | (simp only [md1_28 hc hi, md1_29 hc hi, md1_31 hc hi, md1_32 hc hi, md1_33 hc hi, md1_34 hc hi, md1_35 hc hi, md1_36 hc hi, md1_37 hc hi, md1_38 hc hi, md1_39 hc hi, md1_43_3 hc hi, md1_43_4 hc hi, md1_43_5 hc hi, md1_47_4 hc hi, md1_48_4 hc hi, md1_47_5 hc hi, md1_48_5 hc hi, md1_47_6 hc hi, md1_48_6 hc hi, md1_47_7 hc hi, md1_48_7 hc hi, md1_46_6 hc hi, md1_46_7 hc hi, md1_46_8 hc hi, md1_46_9 hc hi, md1_46_10 hc hi, md1_46_11 hc hi, md1_0 hc hi, md1_9 hc hi, md1_44 hc hi, md1_send hc hi, md1_rp0 hc hi, md1_rp1 hc hi, md1_rp2 hc hi, md1_Mo_pulse_1_j54 hc hi, md1_Mo_pulse_1_j55 hc hi]; done)))
theorem md1_Mo_pulse_1_j52 {c i k : Nat} (hc : c ≠ 0 ∧ c ≠ 4 ∧ c ≠ 5 ∧ c ≠ 6 ∧ c ≠ 7 ∧ c ≠ 8 ∧ c ≠ 9 ∧ c ≠ 44) (hi : ¬ ((28 ≤ c ∧ c ≤ 39 ∧ k = 1) ∨ (c = 43 ∧ 3 ≤ k ∧ k < 6) ∨ (c = 46 ∧ 6 ≤ k ∧ k < 12) ∨ ((c = 47 ∨ c = 48) ∧ 4 ≤ k ∧ k < 8))) : ∀ (v : fw_V) (x4 : Int32), mf_Mo_pulse_1_j52 v x4 c i k = v c i k := by
  intro v x4
  unfold mf_Mo_pulse_1_j52
  (try dsimp only)
  all_goals ((repeat' split) <;> (first | with_reducible rfl | (simp only [md1_28 hc hi, md1_29 hc hi, md1_31 hc hi, md1_32 hc hi, md1_33 hc hi, md1_34 hc hi, md1_35 hc hi, md1_36 hc hi, md1_37 hc hi, md1_38 hc hi, md1_39 hc hi, md1_43_3 hc hi, md1_43_4 hc hi, md1_43_5 hc hi, md1_47_4 hc hi, md1_48_4 hc hi, md1_47_5 hc hi, md1_48_5 hc hi, md1_47_6 hc hi, md1_48_6 hc hi, md1_47_7 hc hi, md1_48_7 hc hi, md1_46_6 hc hi, md1_46_7 hc hi, md1_46_8 hc hi, md1_46_9 hc hi, md1_46_10 hc hi, md1_46_11 hc hi, md1_0 hc hi, md1_9 hc hi, md1_44 hc hi, md1_send hc hi, md1_rp0 hc hi, md1_rp1 hc hi, md1_rp2 hc hi, md1_Mo_pulse_1_j53 hc hi]; done)))
theorem md1_Mo_pulse_1_j56 {c i k : Nat} (hc : c ≠ 0 ∧ c ≠ 4 ∧ c ≠ 5 ∧ c ≠ 6 ∧ c ≠ 7 ∧ c ≠ 8 ∧ c ≠ 9 ∧ c ≠ 44) (hi : ¬ ((28 ≤ c ∧ c ≤ 39 ∧ k = 1) ∨ (c = 43 ∧ 3 ≤ k ∧ k < 6) ∨ (c = 46 ∧ 6 ≤ k ∧ k < 12) ∨ ((c = 47 ∨ c = 48) ∧ 4 ≤ k ∧ k < 8))) : ∀ (v : fw_V) (x4 : Int32) (x90 : Int32), mf_Mo_pulse_1_j56 v x4 x90 c i k = v c i k := by
  intro v x4 x90
  unfold mf_Mo_pulse_1_j56
  (try dsimp only)
  all_goals ((repeat' split) <;> (first | with_reducible rfl | (simp only [md1_28 hc hi, md1_29 hc hi, md1_31 hc hi, md1_32 hc hi, md1_33 hc hi, md1_34 hc hi, md1_35 hc hi, md1_36 hc hi, md1_37 hc hi, md1_38 hc hi, md1_39 hc hi, md1_43_3 hc hi, md1_43_4 hc hi, md1_43_5 hc hi, md1_47_4 hc hi, md1_48_4 hc hi, md1_47_5 hc hi, md1_48_5 hc hi, md1_47_6 hc hi, md1_48_6 hc hi, md1_47_7 hc hi, md1_48_7 hc hi, md1_46_6 hc hi, md1_46_7 hc hi, md1_46_8 hc hi, md1_46_9 hc hi, md1_46_10 hc hi, md1_46_11 hc hi, md1_0 hc hi, md1_9 hc hi, md1_44 hc hi, md1_send hc hi, md1_rp0 hc hi, md1_rp1 hc hi, md1_rp2 hc hi, md1_Mo_pulse_1_j54 hc hi, md1_Mo_pulse_1_j55 hc hi]; done)))
theorem md1_Mo_pulse_1_j51 {c i k : Nat} (hc : c ≠ 0 ∧ c ≠ 4 ∧ c ≠ 5 ∧ c ≠ 6 ∧ c ≠ 7 ∧ c ≠ 8 ∧ c ≠ 9 ∧ c ≠ 44) (hi : ¬ ((28 ≤ c ∧ c ≤ 39 ∧ k = 1) ∨ (c = 43 ∧ 3 ≤ k ∧ k < 6) ∨ (c = 46 ∧ 6 ≤ k ∧ k < 12) ∨ ((c = 47 ∨ c = 48) ∧ 4 ≤ k ∧ k < 8))) : ∀ (v : fw_V), mf_Mo_pulse_1_j51 v c i k = v c i k := by
  intro v
  unfold mf_Mo_pulse_1_j51
  (try dsimp only)
  all_goals ((repeat' split) <;> (first | with_reducible rfl | (simp only [md1_28 hc hi, md1_29 hc hi, md1_31 hc hi, md1_32 hc hi, md1_33 hc hi, md1_34 hc hi, md1_35 hc hi, md1_36 hc hi, md1_37 hc hi, md1_38 hc hi, md1_39 hc hi, md1_43_3 hc hi, md1_43_4 hc hi, md1_43_5 hc hi, md1_47_4 hc hi, md1_48_4 hc hi, md1_47_5 hc hi, md1_48_5 hc hi, md1_47_6 hc hi, md1_48_6 hc hi, md1_47_7 hc hi, md1_48_7 hc hi, md1_46_6 hc hi, md1_46_7 hc hi, md1_46_8 hc hi, md1_46_9 hc hi, md1_46_10 hc hi, md1_46_11 hc hi, md1_0 hc hi, md1_9 hc hi, md1_44 hc hi, md1_send hc hi, md1_rp0 hc hi, md1_rp1 hc hi, md1_rp2 hc hi, md1_Mo_pulse_1_j52 hc hi, md1_Mo_pulse_1_j56 hc hi]; done)))
theorem md1_Mo_pulse_1_j50 {c i k : Nat} (hc : c ≠ 0 ∧ c ≠ 4 ∧ c ≠ 5 ∧ c ≠ 6 ∧ c ≠ 7 ∧ c ≠ 8 ∧ c ≠ 9 ∧ c ≠ 44) (hi : ¬ ((28 ≤ c ∧ c ≤ 39 ∧ k = 1) ∨ (c = 43 ∧ 3 ≤ k ∧ k < 6) ∨ (c = 46 ∧ 6 ≤ k ∧ k < 12) ∨ ((c = 47 ∨ c = 48) ∧ 4 ≤ k ∧ k < 8))) : ∀ (v : fw_V), mf_Mo_pulse_1_j50 v c i k = v c i k := by
  intro v
  unfold mf_Mo_pulse_1_j50
  (try dsimp only)
  all_goals ((repeat' split) <;> (first | with_reducible rfl | (simp only [md1_28 hc hi, md1_29 hc hi, md1_31 hc hi, md1_32 hc hi, md1_33 hc hi, md1_34 hc hi, md1_35 hc hi, md1_36 hc hi, md1_37 hc hi, md1_38 hc hi, md1_39 hc hi, md1_43_3 hc hi, md1_43_4 hc hi, md1_43_5 hc hi, md1_47_4 hc hi, md1_48_4 hc hi, md1_47_5 hc hi, md1_48_5 hc hi, md1_47_6 hc hi, md1_48_6 hc hi, md1_47_7 hc hi, md1_48_7 hc hi, md1_46_6 hc hi, md1_46_7 hc hi, md1_46_8 hc hi, md1_46_9 hc hi, md1_46_10 hc hi, md1_46_11 hc hi, md1_0 hc hi, md1_9 hc hi, md1_44 hc hi, md1_send hc hi, md1_rp0 hc hi, md1_rp1 hc hi, md1_rp2 hc hi, md1_Mo_pulse_1_j51 hc hi]; done)))
theorem md1_Mo_pulse_1_j40 {c i k : Nat} (hc : c ≠ 0 ∧ c ≠ 4 ∧ c ≠ 5 ∧ c ≠ 6 ∧ c ≠ 7 ∧ c ≠ 8 ∧ c ≠ 9 ∧ c ≠ 44) (hi : ¬ ((28 ≤ c ∧ c ≤ 39 ∧ k = 1) ∨ (c = 43 ∧ 3 ≤ k ∧ k < 6) ∨ (c = 46 ∧ 6 ≤ k ∧ k < 12) ∨ ((c = 47 ∨ c = 48) ∧ 4 ≤ k ∧ k < 8))) : ∀ (v : fw_V) (x4 : Int32), mf_Mo_pulse_1_j40 v x4 c i k = v c i k := by
  intro v x4
  unfold mf_Mo_pulse_1_j40
  (try dsimp only)
  all_goals ((repeat' split) <;> (first | with_reducible rfl | (simp only [md1_28 hc hi, md1_29 hc hi, md1_31 hc hi, md1_32 hc hi, md1_33 hc hi, md1_34 hc hi, md1_35 hc hi, md1_36 hc hi, md1_37 hc hi, md1_38 hc hi, md1_39 hc hi, md1_43_3 hc hi, md1_43_4 hc hi, md1_43_5 hc hi, md1_47_4 hc hi, md1_48_4 hc hi, md1_47_5 hc hi, md1_48_5 hc hi, md1_47_6 hc hi, md1_48_6 hc hi, md1_47_7 hc hi, md1_48_7 hc hi, md1_46_6 hc hi, md1_46_7 hc hi, md1_46_8 hc hi, md1_46_9 hc hi, md1_46_10 hc hi, md1_46_11 hc hi, md1_0 hc hi, md1_9 hc hi, md1_44 hc hi, md1_send hc hi, md1_rp0 hc hi, md1_rp1 hc hi, md1_rp2 hc hi, md1_Mo_pulse_1_j41 hc hi, md1_Mo_pulse_1_j50 hc hi]; done)))
theorem md1_Mo_pulse_1_j39 {c i k : Nat} (hc : c ≠ 0 ∧ c ≠ 4 ∧ c ≠ 5 ∧ c ≠ 6 ∧ c ≠ 7 ∧ c ≠ 8 ∧ c ≠ 9 ∧ c ≠ 44) (hi : ¬ ((28 ≤ c ∧ c ≤ 39 ∧ k = 1) ∨ (c = 43 ∧ 3 ≤ k ∧ k < 6) ∨ (c = 46 ∧ 6 ≤ k ∧ k < 12) ∨ ((c = 47 ∨ c = 48) ∧ 4 ≤ k ∧ k < 8))) : ∀ (v : fw_V) (x4 : Int32), mf_Mo_pulse_1_j39 v x4 c i k = v c i k := by
  intro v x4
  unfold mf_Mo_pulse_1_j39
  (try dsimp only)
  all_goals ((repeat' split) <;> (first | with_reducible rfl | (simp only [md1_28 hc hi, md1_29 hc hi, md1_31 hc hi, md1_32 hc hi, md1_33 hc hi, md1_34 hc hi, md1_35 hc hi, md1_36 hc hi, md1_37 hc hi, md1_38 hc hi, md1_39 hc hi, md1_43_3 hc hi, md1_43_4 hc hi, md1_43_5 hc hi, md1_47_4 hc hi, md1_48_4 hc hi, md1_47_5 hc hi, md1_48_5 hc hi, md1_47_6 hc hi, md1_48_6 hc hi, md1_47_7 hc hi, md1_48_7 hc hi, md1_46_6 hc hi, md1_46_7 hc hi, md1_46_8 hc hi, md1_46_9 hc hi, md1_46_10 hc hi, md1_46_11 hc hi, md1_0 hc hi, md1_9 hc hi, md1_44 hc hi, md1_send hc hi, md1_rp0 hc hi, md1_rp1 hc hi, md1_rp2 hc hi, md1_Mo_pulse_1_j40 hc hi]; done)))
theorem md1_Mo_pulse_1_j57 {c i k : Nat} (hc : c ≠ 0 ∧ c ≠ 4 ∧ c ≠ 5 ∧ c ≠ 6 ∧ c ≠ 7 ∧ c ≠ 8 ∧ c ≠ 9 ∧ c ≠ 44) (hi : ¬ ((28 ≤ c ∧ c ≤ 39 ∧ k = 1) ∨ (c = 43 ∧ 3 ≤ k ∧ k < 6) ∨ (c = 46 ∧ 6 ≤ k ∧ k < 12) ∨ ((c = 47 ∨ c = 48) ∧ 4 ≤ k ∧ k < 8))) : ∀ (v : fw_V) (x4 : Int32) (x90 : Int32), mf_Mo_pulse_1_j57 v x4 x90 c i k = v c i k := by
  intro v x4 x90
  unfold mf_Mo_pulse_1_j57
  (try dsimp only)
  all_goals ((repeat' split) <;> (first | with_reducible rfl | (simp only [md1_28 hc hi, md1_29 hc hi, md1_31 hc hi, md1_32 hc hi, md1_33 hc hi, md1_34 hc hi, md1_35 hc hi, md1_36 hc hi, md1_37 hc hi, md1_38 hc hi, md1_39 hc hi, md1_43_3 hc hi, md1_43_4 hc hi, md1_43_5 hc hi, md1_47_4 hc hi, md1_48_4 hc hi, md1_47_5 hc hi, md1_48_5 hc hi, md1_47_6 hc hi, md1_48_6 hc hi, md1_47_7 hc hi, md1_48_7 hc hi, md1_46_6 hc hi, md1_46_7 hc hi, md1_46_8 hc hi, md1_46_9 hc hi, md1_46_10 hc hi, md1_46_11 hc hi, md1_0 hc hi, md1_9 hc hi, md1_44 hc hi, md1_send hc hi, md1_rp0 hc hi, md1_rp1 hc hi, md1_rp2 hc hi, md1_Mo_pulse_1_j41 hc hi, md1_Mo_pulse_1_j50 hc hi]; done)))
theorem md1_Mo_pulse_1_j38 {c i k : Nat} (hc : c ≠ 0 ∧ c ≠ 4 ∧ c ≠ 5 ∧ c ≠ 6 ∧ c ≠ 7 ∧ c ≠ 8 ∧ c ≠ 9 ∧ c ≠ 44) (hi : ¬ ((28 ≤ c ∧ c ≤ 39 ∧ k = 1) ∨ (c = 43 ∧ 3 ≤ k ∧ k < 6) ∨ (c = 46 ∧ 6 ≤ k ∧ k < 12) ∨ ((c = 47 ∨ c = 48) ∧ 4 ≤ k ∧ k < 8))) : ∀ (v : fw_V), mf_Mo_pulse_1_j38 v c i k = v c i k := by
  intro v
  unfold mf_Mo_pulse_1_j38
  (try dsimp only)
  all_goals ((repeat' split) <;> (first | with_reducible rfl | (simp only [md1_28 hc hi, md1_29 hc hi, md1_31 hc hi, md1_32 hc hi, md1_33 hc hi, md1_34 hc hi, md1_35 hc hi, md1_36 hc hi, md1_37 hc hi, md1_38 hc hi, md1_39 hc hi, md1_43_3 hc hi, md1_43_4 hc hi, md1_43_5 hc hi, md1_47_4 hc hi, md1_48_4 hc hi, md1_47_5 hc hi, md1_48_5 hc hi, md1_47_6 hc hi, md1_48_6 hc hi, md1_47_7 hc hi, md1_48_7 hc hi, md1_46_6 hc hi, md1_46_7 hc hi, md1_46_8 hc hi, md1_46_9 hc hi, md1_46_10 hc hi, md1_46_11 hc hi, md1_0 hc hi, md1_9 hc hi, md1_44 hc hi, md1_send hc hi, md1_rp0 hc hi, md1_rp1 hc hi, md1_rp2 hc hi, md1_Mo_pulse_1_j39 hc hi, md1_Mo_pulse_1_j57 hc hi]; done)))
theorem md1_Mo_pulse_1_j37 {c i k : Nat} (hc : c ≠ 0 ∧ c ≠ 4 ∧ c ≠ 5 ∧ c ≠ 6 ∧ c ≠ 7 ∧ c ≠ 8 ∧ c ≠ 9 ∧ c ≠ 44) (hi : ¬ ((28 ≤ c ∧ c ≤ 39 ∧ k = 1) ∨ (c = 43 ∧ 3 ≤ k ∧ k < 6) ∨ (c = 46 ∧ 6 ≤ k ∧ k < 12) ∨ ((c = 47 ∨ c = 48) ∧ 4 ≤ k ∧ k < 8))) : ∀ (v : fw_V), mf_Mo_pulse_1_j37 v c i k = v c i k := by
  intro v
  unfold mf_Mo_pulse_1_j37
  (try dsimp only)
  all_goals ((repeat' split) <;> (first | with_reducible rfl | (simp only [md1_28 hc hi, md1_29 hc hi, md1_31 hc hi, md1_32 hc hi, md1_33 hc hi, md1_34 hc hi, md1_35 hc hi, md1_36 hc hi, md1_37 hc hi, md1_38 hc hi, md1_39 hc hi, md1_43_3 hc hi, md1_43_4 hc hi, md1_43_5 hc hi, md1_47_4 hc hi, md1_48_4 hc hi, md1_47_5 hc hi, md1_48_5 hc hi, md1_47_6 hc hi, md1_48_6 hc hi, md1_47_7 hc hi, md1_48_7 hc hi, md1_46_6 hc hi, md1_46_7 hc hi, md1_46_8 hc hi, md1_46_9 hc hi, md1_46_10 hc hi, md1_46_11 hc hi, md1_0 hc hi, md1_9 hc hi, md1_44 hc hi, md1_send hc hi, md1_rp0 hc hi, md1_rp1 hc hi, md1_rp2 hc hi, md1_Mo_pulse_1_j38 hc hi]; done)))
theorem md1_Mo_pulse_1_j15 {c i k : Nat} (hc : c ≠ 0 ∧ c ≠ 4 ∧ c ≠ 5 ∧ c ≠ 6 ∧ c ≠ 7 ∧ c ≠ 8 ∧ c ≠ 9 ∧ c ≠ 44) (hi : ¬ ((28 ≤ c ∧ c ≤ 39 ∧ k = 1) ∨ (c = 43 ∧ 3 ≤ k ∧ k < 6) ∨ (c = 46 ∧ 6 ≤ k ∧ k < 12) ∨ ((c = 47 ∨ c = 48) ∧ 4 ≤ k ∧ k < 8))) : ∀ (v : fw_V) (x4 : Int32), mf_Mo_pulse_1_j15 v x4 c i k = v c i k := by
  intro v x4
  unfold mf_Mo_pulse_1_j15
  (try dsimp only)
  all_goals ((repeat' split) <;> (first | with_reducible rfl | (simp only [md1_28 hc hi, md1_29 hc hi, md1_31 hc hi, md1_32 hc hi, md1_33 hc hi, md1_34 hc hi, md1_35 hc hi, md1_36 hc hi, md1_37 hc hi, md1_38 hc hi, md1_39 hc hi, md1_43_3 hc hi, md1_43_4 hc hi, md1_43_5 hc hi, md1_47_4 hc hi, md1_48_4 hc hi, md1_47_5 hc hi, md1_48_5 hc hi, md1_47_6 hc hi, md1_48_6 hc hi, md1_47_7 hc hi, md1_48_7 hc hi, md1_46_6 hc hi, md1_46_7 hc hi, md1_46_8 hc hi, md1_46_9 hc hi, md1_46_10 hc hi, md1_46_11 hc hi, md1_0 hc hi, md1_9 hc hi, md1_44 hc hi, md1_send hc hi, md1_rp0 hc hi, md1_rp1 hc hi, md1_rp2 hc hi, md1_Mo_pulse_1_j16 hc hi, md1_Mo_pulse_1_j37 hc hi]; done)))
theorem md1_Mo_pulse_1_j14 {c i k : Nat} (hc : c ≠ 0 ∧ c ≠ 4 ∧ c ≠ 5 ∧ c ≠ 6 ∧ c ≠ 7 ∧ c ≠ 8 ∧ c ≠ 9 ∧ c ≠ 44) (hi : ¬ ((28 ≤ c ∧ c ≤ 39 ∧ k = 1) ∨ (c = 43 ∧ 3 ≤ k ∧ k < 6) ∨ (c = 46 ∧ 6 ≤ k ∧ k < 12) ∨ ((c = 47 ∨ c = 48) ∧ 4 ≤ k ∧ k < 8))) : ∀ (v : fw_V) (x4 : Int32), mf_Mo_pulse_1_j14 v x4 c i k = v c i k := by
  intro v x4
  unfold mf_Mo_pulse_1_j14
  (try dsimp only)
  all_goals ((repeat' split) <;> (first | with_reducible rfl | (simp only [md1_28 hc hi, md1_29 hc hi, md1_31 hc hi, md1_32 hc hi, md1_33 hc hi, md1_34 hc hi, md1_35 hc hi, md1_36 hc hi, md1_37 hc hi, md1_38 hc hi, md1_39 hc hi, md1_43_3 hc hi, md1_43_4 hc hi, md1_43_5 hc hi, md1_47_4 hc hi, md1_48_4 hc hi, md1_47_5 hc hi, md1_48_5 hc hi, md1_47_6 hc hi, md1_48_6 hc hi, md1_47_7 hc hi, md1_48_7 hc hi, md1_46_6 hc hi, md1_46_7 hc hi, md1_46_8 hc hi, md1_46_9 hc hi, md1_46_10 hc hi, md1_46_11 hc hi, md1_0 hc hi, md1_9 hc hi, md1_44 hc hi, md1_send hc hi, md1_rp0 hc hi, md1_rp1 hc hi, md1_rp2 hc hi, md1_Mo_pulse_1_j15 hc hi]; done)))
theorem md1_Mo_pulse_1_j58 {c i k : Nat} (hc : c ≠ 0 ∧ c ≠ 4 ∧ c ≠ 5 ∧ c ≠ 6 ∧ c ≠ 7 ∧ c ≠ 8 ∧ c ≠ 9 ∧ c ≠ 44) (hi : ¬ ((28 ≤ c ∧ c ≤ 39 ∧ k = 1) ∨ (c = 43 ∧ 3 ≤ k ∧ k < 6) ∨ (c = 46 ∧ 6 ≤ k ∧ k < 12) ∨ ((c = 47 ∨ c = 48) ∧ 4 ≤ k ∧ k < 8))) : ∀ (v : fw_V) (x4 : Int32) (x90 : Int32), mf_Mo_pulse_1_j58 v x4 x90 c i k = v c i k := by
  intro v x4 x90
  unfold mf_Mo_pulse_1_j58
  (try dsimp only)
  all_goals ((repeat' split) <;> (first | with_reducible rfl | (simp only [md1_28 hc hi, md1_29 hc hi, md1_31 hc hi, md1_32 hc hi, md1_33 hc hi, md1_34 hc hi, md1_35 hc hi, md1_36 hc hi, md1_37 hc hi, md1_38 hc hi, md1_39 hc hi, md1_43_3 hc hi, md1_43_4 hc hi, md1_43_5 hc hi, md1_47_4 hc hi, md1_48_4 hc hi, md1_47_5 hc hi, md1_48_5 hc hi, md1_47_6 hc hi, md1_48_6 hc hi, md1_47_7 hc hi, md1_48_7 hc hi, md1_46_6 hc hi, md1_46_7 hc hi, md1_46_8 hc hi, md1_46_9 hc hi, md1_46_10 hc hi, md1_46_11 hc hi, md1_0 hc hi, md1_9 hc hi, md1_44 hc hi, md1_send hc hi, md1_rp0 hc hi, md1_rp1 hc hi, md1_rp2 hc hi, md1_Mo_pulse_1_j16 hc hi, md1_Mo_pulse_1_j37 hc hi]; done)))
theorem md1_Mo_pulse_1_j13 {c i k : Nat} (hc : c ≠ 0 ∧ c ≠ 4 ∧ c ≠ 5 ∧ c ≠ 6 ∧ c ≠ 7 ∧ c ≠ 8 ∧ c ≠ 9 ∧ c ≠ 44) (hi : ¬ ((28 ≤ c ∧ c ≤ 39 ∧ k = 1) ∨ (c = 43 ∧ 3 ≤ k ∧ k < 6) ∨ (c = 46 ∧ 6 ≤ k ∧ k < 12) ∨ ((c = 47 ∨ c = 48) ∧ 4 ≤ k ∧ k < 8))) : ∀ (v : fw_V), mf_Mo_pulse_1_j13 v c i k = v c i k := by
  intro v
  unfold mf_Mo_pulse_1_j13
  (try dsimp only)
  all_goals ((repeat' split) <;> (first | with_reducible rfl | (simp only [md1_28 hc hi, md1_29 hc hi, md1_31 hc hi, md1_32 hc hi, md1_33 hc hi, md1_34 hc hi, md1_35 hc hi, md1_36 hc hi, md1_37 hc hi, md1_38 hc hi, md1_39 hc hi, md1_43_3 hc hi, md1_43_4 hc hi, md1_43_5 hc hi, md1_47_4 hc hi, md1_48_4 hc hi, md1_47_5 hc hi, md1_48_5 hc hi, md1_47_6 hc hi, md1_48_6 hc hi, md1_47_7 hc hi, md1_48_7 hc hi, md1_46_6 hc hi, md1_46_7 hc hi, md1_46_8 hc hi, md1_46_9 hc hi, md1_46_10 hc hi, md1_46_11 hc hi, md1_0 hc hi, md1_9 hc hi, md1_44 hc hi, md1_send hc hi, md1_rp0 hc hi, md1_rp1 hc hi, md1_rp2 hc hi, md1_Mo_pulse_1_j14 hc hi, md1_Mo_pulse_1_j58 hc hi]; done)))
theorem md1_Mo_pulse_1_j12 {c i k : Nat} (hc : c ≠ 0 ∧ c ≠ 4 ∧ c ≠ 5 ∧ c ≠ 6 ∧ c ≠ 7 ∧ c ≠ 8 ∧ c ≠ 9 ∧ c ≠ 44) (hi : ¬ ((28 ≤ c ∧ c ≤ 39 ∧ k = 1) ∨ (c = 43 ∧ 3 ≤ k ∧ k < 6) ∨ (c = 46 ∧ 6 ≤ k ∧ k < 12) ∨ ((c = 47 ∨ c = 48) ∧ 4 ≤ k ∧ k < 8))) : ∀ (v : fw_V), mf_Mo_pulse_1_j12 v c i k = v c i k := by
  intro v
  unfold mf_Mo_pulse_1_j12
  (try dsimp only)
  all_goals ((repeat' split) <;> (first | with_reducible rfl | (simp only [md1_28 hc hi, md1_29 hc hi, md1_31 hc hi, md1_32 hc hi, md1_33 hc hi, md1_34 hc hi, md1_35 hc hi, md1_36 hc hi, md1_37 hc hi, md1_38 hc hi, md1_39 hc hi, md1_43_3 hc hi, md1_43_4 hc hi, md1_43_5 hc hi, md1_47_4 hc hi, md1_48_4 hc hi, md1_47_5 hc hi, md1_48_5 hc hi, md1_47_6 hc hi, md1_48_6 hc hi, md1_47_7 hc hi, md1_48_7 hc hi, md1_46_6 hc hi, md1_46_7 hc hi, md1_46_8 hc hi, md1_46_9 hc hi, md1_46_10 hc hi, md1_46_11 hc hi, md1_0 hc hi, md1_9 hc hi, md1_44 hc hi, md1_send hc hi, md1_rp0 hc hi, md1_rp1 hc hi, md1_rp2 hc hi, md1_Mo_pulse_1_j13 hc hi]; done)))
theorem md1_Mo_pulse_1_j63 {c i k : Nat} (hc : c ≠ 0 ∧ c ≠ 4 ∧ c ≠ 5 ∧ c ≠ 6 ∧ c ≠ 7 ∧ c ≠ 8 ∧ c ≠ 9 ∧ c ≠ 44) (hi : ¬ ((28 ≤ c ∧ c ≤ 39 ∧ k = 1) ∨ (c = 43 ∧ 3 ≤ k ∧ k < 6) ∨ (c = 46 ∧ 6 ≤ k ∧ k < 12) ∨ ((c = 47 ∨ c = 48) ∧ 4 ≤ k ∧ k < 8))) : ∀ (v : fw_V), mf_Mo_pulse_1_j63 v c i k = v c i k := by
  intro v
  unfold mf_Mo_pulse_1_j63
  (try dsimp only)
  all_goals ((repeat' split) <;> (first | with_reducible rfl | (simp only [md1_28 hc hi, md1_29 hc hi, md1_31 hc hi, md1_32 hc hi, md1_33 hc hi, md1_34 hc hi, md1_35 hc hi, md1_36 hc hi, md1_37 hc hi, md1_38 hc hi, md1_39 hc hi, md1_43_3 hc hi, md1_43_4 hc hi, md1_43_5 hc hi, md1_47_4 hc hi, md1_48_4 hc hi, md1_47_5 hc hi, md1_48_5 hc hi, md1_47_6 hc hi, md1_48_6 hc hi, md1_47_7 hc hi, md1_48_7 hc hi, md1_46_6 hc hi, md1_46_7 hc hi, md1_46_8 hc hi, md1_46_9 hc hi, md1_46_10 hc hi, md1_46_11 hc hi, md1_0 hc hi, md1_9 hc hi, md1_44 hc hi, md1_send hc hi, md1_rp0 hc hi, md1_rp1 hc hi, md1_rp2 hc hi, md1_Mo_pulse_1_j38 hc hi]; done)))
theorem md1_Mo_pulse_1_j64 {c i k : Nat} (hc : c ≠ 0 ∧ c ≠ 4 ∧ c ≠ 5 ∧ c ≠ 6 ∧ c ≠ 7 ∧ c ≠ 8 ∧ c ≠ 9 ∧ c ≠ 44) (hi : ¬ ((28 ≤ c ∧ c ≤ 39 ∧ k = 1) ∨ (c = 43 ∧ 3 ≤ k ∧ k < 6) ∨ (c = 46 ∧ 6 ≤ k ∧ k < 12) ∨ ((c = 47 ∨ c = 48) ∧ 4 ≤ k ∧ k < 8))) : ∀ (v : fw_V), mf_Mo_pulse_1_j64 v c i k = v c i k := by
  intro v
  unfold mf_Mo_pulse_1_j64
  (try dsimp only)
  all_goals ((repeat' split) <;> (first | with_reducible rfl | (simp only [md1_28 hc hi, md1_29 hc hi, md1_31 hc hi, md1_32 hc hi, md1_33 hc hi, md1_34 hc hi, md1_35 hc hi, md1_36 hc hi, md1_37 hc hi, md1_38 hc hi, md1_39 hc hi, md1_43_3 hc hi, md1_43_4 hc hi, md1_43_5 hc hi, md1_47_4 hc hi, md1_48_4 hc hi, md1_47_5 hc hi, md1_48_5 hc hi, md1_47_6 hc hi, md1_48_6 hc hi, md1_47_7 hc hi, md1_48_7 hc hi, md1_46_6 hc hi, md1_46_7 hc hi, md1_46_8 hc hi, md1_46_9 hc hi, md1_46_10 hc hi, md1_46_11 hc hi, md1_0 hc hi, md1_9 hc hi, md1_44 hc hi, md1_send hc hi, md1_rp0 hc hi, md1_rp1 hc hi, md1_rp2 hc hi, md1_Mo_pulse_1_j38 hc hi]; done)))
theorem md1_Mo_pulse_1_j62 {c i k : Nat} (hc : c ≠ 0 ∧ c ≠ 4 ∧ c ≠ 5 ∧ c ≠ 6 ∧ c ≠ 7 ∧ c ≠ 8 ∧ c ≠ 9 ∧ c ≠ 44) (hi : ¬ ((28 ≤ c ∧ c ≤ 39 ∧ k = 1) ∨ (c = 43 ∧ 3 ≤ k ∧ k < 6) ∨ (c = 46 ∧ 6 ≤ k ∧ k < 12) ∨ ((c = 47 ∨ c = 48) ∧ 4 ≤ k ∧ k < 8))) : ∀ (v : fw_V) (x4 : Int32), mf_Mo_pulse_1_j62 v x4 c i k = v c i k := by
  intro v x4
  unfold mf_Mo_pulse_1_j62
  (try dsimp only)
  all_goals ((repeat' split) <;> (first | with_reducible rfl | (simp only [md1_28 hc hi, md1_29 hc hi, md1_31 hc hi, md1_32 hc hi, md1_33 hc hi, md1_34 hc hi, md1_35 hc hi, md1_36 hc hi, md1_37 hc hi, md1_38 hc hi, md1_39 hc hi, md1_43_3 hc hi, md1_43_4 hc hi, md1_43_5 hc hi, md1_47_4 hc hi, md1_48_4 hc hi, md1_47_5 hc hi, md1_48_5 hc hi, md1_47_6 hc hi, md1_48_6 hc hi, md1_47_7 hc hi, md1_48_7 hc hi, md1_46_6 hc hi, md1_46_7 hc hi, md1_46_8 hc hi, md1_46_9 hc hi, md1_46_10 hc hi, md1_46_11 hc hi, md1_0 hc hi, md1_9 hc hi, md1_44 hc hi, md1_send hc hi, md1_rp0 hc hi, md1_rp1 hc hi, md1_rp2 hc hi, md1_Mo_pulse_1_j63 hc hi, md1_Mo_pulse_1_j64 hc hi]; done)))
theorem md1_Mo_pulse_1_j61 {c i k : Nat} (hc : c ≠ 0 ∧ c ≠ 4 ∧ c ≠ 5 ∧ c ≠ 6 ∧ c ≠ 7 ∧ c ≠ 8 ∧ c ≠ 9 ∧ c ≠ 44) (hi : ¬ ((28 ≤ c ∧ c ≤ 39 ∧ k = 1) ∨ (c = 43 ∧ 3 ≤ k ∧ k < 6) ∨ (c = 46 ∧ 6 ≤ k ∧ k < 12) ∨ ((c = 47 ∨ c = 48) ∧ 4 ≤ k ∧ k < 8))) : ∀ (v : fw_V) (x4 : Int32), mf_Mo_pulse_1_j61 v x4 c i k = v c i k := by
  intro v x4
  unfold mf_Mo_pulse_1_j61
  (try dsimp only)
  all_goals ((repeat' split) <;> (first | with_reducible rfl | (simp only [md1_28 hc hi, md1_29 hc hi, md1_31 hc hi, md1_32 hc hi, md1_33 hc hi, md1_34 hc hi, md1_35 hc hi, md1_36 hc hi, md1_37 hc hi, md1_38 hc hi, md1_39 hc hi, md1_43_3 hc hi, md1_43_4 hc hi, md1_43_5 hc hi, md1_47_4 hc hi, md1_48_4 hc hi, md1_47_5 hc hi, md1_48_5 hc hi, md1_47_6 hc hi, md1_48_6 hc hi, md1_47_7 hc hi, md1_48_7 hc hi, md1_46_6 hc hi, md1_46_7 hc hi, md1_46_8 hc hi, md1_46_9 hc hi, md1_46_10 hc hi, md1_46_11 hc hi, md1_0 hc hi, md1_9 hc hi, md1_44 hc hi, md1_send hc hi, md1_rp0 hc hi, md1_rp1 hc hi, md1_rp2 hc hi, md1_Mo_pulse_1_j62 hc hi]; done)))
theorem md1_Mo_pulse_1_j65 {c i k : Nat} (hc : c ≠ 0 ∧ c ≠ 4 ∧ c ≠ 5 ∧ c ≠ 6 ∧ c ≠ 7 ∧ c ≠ 8 ∧ c ≠ 9 ∧ c ≠ 44) (hi : ¬ ((28 ≤ c ∧ c ≤ 39 ∧ k = 1) ∨ (c = 43 ∧ 3 ≤ k ∧ k < 6) ∨ (c = 46 ∧ 6 ≤ k ∧ k < 12) ∨ ((c = 47 ∨ c = 48) ∧ 4 ≤ k ∧ k < 8))) : ∀ (v : fw_V) (x4 : Int32) (x90 : Int32), mf_Mo_pulse_1_j65 v x4 x90 c i k = v c i k := by
  intro v x4 x90
  unfold mf_Mo_pulse_1_j65
  (try dsimp only)
  all_goals ((repeat' split) <;> (first | with_reducible rfl | (simp only [md1_28 hc hi, md1_29 hc hi, md1_31 hc hi, md1_32 hc hi, md1_33 hc hi, md1_34 hc hi, md1_35 hc hi, md1_36 hc hi, md1_37 hc hi, md1_38 hc hi, md1_39 hc hi, md1_43_3 hc hi, md1_43_4 hc hi, md1_43_5 hc hi, md1_47_4 hc hi, md1_48_4 hc hi, md1_47_5 hc hi, md1_48_5 hc hi, md1_47_6 hc hi, md1_48_6 hc hi, md1_47_7 hc hi, md1_48_7 hc hi, md1_46_6 hc hi, md1_46_7 hc hi, md1_46_8 hc hi, md1_46_9 hc hi, md1_46_10 hc hi, md1_46_11 hc hi, md1_0 hc hi, md1_9 hc hi, md1_44 hc hi, md1_send hc hi, md1_rp0 hc hi, md1_rp1 hc hi, md1_rp2 hc hi, md1_Mo_pulse_1_j63 hc hi, md1_Mo_pulse_1_j64 hc hi]; done)))
theorem md1_Mo_pulse_1_j60 {c i k : Nat} (hc : c ≠ 0 ∧ c ≠ 4 ∧ c ≠ 5 ∧ c ≠ 6 ∧ c ≠ 7 ∧ c ≠ 8 ∧ c ≠ 9 ∧ c ≠ 44) (hi : ¬ ((28 ≤ c ∧ c ≤ 39 ∧ k = 1) ∨ (c = 43 ∧ 3 ≤ k ∧ k < 6) ∨ (c = 46 ∧ 6 ≤ k ∧ k < 12) ∨ ((c = 47 ∨ c = 48) ∧ 4 ≤ k ∧ k < 8))) : ∀ (v : fw_V), mf_Mo_pulse_1_j60 v c i k = v c i k := by
  intro v
  unfold mf_Mo_pulse_1_j60
  (try dsimp only)
  all_goals ((repeat' split) <;> (first | with_reducible rfl | (simp only [md1_28 hc hi, md1_29 hc hi, md1_31 hc hi, md1_32 hc hi, md1_33 hc hi, md1_34 hc hi, md1_35 hc hi, md1_36 hc hi, md1_37 hc hi, md1_38 hc hi, md1_39 hc hi, md1_43_3 hc hi, md1_43_4 hc hi, md1_43_5 hc hi, md1_47_4 hc hi, md1_48_4 hc hi, md1_47_5 hc hi, md1_48_5 hc hi, md1_47_6 hc hi, md1_48_6 hc hi, md1_47_7 hc hi, md1_48_7 hc hi, md1_46_6 hc hi, md1_46_7 hc hi, md1_46_8 hc hi, md1_46_9 hc hi, md1_46_10 hc hi, md1_46_11 hc hi, md1_0 hc hi, md1_9 hc hi, md1_44 hc hi, md1_send hc hi, md1_rp0 hc hi, md1_rp1 hc hi, md1_rp2 hc hi, md1_Mo_pulse_1_j61 hc hi, md1_Mo_pulse_1_j65 hc hi]; done)))
theorem md1_Mo_pulse_1_j59 {c i k : Nat} (hc : c ≠ 0 ∧ c ≠ 4 ∧ c ≠ 5 ∧ c ≠ 6 ∧ c ≠ 7 ∧ c ≠ 8 ∧ c ≠ 9 ∧ c ≠ 44) (hi : ¬ ((28 ≤ c ∧ c ≤ 39 ∧ k = 1) ∨ (c = 43 ∧ 3 ≤ k ∧ k < 6) ∨ (c = 46 ∧ 6 ≤ k ∧ k < 12) ∨ ((c = 47 ∨ c = 48) ∧ 4 ≤ k ∧ k < 8))) : ∀ (v : fw_V), mf_Mo_pulse_1_j59 v c i k = v c i k := by
  intro v
  unfold mf_Mo_pulse_1_j59
  (try dsimp only)
  all_goals ((repeat' split) <;> (first | with_reducible rfl | (simp only [md1_28 hc hi, md1_29 hc hi, md1_31 hc hi, md1_32 hc hi, md1_33 hc hi, md1_34 hc hi, md1_35 hc hi, md1_36 hc hi, md1_37 hc hi, md1_38 hc hi, md1_39 hc hi, md1_43_3 hc hi, md1_43_4 hc hi, md1_43_5 hc hi, md1_47_4 hc hi, md1_48_4 hc hi, md1_47_5 hc hi, md1_48_5 hc hi, md1_47_6 hc hi, md1_48_6 hc hi, md1_47_7 hc hi, md1_48_7 hc hi, md1_46_6 hc hi, md1_46_7 hc hi, md1_46_8 hc hi, md1_46_9 hc hi, md1_46_10 hc hi, md1_46_11 hc hi, md1_0 hc hi, md1_9 hc hi, md1_44 hc hi, md1_send hc hi, md1_rp0 hc hi, md1_rp1 hc hi, md1_rp2 hc hi, md1_Mo_pulse_1_j60 hc hi]; done)))
theorem md1_Mo_pulse_1_j11 {c i k : Nat} (hc : c ≠ 0 ∧ c ≠ 4 ∧ c ≠ 5 ∧ c ≠ 6 ∧ c ≠ 7 ∧ c ≠ 8 ∧ c ≠ 9 ∧ c ≠ 44) (hi : ¬ ((28 ≤ c ∧ c ≤ 39 ∧ k = 1) ∨ (c = 43 ∧ 3 ≤ k ∧ k < 6) ∨ (c = 46 ∧ 6 ≤ k ∧ k < 12) ∨ ((c = 47 ∨ c = 48) ∧ 4 ≤ k ∧ k < 8))) : ∀ (v : fw_V) (x4 : Int32), mf_Mo_pulse_1_j11 v x4 c i k = v c i k := by
  intro v x4
  unfold mf_Mo_pulse_1_j11
  (try dsimp only)
  all_goals ((repeat' split) <;> (first | with_reducible rfl | (simp only [md1_28 hc hi, md1_29 hc hi, md1_31 hc hi, md1_32 hc hi, md1_33 hc hi, md1_34 hc hi, md1_35 hc hi, md1_36 hc hi, md1_37 hc hi, md1_38 hc hi, md1_39 hc hi, md1_43_3 hc hi, md1_43_4 hc hi, md1_43_5 hc hi, md1_47_4 hc hi, md1_48_4 hc hi, md1_47_5 hc hi, md1_48_5 hc hi, md1_47_6 hc hi, md1_48_6 hc hi, md1_47_7 hc hi, md1_48_7 hc hi, md1_46_6 hc hi, md1_46_7 hc hi, md1_46_8 hc hi, md1_46_9 hc hi, md1_46_10 hc hi, md1_46_11 hc hi, md1_0 hc hi, md1_9 hc hi, md1_44 hc hi, md1_send hc hi, md1_rp0 hc hi, md1_rp1 hc hi, md1_rp2 hc hi, md1_Mo_pulse_1_j12 hc hi, md1_Mo_pulse_1_j59 hc hi]; done)))
theorem md1_Mo_pulse_1_j10 {c i k : Nat} (hc : c ≠ 0 ∧ c ≠ 4 ∧ c ≠ 5 ∧ c ≠ 6 ∧ c ≠ 7 ∧ c ≠ 8 ∧ c ≠ 9 ∧ c ≠ 44) (hi : ¬ ((28 ≤ c ∧ c ≤ 39 ∧ k = 1) ∨ (c = 43 ∧ 3 ≤ k ∧ k < 6) ∨ (c = 46 ∧ 6 ≤ k ∧ k < 12) ∨ ((c = 47 ∨ c = 48) ∧ 4 ≤ k ∧ k < 8))) : ∀ (v : fw_V) (x4 : Int32), mf_Mo_pulse_1_j10 v x4 c i k = v c i k := by
  intro v x4
  unfold mf_Mo_pulse_1_j10
  (try dsimp only)
  all_goals ((repeat' split) <;> (first | with_reducible rfl | (simp only [md1_28 hc hi, md1_29 hc hi, md1_31 hc hi, md1_32 hc hi, md1_33 hc hi, md1_34 hc hi, md1_35 hc hi, md1_36 hc hi, md1_37 hc hi, md1_38 hc hi, md1_39 hc hi, md1_43_3 hc hi, md1_43_4 hc hi, md1_43_5 hc hi, md1_47_4 hc hi, md1_48_4 hc hi, md1_47_5 hc hi, md1_48_5 hc hi, md1_47_6 hc hi, md1_48_6 hc hi, md1_47_7 hc hi, md1_48_7 hc hi, md1_46_6 hc hi, md1_46_7 hc hi, md1_46_8 hc hi, md1_46_9 hc hi, md1_46_10 hc hi, md1_46_11 hc hi, md1_0 hc hi, md1_9 hc hi, md1_44 hc hi, md1_send hc hi, md1_rp0 hc hi, md1_rp1 hc hi, md1_rp2 hc hi, md1_Mo_pulse_1_j11 hc hi]; done)))
theorem md1_Mo_pulse_1_j66 {c i k : Nat} (hc : c ≠ 0 ∧ c ≠ 4 ∧ c ≠ 5 ∧ c ≠ 6 ∧ c ≠ 7 ∧ c ≠ 8 ∧ c ≠ 9 ∧ c ≠ 44) (hi : ¬ ((28 ≤ c ∧ c ≤ 39 ∧ k = 1) ∨ (c = 43 ∧ 3 ≤ k ∧ k < 6) ∨ (c = 46 ∧ 6 ≤ k ∧ k < 12) ∨ ((c = 47 ∨ c = 48) ∧ 4 ≤ k ∧ k < 8))) : ∀ (v : fw_V) (x4 : Int32) (x90 : Int32), mf_Mo_pulse_1_j66 v x4 x90 c i k = v c i k := by
  intro v x4 x90
  unfold mf_Mo_pulse_1_j66
  (try dsimp only)
  all_goals ((repeat' split) <;> (first | with_reducible rfl | (simp only [md1_28 hc hi, md1_29 hc hi, md1_31 hc hi, md1_32 hc hi, md1_33 hc hi, md1_34 hc hi, md1_35 hc hi, md1_36 hc hi, md1_37 hc hi, md1_38 hc hi, md1_39 hc hi, md1_43_3 hc hi, md1_43_4 hc hi, md1_43_5 hc hi, md1_47_4 hc hi, md1_48_4 hc hi, md1_47_5 hc hi, md1_48_5 hc hi, md1_47_6 hc hi, md1_48_6 hc hi, md1_47_7 hc hi, md1_48_7 hc hi, md1_46_6 hc hi, md1_46_7 hc hi, md1_46_8 hc hi, md1_46_9 hc hi, md1_46_10 hc hi, md1_46_11 hc hi, md1_0 hc hi, md1_9 hc hi, md1_44 hc hi, md1_send hc hi, md1_rp0 hc hi, md1_rp1 hc hi, md1_rp2 hc hi, md1_Mo_pulse_1_j12 hc hi, md1_Mo_pulse_1_j59 hc hi]; done)))
theorem md1_Mo_pulse_1_j9 {c i k : Nat} (hc : c ≠ 0 ∧ c ≠ 4 ∧ c ≠ 5 ∧ c ≠ 6 ∧ c ≠ 7 ∧ c ≠ 8 ∧ c ≠ 9 ∧ c ≠ 44) (hi : ¬ ((28 ≤ c ∧ c ≤ 39 ∧ k = 1) ∨ (c = 43 ∧ 3 ≤ k ∧ k < 6) ∨ (c = 46 ∧ 6 ≤ k ∧ k < 12) ∨ ((c = 47 ∨ c = 48) ∧ 4 ≤ k ∧ k < 8))) : ∀ (v : fw_V), mf_Mo_pulse_1_j9 v c i k = v c i k := by
  intro v
  unfold mf_Mo_pulse_1_j9
  (try dsimp only)
  all_goals ((repeat' split) <;> (first | with_reducible rfl | (simp only [md1_28 hc hi, md1_29 hc hi, md1_31 hc hi, md1_32 hc hi, md1_33 hc hi, md1_34 hc hi, md1_35 hc hi, md1_36 hc hi, md1_37 hc hi, md1_38 hc hi, md1_39 hc hi, md1_43_3 hc hi, md1_43_4 hc hi, md1_43_5 hc hi, md1_47_4 hc hi, md1_48_4 hc hi, md1_47_5 hc hi, md1_48_5 hc hi, md1_47_6 hc hi, md1_48_6 hc hi, md1_47_7 hc hi, md1_48_7 hc hi, md1_46_6 hc hi, md1_46_7 hc hi, md1_46_8 hc hi, md1_46_9 hc hi, md1_46_10 hc hi, md1_46_11 hc hi, md1_0 hc hi, md1_9 hc hi, md1_44 hc hi, md1_send hc hi, md1_rp0 hc hi, md1_rp1 hc hi, md1_rp2 hc hi, md1_Mo_pulse_1_j10 hc hi, md1_Mo_pulse_1_j66 hc hi]; done)))
theorem md1_Mo_pulse_1_j8 {c i k : Nat} (hc : c ≠ 0 ∧ c ≠ 4 ∧ c ≠ 5 ∧ c ≠ 6 ∧ c ≠ 7 ∧ c ≠ 8 ∧ c ≠ 9 ∧ c ≠ 44) (hi : ¬ ((28 ≤ c ∧ c ≤ 39 ∧ k = 1) ∨ (c = 43 ∧ 3 ≤ k ∧ k < 6) ∨ (c = 46 ∧ 6 ≤ k ∧ k < 12) ∨ ((c = 47 ∨ c = 48) ∧ 4 ≤ k ∧ k < 8))) : ∀ (v : fw_V), mf_Mo_pulse_1_j8 v c i k = v c i k := by
  intro v
  unfold mf_Mo_pulse_1_j8
  (try dsimp only)
  all_goals ((repeat' split) <;> (first | with_reducible rfl | (simp only [md1_28 hc hi, md1_29 hc hi, md1_31 hc hi, md1_32 hc hi, md1_33 hc hi, md1_34 hc hi, md1_35 hc hi, md1_36 hc hi, md1_37 hc hi, md1_38 hc hi, md1_39 hc hi, md1_43_3 hc hi, md1_43_4 hc hi, md1_43_5 hc hi, md1_47_4 hc hi, md1_48_4 hc hi, md1_47_5 hc hi, md1_48_5 hc hi, md1_47_6 hc hi, md1_48_6 hc hi, md1_47_7 hc hi, md1_48_7 hc hi, md1_46_6 hc hi, md1_46_7 hc hi, md1_46_8 hc hi, md1_46_9 hc hi, md1_46_10 hc hi, md1_46_11 hc hi, md1_0 hc hi, md1_9 hc hi, md1_44 hc hi, md1_send hc hi, md1_rp0 hc hi, md1_rp1 hc hi, md1_rp2 hc hi, md1_Mo_pulse_1_j9 hc hi]; done)))
theorem md1_Mo_pulse_1_j84 {c i k : Nat} (hc : c ≠ 0 ∧ c ≠ 4 ∧ c ≠ 5 ∧ c ≠ 6 ∧ c ≠ 7 ∧ c ≠ 8 ∧ c ≠ 9 ∧ c ≠ 44) (hi : ¬ ((28 ≤ c ∧ c ≤ 39 ∧ k = 1) ∨ (c = 43 ∧ 3 ≤ k ∧ k < 6) ∨ (c = 46 ∧ 6 ≤ k ∧ k < 12) ∨ ((c = 47 ∨ c = 48) ∧ 4 ≤ k ∧ k < 8))) : ∀ (v : fw_V), mf_Mo_pulse_1_j84 v c i k = v c i k := by
  intro v
  unfold mf_Mo_pulse_1_j84
  (try dsimp only)
  all_goals ((repeat' split) <;> (first | with_reducible rfl | (simp only [md1_28 hc hi, md1_29 hc hi, md1_31 hc hi, md1_32 hc hi, md1_33 hc hi, md1_34 hc hi, md1_35 hc hi, md1_36 hc hi, md1_37 hc hi, md1_38 hc hi, md1_39 hc hi, md1_43_3 hc hi, md1_43_4 hc hi, md1_43_5 hc hi, md1_47_4 hc hi, md1_48_4 hc hi, md1_47_5 hc hi, md1_48_5 hc hi, md1_47_6 hc hi, md1_48_6 hc hi, md1_47_7 hc hi, md1_48_7 hc hi, md1_46_6 hc hi, md1_46_7 hc hi, md1_46_8 hc hi, md1_46_9 hc hi, md1_46_10 hc hi, md1_46_11 hc hi, md1_0 hc hi, md1_9 hc hi, md1_44 hc hi, md1_send hc hi, md1_rp0 hc hi, md1_rp1 hc hi, md1_rp2 hc hi, md1_Mo_reply_1 hc hi]; done)))
theorem md1_Mo_pulse_1_j83 {c i k : Nat} (hc : c ≠ 0 ∧ c ≠ 4 ∧ c ≠ 5 ∧ c ≠ 6 ∧ c ≠ 7 ∧ c ≠ 8 ∧ c ≠ 9 ∧ c ≠ 44) (hi : ¬ ((28 ≤ c ∧ c ≤ 39 ∧ k = 1) ∨ (c = 43 ∧ 3 ≤ k ∧ k < 6) ∨ (c = 46 ∧ 6 ≤ k ∧ k < 12) ∨ ((c = 47 ∨ c = 48) ∧ 4 ≤ k ∧ k < 8))) : ∀ (v : fw_V), mf_Mo_pulse_1_j83 v c i k = v c i k := by
  intro v
  unfold mf_Mo_pulse_1_j83
  (try dsimp only)
  all_goals ((repeat' split) <;> (first | with_reducible rfl | (simp only [md1_28 hc hi, md1_29 hc hi, md1_31 hc hi, md1_32 hc hi, md1_33 hc hi, md1_34 hc hi, md1_35 hc hi, md1_36 hc hi, md1_37 hc hi, md1_38 hc hi, md1_39 hc hi, md1_43_3 hc hi, md1_43_4 hc hi, md1_43_5 hc hi, md1_47_4 hc hi, md1_48_4 hc hi, md1_47_5 hc hi, md1_48_5 hc hi, md1_47_6 hc hi, md1_48_6 hc hi, md1_47_7 hc hi, md1_48_7 hc hi, md1_46_6 hc hi, md1_46_7 hc hi, md1_46_8 hc hi, md1_46_9 hc hi, md1_46_10 hc hi, md1_46_11 hc hi, md1_0 hc hi, md1_9 hc hi, md1_44 hc hi, md1_send hc hi, md1_rp0 hc hi, md1_rp1 hc hi, md1_rp2 hc hi, md1_Mo_pulse_1_j84 hc hi]; done)))
theorem md1_Mo_pulse_1_j86 {c i k : Nat} (hc : c ≠ 0 ∧ c ≠ 4 ∧ c ≠ 5 ∧ c ≠ 6 ∧ c ≠ 7 ∧ c ≠ 8 ∧ c ≠ 9 ∧ c ≠ 44) (hi : ¬ ((28 ≤ c ∧ c ≤ 39 ∧ k = 1) ∨ (c = 43 ∧ 3 ≤ k ∧ k < 6) ∨ (c = 46 ∧ 6 ≤ k ∧ k < 12) ∨ ((c = 47 ∨ c = 48) ∧ 4 ≤ k ∧ k < 8))) : ∀ (v : fw_V), mf_Mo_pulse_1_j86 v c i k = v c i k := by
  intro v
  unfold mf_Mo_pulse_1_j86
  (try dsimp only)
  all_goals ((repeat' split) <;> (first | with_reducible rfl | (simp only [md1_28 hc hi, md1_29 hc hi, md1_31 hc hi, md1_32 hc hi, md1_33 hc hi, md1_34 hc hi, md1_35 hc hi, md1_36 hc hi, md1_37 hc hi, md1_38 hc hi, md1_39 hc hi, md1_43_3 hc hi, md1_43_4 hc hi, md1_43_5 hc hi, md1_47_4 hc hi, md1_48_4 hc hi, md1_47_5 hc hi, md1_48_5 hc hi, md1_47_6 hc hi, md1_48_6 hc hi, md1_47_7 hc hi, md1_48_7 hc hi, md1_46_6 hc hi, md1_46_7 hc hi, md1_46_8 hc hi, md1_46_9 hc hi, md1_46_10 hc hi, md1_46_11 hc hi, md1_0 hc hi, md1_9 hc hi, md1_44 hc hi, md1_send hc hi, md1_rp0 hc hi, md1_rp1 hc hi, md1_rp2 hc hi, md1_Mo_reply_1 hc hi]; done)))
theorem md1_Mo_pulse_1_j85 {c i k : Nat} (hc : c ≠ 0 ∧ c ≠ 4 ∧ c ≠ 5 ∧ c ≠ 6 ∧ c ≠ 7 ∧ c ≠ 8 ∧ c ≠ 9 ∧ c ≠ 44) (hi : ¬ ((28 ≤ c ∧ c ≤ 39 ∧ k = 1) ∨ (c = 43 ∧ 3 ≤ k ∧ k < 6) ∨ (c = 46 ∧ 6 ≤ k ∧ k < 12) ∨ ((c = 47 ∨ c = 48) ∧ 4 ≤ k ∧ k < 8))) : ∀ (v : fw_V), mf_Mo_pulse_1_j85 v c i k = v c i k := by
  intro v
  unfold mf_Mo_pulse_1_j85
  (try dsimp only)
  all_goals ((repeat' split) <;> (first | with_reducible rfl | (simp only [md1_28 hc hi, md1_29 hc hi, md1_31 hc hi, md1_32 hc hi, md1_33 hc hi, md1_34 hc hi, md1_35 hc hi, md1_36 hc hi, md1_37 hc hi, md1_38 hc hi, md1_39 hc hi, md1_43_3 hc hi, md1_43_4 hc hi, md1_43_5 hc hi, md1_47_4 hc hi, md1_48_4 hc hi, md1_47_5 hc hi, md1_48_5 hc hi, md1_47_6 hc hi, md1_48_6 hc hi, md1_47_7 hc hi, md1_48_7 hc hi, md1_46_6 hc hi, md1_46_7 hc hi, md1_46_8 hc hi, md1_46_9 hc hi, md1_46_10 hc hi, md1_46_11 hc hi, md1_0 hc hi, md1_9 hc hi, md1_44 hc hi, md1_send hc hi, md1_rp0 hc hi, md1_rp1 hc hi, md1_rp2 hc hi, md1_Mo_pulse_1_j86 hc hi]; done)))
theorem md1_Mo_pulse_1_j82 {c i k : Nat} (hc : c ≠ 0 ∧ c ≠ 4 ∧ c ≠ 5 ∧ c ≠ 6 ∧ c ≠ 7 ∧ c ≠ 8 ∧ c ≠ 9 ∧ c ≠ 44) (hi : ¬ ((28 ≤ c ∧ c ≤ 39 ∧ k = 1) ∨ (c = 43 ∧ 3 ≤ k ∧ k < 6) ∨ (c = 46 ∧ 6 ≤ k ∧ k < 12) ∨ ((c = 47 ∨ c = 48) ∧ 4 ≤ k ∧ k < 8))) : ∀ (v : fw_V) (x4 : Int32), mf_Mo_pulse_1_j82 v x4 c i k = v c i k := by
  intro v x4
  unfold mf_Mo_pulse_1_j82
  (try dsimp only)
  all_goals ((repeat' split) <;> (first | with_reducible rfl | (simp only [md1_28 hc hi, md1_29 hc hi, md1_31 hc hi, md1_32 hc hi, md1_33 hc hi, md1_34 hc hi, md1_35 hc hi, md1_36 hc hi, md1_37 hc hi, md1_38 hc hi, md1_39 hc hi, md1_43_3 hc hi, md1_43_4 hc hi, md1_43_5 hc hi, md1_47_4 hc hi, md1_48_4 hc hi, md1_47_5 hc hi, md1_48_5 hc hi, md1_47_6 hc hi, md1_48_6 hc hi, md1_47_7 hc hi, md1_48_7 hc hi, md1_46_6 hc hi, md1_46_7 hc hi, md1_46_8 hc hi, md1_46_9 hc hi, md1_46_10 hc hi, md1_46_11 hc hi, md1_0 hc hi, md1_9 hc hi, md1_44 hc hi, md1_send hc hi, md1_rp0 hc hi, md1_rp1 hc hi, md1_rp2 hc hi, md1_Mo_pulse_1_j83 hc hi, md1_Mo_pulse_1_j85 hc hi]; done)))
theorem md1_Mo_pulse_1_j81 {c i k : Nat} (hc : c ≠ 0 ∧ c ≠ 4 ∧ c ≠ 5 ∧ c ≠ 6 ∧ c ≠ 7 ∧ c ≠ 8 ∧ c ≠ 9 ∧ c ≠ 44) (hi : ¬ ((28 ≤ c ∧ c ≤ 39 ∧ k = 1) ∨ (c = 43 ∧ 3 ≤ k ∧ k < 6) ∨ (c = 46 ∧ 6 ≤ k ∧ k < 12) ∨ ((c = 47 ∨ c = 48) ∧ 4 ≤ k ∧ k < 8))) : ∀ (v : fw_V) (x4 : Int32), mf_Mo_pulse_1_j81 v x4 c i k = v c i k := by
  intro v x4
  unfold mf_Mo_pulse_1_j81
  (try dsimp only)
  all_goals ((repeat' split) <;> (first | with_reducible rfl | (simp only [md1_28 hc hi, md1_29 hc hi, md1_31 hc hi, md1_32 hc hi, md1_33 hc hi, md1_34 hc hi, md1_35 hc hi, md1_36 hc hi, md1_37 hc hi, md1_38 hc hi, md1_39 hc hi, md1_43_3 hc hi, md1_43_4 hc hi, md1_43_5 hc hi, md1_47_4 hc hi, md1_48_4 hc hi, md1_47_5 hc hi, md1_48_5 hc hi, md1_47_6 hc hi, md1_48_6 hc hi, md1_47_7 hc hi, md1_48_7 hc hi, md1_46_6 hc hi, md1_46_7 hc hi, md1_46_8 hc hi, md1_46_9 hc hi, md1_46_10 hc hi, md1_46_11 hc hi, md1_0 hc hi, md1_9 hc hi, md1_44 hc hi, md1_send hc hi, md1_rp0 hc hi, md1_rp1 hc hi, md1_rp2 hc hi, md1_Mo_pulse_1_j82 hc hi]; done)))
theorem md1_Mo_pulse_1_j87 {c i k : Nat} (hc : c ≠ 0 ∧ c ≠ 4 ∧ c ≠ 5 ∧ c ≠ 6 ∧ c ≠ 7 ∧ c ≠ 8 ∧ c ≠ 9 ∧ c ≠ 44) (hi : ¬ ((28 ≤ c ∧ c ≤ 39 ∧ k = 1) ∨ (c = 43 ∧ 3 ≤ k ∧ k < 6) ∨ (c = 46 ∧ 6 ≤ k ∧ k < 12) ∨ ((c = 47 ∨ c = 48) ∧ 4 ≤ k ∧ k < 8))) : ∀ (v : fw_V) (x4 : Int32) (x90 : Int32), mf_Mo_pulse_1_j87 v x4 x90 c i k = v c i k := by
  intro v x4 x90
  unfold mf_Mo_pulse_1_j87
  (try dsimp only)
  all_goals ((repeat' split) <;> (first | with_reducible rfl | (simp only [md1_28 hc hi, md1_29 hc hi, md1_31 hc hi, md1_32 hc hi, md1_33 hc hi, md1_34 hc hi, md1_35 hc hi, md1_36 hc hi, md1_37 hc hi, md1_38 hc hi, md1_39 hc hi, md1_43_3 hc hi, md1_43_4 hc hi, md1_43_5 hc hi, md1_47_4 hc hi, md1_48_4 hc hi, md1_47_5 hc hi, md1_48_5 hc hi, md1_47_6 hc hi, md1_48_6 hc hi, md1_47_7 hc hi, md1_48_7 hc hi, md1_46_6 hc hi, md1_46_7 hc hi, md1_46_8 hc hi, md1_46_9 hc hi, md1_46_10 hc hi, md1_46_11 hc hi, md1_0 hc hi, md1_9 hc hi, md1_44 hc hi, md1_send hc hi, md1_rp0 hc hi, md1_rp1 hc hi, md1_rp2 hc hi, md1_Mo_pulse_1_j83 hc hi, md1_Mo_pulse_1_j85 hc hi]; done)))
theorem md1_Mo_pulse_1_j80 {c i k : Nat} (hc : c ≠ 0 ∧ c ≠ 4 ∧ c ≠ 5 ∧ c ≠ 6 ∧ c ≠ 7 ∧ c ≠ 8 ∧ c ≠ 9 ∧ c ≠ 44) (hi : ¬ ((28 ≤ c ∧ c ≤ 39 ∧ k = 1) ∨ (c = 43 ∧ 3 ≤ k ∧ k < 6) ∨ (c = 46 ∧ 6 ≤ k ∧ k < 12) ∨ ((c = 47 ∨ c = 48) ∧ 4 ≤ k ∧ k < 8))) : ∀ (v : fw_V), mf_Mo_pulse_1_j80 v c i k = v c i k := by
  intro v
  unfold mf_Mo_pulse_1_j80
  (try dsimp only)
  all_goals ((repeat' split) <;> (first | with_reducible rfl | (simp only [md1_28 hc hi, md1_29 hc hi, md1_31 hc hi, md1_32 hc hi, md1_33 hc hi, md1_34 hc hi, md1_35 hc hi, md1_36 hc hi, md1_37 hc hi, md1_38 hc hi, md1_39 hc hi, md1_43_3 hc hi, md1_43_4 hc hi, md1_43_5 hc hi, md1_47_4 hc hi, md1_48_4 hc hi, md1_47_5 hc hi, md1_48_5 hc hi, md1_47_6 hc hi, md1_48_6 hc hi, md1_47_7 hc hi, md1_48_7 hc hi, md1_46_6 hc hi, md1_46_7 hc hi, md1_46_8 hc hi, md1_46_9 hc hi, md1_46_10 hc hi, md1_46_11 hc hi, md1_0 hc hi, md1_9 hc hi, md1_44 hc hi, md1_send hc hi, md1_rp0 hc hi, md1_rp1 hc hi, md1_rp2 hc hi, md1_Mo_pulse_1_j81 hc hi, md1_Mo_pulse_1_j87 hc hi]; done)))
theorem md1_Mo_pulse_1_j79 {c i k : Nat} (hc : c ≠ 0 ∧ c ≠ 4 ∧ c ≠ 5 ∧ c ≠ 6 ∧ c ≠ 7 ∧ c ≠ 8 ∧ c ≠ 9 ∧ c ≠ 44) (hi : ¬ ((28 ≤ c ∧ c ≤ 39 ∧ k = 1) ∨ (c = 43 ∧ 3 ≤ k ∧ k < 6) ∨ (c = 46 ∧ 6 ≤ k ∧ k < 12) ∨ ((c = 47 ∨ c = 48) ∧ 4 ≤ k ∧ k < 8))) : ∀ (v : fw_V), mf_Mo_pulse_1_j79 v c i k = v c i k := by
  intro v
  unfold mf_Mo_pulse_1_j79
  (try dsimp only)
  all_goals ((repeat' split) <;> (first | with_reducible rfl | (simp only [md1_28 hc hi, md1_29 hc hi, md1_31 hc hi, md1_32 hc hi, md1_33 hc hi, md1_34 hc hi, md1_35 hc hi, md1_36 hc hi, md1_37 hc hi, md1_38 hc hi, md1_39 hc hi, md1_43_3 hc hi, md1_43_4 hc hi, md1_43_5 hc hi, md1_47_4 hc hi, md1_48_4 hc hi, md1_47_5 hc hi, md1_48_5 hc hi, md1_47_6 hc hi, md1_48_6 hc hi, md1_47_7 hc hi, md1_48_7 hc hi, md1_46_6 hc hi, md1_46_7 hc hi, md1_46_8 hc hi, md1_46_9 hc hi, md1_46_10 hc hi, md1_46_11 hc hi, md1_0 hc hi, md1_9 hc hi, md1_44 hc hi, md1_send hc hi, md1_rp0 hc hi, md1_rp1 hc hi, md1_rp2 hc hi, md1_Mo_pulse_1_j80 hc hi]; done)))
theorem md1_Mo_pulse_1_j92 {c i k : Nat} (hc : c ≠ 0 ∧ c ≠ 4 ∧ c ≠ 5 ∧ c ≠ 6 ∧ c ≠ 7 ∧ c ≠ 8 ∧ c ≠ 9 ∧ c ≠ 44) (hi : ¬ ((28 ≤ c ∧ c ≤ 39 ∧ k = 1) ∨ (c = 43 ∧ 3 ≤ k ∧ k < 6) ∨ (c = 46 ∧ 6 ≤ k ∧ k < 12) ∨ ((c = 47 ∨ c = 48) ∧ 4 ≤ k ∧ k < 8))) : ∀ (v : fw_V), mf_Mo_pulse_1_j92 v c i k = v c i k := by
  intro v
  unfold mf_Mo_pulse_1_j92
  (try dsimp only)
  all_goals ((repeat' split) <;> (first | with_reducible rfl | (simp only [md1_28 hc hi, md1_29 hc hi, md1_31 hc hi, md1_32 hc hi, md1_33 hc hi, md1_34 hc hi, md1_35 hc hi, md1_36 hc hi, md1_37 hc hi, md1_38 hc hi, md1_39 hc hi, md1_43_3 hc hi, md1_43_4 hc hi, md1_43_5 hc hi, md1_47_4 hc hi, md1_48_4 hc hi, md1_47_5 hc hi, md1_48_5 hc hi, md1_47_6 hc hi, md1_48_6 hc hi, md1_47_7 hc hi, md1_48_7 hc hi, md1_46_6 hc hi, md1_46_7 hc hi, md1_46_8 hc hi, md1_46_9 hc hi, md1_46_10 hc hi, md1_46_11 hc hi, md1_0 hc hi, md1_9 hc hi, md1_44 hc hi, md1_send hc hi, md1_rp0 hc hi, md1_rp1 hc hi, md1_rp2 hc hi, md1_Mo_pulse_1_j86 hc hi]; done)))
theorem md1_Mo_pulse_1_j93 {c i k : Nat} (hc : c ≠ 0 ∧ c ≠ 4 ∧ c ≠ 5 ∧ c ≠ 6 ∧ c ≠ 7 ∧ c ≠ 8 ∧ c ≠ 9 ∧ c ≠ 44) (hi : ¬ ((28 ≤ c ∧ c ≤ 39 ∧ k = 1) ∨ (c = 43 ∧ 3 ≤ k ∧ k < 6) ∨ (c = 46 ∧ 6 ≤ k ∧ k < 12) ∨ ((c = 47 ∨ c = 48) ∧ 4 ≤ k ∧ k < 8))) : ∀ (v : fw_V), mf_Mo_pulse_1_j93 v c i k = v c i k := by
  intro v
  unfold mf_Mo_pulse_1_j93
  (try dsimp only)
  all_goals ((repeat' split) <;> (first | with_reducible rfl | (simp only [md1_28 hc hi, md1_29 hc hi, md1_31 hc hi, md1_32 hc hi, md1_33 hc hi, md1_34 hc hi, md1_35 hc hi, md1_36 hc hi, md1_37 hc hi, md1_38 hc hi, md1_39 hc hi, md1_43_3 hc hi, md1_43_4 hc hi, md1_43_5 hc hi, md1_47_4 hc hi, md1_48_4 hc hi, md1_47_5 hc hi, md1_48_5 hc hi, md1_47_6 hc hi, md1_48_6 hc hi, md1_47_7 hc hi, md1_48_7 hc hi, md1_46_6 hc hi, md1_46_7 hc hi, md1_46_8 hc hi, md1_46_9 hc hi, md1_46_10 hc hi, md1_46_11 hc hi, md1_0 hc hi, md1_9 hc hi, md1_44 hc hi, md1_send hc hi, md1_rp0 hc hi, md1_rp1 hc hi, md1_rp2 hc hi, md1_Mo_pulse_1_j86 hc hi]; done)))
theorem md1_Mo_pulse_1_j91 {c i k : Nat} (hc : c ≠ 0 ∧ c ≠ 4 ∧ c ≠ 5 ∧ c ≠ 6 ∧ c ≠ 7 ∧ c ≠ 8 ∧ c ≠ 9 ∧ c ≠ 44) (hi : ¬ ((28 ≤ c ∧ c ≤ 39 ∧ k = 1) ∨ (c = 43 ∧ 3 ≤ k ∧ k < 6) ∨ (c = 46 ∧ 6 ≤ k ∧ k < 12) ∨ ((c = 47 ∨ c = 48) ∧ 4 ≤ k ∧ k < 8))) : ∀ (v : fw_V) (x4 : Int32), mf_Mo_pulse_1_j91 v x4 c i k = v c i k := by
  intro v x4
  unfold mf_Mo_pulse_1_j91
  (try dsimp only)
  all_goals ((repeat' split) <;> (first | with_reducible rfl | (simp only [md1_28 hc hi, md1_29 hc hi, md1_31 hc hi, md1_32 hc hi, md1_33 hc hi, md1_34 hc hi, md1_35 hc hi, md1_36 hc hi, md1_37 hc hi, md1_38 hc hi, md1_39 hc hi, md1_43_3 hc hi, md1_43_4 hc hi, md1_43_5 hc hi, md1_47_4 hc hi, md1_48_4 hc hi, md1_47_5 hc hi, md1_48_5 hc hi, md1_47_6 hc hi, md1_48_6 hc hi, md1_47_7 hc hi, md1_48_7 hc hi, md1_46_6 hc hi, md1_46_7 hc hi, md1_46_8 hc hi, md1_46_9 hc hi, md1_46_10 hc hi, md1_46_11 hc hi, md1_0 hc hi, md1_9 hc hi, md1_44 hc hi, md1_send hc hi, md1_rp0 hc hi, md1_rp1 hc hi, md1_rp2 hc hi, md1_Mo_pulse_1_j92 hc hi, md1_Mo_pulse_1_j93 hc hi]; done)))
theorem md1_Mo_pulse_1_j90 {c i k : Nat} (hc : c ≠ 0 ∧ c ≠ 4 ∧ c ≠ 5 ∧ c ≠ 6 ∧ c ≠ 7 ∧ c ≠ 8 ∧ c ≠ 9 ∧ c ≠ 44) (hi : ¬ ((28 ≤ c ∧ c ≤ 39 ∧ k = 1) ∨ (c = 43 ∧ 3 ≤ k ∧ k < 6) ∨ (c = 46 ∧ 6 ≤ k ∧ k < 12) ∨ ((c = 47 ∨ c = 48) ∧ 4 ≤ k ∧ k < 8))) : ∀ (v : fw_V) (x4 : Int32), mf_Mo_pulse_1_j90 v x4 c i k = v c i k := by
  intro v x4
  unfold mf_Mo_pulse_1_j90
  (try dsimp only)
  all_goals ((repeat' split) <;> (first | with_reducible rfl | (simp only [md1_28 hc hi, md1_29 hc hi, md1_31 hc hi, md1_32 hc hi, md1_33 hc hi, md1_34 hc hi, md1_35 hc hi, md1_36 hc hi, md1_37 hc hi, md1_38 hc hi, md1_39 hc hi, md1_43_3 hc hi, md1_43_4 hc hi, md1_43_5 hc hi, md1_47_4 hc hi, md1_48_4 hc hi, md1_47_5 hc hi, md1_48_5 hc hi, md1_47_6 hc hi, md1_48_6 hc hi, md1_47_7 hc hi, md1_48_7 hc hi, md1_46_6 hc hi, md1_46_7 hc hi, md1_46_8 hc hi, md1_46_9 hc hi, md1_46_10 hc hi, md1_46_11 hc hi, md1_0 hc hi, md1_9 hc hi, md1_44 hc hi, md1_send hc hi, md1_rp0 hc hi, md1_rp1 hc hi, md1_rp2 hc hi, md1_Mo_pulse_1_j91 hc hi]; done)))
theorem md1_Mo_pulse_1_j94 {c i k : Nat} (hc : c ≠ 0 ∧ c ≠ 4 ∧ c ≠ 5 ∧ c ≠ 6 ∧ c ≠ 7 ∧ c ≠ 8 ∧ c ≠ 9 ∧ c ≠ 44) (hi : ¬ ((28 ≤ c ∧ c ≤ 39 ∧ k = 1) ∨ (c = 43 ∧ 3 ≤ k ∧ k < 6) ∨ (c = 46 ∧ 6 ≤ k ∧ k < 12) ∨ ((c = 47 ∨ c = 48) ∧ 4 ≤ k ∧ k < 8))) : ∀ (v : fw_V) (x4 : Int32) (x90 : Int32), mf_Mo_pulse_1_j94 v x4 x90 c i k = v c i k := by
  intro v x4 x90
  unfold mf_Mo_pulse_1_j94
  (try dsimp only)
  all_goals ((repeat' split) <;> (first | with_reducible rfl | (simp only [md1_28 hc hi, md1_29 hc hi, md1_31 hc hi, md1_32 hc hi, md1_33 hc hi, md1_34 hc hi, md1_35 hc hi, md1_36 hc hi, md1_37 hc hi, md1_38 hc hi, md1_39 hc hi, md1_43_3 hc hi, md1_43_4 hc hi, md1_43_5 hc hi, md1_47_4 hc hi, md1_48_4 hc hi, md1_47_5 hc hi, md1_48_5 hc hi, md1_47_6 hc hi, md1_48_6 hc hi, md1_47_7 hc hi, md1_48_7 hc hi, md1_46_6 hc hi, md1_46_7 hc hi, md1_46_8 hc hi, md1_46_9 hc hi, md1_46_10 hc hi, md1_46_11 hc hi, md1_0 hc hi, md1_9 hc hi, md1_44 hc hi, md1_send hc hi, md1_rp0 hc hi, md1_rp1 hc hi, md1_rp2 hc hi, md1_Mo_pulse_1_j92 hc hi, md1_Mo_pulse_1_j93 hc hi]; done)))
theorem md1_Mo_pulse_1_j89 {c i k : Nat} (hc : c ≠ 0 ∧ c ≠ 4 ∧ c ≠ 5 ∧ c ≠ 6 ∧ c ≠ 7 ∧ c ≠ 8 ∧ c ≠ 9 ∧ c ≠ 44) (hi : ¬ ((28 ≤ c ∧ c ≤ 39 ∧ k = 1) ∨ (c = 43 ∧ 3 ≤ k ∧ k < 6) ∨ (c = 46 ∧ 6 ≤ k ∧ k < 12) ∨ ((c = 47 ∨ c = 48) ∧ 4 ≤ k ∧ k < 8))) : ∀ (v : fw_V), mf_Mo_pulse_1_j89 v c i k = v c i k := by
  intro v
  unfold mf_Mo_pulse_1_j89
  (try dsimp only)
  all_goals ((repeat' split) <;> (first | with_reducible rfl | (simp only [md1_28 hc hi, md1_29 hc hi, md1_31 hc hi, md1_32 hc hi, md1_33 hc hi, md1_34 hc hi, md1_35 hc hi, md1_36 hc hi, md1_37 hc hi, md1_38 hc hi, md1_39 hc hi, md1_43_3 hc hi, md1_43_4 hc hi, md1_43_5 hc hi, md1_47_4 hc hi, md1_48_4 hc hi, md1_47_5 hc hi, md1_48_5 hc hi, md1_47_6 hc hi, md1_48_6 hc hi, md1_47_7 hc hi, md1_48_7 hc hi, md1_46_6 hc hi, md1_46_7 hc hi, md1_46_8 hc hi, md1_46_9 hc hi, md1_46_10 hc hi, md1_46_11 hc hi, md1_0 hc hi, md1_9 hc hi, md1_44 hc hi, md1_send hc hi, md1_rp0 hc hi, md1_rp1 hc hi, md1_rp2 hc hi, md1_Mo_pulse_1_j90 hc hi, md1_Mo_pulse_1_j94 hc hi]; done)))
theorem md1_Mo_pulse_1_j88 {c i k : Nat} (hc : c ≠ 0 ∧ c ≠ 4 ∧ c ≠ 5 ∧ c ≠ 6 ∧ c ≠ 7 ∧ c ≠ 8 ∧ c ≠ 9 ∧ c ≠ 44) (hi : ¬ ((28 ≤ c ∧ c ≤ 39 ∧ k = 1) ∨ (c = 43 ∧ 3 ≤ k ∧ k < 6) ∨ (c = 46 ∧ 6 ≤ k ∧ k < 12) ∨ ((c = 47 ∨ c = 48) ∧ 4 ≤ k ∧ k < 8))) : ∀ (v : fw_V), mf_Mo_pulse_1_j88 v c i k = v c i k := by
  intro v
  unfold mf_Mo_pulse_1_j88
  (try dsimp only)
  all_goals ((repeat' split) <;> (first | with_reducible rfl | (simp only [md1_28 hc hi, md1_29 hc hi, md1_31 hc hi, md1_32 hc hi, md1_33 hc hi, md1_34 hc hi, md1_35 hc hi, md1_36 hc hi, md1_37 hc hi, md1_38 hc hi, md1_39 hc hi, md1_43_3 hc hi, md1_43_4 hc hi, md1_43_5 hc hi, md1_47_4 hc hi, md1_48_4 hc hi, md1_47_5 hc hi, md1_48_5 hc hi, md1_47_6 hc hi, md1_48_6 hc hi, md1_47_7 hc hi, md1_48_7 hc hi, md1_46_6 hc hi, md1_46_7 hc hi, md1_46_8 hc hi, md1_46_9 hc hi, md1_46_10 hc hi, md1_46_11 hc hi, md1_0 hc hi, md1_9 hc hi, md1_44 hc hi, md1_send hc hi, md1_rp0 hc hi, md1_rp1 hc hi, md1_rp2 hc hi, md1_Mo_pulse_1_j89 hc hi]; done)))
theorem md1_Mo_pulse_1_j78 {c i k : Nat} (hc : c ≠ 0 ∧ c ≠ 4 ∧ c ≠ 5 ∧ c ≠ 6 ∧ c ≠ 7 ∧ c ≠ 8 ∧ c ≠ 9 ∧ c ≠ 44) (hi : ¬ ((28 ≤ c ∧ c ≤ 39 ∧ k = 1) ∨ (c = 43 ∧ 3 ≤ k ∧ k < 6) ∨ (c = 46 ∧ 6 ≤ k ∧ k < 12) ∨ ((c = 47 ∨ c = 48) ∧ 4 ≤ k ∧ k < 8))) : ∀ (v : fw_V) (x4 : Int32), mf_Mo_pulse_1_j78 v x4 c i k = v c i k := by
  intro v x4
  unfold mf_Mo_pulse_1_j78
  (try dsimp only)
  all_goals ((repeat' split) <;> (first | with_reducible rfl | (simp only [md1_28 hc hi, md1_29 hc hi, md1_31 hc hi, md1_32 hc hi, md1_33 hc hi, md1_34 hc hi, md1_35 hc hi, md1_36 hc hi, md1_37 hc hi, md1_38 hc hi, md1_39 hc hi, md1_43_3 hc hi, md1_43_4 hc hi, md1_43_5 hc hi, md1_47_4 hc hi, md1_48_4 hc hi, md1_47_5 hc hi, md1_48_5 hc hi, md1_47_6 hc hi, md1_48_6 hc hi, md1_47_7 hc hi, md1_48_7 hc hi, md1_46_6 hc hi, md1_46_7 hc hi, md1_46_8 hc hi, md1_46_9 hc hi, md1_46_10 hc hi, md1_46_11 hc hi, md1_0 hc hi, md1_9 hc hi, md1_44 hc hi, md1_send hc hi, md1_rp0 hc hi, md1_rp1 hc hi, md1_rp2 hc hi, md1_Mo_pulse_1_j79 hc hi, md1_Mo_pulse_1_j88 hc hi]; done)))
theorem md1_Mo_pulse_1_j77 {c i k : Nat} (hc : c ≠ 0 ∧ c ≠ 4 ∧ c ≠ 5 ∧ c ≠ 6 ∧ c ≠ 7 ∧ c ≠ 8 ∧ c ≠ 9 ∧ c ≠ 44) (hi : ¬ ((28 ≤ c ∧ c ≤ 39 ∧ k = 1) ∨ (c = 43 ∧ 3 ≤ k ∧ k < 6) ∨ (c = 46 ∧ 6 ≤ k ∧ k < 12) ∨ ((c = 47 ∨ c = 48) ∧ 4 ≤ k ∧ k < 8))) : ∀ (v : fw_V) (x4 : Int32), mf_Mo_pulse_1_j77 v x4 c i k = v c i k := by
  intro v x4
  unfold mf_Mo_pulse_1_j77
  (try dsimp only)
  all_goals ((repeat' split) <;> (first | with_reducible rfl | (simp only [md1_28 hc hi, md1_29 hc hi, md1_31 hc hi, md1_32 hc hi, md1_33 hc hi, md1_34 hc hi, md1_35 hc hi, md1_36 hc hi, md1_37 hc hi, md1_38 hc hi, md1_39 hc hi, md1_43_3 hc hi, md1_43_4 hc hi, md1_43_5 hc hi, md1_47_4 hc hi, md1_48_4 hc hi, md1_47_5 hc hi, md1_48_5 hc hi, md1_47_6 hc hi, md1_48_6 hc hi, md1_47_7 hc hi, md1_48_7 hc hi, md1_46_6 hc hi, md1_46_7 hc hi, md1_46_8 hc hi, md1_46_9 hc hi, md1_46_10 hc hi, md1_46_11 hc hi, md1_0 hc hi, md1_9 hc hi, md1_44 hc hi, md1_send hc hi, md1_rp0 hc hi, md1_rp1 hc hi, md1_rp2 hc hi, md1_Mo_pulse_1_j78 hc hi]; done)))
theorem md1_Mo_pulse_1_j95 {c i k : Nat} (hc : c ≠ 0 ∧ c ≠ 4 ∧ c ≠ 5 ∧ c ≠ 6 ∧ c ≠ 7 ∧ c ≠ 8 ∧ c ≠ 9 ∧ c ≠ 44) (hi : ¬ ((28 ≤ c ∧ c ≤ 39 ∧ k = 1) ∨ (c = 43 ∧ 3 ≤ k ∧ k < 6) ∨ (c = 46 ∧ 6 ≤ k ∧ k < 12) ∨ ((c = 47 ∨ c = 48) ∧ 4 ≤ k ∧ k < 8))) : ∀ (v : fw_V) (x4 : Int32) (x90 : Int32), mf_Mo_pulse_1_j95 v x4 x90 c i k = v c i k := by
  intro v x4 x90
  unfold mf_Mo_pulse_1_j95
  (try dsimp only)
  all_goals ((repeat' split) <;> (first | with_reducible rfl | (simp only [md1_28 hc hi, md1_29 hc hi, md1_31 hc hi, md1_32 hc hi, md1_33 hc hi, md1_34 hc hi, md1_35 hc hi, md1_36 hc hi, md1_37 hc hi, md1_38 hc hi, md1_39 hc hi, md1_43_3 hc hi, md1_43_4 hc hi, md1_43_5 hc hi, md1_47_4 hc hi, md1_48_4 hc hi, md1_47_5 hc hi, md1_48_5 hc hi, md1_47_6 hc hi, md1_48_6 hc hi, md1_47_7 hc hi, md1_48_7 hc hi, md1_46_6 hc hi, md1_46_7 hc hi, md1_46_8 hc hi, md1_46_9 hc hi, md1_46_10 hc hi, md1_46_11 hc hi, md1_0 hc hi, md1_9 hc hi, md1_44 hc hi, md1_send hc hi, md1_rp0 hc hi, md1_rp1 hc hi, md1_rp2 hc hi, md1_Mo_pulse_1_j79 hc hi, md1_Mo_pulse_1_j88 hc hi]; done)))
theorem md1_Mo_pulse_1_j76 {c i k : Nat} (hc : c ≠ 0 ∧ c ≠ 4 ∧ c ≠ 5 ∧ c ≠ 6 ∧ c ≠ 7 ∧ c ≠ 8 ∧ c ≠ 9 ∧ c ≠ 44) (hi : ¬ ((28 ≤ c ∧ c ≤ 39 ∧ k = 1) ∨ (c = 43 ∧ 3 ≤ k ∧ k < 6) ∨ (c = 46 ∧ 6 ≤ k ∧ k < 12) ∨ ((c = 47 ∨ c = 48) ∧ 4 ≤ k ∧ k < 8))) : ∀ (v : fw_V), mf_Mo_pulse_1_j76 v c i k = v c i k := by
  intro v
  unfold mf_Mo_pulse_1_j76
  (try dsimp only)
  all_goals ((repeat' split) <;> (first | with_reducible rfl | (simp only [md1_28 hc hi, md1_29 hc hi, md1_31 hc hi, md1_32 hc hi, md1_33 hc hi, md1_34 hc hi, md1_35 hc hi, md1_36 hc hi, md1_37 hc hi, md1_38 hc hi, md1_39 hc hi, md1_43_3 hc hi, md1_43_4 hc hi, md1_43_5 hc hi, md1_47_4 hc hi, md1_48_4 hc hi, md1_47_5 hc hi, md1_48_5 hc hi, md1_47_6 hc hi, md1_48_6 hc hi, md1_47_7 hc hi, md1_48_7 hc hi, md1_46_6 hc hi, md1_46_7 hc hi, md1_46_8 hc hi, md1_46_9 hc hi, md1_46_10 hc hi, md1_46_11 hc hi, md1_0 hc hi, md1_9 hc hi, md1_44 hc hi, md1_send hc hi, md1_rp0 hc hi, md1_rp1 hc hi, md1_rp2 hc hi, md1_Mo_pulse_1_j77 hc hi, md1_Mo_pulse_1_j95 hc hi]; done)))
theorem md1_Mo_pulse_1_j75 {c i k : Nat} (hc : c ≠ 0 ∧ c ≠ 4 ∧ c ≠ 5 ∧ c ≠ 6 ∧ c ≠ 7 ∧ c ≠ 8 ∧ c ≠ 9 ∧ c ≠ 44) (hi : ¬ ((28 ≤ c ∧ c ≤ 39 ∧ k = 1) ∨ (c = 43 ∧ 3 ≤ k ∧ k < 6) ∨ (c = 46 ∧ 6 ≤ k ∧ k < 12) ∨ ((c = 47 ∨ c = 48) ∧ 4 ≤ k ∧ k < 8))) : ∀ (v : fw_V), mf_Mo_pulse_1_j75 v c i k = v c i k := by
  intro v
  unfold mf_Mo_pulse_1_j75
  (try dsimp only)
  all_goals ((repeat' split) <;> (first | with_reducible rfl | (simp only [md1_28 hc hi, md1_29 hc hi, md1_31 hc hi, md1_32 hc hi, md1_33 hc hi, md1_34 hc hi, md1_35 hc hi, md1_36 hc hi, md1_37 hc hi, md1_38 hc hi, md1_39 hc hi, md1_43_3 hc hi, md1_43_4 hc hi, md1_43_5 hc hi, md1_47_4 hc hi, md1_48_4 hc hi, md1_47_5 hc hi, md1_48_5 hc hi, md1_47_6 hc hi, md1_48_6 hc hi, md1_47_7 hc hi, md1_48_7 hc hi, md1_46_6 hc hi, md1_46_7 hc hi, md1_46_8 hc hi, md1_46_9 hc hi, md1_46_10 hc hi, md1_46_11 hc hi, md1_0 hc hi, md1_9 hc hi, md1_44 hc hi, md1_send hc hi, md1_rp0 hc hi, md1_rp1 hc hi, md1_rp2 hc hi, md1_Mo_pulse_1_j76 hc hi]; done)))
theorem md1_Mo_pulse_1_j105 {c i k : Nat} (hc : c ≠ 0 ∧ c ≠ 4 ∧ c ≠ 5 ∧ c ≠ 6 ∧ c ≠ 7 ∧ c ≠ 8 ∧ c ≠ 9 ∧ c ≠ 44) (hi : ¬ ((28 ≤ c ∧ c ≤ 39 ∧ k = 1) ∨ (c = 43 ∧ 3 ≤ k ∧ k < 6) ∨ (c = 46 ∧ 6 ≤ k ∧ k < 12) ∨ ((c = 47 ∨ c = 48) ∧ 4 ≤ k ∧ k < 8))) : ∀ (v : fw_V), mf_Mo_pulse_1_j105 v c i k = v c i k := by
  intro v
  unfold mf_Mo_pulse_1_j105
  (try dsimp only)
  all_goals ((repeat' split) <;> (first | with_reducible rfl | (simp only [md1_28 hc hi, md1_29 hc hi, md1_31 hc hi, md1_32 hc hi, md1_33 hc hi, md1_34 hc hi, md1_35 hc hi, md1_36 hc hi, md1_37 hc hi, md1_38 hc hi, md1_39 hc hi, md1_43_3 hc hi, md1_43_4 hc hi, md1_43_5 hc hi, md1_47_4 hc hi, md1_48_4 hc hi, md1_47_5 hc hi, md1_48_5 hc hi, md1_47_6 hc hi, md1_48_6 hc hi, md1_47_7 hc hi, md1_48_7 hc hi, md1_46_6 hc hi, md1_46_7 hc hi, md1_46_8 hc hi, md1_46_9 hc hi, md1_46_10 hc hi, md1_46_11 hc hi, md1_0 hc hi, md1_9 hc hi, md1_44 hc hi, md1_send hc hi, md1_rp0 hc hi, md1_rp1 hc hi, md1_rp2 hc hi, md1_Mo_reply_1 hc hi]; done)))
theorem md1_Mo_pulse_1_j104 {c i k : Nat} (hc : c ≠ 0 ∧ c ≠ 4 ∧ c ≠ 5 ∧ c ≠ 6 ∧ c ≠ 7 ∧ c ≠ 8 ∧ c ≠ 9 ∧ c ≠ 44) (hi : ¬ ((28 ≤ c ∧ c ≤ 39 ∧ k = 1) ∨ (c = 43 ∧ 3 ≤ k ∧ k < 6) ∨ (c = 46 ∧ 6 ≤ k ∧ k < 12) ∨ ((c = 47 ∨ c = 48) ∧ 4 ≤ k ∧ k < 8))) : ∀ (v : fw_V), mf_Mo_pulse_1_j104 v c i k = v c i k := by
  intro v
  unfold mf_Mo_pulse_1_j104
  (try dsimp only)
  all_goals ((repeat' split) <;> (first | with_reducible rfl | (simp only [md1_28 hc hi, md1_29 hc hi, md1_31 hc hi, md1_32 hc hi, md1_33 hc hi, md1_34 hc hi, md1_35 hc hi, md1_36 hc hi, md1_37 hc hi, md1_38 hc hi, md1_39 hc hi, md1_43_3 hc hi, md1_43_4 hc hi, md1_43_5 hc hi, md1_47_4 hc hi, md1_48_4 hc hi, md1_47_5 hc hi, md1_48_5 hc hi, md1_47_6 hc hi, md1_48_6 hc hi, md1_47_7 hc hi, md1_48_7 hc hi, md1_46_6 hc hi, md1_46_7 hc hi, md1_46_8 hc hi, md1_46_9 hc hi, md1_46_10 hc hi, md1_46_11 hc hi, md1_0 hc hi, md1_9 hc hi, md1_44 hc hi, md1_send hc hi, md1_rp0 hc hi, md1_rp1 hc hi, md1_rp2 hc hi, md1_Mo_pulse_1_j105 hc hi]; done)))
theorem md1_Mo_pulse_1_j107 {c i k : Nat} (hc : c ≠ 0 ∧ c ≠ 4 ∧ c ≠ 5 ∧ c ≠ 6 ∧ c ≠ 7 ∧ c ≠ 8 ∧ c ≠ 9 ∧ c ≠ 44) (hi : ¬ ((28 ≤ c ∧ c ≤ 39 ∧ k = 1) ∨ (c = 43 ∧ 3 ≤ k ∧ k < 6) ∨ (c = 46 ∧ 6 ≤ k ∧ k < 12) ∨ ((c = 47 ∨ c = 48) ∧ 4 ≤ k ∧ k < 8))) : ∀ (v : fw_V), mf_Mo_pulse_1_j107 v c i k = v c i k := by
  intro v
  unfold mf_Mo_pulse_1_j107
  (try dsimp only)
  all_goals ((repeat' split) <;> (first | with_reducible rfl | (simp only [md1_28 hc hi, md1_29 hc hi, md1_31 hc hi, md1_32 hc hi, md1_33 hc hi, md1_34 hc hi, md1_35 hc hi, md1_36 hc hi, md1_37 hc hi, md1_38 hc hi, md1_39 hc hi, md1_43_3 hc hi, md1_43_4 hc hi, md1_43_5 hc hi, md1_47_4 hc hi, md1_48_4 hc hi, md1_47_5 hc hi, md1_48_5 hc hi, md1_47_6 hc hi, md1_48_6 hc hi, md1_47_7 hc hi, md1_48_7 hc hi, md1_46_6 hc hi, md1_46_7 hc hi, md1_46_8 hc hi, md1_46_9 hc hi, md1_46_10 hc hi, md1_46_11 hc hi, md1_0 hc hi, md1_9 hc hi, md1_44 hc hi, md1_send hc hi, md1_rp0 hc hi, md1_rp1 hc hi, md1_rp2 hc hi, md1_Mo_reply_1 hc hi]; done)))
theorem md1_Mo_pulse_1_j106 {c i k : Nat} (hc : c ≠ 0 ∧ c ≠ 4 ∧ c ≠ 5 ∧ c ≠ 6 ∧ c ≠ 7 ∧ c ≠ 8 ∧ c ≠ 9 ∧ c ≠ 44) (hi : ¬ ((28 ≤ c ∧ c ≤ 39 ∧ k = 1) ∨ (c = 43 ∧ 3 ≤ k ∧ k < 6) ∨ (c = 46 ∧ 6 ≤ k ∧ k < 12) ∨ ((c = 47 ∨ c = 48) ∧ 4 ≤ k ∧ k < 8))) : ∀ (v : fw_V), mf_Mo_pulse_1_j106 v c i k = v c i k := by
  intro v
  unfold mf_Mo_pulse_1_j106
  (try dsimp only)
  all_goals ((repeat' split) <;> (first | with_reducible rfl | (simp only [md1_28 hc hi, md1_29 hc hi, md1_31 hc hi, md1_32 hc hi, md1_33 hc hi, md1_34 hc hi, md1_35 hc hi, md1_36 hc hi, md1_37 hc hi, md1_38 hc hi, md1_39 hc hi, md1_43_3 hc hi, md1_43_4 hc hi, md1_43_5 hc hi, md1_47_4 hc hi, md1_48_4 hc hi, md1_47_5 hc hi, md1_48_5 hc hi, md1_47_6 hc hi, md1_48_6 hc hi, md1_47_7 hc hi, md1_48_7 hc hi, md1_46_6 hc hi, md1_46_7 hc hi, md1_46_8 hc hi, md1_46_9 hc hi, md1_46_10 hc hi, md1_46_11 hc hi, md1_0 hc hi, md1_9 hc hi, md1_44 hc hi, md1_send hc hi, md1_rp0 hc hi, md1_rp1 hc hi, md1_rp2 hc hi, md1_Mo_pulse_1_j107 hc hi]; done)))
theorem md1_Mo_pulse_1_j103 {c i k : Nat} (hc : c ≠ 0 ∧ c ≠ 4 ∧ c ≠ 5 ∧ c ≠ 6 ∧ c ≠ 7 ∧ c ≠ 8 ∧ c ≠ 9 ∧ c ≠ 44) (hi : ¬ ((28 ≤ c ∧ c ≤ 39 ∧ k = 1) ∨ (c = 43 ∧ 3 ≤ k ∧ k < 6) ∨ (c = 46 ∧ 6 ≤ k ∧ k < 12) ∨ ((c = 47 ∨ c = 48) ∧ 4 ≤ k ∧ k < 8))) : ∀ (v : fw_V) (x4 : Int32), mf_Mo_pulse_1_j103 v x4 c i k = v c i k := by
  intro v x4
  unfold mf_Mo_pulse_1_j103
  (try dsimp only)
  all_goals ((repeat' split) <;> (first | with_reducible rfl | (simp only [md1_28 hc hi, md1_29 hc hi, md1_31 hc hi, md1_32 hc hi, md1_33 hc hi, md1_34 hc hi, md1_35 hc hi, md1_36 hc hi, md1_37 hc hi, md1_38 hc hi, md1_39 hc hi, md1_43_3 hc hi, md1_43_4 hc hi, md1_43_5 hc hi, md1_47_4 hc hi, md1_48_4 hc hi, md1_47_5 hc hi, md1_48_5 hc hi, md1_47_6 hc hi, md1_48_6 hc hi, md1_47_7 hc hi, md1_48_7 hc hi, md1_46_6 hc hi, md1_46_7 hc hi, md1_46_8 hc hi, md1_46_9 hc hi, md1_46_10 hc hi, md1_46_11 hc hi, md1_0 hc hi, md1_9 hc hi, md1_44 hc hi, md1_send hc hi, md1_rp0 hc hi, md1_rp1 hc hi, md1_rp2 hc hi, md1_Mo_pulse_1_j104 hc hi, md1_Mo_pulse_1_j106 hc hi]; done)))
theorem md1_Mo_pulse_1_j102 {c i k : Nat} (hc : c ≠ 0 ∧ c ≠ 4 ∧ c ≠ 5 ∧ c ≠ 6 ∧ c ≠ 7 ∧ c ≠ 8 ∧ c ≠ 9 ∧ c ≠ 44) (hi : ¬ ((28 ≤ c ∧ c ≤ 39 ∧ k = 1) ∨ (c = 43 ∧ 3 ≤ k ∧ k < 6) ∨ (c = 46 ∧ 6 ≤ k ∧ k < 12) ∨ ((c = 47 ∨ c = 48) ∧ 4 ≤ k ∧ k < 8))) : ∀ (v : fw_V) (x4 : Int32), mf_Mo_pulse_1_j102 v x4 c i k = v c i k := by
  intro v x4
  unfold mf_Mo_pulse_1_j102
  (try dsimp only)
  all_goals ((repeat' split) <;> (first | with_reducible rfl | (simp only [md1_28 hc hi, md1_29 hc hi, md1_31 hc hi, md1_32 hc hi, md1_33 hc hi, md1_34 hc hi, md1_35 hc hi, md1_36 hc hi, md1_37 hc hi, md1_38 hc hi, md1_39 hc hi, md1_43_3 hc hi, md1_43_4 hc hi, md1_43_5 hc hi, md1_47_4 hc hi, md1_48_4 hc hi, md1_47_5 hc hi, md1_48_5 hc hi, md1_47_6 hc hi, md1_48_6 hc hi, md1_47_7 hc hi, md1_48_7 hc hi, md1_46_6 hc hi, md1_46_7 hc hi, md1_46_8 hc hi, md1_46_9 hc hi, md1_46_10 hc hi, md1_46_11 hc hi, md1_0 hc hi, md1_9 hc hi, md1_44 hc hi, md1_send hc hi, md1_rp0 hc hi, md1_rp1 hc hi, md1_rp2 hc hi, md1_Mo_pulse_1_j103 hc hi]; done)))
theorem md1_Mo_pulse_1_j108 {c i k : Nat} (hc : c ≠ 0 ∧ c ≠ 4 ∧ c ≠ 5 ∧ c ≠ 6 ∧ c ≠ 7 ∧ c ≠ 8 ∧ c ≠ 9 ∧ c ≠ 44) (hi : ¬ ((28 ≤ c ∧ c ≤ 39 ∧ k = 1) ∨ (c = 43 ∧ 3 ≤ k ∧ k < 6) ∨ (c = 46 ∧ 6 ≤ k ∧ k < 12) ∨ ((c = 47 ∨ c = 48) ∧ 4 ≤ k ∧ k < 8))) : ∀ (v : fw_V) (x4 : Int32) (x90 : Int32), mf_Mo_pulse_1_j108 v x4 x90 c i k = v c i k := by
  intro v x4 x90
  unfold mf_Mo_pulse_1_j108
  (try dsimp only)
  all_goals ((repeat' split) <;> (first | with_reducible rfl | (simp only [md1_28 hc hi, md1_29 hc hi, md1_31 hc hi, md1_32 hc hi, md1_33 hc hi, md1_34 hc hi, md1_35 hc hi, md1_36 hc hi, md1_37 hc hi, md1_38 hc hi, md1_39 hc hi, md1_43_3 hc hi, md1_43_4 hc hi, md1_43_5 hc hi, md1_47_4 hc hi, md1_48_4 hc hi, md1_47_5 hc hi, md1_48_5 hc hi, md1_47_6 hc hi, md1_48_6 hc hi, md1_47_7 hc hi, md1_48_7 hc hi, md1_46_6 hc hi, md1_46_7 hc hi, md1_46_8 hc hi, md1_46_9 hc hi, md1_46_10 hc hi, md1_46_11 hc hi, md1_0 hc hi, md1_9 hc hi, md1_44 hc hi, md1_send hc hi, md1_rp0 hc hi, md1_rp1 hc hi, md1_rp2 hc hi, md1_Mo_pulse_1_j104 hc hi, md1_Mo_pulse_1_j106 hc hi]; done)))
theorem md1_Mo_pulse_1_j101 {c i k : Nat} (hc : c ≠ 0 ∧ c ≠ 4 ∧ c ≠ 5 ∧ c ≠ 6 ∧ c ≠ 7 ∧ c ≠ 8 ∧ c ≠ 9 ∧ c ≠ 44) (hi : ¬ ((28 ≤ c ∧ c ≤ 39 ∧ k = 1) ∨ (c = 43 ∧ 3 ≤ k ∧ k < 6) ∨ (c = 46 ∧ 6 ≤ k ∧ k < 12) ∨ ((c = 47 ∨ c = 48) ∧ 4 ≤ k ∧ k < 8))) : ∀ (v : fw_V), mf_Mo_pulse_1_j101 v c i k = v c i k := by
  intro v
  unfold mf_Mo_pulse_1_j101
  (try dsimp only)
  all_goals ((repeat' split) <;> (first | with_reducible rfl | (simp only [md1_28 hc hi, md1_29 hc hi, md1_31 hc hi, md1_32 hc hi, md1_33 hc hi, md1_34 hc hi, md1_35 hc hi, md1_36 hc hi, md1_37 hc hi, md1_38 hc hi, md1_39 hc hi, md1_43_3 hc hi, md1_43_4 hc hi, md1_43_5 hc hi, md1_47_4 hc hi, md1_48_4 hc hi, md1_47_5 hc hi, md1_48_5 hc hi, md1_47_6 hc hi, md1_48_6 hc hi, md1_47_7 hc hi, md1_48_7 hc hi, md1_46_6 hc hi, md1_46_7 hc hi, md1_46_8 hc hi, md1_46_9 hc hi, md1_46_10 hc hi, md1_46_11 hc hi, md1_0 hc hi, md1_9 hc hi, md1_44 hc hi, md1_send hc hi, md1_rp0 hc hi, md1_rp1 hc hi, md1_rp2 hc hi, md1_Mo_pulse_1_j102 hc hi, md1_Mo_pulse_1_j108 hc hi]; done)))
theorem md1_Mo_pulse_1_j100 {c i k : Nat} (hc : c ≠ 0 ∧ c ≠ 4 ∧ c ≠ 5 ∧ c ≠ 6 ∧ c ≠ 7 ∧ c ≠ 8 ∧ c ≠ 9 ∧ c ≠ 44) (hi : ¬ ((28 ≤ c ∧ c ≤ 39 ∧ k = 1) ∨ (c = 43 ∧ 3 ≤ k ∧ k < 6) ∨ (c = 46 ∧ 6 ≤ k ∧ k < 12) ∨ ((c = 47 ∨ c = 48) ∧ 4 ≤ k ∧ k < 8))) : ∀ (v : fw_V), mf_Mo_pulse_1_j100 v c i k = v c i k := by
  intro v
  unfold mf_Mo_pulse_1_j100
  (try dsimp only)
  all_goals ((repeat' split) <;> (first | with_reducible rfl | (simp only [md1_28 hc hi, md1_29 hc hi, md1_31 hc hi, md1_32 hc hi, md1_33 hc hi, md1_34 hc hi, md1_35 hc hi, md1_36 hc hi, md1_37 hc hi, md1_38 hc hi, md1_39 hc hi, md1_43_3 hc hi, md1_43_4 hc hi, md1_43_5 hc hi, md1_47_4 hc hi, md1_48_4 hc hi, md1_47_5 hc hi, md1_48_5 hc hi, md1_47_6 hc hi, md1_48_6 hc hi, md1_47_7 hc hi, md1_48_7 hc hi, md1_46_6 hc hi, md1_46_7 hc hi, md1_46_8 hc hi, md1_46_9 hc hi, md1_46_10 hc hi, md1_46_11 hc hi, md1_0 hc hi, md1_9 hc hi, md1_44 hc hi, md1_send hc hi, md1_rp0 hc hi, md1_rp1 hc hi, md1_rp2 hc hi, md1_Mo_pulse_1_j101 hc hi]; done)))
theorem md1_Mo_pulse_1_j113 {c i k : Nat} (hc : c ≠ 0 ∧ c ≠ 4 ∧ c ≠ 5 ∧ c ≠ 6 ∧ c ≠ 7 ∧ c ≠ 8 ∧ c ≠ 9 ∧ c ≠ 44) (hi : ¬ ((28 ≤ c ∧ c ≤ 39 ∧ k = 1) ∨ (c = 43 ∧ 3 ≤ k ∧ k < 6) ∨ (c = 46 ∧ 6 ≤ k ∧ k < 12) ∨ ((c = 47 ∨ c = 48) ∧ 4 ≤ k ∧ k < 8))) : ∀ (v : fw_V), mf_Mo_pulse_1_j113 v c i k = v c i k := by
  intro v
  unfold mf_Mo_pulse_1_j113
  (try dsimp only)
  all_goals ((repeat' split) <;> (first | with_reducible rfl | (simp only [md1_28 hc hi, md1_29 hc hi, md1_31 hc hi, md1_32 hc hi, md1_33 hc hi, md1_34 hc hi, md1_35 hc hi, md1_36 hc hi, md1_37 hc hi, md1_38 hc hi, md1_39 hc hi, md1_43_3 hc hi, md1_43_4 hc hi, md1_43_5 hc hi, md1_47_4 hc hi, md1_48_4 hc hi, md1_47_5 hc hi, md1_48_5 hc hi, md1_47_6 hc hi, md1_48_6 hc hi, md1_47_7 hc hi, md1_48_7 hc hi, md1_46_6 hc hi, md1_46_7 hc hi, md1_46_8 hc hi, md1_46_9 hc hi, md1_46_10 hc hi, md1_46_11 hc hi, md1_0 hc hi, md1_9 hc hi, md1_44 hc hi, md1_send hc hi, md1_rp0 hc hi, md1_rp1 hc hi, md1_rp2 hc hi, md1_Mo_pulse_1_j107 hc hi]; done)))
theorem md1_Mo_pulse_1_j114 {c i k : Nat} (hc : c ≠ 0 ∧ c ≠ 4 ∧ c ≠ 5 ∧ c ≠ 6 ∧ c ≠ 7 ∧ c ≠ 8 ∧ c ≠ 9 ∧ c ≠ 44) (hi : ¬ ((28 ≤ c ∧ c ≤ 39 ∧ k = 1) ∨ (c = 43 ∧ 3 ≤ k ∧ k < 6) ∨ (c = 46 ∧ 6 ≤ k ∧ k < 12) ∨ ((c = 47 ∨ c = 48) ∧ 4 ≤ k ∧ k < 8))) : ∀ (v : fw_V), mf_Mo_pulse_1_j114 v c i k = v c i k := by
  intro v
  unfold mf_Mo_pulse_1_j114
  (try dsimp only)
  all_goals ((repeat' split) <;> (first | with_reducible rfl | (simp only [md1_28 hc hi, md1_29 hc hi, md1_31 hc hi, md1_32 hc hi, md1_33 hc hi, md1_34 hc hi, md1_35 hc hi, md1_36 hc hi, md1_37 hc hi, md1_38 hc hi, md1_39 hc hi, md1_43_3 hc hi, md1_43_4 hc hi, md1_43_5 hc hi, md1_47_4 hc hi, md1_48_4 hc hi, md1_47_5 hc hi, md1_48_5 hc hi, md1_47_6 hc hi, md1_48_6 hc hi, md1_47_7 hc hi, md1_48_7 hc hi, md1_46_6 hc hi, md1_46_7 hc hi, md1_46_8 hc hi, md1_46_9 hc hi, md1_46_10 hc hi, md1_46_11 hc hi, md1_0 hc hi, md1_9 hc hi, md1_44 hc hi, md1_send hc hi, md1_rp0 hc hi, md1_rp1 hc hi, md1_rp2 hc hi, md1_Mo_pulse_1_j107 hc hi]; done)))
theorem md1_Mo_pulse_1_j112 {c i k : Nat} (hc : c ≠ 0 ∧ c ≠ 4 ∧ c ≠ 5 ∧ c ≠ 6 ∧ c ≠ 7 ∧ c ≠ 8 ∧ c ≠ 9 ∧ c ≠ 44) (hi : ¬ ((28 ≤ c ∧ c ≤ 39 ∧ k = 1) ∨ (c = 43 ∧ 3 ≤ k ∧ k < 6) ∨ (c = 46 ∧ 6 ≤ k ∧ k < 12) ∨ ((c = 47 ∨ c = 48) ∧ 4 ≤ k ∧ k < 8))) : ∀ (v : fw_V) (x4 : Int32), mf_Mo_pulse_1_j112 v x4 c i k = v c i k := by
  intro v x4
  unfold mf_Mo_pulse_1_j112
  (try dsimp only)
  all_goals ((repeat' split) <;> (first | with_reducible rfl | (simp only [md1_28 hc hi, md1_29 hc hi, md1_31 hc hi, md1_32 hc hi, md1_33 hc hi, md1_34 hc hi, md1_35 hc hi, md1_36 hc hi, md1_37 hc hi, md1_38 hc hi, md1_39 hc hi, md1_43_3 hc hi, md1_43_4 hc hi, md1_43_5 hc hi, md1_47_4 hc hi, md1_48_4 hc hi, md1_47_5 hc hi, md1_48_5 hc hi, md1_47_6 hc hi, md1_48_6 hc hi, md1_47_7 hc hi, md1_48_7 hc hi, md1_46_6 hc hi, md1_46_7 hc hi, md1_46_8 hc hi, md1_46_9 hc hi, md1_46_10 hc hi, md1_46_11 hc hi, md1_0 hc hi, md1_9 hc hi, md1_44 hc hi, md1_send hc hi, md1_rp0 hc hi, md1_rp1 hc hi, md1_rp2 hc hi, md1_Mo_pulse_1_j113 hc hi, md1_Mo_pulse_1_j114 hc hi]; done)))
theorem md1_Mo_pulse_1_j111 {c i k : Nat} (hc : c ≠ 0 ∧ c ≠ 4 ∧ c ≠ 5 ∧ c ≠ 6 ∧ c ≠ 7 ∧ c ≠ 8 ∧ c ≠ 9 ∧ c ≠ 44) (hi : ¬ ((28 ≤ c ∧ c ≤ 39 ∧ k = 1) ∨ (c = 43 ∧ 3 ≤ k ∧ k < 6) ∨ (c = 46 ∧ 6 ≤ k ∧ k < 12) ∨ ((c = 47 ∨ c = 48) ∧ 4 ≤ k ∧ k < 8))) : ∀ (v : fw_V) (x4 : Int32), mf_Mo_pulse_1_j111 v x4 c i k = v c i k := by
  intro v x4
  unfold mf_Mo_pulse_1_j111
  (try dsimp only)
  all_goals ((repeat' split) <;> (first | with_reducible rfl | (simp only [md1_28 hc hi, md1_29 hc hi, md1_31 hc hi, md1_32 hc hi, md1_33 hc hi, md1_34 hc hi, md1_35 hc hi, md1_36 hc hi, md1_37 hc hi, md1_38 hc hi, md1_39 hc hi, md1_43_3 hc hi, md1_43_4 hc hi, md1_43_5 hc hi, md1_47_4 hc hi, md1_48_4 hc hi, md1_47_5 hc hi, md1_48_5 hc hi, md1_47_6 hc hi, md1_48_6 hc hi, md1_47_7 hc hi, md1_48_7 hc hi, md1_46_6 hc hi, md1_46_7 hc hi, md1_46_8 hc hi, md1_46_9 hc hi, md1_46_10 hc hi, md1_46_11 hc hi, md1_0 hc hi, md1_9 hc hi, md1_44 hc hi, md1_send hc hi, md1_rp0 hc hi, md1_rp1 hc hi, md1_rp2 hc hi, md1_Mo_pulse_1_j112 hc hi]; done)))
theorem md1_Mo_pulse_1_j115 {c i k : Nat} (hc : c ≠ 0 ∧ c ≠ 4 ∧ c ≠ 5 ∧ c ≠ 6 ∧ c ≠ 7 ∧ c ≠ 8 ∧ c ≠ 9 ∧ c ≠ 44) (hi : ¬ ((28 ≤ c ∧ c ≤ 39 ∧ k = 1) ∨ (c = 43 ∧ 3 ≤ k ∧ k < 6) ∨ (c = 46 ∧ 6 ≤ k ∧ k < 12) ∨ ((c = 47 ∨ c = 48) ∧ 4 ≤ k ∧ k < 8))) : ∀ (v : fw_V) (x4 : Int32) (x90 : Int32), mf_Mo_pulse_1_j115 v x4 x90 c i k = v c i k := by
  intro v x4 x90
  unfold mf_Mo_pulse_1_j115
  (try dsimp only)
  all_goals ((repeat' split) <;> (first | with_reducible rfl | (simp only [md1_28 hc hi, md1_29 hc hi, md1_31 hc hi, md1_32 hc hi, md1_33 hc hi, md1_34 hc hi, md1_35 hc hi, md1_36 hc hi, md1_37 hc hi, md1_38 hc hi, md1_39 hc hi, md1_43_3 hc hi, md1_43_4 hc hi, md1_43_5 hc hi, md1_47_4 hc hi, md1_48_4 hc hi, md1_47_5 hc hi, md1_48_5 hc hi, md1_47_6 hc hi, md1_48_6 hc hi, md1_47_7 hc hi, md1_48_7 hc hi, md1_46_6 hc hi, md1_46_7 hc hi, md1_46_8 hc hi, md1_46_9 hc hi, md1_46_10 hc hi, md1_46_11 hc hi, md1_0 hc hi, md1_9 hc hi, md1_44 hc hi, md1_send hc hi, md1_rp0 hc hi, md1_rp1 hc hi, md1_rp2 hc hi, md1_Mo_pulse_1_j113 hc hi, md1_Mo_pulse_1_j114 hc hi]; done)))
theorem md1_Mo_pulse_1_j110 {c i k : Nat} (hc : c ≠ 0 ∧ c ≠ 4 ∧ c ≠ 5 ∧ c ≠ 6 ∧ c ≠ 7 ∧ c ≠ 8 ∧ c ≠ 9 ∧ c ≠ 44) (hi : ¬ ((28 ≤ c ∧ c ≤ 39 ∧ k = 1) ∨ (c = 43 ∧ 3 ≤ k ∧ k < 6) ∨ (c = 46 ∧ 6 ≤ k ∧ k < 12) ∨ ((c = 47 ∨ c = 48) ∧ 4 ≤ k ∧ k < 8))) : ∀ (v : fw_V), mf_Mo_pulse_1_j110 v c i k = v c i k := by
  intro v
  unfold mf_Mo_pulse_1_j110
  (try dsimp only)
  all_goals ((repeat' split) <;> (first | with_reducible rfl | (simp only [md1_28 hc hi, md1_29 hc hi, md1_31 hc hi, md1_32 hc hi, md1_33 hc hi, md1_34 hc hi, md1_35 hc hi, md1_36 hc hi, md1_37 hc hi, md1_38 hc hi, md1_39 hc hi, md1_43_3 hc hi, md1_43_4 hc hi, md1_43_5 hc hi, md1_47_4 hc hi, md1_48_4 hc hi, md1_47_5 hc hi, md1_48_5 hc hi, md1_47_6 hc hi, md1_48_6 hc hi, md1_47_7 hc hi, md1_48_7 hc hi, md1_46_6 hc hi, md1_46_7 hc hi, md1_46_8 hc hi, md1_46_9 hc hi, md1_46_10 hc hi, md1_46_11 hc hi, md1_0 hc hi, md1_9 hc hi, md1_44 hc hi, md1_send hc hi, md1_rp0 hc hi, md1_rp1 hc hi, md1_rp2 hc hi, md1_Mo_pulse_1_j111 hc hi, md1_Mo_pulse_1_j115 hc hi]; done)))
theorem md1_Mo_pulse_1_j109 {c i k : Nat} (hc : c ≠ 0 ∧ c ≠ 4 ∧ c ≠ 5 ∧ c ≠ 6 ∧ c ≠ 7 ∧ c ≠ 8 ∧ c ≠ 9 ∧ c ≠ 44) (hi : ¬ ((28 ≤ c ∧ c ≤ 39 ∧ k = 1) ∨ (c = 43 ∧ 3 ≤ k ∧ k < 6) ∨ (c = 46 ∧ 6 ≤ k ∧ k < 12) ∨ ((c = 47 ∨ c = 48) ∧ 4 ≤ k ∧ k < 8))) : ∀ (v : fw_V), mf_Mo_pulse_1_j109 v c i k = v c i k := by
  intro v
  unfold mf_Mo_pulse_1_j109
  (try dsimp only)
  all_goals ((repeat' split) <;> (first | with_reducible rfl | (simp only [md1_28 hc hi, md1_29 hc hi, md1_31 hc hi, md1_32 hc hi, md1_33 hc hi, md1_34 hc hi, md1_35 hc hi, md1_36 hc hi, md1_37 hc hi, md1_38 hc hi, md1_39 hc hi, md1_43_3 hc hi, md1_43_4 hc hi, md1_43_5 hc hi, md1_47_4 hc hi, md1_48_4 hc hi, md1_47_5 hc hi, md1_48_5 hc hi, md1_47_6 hc hi, md1_48_6 hc hi, md1_47_7 hc hi, md1_48_7 hc hi, md1_46_6 hc hi, md1_46_7 hc hi, md1_46_8 hc hi, md1_46_9 hc hi, md1_46_10 hc hi, md1_46_11 hc hi, md1_0 hc hi, md1_9 hc hi, md1_44 hc hi, md1_send hc hi, md1_rp0 hc hi, md1_rp1 hc hi, md1_rp2 hc hi, md1_Mo_pulse_1_j110 hc hi]; done)))
theorem md1_Mo_pulse_1_j99 {c i k : Nat} (hc : c ≠ 0 ∧ c ≠ 4 ∧ c ≠ 5 ∧ c ≠ 6 ∧ c ≠ 7 ∧ c ≠ 8 ∧ c ≠ 9 ∧ c ≠ 44) (hi : ¬ ((28 ≤ c ∧ c ≤ 39 ∧ k = 1) ∨ (c = 43 ∧ 3 ≤ k ∧ k < 6) ∨ (c = 46 ∧ 6 ≤ k ∧ k < 12) ∨ ((c = 47 ∨ c = 48) ∧ 4 ≤ k ∧ k < 8))) : ∀ (v : fw_V) (x4 : Int32), mf_Mo_pulse_1_j99 v x4 c i k = v c i k := by
  intro v x4
  unfold mf_Mo_pulse_1_j99
  (try dsimp only)
  all_goals ((repeat' split) <;> (first | with_reducible rfl | (simp only [md1_28 hc hi, md1_29 hc hi, md1_31 hc hi, md1_32 hc hi, md1_33 hc hi, md1_34 hc hi, md1_35 hc hi, md1_36 hc hi, md1_37 hc hi, md1_38 hc hi, md1_39 hc hi, md1_43_3 hc hi, md1_43_4 hc hi, md1_43_5 hc hi, md1_47_4 hc hi, md1_48_4 hc hi, md1_47_5 hc hi, md1_48_5 hc hi, md1_47_6 hc hi, md1_48_6 hc hi, md1_47_7 hc hi, md1_48_7 hc hi, md1_46_6 hc hi, md1_46_7 hc hi, md1_46_8 hc hi, md1_46_9 hc hi, md1_46_10 hc hi, md1_46_11 hc hi, md1_0 hc hi, md1_9 hc hi, md1_44 hc hi, md1_send hc hi, md1_rp0 hc hi, md1_rp1 hc hi, md1_rp2 hc hi, md1_Mo_pulse_1_j100 hc hi, md1_Mo_pulse_1_j109 hc hi]; done)))
theorem md1_Mo_pulse_1_j98 {c i k : Nat} (hc : c ≠ 0 ∧ c ≠ 4 ∧ c ≠ 5 ∧ c ≠ 6 ∧ c ≠ 7 ∧ c ≠ 8 ∧ c ≠ 9 ∧ c ≠ 44) (hi : ¬ ((28 ≤ c ∧ c ≤ 39 ∧ k = 1) ∨ (c = 43 ∧ 3 ≤ k ∧ k < 6) ∨ (c = 46 ∧ 6 ≤ k ∧ k < 12) ∨ ((c = 47 ∨ c = 48) ∧ 4 ≤ k ∧ k < 8))) : ∀ (v : fw_V) (x4 : Int32), mf_Mo_pulse_1_j98 v x4 c i k = v c i k := by
  intro v x4
  unfold mf_Mo_pulse_1_j98
  (try dsimp only)
  all_goals ((repeat' split) <;> (first | with_reducible rfl | (simp only [md1_28 hc hi, md1_29 hc hi, md1_31 hc hi, md1_32 hc hi, md1_33 hc hi, md1_34 hc hi, md1_35 hc hi, md1_36 hc hi, md1_37 hc hi, md1_38 hc hi, md1_39 hc hi, md1_43_3 hc hi, md1_43_4 hc hi, md1_43_5 hc hi, md1_47_4 hc hi, md1_48_4 hc hi, md1_47_5 hc hi, md1_48_5 hc hi, md1_47_6 hc hi, md1_48_6 hc hi, md1_47_7 hc hi, md1_48_7 hc hi, md1_46_6 hc hi, md1_46_7 hc hi, md1_46_8 hc hi, md1_46_9 hc hi, md1_46_10 hc hi, md1_46_11 hc hi, md1_0 hc hi, md1_9 hc hi, md1_44 hc hi, md1_send hc hi, md1_rp0 hc hi, md1_rp1 hc hi, md1_rp2 hc hi, md1_Mo_pulse_1_j99 hc hi]; done)))
theorem md1_Mo_pulse_1_j116 {c i k : Nat} (hc : c ≠ 0 ∧ c ≠ 4 ∧ c ≠ 5 ∧ c ≠ 6 ∧ c ≠ 7 ∧ c ≠ 8 ∧ c ≠ 9 ∧ c ≠ 44) (hi : ¬ ((28 ≤ c ∧ c ≤ 39 ∧ k = 1) ∨ (c = 43 ∧ 3 ≤ k ∧ k < 6) ∨ (c = 46 ∧ 6 ≤ k ∧ k < 12) ∨ ((c = 47 ∨ c = 48) ∧ 4 ≤ k ∧ k < 8))) : ∀ (v : fw_V) (x4 : Int32) (x90 : Int32), mf_Mo_pulse_1_j116 v x4 x90 c i k = v c i k := by
  intro v x4 x90
  unfold mf_Mo_pulse_1_j116
  (try dsimp only)
  all_goals ((repeat' split) <;> (first | with_reducible rfl | (simp only [md1_28 hc hi, md1_29 hc hi, md1_31 hc hi, md1_32 hc hi, md1_33 hc hi, md1_34 hc hi, md1_35 hc hi, md1_36 hc hi, md1_37 hc hi, md1_38 hc hi, md1_39 hc hi, md1_43_3 hc hi, md1_43_4 hc hi, md1_43_5 hc hi, md1_47_4 hc hi, md1_48_4 hc hi, md1_47_5 hc hi, md1_48_5 hc hi, md1_47_6 hc hi, md1_48_6 hc hi, md1_47_7 hc hi, md1_48_7 hc hi, md1_46_6 hc hi, md1_46_7 hc hi, md1_46_8 hc hi, md1_46_9 hc hi, md1_46_10 hc hi, md1_46_11 hc hi, md1_0 hc hi, md1_9 hc hi, md1_44 hc hi, md1_send hc hi, md1_rp0 hc hi, md1_rp1 hc hi, md1_rp2 hc hi, md1_Mo_pulse_1_j100 hc hi, md1_Mo_pulse_1_j109 hc hi]; done)))
theorem md1_Mo_pulse_1_j97 {c i k : Nat} (hc : c ≠ 0 ∧ c ≠ 4 ∧ c ≠ 5 ∧ c ≠ 6 ∧ c ≠ 7 ∧ c ≠ 8 ∧ c ≠ 9 ∧ c ≠ 44) (hi : ¬ ((28 ≤ c ∧ c ≤ 39 ∧ k = 1) ∨ (c = 43 ∧ 3 ≤ k ∧ k < 6) ∨ (c = 46 ∧ 6 ≤ k ∧ k < 12) ∨ ((c = 47 ∨ c = 48) ∧ 4 ≤ k ∧ k < 8))) : ∀ (v : fw_V), mf_Mo_pulse_1_j97 v c i k = v c i k := by
  intro v
  unfold mf_Mo_pulse_1_j97
  (try dsimp only)
  all_goals ((repeat' split) <;> (first | with_reducible rfl | (simp only [md1_28 hc hi, md1_29 hc hi, md1_31 hc hi, md1_32 hc hi, md1_33 hc hi, md1_34 hc hi, md1_35 hc hi, md1_36 hc hi, md1_37 hc hi, md1_38 hc hi, md1_39 hc hi, md1_43_3 hc hi, md1_43_4 hc hi, md1_43_5 hc hi, md1_47_4 hc hi, md1_48_4 hc hi, md1_47_5 hc hi, md1_48_5 hc hi, md1_47_6 hc hi, md1_48_6 hc hi, md1_47_7 hc hi, md1_48_7 hc hi, md1_46_6 hc hi, md1_46_7 hc hi, md1_46_8 hc hi, md1_46_9 hc hi, md1_46_10 hc hi, md1_46_11 hc hi, md1_0 hc hi, md1_9 hc hi, md1_44 hc hi, md1_send hc hi, md1_rp0 hc hi, md1_rp1 hc hi, md1_rp2 hc hi, md1_Mo_pulse_1_j98 hc hi, md1_Mo_pulse_1_j116 hc hi]; done)))
theorem md1_Mo_pulse_1_j96 {c i k : Nat} (hc : c ≠ 0 ∧ c ≠ 4 ∧ c ≠ 5 ∧ c ≠ 6 ∧ c ≠ 7 ∧ c ≠ 8 ∧ c ≠ 9 ∧ c ≠ 44) (hi : ¬ ((28 ≤ c ∧ c ≤ 39 ∧ k = 1) ∨ (c = 43 ∧ 3 ≤ k ∧ k < 6) ∨ (c = 46 ∧ 6 ≤ k ∧ k < 12) ∨ ((c = 47 ∨ c = 48) ∧ 4 ≤ k ∧ k < 8))) : ∀ (v : fw_V), mf_Mo_pulse_1_j96 v c i k = v c i k := by
  intro v
  unfold mf_Mo_pulse_1_j96
  (try dsimp only)
  all_goals ((repeat' split) <;> (first | with_reducible rfl | (simp only [md1_28 hc hi, md1_29 hc hi, md1_31 hc hi, md1_32 hc hi, md1_33 hc hi, md1_34 hc hi, md1_35 hc hi, md1_36 hc hi, md1_37 hc hi, md1_38 hc hi, md1_39 hc hi, md1_43_3 hc hi, md1_43_4 hc hi, md1_43_5 hc hi, md1_47_4 hc hi, md1_48_4 hc hi, md1_47_5 hc hi, md1_48_5 hc hi, md1_47_6 hc hi, md1_48_6 hc hi, md1_47_7 hc hi, md1_48_7 hc hi, md1_46_6 hc hi, md1_46_7 hc hi, md1_46_8 hc hi, md1_46_9 hc hi, md1_46_10 hc hi, md1_46_11 hc hi, md1_0 hc hi, md1_9 hc hi, md1_44 hc hi, md1_send hc hi, md1_rp0 hc hi, md1_rp1 hc hi, md1_rp2 hc hi, md1_Mo_pulse_1_j97 hc hi]; done)))
theorem md1_Mo_pulse_1_j74 {c i k : Nat} (hc : c ≠ 0 ∧ c ≠ 4 ∧ c ≠ 5 ∧ c ≠ 6 ∧ c ≠ 7 ∧ c ≠ 8 ∧ c ≠ 9 ∧ c ≠ 44) (hi : ¬ ((28 ≤ c ∧ c ≤ 39 ∧ k = 1) ∨ (c = 43 ∧ 3 ≤ k ∧ k < 6) ∨ (c = 46 ∧ 6 ≤ k ∧ k < 12) ∨ ((c = 47 ∨ c = 48) ∧ 4 ≤ k ∧ k < 8))) : ∀ (v : fw_V) (x4 : Int32), mf_Mo_pulse_1_j74 v x4 c i k = v c i k := by
  intro v x4
  unfold mf_Mo_pulse_1_j74
  (try dsimp only)
  all_goals ((repeat' split) <;> (first | with_reducible rfl | (simp only [md1_28 hc hi, md1_29 hc hi, md1_31 hc hi, md1_32 hc hi, md1_33 hc hi, md1_34 hc hi, md1_35 hc hi, md1_36 hc hi, md1_37 hc hi, md1_38 hc hi, md1_39 hc hi, md1_43_3 hc hi, md1_43_4 hc hi, md1_43_5 hc hi, md1_47_4 hc hi, md1_48_4 hc hi, md1_47_5 hc hi, md1_48_5 hc hi, md1_47_6 hc hi, md1_48_6 hc hi, md1_47_7 hc hi, md1_48_7 hc hi, md1_46_6 hc hi, md1_46_7 hc hi, md1_46_8 hc hi, md1_46_9 hc hi, md1_46_10 hc hi, md1_46_11 hc hi, md1_0 hc hi, md1_9 hc hi, md1_44 hc hi, md1_send hc hi, md1_rp0 hc hi, md1_rp1 hc hi, md1_rp2 hc hi, md1_Mo_pulse_1_j75 hc hi, md1_Mo_pulse_1_j96 hc hi]; done)))
theorem md1_Mo_pulse_1_j73 {c i k : Nat} (hc : c ≠ 0 ∧ c ≠ 4 ∧ c ≠ 5 ∧ c ≠ 6 ∧ c ≠ 7 ∧ c ≠ 8 ∧ c ≠ 9 ∧ c ≠ 44) (hi : ¬ ((28 ≤ c ∧ c ≤ 39 ∧ k = 1) ∨ (c = 43 ∧ 3 ≤ k ∧ k < 6) ∨ (c = 46 ∧ 6 ≤ k ∧ k < 12) ∨ ((c = 47 ∨ c = 48) ∧ 4 ≤ k ∧ k < 8))) : ∀ (v : fw_V) (x4 : Int32), mf_Mo_pulse_1_j73 v x4 c i k = v c i k := by
  intro v x4
  unfold mf_Mo_pulse_1_j73
  (try dsimp only)
  all_goals ((repeat' split) <;> (first | with_reducible rfl | (simp only [md1_28 hc hi, md1_29 hc hi, md1_31 hc hi, md1_32 hc hi, md1_33 hc hi, md1_34 hc hi, md1_35 hc hi, md1_36 hc hi, md1_37 hc hi, md1_38 hc hi, md1_39 hc hi, md1_43_3 hc hi, md1_43_4 hc hi, md1_43_5 hc hi, md1_47_4 hc hi, md1_48_4 hc hi, md1_47_5 hc hi, md1_48_5 hc hi, md1_47_6 hc hi, md1_48_6 hc hi, md1_47_7 hc hi, md1_48_7 hc hi, md1_46_6 hc hi, md1_46_7 hc hi, md1_46_8 hc hi, md1_46_9 hc hi, md1_46_10 hc hi, md1_46_11 hc hi, md1_0 hc hi, md1_9 hc hi, md1_44 hc hi, md1_send hc hi, md1_rp0 hc hi, md1_rp1 hc hi, md1_rp2 hc hi, md1_Mo_pulse_1_j74 hc hi]; done)))
theorem md1_Mo_pulse_1_j117 {c i k : Nat} (hc : c ≠ 0 ∧ c ≠ 4 ∧ c ≠ 5 ∧ c ≠ 6 ∧ c ≠ 7 ∧ c ≠ 8 ∧ c ≠ 9 ∧ c ≠ 44) (hi : ¬ ((28 ≤ c ∧ c ≤ 39 ∧ k = 1) ∨ (c = 43 ∧ 3 ≤ k ∧ k < 6) ∨ (c = 46 ∧ 6 ≤ k ∧ k < 12) ∨ ((c = 47 ∨ c = 48) ∧ 4 ≤ k ∧ k < 8))) : ∀ (v : fw_V) (x4 : Int32) (x90 : Int32), mf_Mo_pulse_1_j117 v x4 x90 c i k = v c i k := by
  intro v x4 x90
  unfold mf_Mo_pulse_1_j117
  (try dsimp only)
  all_goals ((repeat' split) <;> (first | with_reducible rfl | (simp only [md1_28 hc hi, md1_29 hc hi, md1_31 hc hi, md1_32 hc hi, md1_33 hc hi, md1_34 hc hi, md1_35 hc hi, md1_36 hc hi, md1_37 hc hi, md1_38 hc hi, md1_39 hc hi, md1_43_3 hc hi, md1_43_4 hc hi, md1_43_5 hc hi, md1_47_4 hc hi, md1_48_4 hc hi, md1_47_5 hc hi, md1_48_5 hc hi, md1_47_6 hc hi, md1_48_6 hc hi, md1_47_7 hc hi, md1_48_7 hc hi, md1_46_6 hc hi, md1_46_7 hc hi, md1_46_8 hc hi, md1_46_9 hc hi, md1_46_10 hc hi, md1_46_11 hc hi, md1_0 hc hi, md1_9 hc hi, md1_44 hc hi, md1_send hc hi, md1_rp0 hc hi, md1_rp1 hc hi, md1_rp2 hc hi, md1_Mo_pulse_1_j75 hc hi, md1_Mo_pulse_1_j96 hc hi]; done)))
theorem md1_Mo_pulse_1_j72 {c i k : Nat} (hc : c ≠ 0 ∧ c ≠ 4 ∧ c ≠ 5 ∧ c ≠ 6 ∧ c ≠ 7 ∧ c ≠ 8 ∧ c ≠ 9 ∧ c ≠ 44) (hi : ¬ ((28 ≤ c ∧ c ≤ 39 ∧ k = 1) ∨ (c = 43 ∧ 3 ≤ k ∧ k < 6) ∨ (c = 46 ∧ 6 ≤ k ∧ k < 12) ∨ ((c = 47 ∨ c = 48) ∧ 4 ≤ k ∧ k < 8))) : ∀ (v : fw_V), mf_Mo_pulse_1_j72 v c i k = v c i k := by
  intro v
  unfold mf_Mo_pulse_1_j72
  (try dsimp only)
  all_goals ((repeat' split) <;> (first | with_reducible rfl | (simp only [md1_28 hc hi, md1_29 hc hi, md1_31 hc hi, md1_32 hc hi, md1_33 hc hi, md1_34 hc hi, md1_35 hc hi, md1_36 hc hi, md1_37 hc hi, md1_38 hc hi, md1_39 hc hi, md1_43_3 hc hi, md1_43_4 hc hi, md1_43_5 hc hi, md1_47_4 hc hi, md1_48_4 hc hi, md1_47_5 hc hi, md1_48_5 hc hi, md1_47_6 hc hi, md1_48_6 hc hi, md1_47_7 hc hi, md1_48_7 hc hi, md1_46_6 hc hi, md1_46_7 hc hi, md1_46_8 hc hi, md1_46_9 hc hi, md1_46_10 hc hi, md1_46_11 hc hi, md1_0 hc hi, md1_9 hc hi, md1_44 hc hi, md1_send hc hi, md1_rp0 hc hi, md1_rp1 hc hi, md1_rp2 hc hi, md1_Mo_pulse_1_j73 hc hi, md1_Mo_pulse_1_j117 hc hi]; done)))
theorem md1_Mo_pulse_1_j71 {c i k : Nat} (hc : c ≠ 0 ∧ c ≠ 4 ∧ c ≠ 5 ∧ c ≠ 6 ∧ c ≠ 7 ∧ c ≠ 8 ∧ c ≠ 9 ∧ c ≠ 44) (hi : ¬ ((28 ≤ c ∧ c ≤ 39 ∧ k = 1) ∨ (c = 43 ∧ 3 ≤ k ∧ k < 6) ∨ (c = 46 ∧ 6 ≤ k ∧ k < 12) ∨ ((c = 47 ∨ c = 48) ∧ 4 ≤ k ∧ k < 8))) : ∀ (v : fw_V), mf_Mo_pulse_1_j71 v c i k = v c i k := by
  intro v
  unfold mf_Mo_pulse_1_j71
  (try dsimp only)
  all_goals ((repeat' split) <;> (first | with_reducible rfl | (simp only [md1_28 hc hi, md1_29 hc hi, md1_31 hc hi, md1_32 hc hi, md1_33 hc hi, md1_34 hc hi, md1_35 hc hi, md1_36 hc hi, md1_37 hc hi, md1_38 hc hi, md1_39 hc hi, md1_43_3 hc hi, md1_43_4 hc hi, md1_43_5 hc hi, md1_47_4 hc hi, md1_48_4 hc hi, md1_47_5 hc hi, md1_48_5 hc hi, md1_47_6 hc hi, md1_48_6 hc hi, md1_47_7 hc hi, md1_48_7 hc hi, md1_46_6 hc hi, md1_46_7 hc hi, md1_46_8 hc hi, md1_46_9 hc hi, md1_46_10 hc hi, md1_46_11 hc hi, md1_0 hc hi, md1_9 hc hi, md1_44 hc hi, md1_send hc hi, md1_rp0 hc hi, md1_rp1 hc hi, md1_rp2 hc hi, md1_Mo_pulse_1_j72 hc hi]; done)))
theorem md1_Mo_pulse_1_j122 {c i k : Nat} (hc : c ≠ 0 ∧ c ≠ 4 ∧ c ≠ 5 ∧ c ≠ 6 ∧ c ≠ 7 ∧ c ≠ 8 ∧ c ≠ 9 ∧ c ≠ 44) (hi : ¬ ((28 ≤ c ∧ c ≤ 39 ∧ k = 1) ∨ (c = 43 ∧ 3 ≤ k ∧ k < 6) ∨ (c = 46 ∧ 6 ≤ k ∧ k < 12) ∨ ((c = 47 ∨ c = 48) ∧ 4 ≤ k ∧ k < 8))) : ∀ (v : fw_V), mf_Mo_pulse_1_j122 v c i k = v c i k := by
  intro v
  unfold mf_Mo_pulse_1_j122
  (try dsimp only)
  all_goals ((repeat' split) <;> (first | with_reducible rfl | (simp only [md1_28 hc hi, md1_29 hc hi, md1_31 hc hi, md1_32 hc hi, md1_33 hc hi, md1_34 hc hi, md1_35 hc hi, md1_36 hc hi, md1_37 hc hi, md1_38 hc hi, md1_39 hc hi, md1_43_3 hc hi, md1_43_4 hc hi, md1_43_5 hc hi, md1_47_4 hc hi, md1_48_4 hc hi, md1_47_5 hc hi, md1_48_5 hc hi, md1_47_6 hc hi, md1_48_6 hc hi, md1_47_7 hc hi, md1_48_7 hc hi, md1_46_6 hc hi, md1_46_7 hc hi, md1_46_8 hc hi, md1_46_9 hc hi, md1_46_10 hc hi, md1_46_11 hc hi, md1_0 hc hi, md1_9 hc hi, md1_44 hc hi, md1_send hc hi, md1_rp0 hc hi, md1_rp1 hc hi, md1_rp2 hc hi, md1_Mo_pulse_1_j97 hc hi]; done)))
theorem md1_Mo_pulse_1_j123 {c i k : Nat} (hc : c ≠ 0 ∧ c ≠ 4 ∧ c ≠ 5 ∧ c ≠ 6 ∧ c ≠ 7 ∧ c ≠ 8 ∧ c ≠ 9 ∧ c ≠ 44) (hi : ¬ ((28 ≤ c ∧ c ≤ 39 ∧ k = 1) ∨ (c = 43 ∧ 3 ≤ k ∧ k < 6) ∨ (c = 46 ∧ 6 ≤ k ∧ k < 12) ∨ ((c = 47 ∨ c = 48) ∧ 4 ≤ k ∧ k < 8))) : ∀ (v : fw_V), mf_Mo_pulse_1_j123 v c i k = v c i k := by
  intro v
  unfold mf_Mo_pulse_1_j123
  (try dsimp only)
  all_goals ((repeat' split) <;> (first | with_reducible rfl | (simp only [md1_28 hc hi, md1_29 hc hi, md1_31 hc hi, md1_32 hc hi, md1_33 hc hi, md1_34 hc hi, md1_35 hc hi, md1_36 hc hi, md1_37 hc hi, md1_38 hc hi, md1_39 hc hi, md1_43_3 hc hi, md1_43_4 hc hi, md1_43_5 hc hi, md1_47_4 hc hi, md1_48_4 hc hi, md1_47_5 hc hi, md1_48_5 hc hi, md1_47_6 hc hi, md1_48_6 hc hi, md1_47_7 hc hi, md1_48_7 hc hi, md1_46_6 hc hi, md1_46_7 hc hi, md1_46_8 hc hi, md1_46_9 hc hi, md1_46_10 hc hi, md1_46_11 hc hi, md1_0 hc hi, md1_9 hc hi, md1_44 hc hi, md1_send hc hi, md1_rp0 hc hi, md1_rp1 hc hi, md1_rp2 hc hi, md1_Mo_pulse_1_j97 hc hi]; done)))
theorem md1_Mo_pulse_1_j121 {c i k : Nat} (hc : c ≠ 0 ∧ c ≠ 4 ∧ c ≠ 5 ∧ c ≠ 6 ∧ c ≠ 7 ∧ c ≠ 8 ∧ c ≠ 9 ∧ c ≠ 44) (hi : ¬ ((28 ≤ c ∧ c ≤ 39 ∧ k = 1) ∨ (c = 43 ∧ 3 ≤ k ∧ k < 6) ∨ (c = 46 ∧ 6 ≤ k ∧ k < 12) ∨ ((c = 47 ∨ c = 48) ∧ 4 ≤ k ∧ k < 8))) : ∀ (v : fw_V) (x4 : Int32), mf_Mo_pulse_1_j121 v x4 c i k = v c i k := by
  intro v x4
  unfold mf_Mo_pulse_1_j121
  (try dsimp only)
  all_goals ((repeat' split) <;> (first | with_reducible rfl | (simp only [md1_28 hc hi, md1_29 hc hi, md1_31 hc hi, md1_32 hc hi, md1_33 hc hi, md1_34 hc hi, md1_35 hc hi, md1_36 hc hi, md1_37 hc hi, md1_38 hc hi, md1_39 hc hi, md1_43_3 hc hi, md1_43_4 hc hi, md1_43_5 hc hi, md1_47_4 hc hi, md1_48_4 hc hi, md1_47_5 hc hi, md1_48_5 hc hi, md1_47_6 hc hi, md1_48_6 hc hi, md1_47_7 hc hi, md1_48_7 hc hi, md1_46_6 hc hi, md1_46_7 hc hi, md1_46_8 hc hi, md1_46_9 hc hi, md1_46_10 hc hi, md1_46_11 hc hi, md1_0 hc hi, md1_9 hc hi, md1_44 hc hi, md1_send hc hi, md1_rp0 hc hi, md1_rp1 hc hi, md1_rp2 hc hi, md1_Mo_pulse_1_j122 hc hi, md1_Mo_pulse_1_j123 hc hi]; done)))
theorem md1_Mo_pulse_1_j120 {c i k : Nat} (hc : c ≠ 0 ∧ c ≠ 4 ∧ c ≠ 5 ∧ c ≠ 6 ∧ c ≠ 7 ∧ c ≠ 8 ∧ c ≠ 9 ∧ c ≠ 44) (hi : ¬ ((28 ≤ c ∧ c ≤ 39 ∧ k = 1) ∨ (c = 43 ∧ 3 ≤ k ∧ k < 6) ∨ (c = 46 ∧ 6 ≤ k ∧ k < 12) ∨ ((c = 47 ∨ c = 48) ∧ 4 ≤ k ∧ k < 8))) : ∀ (v : fw_V) (x4 : Int32), mf_Mo_pulse_1_j120 v x4 c i k = v c i k := by
  intro v x4
  unfold mf_Mo_pulse_1_j120
  (try dsimp only)
  all_goals ((repeat' split) <;> (first | with_reducible rfl | (simp only [md1_28 hc hi, md1_29 hc hi, md1_31 hc hi, md1_32 hc hi, md1_33 hc hi, md1_34 hc hi, md1_35 hc hi, md1_36 hc hi, md1_37 hc hi, md1_38 hc hi, md1_39 hc hi, md1_43_3 hc hi, md1_43_4 hc hi, md1_43_5 hc hi, md1_47_4 hc hi, md1_48_4 hc hi, md1_47_5 hc hi, md1_48_5 hc hi, md1_47_6 hc hi, md1_48_6 hc hi, md1_47_7 hc hi, md1_48_7 hc hi, md1_46_6 hc hi, md1_46_7 hc hi, md1_46_8 hc hi, md1_46_9 hc hi, md1_46_10 hc hi, md1_46_11 hc hi, md1_0 hc hi, md1_9 hc hi, md1_44 hc hi, md1_send hc hi, md1_rp0 hc hi, md1_rp1 hc hi, md1_rp2 hc hi, md1_Mo_pulse_1_j121 hc hi]; done)))
theorem md1_Mo_pulse_1_j124 {c i k : Nat} (hc : c ≠ 0 ∧ c ≠ 4 ∧ c ≠ 5 ∧ c ≠ 6 ∧ c ≠ 7 ∧ c ≠ 8 ∧ c ≠ 9 ∧ c ≠ 44) (hi : ¬ ((28 ≤ c ∧ c ≤ 39 ∧ k = 1) ∨ (c = 43 ∧ 3 ≤ k ∧ k < 6) ∨ (c = 46 ∧ 6 ≤ k ∧ k < 12) ∨ ((c = 47 ∨ c = 48) ∧ 4 ≤ k ∧ k < 8))) : ∀ (v : fw_V) (x4 : Int32) (x90 : Int32), mf_Mo_pulse_1_j124 v x4 x90 c i k = v c i k := by
  intro v x4 x90
  unfold mf_Mo_pulse_1_j124
  (try dsimp only)
  all_goals ((repeat' split) <;> (first | with_reducible rfl | (simp only [md1_28 hc hi, md1_29 hc hi, md1_31 hc hi, md1_32 hc hi, md1_33 hc hi, md1_34 hc hi, md1_35 hc hi, md1_36 hc hi, md1_37 hc hi, md1_38 hc hi, md1_39 hc hi, md1_43_3 hc hi, md1_43_4 hc hi, md1_43_5 hc hi, md1_47_4 hc hi, md1_48_4 hc hi, md1_47_5 hc hi, md1_48_5 hc hi, md1_47_6 hc hi, md1_48_6 hc hi, md1_47_7 hc hi, md1_48_7 hc hi, md1_46_6 hc hi, md1_46_7 hc hi, md1_46_8 hc hi, md1_46_9 hc hi, md1_46_10 hc hi, md1_46_11 hc hi, md1_0 hc hi, md1_9 hc hi, md1_44 hc hi, md1_send hc hi, md1_rp0 hc hi, md1_rp1 hc hi, md1_rp2 hc hi, md1_Mo_pulse_1_j122 hc hi, md1_Mo_pulse_1_j123 hc hi]; done)))
theorem md1_Mo_pulse_1_j119 {c i k : Nat} (hc : c ≠ 0 ∧ c ≠ 4 ∧ c ≠ 5 ∧ c ≠ 6 ∧ c ≠ 7 ∧ c ≠ 8 ∧ c ≠ 9 ∧ c ≠ 44) (hi : ¬ ((28 ≤ c ∧ c ≤ 39 ∧ k = 1) ∨ (c = 43 ∧ 3 ≤ k ∧ k < 6) ∨ (c = 46 ∧ 6 ≤ k ∧ k < 12) ∨ ((c = 47 ∨ c = 48) ∧ 4 ≤ k ∧ k < 8))) : ∀ (v : fw_V), mf_Mo_pulse_1_j119 v c i k = v c i k := by
  intro v
  unfold mf_Mo_pulse_1_j119
  (try dsimp only)
  all_goals ((repeat' split) <;> (first | with_reducible rfl | (simp only [md1_28 hc hi, md1_29 hc hi, md1_31 hc hi, md1_32 hc hi, md1_33 hc hi, md1_34 hc hi, md1_35 hc hi, md1_36 hc hi, md1_37 hc hi, md1_38 hc hi, md1_39 hc hi, md1_43_3 hc hi, md1_43_4 hc hi, md1_43_5 hc hi, md1_47_4 hc hi, md1_48_4 hc hi, md1_47_5 hc hi, md1_48_5 hc hi, md1_47_6 hc hi, md1_48_6 hc hi, md1_47_7 hc hi, md1_48_7 hc hi, md1_46_6 hc hi, md1_46_7 hc hi, md1_46_8 hc hi, md1_46_9 hc hi, md1_46_10 hc hi, md1_46_11 hc hi, md1_0 hc hi, md1_9 hc hi, md1_44 hc hi, md1_send hc hi, md1_rp0 hc hi, md1_rp1 hc hi, md1_rp2 hc hi, md1_Mo_pulse_1_j120 hc hi, md1_Mo_pulse_1_j124 hc hi]; done)))
theorem md1_Mo_pulse_1_j118 {c i k : Nat} (hc : c ≠ 0 ∧ c ≠ 4 ∧ c ≠ 5 ∧ c ≠ 6 ∧ c ≠ 7 ∧ c ≠ 8 ∧ c ≠ 9 ∧ c ≠ 44) (hi : ¬ ((28 ≤ c ∧ c ≤ 39 ∧ k = 1) ∨ (c = 43 ∧ 3 ≤ k ∧ k < 6) ∨ (c = 46 ∧ 6 ≤ k ∧ k < 12) ∨ ((c = 47 ∨ c = 48) ∧ 4 ≤ k ∧ k < 8))) : ∀ (v : fw_V), mf_Mo_pulse_1_j118 v c i k = v c i k := by
  intro v
  unfold mf_Mo_pulse_1_j118
  (try dsimp only)
  all_goals ((repeat' split) <;> (first | with_reducible rfl | (simp only [md1_28 hc hi, md1_29 hc hi, md1_31 hc hi, md1_32 hc hi, md1_33 hc hi, md1_34 hc hi, md1_35 hc hi, md1_36 hc hi, md1_37 hc hi, md1_38 hc hi, md1_39 hc hi, md1_43_3 hc hi, md1_43_4 hc hi, md1_43_5 hc hi, md1_47_4 hc hi, md1_48_4 hc hi, md1_47_5 hc hi, md1_48_5 hc hi, md1_47_6 hc hi, md1_48_6 hc hi, md1_47_7 hc hi, md1_48_7 hc hi, md1_46_6 hc hi, md1_46_7 hc hi, md1_46_8 hc hi, md1_46_9 hc hi, md1_46_10 hc hi, md1_46_11 hc hi, md1_0 hc hi, md1_9 hc hi, md1_44 hc hi, md1_send hc hi, md1_rp0 hc hi, md1_rp1 hc hi, md1_rp2 hc hi, md1_Mo_pulse_1_j119 hc hi]; done)))
theorem md1_Mo_pulse_1_j70 {c i k : Nat} (hc : c ≠ 0 ∧ c ≠ 4 ∧ c ≠ 5 ∧ c ≠ 6 ∧ c ≠ 7 ∧ c ≠ 8 ∧ c ≠ 9 ∧ c ≠ 44) (hi : ¬ ((28 ≤ c ∧ c ≤ 39 ∧ k = 1) ∨ (c = 43 ∧ 3 ≤ k ∧ k < 6) ∨ (c = 46 ∧ 6 ≤ k ∧ k < 12) ∨ ((c = 47 ∨ c = 48) ∧ 4 ≤ k ∧ k < 8))) : ∀ (v : fw_V) (x4 : Int32), mf_Mo_pulse_1_j70 v x4 c i k = v c i k := by
  intro v x4
  unfold mf_Mo_pulse_1_j70
  (try dsimp only)
  all_goals ((repeat' split) <;> (first | with_reducible rfl | (simp only [md1_28 hc hi, md1_29 hc hi, md1_31 hc hi, md1_32 hc hi, md1_33 hc hi, md1_34 hc hi, md1_35 hc hi, md1_36 hc hi, md1_37 hc hi, md1_38 hc hi, md1_39 hc hi, md1_43_3 hc hi, md1_43_4 hc hi, md1_43_5 hc hi, md1_47_4 hc hi, md1_48_4 hc hi, md1_47_5 hc hi, md1_48_5 hc hi, md1_47_6 hc hi, md1_48_6 hc hi, md1_47_7 hc hi, md1_48_7 hc hi, md1_46_6 hc hi, md1_46_7 hc hi, md1_46_8 hc hi, md1_46_9 hc hi, md1_46_10 hc hi, md1_46_11 hc hi, md1_0 hc hi, md1_9 hc hi, md1_44 hc hi, md1_send hc hi, md1_rp0 hc hi, md1_rp1 hc hi, md1_rp2 hc hi, md1_Mo_pulse_1_j71 hc hi, md1_Mo_pulse_1_j118 hc hi]; done)))
theorem md1_Mo_pulse_1_j69 {c i k : Nat} (hc : c ≠ 0 ∧ c ≠ 4 ∧ c ≠ 5 ∧ c ≠ 6 ∧ c ≠ 7 ∧ c ≠ 8 ∧ c ≠ 9 ∧ c ≠ 44) (hi : ¬ ((28 ≤ c ∧ c ≤ 39 ∧ k = 1) ∨ (c = 43 ∧ 3 ≤ k ∧ k < 6) ∨ (c = 46 ∧ 6 ≤ k ∧ k < 12) ∨ ((c = 47 ∨ c = 48) ∧ 4 ≤ k ∧ k < 8))) : ∀ (v : fw_V) (x4 : Int32), mf_Mo_pulse_1_j69 v x4 c i k = v c i k := by
  intro v x4
  unfold mf_Mo_pulse_1_j69
  (try dsimp only)
  all_goals ((repeat' split) <;> (first | with_reducible rfl | (simp only [md1_28 hc hi, md1_29 hc hi, md1_31 hc hi, md1_32 hc hi, md1_33 hc hi, md1_34 hc hi, md1_35 hc hi, md1_36 hc hi, md1_37 hc hi, md1_38 hc hi, md1_39 hc hi, md1_43_3 hc hi, md1_43_4 hc hi, md1_43_5 hc hi, md1_47_4 hc hi, md1_48_4 hc hi, md1_47_5 hc hi, md1_48_5 hc hi, md1_47_6 hc hi, md1_48_6 hc hi, md1_47_7 hc hi, md1_48_7 hc hi, md1_46_6 hc hi, md1_46_7 hc hi, md1_46_8 hc hi, md1_46_9 hc hi, md1_46_10 hc hi, md1_46_11 hc hi, md1_0 hc hi, md1_9 hc hi, md1_44 hc hi, md1_send hc hi, md1_rp0 hc hi, md1_rp1 hc hi, md1_rp2 hc hi, md1_Mo_pulse_1_j70 hc hi]; done)))
theorem md1_Mo_pulse_1_j125 {c i k : Nat} (hc : c ≠ 0 ∧ c ≠ 4 ∧ c ≠ 5 ∧ c ≠ 6 ∧ c ≠ 7 ∧ c ≠ 8 ∧ c ≠ 9 ∧ c ≠ 44) (hi : ¬ ((28 ≤ c ∧ c ≤ 39 ∧ k = 1) ∨ (c = 43 ∧ 3 ≤ k ∧ k < 6) ∨ (c = 46 ∧ 6 ≤ k ∧ k < 12) ∨ ((c = 47 ∨ c = 48) ∧ 4 ≤ k ∧ k < 8))) : ∀ (v : fw_V) (x4 : Int32) (x90 : Int32), mf_Mo_pulse_1_j125 v x4 x90 c i k = v c i k := by
  intro v x4 x90
  unfold mf_Mo_pulse_1_j125
  (try dsimp only)
  all_goals ((repeat' split) <;> (first | with_reducible rfl | (simp only [md1_28 hc hi, md1_29 hc hi, md1_31 hc hi, md1_32 hc hi, md1_33 hc hi, md1_34 hc hi, md1_35 hc hi, md1_36 hc hi, md1_37 hc hi, md1_38 hc hi, md1_39 hc hi, md1_43_3 hc hi, md1_43_4 hc hi, md1_43_5 hc hi, md1_47_4 hc hi, md1_48_4 hc hi, md1_47_5 hc hi, md1_48_5 hc hi, md1_47_6 hc hi, md1_48_6 hc hi, md1_47_7 hc hi, md1_48_7 hc hi, md1_46_6 hc hi, md1_46_7 hc hi, md1_46_8 hc hi, md1_46_9 hc hi, md1_46_10 hc hi, md1_46_11 hc hi, md1_0 hc hi, md1_9 hc hi, md1_44 hc hi, md1_send hc hi, md1_rp0 hc hi, md1_rp1 hc hi, md1_rp2 hc hi, md1_Mo_pulse_1_j71 hc hi, md1_Mo_pulse_1_j118 hc hi]; done)))
theorem md1_Mo_pulse_1_j68 {c i k : Nat} (hc : c ≠ 0 ∧ c ≠ 4 ∧ c ≠ 5 ∧ c ≠ 6 ∧ c ≠ 7 ∧ c ≠ 8 ∧ c ≠ 9 ∧ c ≠ 44) (hi : ¬ ((28 ≤ c ∧ c ≤ 39 ∧ k = 1) ∨ (c = 43 ∧ 3 ≤ k ∧ k < 6) ∨ (c = 46 ∧ 6 ≤ k ∧ k < 12) ∨ ((c = 47 ∨ c = 48) ∧ 4 ≤ k ∧ k < 8))) : ∀ (v : fw_V), mf_Mo_pulse_1_j68 v c i k = v c i k := by
  intro v
  unfold mf_Mo_pulse_1_j68
  (try dsimp only)
  all_goals ((repeat' split) <;> (first | with_reducible rfl | (simp only [md1_28 hc hi, md1_29 hc hi, md1_31 hc hi, md1_32 hc hi, md1_33 hc hi, md1_34 hc hi, md1_35 hc hi, md1_36 hc hi, md1_37 hc hi, md1_38 hc hi, md1_39 hc hi, md1_43_3 hc hi, md1_43_4 hc hi, md1_43_5 hc hi, md1_47_4 hc hi, md1_48_4 hc hi, md1_47_5 hc hi, md1_48_5 hc hi, md1_47_6 hc hi, md1_48_6 hc hi, md1_47_7 hc hi, md1_48_7 hc hi, md1_46_6 hc hi, md1_46_7 hc hi, md1_46_8 hc hi, md1_46_9 hc hi, md1_46_10 hc hi, md1_46_11 hc hi, md1_0 hc hi, md1_9 hc hi, md1_44 hc hi, md1_send hc hi, md1_rp0 hc hi, md1_rp1 hc hi, md1_rp2 hc hi, md1_Mo_pulse_1_j69 hc hi, md1_Mo_pulse_1_j125 hc hi]; done)))
theorem md1_Mo_pulse_1_j67 {c i k : Nat} (hc : c ≠ 0 ∧ c ≠ 4 ∧ c ≠ 5 ∧ c ≠ 6 ∧ c ≠ 7 ∧ c ≠ 8 ∧ c ≠ 9 ∧ c ≠ 44) (hi : ¬ ((28 ≤ c ∧ c ≤ 39 ∧ k = 1) ∨ (c = 43 ∧ 3 ≤ k ∧ k < 6) ∨ (c = 46 ∧ 6 ≤ k ∧ k < 12) ∨ ((c = 47 ∨ c = 48) ∧ 4 ≤ k ∧ k < 8))) : ∀ (v : fw_V), mf_Mo_pulse_1_j67 v c i k = v c i k := by
  intro v
  unfold mf_Mo_pulse_1_j67
  (try dsimp only)
  all_goals ((repeat' split) <;> (first | with_reducible rfl | (simp only [md1_28 hc hi, md1_29 hc hi, md1_31 hc hi, md1_32 hc hi, md1_33 hc hi, md1_34 hc hi, md1_35 hc hi, md1_36 hc hi, md1_37 hc hi, md1_38 hc hi, md1_39 hc hi, md1_43_3 hc hi, md1_43_4 hc hi, md1_43_5 hc hi, md1_47_4 hc hi, md1_48_4 hc hi, md1_47_5 hc hi, md1_48_5 hc hi, md1_47_6 hc hi, md1_48_6 hc hi, md1_47_7 hc hi, md1_48_7 hc hi, md1_46_6 hc hi, md1_46_7 hc hi, md1_46_8 hc hi, md1_46_9 hc hi, md1_46_10 hc hi, md1_46_11 hc hi, md1_0 hc hi, md1_9 hc hi, md1_44 hc hi, md1_send hc hi, md1_rp0 hc hi, md1_rp1 hc hi, md1_rp2 hc hi, md1_Mo_pulse_1_j68 hc hi]; done)))
theorem md1_Mo_pulse_1_j7 {c i k : Nat} (hc : c ≠ 0 ∧ c ≠ 4 ∧ c ≠ 5 ∧ c ≠ 6 ∧ c ≠ 7 ∧ c ≠ 8 ∧ c ≠ 9 ∧ c ≠ 44) (hi : ¬ ((28 ≤ c ∧ c ≤ 39 ∧ k = 1) ∨ (c = 43 ∧ 3 ≤ k ∧ k < 6) ∨ (c = 46 ∧ 6 ≤ k ∧ k < 12) ∨ ((c = 47 ∨ c = 48) ∧ 4 ≤ k ∧ k < 8))) : ∀ (v : fw_V) (x4 : Int32), mf_Mo_pulse_1_j7 v x4 c i k = v c i k := by
  intro v x4
  unfold mf_Mo_pulse_1_j7
  (try dsimp only)
  all_goals ((repeat' split) <;> (first | with_reducible rfl | (simp only [md1_28 hc hi, md1_29 hc hi, md1_31 hc hi, md1_32 hc hi, md1_33 hc hi, md1_34 hc hi, md1_35 hc hi, md1_36 hc hi, md1_37 hc hi, md1_38 hc hi, md1_39 hc hi, md1_43_3 hc hi, md1_43_4 hc hi, md1_43_5 hc hi, md1_47_4 hc hi, md1_48_4 hc hi, md1_47_5 hc hi, md1_48_5 hc hi, md1_47_6 hc hi, md1_48_6 hc hi, md1_47_7 hc hi, md1_48_7 hc hi, md1_46_6 hc hi, md1_46_7 hc hi, md1_46_8 hc hi, md1_46_9 hc hi, md1_46_10 hc hi, md1_46_11 hc hi, md1_0 hc hi, md1_9 hc hi, md1_44 hc hi, md1_send hc hi, md1_rp0 hc hi, md1_rp1 hc hi, md1_rp2 hc hi, md1_Mo_pulse_1_j8 hc hi, md1_Mo_pulse_1_j67 hc hi]; done)))
theorem md1_Mo_pulse_1_j6 {c i k : Nat} (hc : c ≠ 0 ∧ c ≠ 4 ∧ c ≠ 5 ∧ c ≠ 6 ∧ c ≠ 7 ∧ c ≠ 8 ∧ c ≠ 9 ∧ c ≠ 44) (hi : ¬ ((28 ≤ c ∧ c ≤ 39 ∧ k = 1) ∨ (c = 43 ∧ 3 ≤ k ∧ k < 6) ∨ (c = 46 ∧ 6 ≤ k ∧ k < 12) ∨ ((c = 47 ∨ c = 48) ∧ 4 ≤ k ∧ k < 8))) : ∀ (v : fw_V) (x4 : Int32), mf_Mo_pulse_1_j6 v x4 c i k = v c i k := by
  intro v x4
  unfold mf_Mo_pulse_1_j6
  (try dsimp only)
  all_goals ((repeat' split) <;> (first | with_reducible rfl | (simp only [md1_28 hc hi, md1_29 hc hi, md1_31 hc hi, md1_32 hc hi, md1_33 hc hi, md1_34 hc hi, md1_35 hc hi, md1_36 hc hi, md1_37 hc hi, md1_38 hc hi, md1_39 hc hi, md1_43_3 hc hi, md1_43_4 hc hi, md1_43_5 hc hi, md1_47_4 hc hi, md1_48_4 hc hi, md1_47_5 hc hi, md1_48_5 hc hi, md1_47_6 hc hi, md1_48_6 hc hi, md1_47_7 hc hi, md1_48_7 hc hi, md1_46_6 hc hi, md1_46_7 hc hi, md1_46_8 hc hi, md1_46_9 hc hi, md1_46_10 hc hi, md1_46_11 hc hi, md1_0 hc hi, md1_9 hc hi, md1_44 hc hi, md1_send hc hi, md1_rp0 hc hi, md1_rp1 hc hi, md1_rp2 hc hi, md1_Mo_pulse_1_j7 hc hi]; done)))
theorem md1_Mo_pulse_1_j126 {c i k : Nat} (hc : c ≠ 0 ∧ c ≠ 4 ∧ c ≠ 5 ∧ c ≠ 6 ∧ c ≠ 7 ∧ c ≠ 8 ∧ c ≠ 9 ∧ c ≠ 44) (hi : ¬ ((28 ≤ c ∧ c ≤ 39 ∧ k = 1) ∨ (c = 43 ∧ 3 ≤ k ∧ k < 6) ∨ (c = 46 ∧ 6 ≤ k ∧ k < 12) ∨ ((c = 47 ∨ c = 48) ∧ 4 ≤ k ∧ k < 8))) : ∀ (v : fw_V) (x4 : Int32) (x90 : Int32), mf_Mo_pulse_1_j126 v x4 x90 c i k = v c i k := by
  intro v x4 x90
  unfold mf_Mo_pulse_1_j126
  (try dsimp only)
  all_goals ((repeat' split) <;> (first | with_reducible rfl | (simp only [md1_28 hc hi, md1_29 hc hi, md1_31 hc hi, md1_32 hc hi, md1_33 hc hi, md1_34 hc hi, md1_35 hc hi, md1_36 hc hi, md1_37 hc hi, md1_38 hc hi, md1_39 hc hi, md1_43_3 hc hi, md1_43_4 hc hi, md1_43_5 hc hi, md1_47_4 hc hi, md1_48_4 hc hi, md1_47_5 hc hi, md1_48_5 hc hi, md1_47_6 hc hi, md1_48_6 hc hi, md1_47_7 hc hi, md1_48_7 hc hi, md1_46_6 hc hi, md1_46_7 hc hi, md1_46_8 hc hi, md1_46_9 hc hi, md1_46_10 hc hi, md1_46_11 hc hi, md1_0 hc hi, md1_9 hc hi, md1_44 hc hi, md1_send hc hi, md1_rp0 hc hi, md1_rp1 hc hi, md1_rp2 hc hi, md1_Mo_pulse_1_j8 hc hi, md1_Mo_pulse_1_j67 hc hi]; done)))
theorem md1_Mo_pulse_1_j5 {c i k : Nat} (hc : c ≠ 0 ∧ c ≠ 4 ∧ c ≠ 5 ∧ c ≠ 6 ∧ c ≠ 7 ∧ c ≠ 8 ∧ c ≠ 9 ∧ c ≠ 44) (hi : ¬ ((28 ≤ c ∧ c ≤ 39 ∧ k = 1) ∨ (c = 43 ∧ 3 ≤ k ∧ k < 6) ∨ (c = 46 ∧ 6 ≤ k ∧ k < 12) ∨ ((c = 47 ∨ c = 48) ∧ 4 ≤ k ∧ k < 8))) : ∀ (v : fw_V), mf_Mo_pulse_1_j5 v c i k = v c i k := by
  intro v
  unfold mf_Mo_pulse_1_j5
  (try dsimp only)
  all_goals ((repeat' split) <;> (first | with_reducible rfl | (simp only [md1_28 hc hi, md1_29 hc hi, md1_31 hc hi, md1_32 hc hi, md1_33 hc hi, md1_34 hc hi, md1_35 hc hi, md1_36 hc hi, md1_37 hc hi, md1_38 hc hi, md1_39 hc hi, md1_43_3 hc hi, md1_43_4 hc hi, md1_43_5 hc hi, md1_47_4 hc hi, md1_48_4 hc hi, md1_47_5 hc hi, md1_48_5 hc hi, md1_47_6 hc hi, md1_48_6 hc hi, md1_47_7 hc hi, md1_48_7 hc hi, md1_46_6 hc hi, md1_46_7 hc hi, md1_46_8 hc hi, md1_46_9 hc hi, md1_46_10 hc hi, md1_46_11 hc hi, md1_0 hc hi, md1_9 hc hi, md1_44 hc hi, md1_send hc hi, md1_rp0 hc hi, md1_rp1 hc hi, md1_rp2 hc hi, md1_Mo_pulse_1_j6 hc hi, md1_Mo_pulse_1_j126 hc hi]; done)))
theorem md1_Mo_pulse_1_j4 {c i k : Nat} (hc : c ≠ 0 ∧ c ≠ 4 ∧ c ≠ 5 ∧ c ≠ 6 ∧ c ≠ 7 ∧ c ≠ 8 ∧ c ≠ 9 ∧ c ≠ 44) (hi : ¬ ((28 ≤ c ∧ c ≤ 39 ∧ k = 1) ∨ (c = 43 ∧ 3 ≤ k ∧ k < 6) ∨ (c = 46 ∧ 6 ≤ k ∧ k < 12) ∨ ((c = 47 ∨ c = 48) ∧ 4 ≤ k ∧ k < 8))) : ∀ (v : fw_V), mf_Mo_pulse_1_j4 v c i k = v c i k := by
  intro v
  unfold mf_Mo_pulse_1_j4
  (try dsimp only)
  all_goals ((repeat' split) <;> (first | with_reducible rfl | (simp only [md1_28 hc hi, md1_29 hc hi, md1_31 hc hi, md1_32 hc hi, md1_33 hc hi, md1_34 hc hi, md1_35 hc hi, md1_36 hc hi, md1_37 hc hi, md1_38 hc hi, md1_39 hc hi, md1_43_3 hc hi, md1_43_4 hc hi, md1_43_5 hc hi, md1_47_4 hc hi, md1_48_4 hc hi, md1_47_5 hc hi, md1_48_5 hc hi, md1_47_6 hc hi, md1_48_6 hc hi, md1_47_7 hc hi, md1_48_7 hc hi, md1_46_6 hc hi, md1_46_7 hc hi, md1_46_8 hc hi, md1_46_9 hc hi, md1_46_10 hc hi, md1_46_11 hc hi, md1_0 hc hi, md1_9 hc hi, md1_44 hc hi, md1_send hc hi, md1_rp0 hc hi, md1_rp1 hc hi, md1_rp2 hc hi, md1_Mo_pulse_1_j5 hc hi]; done)))
theorem md1_Mo_pulse_1_j131 {c i k : Nat} (hc : c ≠ 0 ∧ c ≠ 4 ∧ c ≠ 5 ∧ c ≠ 6 ∧ c ≠ 7 ∧ c ≠ 8 ∧ c ≠ 9 ∧ c ≠ 44) (hi : ¬ ((28 ≤ c ∧ c ≤ 39 ∧ k = 1) ∨ (c = 43 ∧ 3 ≤ k ∧ k < 6) ∨ (c = 46 ∧ 6 ≤ k ∧ k < 12) ∨ ((c = 47 ∨ c = 48) ∧ 4 ≤ k ∧ k < 8))) : ∀ (v : fw_V), mf_Mo_pulse_1_j131 v c i k = v c i k := by
  intro v
  unfold mf_Mo_pulse_1_j131
  (try dsimp only)
  all_goals ((repeat' split) <;> (first | with_reducible rfl | (simp only [md1_28 hc hi, md1_29 hc hi, md1_31 hc hi, md1_32 hc hi, md1_33 hc hi, md1_34 hc hi, md1_35 hc hi, md1_36 hc hi, md1_37 hc hi, md1_38 hc hi, md1_39 hc hi, md1_43_3 hc hi, md1_43_4 hc hi, md1_43_5 hc hi, md1_47_4 hc hi, md1_48_4 hc hi, md1_47_5 hc hi, md1_48_5 hc hi, md1_47_6 hc hi, md1_48_6 hc hi, md1_47_7 hc hi, md1_48_7 hc hi, md1_46_6 hc hi, md1_46_7 hc hi, md1_46_8 hc hi, md1_46_9 hc hi, md1_46_10 hc hi, md1_46_11 hc hi, md1_0 hc hi, md1_9 hc hi, md1_44 hc hi, md1_send hc hi, md1_rp0 hc hi, md1_rp1 hc hi, md1_rp2 hc hi, md1_Mo_pulse_1_j68 hc hi]; done)))
theorem md1_Mo_pulse_1_j132 {c i k : Nat} (hc : c ≠ 0 ∧ c ≠ 4 ∧ c ≠ 5 ∧ c ≠ 6 ∧ c ≠ 7 ∧ c ≠ 8 ∧ c ≠ 9 ∧ c ≠ 44) (hi : ¬ ((28 ≤ c ∧ c ≤ 39 ∧ k = 1) ∨ (c = 43 ∧ 3 ≤ k ∧ k < 6) ∨ (c = 46 ∧ 6 ≤ k ∧ k < 12) ∨ ((c = 47 ∨ c = 48) ∧ 4 ≤ k ∧ k < 8))) : ∀ (v : fw_V), mf_Mo_pulse_1_j132 v c i k = v c i k := by
  intro v
  unfold mf_Mo_pulse_1_j132
  (try dsimp only)
  all_goals ((repeat' split) <;> (first | with_reducible rfl | (simp only [md1_28 hc hi, md1_29 hc hi, md1_31 hc hi, md1_32 hc hi, md1_33 hc hi, md1_34 hc hi, md1_35 hc hi, md1_36 hc hi, md1_37 hc hi, md1_38 hc hi, md1_39 hc hi, md1_43_3 hc hi, md1_43_4 hc hi, md1_43_5 hc hi, md1_47_4 hc hi, md1_48_4 hc hi, md1_47_5 hc hi, md1_48_5 hc hi, md1_47_6 hc hi, md1_48_6 hc hi, md1_47_7 hc hi, md1_48_7 hc hi, md1_46_6 hc hi, md1_46_7 hc hi, md1_46_8 hc hi, md1_46_9 hc hi, md1_46_10 hc hi, md1_46_11 hc hi, md1_0 hc hi, md1_9 hc hi, md1_44 hc hi, md1_send hc hi, md1_rp0 hc hi, md1_rp1 hc hi, md1_rp2 hc hi, md1_Mo_pulse_1_j68 hc hi]; done)))
theorem md1_Mo_pulse_1_j130 {c i k : Nat} (hc : c ≠ 0 ∧ c ≠ 4 ∧ c ≠ 5 ∧ c ≠ 6 ∧ c ≠ 7 ∧ c ≠ 8 ∧ c ≠ 9 ∧ c ≠ 44) (hi : ¬ ((28 ≤ c ∧ c ≤ 39 ∧ k = 1) ∨ (c = 43 ∧ 3 ≤ k ∧ k < 6) ∨ (c = 46 ∧ 6 ≤ k ∧ k < 12) ∨ ((c = 47 ∨ c = 48) ∧ 4 ≤ k ∧ k < 8))) : ∀ (v : fw_V) (x4 : Int32), mf_Mo_pulse_1_j130 v x4 c i k = v c i k := by
  intro v x4
  unfold mf_Mo_pulse_1_j130
  (try dsimp only)
  all_goals ((repeat' split) <;> (first | with_reducible rfl | (simp only [md1_28 hc hi, md1_29 hc hi, md1_31 hc hi, md1_32 hc hi, md1_33 hc hi, md1_34 hc hi, md1_35 hc hi, md1_36 hc hi, md1_37 hc hi, md1_38 hc hi, md1_39 hc hi, md1_43_3 hc hi, md1_43_4 hc hi, md1_43_5 hc hi, md1_47_4 hc hi, md1_48_4 hc hi, md1_47_5 hc hi, md1_48_5 hc hi, md1_47_6 hc hi, md1_48_6 hc hi, md1_47_7 hc hi, md1_48_7 hc hi, md1_46_6 hc hi, md1_46_7 hc hi, md1_46_8 hc hi, md1_46_9 hc hi, md1_46_10 hc hi, md1_46_11 hc hi, md1_0 hc hi, md1_9 hc hi, md1_44 hc hi, md1_send hc hi, md1_rp0 hc hi, md1_rp1 hc hi, md1_rp2 hc hi, md1_Mo_pulse_1_j131 hc hi, md1_Mo_pulse_1_j132 hc hi]; done)))
theorem md1_Mo_pulse_1_j129 {c i k : Nat} (hc : c ≠ 0 ∧ c ≠ 4 ∧ c ≠ 5 ∧ c ≠ 6 ∧ c ≠ 7 ∧ c ≠ 8 ∧ c ≠ 9 ∧ c ≠ 44) (hi : ¬ ((28 ≤ c ∧ c ≤ 39 ∧ k = 1) ∨ (c = 43 ∧ 3 ≤ k ∧ k < 6) ∨ (c = 46 ∧ 6 ≤ k ∧ k < 12) ∨ ((c = 47 ∨ c = 48) ∧ 4 ≤ k ∧ k < 8))) : ∀ (v : fw_V) (x4 : Int32), mf_Mo_pulse_1_j129 v x4 c i k = v c i k := by
  intro v x4
  unfold mf_Mo_pulse_1_j129
  (try dsimp only)
  all_goals ((repeat' split) <;> (first | with_reducible rfl | (simp only [md1_28 hc hi, md1_29 hc hi, md1_31 hc hi, md1_32 hc hi, md1_33 hc hi, md1_34 hc hi, md1_35 hc hi, md1_36 hc hi, md1_37 hc hi, md1_38 hc hi, md1_39 hc hi, md1_43_3 hc hi, md1_43_4 hc hi, md1_43_5 hc hi, md1_47_4 hc hi, md1_48_4 hc hi, md1_47_5 hc hi, md1_48_5 hc hi, md1_47_6 hc hi, md1_48_6 hc hi, md1_47_7 hc hi, md1_48_7 hc hi, md1_46_6 hc hi, md1_46_7 hc hi, md1_46_8 hc hi, md1_46_9 hc hi, md1_46_10 hc hi, md1_46_11 hc hi, md1_0 hc hi, md1_9 hc hi, md1_44 hc hi, md1_send hc hi, md1_rp0 hc hi, md1_rp1 hc hi, md1_rp2 hc hi, md1_Mo_pulse_1_j130 hc hi]; done)))
theorem md1_Mo_pulse_1_j133 {c i k : Nat} (hc : c ≠ 0 ∧ c ≠ 4 ∧ c ≠ 5 ∧ c ≠ 6 ∧ c ≠ 7 ∧ c ≠ 8 ∧ c ≠ 9 ∧ c ≠ 44) (hi : ¬ ((28 ≤ c ∧ c ≤ 39 ∧ k = 1) ∨ (c = 43 ∧ 3 ≤ k ∧ k < 6) ∨ (c = 46 ∧ 6 ≤ k ∧ k < 12) ∨ ((c = 47 ∨ c = 48) ∧ 4 ≤ k ∧ k < 8))) : ∀ (v : fw_V) (x4 : Int32) (x90 : Int32), mf_Mo_pulse_1_j133 v x4 x90 c i k = v c i k := by
  intro v x4 x90
  unfold mf_Mo_pulse_1_j133
  (try dsimp only)
  all_goals ((repeat' split) <;> (first | with_reducible rfl | (simp only [md1_28 hc hi, md1_29 hc hi, md1_31 hc hi, md1_32 hc hi, md1_33 hc hi, md1_34 hc hi, md1_35 hc hi, md1_36 hc hi, md1_37 hc hi, md1_38 hc hi, md1_39 hc hi, md1_43_3 hc hi, md1_43_4 hc hi, md1_43_5 hc hi, md1_47_4 hc hi, md1_48_4 hc hi, md1_47_5 hc hi, md1_48_5 hc hi, md1_47_6 hc hi, md1_48_6 hc hi, md1_47_7 hc hi, md1_48_7 hc hi, md1_46_6 hc hi, md1_46_7 hc hi, md1_46_8 hc hi, md1_46_9 hc hi, md1_46_10 hc hi, md1_46_11 hc hi, md1_0 hc hi, md1_9 hc hi, md1_44 hc hi, md1_send hc hi, md1_rp0 hc hi, md1_rp1 hc hi, md1_rp2 hc hi, md1_Mo_pulse_1_j131 hc hi, md1_Mo_pulse_1_j132 hc hi]; done)))
theorem md1_Mo_pulse_1_j128 {c i k : Nat} (hc : c ≠ 0 ∧ c ≠ 4 ∧ c ≠ 5 ∧ c ≠ 6 ∧ c ≠ 7 ∧ c ≠ 8 ∧ c ≠ 9 ∧ c ≠ 44) (hi : ¬ ((28 ≤ c ∧ c ≤ 39 ∧ k = 1) ∨ (c = 43 ∧ 3 ≤ k ∧ k < 6) ∨ (c = 46 ∧ 6 ≤ k ∧ k < 12) ∨ ((c = 47 ∨ c = 48) ∧ 4 ≤ k ∧ k < 8))) : ∀ (v : fw_V), mf_Mo_pulse_1_j128 v c i k = v c i k := by
  intro v
  unfold mf_Mo_pulse_1_j128
  (try dsimp only)
  all_goals ((repeat' split) <;> (first | with_reducible rfl | (simp only [md1_28 hc hi, md1_29 hc hi, md1_31 hc hi, md1_32 hc hi, md1_33 hc hi, md1_34 hc hi, md1_35 hc hi, md1_36 hc hi, md1_37 hc hi, md1_38 hc hi, md1_39 hc hi, md1_43_3 hc hi, md1_43_4 hc hi, md1_43_5 hc hi, md1_47_4 hc hi, md1_48_4 hc hi, md1_47_5 hc hi, md1_48_5 hc hi, md1_47_6 hc hi, md1_48_6 hc hi, md1_47_7 hc hi, md1_48_7 hc hi, md1_46_6 hc hi, md1_46_7 hc hi, md1_46_8 hc hi, md1_46_9 hc hi, md1_46_10 hc hi, md1_46_11 hc hi, md1_0 hc hi, md1_9 hc hi, md1_44 hc hi, md1_send hc hi, md1_rp0 hc hi, md1_rp1 hc hi, md1_rp2 hc hi, md1_Mo_pulse_1_j129 hc hi, md1_Mo_pulse_1_j133 hc hi]; done)))
theorem md1_Mo_pulse_1_j127 {c i k : Nat} (hc : c ≠ 0 ∧ c ≠ 4 ∧ c ≠ 5 ∧ c ≠ 6 ∧ c ≠ 7 ∧ c ≠ 8 ∧ c ≠ 9 ∧ c ≠ 44) (hi : ¬ ((28 ≤ c ∧ c ≤ 39 ∧ k = 1) ∨ (c = 43 ∧ 3 ≤ k ∧ k < 6) ∨ (c = 46 ∧ 6 ≤ k ∧ k < 12) ∨ ((c = 47 ∨ c = 48) ∧ 4 ≤ k ∧ k < 8))) : ∀ (v : fw_V), mf_Mo_pulse_1_j127 v c i k = v c i k := by
  intro v
  unfold mf_Mo_pulse_1_j127
  (try dsimp only)
  all_goals ((repeat' split) <;> (first | with_reducible rfl | (simp only [md1_28 hc hi, md1_29 hc hi, md1_31 hc hi, md1_32 hc hi, md1_33 hc hi, md1_34 hc hi, md1_35 hc hi, md1_36 hc hi, md1_37 hc hi, md1_38 hc hi, md1_39 hc hi, md1_43_3 hc hi, md1_43_4 hc hi, md1_43_5 hc hi, md1_47_4 hc hi, md1_48_4 hc hi, md1_47_5 hc hi, md1_48_5 hc hi, md1_47_6 hc hi, md1_48_6 hc hi, md1_47_7 hc hi, md1_48_7 hc hi, md1_46_6 hc hi, md1_46_7 hc hi, md1_46_8 hc hi, md1_46_9 hc hi, md1_46_10 hc hi, md1_46_11 hc hi, md1_0 hc hi, md1_9 hc hi, md1_44 hc hi, md1_send hc hi, md1_rp0 hc hi, md1_rp1 hc hi, md1_rp2 hc hi, md1_Mo_pulse_1_j128 hc hi]; done)))
theorem md1_Mo_pulse_1_j3 {c i k : Nat} (hc : c ≠ 0 ∧ c ≠ 4 ∧ c ≠ 5 ∧ c ≠ 6 ∧ c ≠ 7 ∧ c ≠ 8 ∧ c ≠ 9 ∧ c ≠ 44) (hi : ¬ ((28 ≤ c ∧ c ≤ 39 ∧ k = 1) ∨ (c = 43 ∧ 3 ≤ k ∧ k < 6) ∨ (c = 46 ∧ 6 ≤ k ∧ k < 12) ∨ ((c = 47 ∨ c = 48) ∧ 4 ≤ k ∧ k < 8))) : ∀ (v : fw_V) (x4 : Int32), mf_Mo_pulse_1_j3 v x4 c i k = v c i k := by
  intro v x4
  unfold mf_Mo_pulse_1_j3
  (try dsimp only)
  all_goals ((repeat' split) <;> (first | with_reducible rfl | (simp only [md1_28 hc hi, md1_29 hc hi, md1_31 hc hi, md1_32 hc hi, md1_33 hc hi, md1_34 hc hi, md1_35 hc hi, md1_36 hc hi, md1_37 hc hi, md1_38 hc hi, md1_39 hc hi, md1_43_3 hc hi, md1_43_4 hc hi, md1_43_5 hc hi, md1_47_4 hc hi, md1_48_4 hc hi, md1_47_5 hc hi, md1_48_5 hc hi, md1_47_6 hc hi, md1_48_6 hc hi, md1_47_7 hc hi, md1_48_7 hc hi, md1_46_6 hc hi, md1_46_7 hc hi, md1_46_8 hc hi, md1_46_9 hc hi, md1_46_10 hc hi, md1_46_11 hc hi, md1_0 hc hi, md1_9 hc hi, md1_44 hc hi, md1_send hc hi, md1_rp0 hc hi, md1_rp1 hc hi, md1_rp2 hc hi, md1_Mo_pulse_1_j4 hc hi, md1_Mo_pulse_1_j127 hc hi]; done)))
theorem md1_Mo_pulse_1_j2 {c i k : Nat} (hc : c ≠ 0 ∧ c ≠ 4 ∧ c ≠ 5 ∧ c ≠ 6 ∧ c ≠ 7 ∧ c ≠ 8 ∧ c ≠ 9 ∧ c ≠ 44) (hi : ¬ ((28 ≤ c ∧ c ≤ 39 ∧ k = 1) ∨ (c = 43 ∧ 3 ≤ k ∧ k < 6) ∨ (c = 46 ∧ 6 ≤ k ∧ k < 12) ∨ ((c = 47 ∨ c = 48) ∧ 4 ≤ k ∧ k < 8))) : ∀ (v : fw_V) (x4 : Int32), mf_Mo_pulse_1_j2 v x4 c i k = v c i k := by
  intro v x4
  unfold mf_Mo_pulse_1_j2
  (try dsimp only)
  all_goals ((repeat' split) <;> (first | with_reducible rfl | (simp only [md1_28 hc hi, md1_29 hc hi, md1_31 hc hi, md1_32 hc hi, md1_33 hc hi, md1_34 hc hi, md1_35 hc hi, md1_36 hc hi, md1_37 hc hi, md1_38 hc hi, md1_39 hc hi, md1_43_3 hc hi, md1_43_4 hc hi, md1_43_5 hc hi, md1_47_4 hc hi, md1_48_4 hc hi, md1_47_5 hc hi, md1_48_5 hc hi, md1_47_6 hc hi, md1_48_6 hc hi, md1_47_7 hc hi, md1_48_7 hc hi, md1_46_6 hc hi, md1_46_7 hc hi, md1_46_8 hc hi, md1_46_9 hc hi, md1_46_10 hc hi, md1_46_11 hc hi, md1_0 hc hi, md1_9 hc hi, md1_44 hc hi, md1_send hc hi, md1_rp0 hc hi, md1_rp1 hc hi, md1_rp2 hc hi, md1_Mo_pulse_1_j3 hc hi]; done)))
theorem md1_Mo_pulse_1_j134 {c i k : Nat} (hc : c ≠ 0 ∧ c ≠ 4 ∧ c ≠ 5 ∧ c ≠ 6 ∧ c ≠ 7 ∧ c ≠ 8 ∧ c ≠ 9 ∧ c ≠ 44) (hi : ¬ ((28 ≤ c ∧ c ≤ 39 ∧ k = 1) ∨ (c = 43 ∧ 3 ≤ k ∧ k < 6) ∨ (c = 46 ∧ 6 ≤ k ∧ k < 12) ∨ ((c = 47 ∨ c = 48) ∧ 4 ≤ k ∧ k < 8))) : ∀ (v : fw_V) (x4 : Int32) (x90 : Int32), mf_Mo_pulse_1_j134 v x4 x90 c i k = v c i k := by
  intro v x4 x90
  unfold mf_Mo_pulse_1_j134
  (try dsimp only)
  all_goals ((repeat' split) <;> (first | with_reducible rfl | (simp only [md1_28 hc hi, md1_29 hc hi, md1_31 hc hi, md1_32 hc hi, md1_33 hc hi, md1_34 hc hi, md1_35 hc hi, md1_36 hc hi, md1_37 hc hi, md1_38 hc hi, md1_39 hc hi, md1_43_3 hc hi, md1_43_4 hc hi, md1_43_5 hc hi, md1_47_4 hc hi, md1_48_4 hc hi, md1_47_5 hc hi, md1_48_5 hc hi, md1_47_6 hc hi, md1_48_6 hc hi, md1_47_7 hc hi, md1_48_7 hc hi, md1_46_6 hc hi, md1_46_7 hc hi, md1_46_8 hc hi, md1_46_9 hc hi, md1_46_10 hc hi, md1_46_11 hc hi, md1_0 hc hi, md1_9 hc hi, md1_44 hc hi, md1_send hc hi, md1_rp0 hc hi, md1_rp1 hc hi, md1_rp2 hc hi, md1_Mo_pulse_1_j4 hc hi, md1_Mo_pulse_1_j127 hc hi]; done)))
theorem md1_Mo_pulse_1_j1 {c i k : Nat} (hc : c ≠ 0 ∧ c ≠ 4 ∧ c ≠ 5 ∧ c ≠ 6 ∧ c ≠ 7 ∧ c ≠ 8 ∧ c ≠ 9 ∧ c ≠ 44) (hi : ¬ ((28 ≤ c ∧ c ≤ 39 ∧ k = 1) ∨ (c = 43 ∧ 3 ≤ k ∧ k < 6) ∨ (c = 46 ∧ 6 ≤ k ∧ k < 12) ∨ ((c = 47 ∨ c = 48) ∧ 4 ≤ k ∧ k < 8))) : ∀ (v : fw_V), mf_Mo_pulse_1_j1 v c i k = v c i k := by
  intro v
  unfold mf_Mo_pulse_1_j1
  (try dsimp only)
  all_goals ((repeat' split) <;> (first | with_reducible rfl | (simp only [md1_28 hc hi, md1_29 hc hi, md1_31 hc hi, md1_32 hc hi, md1_33 hc hi, md1_34 hc hi, md1_35 hc hi, md1_36 hc hi, md1_37 hc hi, md1_38 hc hi, md1_39 hc hi, md1_43_3 hc hi, md1_43_4 hc hi, md1_43_5 hc hi, md1_47_4 hc hi, md1_48_4 hc hi, md1_47_5 hc hi, md1_48_5 hc hi, md1_47_6 hc hi, md1_48_6 hc hi, md1_47_7 hc hi, md1_48_7 hc hi, md1_46_6 hc hi, md1_46_7 hc hi, md1_46_8 hc hi, md1_46_9 hc hi, md1_46_10 hc hi, md1_46_11 hc hi, md1_0 hc hi, md1_9 hc hi, md1_44 hc hi, md1_send hc hi, md1_rp0 hc hi, md1_rp1 hc hi, md1_rp2 hc hi, md1_Mo_pulse_1_j2 hc hi, md1_Mo_pulse_1_j134 hc hi]; done)))
theorem md1_Mo_pulse_1 {c i k : Nat} (hc : c ≠ 0 ∧ c ≠ 4 ∧ c ≠ 5 ∧ c ≠ 6 ∧ c ≠ 7 ∧ c ≠ 8 ∧ c ≠ 9 ∧ c ≠ 44) (hi : ¬ ((28 ≤ c ∧ c ≤ 39 ∧ k = 1) ∨ (c = 43 ∧ 3 ≤ k ∧ k < 6) ∨ (c = 46 ∧ 6 ≤ k ∧ k < 12) ∨ ((c = 47 ∨ c = 48) ∧ 4 ≤ k ∧ k < 8))) : ∀ (v0 : fw_V), mf_Mo_pulse_1 v0 c i k = v0 c i k := by
  intro v0
  unfold mf_Mo_pulse_1
  (try dsimp only)
  all_goals ((repeat' split) <;> (first | with_reducible rfl | (simp only [md1_28 hc hi, md1_29 hc hi, md1_31 hc hi, md1_32 hc hi, md1_33 hc hi, md1_34 hc hi, md1_35 hc hi, md1_36 hc hi, md1_37 hc hi, md1_38 hc hi, md1_39 hc hi, md1_43_3 hc hi, md1_43_4 hc hi, md1_43_5 hc hi, md1_47_4 hc hi, md1_48_4 hc hi, md1_47_5 hc hi, md1_48_5 hc hi, md1_47_6 hc hi, md1_48_6 hc hi, md1_47_7 hc hi, md1_48_7 hc hi, md1_46_6 hc hi, md1_46_7 hc hi, md1_46_8 hc hi, md1_46_9 hc hi, md1_46_10 hc hi, md1_46_11 hc hi, md1_0 hc hi, md1_9 hc hi, md1_44 hc hi, md1_send hc hi, md1_rp0 hc hi, md1_rp1 hc hi, md1_rp2 hc hi, md1_Mo_rest_1 hc hi, md1_Mo_quit_1 hc hi, md1_Mo_reply_1 hc hi, md1_Mo_alarm_1 hc hi, md1_Mo_pulse_1_j1 hc hi]; done)))
theorem mq0_Mo_mark_0_j2 {c i k : Nat} (hc : c = 44 ∧ ¬ (0 ≤ k ∧ k < 3)) : ∀ (v0 : fw_V) (a2 : Int32), (mf_Mo_mark_0_j2 v0 a2) c i k = v0 c i k := by
  intro v0 a2
  unfold mf_Mo_mark_0_j2
  (try dsimp only)
  all_goals ((repeat' split) <;> (first | with_reducible rfl | (simp only [fw_up_ne (c := 31) (i := 0) (k := 0) (c' := c) (i' := i) (k' := k) (by omega), msend_c (c' := c) (by omega) (by omega) (by omega) (by omega) (by omega) (by omega) (by omega)]; done)))
theorem mq0_Mo_mark_0_j1 {c i k : Nat} (hc : c = 44 ∧ ¬ (0 ≤ k ∧ k < 3)) : ∀ (v0 : fw_V) (a2 : Int32), (mf_Mo_mark_0_j1 v0 a2) c i k = v0 c i k := by
  intro v0 a2
  unfold mf_Mo_mark_0_j1
  (try dsimp only)
  all_goals ((repeat' split) <;> (first | with_reducible rfl | (simp only [msend_c (c' := c) (by omega) (by omega) (by omega) (by omega) (by omega) (by omega) (by omega), mq0_Mo_mark_0_j2 hc]; done)))
theorem mq0_Mo_mark_0_j3 {c i k : Nat} (hc : c = 44 ∧ ¬ (0 ≤ k ∧ k < 3)) : ∀ (v0 : fw_V) (a2 : Int32), (mf_Mo_mark_0_j3 v0 a2) c i k = v0 c i k := by
  intro v0 a2
  unfold mf_Mo_mark_0_j3
  (try dsimp only)
  all_goals ((repeat' split) <;> (first | with_reducible rfl | (simp only [fw_up_ne (c := 31) (i := 0) (k := 0) (c' := c) (i' := i) (k' := k) (by omega), msend_c (c' := c) (by omega) (by omega) (by omega) (by omega) (by omega) (by omega) (by omega)]; done)))
theorem mq0_Mo_mark_0 {c i k : Nat} (hc : c = 44 ∧ ¬ (0 ≤ k ∧ k < 3)) : ∀ (v0 : fw_V) (a2 : Int32), (mf_Mo_mark_0 v0 a2) c i k = v0 c i k := by
  intro v0 a2
  unfold mf_Mo_mark_0
  (try dsimp only)
  all_goals ((repeat' split) <;> (first | with_reducible rfl | (simp only [msend_c (c' := c) (by omega) (by omega) (by omega) (by omega) (by omega) (by omega) (by omega), mq0_Mo_mark_0_j1 hc, mq0_Mo_mark_0_j3 hc]; done)))
theorem mq0_Mo_replace_0_j8 {c i k : Nat} (hc : c = 44 ∧ ¬ (0 ≤ k ∧ k < 3)) : ∀ (v : fw_V) (a2 : Int32) (x4 : Int32), (mf_Mo_replace_0_j8 v a2 x4) c i k = v c i k := by
  intro v a2 x4
  unfold mf_Mo_replace_0_j8
  (try dsimp only)
  all_goals ((repeat' split) <;> (first | with_reducible rfl | (simp only [msend_c (c' := c) (by omega) (by omega) (by omega) (by omega) (by omega) (by omega) (by omega)]; done)))
theorem mq0_Mo_replace_0_j7 {c i k : Nat} (hc : c = 44 ∧ ¬ (0 ≤ k ∧ k < 3)) : ∀ (v : fw_V) (a2 : Int32) (x4 : Int32), (mf_Mo_replace_0_j7 v a2 x4) c i k = v c i k := by
  intro v a2 x4
  unfold mf_Mo_replace_0_j7
  (try dsimp only)
  all_goals ((repeat' split) <;> (first | with_reducible rfl | (simp only [msend_c (c' := c) (by omega) (by omega) (by omega) (by omega) (by omega) (by omega) (by omega), mq0_Mo_replace_0_j8 hc]; done)))
theorem mq0_Mo_replace_0_j6 {c i k : Nat} (hc : c = 44 ∧ ¬ (0 ≤ k ∧ k < 3)) : ∀ (v : fw_V) (a2 : Int32) (x4 : Int32), (mf_Mo_replace_0_j6 v a2 x4) c i k = v c i k := by
  intro v a2 x4
  unfold mf_Mo_replace_0_j6
  (try dsimp only)
  all_goals ((repeat' split) <;> (first | with_reducible rfl | (simp only [fw_up_c (c := 46) (c' := c) (by omega), msend_c (c' := c) (by omega) (by omega) (by omega) (by omega) (by omega) (by omega) (by omega), mq0_Mo_replace_0_j7 hc]; done)))
theorem mq0_Mo_replace_0_j5 {c i k : Nat} (hc : c = 44 ∧ ¬ (0 ≤ k ∧ k < 3)) : ∀ (v : fw_V) (a2 : Int32) (x4 : Int32), (mf_Mo_replace_0_j5 v a2 x4) c i k = v c i k := by
  intro v a2 x4
  unfold mf_Mo_replace_0_j5
  (try dsimp only)
  all_goals ((repeat' split) <;> (first | with_reducible rfl | (simp only [fw_up_c (c := 46) (c' := c) (by omega), msend_c (c' := c) (by omega) (by omega) (by omega) (by omega) (by omega) (by omega) (by omega), mq0_Mo_replace_0_j6 hc, mq0_Mo_replace_0_j7 hc]; done)))
theorem mq0_Mo_replace_0_j4 {c i k : Nat} (hc : c = 44 ∧ ¬ (0 ≤ k ∧ k < 3)) : ∀ (v : fw_V) (a2 : Int32) (x4 : Int32), (mf_Mo_replace_0_j4 v a2 x4) c i k = v c i k := by
  intro v a2 x4
  unfold mf_Mo_replace_0_j4
  (try dsimp only)
  all_goals ((repeat' split) <;> (first | with_reducible rfl | (simp only [msend_c (c' := c) (by omega) (by omega) (by omega) (by omega) (by omega) (by omega) (by omega), mq0_Mo_replace_0_j5 hc]; done)))
theorem mq0_Mo_replace_0_j3 {c i k : Nat} (hc : c = 44 ∧ ¬ (0 ≤ k ∧ k < 3)) : ∀ (v0 : fw_V) (a2 : Int32), (mf_Mo_replace_0_j3 v0 a2) c i k = v0 c i k := by
  intro v0 a2
  unfold mf_Mo_replace_0_j3
  (try dsimp only)
  all_goals ((repeat' split) <;> (first | with_reducible rfl | (simp only [fw_up_c (c := 46) (c' := c) (by omega), msend_c (c' := c) (by omega) (by omega) (by omega) (by omega) (by omega) (by omega) (by omega), mq0_Mo_replace_0_j4 hc]; done)))
theorem mq0_Mo_replace_0_j11 {c i k : Nat} (hc : c = 44 ∧ ¬ (0 ≤ k ∧ k < 3)) : ∀ (v0 : fw_V) (a2 : Int32), (mf_Mo_replace_0_j11 v0 a2) c i k = v0 c i k := by
  intro v0 a2
  unfold mf_Mo_replace_0_j11
  (try dsimp only)
  all_goals ((repeat' split) <;> (first | with_reducible rfl | (simp only [fw_up_c (c := 46) (c' := c) (by omega), msend_c (c' := c) (by omega) (by omega) (by omega) (by omega) (by omega) (by omega) (by omega), mq0_Mo_replace_0_j7 hc]; done)))
theorem mq0_Mo_replace_0_j13 {c i k : Nat} (hc : c = 44 ∧ ¬ (0 ≤ k ∧ k < 3)) : ∀ (v0 : fw_V) (a2 : Int32), (mf_Mo_replace_0_j13 v0 a2) c i k = v0 c i k := by
  intro v0 a2
  unfold mf_Mo_replace_0_j13
  (try dsimp only)
  all_goals ((repeat' split) <;> (first | with_reducible rfl | (simp only [msend_c (c' := c) (by omega) (by omega) (by omega) (by omega) (by omega) (by omega) (by omega)]; done)))
theorem mq0_Mo_replace_0_j12 {c i k : Nat} (hc : c = 44 ∧ ¬ (0 ≤ k ∧ k < 3)) : ∀ (v0 : fw_V) (a2 : Int32), (mf_Mo_replace_0_j12 v0 a2) c i k = v0 c i k := by
  intro v0 a2
  unfold mf_Mo_replace_0_j12
  (try dsimp only)
  all_goals ((repeat' split) <;> (first | with_reducible rfl | (simp only [msend_c (c' := c) (by omega) (by omega) (by omega) (by omega) (by omega) (by omega) (by omega), mq0_Mo_replace_0_j13 hc]; done)))
theorem mq0_Mo_replace_0_j10 {c i k : Nat} (hc : c = 44 ∧ ¬ (0 ≤ k ∧ k < 3)) : ∀ (v0 : fw_V) (a2 : Int32), (mf_Mo_replace_0_j10 v0 a2) c i k = v0 c i k := by
  intro v0 a2
  unfold mf_Mo_replace_0_j10
  (try dsimp only)
  all_goals ((repeat' split) <;> (first | with_reducible rfl | (simp only [fw_up_c (c := 46) (c' := c) (by omega), msend_c (c' := c) (by omega) (by omega) (by omega) (by omega) (by omega) (by omega) (by omega), mq0_Mo_replace_0_j11 hc, mq0_Mo_replace_0_j7 hc, mq0_Mo_replace_0_j12 hc]; done)))
theorem mq0_Mo_replace_0_j9 {c i k : Nat} (hc : c = 44 ∧ ¬ (0 ≤ k ∧ k < 3)) : ∀ (v0 : fw_V) (a2 : Int32), (mf_Mo_replace_0_j9 v0 a2) c i k = v0 c i k := by
  intro v0 a2
  unfold mf_Mo_replace_0_j9
  (try dsimp only)
  all_goals ((repeat' split) <;> (first | with_reducible rfl | (simp only [msend_c (c' := c) (by omega) (by omega) (by omega) (by omega) (by omega) (by omega) (by omega), mq0_Mo_replace_0_j10 hc]; done)))
theorem mq0_Mo_replace_0_j2 {c i k : Nat} (hc : c = 44 ∧ ¬ (0 ≤ k ∧ k < 3)) : ∀ (v0 : fw_V) (a2 : Int32), (mf_Mo_replace_0_j2 v0 a2) c i k = v0 c i k := by
  intro v0 a2
  unfold mf_Mo_replace_0_j2
  (try dsimp only)
  all_goals ((repeat' split) <;> (first | with_reducible rfl | (simp only [fw_up_c (c := 46) (c' := c) (by omega), msend_c (c' := c) (by omega) (by omega) (by omega) (by omega) (by omega) (by omega) (by omega), mq0_Mo_replace_0_j3 hc, mq0_Mo_replace_0_j4 hc, mq0_Mo_replace_0_j9 hc]; done)))
theorem mq0_Mo_replace_0_j1 {c i k : Nat} (hc : c = 44 ∧ ¬ (0 ≤ k ∧ k < 3)) : ∀ (v0 : fw_V) (a2 : Int32), (mf_Mo_replace_0_j1 v0 a2) c i k = v0 c i k := by
  intro v0 a2
  unfold mf_Mo_replace_0_j1
  (try dsimp only)
  all_goals ((repeat' split) <;> (first | with_reducible rfl | (simp only [msend_c (c' := c) (by omega) (by omega) (by omega) (by omega) (by omega) (by omega) (by omega), mq0_Mo_replace_0_j2 hc]; done)))
theorem mq0_Mo_replace_0_j21 {c i k : Nat} (hc : c = 44 ∧ ¬ (0 ≤ k ∧ k < 3)) : ∀ (v : fw_V) (a2 : Int32), (mf_Mo_replace_0_j21 v a2) c i k = v c i k := by
  intro v a2
  unfold mf_Mo_replace_0_j21
  (try dsimp only)
  all_goals ((repeat' split) <;> (first | with_reducible rfl | (simp only [msend_c (c' := c) (by omega) (by omega) (by omega) (by omega) (by omega) (by omega) (by omega)]; done)))
theorem mq0_Mo_replace_0_j20 {c i k : Nat} (hc : c = 44 ∧ ¬ (0 ≤ k ∧ k < 3)) : ∀ (v : fw_V) (a2 : Int32), (mf_Mo_replace_0_j20 v a2) c i k = v c i k := by
  intro v a2
  unfold mf_Mo_replace_0_j20
  (try dsimp only)
  all_goals ((repeat' split) <;> (first | with_reducible rfl | (simp only [msend_c (c' := c) (by omega) (by omega) (by omega) (by omega) (by omega) (by omega) (by omega), mq0_Mo_replace_0_j21 hc]; done)))
theorem mq0_Mo_replace_0_j19 {c i k : Nat} (hc : c = 44 ∧ ¬ (0 ≤ k ∧ k < 3)) : ∀ (v : fw_V) (a2 : Int32), (mf_Mo_replace_0_j19 v a2) c i k = v c i k := by
  intro v a2
  unfold mf_Mo_replace_0_j19
  (try dsimp only)
  all_goals ((repeat' split) <;> (first | with_reducible rfl | (simp only [fw_up_c (c := 46) (c' := c) (by omega), msend_c (c' := c) (by omega) (by omega) (by omega) (by omega) (by omega) (by omega) (by omega), mq0_Mo_replace_0_j20 hc]; done)))
theorem mq0_Mo_replace_0_j18 {c i k : Nat} (hc : c = 44 ∧ ¬ (0 ≤ k ∧ k < 3)) : ∀ (v : fw_V) (a2 : Int32), (mf_Mo_replace_0_j18 v a2) c i k = v c i k := by
  intro v a2
  unfold mf_Mo_replace_0_j18
  (try dsimp only)
  all_goals ((repeat' split) <;> (first | with_reducible rfl | (simp only [msend_c (c' := c) (by omega) (by omega) (by omega) (by omega) (by omega) (by omega) (by omega), mq0_Mo_replace_0_j19 hc]; done)))
theorem mq0_Mo_replace_0_j17 {c i k : Nat} (hc : c = 44 ∧ ¬ (0 ≤ k ∧ k < 3)) : ∀ (v : fw_V) (a2 : Int32), (mf_Mo_replace_0_j17 v a2) c i k = v c i k := by
  intro v a2
  unfold mf_Mo_replace_0_j17
  (try dsimp only)
  all_goals ((repeat' split) <;> (first | with_reducible rfl | (simp only [msend_c (c' := c) (by omega) (by omega) (by omega) (by omega) (by omega) (by omega) (by omega), mq0_Mo_replace_0_j18 hc]; done)))
theorem mq0_Mo_replace_0_j16 {c i k : Nat} (hc : c = 44 ∧ ¬ (0 ≤ k ∧ k < 3)) : ∀ (v0 : fw_V) (a2 : Int32), (mf_Mo_replace_0_j16 v0 a2) c i k = v0 c i k := by
  intro v0 a2
  unfold mf_Mo_replace_0_j16
  (try dsimp only)
  all_goals ((repeat' split) <;> (first | with_reducible rfl | (simp only [fw_up_c (c := 46) (c' := c) (by omega), msend_c (c' := c) (by omega) (by omega) (by omega) (by omega) (by omega) (by omega) (by omega), mq0_Mo_replace_0_j17 hc]; done)))
theorem mq0_Mo_replace_0_j15 {c i k : Nat} (hc : c = 44 ∧ ¬ (0 ≤ k ∧ k < 3)) : ∀ (v0 : fw_V) (a2 : Int32), (mf_Mo_replace_0_j15 v0 a2) c i k = v0 c i k := by
  intro v0 a2
  unfold mf_Mo_replace_0_j15
  (try dsimp only)
  all_goals ((repeat' split) <;> (first | with_reducible rfl | (simp only [msend_c (c' := c) (by omega) (by omega) (by omega) (by omega) (by omega) (by omega) (by omega), mq0_Mo_replace_0_j16 hc]; done)))
theorem mq0_Mo_replace_0_j14 {c i k : Nat} (hc : c = 44 ∧ ¬ (0 ≤ k ∧ k < 3)) : ∀ (v0 : fw_V) (a2 : Int32), (mf_Mo_replace_0_j14 v0 a2) c i k = v0 c i k := by
  intro v0 a2
  unfold mf_Mo_replace_0_j14
  (try dsimp only)
  all_goals ((repeat' split) <;> (first | with_reducible rfl | (simp only [msend_c (c' := c) (by omega) (by omega) (by omega) (by omega) (by omega) (by omega) (by omega), mq0_Mo_replace_0_j15 hc]; done)))
theorem mq0_Mo_replace_0 {c i k : Nat} (hc : c = 44 ∧ ¬ (0 ≤ k ∧ k < 3)) : ∀ (v0 : fw_V) (a2 : Int32), (mf_Mo_replace_0 v0 a2) c i k = v0 c i k := by
  intro v0 a2
  unfold mf_Mo_replace_0
  (try dsimp only)
  all_goals ((repeat' split) <;> (first | with_reducible rfl | (simp only [msend_c (c' := c) (by omega) (by omega) (by omega) (by omega) (by omega) (by omega) (by omega), mq0_Mo_replace_0_j1 hc, mq0_Mo_replace_0_j14 hc]; done)))
theorem mq0_Mo_reply_0 {c i k : Nat} (hc : c = 44 ∧ ¬ (0 ≤ k ∧ k < 3)) : ∀ (v0 : fw_V) (a2 : Int32) (a3 : Int32), (mf_Mo_reply_0 v0 a2 a3) c i k = v0 c i k := by
  intro v0 a2 a3
  unfold mf_Mo_reply_0
  (try dsimp only)
  all_goals ((repeat' split) <;> (first | with_reducible rfl | (simp only [msend_c (c' := c) (by omega) (by omega) (by omega) (by omega) (by omega) (by omega) (by omega)]; done)))
theorem mq0_Mo_connect_0_j1 {c i k : Nat} (hc : c = 44 ∧ ¬ (0 ≤ k ∧ k < 3)) : ∀ (v0 : fw_V) (a2 : Int32), (mf_Mo_connect_0_j1 v0 a2) c i k = v0 c i k := by
  intro v0 a2
  unfold mf_Mo_connect_0_j1
  (try dsimp only)
  all_goals ((repeat' split) <;> (first | with_reducible rfl | (simp only [fw_up_ne (c := 28) (i := 0) (k := 0) (c' := c) (i' := i) (k' := k) (by omega), fw_up_ne (c := 29) (i := 0) (k := 0) (c' := c) (i' := i) (k' := k) (by omega), fw_up_ne (c := 32) (i := 0) (k := 0) (c' := c) (i' := i) (k' := k) (by omega), fw_up_ne (c := 43) (i := 0) (k := 0) (c' := c) (i' := i) (k' := k) (by omega), fw_up_ne (c := 44) (i := 0) (k := 0) (c' := c) (i' := i) (k' := k) (by omega), fw_up_ne (c := 43) (i := 0) (k := 1) (c' := c) (i' := i) (k' := k) (by omega), fw_up_ne (c := 44) (i := 0) (k := 1) (c' := c) (i' := i) (k' := k) (by omega), fw_up_ne (c := 43) (i := 0) (k := 2) (c' := c) (i' := i) (k' := k) (by omega), fw_up_ne (c := 44) (i := 0) (k := 2) (c' := c) (i' := i) (k' := k) (by omega), msend_c (c' := c) (by omega) (by omega) (by omega) (by omega) (by omega) (by omega) (by omega), mq0_Mo_mark_0 hc, mq0_Mo_reply_0 hc]; done)))
theorem mq0_Mo_connect_0 {c i k : Nat} (hc : c = 44 ∧ ¬ (0 ≤ k ∧ k < 3)) : ∀ (v0 : fw_V) (a2 : Int32), (mf_Mo_connect_0 v0 a2) c i k = v0 c i k := by
  intro v0 a2
  unfold mf_Mo_connect_0
  (try dsimp only)
  all_goals ((repeat' split) <;> (first | with_reducible rfl | (simp only [msend_c (c' := c) (by omega) (by omega) (by omega) (by omega) (by omega) (by omega) (by omega), mq0_Mo_connect_0_j1 hc]; done)))
theorem mq0_Mo_rest_0_j7 {c i k : Nat} (hc : c = 44 ∧ ¬ (0 ≤ k ∧ k < 3)) : ∀ (v : fw_V), (mf_Mo_rest_0_j7 v) c i k = v c i k := by
  intro v
  unfold mf_Mo_rest_0_j7
  (try dsimp only)
  all_goals ((repeat' split) <;> (first | with_reducible rfl | (simp only [msend_c (c' := c) (by omega) (by omega) (by omega) (by omega) (by omega) (by omega) (by omega)]; done)))
theorem mq0_Mo_rest_0_j6 {c i k : Nat} (hc : c = 44 ∧ ¬ (0 ≤ k ∧ k < 3)) : ∀ (v : fw_V), (mf_Mo_rest_0_j6 v) c i k = v c i k := by
  intro v
  unfold mf_Mo_rest_0_j6
  (try dsimp only)
  all_goals ((repeat' split) <;> (first | with_reducible rfl | (simp only [msend_c (c' := c) (by omega) (by omega) (by omega) (by omega) (by omega) (by omega) (by omega), mq0_Mo_replace_0 hc, mq0_Mo_rest_0_j7 hc]; done)))
theorem mq0_Mo_rest_0_j5 {c i k : Nat} (hc : c = 44 ∧ ¬ (0 ≤ k ∧ k < 3)) : ∀ (v : fw_V), (mf_Mo_rest_0_j5 v) c i k = v c i k := by
  intro v
  unfold mf_Mo_rest_0_j5
  (try dsimp only)
  all_goals ((repeat' split) <;> (first | with_reducible rfl | (simp only [msend_c (c' := c) (by omega) (by omega) (by omega) (by omega) (by omega) (by omega) (by omega), mq0_Mo_replace_0 hc, mq0_Mo_rest_0_j6 hc]; done)))
theorem mq0_Mo_rest_0_j4 {c i k : Nat} (hc : c = 44 ∧ ¬ (0 ≤ k ∧ k < 3)) : ∀ (v : fw_V), (mf_Mo_rest_0_j4 v) c i k = v c i k := by
  intro v
  unfold mf_Mo_rest_0_j4
  (try dsimp only)
  all_goals ((repeat' split) <;> (first | with_reducible rfl | (simp only [msend_c (c' := c) (by omega) (by omega) (by omega) (by omega) (by omega) (by omega) (by omega), mq0_Mo_replace_0 hc, mq0_Mo_rest_0_j5 hc]; done)))
theorem mq0_Mo_rest_0_j3 {c i k : Nat} (hc : c = 44 ∧ ¬ (0 ≤ k ∧ k < 3)) : ∀ (v0 : fw_V), (mf_Mo_rest_0_j3 v0) c i k = v0 c i k := by
  intro v0
  unfold mf_Mo_rest_0_j3
  (try dsimp only)
  all_goals ((repeat' split) <;> (first | with_reducible rfl | (simp only [fw_up_ne (c := 28) (i := 0) (k := 0) (c' := c) (i' := i) (k' := k) (by omega), fw_up_ne (c := 29) (i := 0) (k := 0) (c' := c) (i' := i) (k' := k) (by omega), fw_up_ne (c := 31) (i := 0) (k := 0) (c' := c) (i' := i) (k' := k) (by omega), fw_up_ne (c := 32) (i := 0) (k := 0) (c' := c) (i' := i) (k' := k) (by omega), fw_up_ne (c := 37) (i := 0) (k := 0) (c' := c) (i' := i) (k' := k) (by omega), fw_up_ne (c := 36) (i := 0) (k := 0) (c' := c) (i' := i) (k' := k) (by omega), fw_up_ne (c := 43) (i := 0) (k := 0) (c' := c) (i' := i) (k' := k) (by omega), fw_up_ne (c := 44) (i := 0) (k := 0) (c' := c) (i' := i) (k' := k) (by omega), fw_up_ne (c := 43) (i := 0) (k := 1) (c' := c) (i' := i) (k' := k) (by omega), fw_up_ne (c := 44) (i := 0) (k := 1) (c' := c) (i' := i) (k' := k) (by omega), fw_up_ne (c := 43) (i := 0) (k := 2) (c' := c) (i' := i) (k' := k) (by omega), fw_up_ne (c := 44) (i := 0) (k := 2) (c' := c) (i' := i) (k' := k) (by omega), msend_c (c' := c) (by omega) (by omega) (by omega) (by omega) (by omega) (by omega) (by omega), mq0_Mo_rest_0_j4 hc]; done)))
theorem mq0_Mo_rest_0_j2 {c i k : Nat} (hc : c = 44 ∧ ¬ (0 ≤ k ∧ k < 3)) : ∀ (v : fw_V), (mf_Mo_rest_0_j2 v) c i k = v c i k := by
  intro v
  unfold mf_Mo_rest_0_j2
  (try dsimp only)
  all_goals ((repeat' split) <;> (first | with_reducible rfl | (simp only [msend_c (c' := c) (by omega) (by omega) (by omega) (by omega) (by omega) (by omega) (by omega)]; done)))
theorem mq0_Mo_rest_0_j1 {c i k : Nat} (hc : c = 44 ∧ ¬ (0 ≤ k ∧ k < 3)) : ∀ (v0 : fw_V), (mf_Mo_rest_0_j1 v0) c i k = v0 c i k := by
  intro v0
  unfold mf_Mo_rest_0_j1
  (try dsimp only)
  all_goals ((repeat' split) <;> (first | with_reducible rfl | (simp only [fw_up_ne (c := 28) (i := 0) (k := 0) (c' := c) (i' := i) (k' := k) (by omega), fw_up_ne (c := 29) (i := 0) (k := 0) (c' := c) (i' := i) (k' := k) (by omega), fw_up_ne (c := 31) (i := 0) (k := 0) (c' := c) (i' := i) (k' := k) (by omega), fw_up_ne (c := 32) (i := 0) (k := 0) (c' := c) (i' := i) (k' := k) (by omega), fw_up_ne (c := 37) (i := 0) (k := 0) (c' := c) (i' := i) (k' := k) (by omega), fw_up_ne (c := 36) (i := 0) (k := 0) (c' := c) (i' := i) (k' := k) (by omega), fw_up_ne (c := 43) (i := 0) (k := 0) (c' := c) (i' := i) (k' := k) (by omega), fw_up_ne (c := 44) (i := 0) (k := 0) (c' := c) (i' := i) (k' := k) (by omega), fw_up_ne (c := 43) (i := 0) (k := 1) (c' := c) (i' := i) (k' := k) (by omega), fw_up_ne (c := 44) (i := 0) (k := 1) (c' := c) (i' := i) (k' := k) (by omega), fw_up_ne (c := 43) (i := 0) (k := 2) (c' := c) (i' := i) (k' := k) (by omega), fw_up_ne (c := 44) (i := 0) (k := 2) (c' := c) (i' := i) (k' := k) (by omega), msend_c (c' := c) (by omega) (by omega) (by omega) (by omega) (by omega) (by omega) (by omega), mq0_Mo_rest_0_j2 hc]; done)))
theorem mq0_Mo_rest_0 {c i k : Nat} (hc : c = 44 ∧ ¬ (0 ≤ k ∧ k < 3)) : ∀ (v0 : fw_V), (mf_Mo_rest_0 v0) c i k = v0 c i k := by
  intro v0
  unfold mf_Mo_rest_0
  (try dsimp only)
  all_goals ((repeat' split) <;> (first | with_reducible rfl | (simp only [msend_c (c' := c) (by omega) (by omega) (by omega) (by omega) (by omega) (by omega) (by omega), mq0_Mo_rest_0_j3 hc, mq0_Mo_rest_0_j1 hc]; done)))
theorem mq0_Mo_quit_0 {c i k : Nat} (hc : c = 44 ∧ ¬ (0 ≤ k ∧ k < 3)) : ∀ (v0 : fw_V), (mf_Mo_quit_0 v0) c i k = v0 c i k := by
  intro v0
  unfold mf_Mo_quit_0
  (try dsimp only)
  all_goals ((repeat' split) <;> (first | with_reducible rfl | (simp only [msend_c (c' := c) (by omega) (by omega) (by omega) (by omega) (by omega) (by omega) (by omega), mq0_Mo_reply_0 hc, mq0_Mo_rest_0 hc]; done)))
theorem mq0_Mo_alarm_0_j2 {c i k : Nat} (hc : c = 44 ∧ ¬ (0 ≤ k ∧ k < 3)) : ∀ (v : fw_V), (mf_Mo_alarm_0_j2 v) c i k = v c i k := by
  intro v
  unfold mf_Mo_alarm_0_j2
  (try dsimp only)
  all_goals ((repeat' split) <;> (first | with_reducible rfl | (simp only [fw_up_ne (c := 38) (i := 0) (k := 0) (c' := c) (i' := i) (k' := k) (by omega), fw_up_ne (c := 9) (i := 0) (k := 0) (c' := c) (i' := i) (k' := k) (by omega), fw_up_ne (c := 9) (i := 0) (k := 1) (c' := c) (i' := i) (k' := k) (by omega), msend_c (c' := c) (by omega) (by omega) (by omega) (by omega) (by omega) (by omega) (by omega), mq0_Mo_reply_0 hc]; done)))
theorem mq0_Mo_alarm_0_j3 {c i k : Nat} (hc : c = 44 ∧ ¬ (0 ≤ k ∧ k < 3)) : ∀ (v0 : fw_V), (mf_Mo_alarm_0_j3 v0) c i k = v0 c i k := by
  intro v0
  unfold mf_Mo_alarm_0_j3
  (try dsimp only)
  all_goals ((repeat' split) <;> (first | with_reducible rfl | (simp only [fw_up_ne (c := 39) (i := 0) (k := 0) (c' := c) (i' := i) (k' := k) (by omega), fw_up_ne (c := 36) (i := 0) (k := 0) (c' := c) (i' := i) (k' := k) (by omega), msend_c (c' := c) (by omega) (by omega) (by omega) (by omega) (by omega) (by omega) (by omega), mq0_Mo_alarm_0_j2 hc]; done)))
theorem mq0_Mo_alarm_0_j1 {c i k : Nat} (hc : c = 44 ∧ ¬ (0 ≤ k ∧ k < 3)) : ∀ (v0 : fw_V), (mf_Mo_alarm_0_j1 v0) c i k = v0 c i k := by
  intro v0
  unfold mf_Mo_alarm_0_j1
  (try dsimp only)
  all_goals ((repeat' split) <;> (first | with_reducible rfl | (simp only [fw_up_ne (c := 39) (i := 0) (k := 0) (c' := c) (i' := i) (k' := k) (by omega), fw_up_ne (c := 36) (i := 0) (k := 0) (c' := c) (i' := i) (k' := k) (by omega), msend_c (c' := c) (by omega) (by omega) (by omega) (by omega) (by omega) (by omega) (by omega), mq0_Mo_alarm_0_j2 hc]; done)))
theorem mq0_Mo_alarm_0 {c i k : Nat} (hc : c = 44 ∧ ¬ (0 ≤ k ∧ k < 3)) : ∀ (v0 : fw_V), (mf_Mo_alarm_0 v0) c i k = v0 c i k := by
  intro v0
  unfold mf_Mo_alarm_0
  (try dsimp only)
  all_goals ((repeat' split) <;> (first | with_reducible rfl | (simp only [fw_up_ne (c := 38) (i := 0) (k := 0) (c' := c) (i' := i) (k' := k) (by omega), msend_c (c' := c) (by omega) (by omega) (by omega) (by omega) (by omega) (by omega) (by omega), mq0_Mo_alarm_0_j3 hc, mq0_Mo_alarm_0_j1 hc, mq0_Mo_alarm_0_j2 hc]; done)))
theorem mq0_Mo_pulse_0_j25 {c i k : Nat} (hc : c = 44 ∧ ¬ (0 ≤ k ∧ k < 3)) : ∀ (v : fw_V), (mf_Mo_pulse_0_j25 v) c i k = v c i k := by
  intro v
  unfold mf_Mo_pulse_0_j25
  (try dsimp only)
  all_goals ((repeat' split) <;> (first | with_reducible rfl | (simp only [fw_up_ne (c := 9) (i := 0) (k := 6) (c' := c) (i' := i) (k' := k) (by omega), fw_up_ne (c := 34) (i := 0) (k := 0) (c' := c) (i' := i) (k' := k) (by omega), msend_c (c' := c) (by omega) (by omega) (by omega) (by omega) (by omega) (by omega) (by omega), mq0_Mo_reply_0 hc]; done)))
theorem mq0_Mo_pulse_0_j24 {c i k : Nat} (hc : c = 44 ∧ ¬ (0 ≤ k ∧ k < 3)) : ∀ (v : fw_V), (mf_Mo_pulse_0_j24 v) c i k = v c i k := by
  intro v
  unfold mf_Mo_pulse_0_j24
  (try dsimp only)
  all_goals ((repeat' split) <;> (first | with_reducible rfl | (simp only [msend_c (c' := c) (by omega) (by omega) (by omega) (by omega) (by omega) (by omega) (by omega), mq0_Mo_pulse_0_j25 hc]; done)))
theorem mq0_Mo_pulse_0_j27 {c i k : Nat} (hc : c = 44 ∧ ¬ (0 ≤ k ∧ k < 3)) : ∀ (v : fw_V), (mf_Mo_pulse_0_j27 v) c i k = v c i k := by
  intro v
  unfold mf_Mo_pulse_0_j27
  (try dsimp only)
  all_goals ((repeat' split) <;> (first | with_reducible rfl | (simp only [fw_up_ne (c := 9) (i := 0) (k := 6) (c' := c) (i' := i) (k' := k) (by omega), fw_up_ne (c := 34) (i := 0) (k := 0) (c' := c) (i' := i) (k' := k) (by omega), msend_c (c' := c) (by omega) (by omega) (by omega) (by omega) (by omega) (by omega) (by omega), mq0_Mo_reply_0 hc]; done)))
theorem mq0_Mo_pulse_0_j26 {c i k : Nat} (hc : c = 44 ∧ ¬ (0 ≤ k ∧ k < 3)) : ∀ (v : fw_V), (mf_Mo_pulse_0_j26 v) c i k = v c i k := by
  intro v
  unfold mf_Mo_pulse_0_j26
  (try dsimp only)
  all_goals ((repeat' split) <;> (first | with_reducible rfl | (simp only [msend_c (c' := c) (by omega) (by omega) (by omega) (by omega) (by omega) (by omega) (by omega), mq0_Mo_pulse_0_j27 hc]; done)))
theorem mq0_Mo_pulse_0_j23 {c i k : Nat} (hc : c = 44 ∧ ¬ (0 ≤ k ∧ k < 3)) : ∀ (v : fw_V) (x4 : Int32), (mf_Mo_pulse_0_j23 v x4) c i k = v c i k := by
  intro v x4
  unfold mf_Mo_pulse_0_j23
  (try dsimp only)
  all_goals ((repeat' split) <;> (first | with_reducible rfl | (simp only [fw_up_ne (c := 9) (i := 0) (k := 5) (c' := c) (i' := i) (k' := k) (by omega), msend_c (c' := c) (by omega) (by omega) (by omega) (by omega) (by omega) (by omega) (by omega), mq0_Mo_pulse_0_j24 hc, mq0_Mo_pulse_0_j26 hc]; done)))
theorem mq0_Mo_pulse_0_j22 {c i k : Nat} (hc : c = 44 ∧ ¬ (0 ≤ k ∧ k < 3)) : ∀ (v : fw_V) (x4 : Int32), (mf_Mo_pulse_0_j22 v x4) c i k = v c i k := by
  intro v x4
  unfold mf_Mo_pulse_0_j22
  (try dsimp only)
  all_goals ((repeat' split) <;> (first | with_reducible rfl | (simp only [msend_c (c' := c) (by omega) (by omega) (by omega) (by omega) (by omega) (by omega) (by omega), mq0_Mo_pulse_0_j23 hc]; done)))
theorem mq0_Mo_pulse_0_j28 {c i k : Nat} (hc : c = 44 ∧ ¬ (0 ≤ k ∧ k < 3)) : ∀ (v : fw_V) (x4 : Int32) (x90 : Int32), (mf_Mo_pulse_0_j28 v x4 x90) c i k = v c i k := by
  intro v x4 x90
  unfold mf_Mo_pulse_0_j28
  (try dsimp only)
  all_goals ((repeat' split) <;> (first | with_reducible rfl | (simp only [fw_up_ne (c := 9) (i := 0) (k := 5) (c' := c) (i' := i) (k' := k) (by omega), msend_c (c' := c) (by omega) (by omega) (by omega) (by omega) (by omega) (by omega) (by omega), mq0_Mo_pulse_0_j24 hc, mq0_Mo_pulse_0_j26 hc]; done)))
theorem mq0_Mo_pulse_0_j21 {c i k : Nat} (hc : c = 44 ∧ ¬ (0 ≤ k ∧ k < 3)) : ∀ (v : fw_V), (mf_Mo_pulse_0_j21 v) c i k = v c i k := by
  intro v
  unfold mf_Mo_pulse_0_j21
  (try dsimp only)
  all_goals ((repeat' split) <;> (first | with_reducible rfl | (simp only [msend_c (c' := c) (by omega) (by omega) (by omega) (by omega) (by omega) (by omega) (by omega), mq0_Mo_pulse_0_j22 hc, mq0_Mo_pulse_0_j28 hc]; done)))
theorem mq0_Mo_pulse_0_j20 {c i k : Nat} (hc : c = 44 ∧ ¬ (0 ≤ k ∧ k < 3)) : ∀ (v : fw_V), (mf_Mo_pulse_0_j20 v) c i k = v c i k := by
  intro v
  unfold mf_Mo_pulse_0_j20
  (try dsimp only)
  all_goals ((repeat' split) <;> (first | with_reducible rfl | (simp only [msend_c (c' := c) (by omega) (by omega) (by omega) (by omega) (by omega) (by omega) (by omega), mq0_Mo_pulse_0_j21 hc]; done)))
theorem mq0_Mo_pulse_0_j33 {c i k : Nat} (hc : c = 44 ∧ ¬ (0 ≤ k ∧ k < 3)) : ∀ (v : fw_V), (mf_Mo_pulse_0_j33 v) c i k = v c i k := by
  intro v
  unfold mf_Mo_pulse_0_j33
  (try dsimp only)
  all_goals ((repeat' split) <;> (first | with_reducible rfl | (simp only [msend_c (c' := c) (by omega) (by omega) (by omega) (by omega) (by omega) (by omega) (by omega), mq0_Mo_pulse_0_j27 hc]; done)))
theorem mq0_Mo_pulse_0_j34 {c i k : Nat} (hc : c = 44 ∧ ¬ (0 ≤ k ∧ k < 3)) : ∀ (v : fw_V), (mf_Mo_pulse_0_j34 v) c i k = v c i k := by
  intro v
  unfold mf_Mo_pulse_0_j34
  (try dsimp only)
  all_goals ((repeat' split) <;> (first | with_reducible rfl | (simp only [msend_c (c' := c) (by omega) (by omega) (by omega) (by omega) (by omega) (by omega) (by omega), mq0_Mo_pulse_0_j27 hc]; done)))
theorem mq0_Mo_pulse_0_j32 {c i k : Nat} (hc : c = 44 ∧ ¬ (0 ≤ k ∧ k < 3)) : ∀ (v : fw_V) (x4 : Int32), (mf_Mo_pulse_0_j32 v x4) c i k = v c i k := by
  intro v x4
  unfold mf_Mo_pulse_0_j32
  (try dsimp only)
  all_goals ((repeat' split) <;> (first | with_reducible rfl | (simp only [fw_up_ne (c := 9) (i := 0) (k := 5) (c' := c) (i' := i) (k' := k) (by omega), msend_c (c' := c) (by omega) (by omega) (by omega) (by omega) (by omega) (by omega) (by omega), mq0_Mo_pulse_0_j33 hc, mq0_Mo_pulse_0_j34 hc]; done)))
theorem mq0_Mo_pulse_0_j31 {c i k : Nat} (hc : c = 44 ∧ ¬ (0 ≤ k ∧ k < 3)) : ∀ (v : fw_V) (x4 : Int32), (mf_Mo_pulse_0_j31 v x4) c i k = v c i k := by
  intro v x4
  unfold mf_Mo_pulse_0_j31
  (try dsimp only)
  all_goals ((repeat' split) <;> (first | with_reducible rfl | (simp only [msend_c (c' := c) (by omega) (by omega) (by omega) (by omega) (by omega) (by omega) (by omega), mq0_Mo_pulse_0_j32 hc]; done)))
theorem mq0_Mo_pulse_0_j35 {c i k : Nat} (hc : c = 44 ∧ ¬ (0 ≤ k ∧ k < 3)) : ∀ (v : fw_V) (x4 : Int32) (x90 : Int32), (mf_Mo_pulse_0_j35 v x4 x90) c i k = v c i k := by
  intro v x4 x90
  unfold mf_Mo_pulse_0_j35
  (try dsimp only)
  all_goals ((repeat' split) <;> (first | with_reducible rfl | (simp only [fw_up_ne (c := 9) (i := 0) (k := 5) (c' := c) (i' := i) (k' := k) (by omega), msend_c (c' := c) (by omega) (by omega) (by omega) (by omega) (by omega) (by omega) (by omega), mq0_Mo_pulse_0_j33 hc, mq0_Mo_pulse_0_j34 hc]; done)))
theorem mq0_Mo_pulse_0_j30 {c i k : Nat} (hc : c = 44 ∧ ¬ (0 ≤ k ∧ k < 3)) : ∀ (v : fw_V), (mf_Mo_pulse_0_j30 v) c i k = v c i k := by
  intro v
  unfold mf_Mo_pulse_0_j30
  (try dsimp only)
  all_goals ((repeat' split) <;> (first | with_reducible rfl | (simp only [msend_c (c' := c) (by omega) (by omega) (by omega) (by omega) (by omega) (by omega) (by omega), mq0_Mo_pulse_0_j31 hc, mq0_Mo_pulse_0_j35 hc]; done)))
theorem mq0_Mo_pulse_0_j29 {c i k : Nat} (hc : c = 44 ∧ ¬ (0 ≤ k ∧ k < 3)) : ∀ (v : fw_V), (mf_Mo_pulse_0_j29 v) c i k = v c i k := by
  intro v
  unfold mf_Mo_pulse_0_j29
  (try dsimp only)
  all_goals ((repeat' split) <;> (first | with_reducible rfl | (simp only [msend_c (c' := c) (by omega) (by omega) (by omega) (by omega) (by omega) (by omega) (by omega), mq0_Mo_pulse_0_j30 hc]; done)))
theorem mq0_Mo_pulse_0_j19 {c i k : Nat} (hc : c = 44 ∧ ¬ (0 ≤ k ∧ k < 3)) : ∀ (v : fw_V) (x4 : Int32), (mf_Mo_pulse_0_j19 v x4) c i k = v c i k := by
  intro v x4
  unfold mf_Mo_pulse_0_j19
  (try dsimp only)
  all_goals ((repeat' split) <;> (first | with_reducible rfl | (simp only [fw_up_ne (c := 9) (i := 0) (k := 4) (c' := c) (i' := i) (k' := k) (by omega), msend_c (c' := c) (by omega) (by omega) (by omega) (by omega) (by omega) (by omega) (by omega), mq0_Mo_pulse_0_j20 hc, mq0_Mo_pulse_0_j29 hc]; done)))
theorem mq0_Mo_pulse_0_j18 {c i k : Nat} (hc : c = 44 ∧ ¬ (0 ≤ k ∧ k < 3)) : ∀ (v : fw_V) (x4 : Int32), (mf_Mo_pulse_0_j18 v x4) c i k = v c i k := by
  intro v x4
  unfold mf_Mo_pulse_0_j18
  (try dsimp only)
  all_goals ((repeat' split) <;> (first | with_reducible rfl | (simp only [msend_c (c' := c) (by omega) (by omega) (by omega) (by omega) (by omega) (by omega) (by omega), mq0_Mo_pulse_0_j19 hc]; done)))
theorem mq0_Mo_pulse_0_j36 {c i k : Nat} (hc : c = 44 ∧ ¬ (0 ≤ k ∧ k < 3)) : ∀ (v : fw_V) (x4 : Int32) (x90 : Int32), (mf_Mo_pulse_0_j36 v x4 x90) c i k = v c i k := by
  intro v x4 x90
  unfold mf_Mo_pulse_0_j36
  (try dsimp only)
  all_goals ((repeat' split) <;> (first | with_reducible rfl | (simp only [fw_up_ne (c := 9) (i := 0) (k := 4) (c' := c) (i' := i) (k' := k) (by omega), msend_c (c' := c) (by omega) (by omega) (by omega) (by omega) (by omega) (by omega) (by omega), mq0_Mo_pulse_0_j20 hc, mq0_Mo_pulse_0_j29 hc]; done)))
theorem mq0_Mo_pulse_0_j17 {c i k : Nat} (hc : c = 44 ∧ ¬ (0 ≤ k ∧ k < 3)) : ∀ (v : fw_V), (mf_Mo_pulse_0_j17 v) c i k = v c i k := by
  intro v
  unfold mf_Mo_pulse_0_j17
  (try dsimp only)
  all_goals ((repeat' split) <;> (first | with_reducible rfl | (simp only [msend_c (c' := c) (by omega) (by omega) (by omega) (by omega) (by omega) (by omega) (by omega), mq0_Mo_pulse_0_j18 hc, mq0_Mo_pulse_0_j36 hc]; done)))
theorem mq0_Mo_pulse_0_j16 {c i k : Nat} (hc : c = 44 ∧ ¬ (0 ≤ k ∧ k < 3)) : ∀ (v : fw_V), (mf_Mo_pulse_0_j16 v) c i k = v c i k := by
  intro v
  unfold mf_Mo_pulse_0_j16
  (try dsimp only)
  all_goals ((repeat' split) <;> (first | with_reducible rfl | (simp only [msend_c (c' := c) (by omega) (by omega) (by omega) (by omega) (by omega) (by omega) (by omega), mq0_Mo_pulse_0_j17 hc]; done)))
theorem mq0_Mo_pulse_0_j46 {c i k : Nat} (hc : c = 44 ∧ ¬ (0 ≤ k ∧ k < 3)) : ∀ (v : fw_V), (mf_Mo_pulse_0_j46 v) c i k = v c i k := by
  intro v
  unfold mf_Mo_pulse_0_j46
  (try dsimp only)
  all_goals ((repeat' split) <;> (first | with_reducible rfl | (simp only [fw_up_ne (c := 9) (i := 0) (k := 6) (c' := c) (i' := i) (k' := k) (by omega), fw_up_ne (c := 34) (i := 0) (k := 0) (c' := c) (i' := i) (k' := k) (by omega), msend_c (c' := c) (by omega) (by omega) (by omega) (by omega) (by omega) (by omega) (by omega), mq0_Mo_reply_0 hc]; done)))
theorem mq0_Mo_pulse_0_j45 {c i k : Nat} (hc : c = 44 ∧ ¬ (0 ≤ k ∧ k < 3)) : ∀ (v : fw_V), (mf_Mo_pulse_0_j45 v) c i k = v c i k := by
  intro v
  unfold mf_Mo_pulse_0_j45
  (try dsimp only)
  all_goals ((repeat' split) <;> (first | with_reducible rfl | (simp only [msend_c (c' := c) (by omega) (by omega) (by omega) (by omega) (by omega) (by omega) (by omega), mq0_Mo_pulse_0_j46 hc]; done)))
theorem mq0_Mo_pulse_0_j48 {c i k : Nat} (hc : c = 44 ∧ ¬ (0 ≤ k ∧ k < 3)) : ∀ (v : fw_V), (mf_Mo_pulse_0_j48 v) c i k = v c i k := by
  intro v
  unfold mf_Mo_pulse_0_j48
  (try dsimp only)
  all_goals ((repeat' split) <;> (first | with_reducible rfl | (simp only [fw_up_ne (c := 9) (i := 0) (k := 6) (c' := c) (i' := i) (k' := k) (by omega), fw_up_ne (c := 34) (i := 0) (k := 0) (c' := c) (i' := i) (k' := k) (by omega), msend_c (c' := c) (by omega) (by omega) (by omega) (by omega) (by omega) (by omega) (by omega), mq0_Mo_reply_0 hc]; done)))
theorem mq0_Mo_pulse_0_j47 {c i k : Nat} (hc : c = 44 ∧ ¬ (0 ≤ k ∧ k < 3)) : ∀ (v : fw_V), (mf_Mo_pulse_0_j47 v) c i k = v c i k := by
  intro v
  unfold mf_Mo_pulse_0_j47
  (try dsimp only)
  all_goals ((repeat' split) <;> (first | with_reducible rfl | (simp only [msend_c (c' := c) (by omega) (by omega) (by omega) (by omega) (by omega) (by omega) (by omega), mq0_Mo_pulse_0_j48 hc]; done)))
theorem mq0_Mo_pulse_0_j44 {c i k : Nat} (hc : c = 44 ∧ ¬ (0 ≤ k ∧ k < 3)) : ∀ (v : fw_V) (x4 : Int32), (mf_Mo_pulse_0_j44 v x4) c i k = v c i k := by
  intro v x4
  unfold mf_Mo_pulse_0_j44
  (try dsimp only)
  all_goals ((repeat' split) <;> (first | with_reducible rfl | (simp only [fw_up_ne (c := 9) (i := 0) (k := 5) (c' := c) (i' := i) (k' := k) (by omega), msend_c (c' := c) (by omega) (by omega) (by omega) (by omega) (by omega) (by omega) (by omega), mq0_Mo_pulse_0_j45 hc, mq0_Mo_pulse_0_j47 hc]; done)))
theorem mq0_Mo_pulse_0_j43 {c i k : Nat} (hc : c = 44 ∧ ¬ (0 ≤ k ∧ k < 3)) : ∀ (v : fw_V) (x4 : Int32), (mf_Mo_pulse_0_j43 v x4) c i k = v c i k := by
  intro v x4
  unfold mf_Mo_pulse_0_j43
  (try dsimp only)
  all_goals ((repeat' split) <;> (first | with_reducible rfl | (simp only [msend_c (c' := c) (by omega) (by omega) (by omega) (by omega) (by omega) (by omega) (by omega), mq0_Mo_pulse_0_j44 hc]; done)))
theorem mq0_Mo_pulse_0_j49 {c i k : Nat} (hc : c = 44 ∧ ¬ (0 ≤ k ∧ k < 3)) : ∀ (v : fw_V) (x4 : Int32) (x90 : Int32), (mf_Mo_pulse_0_j49 v x4 x90) c i k = v c i k := by
  intro v x4 x90
  unfold mf_Mo_pulse_0_j49
  (try dsimp only)
  all_goals ((repeat' split) <;> (first | with_reducible rfl | (simp only [fw_up_ne (c := 9) (i := 0) (k := 5) (c' := c) (i' := i) (k' := k) (by omega), msend_c (c' := c) (by omega) (by omega) (by omega) (by omega) (by omega) (by omega) (by omega), mq0_Mo_pulse_0_j45 hc, mq0_Mo_pulse_0_j47 hc]; done)))
theorem mq0_Mo_pulse_0_j42 {c i k : Nat} (hc : c = 44 ∧ ¬ (0 ≤ k ∧ k < 3)) : ∀ (v : fw_V), (mf_Mo_pulse_0_j42 v) c i k = v c i k := by
  intro v
  unfold mf_Mo_pulse_0_j42
  (try dsimp only)
  all_goals ((repeat' split) <;> (first | with_reducible rfl | (simp only [msend_c (c' := c) (by omega) (by omega) (by omega) (by omega) (by omega) (by omega) (by omega), mq0_Mo_pulse_0_j43 hc, mq0_Mo_pulse_0_j49 hc]; done)))
theorem mq0_Mo_pulse_0_j41 {c i k : Nat} (hc : c = 44 ∧ ¬ (0 ≤ k ∧ k < 3)) : ∀ (v : fw_V), (mf_Mo_pulse_0_j41 v) c i k = v c i k := by
  intro v
  unfold mf_Mo_pulse_0_j41
  (try dsimp only)
  all_goals ((repeat' split) <;> (first | with_reducible rfl | (simp only [msend_c (c' := c) (by omega) (by omega) (by omega) (by omega) (by omega) (by omega) (by omega), mq0_Mo_pulse_0_j42 hc]; done)))
theorem mq0_Mo_pulse_0_j54 {c i k : Nat} (hc : c = 44 ∧ ¬ (0 ≤ k ∧ k < 3)) : ∀ (v : fw_V), (mf_Mo_pulse_0_j54 v) c i k = v c i k := by
  intro v
  unfold mf_Mo_pulse_0_j54
  (try dsimp only)
  all_goals ((repeat' split) <;> (first | with_reducible rfl | (simp only [msend_c (c' := c) (by omega) (by omega) (by omega) (by omega) (by omega) (by omega) (by omega), mq0_Mo_pulse_0_j48 hc]; done)))
theorem mq0_Mo_pulse_0_j55 {c i k : Nat} (hc : c = 44 ∧ ¬ (0 ≤ k ∧ k < 3)) : ∀ (v : fw_V), (mf_Mo_pulse_0_j55 v) c i k = v c i k := by
  intro v
  unfold mf_Mo_pulse_0_j55
  (try dsimp only)
  all_goals ((repeat' split) <;> (first | with_reducible rfl | (simp only [msend_c (c' := c) (by omega) (by omega) (by omega) (by omega) (by omega) (by omega) (by omega), mq0_Mo_pulse_0_j48 hc]; done)))
theorem mq0_Mo_pulse_0_j53 {c i k : Nat} (hc : c = 44 ∧ ¬ (0 ≤ k ∧ k < 3)) : ∀ (v : fw_V) (x4 : Int32), (mf_Mo_pulse_0_j53 v x4) c i k = v c i k := by
  intro v x4
  unfold mf_Mo_pulse_0_j53
  (try dsimp only)
  all_goals ((repeat' split) <;> (first | with_reducible rfl | (simp only [fw_up_ne (c := 9) (i := 0) (k := 5) (c' := c) (i' := i) (k' := k) (by omega), msend_c (c' := c) (by omega) (by omega) (by omega) (by omega) (by omega) (by omega) (by omega), mq0_Mo_pulse_0_j54 hc, mq0_Mo_pulse_0_j55 hc]; done)))
theorem mq0_Mo_pulse_0_j52 {c i k : Nat} (hc : c = 44 ∧ ¬ (0 ≤ k ∧ k < 3)) : ∀ (v : fw_V) (x4 : Int32), (mf_Mo_pulse_0_j52 v x4) c i k = v c i k := by
  intro v x4
  unfold mf_Mo_pulse_0_j52
  (try dsimp only)
  all_goals ((repeat' split) <;> (first | with_reducible rfl | (simp only [msend_c (c' := c) (by omega) (by omega) (by omega) (by omega) (by omega) (by omega) (by omega), mq0_Mo_pulse_0_j53 hc]; done)))
theorem mq0_Mo_pulse_0_j56 {c i k : Nat} (hc : c = 44 ∧ ¬ (0 ≤ k ∧ k < 3)) : ∀ (v : fw_V) (x4 : Int32) (x90 : Int32), (mf_Mo_pulse_0_j56 v x4 x90) c i k = v c i k := by
  intro v x4 x90
  unfold mf_Mo_pulse_0_j56
  (try dsimp only)
  all_goals ((repeat' split) <;> (first | with_reducible rfl | (simp only [fw_up_ne (c := 9) (i := 0) (k := 5) (c' := c) (i' := i) (k' := k) (by omega), msend_c (c' := c) (by omega) (by omega) (by omega) (by omega) (by omega) (by omega) (by omega), mq0_Mo_pulse_0_j54 hc, mq0_Mo_pulse_0_j55 hc]; done)))
theorem mq0_Mo_pulse_0_j51 {c i k : Nat} (hc : c = 44 ∧ ¬ (0 ≤ k ∧ k < 3)) : ∀ (v : fw_V), (mf_Mo_pulse_0_j51 v) c i k = v c i k := by
  intro v
  unfold mf_Mo_pulse_0_j51
  (try dsimp only)
  all_goals ((repeat' split) <;> (first | with_reducible rfl | (simp only [msend_c (c' := c) (by omega) (by omega) (by omega) (by omega) (by omega) (by omega) (by omega), mq0_Mo_pulse_0_j52 hc, mq0_Mo_pulse_0_j56 hc]; done)))
theorem mq0_Mo_pulse_0_j50 {c i k : Nat} (hc : c = 44 ∧ ¬ (0 ≤ k ∧ k < 3)) : ∀ (v : fw_V), (mf_Mo_pulse_0_j50 v) c i k = v c i k := by
  intro v
  unfold mf_Mo_pulse_0_j50
  (try dsimp only)
  all_goals ((repeat' split) <;> (first | with_reducible rfl | (simp only [msend_c (c' := c) (by omega) (by omega) (by omega) (by omega) (by omega) (by omega) (by omega), mq0_Mo_pulse_0_j51 hc]; done)))
theorem mq0_Mo_pulse_0_j40 {c i k : Nat} (hc : c = 44 ∧ ¬ (0 ≤ k ∧ k < 3)) : ∀ (v : fw_V) (x4 : Int32), (mf_Mo_pulse_0_j40 v x4) c i k = v c i k := by
  intro v x4
  unfold mf_Mo_pulse_0_j40
  (try dsimp only)
  all_goals ((repeat' split) <;> (first | with_reducible rfl | (simp only [fw_up_ne (c := 9) (i := 0) (k := 4) (c' := c) (i' := i) (k' := k) (by omega), msend_c (c' := c) (by omega) (by omega) (by omega) (by omega) (by omega) (by omega) (by omega), mq0_Mo_pulse_0_j41 hc, mq0_Mo_pulse_0_j50 hc]; done)))
theorem mq0_Mo_pulse_0_j39 {c i k : Nat} (hc : c = 44 ∧ ¬ (0 ≤ k ∧ k < 3)) : ∀ (v : fw_V) (x4 : Int32), (mf_Mo_pulse_0_j39 v x4) c i k = v c i k := by
  intro v x4
  unfold mf_Mo_pulse_0_j39
  (try dsimp only)
  all_goals ((repeat' split) <;> (first | with_reducible rfl | (simp only [msend_c (c' := c) (by omega) (by omega) (by omega) (by omega) (by omega) (by omega) (by omega), mq0_Mo_pulse_0_j40 hc]; done)))
theorem mq0_Mo_pulse_0_j57 {c i k : Nat} (hc : c = 44 ∧ ¬ (0 ≤ k ∧ k < 3)) : ∀ (v : fw_V) (x4 : Int32) (x90 : Int32), (mf_Mo_pulse_0_j57 v x4 x90) c i k = v c i k := by
  intro v x4 x90
  unfold mf_Mo_pulse_0_j57
  (try dsimp only)
  all_goals ((repeat' split) <;> (first | with_reducible rfl | (simp only [fw_up_ne (c := 9) (i := 0) (k := 4) (c' := c) (i' := i) (k' := k) (by omega), msend_c (c' := c) (by omega) (by omega) (by omega) (by omega) (by omega) (by omega) (by omega), mq0_Mo_pulse_0_j41 hc, mq0_Mo_pulse_0_j50 hc]; done)))
theorem mq0_Mo_pulse_0_j38 {c i k : Nat} (hc : c = 44 ∧ ¬ (0 ≤ k ∧ k < 3)) : ∀ (v : fw_V), (mf_Mo_pulse_0_j38 v) c i k = v c i k := by
  intro v
  unfold mf_Mo_pulse_0_j38
  (try dsimp only)
  all_goals ((repeat' split) <;> (first | with_reducible rfl | (simp only [msend_c (c' := c) (by omega) (by omega) (by omega) (by omega) (by omega) (by omega) (by omega), mq0_Mo_pulse_0_j39 hc, mq0_Mo_pulse_0_j57 hc]; done)))
theorem mq0_Mo_pulse_0_j37 {c i k : Nat} (hc : c = 44 ∧ ¬ (0 ≤ k ∧ k < 3)) : ∀ (v : fw_V), (mf_Mo_pulse_0_j37 v) c i k = v c i k := by
  intro v
  unfold mf_Mo_pulse_0_j37
  (try dsimp only)
  all_goals ((repeat' split) <;> (first | with_reducible rfl | (simp only [msend_c (c' := c) (by omega) (by omega) (by omega) (by omega) (by omega) (by omega) (by omega), mq0_Mo_pulse_0_j38 hc]; done)))
theorem mq0_Mo_pulse_0_j15 {c i k : Nat} (hc : c = 44 ∧ ¬ (0 ≤ k ∧ k < 3)) : ∀ (v : fw_V) (x4 : Int32), (mf_Mo_pulse_0_j15 v x4) c i k = v c i k := by
  intro v x4
  unfold mf_Mo_pulse_0_j15
  (try dsimp only)
  all_goals ((repeat' split) <;> (first | with_reducible rfl | (simp only [fw_up_ne (c := 9) (i := 0) (k := 3) (c' := c) (i' := i) (k' := k) (by omega), msend_c (c' := c) (by omega) (by omega) (by omega) (by omega) (by omega) (by omega) (by omega), mq0_Mo_pulse_0_j16 hc, mq0_Mo_pulse_0_j37 hc]; done)))
theorem mq0_Mo_pulse_0_j14 {c i k : Nat} (hc : c = 44 ∧ ¬ (0 ≤ k ∧ k < 3)) : ∀ (v : fw_V) (x4 : Int32), (mf_Mo_pulse_0_j14 v x4) c i k = v c i k := by
  intro v x4
  unfold mf_Mo_pulse_0_j14
  (try dsimp only)
  all_goals ((repeat' split) <;> (first | with_reducible rfl | (simp only [msend_c (c' := c) (by omega) (by omega) (by omega) (by omega) (by omega) (by omega) (by omega), mq0_Mo_pulse_0_j15 hc]; done)))
theorem mq0_Mo_pulse_0_j58 {c i k : Nat} (hc : c = 44 ∧ ¬ (0 ≤ k ∧ k < 3)) : ∀ (v : fw_V) (x4 : Int32) (x90 : Int32), (mf_Mo_pulse_0_j58 v x4 x90) c i k = v c i k := by
  intro v x4 x90
  unfold mf_Mo_pulse_0_j58
  (try dsimp only)
  all_goals ((repeat' split) <;> (first | with_reducible rfl | (simp only [fw_up_ne (c := 9) (i := 0) (k := 3) (c' := c) (i' := i) (k' := k) (by omega), msend_c (c' := c) (by omega) (by omega) (by omega) (by omega) (by omega) (by omega) (by omega), mq0_Mo_pulse_0_j16 hc, mq0_Mo_pulse_0_j37 hc]; done)))
theorem mq0_Mo_pulse_0_j13 {c i k : Nat} (hc : c = 44 ∧ ¬ (0 ≤ k ∧ k < 3)) : ∀ (v : fw_V), (mf_Mo_pulse_0_j13 v) c i k = v c i k := by
  intro v
  unfold mf_Mo_pulse_0_j13
  (try dsimp only)
  all_goals ((repeat' split) <;> (first | with_reducible rfl | (simp only [msend_c (c' := c) (by omega) (by omega) (by omega) (by omega) (by omega) (by omega) (by omega), mq0_Mo_pulse_0_j14 hc, mq0_Mo_pulse_0_j58 hc]; done)))
theorem mq0_Mo_pulse_0_j12 {c i k : Nat} (hc : c = 44 ∧ ¬ (0 ≤ k ∧ k < 3)) : ∀ (v : fw_V), (mf_Mo_pulse_0_j12 v) c i k = v c i k := by
  intro v
  unfold mf_Mo_pulse_0_j12
  (try dsimp only)
  all_goals ((repeat' split) <;> (first | with_reducible rfl | (simp only [msend_c (c' := c) (by omega) (by omega) (by omega) (by omega) (by omega) (by omega) (by omega), mq0_Mo_pulse_0_j13 hc]; done)))
theorem mq0_Mo_pulse_0_j63 {c i k : Nat} (hc : c = 44 ∧ ¬ (0 ≤ k ∧ k < 3)) : ∀ (v : fw_V), (mf_Mo_pulse_0_j63 v) c i k = v c i k := by
  intro v
  unfold mf_Mo_pulse_0_j63
  (try dsimp only)
  all_goals ((repeat' split) <;> (first | with_reducible rfl | (simp only [msend_c (c' := c) (by omega) (by omega) (by omega) (by omega) (by omega) (by omega) (by omega), mq0_Mo_pulse_0_j38 hc]; done)))
theorem mq0_Mo_pulse_0_j64 {c i k : Nat} (hc : c = 44 ∧ ¬ (0 ≤ k ∧ k < 3)) : ∀ (v : fw_V), (mf_Mo_pulse_0_j64 v) c i k = v c i k := by
  intro v
  unfold mf_Mo_pulse_0_j64
  (try dsimp only)
  all_goals ((repeat' split) <;> (first | with_reducible rfl | (simp only [msend_c (c' := c) (by omega) (by omega) (by omega) (by omega) (by omega) (by omega) (by omega), mq0_Mo_pulse_0_j38 hc]; done)))
theorem mq0_Mo_pulse_0_j62 {c i k : Nat} (hc : c = 44 ∧ ¬ (0 ≤ k ∧ k < 3)) : ∀ (v : fw_V) (x4 : Int32), (mf_Mo_pulse_0_j62 v x4) c i k = v c i k := by
  intro v x4
  unfold mf_Mo_pulse_0_j62
  (try dsimp only)
  all_goals ((repeat' split) <;> (first | with_reducible rfl | (simp only [fw_up_ne (c := 9) (i := 0) (k := 3) (c' := c) (i' := i) (k' := k) (by omega), msend_c (c' := c) (by omega) (by omega) (by omega) (by omega) (by omega) (by omega) (by omega), mq0_Mo_pulse_0_j63 hc, mq0_Mo_pulse_0_j64 hc]; done)))
theorem mq0_Mo_pulse_0_j61 {c i k : Nat} (hc : c = 44 ∧ ¬ (0 ≤ k ∧ k < 3)) : ∀ (v : fw_V) (x4 : Int32), (mf_Mo_pulse_0_j61 v x4) c i k = v c i k := by
  intro v x4
  unfold mf_Mo_pulse_0_j61
  (try dsimp only)
  all_goals ((repeat' split) <;> (first | with_reducible rfl | (simp only [msend_c (c' := c) (by omega) (by omega) (by omega) (by omega) (by omega) (by omega) (by omega), mq0_Mo_pulse_0_j62 hc]; done)))
theorem mq0_Mo_pulse_0_j65 {c i k : Nat} (hc : c = 44 ∧ ¬ (0 ≤ k ∧ k < 3)) : ∀ (v : fw_V) (x4 : Int32) (x90 : Int32), (mf_Mo_pulse_0_j65 v x4 x90) c i k = v c i k := by
  intro v x4 x90
  unfold mf_Mo_pulse_0_j65
  (try dsimp only)
  all_goals ((repeat' split) <;> (first | with_reducible rfl | (simp only [fw_up_ne (c := 9) (i := 0) (k := 3) (c' := c) (i' := i) (k' := k) (by omega), msend_c (c' := c) (by omega) (by omega) (by omega) (by omega) (by omega) (by omega) (by omega), mq0_Mo_pulse_0_j63 hc, mq0_Mo_pulse_0_j64 hc]; done)))
theorem mq0_Mo_pulse_0_j60 {c i k : Nat} (hc : c = 44 ∧ ¬ (0 ≤ k ∧ k < 3)) : ∀ (v : fw_V), (mf_Mo_pulse_0_j60 v) c i k = v c i k := by
  intro v
  unfold mf_Mo_pulse_0_j60
  (try dsimp only)
  all_goals ((repeat' split) <;> (first | with_reducible rfl | (simp only [msend_c (c' := c) (by omega) (by omega) (by omega) (by omega) (by omega) (by omega) (by omega), mq0_Mo_pulse_0_j61 hc, mq0_Mo_pulse_0_j65 hc]; done)))
theorem mq0_Mo_pulse_0_j59 {c i k : Nat} (hc : c = 44 ∧ ¬ (0 ≤ k ∧ k < 3)) : ∀ (v : fw_V), (mf_Mo_pulse_0_j59 v) c i k = v c i k := by
  intro v
  unfold mf_Mo_pulse_0_j59
  (try dsimp only)
  all_goals ((repeat' split) <;> (first | with_reducible rfl | (simp only [msend_c (c' := c) (by omega) (by omega) (by omega) (by omega) (by omega) (by omega) (by omega), mq0_Mo_pulse_0_j60 hc]; done)))
theorem mq0_Mo_pulse_0_j11 {c i k : Nat} (hc : c = 44 ∧ ¬ (0 ≤ k ∧ k < 3)) : ∀ (v : fw_V) (x4 : Int32), (mf_Mo_pulse_0_j11 v x4) c i k = v c i k := by
  intro v x4
  unfold mf_Mo_pulse_0_j11
  (try dsimp only)
  all_goals ((repeat' split) <;> (first | with_reducible rfl | (simp only [fw_up_ne (c := 9) (i := 0) (k := 2) (c' := c) (i' := i) (k' := k) (by omega), msend_c (c' := c) (by omega) (by omega) (by omega) (by omega) (by omega) (by omega) (by omega), mq0_Mo_pulse_0_j12 hc, mq0_Mo_pulse_0_j59 hc]; done)))
theorem mq0_Mo_pulse_0_j10 {c i k : Nat} (hc : c = 44 ∧ ¬ (0 ≤ k ∧ k < 3)) : ∀ (v : fw_V) (x4 : Int32), (mf_Mo_pulse_0_j10 v x4) c i k = v c i k := by
  intro v x4
  unfold mf_Mo_pulse_0_j10
  (try dsimp only)
  all_goals ((repeat' split) <;> (first | with_reducible rfl | (simp only [msend_c (c' := c) (by omega) (by omega) (by omega) (by omega) (by omega) (by omega) (by omega), mq0_Mo_pulse_0_j11 hc]; done)))
theorem mq0_Mo_pulse_0_j66 {c i k : Nat} (hc : c = 44 ∧ ¬ (0 ≤ k ∧ k < 3)) : ∀ (v : fw_V) (x4 : Int32) (x90 : Int32), (mf_Mo_pulse_0_j66 v x4 x90) c i k = v c i k := by
  intro v x4 x90
  unfold mf_Mo_pulse_0_j66
  (try dsimp only)
  all_goals ((repeat' split) <;> (first | with_reducible rfl | (simp only [fw_up_ne (c := 9) (i := 0) (k := 2) (c' := c) (i' := i) (k' := k) (by omega), msend_c (c' := c) (by omega) (by omega) (by omega) (by omega) (by omega) (by omega) (by omega), mq0_Mo_pulse_0_j12 hc, mq0_Mo_pulse_0_j59 hc]; done)))
theorem mq0_Mo_pulse_0_j9 {c i k : Nat} (hc : c = 44 ∧ ¬ (0 ≤ k ∧ k < 3)) : ∀ (v : fw_V), (mf_Mo_pulse_0_j9 v) c i k = v c i k := by
  intro v
  unfold mf_Mo_pulse_0_j9
  (try dsimp only)
  all_goals ((repeat' split) <;> (first | with_reducible rfl | (simp only [msend_c (c' := c) (by omega) (by omega) (by omega) (by omega) (by omega) (by omega) (by omega), mq0_Mo_pulse_0_j10 hc, mq0_Mo_pulse_0_j66 hc]; done)))
theorem mq0_Mo_pulse_0_j8 {c i k : Nat} (hc : c = 44 ∧ ¬ (0 ≤ k ∧ k < 3)) : ∀ (v : fw_V), (mf_Mo_pulse_0_j8 v) c i k = v c i k := by
  intro v
  unfold mf_Mo_pulse_0_j8
  (try dsimp only)
  all_goals ((repeat' split) <;> (first | with_reducible rfl | (simp only [msend_c (c' := c) (by omega) (by omega) (by omega) (by omega) (by omega) (by omega) (by omega), mq0_Mo_pulse_0_j9 hc]; done)))
theorem mq0_Mo_pulse_0_j84 {c i k : Nat} (hc : c = 44 ∧ ¬ (0 ≤ k ∧ k < 3)) : ∀ (v : fw_V), (mf_Mo_pulse_0_j84 v) c i k = v c i k := by
  intro v
  unfold mf_Mo_pulse_0_j84
  (try dsimp only)
  all_goals ((repeat' split) <;> (first | with_reducible rfl | (simp only [fw_up_ne (c := 9) (i := 0) (k := 6) (c' := c) (i' := i) (k' := k) (by omega), fw_up_ne (c := 34) (i := 0) (k := 0) (c' := c) (i' := i) (k' := k) (by omega), msend_c (c' := c) (by omega) (by omega) (by omega) (by omega) (by omega) (by omega) (by omega), mq0_Mo_reply_0 hc]; done)))
theorem mq0_Mo_pulse_0_j83 {c i k : Nat} (hc : c = 44 ∧ ¬ (0 ≤ k ∧ k < 3)) : ∀ (v : fw_V), (mf_Mo_pulse_0_j83 v) c i k = v c i k := by
  intro v
  unfold mf_Mo_pulse_0_j83
  (try dsimp only)
  all_goals ((repeat' split) <;> (first | with_reducible rfl | (simp only [msend_c (c' := c) (by omega) (by omega) (by omega) (by omega) (by omega) (by omega) (by omega), mq0_Mo_pulse_0_j84 hc]; done)))
theorem mq0_Mo_pulse_0_j86 {c i k : Nat} (hc : c = 44 ∧ ¬ (0 ≤ k ∧ k < 3)) : ∀ (v : fw_V), (mf_Mo_pulse_0_j86 v) c i k = v c i k := by
  intro v
  unfold mf_Mo_pulse_0_j86
  (try dsimp only)
  all_goals ((repeat' split) <;> (first | with_reducible rfl | (simp only [fw_up_ne (c := 9) (i := 0) (k := 6) (c' := c) (i' := i) (k' := k) (by omega), fw_up_ne (c := 34) (i := 0) (k := 0) (c' := c) (i' := i) (k' := k) (by omega), msend_c (c' := c) (by omega) (by omega) (by omega) (by omega) (by omega) (by omega) (by omega), mq0_Mo_reply_0 hc]; done)))
theorem mq0_Mo_pulse_0_j85 {c i k : Nat} (hc : c = 44 ∧ ¬ (0 ≤ k ∧ k < 3)) : ∀ (v : fw_V), (mf_Mo_pulse_0_j85 v) c i k = v c i k := by
  intro v
  unfold mf_Mo_pulse_0_j85
  (try dsimp only)
  all_goals ((repeat' split) <;> (first | with_reducible rfl | (simp only [msend_c (c' := c) (by omega) (by omega) (by omega) (by omega) (by omega) (by omega) (by omega), mq0_Mo_pulse_0_j86 hc]; done)))
theorem mq0_Mo_pulse_0_j82 {c i k : Nat} (hc : c = 44 ∧ ¬ (0 ≤ k ∧ k < 3)) : ∀ (v : fw_V) (x4 : Int32), (mf_Mo_pulse_0_j82 v x4) c i k = v c i k := by
  intro v x4
  unfold mf_Mo_pulse_0_j82
  (try dsimp only)
  all_goals ((repeat' split) <;> (first | with_reducible rfl | (simp only [fw_up_ne (c := 9) (i := 0) (k := 5) (c' := c) (i' := i) (k' := k) (by omega), msend_c (c' := c) (by omega) (by omega) (by omega) (by omega) (by omega) (by omega) (by omega), mq0_Mo_pulse_0_j83 hc, mq0_Mo_pulse_0_j85 hc]; done)))
theorem mq0_Mo_pulse_0_j81 {c i k : Nat} (hc : c = 44 ∧ ¬ (0 ≤ k ∧ k < 3)) : ∀ (v : fw_V) (x4 : Int32), (mf_Mo_pulse_0_j81 v x4) c i k = v c i k := by
  intro v x4
  unfold mf_Mo_pulse_0_j81
  (try dsimp only)
  all_goals ((repeat' split) <;> (first | with_reducible rfl | (simp only [msend_c (c' := c) (by omega) (by omega) (by omega) (by omega) (by omega) (by omega) (by omega), mq0_Mo_pulse_0_j82 hc]; done)))
theorem mq0_Mo_pulse_0_j87 {c i k : Nat} (hc : c = 44 ∧ ¬ (0 ≤ k ∧ k < 3)) : ∀ (v : fw_V) (x4 : Int32) (x90 : Int32), (mf_Mo_pulse_0_j87 v x4 x90) c i k = v c i k := by
  intro v x4 x90
  unfold mf_Mo_pulse_0_j87
  (try dsimp only)
  all_goals ((repeat' split) <;> (first | with_reducible rfl | (simp only [fw_up_ne (c := 9) (i := 0) (k := 5) (c' := c) (i' := i) (k' := k) (by omega), msend_c (c' := c) (by omega) (by omega) (by omega) (by omega) (by omega) (by omega) (by omega), mq0_Mo_pulse_0_j83 hc, mq0_Mo_pulse_0_j85 hc]; done)))
theorem mq0_Mo_pulse_0_j80 {c i k : Nat} (hc : c = 44 ∧ ¬ (0 ≤ k ∧ k < 3)) : ∀ (v : fw_V), (mf_Mo_pulse_0_j80 v) c i k = v c i k := by
  intro v
  unfold mf_Mo_pulse_0_j80
  (try dsimp only)
  all_goals ((repeat' split) <;> (first | with_reducible rfl | (simp only [msend_c (c' := c) (by omega) (by omega) (by omega) (by omega) (by omega) (by omega) (by omega), mq0_Mo_pulse_0_j81 hc, mq0_Mo_pulse_0_j87 hc]; done)))
theorem mq0_Mo_pulse_0_j79 {c i k : Nat} (hc : c = 44 ∧ ¬ (0 ≤ k ∧ k < 3)) : ∀ (v : fw_V), (mf_Mo_pulse_0_j79 v) c i k = v c i k := by
  intro v
  unfold mf_Mo_pulse_0_j79
  (try dsimp only)
  all_goals ((repeat' split) <;> (first | with_reducible rfl | (simp only [msend_c (c' := c) (by omega) (by omega) (by omega) (by omega) (by omega) (by omega) (by omega), mq0_Mo_pulse_0_j80 hc]; done)))
theorem mq0_Mo_pulse_0_j92 {c i k : Nat} (hc : c = 44 ∧ ¬ (0 ≤ k ∧ k < 3)) : ∀ (v : fw_V), (mf_Mo_pulse_0_j92 v) c i k = v c i k := by
  intro v
  unfold mf_Mo_pulse_0_j92
  (try dsimp only)
  all_goals ((repeat' split) <;> (first | with_reducible rfl | (simp only [msend_c (c' := c) (by omega) (by omega) (by omega) (by omega) (by omega) (by omega) (by omega), mq0_Mo_pulse_0_j86 hc]; done)))
theorem mq0_Mo_pulse_0_j93 {c i k : Nat} (hc : c = 44 ∧ ¬ (0 ≤ k ∧ k < 3)) : ∀ (v : fw_V), (mf_Mo_pulse_0_j93 v) c i k = v c i k := by
  intro v
  unfold mf_Mo_pulse_0_j93
  (try dsimp only)
  all_goals ((repeat' split) <;> (first | with_reducible rfl | (simp only [msend_c (c' := c) (by omega) (by omega) (by omega) (by omega) (by omega) (by omega) (by omega), mq0_Mo_pulse_0_j86 hc]; done)))
theorem mq0_Mo_pulse_0_j91 {c i k : Nat} (hc : c = 44 ∧ ¬ (0 ≤ k ∧ k < 3)) : ∀ (v : fw_V) (x4 : Int32), (mf_Mo_pulse_0_j91 v x4) c i k = v c i k := by
  intro v x4
  unfold mf_Mo_pulse_0_j91
  (try dsimp only)
  all_goals ((repeat' split) <;> (first | with_reducible rfl | (simp only [fw_up_ne (c := 9) (i := 0) (k := 5) (c' := c) (i' := i) (k' := k) (by omega), msend_c (c' := c) (by omega) (by omega) (by omega) (by omega) (by omega) (by omega) (by omega), mq0_Mo_pulse_0_j92 hc, mq0_Mo_pulse_0_j93 hc]; done)))
theorem mq0_Mo_pulse_0_j90 {c i k : Nat} (hc : c = 44 ∧ ¬ (0 ≤ k ∧ k < 3)) : ∀ (v : fw_V) (x4 : Int32), (mf_Mo_pulse_0_j90 v x4) c i k = v c i k := by
  intro v x4
  unfold mf_Mo_pulse_0_j90
  (try dsimp only)
  all_goals ((repeat' split) <;> (first | with_reducible rfl | (simp only [msend_c (c' := c) (by omega) (by omega) (by omega) (by omega) (by omega) (by omega) (by omega), mq0_Mo_pulse_0_j91 hc]; done)))
theorem mq0_Mo_pulse_0_j94 {c i k : Nat} (hc : c = 44 ∧ ¬ (0 ≤ k ∧ k < 3)) : ∀ (v : fw_V) (x4 : Int32) (x90 : Int32), (mf_Mo_pulse_0_j94 v x4 x90) c i k = v c i k := by
  intro v x4 x90
  unfold mf_Mo_pulse_0_j94
  (try dsimp only)
  all_goals ((repeat' split) <;> (first | with_reducible rfl | (simp only [fw_up_ne (c := 9) (i := 0) (k := 5) (c' := c) (i' := i) (k' := k) (by omega), msend_c (c' := c) (by omega) (by omega) (by omega) (by omega) (by omega) (by omega) (by omega), mq0_Mo_pulse_0_j92 hc, mq0_Mo_pulse_0_j93 hc]; done)))
theorem mq0_Mo_pulse_0_j89 {c i k : Nat} (hc : c = 44 ∧ ¬ (0 ≤ k ∧ k < 3)) : ∀ (v : fw_V), (mf_Mo_pulse_0_j89 v) c i k = v c i k := by
  intro v
  unfold mf_Mo_pulse_0_j89
  (try dsimp only)
  all_goals ((repeat' split) <;> (first | with_reducible rfl | (simp only [msend_c (c' := c) (by omega) (by omega) (by omega) (by omega) (by omega) (by omega) (by omega), mq0_Mo_pulse_0_j90 hc, mq0_Mo_pulse_0_j94 hc]; done)))
theorem mq0_Mo_pulse_0_j88 {c i k : Nat} (hc : c = 44 ∧ ¬ (0 ≤ k ∧ k < 3)) : ∀ (v : fw_V), (mf_Mo_pulse_0_j88 v) c i k = v c i k := by
  intro v
  unfold mf_Mo_pulse_0_j88
  (try dsimp only)
  all_goals ((repeat' split) <;> (first | with_reducible rfl | (simp only [msend_c (c' := c) (by omega) (by omega) (by omega) (by omega) (by omega) (by omega) (by omega), mq0_Mo_pulse_0_j89 hc]; done)))
theorem mq0_Mo_pulse_0_j78 {c i k : Nat} (hc : c = 44 ∧ ¬ (0 ≤ k ∧ k < 3)) : ∀ (v : fw_V) (x4 : Int32), (mf_Mo_pulse_0_j78 v x4) c i k = v c i k := by
  intro v x4
  unfold mf_Mo_pulse_0_j78
  (try dsimp only)
  all_goals ((repeat' split) <;> (first | with_reducible rfl | (simp only [fw_up_ne (c := 9) (i := 0) (k := 4) (c' := c) (i' := i) (k' := k) (by omega), msend_c (c' := c) (by omega) (by omega) (by omega) (by omega) (by omega) (by omega) (by omega), mq0_Mo_pulse_0_j79 hc, mq0_Mo_pulse_0_j88 hc]; done)))
theorem mq0_Mo_pulse_0_j77 {c i k : Nat} (hc : c = 44 ∧ ¬ (0 ≤ k ∧ k < 3)) : ∀ (v : fw_V) (x4 : Int32), (mf_Mo_pulse_0_j77 v x4) c i k = v c i k := by
  intro v x4
  unfold mf_Mo_pulse_0_j77
  (try dsimp only)
  all_goals ((repeat' split) <;> (first | with_reducible rfl | (simp only [msend_c (c' := c) (by omega) (by omega) (by omega) (by omega) (by omega) (by omega) (by omega), mq0_Mo_pulse_0_j78 hc]; done)))
theorem mq0_Mo_pulse_0_j95 {c i k : Nat} (hc : c = 44 ∧ ¬ (0 ≤ k ∧ k < 3)) : ∀ (v : fw_V) (x4 : Int32) (x90 : Int32), (mf_Mo_pulse_0_j95 v x4 x90) c i k = v c i k := by
  intro v x4 x90
  unfold mf_Mo_pulse_0_j95
  (try dsimp only)
  all_goals ((repeat' split) <;> (first | with_reducible rfl | (simp only [fw_up_ne (c := 9) (i := 0) (k := 4) (c' := c) (i' := i) (k' := k) (by omega), msend_c (c' := c) (by omega) (by omega) (by omega) (by omega) (by omega) (by omega) (by omega), mq0_Mo_pulse_0_j79 hc, mq0_Mo_pulse_0_j88 hc]; done)))
theorem mq0_Mo_pulse_0_j76 {c i k : Nat} (hc : c = 44 ∧ ¬ (0 ≤ k ∧ k < 3)) : ∀ (v : fw_V), (mf_Mo_pulse_0_j76 v) c i k = v c i k := by
  intro v
  unfold mf_Mo_pulse_0_j76
  (try dsimp only)
  all_goals ((repeat' split) <;> (first | with_reducible rfl | (simp only [msend_c (c' := c) (by omega) (by omega) (by omega) (by omega) (by omega) (by omega) (by omega), mq0_Mo_pulse_0_j77 hc, mq0_Mo_pulse_0_j95 hc]; done)))
theorem mq0_Mo_pulse_0_j75 {c i k : Nat} (hc : c = 44 ∧ ¬ (0 ≤ k ∧ k < 3)) : ∀ (v : fw_V), (mf_Mo_pulse_0_j75 v) c i k = v c i k := by
  intro v
  unfold mf_Mo_pulse_0_j75
  (try dsimp only)
  all_goals ((repeat' split) <;> (first | with_reducible rfl | (simp only [msend_c (c' := c) (by omega) (by omega) (by omega) (by omega) (by omega) (by omega) (by omega), mq0_Mo_pulse_0_j76 hc]; done)))
theorem mq0_Mo_pulse_0_j105 {c i k : Nat} (hc : c = 44 ∧ ¬ (0 ≤ k ∧ k < 3)) : ∀ (v : fw_V), (mf_Mo_pulse_0_j105 v) c i k = v c i k := by
  intro v
  unfold mf_Mo_pulse_0_j105
  (try dsimp only)
  all_goals ((repeat' split) <;> (first | with_reducible rfl | (simp only [fw_up_ne (c := 9) (i := 0) (k := 6) (c' := c) (i' := i) (k' := k) (by omega), fw_up_ne (c := 34) (i := 0) (k := 0) (c' := c) (i' := i) (k' := k) (by omega), msend_c (c' := c) (by omega) (by omega) (by omega) (by omega) (by omega) (by omega) (by omega), mq0_Mo_reply_0 hc]; done)))
theorem mq0_Mo_pulse_0_j104 {c i k : Nat} (hc : c = 44 ∧ ¬ (0 ≤ k ∧ k < 3)) : ∀ (v : fw_V), (mf_Mo_pulse_0_j104 v) c i k = v c i k := by
  intro v
  unfold mf_Mo_pulse_0_j104
  (try dsimp only)
  all_goals ((repeat' split) <;> (first | with_reducible rfl | (simp only [msend_c (c' := c) (by omega) (by omega) (by omega) (by omega) (by omega) (by omega) (by omega), mq0_Mo_pulse_0_j105 hc]; done)))
theorem mq0_Mo_pulse_0_j107 {c i k : Nat} (hc : c = 44 ∧ ¬ (0 ≤ k ∧ k < 3)) : ∀ (v : fw_V), (mf_Mo_pulse_0_j107 v) c i k = v c i k := by
  intro v
  unfold mf_Mo_pulse_0_j107
  (try dsimp only)
  all_goals ((repeat' split) <;> (first | with_reducible rfl | (simp only [fw_up_ne (c := 9) (i := 0) (k := 6) (c' := c) (i' := i) (k' := k) (by omega), fw_up_ne (c := 34) (i := 0) (k := 0) (c' := c) (i' := i) (k' := k) (by omega), msend_c (c' := c) (by omega) (by omega) (by omega) (by omega) (by omega) (by omega) (by omega), mq0_Mo_reply_0 hc]; done)))
theorem mq0_Mo_pulse_0_j106 {c i k : Nat} (hc : c = 44 ∧ ¬ (0 ≤ k ∧ k < 3)) : ∀ (v : fw_V), (mf_Mo_pulse_0_j106 v) c i k = v c i k := by
  intro v
  unfold mf_Mo_pulse_0_j106
  (try dsimp only)
  all_goals ((repeat' split) <;> (first | with_reducible rfl | (simp only [msend_c (c' := c) (by omega) (by omega) (by omega) (by omega) (by omega) (by omega) (by omega), mq0_Mo_pulse_0_j107 hc]; done)))
theorem mq0_Mo_pulse_0_j103 {c i k : Nat} (hc : c = 44 ∧ ¬ (0 ≤ k ∧ k < 3)) : ∀ (v : fw_V) (x4 : Int32), (mf_Mo_pulse_0_j103 v x4) c i k = v c i k := by
  intro v x4
  unfold mf_Mo_pulse_0_j103
  (try dsimp only)
  all_goals ((repeat' split) <;> (first | with_reducible rfl | (simp only [fw_up_ne (c := 9) (i := 0) (k := 5) (c' := c) (i' := i) (k' := k) (by omega), msend_c (c' := c) (by omega) (by omega) (by omega) (by omega) (by omega) (by omega) (by omega), mq0_Mo_pulse_0_j104 hc, mq0_Mo_pulse_0_j106 hc]; done)))
theorem mq0_Mo_pulse_0_j102 {c i k : Nat} (hc : c = 44 ∧ ¬ (0 ≤ k ∧ k < 3)) : ∀ (v : fw_V) (x4 : Int32), (mf_Mo_pulse_0_j102 v x4) c i k = v c i k := by
  intro v x4
  unfold mf_Mo_pulse_0_j102
  (try dsimp only)
  all_goals ((repeat' split) <;> (first | with_reducible rfl | (simp only [msend_c (c' := c) (by omega) (by omega) (by omega) (by omega) (by omega) (by omega) (by omega), mq0_Mo_pulse_0_j103 hc]; done)))
theorem mq0_Mo_pulse_0_j108 {c i k : Nat} (hc : c = 44 ∧ ¬ (0 ≤ k ∧ k < 3)) : ∀ (v : fw_V) (x4 : Int32) (x90 : Int32), (mf_Mo_pulse_0_j108 v x4 x90) c i k = v c i k := by
  intro v x4 x90
  unfold mf_Mo_pulse_0_j108
  (try dsimp only)
  all_goals ((repeat' split) <;> (first | with_reducible rfl | (simp only [fw_up_ne (c := 9) (i := 0) (k := 5) (c' := c) (i' := i) (k' := k) (by omega), msend_c (c' := c) (by omega) (by omega) (by omega) (by omega) (by omega) (by omega) (by omega), mq0_Mo_pulse_0_j104 hc, mq0_Mo_pulse_0_j106 hc]; done)))
theorem mq0_Mo_pulse_0_j101 {c i k : Nat} (hc : c = 44 ∧ ¬ (0 ≤ k ∧ k < 3)) : ∀ (v : fw_V), (mf_Mo_pulse_0_j101 v) c i k = v c i k := by
  intro v
  unfold mf_Mo_pulse_0_j101
  (try dsimp only)
  all_goals ((repeat' split) <;> (first | with_reducible rfl | (simp only [msend_c (c' := c) (by omega) (by omega) (by omega) (by omega) (by omega) (by omega) (by omega), mq0_Mo_pulse_0_j102 hc, mq0_Mo_pulse_0_j108 hc]; done)))
theorem mq0_Mo_pulse_0_j100 {c i k : Nat} (hc : c = 44 ∧ ¬ (0 ≤ k ∧ k < 3)) : ∀ (v : fw_V), (mf_Mo_pulse_0_j100 v) c i k = v c i k := by
  intro v
  unfold mf_Mo_pulse_0_j100
  (try dsimp only)
  all_goals ((repeat' split) <;> (first | with_reducible rfl | (simp only [msend_c (c' := c) (by omega) (by omega) (by omega) (by omega) (by omega) (by omega) (by omega), mq0_Mo_pulse_0_j101 hc]; done)))
theorem mq0_Mo_pulse_0_j113 {c i k : Nat} (hc : c = 44 ∧ ¬ (0 ≤ k ∧ k < 3)) : ∀ (v : fw_V), (mf_Mo_pulse_0_j113 v) c i k = v c i k := by
  intro v
  unfold mf_Mo_pulse_0_j113
  (try dsimp only)
  all_goals ((repeat' split) <;> (first | with_reducible rfl | (simp only [msend_c (c' := c) (by omega) (by omega) (by omega) (by omega) (by omega) (by omega) (by omega), mq0_Mo_pulse_0_j107 hc]; done)))
theorem mq0_Mo_pulse_0_j114 {c i k : Nat} (hc : c = 44 ∧ ¬ (0 ≤ k ∧ k < 3)) : ∀ (v : fw_V), (mf_Mo_pulse_0_j114 v) c i k = v c i k := by
  intro v
  unfold mf_Mo_pulse_0_j114
  (try dsimp only)
  all_goals ((repeat' split) <;> (first | with_reducible rfl | (simp only [msend_c (c' := c) (by omega) (by omega) (by omega) (by omega) (by omega) (by omega) (by omega), mq0_Mo_pulse_0_j107 hc]; done)))
theorem mq0_Mo_pulse_0_j112 {c i k : Nat} (hc : c = 44 ∧ ¬ (0 ≤ k ∧ k < 3)) : ∀ (v : fw_V) (x4 : Int32), (mf_Mo_pulse_0_j112 v x4) c i k = v c i k := by
  intro v x4
  unfold mf_Mo_pulse_0_j112
  (try dsimp only)
  all_goals ((repeat' split) <;> (first | with_reducible rfl | (simp only [fw_up_ne (c := 9) (i := 0) (k := 5) (c' := c) (i' := i) (k' := k) (by omega), msend_c (c' := c) (by omega) (by omega) (by omega) (by omega) (by omega) (by omega) (by omega), mq0_Mo_pulse_0_j113 hc, mq0_Mo_pulse_0_j114 hc]; done)))
theorem mq0_Mo_pulse_0_j111 {c i k : Nat} (hc : c = 44 ∧ ¬ (0 ≤ k ∧ k < 3)) : ∀ (v : fw_V) (x4 : Int32), (mf_Mo_pulse_0_j111 v x4) c i k = v c i k := by
  intro v x4
  unfold mf_Mo_pulse_0_j111
  (try dsimp only)
  all_goals ((repeat' split) <;> (first | with_reducible rfl | (simp only [msend_c (c' := c) (by omega) (by omega) (by omega) (by omega) (by omega) (by omega) (by omega), mq0_Mo_pulse_0_j112 hc]; done)))
theorem mq0_Mo_pulse_0_j115 {c i k : Nat} (hc : c = 44 ∧ ¬ (0 ≤ k ∧ k < 3)) : ∀ (v : fw_V) (x4 : Int32) (x90 : Int32), (mf_Mo_pulse_0_j115 v x4 x90) c i k = v c i k := by
  intro v x4 x90
  unfold mf_Mo_pulse_0_j115
  (try dsimp only)
  all_goals ((repeat' split) <;> (first | with_reducible rfl | (simp only [fw_up_ne (c := 9) (i := 0) (k := 5) (c' := c) (i' := i) (k' := k) (by omega), msend_c (c' := c) (by omega) (by omega) (by omega) (by omega) (by omega) (by omega) (by omega), mq0_Mo_pulse_0_j113 hc, mq0_Mo_pulse_0_j114 hc]; done)))
theorem mq0_Mo_pulse_0_j110 {c i k : Nat} (hc : c = 44 ∧ ¬ (0 ≤ k ∧ k < 3)) : ∀ (v : fw_V), (mf_Mo_pulse_0_j110 v) c i k = v c i k := by
  intro v
  unfold mf_Mo_pulse_0_j110
  (try dsimp only)
  all_goals ((repeat' split) <;> (first | with_reducible rfl | (simp only [msend_c (c' := c) (by omega) (by omega) (by omega) (by omega) (by omega) (by omega) (by omega), mq0_Mo_pulse_0_j111 hc, mq0_Mo_pulse_0_j115 hc]; done)))
theorem mq0_Mo_pulse_0_j109 {c i k : Nat} (hc : c = 44 ∧ ¬ (0 ≤ k ∧ k < 3)) : ∀ (v : fw_V), (mf_Mo_pulse_0_j109 v) c i k = v c i k := by
  intro v
  unfold mf_Mo_pulse_0_j109
  (try dsimp only)
  all_goals ((repeat' split) <;> (first | with_reducible rfl | (simp only [msend_c (c' := c) (by omega) (by omega) (by omega) (by omega) (by omega) (by omega) (by omega), mq0_Mo_pulse_0_j110 hc]; done)))
theorem mq0_Mo_pulse_0_j99 {c i k : Nat} (hc : c = 44 ∧ ¬ (0 ≤ k ∧ k < 3)) : ∀ (v : fw_V) (x4 : Int32), (mf_Mo_pulse_0_j99 v x4) c i k = v c i k := by
  intro v x4
  unfold mf_Mo_pulse_0_j99
  (try dsimp only)
  all_goals ((repeat' split) <;> (first | with_reducible rfl | (simp only [fw_up_ne (c := 9) (i := 0) (k := 4) (c' := c) (i' := i) (k' := k) (by omega), msend_c (c' := c) (by omega) (by omega) (by omega) (by omega) (by omega) (by omega) (by omega), mq0_Mo_pulse_0_j100 hc, mq0_Mo_pulse_0_j109 hc]; done)))
theorem mq0_Mo_pulse_0_j98 {c i k : Nat} (hc : c = 44 ∧ ¬ (0 ≤ k ∧ k < 3)) : ∀ (v : fw_V) (x4 : Int32), (mf_Mo_pulse_0_j98 v x4) c i k = v c i k := by
  intro v x4
  unfold mf_Mo_pulse_0_j98
  (try dsimp only)
  all_goals ((repeat' split) <;> (first | with_reducible rfl | (simp only [msend_c (c' := c) (by omega) (by omega) (by omega) (by omega) (by omega) (by omega) (by omega), mq0_Mo_pulse_0_j99 hc]; done)))
theorem mq0_Mo_pulse_0_j116 {c i k : Nat} (hc : c = 44 ∧ ¬ (0 ≤ k ∧ k < 3)) : ∀ (v : fw_V) (x4 : Int32) (x90 : Int32), (mf_Mo_pulse_0_j116 v x4 x90) c i k = v c i k := by
  intro v x4 x90
  unfold mf_Mo_pulse_0_j116
  (try dsimp only)
  all_goals ((repeat' split) <;> (first | with_reducible rfl | (simp only [fw_up_ne (c := 9) (i := 0) (k := 4) (c' := c) (i' := i) (k' := k) (by omega), msend_c (c' := c) (by omega) (by omega) (by omega) (by omega) (by omega) (by omega) (by omega), mq0_Mo_pulse_0_j100 hc, mq0_Mo_pulse_0_j109 hc]; done)))
theorem mq0_Mo_pulse_0_j97 {c i k : Nat} (hc : c = 44 ∧ ¬ (0 ≤ k ∧ k < 3)) : ∀ (v : fw_V), (mf_Mo_pulse_0_j97 v) c i k = v c i k := by
  intro v
  unfold mf_Mo_pulse_0_j97
  (try dsimp only)
  all_goals ((repeat' split) <;> (first | with_reducible rfl | (simp only [msend_c (c' := c) (by omega) (by omega) (by omega) (by omega) (by omega) (by omega) (by omega), mq0_Mo_pulse_0_j98 hc, mq0_Mo_pulse_0_j116 hc]; done)))
theorem mq0_Mo_pulse_0_j96 {c i k : Nat} (hc : c = 44 ∧ ¬ (0 ≤ k ∧ k < 3)) : ∀ (v : fw_V), (mf_Mo_pulse_0_j96 v) c i k = v c i k := by
  intro v
  unfold mf_Mo_pulse_0_j96
  (try dsimp only)
  all_goals ((repeat' split) <;> (first | with_reducible rfl | (simp only [msend_c (c' := c) (by omega) (by omega) (by omega) (by omega) (by omega) (by omega) (by omega), mq0_Mo_pulse_0_j97 hc]; done)))
theorem mq0_Mo_pulse_0_j74 {c i k : Nat} (hc : c = 44 ∧ ¬ (0 ≤ k ∧ k < 3)) : ∀ (v : fw_V) (x4 : Int32), (mf_Mo_pulse_0_j74 v x4) c i k = v c i k := by
  intro v x4
  unfold mf_Mo_pulse_0_j74
  (try dsimp only)
  all_goals ((repeat' split) <;> (first | with_reducible rfl | (simp only [fw_up_ne (c := 9) (i := 0) (k := 3) (c' := c) (i' := i) (k' := k) (by omega), msend_c (c' := c) (by omega) (by omega) (by omega) (by omega) (by omega) (by omega) (by omega), mq0_Mo_pulse_0_j75 hc, mq0_Mo_pulse_0_j96 hc]; done)))
theorem mq0_Mo_pulse_0_j73 {c i k : Nat} (hc : c = 44 ∧ ¬ (0 ≤ k ∧ k < 3)) : ∀ (v : fw_V) (x4 : Int32), (mf_Mo_pulse_0_j73 v x4) c i k = v c i k := by
  intro v x4
  unfold mf_Mo_pulse_0_j73
  (try dsimp only)
  all_goals ((repeat' split) <;> (first | with_reducible rfl | (simp only [msend_c (c' := c) (by omega) (by omega) (by omega) (by omega) (by omega) (by omega) (by omega), mq0_Mo_pulse_0_j74 hc]; done)))
theorem mq0_Mo_pulse_0_j117 {c i k : Nat} (hc : c = 44 ∧ ¬ (0 ≤ k ∧ k < 3)) : ∀ (v : fw_V) (x4 : Int32) (x90 : Int32), (mf_Mo_pulse_0_j117 v x4 x90) c i k = v c i k := by
  intro v x4 x90
  unfold mf_Mo_pulse_0_j117
  (try dsimp only)
  all_goals ((repeat' split) <;> (first | with_reducible rfl | (simp only [fw_up_ne (c := 9) (i := 0) (k := 3) (c' := c) (i' := i) (k' := k) (by omega), msend_c (c' := c) (by omega) (by omega) (by omega) (by omega) (by omega) (by omega) (by omega), mq0_Mo_pulse_0_j75 hc, mq0_Mo_pulse_0_j96 hc]; done)))
theorem mq0_Mo_pulse_0_j72 {c i k : Nat} (hc : c = 44 ∧ ¬ (0 ≤ k ∧ k < 3)) : ∀ (v : fw_V), (mf_Mo_pulse_0_j72 v) c i k = v c i k := by
  intro v
  unfold mf_Mo_pulse_0_j72
  (try dsimp only)
  all_goals ((repeat' split) <;> (first | with_reducible rfl | (simp only [msend_c (c' := c) (by omega) (by omega) (by omega) (by omega) (by omega) (by omega) (by omega), mq0_Mo_pulse_0_j73 hc, mq0_Mo_pulse_0_j117 hc]; done)))
theorem mq0_Mo_pulse_0_j71 {c i k : Nat} (hc : c = 44 ∧ ¬ (0 ≤ k ∧ k < 3)) : ∀ (v : fw_V), (mf_Mo_pulse_0_j71 v) c i k = v c i k := by
  intro v
  unfold mf_Mo_pulse_0_j71
  (try dsimp only)
  all_goals ((repeat' split) <;> (first | with_reducible rfl | (simp only [msend_c (c' := c) (by omega) (by omega) (by omega) (by omega) (by omega) (by omega) (by omega), mq0_Mo_pulse_0_j72 hc]; done)))
theorem mq0_Mo_pulse_0_j122 {c i k : Nat} (hc : c = 44 ∧ ¬ (0 ≤ k ∧ k < 3)) : ∀ (v : fw_V), (mf_Mo_pulse_0_j122 v) c i k = v c i k := by
  intro v
  unfold mf_Mo_pulse_0_j122
  (try dsimp only)
  all_goals ((repeat' split) <;> (first | with_reducible rfl | (simp only [msend_c (c' := c) (by omega) (by omega) (by omega) (by omega) (by omega) (by omega) (by omega), mq0_Mo_pulse_0_j97 hc]; done)))
theorem mq0_Mo_pulse_0_j123 {c i k : Nat} (hc : c = 44 ∧ ¬ (0 ≤ k ∧ k < 3)) : ∀ (v : fw_V), (mf_Mo_pulse_0_j123 v) c i k = v c i k := by
  intro v
  unfold mf_Mo_pulse_0_j123
  (try dsimp only)
  all_goals ((repeat' split) <;> (first | with_reducible rfl | (simp only [msend_c (c' := c) (by omega) (by omega) (by omega) (by omega) (by omega) (by omega) (by omega), mq0_Mo_pulse_0_j97 hc]; done)))
theorem mq0_Mo_pulse_0_j121 {c i k : Nat} (hc : c = 44 ∧ ¬ (0 ≤ k ∧ k < 3)) : ∀ (v : fw_V) (x4 : Int32), (mf_Mo_pulse_0_j121 v x4) c i k = v c i k := by
  intro v x4
  unfold mf_Mo_pulse_0_j121
  (try dsimp only)
  all_goals ((repeat' split) <;> (first | with_reducible rfl | (simp only [fw_up_ne (c := 9) (i := 0) (k := 3) (c' := c) (i' := i) (k' := k) (by omega), msend_c (c' := c) (by omega) (by omega) (by omega) (by omega) (by omega) (by omega) (by omega), mq0_Mo_pulse_0_j122 hc, mq0_Mo_pulse_0_j123 hc]; done)))
theorem mq0_Mo_pulse_0_j120 {c i k : Nat} (hc : c = 44 ∧ ¬ (0 ≤ k ∧ k < 3)) : ∀ (v : fw_V) (x4 : Int32), (mf_Mo_pulse_0_j120 v x4) c i k = v c i k := by
  intro v x4
  unfold mf_Mo_pulse_0_j120
  (try dsimp only)
  all_goals ((repeat' split) <;> (first | with_reducible rfl | (simp only [msend_c (c' := c) (by omega) (by omega) (by omega) (by omega) (by omega) (by omega) (by omega), mq0_Mo_pulse_0_j121 hc]; done)))
theorem mq0_Mo_pulse_0_j124 {c i k : Nat} (hc : c = 44 ∧ ¬ (0 ≤ k ∧ k < 3)) : ∀ (v : fw_V) (x4 : Int32) (x90 : Int32), (mf_Mo_pulse_0_j124 v x4 x90) c i k = v c i k := by
  intro v x4 x90
  unfold mf_Mo_pulse_0_j124
  (try dsimp only)
  all_goals ((repeat' split) <;> (first | with_reducible rfl | (simp only [fw_up_ne (c := 9) (i := 0) (k := 3) (c' := c) (i' := i) (k' := k) (by omega), msend_c (c' := c) (by omega) (by omega) (by omega) (by omega) (by omega) (by omega) (by omega), mq0_Mo_pulse_0_j122 hc, mq0_Mo_pulse_0_j123 hc]; done)))
theorem mq0_Mo_pulse_0_j119 {c i k : Nat} (hc : c = 44 ∧ ¬ (0 ≤ k ∧ k < 3)) : ∀ (v : fw_V), (mf_Mo_pulse_0_j119 v) c i k = v c i k := by
  intro v
  unfold mf_Mo_pulse_0_j119
  (try dsimp only)
  all_goals ((repeat' split) <;> (first | with_reducible rfl | (simp only [msend_c (c' := c) (by omega) (by omega) (by omega) (by omega) (by omega) (by omega) (by omega), mq0_Mo_pulse_0_j120 hc, mq0_Mo_pulse_0_j124 hc]; done)))
theorem mq0_Mo_pulse_0_j118 {c i k : Nat} (hc : c = 44 ∧ ¬ (0 ≤ k ∧ k < 3)) : ∀ (v : fw_V), (mf_Mo_pulse_0_j118 v) c i k = v c i k := by
  intro v
  unfold mf_Mo_pulse_0_j118
  (try dsimp only)
  all_goals ((repeat' split) <;> (first | with_reducible rfl | (simp only [msend_c (c' := c) (by omega) (by omega) (by omega) (by omega) (by omega) (by omega) (by omega), mq0_Mo_pulse_0_j119 hc]; done)))
theorem mq0_Mo_pulse_0_j70 {c i k : Nat} (hc : c = 44 ∧ ¬ (0 ≤ k ∧ k < 3)) : ∀ (v : fw_V) (x4 : Int32), (mf_Mo_pulse_0_j70 v x4) c i k = v c i k := by
  intro v x4
  unfold mf_Mo_pulse_0_j70
  (try dsimp only)
  all_goals ((repeat' split) <;> (first | with_reducible rfl | (simp only [fw_up_ne (c := 9) (i := 0) (k := 2) (c' := c) (i' := i) (k' := k) (by omega), msend_c (c' := c) (by omega) (by omega) (by omega) (by omega) (by omega) (by omega) (by omega), mq0_Mo_pulse_0_j71 hc, mq0_Mo_pulse_0_j118 hc]; done)))
theorem mq0_Mo_pulse_0_j69 {c i k : Nat} (hc : c = 44 ∧ ¬ (0 ≤ k ∧ k < 3)) : ∀ (v : fw_V) (x4 : Int32), (mf_Mo_pulse_0_j69 v x4) c i k = v c i k := by
  intro v x4
  unfold mf_Mo_pulse_0_j69
  (try dsimp only)
  all_goals ((repeat' split) <;> (first | with_reducible rfl | (simp only [msend_c (c' := c) (by omega) (by omega) (by omega) (by omega) (by omega) (by omega) (by omega), mq0_Mo_pulse_0_j70 hc]; done)))
theorem mq0_Mo_pulse_0_j125 {c i k : Nat} (hc : c = 44 ∧ ¬ (0 ≤ k ∧ k < 3)) : ∀ (v : fw_V) (x4 : Int32) (x90 : Int32), (mf_Mo_pulse_0_j125 v x4 x90) c i k = v c i k := by
  intro v x4 x90
  unfold mf_Mo_pulse_0_j125
  (try dsimp only)
  all_goals ((repeat' split) <;> (first | with_reducible rfl | (simp only [fw_up_ne (c := 9) (i := 0) (k := 2) (c' := c) (i' := i) (k' := k) (by omega), msend_c (c' := c) (by omega) (by omega) (by omega) (by omega) (by omega) (by omega) (by omega), mq0_Mo_pulse_0_j71 hc, mq0_Mo_pulse_0_j118 hc]; done)))
theorem mq0_Mo_pulse_0_j68 {c i k : Nat} (hc : c = 44 ∧ ¬ (0 ≤ k ∧ k < 3)) : ∀ (v : fw_V), (mf_Mo_pulse_0_j68 v) c i k = v c i k := by
  intro v
  unfold mf_Mo_pulse_0_j68
  (try dsimp only)
  all_goals ((repeat' split) <;> (first | with_reducible rfl | (simp only [msend_c (c' := c) (by omega) (by omega) (by omega) (by omega) (by omega) (by omega) (by omega), mq0_Mo_pulse_0_j69 hc, mq0_Mo_pulse_0_j125 hc]; done)))
theorem mq0_Mo_pulse_0_j67 {c i k : Nat} (hc : c = 44 ∧ ¬ (0 ≤ k ∧ k < 3)) : ∀ (v : fw_V), (mf_Mo_pulse_0_j67 v) c i k = v c i k := by
  intro v
  unfold mf_Mo_pulse_0_j67
  (try dsimp only)
  all_goals ((repeat' split) <;> (first | with_reducible rfl | (simp only [msend_c (c' := c) (by omega) (by omega) (by omega) (by omega) (by omega) (by omega) (by omega), mq0_Mo_pulse_0_j68 hc]; done)))
theorem mq0_Mo_pulse_0_j7 {c i k : Nat} (hc : c = 44 ∧ ¬ (0 ≤ k ∧ k < 3)) : ∀ (v : fw_V) (x4 : Int32), (mf_Mo_pulse_0_j7 v x4) c i k = v c i k := by
  intro v x4
  unfold mf_Mo_pulse_0_j7
  (try dsimp only)
  all_goals ((repeat' split) <;> (first | with_reducible rfl | (simp only [fw_up_ne (c := 9) (i := 0) (k := 1) (c' := c) (i' := i) (k' := k) (by omega), msend_c (c' := c) (by omega) (by omega) (by omega) (by omega) (by omega) (by omega) (by omega), mq0_Mo_pulse_0_j8 hc, mq0_Mo_pulse_0_j67 hc]; done)))
theorem mq0_Mo_pulse_0_j6 {c i k : Nat} (hc : c = 44 ∧ ¬ (0 ≤ k ∧ k < 3)) : ∀ (v : fw_V) (x4 : Int32), (mf_Mo_pulse_0_j6 v x4) c i k = v c i k := by
  intro v x4
  unfold mf_Mo_pulse_0_j6
  (try dsimp only)
  all_goals ((repeat' split) <;> (first | with_reducible rfl | (simp only [msend_c (c' := c) (by omega) (by omega) (by omega) (by omega) (by omega) (by omega) (by omega), mq0_Mo_pulse_0_j7 hc]; done)))
theorem mq0_Mo_pulse_0_j126 {c i k : Nat} (hc : c = 44 ∧ ¬ (0 ≤ k ∧ k < 3)) : ∀ (v : fw_V) (x4 : Int32) (x90 : Int32), (mf_Mo_pulse_0_j126 v x4 x90) c i k = v c i k := by
  intro v x4 x90
  unfold mf_Mo_pulse_0_j126
  (try dsimp only)
  all_goals ((repeat' split) <;> (first | with_reducible rfl | (simp only [fw_up_ne (c := 9) (i := 0) (k := 1) (c' := c) (i' := i) (k' := k) (by omega), msend_c (c' := c) (by omega) (by omega) (by omega) (by omega) (by omega) (by omega) (by omega), mq0_Mo_pulse_0_j8 hc, mq0_Mo_pulse_0_j67 hc]; done)))
theorem mq0_Mo_pulse_0_j5 {c i k : Nat} (hc : c = 44 ∧ ¬ (0 ≤ k ∧ k < 3)) : ∀ (v : fw_V), (mf_Mo_pulse_0_j5 v) c i k = v c i k := by
  intro v
  unfold mf_Mo_pulse_0_j5
  (try dsimp only)
  all_goals ((repeat' split) <;> (first | with_reducible rfl | (simp only [msend_c (c' := c) (by omega) (by omega) (by omega) (by omega) (by omega) (by omega) (by omega), mq0_Mo_pulse_0_j6 hc, mq0_Mo_pulse_0_j126 hc]; done)))
theorem mq0_Mo_pulse_0_j4 {c i k : Nat} (hc : c = 44 ∧ ¬ (0 ≤ k ∧ k < 3)) : ∀ (v : fw_V), (mf_Mo_pulse_0_j4 v) c i k = v c i k := by
  intro v
  unfold mf_Mo_pulse_0_j4
  (try dsimp only)
  all_goals ((repeat' split) <;> (first | with_reducible rfl | (simp only [msend_c (c' := c) (by omega) (by omega) (by omega) (by omega) (by omega) (by omega) (by omega), mq0_Mo_pulse_0_j5 hc]; done)))
theorem mq0_Mo_pulse_0_j131 {c i k : Nat} (hc : c = 44 ∧ ¬ (0 ≤ k ∧ k < 3)) : ∀ (v : fw_V), (mf_Mo_pulse_0_j131 v) c i k = v c i k := by
  intro v
  unfold mf_Mo_pulse_0_j131
  (try dsimp only)
  all_goals ((repeat' split) <;> (first | with_reducible rfl | (simp only [msend_c (c' := c) (by omega) (by omega) (by omega) (by omega) (by omega) (by omega) (by omega), mq0_Mo_pulse_0_j68 hc]; done)))
theorem mq0_Mo_pulse_0_j132 {c i k : Nat} (hc : c = 44 ∧ ¬ (0 ≤ k ∧ k < 3)) : ∀ (v : fw_V), (mf_Mo_pulse_0_j132 v) c i k = v c i k := by
  intro v
  unfold mf_Mo_pulse_0_j132
  (try dsimp only)
  all_goals ((repeat' split) <;> (first | with_reducible rfl | (simp only [msend_c (c' := c) (by omega) (by omega) (by omega) (by omega) (by omega) (by omega) (by omega), mq0_Mo_pulse_0_j68 hc]; done)))
theorem mq0_Mo_pulse_0_j130 {c i k : Nat} (hc : c = 44 ∧ ¬ (0 ≤ k ∧ k < 3)) : ∀ (v : fw_V) (x4 : Int32), (mf_Mo_pulse_0_j130 v x4) c i k = v c i k := by
  intro v x4
  unfold mf_Mo_pulse_0_j130
  (try dsimp only)
  all_goals ((repeat' split) <;> (first | with_reducible rfl | (simp only [fw_up_ne (c := 9) (i := 0) (k := 1) (c' := c) (i' := i) (k' := k) (by omega), msend_c (c' := c) (by omega) (by omega) (by omega) (by omega) (by omega) (by omega) (by omega), mq0_Mo_pulse_0_j131 hc, mq0_Mo_pulse_0_j132 hc]; done)))
theorem mq0_Mo_pulse_0_j129 {c i k : Nat} (hc : c = 44 ∧ ¬ (0 ≤ k ∧ k < 3)) : ∀ (v : fw_V) (x4 : Int32), (mf_Mo_pulse_0_j129 v x4) c i k = v c i k := by
  intro v x4
  unfold mf_Mo_pulse_0_j129
  (try dsimp only)
  all_goals ((repeat' split) <;> (first | with_reducible rfl | (simp only [msend_c (c' := c) (by omega) (by omega) (by omega) (by omega) (by omega) (by omega) (by omega), mq0_Mo_pulse_0_j130 hc]; done)))
theorem mq0_Mo_pulse_0_j133 {c i k : Nat} (hc : c = 44 ∧ ¬ (0 ≤ k ∧ k < 3)) : ∀ (v : fw_V) (x4 : Int32) (x90 : Int32), (mf_Mo_pulse_0_j133 v x4 x90) c i k = v c i k := by
  intro v x4 x90
  unfold mf_Mo_pulse_0_j133
  (try dsimp only)
  all_goals ((repeat' split) <;> (first | with_reducible rfl | (simp only [fw_up_ne (c := 9) (i := 0) (k := 1) (c' := c) (i' := i) (k' := k) (by omega), msend_c (c' := c) (by omega) (by omega) (by omega) (by omega) (by omega) (by omega) (by omega), mq0_Mo_pulse_0_j131 hc, mq0_Mo_pulse_0_j132 hc]; done)))
theorem mq0_Mo_pulse_0_j128 {c i k : Nat} (hc : c = 44 ∧ ¬ (0 ≤ k ∧ k < 3)) : ∀ (v : fw_V), (mf_Mo_pulse_0_j128 v) c i k = v c i k := by
  intro v
  unfold mf_Mo_pulse_0_j128
  (try dsimp only)
  all_goals ((repeat' split) <;> (first | with_reducible rfl | (simp only [msend_c (c' := c) (by omega) (by omega) (by omega) (by omega) (by omega) (by omega) (by omega), mq0_Mo_pulse_0_j129 hc, mq0_Mo_pulse_0_j133 hc]; done)))
theorem mq0_Mo_pulse_0_j127 {c i k : Nat} (hc : c = 44 ∧ ¬ (0 ≤ k ∧ k < 3)) : ∀ (v : fw_V), (mf_Mo_pulse_0_j127 v) c i k = v c i k := by
  intro v
  unfold mf_Mo_pulse_0_j127
  (try dsimp only)
  all_goals ((repeat' split) <;> (first | with_reducible rfl | (simp only [msend_c (c' := c) (by omega) (by omega) (by omega) (by omega) (by omega) (by omega) (by omega), mq0_Mo_pulse_0_j128 hc]; done)))
theorem mq0_Mo_pulse_0_j3 {c i k : Nat} (hc : c = 44 ∧ ¬ (0 ≤ k ∧ k < 3)) : ∀ (v : fw_V) (x4 : Int32), (mf_Mo_pulse_0_j3 v x4) c i k = v c i k := by
  intro v x4
  unfold mf_Mo_pulse_0_j3
  (try dsimp only)
  all_goals ((repeat' split) <;> (first | with_reducible rfl | (simp only [fw_up_ne (c := 9) (i := 0) (k := 0) (c' := c) (i' := i) (k' := k) (by omega), msend_c (c' := c) (by omega) (by omega) (by omega) (by omega) (by omega) (by omega) (by omega), mq0_Mo_pulse_0_j4 hc, mq0_Mo_pulse_0_j127 hc]; done)))
theorem mq0_Mo_pulse_0_j2 {c i k : Nat} (hc : c = 44 ∧ ¬ (0 ≤ k ∧ k < 3)) : ∀ (v : fw_V) (x4 : Int32), (mf_Mo_pulse_0_j2 v x4) c i k = v c i k := by
  intro v x4
  unfold mf_Mo_pulse_0_j2
  (try dsimp only)
  all_goals ((repeat' split) <;> (first | with_reducible rfl | (simp only [msend_c (c' := c) (by omega) (by omega) (by omega) (by omega) (by omega) (by omega) (by omega), mq0_Mo_pulse_0_j3 hc]; done)))
theorem mq0_Mo_pulse_0_j134 {c i k : Nat} (hc : c = 44 ∧ ¬ (0 ≤ k ∧ k < 3)) : ∀ (v : fw_V) (x4 : Int32) (x90 : Int32), (mf_Mo_pulse_0_j134 v x4 x90) c i k = v c i k := by
  intro v x4 x90
  unfold mf_Mo_pulse_0_j134
  (try dsimp only)
  all_goals ((repeat' split) <;> (first | with_reducible rfl | (simp only [fw_up_ne (c := 9) (i := 0) (k := 0) (c' := c) (i' := i) (k' := k) (by omega), msend_c (c' := c) (by omega) (by omega) (by omega) (by omega) (by omega) (by omega) (by omega), mq0_Mo_pulse_0_j4 hc, mq0_Mo_pulse_0_j127 hc]; done)))
theorem mq0_Mo_pulse_0_j1 {c i k : Nat} (hc : c = 44 ∧ ¬ (0 ≤ k ∧ k < 3)) : ∀ (v : fw_V), (mf_Mo_pulse_0_j1 v) c i k = v c i k := by
  intro v
  unfold mf_Mo_pulse_0_j1
  (try dsimp only)
  all_goals ((repeat' split) <;> (first | with_reducible rfl | (simp only [msend_c (c' := c) (by omega) (by omega) (by omega) (by omega) (by omega) (by omega) (by omega), mq0_Mo_pulse_0_j2 hc, mq0_Mo_pulse_0_j134 hc]; done)))
theorem mq0_Mo_pulse_0 {c i k : Nat} (hc : c = 44 ∧ ¬ (0 ≤ k ∧ k < 3)) : ∀ (v0 : fw_V), (mf_Mo_pulse_0 v0) c i k = v0 c i k := by
  intro v0
  unfold mf_Mo_pulse_0
  (try dsimp only)
  all_goals ((repeat' split) <;> (first | with_reducible rfl | (simp only [fw_up_ne (c := 32) (i := 0) (k := 0) (c' := c) (i' := i) (k' := k) (by omega), fw_up_ne (c := 33) (i := 0) (k := 0) (c' := c) (i' := i) (k' := k) (by omega), fw_up_ne (c := 0) (i := 0) (k := 56) (c' := c) (i' := i) (k' := k) (by omega), msend_c (c' := c) (by omega) (by omega) (by omega) (by omega) (by omega) (by omega) (by omega), mq0_Mo_rest_0 hc, mq0_Mo_quit_0 hc, mq0_Mo_reply_0 hc, mq0_Mo_alarm_0 hc, mq0_Mo_pulse_0_j1 hc]; done)))
theorem mq0_Mo_obeys_0_j22 {c i k : Nat} (hc : c = 44 ∧ ¬ (0 ≤ k ∧ k < 3)) : ∀ (v : fw_V) (a2 : Int32) (a3 : Int32), (mf_Mo_obeys_0_j22 v a2 a3) c i k = v c i k := by
  intro v a2 a3
  unfold mf_Mo_obeys_0_j22
  (try dsimp only)
  all_goals ((repeat' split) <;> (first | with_reducible rfl | (simp only [msend_c (c' := c) (by omega) (by omega) (by omega) (by omega) (by omega) (by omega) (by omega)]; done)))
theorem mq0_Mo_obeys_0_j21 {c i k : Nat} (hc : c = 44 ∧ ¬ (0 ≤ k ∧ k < 3)) : ∀ (v : fw_V) (a2 : Int32) (a3 : Int32), (mf_Mo_obeys_0_j21 v a2 a3) c i k = v c i k := by
  intro v a2 a3
  unfold mf_Mo_obeys_0_j21
  (try dsimp only)
  all_goals ((repeat' split) <;> (first | with_reducible rfl | (simp only [msend_c (c' := c) (by omega) (by omega) (by omega) (by omega) (by omega) (by omega) (by omega), mq0_Mo_obeys_0_j22 hc]; done)))
theorem mq0_Mo_obeys_0_j23 {c i k : Nat} (hc : c = 44 ∧ ¬ (0 ≤ k ∧ k < 3)) : ∀ (v : fw_V) (a2 : Int32) (a3 : Int32), (mf_Mo_obeys_0_j23 v a2 a3) c i k = v c i k := by
  intro v a2 a3
  unfold mf_Mo_obeys_0_j23
  (try dsimp only)
  all_goals ((repeat' split) <;> (first | with_reducible rfl | (simp only [fw_up_ne (c := 46) (i := 0) (k := 5) (c' := c) (i' := i) (k' := k) (by omega), msend_c (c' := c) (by omega) (by omega) (by omega) (by omega) (by omega) (by omega) (by omega), mq0_Mo_obeys_0_j21 hc]; done)))
theorem mq0_Mo_obeys_0_j24 {c i k : Nat} (hc : c = 44 ∧ ¬ (0 ≤ k ∧ k < 3)) : ∀ (v : fw_V) (a2 : Int32) (a3 : Int32) (x90 : Int32), (mf_Mo_obeys_0_j24 v a2 a3 x90) c i k = v c i k := by
  intro v a2 a3 x90
  unfold mf_Mo_obeys_0_j24
  (try dsimp only)
  all_goals ((repeat' split) <;> (first | with_reducible rfl | (simp only [fw_up_ne (c := 46) (i := 0) (k := 5) (c' := c) (i' := i) (k' := k) (by omega), msend_c (c' := c) (by omega) (by omega) (by omega) (by omega) (by omega) (by omega) (by omega), mq0_Mo_obeys_0_j21 hc]; done)))
theorem mq0_Mo_obeys_0_j20 {c i k : Nat} (hc : c = 44 ∧ ¬ (0 ≤ k ∧ k < 3)) : ∀ (v : fw_V) (a2 : Int32) (a3 : Int32), (mf_Mo_obeys_0_j20 v a2 a3) c i k = v c i k := by
  intro v a2 a3
  unfold mf_Mo_obeys_0_j20
  (try dsimp only)
  all_goals ((repeat' split) <;> (first | with_reducible rfl | (simp only [msend_c (c' := c) (by omega) (by omega) (by omega) (by omega) (by omega) (by omega) (by omega), mq0_Mo_obeys_0_j21 hc, mq0_Mo_obeys_0_j23 hc, mq0_Mo_obeys_0_j24 hc]; done)))
theorem mq0_Mo_obeys_0_j19 {c i k : Nat} (hc : c = 44 ∧ ¬ (0 ≤ k ∧ k < 3)) : ∀ (v : fw_V) (a2 : Int32) (a3 : Int32), (mf_Mo_obeys_0_j19 v a2 a3) c i k = v c i k := by
  intro v a2 a3
  unfold mf_Mo_obeys_0_j19
  (try dsimp only)
  all_goals ((repeat' split) <;> (first | with_reducible rfl | (simp only [msend_c (c' := c) (by omega) (by omega) (by omega) (by omega) (by omega) (by omega) (by omega), mq0_Mo_obeys_0_j20 hc]; done)))
theorem mq0_Mo_obeys_0_j25 {c i k : Nat} (hc : c = 44 ∧ ¬ (0 ≤ k ∧ k < 3)) : ∀ (v : fw_V) (a2 : Int32) (a3 : Int32), (mf_Mo_obeys_0_j25 v a2 a3) c i k = v c i k := by
  intro v a2 a3
  unfold mf_Mo_obeys_0_j25
  (try dsimp only)
  all_goals ((repeat' split) <;> (first | with_reducible rfl | (simp only [fw_up_ne (c := 46) (i := 0) (k := 4) (c' := c) (i' := i) (k' := k) (by omega), msend_c (c' := c) (by omega) (by omega) (by omega) (by omega) (by omega) (by omega) (by omega), mq0_Mo_obeys_0_j19 hc]; done)))
theorem mq0_Mo_obeys_0_j26 {c i k : Nat} (hc : c = 44 ∧ ¬ (0 ≤ k ∧ k < 3)) : ∀ (v : fw_V) (a2 : Int32) (a3 : Int32) (x90 : Int32), (mf_Mo_obeys_0_j26 v a2 a3 x90) c i k = v c i k := by
  intro v a2 a3 x90
  unfold mf_Mo_obeys_0_j26
  (try dsimp only)
  all_goals ((repeat' split) <;> (first | with_reducible rfl | (simp only [fw_up_ne (c := 46) (i := 0) (k := 4) (c' := c) (i' := i) (k' := k) (by omega), msend_c (c' := c) (by omega) (by omega) (by omega) (by omega) (by omega) (by omega) (by omega), mq0_Mo_obeys_0_j19 hc]; done)))
theorem mq0_Mo_obeys_0_j18 {c i k : Nat} (hc : c = 44 ∧ ¬ (0 ≤ k ∧ k < 3)) : ∀ (v : fw_V) (a2 : Int32) (a3 : Int32), (mf_Mo_obeys_0_j18 v a2 a3) c i k = v c i k := by
  intro v a2 a3
  unfold mf_Mo_obeys_0_j18
  (try dsimp only)
  all_goals ((repeat' split) <;> (first | with_reducible rfl | (simp only [msend_c (c' := c) (by omega) (by omega) (by omega) (by omega) (by omega) (by omega) (by omega), mq0_Mo_obeys_0_j19 hc, mq0_Mo_obeys_0_j25 hc, mq0_Mo_obeys_0_j26 hc]; done)))
theorem mq0_Mo_obeys_0_j17 {c i k : Nat} (hc : c = 44 ∧ ¬ (0 ≤ k ∧ k < 3)) : ∀ (v : fw_V) (a2 : Int32) (a3 : Int32), (mf_Mo_obeys_0_j17 v a2 a3) c i k = v c i k := by
  intro v a2 a3
  unfold mf_Mo_obeys_0_j17
  (try dsimp only)
  all_goals ((repeat' split) <;> (first | with_reducible rfl | (simp only [msend_c (c' := c) (by omega) (by omega) (by omega) (by omega) (by omega) (by omega) (by omega), mq0_Mo_obeys_0_j18 hc]; done)))
theorem mq0_Mo_obeys_0_j27 {c i k : Nat} (hc : c = 44 ∧ ¬ (0 ≤ k ∧ k < 3)) : ∀ (v : fw_V) (a2 : Int32) (a3 : Int32), (mf_Mo_obeys_0_j27 v a2 a3) c i k = v c i k := by
  intro v a2 a3
  unfold mf_Mo_obeys_0_j27
  (try dsimp only)
  all_goals ((repeat' split) <;> (first | with_reducible rfl | (simp only [fw_up_ne (c := 46) (i := 0) (k := 3) (c' := c) (i' := i) (k' := k) (by omega), msend_c (c' := c) (by omega) (by omega) (by omega) (by omega) (by omega) (by omega) (by omega), mq0_Mo_obeys_0_j17 hc]; done)))
theorem mq0_Mo_obeys_0_j28 {c i k : Nat} (hc : c = 44 ∧ ¬ (0 ≤ k ∧ k < 3)) : ∀ (v : fw_V) (a2 : Int32) (a3 : Int32) (x90 : Int32), (mf_Mo_obeys_0_j28 v a2 a3 x90) c i k = v c i k := by
  intro v a2 a3 x90
  unfold mf_Mo_obeys_0_j28
  (try dsimp only)
  all_goals ((repeat' split) <;> (first | with_reducible rfl | (simp only [fw_up_ne (c := 46) (i := 0) (k := 3) (c' := c) (i' := i) (k' := k) (by omega), msend_c (c' := c) (by omega) (by omega) (by omega) (by omega) (by omega) (by omega) (by omega), mq0_Mo_obeys_0_j17 hc]; done)))
theorem mq0_Mo_obeys_0_j16 {c i k : Nat} (hc : c = 44 ∧ ¬ (0 ≤ k ∧ k < 3)) : ∀ (v : fw_V) (a2 : Int32) (a3 : Int32), (mf_Mo_obeys_0_j16 v a2 a3) c i k = v c i k := by
  intro v a2 a3
  unfold mf_Mo_obeys_0_j16
  (try dsimp only)
  all_goals ((repeat' split) <;> (first | with_reducible rfl | (simp only [msend_c (c' := c) (by omega) (by omega) (by omega) (by omega) (by omega) (by omega) (by omega), mq0_Mo_obeys_0_j17 hc, mq0_Mo_obeys_0_j27 hc, mq0_Mo_obeys_0_j28 hc]; done)))
theorem mq0_Mo_obeys_0_j15 {c i k : Nat} (hc : c = 44 ∧ ¬ (0 ≤ k ∧ k < 3)) : ∀ (v : fw_V) (a2 : Int32) (a3 : Int32), (mf_Mo_obeys_0_j15 v a2 a3) c i k = v c i k := by
  intro v a2 a3
  unfold mf_Mo_obeys_0_j15
  (try dsimp only)
  all_goals ((repeat' split) <;> (first | with_reducible rfl | (simp only [msend_c (c' := c) (by omega) (by omega) (by omega) (by omega) (by omega) (by omega) (by omega), mq0_Mo_obeys_0_j16 hc]; done)))
theorem mq0_Mo_obeys_0_j29 {c i k : Nat} (hc : c = 44 ∧ ¬ (0 ≤ k ∧ k < 3)) : ∀ (v : fw_V) (a2 : Int32) (a3 : Int32), (mf_Mo_obeys_0_j29 v a2 a3) c i k = v c i k := by
  intro v a2 a3
  unfold mf_Mo_obeys_0_j29
  (try dsimp only)
  all_goals ((repeat' split) <;> (first | with_reducible rfl | (simp only [fw_up_ne (c := 46) (i := 0) (k := 2) (c' := c) (i' := i) (k' := k) (by omega), msend_c (c' := c) (by omega) (by omega) (by omega) (by omega) (by omega) (by omega) (by omega), mq0_Mo_obeys_0_j15 hc]; done)))
theorem mq0_Mo_obeys_0_j30 {c i k : Nat} (hc : c = 44 ∧ ¬ (0 ≤ k ∧ k < 3)) : ∀ (v : fw_V) (a2 : Int32) (a3 : Int32) (x90 : Int32), (mf_Mo_obeys_0_j30 v a2 a3 x90) c i k = v c i k := by
  intro v a2 a3 x90
  unfold mf_Mo_obeys_0_j30
  (try dsimp only)
  all_goals ((repeat' split) <;> (first | with_reducible rfl | (simp only [fw_up_ne (c := 46) (i := 0) (k := 2) (c' := c) (i' := i) (k' := k) (by omega), msend_c (c' := c) (by omega) (by omega) (by omega) (by omega) (by omega) (by omega) (by omega), mq0_Mo_obeys_0_j15 hc]; done)))
theorem mq0_Mo_obeys_0_j14 {c i k : Nat} (hc : c = 44 ∧ ¬ (0 ≤ k ∧ k < 3)) : ∀ (v : fw_V) (a2 : Int32) (a3 : Int32), (mf_Mo_obeys_0_j14 v a2 a3) c i k = v c i k := by
  intro v a2 a3
  unfold mf_Mo_obeys_0_j14
  (try dsimp only)
  all_goals ((repeat' split) <;> (first | with_reducible rfl | (simp only [msend_c (c' := c) (by omega) (by omega) (by omega) (by omega) (by omega) (by omega) (by omega), mq0_Mo_obeys_0_j15 hc, mq0_Mo_obeys_0_j29 hc, mq0_Mo_obeys_0_j30 hc]; done)))
theorem mq0_Mo_obeys_0_j13 {c i k : Nat} (hc : c = 44 ∧ ¬ (0 ≤ k ∧ k < 3)) : ∀ (v : fw_V) (a2 : Int32) (a3 : Int32), (mf_Mo_obeys_0_j13 v a2 a3) c i k = v c i k := by
  intro v a2 a3
  unfold mf_Mo_obeys_0_j13
  (try dsimp only)
  all_goals ((repeat' split) <;> (first | with_reducible rfl | (simp only [msend_c (c' := c) (by omega) (by omega) (by omega) (by omega) (by omega) (by omega) (by omega), mq0_Mo_obeys_0_j14 hc]; done)))
theorem mq0_Mo_obeys_0_j31 {c i k : Nat} (hc : c = 44 ∧ ¬ (0 ≤ k ∧ k < 3)) : ∀ (v : fw_V) (a2 : Int32) (a3 : Int32), (mf_Mo_obeys_0_j31 v a2 a3) c i k = v c i k := by
  intro v a2 a3
  unfold mf_Mo_obeys_0_j31
  (try dsimp only)
  all_goals ((repeat' split) <;> (first | with_reducible rfl | (simp only [fw_up_ne (c := 46) (i := 0) (k := 1) (c' := c) (i' := i) (k' := k) (by omega), msend_c (c' := c) (by omega) (by omega) (by omega) (by omega) (by omega) (by omega) (by omega), mq0_Mo_obeys_0_j13 hc]; done)))
theorem mq0_Mo_obeys_0_j32 {c i k : Nat} (hc : c = 44 ∧ ¬ (0 ≤ k ∧ k < 3)) : ∀ (v : fw_V) (a2 : Int32) (a3 : Int32) (x90 : Int32), (mf_Mo_obeys_0_j32 v a2 a3 x90) c i k = v c i k := by
  intro v a2 a3 x90
  unfold mf_Mo_obeys_0_j32
  (try dsimp only)
  all_goals ((repeat' split) <;> (first | with_reducible rfl | (simp only [fw_up_ne (c := 46) (i := 0) (k := 1) (c' := c) (i' := i) (k' := k) (by omega), msend_c (c' := c) (by omega) (by omega) (by omega) (by omega) (by omega) (by omega) (by omega), mq0_Mo_obeys_0_j13 hc]; done)))
theorem mq0_Mo_obeys_0_j12 {c i k : Nat} (hc : c = 44 ∧ ¬ (0 ≤ k ∧ k < 3)) : ∀ (v : fw_V) (a2 : Int32) (a3 : Int32), (mf_Mo_obeys_0_j12 v a2 a3) c i k = v c i k := by
  intro v a2 a3
  unfold mf_Mo_obeys_0_j12
  (try dsimp only)
  all_goals ((repeat' split) <;> (first | with_reducible rfl | (simp only [msend_c (c' := c) (by omega) (by omega) (by omega) (by omega) (by omega) (by omega) (by omega), mq0_Mo_obeys_0_j13 hc, mq0_Mo_obeys_0_j31 hc, mq0_Mo_obeys_0_j32 hc]; done)))
theorem mq0_Mo_obeys_0_j11 {c i k : Nat} (hc : c = 44 ∧ ¬ (0 ≤ k ∧ k < 3)) : ∀ (v : fw_V) (a2 : Int32) (a3 : Int32), (mf_Mo_obeys_0_j11 v a2 a3) c i k = v c i k := by
  intro v a2 a3
  unfold mf_Mo_obeys_0_j11
  (try dsimp only)
  all_goals ((repeat' split) <;> (first | with_reducible rfl | (simp only [msend_c (c' := c) (by omega) (by omega) (by omega) (by omega) (by omega) (by omega) (by omega), mq0_Mo_obeys_0_j12 hc]; done)))
theorem mq0_Mo_obeys_0_j33 {c i k : Nat} (hc : c = 44 ∧ ¬ (0 ≤ k ∧ k < 3)) : ∀ (v : fw_V) (a2 : Int32) (a3 : Int32), (mf_Mo_obeys_0_j33 v a2 a3) c i k = v c i k := by
  intro v a2 a3
  unfold mf_Mo_obeys_0_j33
  (try dsimp only)
  all_goals ((repeat' split) <;> (first | with_reducible rfl | (simp only [fw_up_ne (c := 46) (i := 0) (k := 0) (c' := c) (i' := i) (k' := k) (by omega), msend_c (c' := c) (by omega) (by omega) (by omega) (by omega) (by omega) (by omega) (by omega), mq0_Mo_obeys_0_j11 hc]; done)))
theorem mq0_Mo_obeys_0_j34 {c i k : Nat} (hc : c = 44 ∧ ¬ (0 ≤ k ∧ k < 3)) : ∀ (v : fw_V) (a2 : Int32) (a3 : Int32) (x90 : Int32), (mf_Mo_obeys_0_j34 v a2 a3 x90) c i k = v c i k := by
  intro v a2 a3 x90
  unfold mf_Mo_obeys_0_j34
  (try dsimp only)
  all_goals ((repeat' split) <;> (first | with_reducible rfl | (simp only [fw_up_ne (c := 46) (i := 0) (k := 0) (c' := c) (i' := i) (k' := k) (by omega), msend_c (c' := c) (by omega) (by omega) (by omega) (by omega) (by omega) (by omega) (by omega), mq0_Mo_obeys_0_j11 hc]; done)))
theorem mq0_Mo_obeys_0_j10 {c i k : Nat} (hc : c = 44 ∧ ¬ (0 ≤ k ∧ k < 3)) : ∀ (v : fw_V) (a2 : Int32) (a3 : Int32), (mf_Mo_obeys_0_j10 v a2 a3) c i k = v c i k := by
  intro v a2 a3
  unfold mf_Mo_obeys_0_j10
  (try dsimp only)
  all_goals ((repeat' split) <;> (first | with_reducible rfl | (simp only [msend_c (c' := c) (by omega) (by omega) (by omega) (by omega) (by omega) (by omega) (by omega), mq0_Mo_obeys_0_j11 hc, mq0_Mo_obeys_0_j33 hc, mq0_Mo_obeys_0_j34 hc]; done)))
theorem mq0_Mo_obeys_0_j9 {c i k : Nat} (hc : c = 44 ∧ ¬ (0 ≤ k ∧ k < 3)) : ∀ (v : fw_V) (a2 : Int32) (a3 : Int32), (mf_Mo_obeys_0_j9 v a2 a3) c i k = v c i k := by
  intro v a2 a3
  unfold mf_Mo_obeys_0_j9
  (try dsimp only)
  all_goals ((repeat' split) <;> (first | with_reducible rfl | (simp only [msend_c (c' := c) (by omega) (by omega) (by omega) (by omega) (by omega) (by omega) (by omega)]; done)))
theorem mq0_Mo_obeys_0_j8 {c i k : Nat} (hc : c = 44 ∧ ¬ (0 ≤ k ∧ k < 3)) : ∀ (v : fw_V) (a2 : Int32) (a3 : Int32), (mf_Mo_obeys_0_j8 v a2 a3) c i k = v c i k := by
  intro v a2 a3
  unfold mf_Mo_obeys_0_j8
  (try dsimp only)
  all_goals ((repeat' split) <;> (first | with_reducible rfl | (simp only [fw_up_ne (c := 47) (i := 0) (k := 2) (c' := c) (i' := i) (k' := k) (by omega), fw_up_ne (c := 48) (i := 0) (k := 2) (c' := c) (i' := i) (k' := k) (by omega), msend_c (c' := c) (by omega) (by omega) (by omega) (by omega) (by omega) (by omega) (by omega), mq0_Mo_obeys_0_j9 hc]; done)))
theorem mq0_Mo_obeys_0_j7 {c i k : Nat} (hc : c = 44 ∧ ¬ (0 ≤ k ∧ k < 3)) : ∀ (v : fw_V) (a2 : Int32) (a3 : Int32), (mf_Mo_obeys_0_j7 v a2 a3) c i k = v c i k := by
  intro v a2 a3
  unfold mf_Mo_obeys_0_j7
  (try dsimp only)
  all_goals ((repeat' split) <;> (first | with_reducible rfl | (simp only [fw_up_ne (c := 47) (i := 0) (k := 1) (c' := c) (i' := i) (k' := k) (by omega), fw_up_ne (c := 48) (i := 0) (k := 1) (c' := c) (i' := i) (k' := k) (by omega), msend_c (c' := c) (by omega) (by omega) (by omega) (by omega) (by omega) (by omega) (by omega), mq0_Mo_obeys_0_j8 hc]; done)))
theorem mq0_Mo_obeys_0_j6 {c i k : Nat} (hc : c = 44 ∧ ¬ (0 ≤ k ∧ k < 3)) : ∀ (v : fw_V) (a2 : Int32) (a3 : Int32), (mf_Mo_obeys_0_j6 v a2 a3) c i k = v c i k := by
  intro v a2 a3
  unfold mf_Mo_obeys_0_j6
  (try dsimp only)
  all_goals ((repeat' split) <;> (first | with_reducible rfl | (simp only [fw_up_ne (c := 47) (i := 0) (k := 0) (c' := c) (i' := i) (k' := k) (by omega), fw_up_ne (c := 48) (i := 0) (k := 0) (c' := c) (i' := i) (k' := k) (by omega), msend_c (c' := c) (by omega) (by omega) (by omega) (by omega) (by omega) (by omega) (by omega), mq0_Mo_obeys_0_j7 hc]; done)))
theorem mq0_Mo_obeys_0_j44 {c i k : Nat} (hc : c = 44 ∧ ¬ (0 ≤ k ∧ k < 3)) : ∀ (v0 : fw_V) (a2 : Int32) (a3 : Int32), (mf_Mo_obeys_0_j44 v0 a2 a3) c i k = v0 c i k := by
  intro v0 a2 a3
  unfold mf_Mo_obeys_0_j44
  (try dsimp only)
  all_goals ((repeat' split) <;> (first | with_reducible rfl | (simp only [fw_up_ne (c := 28) (i := 0) (k := 0) (c' := c) (i' := i) (k' := k) (by omega), fw_up_ne (c := 32) (i := 0) (k := 0) (c' := c) (i' := i) (k' := k) (by omega), fw_up_ne (c := 33) (i := 0) (k := 0) (c' := c) (i' := i) (k' := k) (by omega), msend_c (c' := c) (by omega) (by omega) (by omega) (by omega) (by omega) (by omega) (by omega), mq0_Mo_reply_0 hc]; done)))
theorem mq0_Mo_obeys_0_j43 {c i k : Nat} (hc : c = 44 ∧ ¬ (0 ≤ k ∧ k < 3)) : ∀ (v0 : fw_V) (a2 : Int32) (a3 : Int32), (mf_Mo_obeys_0_j43 v0 a2 a3) c i k = v0 c i k := by
  intro v0 a2 a3
  unfold mf_Mo_obeys_0_j43
  (try dsimp only)
  all_goals ((repeat' split) <;> (first | with_reducible rfl | (simp only [msend_c (c' := c) (by omega) (by omega) (by omega) (by omega) (by omega) (by omega) (by omega), mq0_Mo_obeys_0_j44 hc]; done)))
theorem mq0_Mo_obeys_0_j42 {c i k : Nat} (hc : c = 44 ∧ ¬ (0 ≤ k ∧ k < 3)) : ∀ (v0 : fw_V) (a2 : Int32) (a3 : Int32), (mf_Mo_obeys_0_j42 v0 a2 a3) c i k = v0 c i k := by
  intro v0 a2 a3
  unfold mf_Mo_obeys_0_j42
  (try dsimp only)
  all_goals ((repeat' split) <;> (first | with_reducible rfl | (simp only [msend_c (c' := c) (by omega) (by omega) (by omega) (by omega) (by omega) (by omega) (by omega), mq0_Mo_obeys_0_j43 hc]; done)))
theorem mq0_Mo_obeys_0_j46 {c i k : Nat} (hc : c = 44 ∧ ¬ (0 ≤ k ∧ k < 3)) : ∀ (v0 : fw_V) (a2 : Int32) (a3 : Int32), (mf_Mo_obeys_0_j46 v0 a2 a3) c i k = v0 c i k := by
  intro v0 a2 a3
  unfold mf_Mo_obeys_0_j46
  (try dsimp only)
  all_goals ((repeat' split) <;> (first | with_reducible rfl | (simp only [msend_c (c' := c) (by omega) (by omega) (by omega) (by omega) (by omega) (by omega) (by omega), mq0_Mo_quit_0 hc]; done)))
theorem mq0_Mo_obeys_0_j45 {c i k : Nat} (hc : c = 44 ∧ ¬ (0 ≤ k ∧ k < 3)) : ∀ (v0 : fw_V) (a2 : Int32) (a3 : Int32), (mf_Mo_obeys_0_j45 v0 a2 a3) c i k = v0 c i k := by
  intro v0 a2 a3
  unfold mf_Mo_obeys_0_j45
  (try dsimp only)
  all_goals ((repeat' split) <;> (first | with_reducible rfl | (simp only [msend_c (c' := c) (by omega) (by omega) (by omega) (by omega) (by omega) (by omega) (by omega), mq0_Mo_obeys_0_j46 hc]; done)))
theorem mq0_Mo_obeys_0_j41 {c i k : Nat} (hc : c = 44 ∧ ¬ (0 ≤ k ∧ k < 3)) : ∀ (v0 : fw_V) (a2 : Int32) (a3 : Int32), (mf_Mo_obeys_0_j41 v0 a2 a3) c i k = v0 c i k := by
  intro v0 a2 a3
  unfold mf_Mo_obeys_0_j41
  (try dsimp only)
  all_goals ((repeat' split) <;> (first | with_reducible rfl | (simp only [msend_c (c' := c) (by omega) (by omega) (by omega) (by omega) (by omega) (by omega) (by omega), mq0_Mo_obeys_0_j42 hc, mq0_Mo_obeys_0_j45 hc]; done)))
theorem mq0_Mo_obeys_0_j40 {c i k : Nat} (hc : c = 44 ∧ ¬ (0 ≤ k ∧ k < 3)) : ∀ (v0 : fw_V) (a2 : Int32) (a3 : Int32), (mf_Mo_obeys_0_j40 v0 a2 a3) c i k = v0 c i k := by
  intro v0 a2 a3
  unfold mf_Mo_obeys_0_j40
  (try dsimp only)
  all_goals ((repeat' split) <;> (first | with_reducible rfl | (simp only [msend_c (c' := c) (by omega) (by omega) (by omega) (by omega) (by omega) (by omega) (by omega), mq0_Mo_obeys_0_j41 hc]; done)))
theorem mq0_Mo_obeys_0_j39 {c i k : Nat} (hc : c = 44 ∧ ¬ (0 ≤ k ∧ k < 3)) : ∀ (v0 : fw_V) (a2 : Int32) (a3 : Int32), (mf_Mo_obeys_0_j39 v0 a2 a3) c i k = v0 c i k := by
  intro v0 a2 a3
  unfold mf_Mo_obeys_0_j39
  (try dsimp only)
  all_goals ((repeat' split) <;> (first | with_reducible rfl | (simp only [msend_c (c' := c) (by omega) (by omega) (by omega) (by omega) (by omega) (by omega) (by omega), mq0_Mo_obeys_0_j40 hc]; done)))
theorem mq0_Mo_obeys_0_j50 {c i k : Nat} (hc : c = 44 ∧ ¬ (0 ≤ k ∧ k < 3)) : ∀ (v0 : fw_V) (a2 : Int32) (a3 : Int32), (mf_Mo_obeys_0_j50 v0 a2 a3) c i k = v0 c i k := by
  intro v0 a2 a3
  unfold mf_Mo_obeys_0_j50
  (try dsimp only)
  all_goals ((repeat' split) <;> (first | with_reducible rfl | (simp only [msend_c (c' := c) (by omega) (by omega) (by omega) (by omega) (by omega) (by omega) (by omega), mq0_Mo_obeys_0_j46 hc]; done)))
theorem mq0_Mo_obeys_0_j49 {c i k : Nat} (hc : c = 44 ∧ ¬ (0 ≤ k ∧ k < 3)) : ∀ (v0 : fw_V) (a2 : Int32) (a3 : Int32), (mf_Mo_obeys_0_j49 v0 a2 a3) c i k = v0 c i k := by
  intro v0 a2 a3
  unfold mf_Mo_obeys_0_j49
  (try dsimp only)
  all_goals ((repeat' split) <;> (first | with_reducible rfl | (simp only [msend_c (c' := c) (by omega) (by omega) (by omega) (by omega) (by omega) (by omega) (by omega), mq0_Mo_obeys_0_j50 hc]; done)))
theorem mq0_Mo_obeys_0_j51 {c i k : Nat} (hc : c = 44 ∧ ¬ (0 ≤ k ∧ k < 3)) : ∀ (v0 : fw_V) (a2 : Int32) (a3 : Int32), (mf_Mo_obeys_0_j51 v0 a2 a3) c i k = v0 c i k := by
  intro v0 a2 a3
  unfold mf_Mo_obeys_0_j51
  (try dsimp only)
  all_goals ((repeat' split) <;> (first | with_reducible rfl | (simp only [msend_c (c' := c) (by omega) (by omega) (by omega) (by omega) (by omega) (by omega) (by omega), mq0_Mo_obeys_0_j46 hc]; done)))
theorem mq0_Mo_obeys_0_j48 {c i k : Nat} (hc : c = 44 ∧ ¬ (0 ≤ k ∧ k < 3)) : ∀ (v0 : fw_V) (a2 : Int32) (a3 : Int32), (mf_Mo_obeys_0_j48 v0 a2 a3) c i k = v0 c i k := by
  intro v0 a2 a3
  unfold mf_Mo_obeys_0_j48
  (try dsimp only)
  all_goals ((repeat' split) <;> (first | with_reducible rfl | (simp only [msend_c (c' := c) (by omega) (by omega) (by omega) (by omega) (by omega) (by omega) (by omega), mq0_Mo_obeys_0_j49 hc, mq0_Mo_obeys_0_j51 hc]; done)))
theorem mq0_Mo_obeys_0_j47 {c i k : Nat} (hc : c = 44 ∧ ¬ (0 ≤ k ∧ k < 3)) : ∀ (v0 : fw_V) (a2 : Int32) (a3 : Int32), (mf_Mo_obeys_0_j47 v0 a2 a3) c i k = v0 c i k := by
  intro v0 a2 a3
  unfold mf_Mo_obeys_0_j47
  (try dsimp only)
  all_goals ((repeat' split) <;> (first | with_reducible rfl | (simp only [msend_c (c' := c) (by omega) (by omega) (by omega) (by omega) (by omega) (by omega) (by omega), mq0_Mo_obeys_0_j48 hc]; done)))
theorem mq0_Mo_obeys_0_j38 {c i k : Nat} (hc : c = 44 ∧ ¬ (0 ≤ k ∧ k < 3)) : ∀ (v0 : fw_V) (a2 : Int32) (a3 : Int32), (mf_Mo_obeys_0_j38 v0 a2 a3) c i k = v0 c i k := by
  intro v0 a2 a3
  unfold mf_Mo_obeys_0_j38
  (try dsimp only)
  all_goals ((repeat' split) <;> (first | with_reducible rfl | (simp only [msend_c (c' := c) (by omega) (by omega) (by omega) (by omega) (by omega) (by omega) (by omega), mq0_Mo_obeys_0_j39 hc, mq0_Mo_obeys_0_j47 hc]; done)))
theorem mq0_Mo_obeys_0_j37 {c i k : Nat} (hc : c = 44 ∧ ¬ (0 ≤ k ∧ k < 3)) : ∀ (v0 : fw_V) (a2 : Int32) (a3 : Int32), (mf_Mo_obeys_0_j37 v0 a2 a3) c i k = v0 c i k := by
  intro v0 a2 a3
  unfold mf_Mo_obeys_0_j37
  (try dsimp only)
  all_goals ((repeat' split) <;> (first | with_reducible rfl | (simp only [msend_c (c' := c) (by omega) (by omega) (by omega) (by omega) (by omega) (by omega) (by omega), mq0_Mo_obeys_0_j38 hc]; done)))
theorem mq0_Mo_obeys_0_j36 {c i k : Nat} (hc : c = 44 ∧ ¬ (0 ≤ k ∧ k < 3)) : ∀ (v0 : fw_V) (a2 : Int32) (a3 : Int32), (mf_Mo_obeys_0_j36 v0 a2 a3) c i k = v0 c i k := by
  intro v0 a2 a3
  unfold mf_Mo_obeys_0_j36
  (try dsimp only)
  all_goals ((repeat' split) <;> (first | with_reducible rfl | (simp only [msend_c (c' := c) (by omega) (by omega) (by omega) (by omega) (by omega) (by omega) (by omega), mq0_Mo_obeys_0_j37 hc]; done)))
theorem mq0_Mo_obeys_0_j55 {c i k : Nat} (hc : c = 44 ∧ ¬ (0 ≤ k ∧ k < 3)) : ∀ (v0 : fw_V) (a2 : Int32) (a3 : Int32), (mf_Mo_obeys_0_j55 v0 a2 a3) c i k = v0 c i k := by
  intro v0 a2 a3
  unfold mf_Mo_obeys_0_j55
  (try dsimp only)
  all_goals ((repeat' split) <;> (first | with_reducible rfl | (simp only [msend_c (c' := c) (by omega) (by omega) (by omega) (by omega) (by omega) (by omega) (by omega), mq0_Mo_obeys_0_j48 hc]; done)))
theorem mq0_Mo_obeys_0_j54 {c i k : Nat} (hc : c = 44 ∧ ¬ (0 ≤ k ∧ k < 3)) : ∀ (v0 : fw_V) (a2 : Int32) (a3 : Int32), (mf_Mo_obeys_0_j54 v0 a2 a3) c i k = v0 c i k := by
  intro v0 a2 a3
  unfold mf_Mo_obeys_0_j54
  (try dsimp only)
  all_goals ((repeat' split) <;> (first | with_reducible rfl | (simp only [msend_c (c' := c) (by omega) (by omega) (by omega) (by omega) (by omega) (by omega) (by omega), mq0_Mo_obeys_0_j55 hc]; done)))
theorem mq0_Mo_obeys_0_j56 {c i k : Nat} (hc : c = 44 ∧ ¬ (0 ≤ k ∧ k < 3)) : ∀ (v0 : fw_V) (a2 : Int32) (a3 : Int32), (mf_Mo_obeys_0_j56 v0 a2 a3) c i k = v0 c i k := by
  intro v0 a2 a3
  unfold mf_Mo_obeys_0_j56
  (try dsimp only)
  all_goals ((repeat' split) <;> (first | with_reducible rfl | (simp only [msend_c (c' := c) (by omega) (by omega) (by omega) (by omega) (by omega) (by omega) (by omega), mq0_Mo_obeys_0_j48 hc]; done)))
theorem mq0_Mo_obeys_0_j53 {c i k : Nat} (hc : c = 44 ∧ ¬ (0 ≤ k ∧ k < 3)) : ∀ (v0 : fw_V) (a2 : Int32) (a3 : Int32), (mf_Mo_obeys_0_j53 v0 a2 a3) c i k = v0 c i k := by
  intro v0 a2 a3
  unfold mf_Mo_obeys_0_j53
  (try dsimp only)
  all_goals ((repeat' split) <;> (first | with_reducible rfl | (simp only [msend_c (c' := c) (by omega) (by omega) (by omega) (by omega) (by omega) (by omega) (by omega), mq0_Mo_obeys_0_j54 hc, mq0_Mo_obeys_0_j56 hc]; done)))
theorem mq0_Mo_obeys_0_j52 {c i k : Nat} (hc : c = 44 ∧ ¬ (0 ≤ k ∧ k < 3)) : ∀ (v0 : fw_V) (a2 : Int32) (a3 : Int32), (mf_Mo_obeys_0_j52 v0 a2 a3) c i k = v0 c i k := by
  intro v0 a2 a3
  unfold mf_Mo_obeys_0_j52
  (try dsimp only)
  all_goals ((repeat' split) <;> (first | with_reducible rfl | (simp only [msend_c (c' := c) (by omega) (by omega) (by omega) (by omega) (by omega) (by omega) (by omega), mq0_Mo_obeys_0_j53 hc]; done)))
theorem mq0_Mo_obeys_0_j35 {c i k : Nat} (hc : c = 44 ∧ ¬ (0 ≤ k ∧ k < 3)) : ∀ (v0 : fw_V) (a2 : Int32) (a3 : Int32), (mf_Mo_obeys_0_j35 v0 a2 a3) c i k = v0 c i k := by
  intro v0 a2 a3
  unfold mf_Mo_obeys_0_j35
  (try dsimp only)
  all_goals ((repeat' split) <;> (first | with_reducible rfl | (simp only [msend_c (c' := c) (by omega) (by omega) (by omega) (by omega) (by omega) (by omega) (by omega), mq0_Mo_obeys_0_j36 hc, mq0_Mo_obeys_0_j52 hc]; done)))
theorem mq1_Mo_mark_1_j2 {c i k : Nat} (hc : c = 44 ∧ ¬ (3 ≤ k ∧ k < 6)) : ∀ (v0 : fw_V) (a2 : Int32), (mf_Mo_mark_1_j2 v0 a2) c i k = v0 c i k := by
  intro v0 a2
  unfold mf_Mo_mark_1_j2
  (try dsimp only)
  all_goals ((repeat' split) <;> (first | with_reducible rfl | (simp only [fw_up_ne (c := 31) (i := 0) (k := 1) (c' := c) (i' := i) (k' := k) (by omega), msend_c (c' := c) (by omega) (by omega) (by omega) (by omega) (by omega) (by omega) (by omega)]; done)))
theorem mq1_Mo_mark_1_j1 {c i k : Nat} (hc : c = 44 ∧ ¬ (3 ≤ k ∧ k < 6)) : ∀ (v0 : fw_V) (a2 : Int32), (mf_Mo_mark_1_j1 v0 a2) c i k = v0 c i k := by
  intro v0 a2
  unfold mf_Mo_mark_1_j1
  (try dsimp only)
  all_goals ((repeat' split) <;> (first | with_reducible rfl | (simp only [msend_c (c' := c) (by omega) (by omega) (by omega) (by omega) (by omega) (by omega) (by omega), mq1_Mo_mark_1_j2 hc]; done)))
theorem mq1_Mo_mark_1_j3 {c i k : Nat} (hc : c = 44 ∧ ¬ (3 ≤ k ∧ k < 6)) : ∀ (v0 : fw_V) (a2 : Int32), (mf_Mo_mark_1_j3 v0 a2) c i k = v0 c i k := by
  intro v0 a2
  unfold mf_Mo_mark_1_j3
  (try dsimp only)
  all_goals ((repeat' split) <;> (first | with_reducible rfl | (simp only [fw_up_ne (c := 31) (i := 0) (k := 1) (c' := c) (i' := i) (k' := k) (by omega), msend_c (c' := c) (by omega) (by omega) (by omega) (by omega) (by omega) (by omega) (by omega)]; done)))
theorem mq1_Mo_mark_1 {c i k : Nat} (hc : c = 44 ∧ ¬ (3 ≤ k ∧ k < 6)) : ∀ (v0 : fw_V) (a2 : Int32), (mf_Mo_mark_1 v0 a2) c i k = v0 c i k := by
  intro v0 a2
  unfold mf_Mo_mark_1
  (try dsimp only)
  all_goals ((repeat' split) <;> (first | with_reducible rfl | (simp only [msend_c (c' := c) (by omega) (by omega) (by omega) (by omega) (by omega) (by omega) (by omega), mq1_Mo_mark_1_j1 hc, mq1_Mo_mark_1_j3 hc]; done)))
theorem mq1_Mo_replace_1_j8 {c i k : Nat} (hc : c = 44 ∧ ¬ (3 ≤ k ∧ k < 6)) : ∀ (v : fw_V) (a2 : Int32) (x4 : Int32), (mf_Mo_replace_1_j8 v a2 x4) c i k = v c i k := by
  intro v a2 x4
  unfold mf_Mo_replace_1_j8
  (try dsimp only)
  all_goals ((repeat' split) <;> (first | with_reducible rfl | (simp only [msend_c (c' := c) (by omega) (by omega) (by omega) (by omega) (by omega) (by omega) (by omega)]; done)))
theorem mq1_Mo_replace_1_j7 {c i k : Nat} (hc : c = 44 ∧ ¬ (3 ≤ k ∧ k < 6)) : ∀ (v : fw_V) (a2 : Int32) (x4 : Int32), (mf_Mo_replace_1_j7 v a2 x4) c i k = v c i k := by
  intro v a2 x4
  unfold mf_Mo_replace_1_j7
  (try dsimp only)
  all_goals ((repeat' split) <;> (first | with_reducible rfl | (simp only [msend_c (c' := c) (by omega) (by omega) (by omega) (by omega) (by omega) (by omega) (by omega), mq1_Mo_replace_1_j8 hc]; done)))
theorem mq1_Mo_replace_1_j6 {c i k : Nat} (hc : c = 44 ∧ ¬ (3 ≤ k ∧ k < 6)) : ∀ (v : fw_V) (a2 : Int32) (x4 : Int32), (mf_Mo_replace_1_j6 v a2 x4) c i k = v c i k := by
  intro v a2 x4
  unfold mf_Mo_replace_1_j6
  (try dsimp only)
  all_goals ((repeat' split) <;> (first | with_reducible rfl | (simp only [fw_up_c (c := 46) (c' := c) (by omega), msend_c (c' := c) (by omega) (by omega) (by omega) (by omega) (by omega) (by omega) (by omega), mq1_Mo_replace_1_j7 hc]; done)))
theorem mq1_Mo_replace_1_j5 {c i k : Nat} (hc : c = 44 ∧ ¬ (3 ≤ k ∧ k < 6)) : ∀ (v : fw_V) (a2 : Int32) (x4 : Int32), (mf_Mo_replace_1_j5 v a2 x4) c i k = v c i k := by
  intro v a2 x4
  unfold mf_Mo_replace_1_j5
  (try dsimp only)
  all_goals ((repeat' split) <;> (first | with_reducible rfl | (simp only [fw_up_c (c := 46) (c' := c) (by omega), msend_c (c' := c) (by omega) (by omega) (by omega) (by omega) (by omega) (by omega) (by omega), mq1_Mo_replace_1_j6 hc, mq1_Mo_replace_1_j7 hc]; done)))
theorem mq1_Mo_replace_1_j4 {c i k : Nat} (hc : c = 44 ∧ ¬ (3 ≤ k ∧ k < 6)) : ∀ (v : fw_V) (a2 : Int32) (x4 : Int32), (mf_Mo_replace_1_j4 v a2 x4) c i k = v c i k := by
  intro v a2 x4
  unfold mf_Mo_replace_1_j4
  (try dsimp only)
  all_goals ((repeat' split) <;> (first | with_reducible rfl | (simp only [msend_c (c' := c) (by omega) (by omega) (by omega) (by omega) (by omega) (by omega) (by omega), mq1_Mo_replace_1_j5 hc]; done)))
theorem mq1_Mo_replace_1_j3 {c i k : Nat} (hc : c = 44 ∧ ¬ (3 ≤ k ∧ k < 6)) : ∀ (v0 : fw_V) (a2 : Int32), (mf_Mo_replace_1_j3 v0 a2) c i k = v0 c i k := by
  intro v0 a2
  unfold mf_Mo_replace_1_j3
  (try dsimp only)
  all_goals ((repeat' split) <;> (first | with_reducible rfl | (simp only [fw_up_c (c := 46) (c' := c) (by omega), msend_c (c' := c) (by omega) (by omega) (by omega) (by omega) (by omega) (by omega) (by omega), mq1_Mo_replace_1_j4 hc]; done)))
theorem mq1_Mo_replace_1_j11 {c i k : Nat} (hc : c = 44 ∧ ¬ (3 ≤ k ∧ k < 6)) : ∀ (v0 : fw_V) (a2 : Int32), (mf_Mo_replace_1_j11 v0 a2) c i k = v0 c i k := by
  intro v0 a2
  unfold mf_Mo_replace_1_j11
  (try dsimp only)
  all_goals ((repeat' split) <;> (first | with_reducible rfl | (simp only [fw_up_c (c := 46) (c' := c) (by omega), msend_c (c' := c) (by omega) (by omega) (by omega) (by omega) (by omega) (by omega) (by omega), mq1_Mo_replace_1_j7 hc]; done)))
theorem mq1_Mo_replace_1_j13 {c i k : Nat} (hc : c = 44 ∧ ¬ (3 ≤ k ∧ k < 6)) : ∀ (v0 : fw_V) (a2 : Int32), (mf_Mo_replace_1_j13 v0 a2) c i k = v0 c i k := by
  intro v0 a2
  unfold mf_Mo_replace_1_j13
  (try dsimp only)
  all_goals ((repeat' split) <;> (first | with_reducible rfl | (simp only [msend_c (c' := c) (by omega) (by omega) (by omega) (by omega) (by omega) (by omega) (by omega)]; done)))
theorem mq1_Mo_replace_1_j12 {c i k : Nat} (hc : c = 44 ∧ ¬ (3 ≤ k ∧ k < 6)) : ∀ (v0 : fw_V) (a2 : Int32), (mf_Mo_replace_1_j12 v0 a2) c i k = v0 c i k := by
  intro v0 a2
  unfold mf_Mo_replace_1_j12
  (try dsimp only)
  all_goals ((repeat' split) <;> (first | with_reducible rfl | (simp only [msend_c (c' := c) (by omega) (by omega) (by omega) (by omega) (by omega) (by omega) (by omega), mq1_Mo_replace_1_j13 hc]; done)))
theorem mq1_Mo_replace_1_j10 {c i k : Nat} (hc : c = 44 ∧ ¬ (3 ≤ k ∧ k < 6)) : ∀ (v0 : fw_V) (a2 : Int32), (mf_Mo_replace_1_j10 v0 a2) c i k = v0 c i k := by
  intro v0 a2
  unfold mf_Mo_replace_1_j10
  (try dsimp only)
  all_goals ((repeat' split) <;> (first | with_reducible rfl | (simp only [fw_up_c (c := 46) (c' := c) (by omega), msend_c (c' := c) (by omega) (by omega) (by omega) (by omega) (by omega) (by omega) (by omega), mq1_Mo_replace_1_j11 hc, mq1_Mo_replace_1_j7 hc, mq1_Mo_replace_1_j12 hc]; done)))
theorem mq1_Mo_replace_1_j9 {c i k : Nat} (hc : c = 44 ∧ ¬ (3 ≤ k ∧ k < 6)) : ∀ (v0 : fw_V) (a2 : Int32), (mf_Mo_replace_1_j9 v0 a2) c i k = v0 c i k := by
  intro v0 a2
  unfold mf_Mo_replace_1_j9
  (try dsimp only)
  all_goals ((repeat' split) <;> (first | with_reducible rfl | (simp only [msend_c (c' := c) (by omega) (by omega) (by omega) (by omega) (by omega) (by omega) (by omega), mq1_Mo_replace_1_j10 hc]; done)))
theorem mq1_Mo_replace_1_j2 {c i k : Nat} (hc : c = 44 ∧ ¬ (3 ≤ k ∧ k < 6)) : ∀ (v0 : fw_V) (a2 : Int32), (mf_Mo_replace_1_j2 v0 a2) c i k = v0 c i k := by
  intro v0 a2
  unfold mf_Mo_replace_1_j2
  (try dsimp only)
  all_goals ((repeat' split) <;> (first | with_reducible rfl | (simp only [fw_up_c (c := 46) (c' := c) (by omega), msend_c (c' := c) (by omega) (by omega) (by omega) (by omega) (by omega) (by omega) (by omega), mq1_Mo_replace_1_j3 hc, mq1_Mo_replace_1_j4 hc, mq1_Mo_replace_1_j9 hc]; done)))
theorem mq1_Mo_replace_1_j1 {c i k : Nat} (hc : c = 44 ∧ ¬ (3 ≤ k ∧ k < 6)) : ∀ (v0 : fw_V) (a2 : Int32), (mf_Mo_replace_1_j1 v0 a2) c i k = v0 c i k := by
  intro v0 a2
  unfold mf_Mo_replace_1_j1
  (try dsimp only)
  all_goals ((repeat' split) <;> (first | with_reducible rfl | (simp only [msend_c (c' := c) (by omega) (by omega) (by omega) (by omega) (by omega) (by omega) (by omega), mq1_Mo_replace_1_j2 hc]; done)))
theorem mq1_Mo_replace_1_j21 {c i k : Nat} (hc : c = 44 ∧ ¬ (3 ≤ k ∧ k < 6)) : ∀ (v : fw_V) (a2 : Int32), (mf_Mo_replace_1_j21 v a2) c i k = v c i k := by
  intro v a2
  unfold mf_Mo_replace_1_j21
  (try dsimp only)
  all_goals ((repeat' split) <;> (first | with_reducible rfl | (simp only [msend_c (c' := c) (by omega) (by omega) (by omega) (by omega) (by omega) (by omega) (by omega)]; done)))
theorem mq1_Mo_replace_1_j20 {c i k : Nat} (hc : c = 44 ∧ ¬ (3 ≤ k ∧ k < 6)) : ∀ (v : fw_V) (a2 : Int32), (mf_Mo_replace_1_j20 v a2) c i k = v c i k := by
  intro v a2
  unfold mf_Mo_replace_1_j20
  (try dsimp only)
  all_goals ((repeat' split) <;> (first | with_reducible rfl | (simp only [msend_c (c' := c) (by omega) (by omega) (by omega) (by omega) (by omega) (by omega) (by omega), mq1_Mo_replace_1_j21 hc]; done)))
theorem mq1_Mo_replace_1_j19 {c i k : Nat} (hc : c = 44 ∧ ¬ (3 ≤ k ∧ k < 6)) : ∀ (v : fw_V) (a2 : Int32), (mf_Mo_replace_1_j19 v a2) c i k = v c i k := by
  intro v a2
  unfold mf_Mo_replace_1_j19
  (try dsimp only)
  all_goals ((repeat' split) <;> (first | with_reducible rfl | (simp only [fw_up_c (c := 46) (c' := c) (by omega), msend_c (c' := c) (by omega) (by omega) (by omega) (by omega) (by omega) (by omega) (by omega), mq1_Mo_replace_1_j20 hc]; done)))
theorem mq1_Mo_replace_1_j18 {c i k : Nat} (hc : c = 44 ∧ ¬ (3 ≤ k ∧ k < 6)) : ∀ (v : fw_V) (a2 : Int32), (mf_Mo_replace_1_j18 v a2) c i k = v c i k := by
  intro v a2
  unfold mf_Mo_replace_1_j18
  (try dsimp only)
  all_goals ((repeat' split) <;> (first | with_reducible rfl | (simp only [msend_c (c' := c) (by omega) (by omega) (by omega) (by omega) (by omega) (by omega) (by omega), mq1_Mo_replace_1_j19 hc]; done)))
theorem mq1_Mo_replace_1_j17 {c i k : Nat} (hc : c = 44 ∧ ¬ (3 ≤ k ∧ k < 6)) : ∀ (v : fw_V) (a2 : Int32), (mf_Mo_replace_1_j17 v a2) c i k = v c i k := by
  intro v a2
  unfold mf_Mo_replace_1_j17
  (try dsimp only)
  all_goals ((repeat' split) <;> (first | with_reducible rfl | (simp only [msend_c (c' := c) (by omega) (by omega) (by omega) (by omega) (by omega) (by omega) (by omega), mq1_Mo_replace_1_j18 hc]; done)))
theorem mq1_Mo_replace_1_j16 {c i k : Nat} (hc : c = 44 ∧ ¬ (3 ≤ k ∧ k < 6)) : ∀ (v0 : fw_V) (a2 : Int32), (mf_Mo_replace_1_j16 v0 a2) c i k = v0 c i k := by
  intro v0 a2
  unfold mf_Mo_replace_1_j16
  (try dsimp only)
  all_goals ((repeat' split) <;> (first | with_reducible rfl | (simp only [fw_up_c (c := 46) (c' := c) (by omega), msend_c (c' := c) (by omega) (by omega) (by omega) (by omega) (by omega) (by omega) (by omega), mq1_Mo_replace_1_j17 hc]; done)))
theorem mq1_Mo_replace_1_j15 {c i k : Nat} (hc : c = 44 ∧ ¬ (3 ≤ k ∧ k < 6)) : ∀ (v0 : fw_V) (a2 : Int32), (mf_Mo_replace_1_j15 v0 a2) c i k = v0 c i k := by
  intro v0 a2
  unfold mf_Mo_replace_1_j15
  (try dsimp only)
  all_goals ((repeat' split) <;> (first | with_reducible rfl | (simp only [msend_c (c' := c) (by omega) (by omega) (by omega) (by omega) (by omega) (by omega) (by omega), mq1_Mo_replace_1_j16 hc]; done)))
theorem mq1_Mo_replace_1_j14 {c i k : Nat} (hc : c = 44 ∧ ¬ (3 ≤ k ∧ k < 6)) : ∀ (v0 : fw_V) (a2 : Int32), (mf_Mo_replace_1_j14 v0 a2) c i k = v0 c i k := by
  intro v0 a2
  unfold mf_Mo_replace_1_j14
  (try dsimp only)
  all_goals ((repeat' split) <;> (first | with_reducible rfl | (simp only [msend_c (c' := c) (by omega) (by omega) (by omega) (by omega) (by omega) (by omega) (by omega), mq1_Mo_replace_1_j15 hc]; done)))
theorem mq1_Mo_replace_1 {c i k : Nat} (hc : c = 44 ∧ ¬ (3 ≤ k ∧ k < 6)) : ∀ (v0 : fw_V) (a2 : Int32), (mf_Mo_replace_1 v0 a2) c i k = v0 c i k := by
  intro v0 a2
  unfold mf_Mo_replace_1
  (try dsimp only)
  all_goals ((repeat' split) <;> (first | with_reducible rfl | (simp only [msend_c (c' := c) (by omega) (by omega) (by omega) (by omega) (by omega) (by omega) (by omega), mq1_Mo_replace_1_j1 hc, mq1_Mo_replace_1_j14 hc]; done)))
theorem mq1_Mo_reply_1 {c i k : Nat} (hc : c = 44 ∧ ¬ (3 ≤ k ∧ k < 6)) : ∀ (v0 : fw_V) (a2 : Int32) (a3 : Int32), (mf_Mo_reply_1 v0 a2 a3) c i k = v0 c i k := by
  intro v0 a2 a3
  unfold mf_Mo_reply_1
  (try dsimp only)
  all_goals ((repeat' split) <;> (first | with_reducible rfl | (simp only [msend_c (c' := c) (by omega) (by omega) (by omega) (by omega) (by omega) (by omega) (by omega)]; done)))
theorem mq1_Mo_connect_1_j1 {c i k : Nat} (hc : c = 44 ∧ ¬ (3 ≤ k ∧ k < 6)) : ∀ (v0 : fw_V) (a2 : Int32), (mf_Mo_connect_1_j1 v0 a2) c i k = v0 c i k := by
  intro v0 a2
  unfold mf_Mo_connect_1_j1
  (try dsimp only)
  all_goals ((repeat' split) <;> (first | with_reducible rfl | (simp only [fw_up_ne (c := 28) (i := 0) (k := 1) (c' := c) (i' := i) (k' := k) (by omega), fw_up_ne (c := 29) (i := 0) (k := 1) (c' := c) (i' := i) (k' := k) (by omega), fw_up_ne (c := 32) (i := 0) (k := 1) (c' := c) (i' := i) (k' := k) (by omega), fw_up_ne (c := 43) (i := 0) (k := 3) (c' := c) (i' := i) (k' := k) (by omega), fw_up_ne (c := 44) (i := 0) (k := 3) (c' := c) (i' := i) (k' := k) (by omega), fw_up_ne (c := 43) (i := 0) (k := 4) (c' := c) (i' := i) (k' := k) (by omega), fw_up_ne (c := 44) (i := 0) (k := 4) (c' := c) (i' := i) (k' := k) (by omega), fw_up_ne (c := 43) (i := 0) (k := 5) (c' := c) (i' := i) (k' := k) (by omega), fw_up_ne (c := 44) (i := 0) (k := 5) (c' := c) (i' := i) (k' := k) (by omega), msend_c (c' := c) (by omega) (by omega) (by omega) (by omega) (by omega) (by omega) (by omega), mq1_Mo_mark_1 hc, mq1_Mo_reply_1 hc]; done)))
theorem mq1_Mo_connect_1 {c i k : Nat} (hc : c = 44 ∧ ¬ (3 ≤ k ∧ k < 6)) : ∀ (v0 : fw_V) (a2 : Int32), (mf_Mo_connect_1 v0 a2) c i k = v0 c i k := by
  intro v0 a2
  unfold mf_Mo_connect_1
  (try dsimp only)
  all_goals ((repeat' split) <;> (first | with_reducible rfl | (simp only [msend_c (c' := c) (by omega) (by omega) (by omega) (by omega) (by omega) (by omega) (by omega), mq1_Mo_connect_1_j1 hc]; done)))
theorem mq1_Mo_rest_1_j7 {c i k : Nat} (hc : c = 44 ∧ ¬ (3 ≤ k ∧ k < 6)) : ∀ (v : fw_V), (mf_Mo_rest_1_j7 v) c i k = v c i k := by
  intro v
  unfold mf_Mo_rest_1_j7
  (try dsimp only)
  all_goals ((repeat' split) <;> (first | with_reducible rfl | (simp only [msend_c (c' := c) (by omega) (by omega) (by omega) (by omega) (by omega) (by omega) (by omega)]; done)))
theorem mq1_Mo_rest_1_j6 {c i k : Nat} (hc : c = 44 ∧ ¬ (3 ≤ k ∧ k < 6)) : ∀ (v : fw_V), (mf_Mo_rest_1_j6 v) c i k = v c i k := by
  intro v
  unfold mf_Mo_rest_1_j6
  (try dsimp only)
  all_goals ((repeat' split) <;> (first | with_reducible rfl | (simp only [msend_c (c' := c) (by omega) (by omega) (by omega) (by omega) (by omega) (by omega) (by omega), mq1_Mo_replace_1 hc, mq1_Mo_rest_1_j7 hc]; done)))
theorem mq1_Mo_rest_1_j5 {c i k : Nat} (hc : c = 44 ∧ ¬ (3 ≤ k ∧ k < 6)) : ∀ (v : fw_V), (mf_Mo_rest_1_j5 v) c i k = v c i k := by
  intro v
  unfold mf_Mo_rest_1_j5
  (try dsimp only)
  all_goals ((repeat' split) <;> (first | with_reducible rfl | (simp only [msend_c (c' := c) (by omega) (by omega) (by omega) (by omega) (by omega) (by omega) (by omega), mq1_Mo_replace_1 hc, mq1_Mo_rest_1_j6 hc]; done)))
theorem mq1_Mo_rest_1_j4 {c i k : Nat} (hc : c = 44 ∧ ¬ (3 ≤ k ∧ k < 6)) : ∀ (v : fw_V), (mf_Mo_rest_1_j4 v) c i k = v c i k := by
  intro v
  unfold mf_Mo_rest_1_j4
  (try dsimp only)
  all_goals ((repeat' split) <;> (first | with_reducible rfl | (simp only [msend_c (c' := c) (by omega) (by omega) (by omega) (by omega) (by omega) (by omega) (by omega), mq1_Mo_replace_1 hc, mq1_Mo_rest_1_j5 hc]; done)))
theorem mq1_Mo_rest_1_j3 {c i k : Nat} (hc : c = 44 ∧ ¬ (3 ≤ k ∧ k < 6)) : ∀ (v0 : fw_V), (mf_Mo_rest_1_j3 v0) c i k = v0 c i k := by
  intro v0
  unfold mf_Mo_rest_1_j3
  (try dsimp only)
  all_goals ((repeat' split) <;> (first | with_reducible rfl | (simp only [fw_up_ne (c := 28) (i := 0) (k := 1) (c' := c) (i' := i) (k' := k) (by omega), fw_up_ne (c := 29) (i := 0) (k := 1) (c' := c) (i' := i) (k' := k) (by omega), fw_up_ne (c := 31) (i := 0) (k := 1) (c' := c) (i' := i) (k' := k) (by omega), fw_up_ne (c := 32) (i := 0) (k := 1) (c' := c) (i' := i) (k' := k) (by omega), fw_up_ne (c := 37) (i := 0) (k := 1) (c' := c) (i' := i) (k' := k) (by omega), fw_up_ne (c := 36) (i := 0) (k := 1) (c' := c) (i' := i) (k' := k) (by omega), fw_up_ne (c := 43) (i := 0) (k := 3) (c' := c) (i' := i) (k' := k) (by omega), fw_up_ne (c := 44) (i := 0) (k := 3) (c' := c) (i' := i) (k' := k) (by omega), fw_up_ne (c := 43) (i := 0) (k := 4) (c' := c) (i' := i) (k' := k) (by omega), fw_up_ne (c := 44) (i := 0) (k := 4) (c' := c) (i' := i) (k' := k) (by omega), fw_up_ne (c := 43) (i := 0) (k := 5) (c' := c) (i' := i) (k' := k) (by omega), fw_up_ne (c := 44) (i := 0) (k := 5) (c' := c) (i' := i) (k' := k) (by omega), msend_c (c' := c) (by omega) (by omega) (by omega) (by omega) (by omega) (by omega) (by omega), mq1_Mo_rest_1_j4 hc]; done)))
theorem mq1_Mo_rest_1_j2 {c i k : Nat} (hc : c = 44 ∧ ¬ (3 ≤ k ∧ k < 6)) : ∀ (v : fw_V), (mf_Mo_rest_1_j2 v) c i k = v c i k := by
  intro v
  unfold mf_Mo_rest_1_j2
  (try dsimp only)
  all_goals ((repeat' split) <;> (first | with_reducible rfl | (simp only [msend_c (c' := c) (by omega) (by omega) (by omega) (by omega) (by omega) (by omega) (by omega)]; done)))
theorem mq1_Mo_rest_1_j1 {c i k : Nat} (hc : c = 44 ∧ ¬ (3 ≤ k ∧ k < 6)) : ∀ (v0 : fw_V), (mf_Mo_rest_1_j1 v0) c i k = v0 c i k := by
  intro v0
  unfold mf_Mo_rest_1_j1
  (try dsimp only)
  all_goals ((repeat' split) <;> (first | with_reducible rfl | (simp only [fw_up_ne (c := 28) (i := 0) (k := 1) (c' := c) (i' := i) (k' := k) (by omega), fw_up_ne (c := 29) (i := 0) (k := 1) (c' := c) (i' := i) (k' := k) (by omega), fw_up_ne (c := 31) (i := 0) (k := 1) (c' := c) (i' := i) (k' := k) (by omega), fw_up_ne (c := 32) (i := 0) (k := 1) (c' := c) (i' := i) (k' := k) (by omega), fw_up_ne (c := 37) (i := 0) (k := 1) (c' := c) (i' := i) (k' := k) (by omega), fw_up_ne (c := 36) (i := 0) (k := 1) (c' := c) (i' := i) (k' := k) (by omega), fw_up_ne (c := 43) (i := 0) (k := 3) (c' := c) (i' := i) (k' := k) (by omega), fw_up_ne (c := 44) (i := 0) (k := 3) (c' := c) (i' := i) (k' := k) (by omega), fw_up_ne (c := 43) (i := 0) (k := 4) (c' := c) (i' := i) (k' := k) (by omega), fw_up_ne (c := 44) (i := 0) (k := 4) (c' := c) (i' := i) (k' := k) (by omega), fw_up_ne (c := 43) (i := 0) (k := 5) (c' := c) (i' := i) (k' := k) (by omega), fw_up_ne (c := 44) (i := 0) (k := 5) (c' := c) (i' := i) (k' := k) (by omega), msend_c (c' := c) (by omega) (by omega) (by omega) (by omega) (by omega) (by omega) (by omega), mq1_Mo_rest_1_j2 hc]; done)))
theorem mq1_Mo_rest_1 {c i k : Nat} (hc : c = 44 ∧ ¬ (3 ≤ k ∧ k < 6)) : ∀ (v0 : fw_V), (mf_Mo_rest_1 v0) c i k = v0 c i k := by
  intro v0
  unfold mf_Mo_rest_1
  (try dsimp only)
  all_goals ((repeat' split) <;> (first | with_reducible rfl | (simp only [msend_c (c' := c) (by omega) (by omega) (by omega) (by omega) (by omega) (by omega) (by omega), mq1_Mo_rest_1_j3 hc, mq1_Mo_rest_1_j1 hc]; done)))
theorem mq1_Mo_quit_1 {c i k : Nat} (hc : c = 44 ∧ ¬ (3 ≤ k ∧ k < 6)) : ∀ (v0 : fw_V), (mf_Mo_quit_1 v0) c i k = v0 c i k := by
  intro v0
  unfold mf_Mo_quit_1
  (try dsimp only)
  all_goals ((repeat' split) <;> (first | with_reducible rfl | (simp only [msend_c (c' := c) (by omega) (by omega) (by omega) (by omega) (by omega) (by omega) (by omega), mq1_Mo_reply_1 hc, mq1_Mo_rest_1 hc]; done)))
theorem mq1_Mo_alarm_1_j2 {c i k : Nat} (hc : c = 44 ∧ ¬ (3 ≤ k ∧ k < 6)) : ∀ (v : fw_V), (mf_Mo_alarm_1_j2 v) c i k = v c i k := by
  intro v
  unfold mf_Mo_alarm_1_j2
  (try dsimp only)
  all_goals ((repeat' split) <;> (first | with_reducible rfl | (simp only [fw_up_ne (c := 38) (i := 0) (k := 1) (c' := c) (i' := i) (k' := k) (by omega), fw_up_ne (c := 9) (i := 0) (k := 0) (c' := c) (i' := i) (k' := k) (by omega), fw_up_ne (c := 9) (i := 0) (k := 1) (c' := c) (i' := i) (k' := k) (by omega), msend_c (c' := c) (by omega) (by omega) (by omega) (by omega) (by omega) (by omega) (by omega), mq1_Mo_reply_1 hc]; done)))
theorem mq1_Mo_alarm_1_j3 {c i k : Nat} (hc : c = 44 ∧ ¬ (3 ≤ k ∧ k < 6)) : ∀ (v0 : fw_V), (mf_Mo_alarm_1_j3 v0) c i k = v0 c i k := by
  intro v0
  unfold mf_Mo_alarm_1_j3
  (try dsimp only)
  all_goals ((repeat' split) <;> (first | with_reducible rfl | (simp only [fw_up_ne (c := 39) (i := 0) (k := 1) (c' := c) (i' := i) (k' := k) (by omega), fw_up_ne (c := 36) (i := 0) (k := 1) (c' := c) (i' := i) (k' := k) (by omega), msend_c (c' := c) (by omega) (by omega) (by omega) (by omega) (by omega) (by omega) (by omega), mq1_Mo_alarm_1_j2 hc]; done)))
theorem mq1_Mo_alarm_1_j1 {c i k : Nat} (hc : c = 44 ∧ ¬ (3 ≤ k ∧ k < 6)) : ∀ (v0 : fw_V), (mf_Mo_alarm_1_j1 v0) c i k = v0 c i k := by
  intro v0
  unfold mf_Mo_alarm_1_j1
  (try dsimp only)
  all_goals ((repeat' split) <;> (first | with_reducible rfl | (simp only [fw_up_ne (c := 39) (i := 0) (k := 1) (c' := c) (i' := i) (k' := k) (by omega), fw_up_ne (c := 36) (i := 0) (k := 1) (c' := c) (i' := i) (k' := k) (by omega), msend_c (c' := c) (by omega) (by omega) (by omega) (by omega) (by omega) (by omega) (by omega), mq1_Mo_alarm_1_j2 hc]; done)))
theorem mq1_Mo_alarm_1 {c i k : Nat} (hc : c = 44 ∧ ¬ (3 ≤ k ∧ k < 6)) : ∀ (v0 : fw_V), (mf_Mo_alarm_1 v0) c i k = v0 c i k := by
  intro v0
  unfold mf_Mo_alarm_1
  (try dsimp only)
  all_goals ((repeat' split) <;> (first | with_reducible rfl | (simp only [fw_up_ne (c := 38) (i := 0) (k := 1) (c' := c) (i' := i) (k' := k) (by omega), msend_c (c' := c) (by omega) (by omega) (by omega) (by omega) (by omega) (by omega) (by omega), mq1_Mo_alarm_1_j3 hc, mq1_Mo_alarm_1_j1 hc, mq1_Mo_alarm_1_j2 hc]; done)))
theorem mq1_Mo_pulse_1_j25 {c i k : Nat} (hc : c = 44 ∧ ¬ (3 ≤ k ∧ k < 6)) : ∀ (v : fw_V), (mf_Mo_pulse_1_j25 v) c i k = v c i k := by
  intro v
  unfold mf_Mo_pulse_1_j25
  (try dsimp only)
  all_goals ((repeat' split) <;> (first | with_reducible rfl | (simp only [fw_up_ne (c := 9) (i := 0) (k := 6) (c' := c) (i' := i) (k' := k) (by omega), fw_up_ne (c := 34) (i := 0) (k := 1) (c' := c) (i' := i) (k' := k) (by omega), msend_c (c' := c) (by omega) (by omega) (by omega) (by omega) (by omega) (by omega) (by omega), mq1_Mo_reply_1 hc]; done)))
theorem mq1_Mo_pulse_1_j24 {c i k : Nat} (hc : c = 44 ∧ ¬ (3 ≤ k ∧ k < 6)) : ∀ (v : fw_V), (mf_Mo_pulse_1_j24 v) c i k = v c i k := by
  intro v
  unfold mf_Mo_pulse_1_j24
  (try dsimp only)
  all_goals ((repeat' split) <;> (first | with_reducible rfl | (simp only [msend_c (c' := c) (by omega) (by omega) (by omega) (by omega) (by omega) (by omega) (by omega), mq1_Mo_pulse_1_j25 hc]; done)))
theorem mq1_Mo_pulse_1_j27 {c i k : Nat} (hc : c = 44 ∧ ¬ (3 ≤ k ∧ k < 6)) : ∀ (v : fw_V), (mf_Mo_pulse_1_j27 v) c i k = v c i k := by
  intro v
  unfold mf_Mo_pulse_1_j27
  (try dsimp only)
  all_goals ((repeat' split) <;> (first | with_reducible rfl | (simp only [fw_up_ne (c := 9) (i := 0) (k := 6) (c' := c) (i' := i) (k' := k) (by omega), fw_up_ne (c := 34) (i := 0) (k := 1) (c' := c) (i' := i) (k' := k) (by omega), msend_c (c' := c) (by omega) (by omega) (by omega) (by omega) (by omega) (by omega) (by omega), mq1_Mo_reply_1 hc]; done)))
theorem mq1_Mo_pulse_1_j26 {c i k : Nat} (hc : c = 44 ∧ ¬ (3 ≤ k ∧ k < 6)) : ∀ (v : fw_V), (mf_Mo_pulse_1_j26 v) c i k = v c i k := by
  intro v
  unfold mf_Mo_pulse_1_j26
  (try dsimp only)
  all_goals ((repeat' split) <;> (first | with_reducible rfl | (simp only [msend_c (c' := c) (by omega) (by omega) (by omega) (by omega) (by omega) (by omega) (by omega), mq1_Mo_pulse_1_j27 hc]; done)))
theorem mq1_Mo_pulse_1_j23 {c i k : Nat} (hc : c = 44 ∧ ¬ (3 ≤ k ∧ k < 6)) : ∀ (v : fw_V) (x4 : Int32), (mf_Mo_pulse_1_j23 v x4) c i k = v c i k := by
  intro v x4
  unfold mf_Mo_pulse_1_j23
  (try dsimp only)
  all_goals ((repeat' split) <;> (first | with_reducible rfl | (simp only [fw_up_ne (c := 9) (i := 0) (k := 5) (c' := c) (i' := i) (k' := k) (by omega), msend_c (c' := c) (by omega) (by omega) (by omega) (by omega) (by omega) (by omega) (by omega), mq1_Mo_pulse_1_j24 hc, mq1_Mo_pulse_1_j26 hc]; done)))
theorem mq1_Mo_pulse_1_j22 {c i k : Nat} (hc : c = 44 ∧ ¬ (3 ≤ k ∧ k < 6)) : ∀ (v : fw_V) (x4 : Int32), (mf_Mo_pulse_1_j22 v x4) c i k = v c i k := by
  intro v x4
  unfold mf_Mo_pulse_1_j22
  (try dsimp only)
  all_goals ((repeat' split) <;> (first | with_reducible rfl | (simp only [msend_c (c' := c) (by omega) (by omega) (by omega) (by omega) (by omega) (by omega) (by omega), mq1_Mo_pulse_1_j23 hc]; done)))
theorem mq1_Mo_pulse_1_j28 {c i k : Nat} (hc : c = 44 ∧ ¬ (3 ≤ k ∧ k < 6)) : ∀ (v : fw_V) (x4 : Int32) (x90 : Int32), (mf_Mo_pulse_1_j28 v x4 x90) c i k = v c i k := by
  intro v x4 x90
  unfold mf_Mo_pulse_1_j28
  (try dsimp only)
  all_goals ((repeat' split) <;> (first | with_reducible rfl | (simp only [fw_up_ne (c := 9) (i := 0) (k := 5) (c' := c) (i' := i) (k' := k) (by omega), msend_c (c' := c) (by omega) (by omega) (by omega) (by omega) (by omega) (by omega) (by omega), mq1_Mo_pulse_1_j24 hc, mq1_Mo_pulse_1_j26 hc]; done)))
theorem mq1_Mo_pulse_1_j21 {c i k : Nat} (hc : c = 44 ∧ ¬ (3 ≤ k ∧ k < 6)) : ∀ (v : fw_V), (mf_Mo_pulse_1_j21 v) c i k = v c i k := by
  intro v
  unfold mf_Mo_pulse_1_j21
  (try dsimp only)
  all_goals ((repeat' split) <;> (first | with_reducible rfl | (simp only [msend_c (c' := c) (by omega) (by omega) (by omega) (by omega) (by omega) (by omega) (by omega), mq1_Mo_pulse_1_j22 hc, mq1_Mo_pulse_1_j28 hc]; done)))
theorem mq1_Mo_pulse_1_j20 {c i k : Nat} (hc : c = 44 ∧ ¬ (3 ≤ k ∧ k < 6)) : ∀ (v : fw_V), (mf_Mo_pulse_1_j20 v) c i k = v c i k := by
  intro v
  unfold mf_Mo_pulse_1_j20
  (try dsimp only)
  all_goals ((repeat' split) <;> (first | with_reducible rfl | (simp only [msend_c (c' := c) (by omega) (by omega) (by omega) (by omega) (by omega) (by omega) (by omega), mq1_Mo_pulse_1_j21 hc]; done)))
theorem mq1_Mo_pulse_1_j33 {c i k : Nat} (hc : c = 44 ∧ ¬ (3 ≤ k ∧ k < 6)) : ∀ (v : fw_V), (mf_Mo_pulse_1_j33 v) c i k = v c i k := by
  intro v
  unfold mf_Mo_pulse_1_j33
  (try dsimp only)
  all_goals ((repeat' split) <;> (first | with_reducible rfl | (simp only [msend_c (c' := c) (by omega) (by omega) (by omega) (by omega) (by omega) (by omega) (by omega), mq1_Mo_pulse_1_j27 hc]; done)))
theorem mq1_Mo_pulse_1_j34 {c i k : Nat} (hc : c = 44 ∧ ¬ (3 ≤ k ∧ k < 6)) : ∀ (v : fw_V), (mf_Mo_pulse_1_j34 v) c i k = v c i k := by
  intro v
  unfold mf_Mo_pulse_1_j34
  (try dsimp only)
  all_goals ((repeat' split) <;> (first | with_reducible rfl | (simp only [msend_c (c' := c) (by omega) (by omega) (by omega) (by omega) (by omega) (by omega) (by omega), mq1_Mo_pulse_1_j27 hc]; done)))
theorem mq1_Mo_pulse_1_j32 {c i k : Nat} (hc : c = 44 ∧ ¬ (3 ≤ k ∧ k < 6)) : ∀ (v : fw_V) (x4 : Int32), (mf_Mo_pulse_1_j32 v x4) c i k = v c i k := by
  intro v x4
  unfold mf_Mo_pulse_1_j32
  (try dsimp only)
  all_goals ((repeat' split) <;> (first | with_reducible rfl | (simp only [fw_up_ne (c := 9) (i := 0) (k := 5) (c' := c) (i' := i) (k' := k) (by omega), msend_c (c' := c) (by omega) (by omega) (by omega) (by omega) (by omega) (by omega) (by omega), mq1_Mo_pulse_1_j33 hc, mq1_Mo_pulse_1_j34 hc]; done)))
theorem mq1_Mo_pulse_1_j31 {c i k : Nat} (hc : c = 44 ∧ ¬ (3 ≤ k ∧ k < 6)) : ∀ (v : fw_V) (x4 : Int32), (mf_Mo_pulse_1_j31 v x4) c i k = v c i k := by
  intro v x4
  unfold mf_Mo_pulse_1_j31
  (try dsimp only)
  all_goals ((repeat' split) <;> (first | with_reducible rfl | (simp only [msend_c (c' := c) (by omega) (by omega) (by omega) (by omega) (by omega) (by omega) (by omega), mq1_Mo_pulse_1_j32 hc]; done)))
theorem mq1_Mo_pulse_1_j35 {c i k : Nat} (hc : c = 44 ∧ ¬ (3 ≤ k ∧ k < 6)) : ∀ (v : fw_V) (x4 : Int32) (x90 : Int32), (mf_Mo_pulse_1_j35 v x4 x90) c i k = v c i k := by
  intro v x4 x90
  unfold mf_Mo_pulse_1_j35
  (try dsimp only)
  all_goals ((repeat' split) <;> (first | with_reducible rfl | (simp only [fw_up_ne (c := 9) (i := 0) (k := 5) (c' := c) (i' := i) (k' := k) (by omega), msend_c (c' := c) (by omega) (by omega) (by omega) (by omega) (by omega) (by omega) (by omega), mq1_Mo_pulse_1_j33 hc, mq1_Mo_pulse_1_j34 hc]; done)))
theorem mq1_Mo_pulse_1_j30 {c i k : Nat} (hc : c = 44 ∧ ¬ (3 ≤ k ∧ k < 6)) : ∀ (v : fw_V), (mf_Mo_pulse_1_j30 v) c i k = v c i k := by
  intro v
  unfold mf_Mo_pulse_1_j30
  (try dsimp only)
  all_goals ((repeat' split) <;> (first | with_reducible rfl | (simp only [msend_c (c' := c) (by omega) (by omega) (by omega) (by omega) (by omega) (by omega) (by omega), mq1_Mo_pulse_1_j31 hc, mq1_Mo_pulse_1_j35 hc]; done)))
theorem mq1_Mo_pulse_1_j29 {c i k : Nat} (hc : c = 44 ∧ ¬ (3 ≤ k ∧ k < 6)) : ∀ (v : fw_V), (mf_Mo_pulse_1_j29 v) c i k = v c i k := by
  intro v
  unfold mf_Mo_pulse_1_j29
  (try dsimp only)
  all_goals ((repeat' split) <;> (first | with_reducible rfl | (simp only [msend_c (c' := c) (by omega) (by omega) (by omega) (by omega) (by omega) (by omega) (by omega), mq1_Mo_pulse_1_j30 hc]; done)))
theorem mq1_Mo_pulse_1_j19 {c i k : Nat} (hc : c = 44 ∧ ¬ (3 ≤ k ∧ k < 6)) : ∀ (v : fw_V) (x4 : Int32), (mf_Mo_pulse_1_j19 v x4) c i k = v c i k := by
  intro v x4
  unfold mf_Mo_pulse_1_j19
  (try dsimp only)
  all_goals ((repeat' split) <;> (first | with_reducible rfl | (simp only [fw_up_ne (c := 9) (i := 0) (k := 4) (c' := c) (i' := i) (k' := k) (by omega), msend_c (c' := c) (by omega) (by omega) (by omega) (by omega) (by omega) (by omega) (by omega), mq1_Mo_pulse_1_j20 hc, mq1_Mo_pulse_1_j29 hc]; done)))
theorem mq1_Mo_pulse_1_j18 {c i k : Nat} (hc : c = 44 ∧ ¬ (3 ≤ k ∧ k < 6)) : ∀ (v : fw_V) (x4 : Int32), (mf_Mo_pulse_1_j18 v x4) c i k = v c i k := by
  intro v x4
  unfold mf_Mo_pulse_1_j18
  (try dsimp only)
  all_goals ((repeat' split) <;> (first | with_reducible rfl | (simp only [msend_c (c' := c) (by omega) (by omega) (by omega) (by omega) (by omega) (by omega) (by omega), mq1_Mo_pulse_1_j19 hc]; done)))
theorem mq1_Mo_pulse_1_j36 {c i k : Nat} (hc : c = 44 ∧ ¬ (3 ≤ k ∧ k < 6)) : ∀ (v : fw_V) (x4 : Int32) (x90 : Int32), (mf_Mo_pulse_1_j36 v x4 x90) c i k = v c i k := by
  intro v x4 x90
  unfold mf_Mo_pulse_1_j36
  (try dsimp only)
  all_goals ((repeat' split) <;> (first | with_reducible rfl | (simp only [fw_up_ne (c := 9) (i := 0) (k := 4) (c' := c) (i' := i) (k' := k) (by omega), msend_c (c' := c) (by omega) (by omega) (by omega) (by omega) (by omega) (by omega) (by omega), mq1_Mo_pulse_1_j20 hc, mq1_Mo_pulse_1_j29 hc]; done)))
theorem mq1_Mo_pulse_1_j17 {c i k : Nat} (hc : c = 44 ∧ ¬ (3 ≤ k ∧ k < 6)) : ∀ (v : fw_V), (mf_Mo_pulse_1_j17 v) c i k = v c i k := by
  intro v
  unfold mf_Mo_pulse_1_j17
  (try dsimp only)
  all_goals ((repeat' split) <;> (first | with_reducible rfl | (simp only [msend_c (c' := c) (by omega) (by omega) (by omega) (by omega) (by omega) (by omega) (by omega), mq1_Mo_pulse_1_j18 hc, mq1_Mo_pulse_1_j36 hc]; done)))
theorem mq1_Mo_pulse_1_j16 {c i k : Nat} (hc : c = 44 ∧ ¬ (3 ≤ k ∧ k < 6)) : ∀ (v : fw_V), (mf_Mo_pulse_1_j16 v) c i k = v c i k := by
  intro v
  unfold mf_Mo_pulse_1_j16
  (try dsimp only)
  all_goals ((repeat' split) <;> (first | with_reducible rfl | (simp only [msend_c (c' := c) (by omega) (by omega) (by omega) (by omega) (by omega) (by omega) (by omega), mq1_Mo_pulse_1_j17 hc]; done)))
theorem mq1_Mo_pulse_1_j46 {c i k : Nat} (hc : c = 44 ∧ ¬ (3 ≤ k ∧ k < 6)) : ∀ (v : fw_V), (mf_Mo_pulse_1_j46 v) c i k = v c i k := by
  intro v
  unfold mf_Mo_pulse_1_j46
  (try dsimp only)
  all_goals ((repeat' split) <;> (first | with_reducible rfl | (simp only [fw_up_ne (c := 9) (i := 0) (k := 6) (c' := c) (i' := i) (k' := k) (by omega), fw_up_ne (c := 34) (i := 0) (k := 1) (c' := c) (i' := i) (k' := k) (by omega), msend_c (c' := c) (by omega) (by omega) (by omega) (by omega) (by omega) (by omega) (by omega), mq1_Mo_reply_1 hc]; done)))
theorem mq1_Mo_pulse_1_j45 {c i k : Nat} (hc : c = 44 ∧ ¬ (3 ≤ k ∧ k < 6)) : ∀ (v : fw_V), (mf_Mo_pulse_1_j45 v) c i k = v c i k := by
  intro v
  unfold mf_Mo_pulse_1_j45
  (try dsimp only)
  all_goals ((repeat' split) <;> (first | with_reducible rfl | (simp only [msend_c (c' := c) (by omega) (by omega) (by omega) (by omega) (by omega) (by omega) (by omega), mq1_Mo_pulse_1_j46 hc]; done)))
theorem mq1_Mo_pulse_1_j48 {c i k : Nat} (hc : c = 44 ∧ ¬ (3 ≤ k ∧ k < 6)) : ∀ (v : fw_V), (mf_Mo_pulse_1_j48 v) c i k = v c i k := by
  intro v
  unfold mf_Mo_pulse_1_j48
  (try dsimp only)
  all_goals ((repeat' split) <;> (first | with_reducible rfl | (simp only [fw_up_ne (c := 9) (i := 0) (k := 6) (c' := c) (i' := i) (k' := k) (by omega), fw_up_ne (c := 34) (i := 0) (k := 1) (c' := c) (i' := i) (k' := k) (by omega), msend_c (c' := c) (by omega) (by omega) (by omega) (by omega) (by omega) (by omega) (by omega), mq1_Mo_reply_1 hc]; done)))
theorem mq1_Mo_pulse_1_j47 {c i k : Nat} (hc : c = 44 ∧ ¬ (3 ≤ k ∧ k < 6)) : ∀ (v : fw_V), (mf_Mo_pulse_1_j47 v) c i k = v c i k := by
  intro v
  unfold mf_Mo_pulse_1_j47
  (try dsimp only)
  all_goals ((repeat' split) <;> (first | with_reducible rfl | (simp only [msend_c (c' := c) (by omega) (by omega) (by omega) (by omega) (by omega) (by omega) (by omega), mq1_Mo_pulse_1_j48 hc]; done)))
theorem mq1_Mo_pulse_1_j44 {c i k : Nat} (hc : c = 44 ∧ ¬ (3 ≤ k ∧ k < 6)) : ∀ (v : fw_V) (x4 : Int32), (mf_Mo_pulse_1_j44 v x4) c i k = v c i k := by
  intro v x4
  unfold mf_Mo_pulse_1_j44
  (try dsimp only)
  all_goals ((repeat' split) <;> (first | with_reducible rfl | (simp only [fw_up_ne (c := 9) (i := 0) (k := 5) (c' := c) (i' := i) (k' := k) (by omega), msend_c (c' := c) (by omega) (by omega) (by omega) (by omega) (by omega) (by omega) (by omega), mq1_Mo_pulse_1_j45 hc, mq1_Mo_pulse_1_j47 hc]; done)))
theorem mq1_Mo_pulse_1_j43 {c i k : Nat} (hc : c = 44 ∧ ¬ (3 ≤ k ∧ k < 6)) : ∀ (v : fw_V) (x4 : Int32), (mf_Mo_pulse_1_j43 v x4) c i k = v c i k := by
  intro v x4
  unfold mf_Mo_pulse_1_j43
  (try dsimp only)
  all_goals ((repeat' split) <;> (first | with_reducible rfl | (simp only [msend_c (c' := c) (by omega) (by omega) (by omega) (by omega) (by omega) (by omega) (by omega), mq1_Mo_pulse_1_j44 hc]; done)))
theorem mq1_Mo_pulse_1_j49 {c i k : Nat} (hc : c = 44 ∧ ¬ (3 ≤ k ∧ k < 6)) : ∀ (v : fw_V) (x4 : Int32) (x90 : Int32), (mf_Mo_pulse_1_j49 v x4 x90) c i k = v c i k := by
  intro v x4 x90
  unfold mf_Mo_pulse_1_j49
  (try dsimp only)
  all_goals ((repeat' split) <;> (first | with_reducible rfl | (simp only [fw_up_ne (c := 9) (i := 0) (k := 5) (c' := c) (i' := i) (k' := k) (by omega), msend_c (c' := c) (by omega) (by omega) (by omega) (by omega) (by omega) (by omega) (by omega), mq1_Mo_pulse_1_j45 hc, mq1_Mo_pulse_1_j47 hc]; done)))
theorem mq1_Mo_pulse_1_j42 {c i k : Nat} (hc : c = 44 ∧ ¬ (3 ≤ k ∧ k < 6)) : ∀ (v : fw_V), (mf_Mo_pulse_1_j42 v) c i k = v c i k := by
  intro v
  unfold mf_Mo_pulse_1_j42
  (try dsimp only)
  all_goals ((repeat' split) <;> (first | with_reducible rfl | (simp only [msend_c (c' := c) (by omega) (by omega) (by omega) (by omega) (by omega) (by omega) (by omega), mq1_Mo_pulse_1_j43 hc, mq1_Mo_pulse_1_j49 hc]; done)))
theorem mq1_Mo_pulse_1_j41 {c i k : Nat} (hc : c = 44 ∧ ¬ (3 ≤ k ∧ k < 6)) : ∀ (v : fw_V), (mf_Mo_pulse_1_j41 v) c i k = v c i k := by
  intro v
  unfold mf_Mo_pulse_1_j41
  (try dsimp only)
  all_goals ((repeat' split) <;> (first | with_reducible rfl | (simp only [msend_c (c' := c) (by omega) (by omega) (by omega) (by omega) (by omega) (by omega) (by omega), mq1_Mo_pulse_1_j42 hc]; done)))
theorem mq1_Mo_pulse_1_j54 {c i k : Nat} (hc : c = 44 ∧ ¬ (3 ≤ k ∧ k < 6)) : ∀ (v : fw_V), (mf_Mo_pulse_1_j54 v) c i k = v c i k := by
  intro v
  unfold mf_Mo_pulse_1_j54
  (try dsimp only)
  all_goals ((repeat' split) <;> (first | with_reducible rfl | (simp only [msend_c (c' := c) (by omega) (by omega) (by omega) (by omega) (by omega) (by omega) (by omega), mq1_Mo_pulse_1_j48 hc]; done)))
theorem mq1_Mo_pulse_1_j55 {c i k : Nat} (hc : c = 44 ∧ ¬ (3 ≤ k ∧ k < 6)) : ∀ (v : fw_V), (mf_Mo_pulse_1_j55 v) c i k = v c i k := by
  intro v
  unfold mf_Mo_pulse_1_j55
  (try dsimp only)
  all_goals ((repeat' split) <;> (first | with_reducible rfl | (simp only [msend_c (c' := c) (by omega) (by omega) (by omega) (by omega) (by omega) (by omega) (by omega), mq1_Mo_pulse_1_j48 hc]; done)))
theorem mq1_Mo_pulse_1_j53 {c i k : Nat} (hc : c = 44 ∧ ¬ (3 ≤ k ∧ k < 6)) : ∀ (v : fw_V) (x4 : Int32), (mf_Mo_pulse_1_j53 v x4) c i k = v c i k := by
  intro v x4
  unfold mf_Mo_pulse_1_j53
  (try dsimp only)
  all_goals ((repeat' split) <;> (first | with_reducible rfl | (simp only [fw_up_ne (c := 9) (i := 0) (k := 5) (c' := c) (i' := i) (k' := k) (by omega), msend_c (c' := c) (by omega) (by omega) (by omega) (by omega) (by omega) (by omega) (by omega), mq1_Mo_pulse_1_j54 hc, mq1_Mo_pulse_1_j55 hc]; done)))
theorem mq1_Mo_pulse_1_j52 {c i k : Nat} (hc : c = 44 ∧ ¬ (3 ≤ k ∧ k < 6)) : ∀ (v : fw_V) (x4 : Int32), (mf_Mo_pulse_1_j52 v x4) c i k = v c i k := by
  intro v x4
  unfold mf_Mo_pulse_1_j52
  (try dsimp only)
  all_goals ((repeat' split) <;> (first | with_reducible rfl | (simp only [msend_c (c' := c) (by omega) (by omega) (by omega) (by omega) (by omega) (by omega) (by omega), mq1_Mo_pulse_1_j53 hc]; done)))
theorem mq1_Mo_pulse_1_j56 {c i k : Nat} (hc : c = 44 ∧ ¬ (3 ≤ k ∧ k < 6)) : ∀ (v : fw_V) (x4 : Int32) (x90 : Int32), (mf_Mo_pulse_1_j56 v x4 x90) c i k = v c i k := by
  intro v x4 x90
  unfold mf_Mo_pulse_1_j56
  (try dsimp only)
  all_goals ((repeat' split) <;> (first | with_reducible rfl | (simp only [fw_up_ne (c := 9) (i := 0) (k := 5) (c' := c) (i' := i) (k' := k) (by omega), msend_c (c' := c) (by omega) (by omega) (by omega) (by omega) (by omega) (by omega) (by omega), mq1_Mo_pulse_1_j54 hc, mq1_Mo_pulse_1_j55 hc]; done)))
theorem mq1_Mo_pulse_1_j51 {c i k : Nat} (hc : c = 44 ∧ ¬ (3 ≤ k ∧ k < 6)) : ∀ (v : fw_V), (mf_Mo_pulse_1_j51 v) c i k = v c i k := by
  intro v
  unfold mf_Mo_pulse_1_j51
  (try dsimp only)
  all_goals ((repeat' split) <;> (first | with_reducible rfl | (simp only [msend_c (c' := c) (by omega) (by omega) (by omega) (by omega) (by omega) (by omega) (by omega), mq1_Mo_pulse_1_j52 hc, mq1_Mo_pulse_1_j56 hc]; done)))
theorem mq1_Mo_pulse_1_j50 {c i k : Nat} (hc : c = 44 ∧ ¬ (3 ≤ k ∧ k < 6)) : ∀ (v : fw_V), (mf_Mo_pulse_1_j50 v) c i k = v c i k := by
  intro v
  unfold mf_Mo_pulse_1_j50
  (try dsimp only)
  all_goals ((repeat' split) <;> (first | with_reducible rfl | (simp only [msend_c (c' := c) (by omega) (by omega) (by omega) (by omega) (by omega) (by omega) (by omega), mq1_Mo_pulse_1_j51 hc]; done)))
theorem mq1_Mo_pulse_1_j40 {c i k : Nat} (hc : c = 44 ∧ ¬ (3 ≤ k ∧ k < 6)) : ∀ (v : fw_V) (x4 : Int32), (mf_Mo_pulse_1_j40 v x4) c i k = v c i k := by
  intro v x4
  unfold mf_Mo_pulse_1_j40
  (try dsimp only)
  all_goals ((repeat' split) <;> (first | with_reducible rfl | (simp only [fw_up_ne (c := 9) (i := 0) (k := 4) (c' := c) (i' := i) (k' := k) (by omega), msend_c (c' := c) (by omega) (by omega) (by omega) (by omega) (by omega) (by omega) (by omega), mq1_Mo_pulse_1_j41 hc, mq1_Mo_pulse_1_j50 hc]; done)))
theorem mq1_Mo_pulse_1_j39 {c i k : Nat} (hc : c = 44 ∧ ¬ (3 ≤ k ∧ k < 6)) : ∀ (v : fw_V) (x4 : Int32), (mf_Mo_pulse_1_j39 v x4) c i k = v c i k := by
  intro v x4
  unfold mf_Mo_pulse_1_j39
  (try dsimp only)
  all_goals ((repeat' split) <;> (first | with_reducible rfl | (simp only [msend_c (c' := c) (by omega) (by omega) (by omega) (by omega) (by omega) (by omega) (by omega), mq1_Mo_pulse_1_j40 hc]; done)))
theorem mq1_Mo_pulse_1_j57 {c i k : Nat} (hc : c = 44 ∧ ¬ (3 ≤ k ∧ k < 6)) : ∀ (v : fw_V) (x4 : Int32) (x90 : Int32), (mf_Mo_pulse_1_j57 v x4 x90) c i k = v c i k := by
  intro v x4 x90
  unfold mf_Mo_pulse_1_j57
  (try dsimp only)
  all_goals ((repeat' split) <;> (first | with_reducible rfl | (simp only [fw_up_ne (c := 9) (i := 0) (k := 4) (c' := c) (i' := i) (k' := k) (by omega), msend_c (c' := c) (by omega) (by omega) (by omega) (by omega) (by omega) (by omega) (by omega), mq1_Mo_pulse_1_j41 hc, mq1_Mo_pulse_1_j50 hc]; done)))
theorem mq1_Mo_pulse_1_j38 {c i k : Nat} (hc : c = 44 ∧ ¬ (3 ≤ k ∧ k < 6)) : ∀ (v : fw_V), (mf_Mo_pulse_1_j38 v) c i k = v c i k := by
  intro v
  unfold mf_Mo_pulse_1_j38
  (try dsimp only)
  all_goals ((repeat' split) <;> (first | with_reducible rfl | (simp only [msend_c (c' := c) (by omega) (by omega) (by omega) (by omega) (by omega) (by omega) (by omega), mq1_Mo_pulse_1_j39 hc, mq1_Mo_pulse_1_j57 hc]; done)))
theorem mq1_Mo_pulse_1_j37 {c i k : Nat} (hc : c = 44 ∧ ¬ (3 ≤ k ∧ k < 6)) : ∀ (v : fw_V), (mf_Mo_pulse_1_j37 v) c i k = v c i k := by
  intro v
  unfold mf_Mo_pulse_1_j37
  (try dsimp only)
  all_goals ((repeat' split) <;> (first | with_reducible rfl | (simp only [msend_c (c' := c) (by omega) (by omega) (by omega) (by omega) (by omega) (by omega) (by omega), mq1_Mo_pulse_1_j38 hc]; done)))
theorem mq1_Mo_pulse_1_j15 {c i k : Nat} (hc : c = 44 ∧ ¬ (3 ≤ k ∧ k < 6)) : ∀ (v : fw_V) (x4 : Int32), (mf_Mo_pulse_1_j15 v x4) c i k = v c i k := by
  intro v x4
  unfold mf_Mo_pulse_1_j15
  (try dsimp only)
  all_goals ((repeat' split) <;> (first | with_reducible rfl | (simp only [fw_up_ne (c := 9) (i := 0) (k := 3) (c' := c) (i' := i) (k' := k) (by omega), msend_c (c' := c) (by omega) (by omega) (by omega) (by omega) (by omega) (by omega) (by omega), mq1_Mo_pulse_1_j16 hc, mq1_Mo_pulse_1_j37 hc]; done)))
theorem mq1_Mo_pulse_1_j14 {c i k : Nat} (hc : c = 44 ∧ ¬ (3 ≤ k ∧ k < 6)) : ∀ (v : fw_V) (x4 : Int32), (mf_Mo_pulse_1_j14 v x4) c i k = v c i k := by
  intro v x4
  unfold mf_Mo_pulse_1_j14
  (try dsimp only)
  all_goals ((repeat' split) <;> (first | with_reducible rfl | (simp only [msend_c (c' := c) (by omega) (by omega) (by omega) (by omega) (by omega) (by omega) (by omega), mq1_Mo_pulse_1_j15 hc]; done)))
theorem mq1_Mo_pulse_1_j58 {c i k : Nat} (hc : c = 44 ∧ ¬ (3 ≤ k ∧ k < 6)) : ∀ (v : fw_V) (x4 : Int32) (x90 : Int32), (mf_Mo_pulse_1_j58 v x4 x90) c i k = v c i k := by
  intro v x4 x90
  unfold mf_Mo_pulse_1_j58
  (try dsimp only)
  all_goals ((repeat' split) <;> (first | with_reducible rfl | (simp only [fw_up_ne (c := 9) (i := 0) (k := 3) (c' := c) (i' := i) (k' := k) (by omega), msend_c (c' := c) (by omega) (by omega) (by omega) (by omega) (by omega) (by omega) (by omega), mq1_Mo_pulse_1_j16 hc, mq1_Mo_pulse_1_j37 hc]; done)))
theorem mq1_Mo_pulse_1_j13 {c i k : Nat} (hc : c = 44 ∧ ¬ (3 ≤ k ∧ k < 6)) : ∀ (v : fw_V), (mf_Mo_pulse_1_j13 v) c i k = v c i k := by
  intro v
  unfold mf_Mo_pulse_1_j13
  (try dsimp only)
  all_goals ((repeat' split) <;> (first | with_reducible rfl | (simp only [msend_c (c' := c) (by omega) (by omega) (by omega) (by omega) (by omega) (by omega) (by omega), mq1_Mo_pulse_1_j14 hc, mq1_Mo_pulse_1_j58 hc]; done)))
theorem mq1_Mo_pulse_1_j12 {c i k : Nat} (hc : c = 44 ∧ ¬ (3 ≤ k ∧ k < 6)) : ∀ (v : fw_V), (mf_Mo_pulse_1_j12 v) c i k = v c i k := by
  intro v
  unfold mf_Mo_pulse_1_j12
  (try dsimp only)
  all_goals ((repeat' split) <;> (first | with_reducible rfl | (simp only [msend_c (c' := c) (by omega) (by omega) (by omega) (by omega) (by omega) (by omega) (by omega), mq1_Mo_pulse_1_j13 hc]; done)))
theorem mq1_Mo_pulse_1_j63 {c i k : Nat} (hc : c = 44 ∧ ¬ (3 ≤ k ∧ k < 6)) : ∀ (v : fw_V), (mf_Mo_pulse_1_j63 v) c i k = v c i k := by
  intro v
  unfold mf_Mo_pulse_1_j63
  (try dsimp only)
  all_goals ((repeat' split) <;> (first | with_reducible rfl | (simp only [msend_c (c' := c) (by omega) (by omega) (by omega) (by omega) (by omega) (by omega) (by omega), mq1_Mo_pulse_1_j38 hc]; done)))
theorem mq1_Mo_pulse_1_j64 {c i k : Nat} (hc : c = 44 ∧ ¬ (3 ≤ k ∧ k < 6)) : ∀ (v : fw_V), (mf_Mo_pulse_1_j64 v) c i k = v c i k := by
  intro v
  unfold mf_Mo_pulse_1_j64
  (try dsimp only)
  all_goals ((repeat' split) <;> (first | with_reducible rfl | (simp only [msend_c (c' := c) (by omega) (by omega) (by omega) (by omega) (by omega) (by omega) (by omega), mq1_Mo_pulse_1_j38 hc]; done)))
theorem mq1_Mo_pulse_1_j62 {c i k : Nat} (hc : c = 44 ∧ ¬ (3 ≤ k ∧ k < 6)) : ∀ (v : fw_V) (x4 : Int32), (mf_Mo_pulse_1_j62 v x4) c i k = v c i k := by
  intro v x4
  unfold mf_Mo_pulse_1_j62
  (try dsimp only)
  all_goals ((repeat' split) <;> (first | with_reducible rfl | (simp only [fw_up_ne (c := 9) (i := 0) (k := 3) (c' := c) (i' := i) (k' := k) (by omega), msend_c (c' := c) (by omega) (by omega) (by omega) (by omega) (by omega) (by omega) (by omega), mq1_Mo_pulse_1_j63 hc, mq1_Mo_pulse_1_j64 hc]; done)))
theorem mq1_Mo_pulse_1_j61 {c i k : Nat} (hc : c = 44 ∧ ¬ (3 ≤ k ∧ k < 6)) : ∀ (v : fw_V) (x4 : Int32), (mf_Mo_pulse_1_j61 v x4) c i k = v c i k := by
  intro v x4
  unfold mf_Mo_pulse_1_j61
  (try dsimp only)
  all_goals ((repeat' split) <;> (first | with_reducible rfl | (simp only [msend_c (c' := c) (by omega) (by omega) (by omega) (by omega) (by omega) (by omega) (by omega), mq1_Mo_pulse_1_j62 hc]; done)))
theorem mq1_Mo_pulse_1_j65 {c i k : Nat} (hc : c = 44 ∧ ¬ (3 ≤ k ∧ k < 6)) : ∀ (v : fw_V) (x4 : Int32) (x90 : Int32), (mf_Mo_pulse_1_j65 v x4 x90) c i k = v c i k := by
  intro v x4 x90
  unfold mf_Mo_pulse_1_j65
  (try dsimp only)
  all_goals ((repeat' split) <;> (first | with_reducible rfl | (simp only [fw_up_ne (c := 9) (i := 0) (k := 3) (c' := c) (i' := i) (k' := k) (by omega), msend_c (c' := c) (by omega) (by omega) (by omega) (by omega) (by omega) (by omega) (by omega), mq1_Mo_pulse_1_j63 hc, mq1_Mo_pulse_1_j64 hc]; done)))
theorem mq1_Mo_pulse_1_j60 {c i k : Nat} (hc : c = 44 ∧ ¬ (3 ≤ k ∧ k < 6)) : ∀ (v : fw_V), (mf_Mo_pulse_1_j60 v) c i k = v c i k := by
  intro v
  unfold mf_Mo_pulse_1_j60
  (try dsimp only)
  all_goals ((repeat' split) <;> (first | with_reducible rfl | (simp only [msend_c (c' := c) (by omega) (by omega) (by omega) (by omega) (by omega) (by omega) (by omega), mq1_Mo_pulse_1_j61 hc, mq1_Mo_pulse_1_j65 hc]; done)))
theorem mq1_Mo_pulse_1_j59 {c i k : Nat} (hc : c = 44 ∧ ¬ (3 ≤ k ∧ k < 6)) : ∀ (v : fw_V), (mf_Mo_pulse_1_j59 v) c i k = v c i k := by
  intro v
  unfold mf_Mo_pulse_1_j59
  (try dsimp only)
  all_goals ((repeat' split) <;> (first | with_reducible rfl | (simp only [msend_c (c' := c) (by omega) (by omega) (by omega) (by omega) (by omega) (by omega) (by omega), mq1_Mo_pulse_1_j60 hc]; done)))
theorem mq1_Mo_pulse_1_j11 {c i k : Nat} (hc : c = 44 ∧ ¬ (3 ≤ k ∧ k < 6)) : ∀ (v : fw_V) (x4 : Int32), (mf_Mo_pulse_1_j11 v x4) c i k = v c i k := by
  intro v x4
  unfold mf_Mo_pulse_1_j11
  (try dsimp only)
  all_goals ((repeat' split) <;> (first | with_reducible rfl | (simp only [fw_up_ne (c := 9) (i := 0) (k := 2) (c' := c) (i' := i) (k' := k) (by omega), msend_c (c' := c) (by omega) (by omega) (by omega) (by omega) (by omega) (by omega) (by omega), mq1_Mo_pulse_1_j12 hc, mq1_Mo_pulse_1_j59 hc]; done)))
theorem mq1_Mo_pulse_1_j10 {c i k : Nat} (hc : c = 44 ∧ ¬ (3 ≤ k ∧ k < 6)) : ∀ (v : fw_V) (x4 : Int32), (mf_Mo_pulse_1_j10 v x4) c i k = v c i k := by
  intro v x4
  unfold mf_Mo_pulse_1_j10
  (try dsimp only)
  all_goals ((repeat' split) <;> (first | with_reducible rfl | (simp only [msend_c (c' := c) (by omega) (by omega) (by omega) (by omega) (by omega) (by omega) (by omega), mq1_Mo_pulse_1_j11 hc]; done)))
theorem mq1_Mo_pulse_1_j66 {c i k : Nat} (hc : c = 44 ∧ ¬ (3 ≤ k ∧ k < 6)) : ∀ (v : fw_V) (x4 : Int32) (x90 : Int32), (mf_Mo_pulse_1_j66 v x4 x90) c i k = v c i k := by
  intro v x4 x90
  unfold mf_Mo_pulse_1_j66
  (try dsimp only)
  all_goals ((repeat' split) <;> (first | with_reducible rfl | (simp only [fw_up_ne (c := 9) (i := 0) (k := 2) (c' := c) (i' := i) (k' := k) (by omega), msend_c (c' := c) (by omega) (by omega) (by omega) (by omega) (by omega) (by omega) (by omega), mq1_Mo_pulse_1_j12 hc, mq1_Mo_pulse_1_j59 hc]; done)))
theorem mq1_Mo_pulse_1_j9 {c i k : Nat} (hc : c = 44 ∧ ¬ (3 ≤ k ∧ k < 6)) : ∀ (v : fw_V), (mf_Mo_pulse_1_j9 v) c i k = v c i k := by
  intro v
  unfold mf_Mo_pulse_1_j9
  (try dsimp only)
  all_goals ((repeat' split) <;> (first | with_reducible rfl | (simp only [msend_c (c' := c) (by omega) (by omega) (by omega) (by omega) (by omega) (by omega) (by omega), mq1_Mo_pulse_1_j10 hc, mq1_Mo_pulse_1_j66 hc]; done)))
theorem mq1_Mo_pulse_1_j8 {c i k : Nat} (hc : c = 44 ∧ ¬ (3 ≤ k ∧ k < 6)) : ∀ (v : fw_V), (mf_Mo_pulse_1_j8 v) c i k = v c i k := by
  intro v
  unfold mf_Mo_pulse_1_j8
  (try dsimp only)
  all_goals ((repeat' split) <;> (first | with_reducible rfl | (simp only [msend_c (c' := c) (by omega) (by omega) (by omega) (by omega) (by omega) (by omega) (by omega), mq1_Mo_pulse_1_j9 hc]; done)))
theorem mq1_Mo_pulse_1_j84 {c i k : Nat} (hc : c = 44 ∧ ¬ (3 ≤ k ∧ k < 6)) : ∀ (v : fw_V), (mf_Mo_pulse_1_j84 v) c i k = v c i k := by
  intro v
  unfold mf_Mo_pulse_1_j84
  (try dsimp only)
  all_goals ((repeat' split) <;> (first | with_reducible rfl | (simp only [fw_up_ne (c := 9) (i := 0) (k := 6) (c' := c) (i' := i) (k' := k) (by omega), fw_up_ne (c := 34) (i := 0) (k := 1) (c' := c) (i' := i) (k' := k) (by omega), msend_c (c' := c) (by omega) (by omega) (by omega) (by omega) (by omega) (by omega) (by omega), mq1_Mo_reply_1 hc]; done)))
theorem mq1_Mo_pulse_1_j83 {c i k : Nat} (hc : c = 44 ∧ ¬ (3 ≤ k ∧ k < 6)) : ∀ (v : fw_V), (mf_Mo_pulse_1_j83 v) c i k = v c i k := by
  intro v
  unfold mf_Mo_pulse_1_j83
  (try dsimp only)
  all_goals ((repeat' split) <;> (first | with_reducible rfl | (simp only [msend_c (c' := c) (by omega) (by omega) (by omega) (by omega) (by omega) (by omega) (by omega), mq1_Mo_pulse_1_j84 hc]; done)))
theorem mq1_Mo_pulse_1_j86 {c i k : Nat} (hc : c = 44 ∧ ¬ (3 ≤ k ∧ k < 6)) : ∀ (v : fw_V), (mf_Mo_pulse_1_j86 v) c i k = v c i k := by
  intro v
  unfold mf_Mo_pulse_1_j86
  (try dsimp only)
  all_goals ((repeat' split) <;> (first | with_reducible rfl | (simp only [fw_up_ne (c := 9) (i := 0) (k := 6) (c' := c) (i' := i) (k' := k) (by omega), fw_up_ne (c := 34) (i := 0) (k := 1) (c' := c) (i' := i) (k' := k) (by omega), msend_c (c' := c) (by omega) (by omega) (by omega) (by omega) (by omega) (by omega) (by omega), mq1_Mo_reply_1 hc]; done)))
theorem mq1_Mo_pulse_1_j85 {c i k : Nat} (hc : c = 44 ∧ ¬ (3 ≤ k ∧ k < 6)) : ∀ (v : fw_V), (mf_Mo_pulse_1_j85 v) c i k = v c i k := by
  intro v
  unfold mf_Mo_pulse_1_j85
  (try dsimp only)
  all_goals ((repeat' split) <;> (first | with_reducible rfl | (simp only [msend_c (c' := c) (by omega) (by omega) (by omega) (by omega) (by omega) (by omega) (by omega), mq1_Mo_pulse_1_j86 hc]; done)))
theorem mq1_Mo_pulse_1_j82 {c i k : Nat} (hc : c = 44 ∧ ¬ (3 ≤ k ∧ k < 6)) : ∀ (v : fw_V) (x4 : Int32), (mf_Mo_pulse_1_j82 v x4) c i k = v c i k := by
  intro v x4
  unfold mf_Mo_pulse_1_j82
  (try dsimp only)
  all_goals ((repeat' split) <;> (first | with_reducible rfl | (simp only [fw_up_ne (c := 9) (i := 0) (k := 5) (c' := c) (i' := i) (k' := k) (by omega), msend_c (c' := c) (by omega) (by omega) (by omega) (by omega) (by omega) (by omega) (by omega), mq1_Mo_pulse_1_j83 hc, mq1_Mo_pulse_1_j85 hc]; done)))
theorem mq1_Mo_pulse_1_j81 {c i k : Nat} (hc : c = 44 ∧ ¬ (3 ≤ k ∧ k < 6)) : ∀ (v : fw_V) (x4 : Int32), (mf_Mo_pulse_1_j81 v x4) c i k = v c i k := by
  intro v x4
  unfold mf_Mo_pulse_1_j81
  (try dsimp only)
  all_goals ((repeat' split) <;> (first | with_reducible rfl | (simp only [msend_c (c' := c) (by omega) (by omega) (by omega) (by omega) (by omega) (by omega) (by omega), mq1_Mo_pulse_1_j82 hc]; done)))
theorem mq1_Mo_pulse_1_j87 {c i k : Nat} (hc : c = 44 ∧ ¬ (3 ≤ k ∧ k < 6)) : ∀ (v : fw_V) (x4 : Int32) (x90 : Int32), (mf_Mo_pulse_1_j87 v x4 x90) c i k = v c i k := by
  intro v x4 x90
  unfold mf_Mo_pulse_1_j87
  (try dsimp only)
  all_goals ((repeat' split) <;> (first | with_reducible rfl | (simp only [fw_up_ne (c := 9) (i := 0) (k := 5) (c' := c) (i' := i) (k' := k) (by omega), msend_c (c' := c) (by omega) (by omega) (by omega) (by omega) (by omega) (by omega) (by omega), mq1_Mo_pulse_1_j83 hc, mq1_Mo_pulse_1_j85 hc]; done)))
theorem mq1_Mo_pulse_1_j80 {c i k : Nat} (hc : c = 44 ∧ ¬ (3 ≤ k ∧ k < 6)) : ∀ (v : fw_V), (mf_Mo_pulse_1_j80 v) c i k = v c i k := by
  intro v
  unfold mf_Mo_pulse_1_j80
  (try dsimp only)
  all_goals ((repeat' split) <;> (first | with_reducible rfl | (simp only [msend_c (c' := c) (by omega) (by omega) (by omega) (by omega) (by omega) (by omega) (by omega), mq1_Mo_pulse_1_j81 hc, mq1_Mo_pulse_1_j87 hc]; done)))
theorem mq1_Mo_pulse_1_j79 {c i k : Nat} (hc : c = 44 ∧ ¬ (3 ≤ k ∧ k < 6)) : ∀ (v : fw_V), (mf_Mo_pulse_1_j79 v) c i k = v c i k := by
  intro v
  unfold mf_Mo_pulse_1_j79
  (try dsimp only)
  all_goals ((repeat' split) <;> (first | with_reducible rfl | (simp only [msend_c (c' := c) (by omega) (by omega) (by omega) (by omega) (by omega) (by omega) (by omega), mq1_Mo_pulse_1_j80 hc]; done)))
theorem mq1_Mo_pulse_1_j92 {c i k : Nat} (hc : c = 44 ∧ ¬ (3 ≤ k ∧ k < 6)) : ∀ (v : fw_V), (mf_Mo_pulse_1_j92 v) c i k = v c i k := by
  intro v
  unfold mf_Mo_pulse_1_j92
  (try dsimp only)
  all_goals ((repeat' split) <;> (first | with_reducible rfl | (simp only [msend_c (c' := c) (by omega) (by omega) (by omega) (by omega) (by omega) (by omega) (by omega), mq1_Mo_pulse_1_j86 hc]; done)))
theorem mq1_Mo_pulse_1_j93 {c i k : Nat} (hc : c = 44 ∧ ¬ (3 ≤ k ∧ k < 6)) : ∀ (v : fw_V), (mf_Mo_pulse_1_j93 v) c i k = v c i k := by
  intro v
  unfold mf_Mo_pulse_1_j93
  (try dsimp only)
  all_goals ((repeat' split) <;> (first | with_reducible rfl | (simp only [msend_c (c' := c) (by omega) (by omega) (by omega) (by omega) (by omega) (by omega) (by omega), mq1_Mo_pulse_1_j86 hc]; done)))
theorem mq1_Mo_pulse_1_j91 {c i k : Nat} (hc : c = 44 ∧ ¬ (3 ≤ k ∧ k < 6)) : ∀ (v : fw_V) (x4 : Int32), (mf_Mo_pulse_1_j91 v x4) c i k = v c i k := by
  intro v x4
  unfold mf_Mo_pulse_1_j91
  (try dsimp only)
  all_goals ((repeat' split) <;> (first | with_reducible rfl | (simp only [fw_up_ne (c := 9) (i := 0) (k := 5) (c' := c) (i' := i) (k' := k) (by omega), msend_c (c' := c) (by omega) (by omega) (by omega) (by omega) (by omega) (by omega) (by omega), mq1_Mo_pulse_1_j92 hc, mq1_Mo_pulse_1_j93 hc]; done)))
theorem mq1_Mo_pulse_1_j90 {c i k : Nat} (hc : c = 44 ∧ ¬ (3 ≤ k ∧ k < 6)) : ∀ (v : fw_V) (x4 : Int32), (mf_Mo_pulse_1_j90 v x4) c i k = v c i k := by
  intro v x4
  unfold mf_Mo_pulse_1_j90
  (try dsimp only)
  all_goals ((repeat' split) <;> (first | with_reducible rfl | (simp only [msend_c (c' := c) (by omega) (by omega) (by omega) (by omega) (by omega) (by omega) (by omega), mq1_Mo_pulse_1_j91 hc]; done)))
theorem mq1_Mo_pulse_1_j94 {c i k : Nat} (hc : c = 44 ∧ ¬ (3 ≤ k ∧ k < 6)) : ∀ (v : fw_V) (x4 : Int32) (x90 : Int32), (mf_Mo_pulse_1_j94 v x4 x90) c i k = v c i k := by
  intro v x4 x90
  unfold mf_Mo_pulse_1_j94
  (try dsimp only)
  all_goals ((repeat' split) <;> (first | with_reducible rfl | (simp only [fw_up_ne (c := 9) (i := 0) (k := 5) (c' := c) (i' := i) (k' := k) (by omega), msend_c (c' := c) (by omega) (by omega) (by omega) (by omega) (by omega) (by omega) (by omega), mq1_Mo_pulse_1_j92 hc, mq1_Mo_pulse_1_j93 hc]; done)))
theorem mq1_Mo_pulse_1_j89 {c i k : Nat} (hc : c = 44 ∧ ¬ (3 ≤ k ∧ k < 6)) : ∀ (v : fw_V), (mf_Mo_pulse_1_j89 v) c i k = v c i k := by
  intro v
  unfold mf_Mo_pulse_1_j89
  (try dsimp only)
  all_goals ((repeat' split) <;> (first | with_reducible rfl | (simp only [msend_c (c' := c) (by omega) (by omega) (by omega) (by omega) (by omega) (by omega) (by omega), mq1_Mo_pulse_1_j90 hc, mq1_Mo_pulse_1_j94 hc]; done)))
theorem mq1_Mo_pulse_1_j88 {c i k : Nat} (hc : c = 44 ∧ ¬ (3 ≤ k ∧ k < 6)) : ∀ (v : fw_V), (mf_Mo_pulse_1_j88 v) c i k = v c i k := by
  intro v
  unfold mf_Mo_pulse_1_j88
  (try dsimp only)
  all_goals ((repeat' split) <;> (first | with_reducible rfl | (simp only [msend_c (c' := c) (by omega) (by omega) (by omega) (by omega) (by omega) (by omega) (by omega), mq1_Mo_pulse_1_j89 hc]; done)))
theorem mq1_Mo_pulse_1_j78 {c i k : Nat} (hc : c = 44 ∧ ¬ (3 ≤ k ∧ k < 6)) : ∀ (v : fw_V) (x4 : Int32), (mf_Mo_pulse_1_j78 v x4) c i k = v c i k := by
  intro v x4
  unfold mf_Mo_pulse_1_j78
  (try dsimp only)
  all_goals ((repeat' split) <;> (first | with_reducible rfl | (simp only [fw_up_ne (c := 9) (i := 0) (k := 4) (c' := c) (i' := i) (k' := k) (by omega), msend_c (c' := c) (by omega) (by omega) (by omega) (by omega) (by omega) (by omega) (by omega), mq1_Mo_pulse_1_j79 hc, mq1_Mo_pulse_1_j88 hc]; done)))
theorem mq1_Mo_pulse_1_j77 {c i k : Nat} (hc : c = 44 ∧ ¬ (3 ≤ k ∧ k < 6)) : ∀ (v : fw_V) (x4 : Int32), (mf_Mo_pulse_1_j77 v x4) c i k = v c i k := by
  intro v x4
  unfold mf_Mo_pulse_1_j77
  (try dsimp only)
  all_goals ((repeat' split) <;> (first | with_reducible rfl | (simp only [msend_c (c' := c) (by omega) (by omega) (by omega) (by omega) (by omega) (by omega) (by omega), mq1_Mo_pulse_1_j78 hc]; done)))
theorem mq1_Mo_pulse_1_j95 {c i k : Nat} (hc : c = 44 ∧ ¬ (3 ≤ k ∧ k < 6)) : ∀ (v : fw_V) (x4 : Int32) (x90 : Int32), (mf_Mo_pulse_1_j95 v x4 x90) c i k = v c i k := by
  intro v x4 x90
  unfold mf_Mo_pulse_1_j95
  (try dsimp only)
  all_goals ((repeat' split) <;> (first | with_reducible rfl | (simp only [fw_up_ne (c := 9) (i := 0) (k := 4) (c' := c) (i' := i) (k' := k) (by omega), msend_c (c' := c) (by omega) (by omega) (by omega) (by omega) (by omega) (by omega) (by omega), mq1_Mo_pulse_1_j79 hc, mq1_Mo_pulse_1_j88 hc]; done)))
theorem mq1_Mo_pulse_1_j76 {c i k : Nat} (hc : c = 44 ∧ ¬ (3 ≤ k ∧ k < 6)) : ∀ (v : fw_V), (mf_Mo_pulse_1_j76 v) c i k = v c i k := by
  intro v
  unfold mf_Mo_pulse_1_j76
  (try dsimp only)
  all_goals ((repeat' split) <;> (first | with_reducible rfl | (simp only [msend_c (c' := c) (by omega) (by omega) (by omega) (by omega) (by omega) (by omega) (by omega), mq1_Mo_pulse_1_j77 hc, mq1_Mo_pulse_1_j95 hc]; done)))
theorem mq1_Mo_pulse_1_j75 {c i k : Nat} (hc : c = 44 ∧ ¬ (3 ≤ k ∧ k < 6)) : ∀ (v : fw_V), (mf_Mo_pulse_1_j75 v) c i k = v c i k := by
  intro v
  unfold mf_Mo_pulse_1_j75
  (try dsimp only)
  all_goals ((repeat' split) <;> (first | with_reducible rfl | (simp only [msend_c (c' := c) (by omega) (by omega) (by omega) (by omega) (by omega) (by omega) (by omega), mq1_Mo_pulse_1_j76 hc]; done)))
theorem mq1_Mo_pulse_1_j105 {c i k : Nat} (hc : c = 44 ∧ ¬ (3 ≤ k ∧ k < 6)) : ∀ (v : fw_V), (mf_Mo_pulse_1_j105 v) c i k = v c i k := by
  intro v
  unfold mf_Mo_pulse_1_j105
  (try dsimp only)
  all_goals ((repeat' split) <;> (first | with_reducible rfl | (simp only [fw_up_ne (c := 9) (i := 0) (k := 6) (c' := c) (i' := i) (k' := k) (by omega), fw_up_ne (c := 34) (i := 0) (k := 1) (c' := c) (i' := i) (k' := k) (by omega), msend_c (c' := c) (by omega) (by omega) (by omega) (by omega) (by omega) (by omega) (by omega), mq1_Mo_reply_1 hc]; done)))
theorem mq1_Mo_pulse_1_j104 {c i k : Nat} (hc : c = 44 ∧ ¬ (3 ≤ k ∧ k < 6)) : ∀ (v : fw_V), (mf_Mo_pulse_1_j104 v) c i k = v c i k := by
  intro v
  unfold mf_Mo_pulse_1_j104
  (try dsimp only)
  all_goals ((repeat' split) <;> (first | with_reducible rfl | (simp only [msend_c (c' := c) (by omega) (by omega) (by omega) (by omega) (by omega) (by omega) (by omega), mq1_Mo_pulse_1_j105 hc]; done)))
theorem mq1_Mo_pulse_1_j107 {c i k : Nat} (hc : c = 44 ∧ ¬ (3 ≤ k ∧ k < 6)) : ∀ (v : fw_V), (mf_Mo_pulse_1_j107 v) c i k = v c i k := by
  intro v
  unfold mf_Mo_pulse_1_j107
  (try dsimp only)
  all_goals ((repeat' split) <;> (first | with_reducible rfl | (simp only [fw_up_ne (c := 9) (i := 0) (k := 6) (c' := c) (i' := i) (k' := k) (by omega), fw_up_ne (c := 34) (i := 0) (k := 1) (c' := c) (i' := i) (k' := k) (by omega), msend_c (c' := c) (by omega) (by omega) (by omega) (by omega) (by omega) (by omega) (by omega), mq1_Mo_reply_1 hc]; done)))
theorem mq1_Mo_pulse_1_j106 {c i k : Nat} (hc : c = 44 ∧ ¬ (3 ≤ k ∧ k < 6)) : ∀ (v : fw_V), (mf_Mo_pulse_1_j106 v) c i k = v c i k := by
  intro v
  unfold mf_Mo_pulse_1_j106
  (try dsimp only)
  all_goals ((repeat' split) <;> (first | with_reducible rfl | (simp only [msend_c (c' := c) (by omega) (by omega) (by omega) (by omega) (by omega) (by omega) (by omega), mq1_Mo_pulse_1_j107 hc]; done)))
theorem mq1_Mo_pulse_1_j103 {c i k : Nat} (hc : c = 44 ∧ ¬ (3 ≤ k ∧ k < 6)) : ∀ (v : fw_V) (x4 : Int32), (mf_Mo_pulse_1_j103 v x4) c i k = v c i k := by
  intro v x4
  unfold mf_Mo_pulse_1_j103
  (try dsimp only)
  all_goals ((repeat' split) <;> (first | with_reducible rfl | (simp only [fw_up_ne (c := 9) (i := 0) (k := 5) (c' := c) (i' := i) (k' := k) (by omega), msend_c (c' := c) (by omega) (by omega) (by omega) (by omega) (by omega) (by omega) (by omega), mq1_Mo_pulse_1_j104 hc, mq1_Mo_pulse_1_j106 hc]; done)))
theorem mq1_Mo_pulse_1_j102 {c i k : Nat} (hc : c = 44 ∧ ¬ (3 ≤ k ∧ k < 6)) : ∀ (v : fw_V) (x4 : Int32), (mf_Mo_pulse_1_j102 v x4) c i k = v c i k := by
  intro v x4
  unfold mf_Mo_pulse_1_j102
  (try dsimp only)
  all_goals ((repeat' split) <;> (first | with_reducible rfl | (simp only [msend_c (c' := c) (by omega) (by omega) (by omega) (by omega) (by omega) (by omega) (by omega), mq1_Mo_pulse_1_j103 hc]; done)))
theorem mq1_Mo_pulse_1_j108 {c i k : Nat} (hc : c = 44 ∧ ¬ (3 ≤ k ∧ k < 6)) : ∀ (v : fw_V) (x4 : Int32) (x90 : Int32), (mf_Mo_pulse_1_j108 v x4 x90) c i k = v c i k := by
  intro v x4 x90
  unfold mf_Mo_pulse_1_j108
  (try dsimp only)
  all_goals ((repeat' split) <;> (first | with_reducible rfl | (simp only [fw_up_ne (c := 9) (i := 0) (k := 5) (c' := c) (i' := i) (k' := k) (by omega), msend_c (c' := c) (by omega) (by omega) (by omega) (by omega) (by omega) (by omega) (by omega), mq1_Mo_pulse_1_j104 hc, mq1_Mo_pulse_1_j106 hc]; done)))
theorem mq1_Mo_pulse_1_j101 {c i k : Nat} (hc : c = 44 ∧ ¬ (3 ≤ k ∧ k < 6)) : ∀ (v : fw_V), (mf_Mo_pulse_1_j101 v) c i k = v c i k := by
  intro v
  unfold mf_Mo_pulse_1_j101
  (try dsimp only)
  all_goals ((repeat' split) <;> (first | with_reducible rfl | (simp only [msend_c (c' := c) (by omega) (by omega) (by omega) (by omega) (by omega) (by omega) (by omega), mq1_Mo_pulse_1_j102 hc, mq1_Mo_pulse_1_j108 hc]; done)))
theorem mq1_Mo_pulse_1_j100 {c i k : Nat} (hc : c = 44 ∧ ¬ (3 ≤ k ∧ k < 6)) : ∀ (v : fw_V), (mf_Mo_pulse_1_j100 v) c i k = v c i k := by
  intro v
  unfold mf_Mo_pulse_1_j100
  (try dsimp only)
  all_goals ((repeat' split) <;> (first | with_reducible rfl | (simp only [msend_c (c' := c) (by omega) (by omega) (by omega) (by omega) (by omega) (by omega) (by omega), mq1_Mo_pulse_1_j101 hc]; done)))
theorem mq1_Mo_pulse_1_j113 {c i k : Nat} (hc : c = 44 ∧ ¬ (3 ≤ k ∧ k < 6)) : ∀ (v : fw_V), (mf_Mo_pulse_1_j113 v) c i k = v c i k := by
  intro v
  unfold mf_Mo_pulse_1_j113
  (try dsimp only)
  all_goals ((repeat' split) <;> (first | with_reducible rfl | (simp only [msend_c (c' := c) (by omega) (by omega) (by omega) (by omega) (by omega) (by omega) (by omega), mq1_Mo_pulse_1_j107 hc]; done)))
theorem mq1_Mo_pulse_1_j114 {c i k : Nat} (hc : c = 44 ∧ ¬ (3 ≤ k ∧ k < 6)) : ∀ (v : fw_V), (mf_Mo_pulse_1_j114 v) c i k = v c i k := by
  intro v
  unfold mf_Mo_pulse_1_j114
  (try dsimp only)
  all_goals ((repeat' split) <;> (first | with_reducible rfl | (simp only [msend_c (c' := c) (by omega) (by omega) (by omega) (by omega) (by omega) (by omega) (by omega), mq1_Mo_pulse_1_j107 hc]; done)))
theorem mq1_Mo_pulse_1_j112 {c i k : Nat} (hc : c = 44 ∧ ¬ (3 ≤ k ∧ k < 6)) : ∀ (v : fw_V) (x4 : Int32), (mf_Mo_pulse_1_j112 v x4) c i k = v c i k := by
  intro v x4
  unfold mf_Mo_pulse_1_j112
  (try dsimp only)
  all_goals ((repeat' split) <;> (first | with_reducible rfl | (simp only [fw_up_ne (c := 9) (i := 0) (k := 5) (c' := c) (i' := i) (k' := k) (by omega), msend_c (c' := c) (by omega) (by omega) (by omega) (by omega) (by omega) (by omega) (by omega), mq1_Mo_pulse_1_j113 hc, mq1_Mo_pulse_1_j114 hc]; done)))
theorem mq1_Mo_pulse_1_j111 {c i k : Nat} (hc : c = 44 ∧ ¬ (3 ≤ k ∧ k < 6)) : ∀ (v : fw_V) (x4 : Int32), (mf_Mo_pulse_1_j111 v x4) c i k = v c i k := by
  intro v x4
  unfold mf_Mo_pulse_1_j111
  (try dsimp only)
  all_goals ((repeat' split) <;> (first | with_reducible rfl | (simp only [msend_c (c' := c) (by omega) (by omega) (by omega) (by omega) (by omega) (by omega) (by omega), mq1_Mo_pulse_1_j112 hc]; done)))
theorem mq1_Mo_pulse_1_j115 {c i k : Nat} (hc : c = 44 ∧ ¬ (3 ≤ k ∧ k < 6)) : ∀ (v : fw_V) (x4 : Int32) (x90 : Int32), (mf_Mo_pulse_1_j115 v x4 x90) c i k = v c i k := by
  intro v x4 x90
  unfold mf_Mo_pulse_1_j115
  (try dsimp only)
  all_goals ((repeat' split) <;> (first | with_reducible rfl | (simp only [fw_up_ne (c := 9) (i := 0) (k := 5) (c' := c) (i' := i) (k' := k) (by omega), msend_c (c' := c) (by omega) (by omega) (by omega) (by omega) (by omega) (by omega) (by omega), mq1_Mo_pulse_1_j113 hc, mq1_Mo_pulse_1_j114 hc]; done)))
theorem mq1_Mo_pulse_1_j110 {c i k : Nat} (hc : c = 44 ∧ ¬ (3 ≤ k ∧ k < 6)) : ∀ (v : fw_V), (mf_Mo_pulse_1_j110 v) c i k = v c i k := by
  intro v
  unfold mf_Mo_pulse_1_j110
  (try dsimp only)
  all_goals ((repeat' split) <;> (first | with_reducible rfl | (simp only [msend_c (c' := c) (by omega) (by omega) (by omega) (by omega) (by omega) (by omega) (by omega), mq1_Mo_pulse_1_j111 hc, mq1_Mo_pulse_1_j115 hc]; done)))
theorem mq1_Mo_pulse_1_j109 {c i k : Nat} (hc : c = 44 ∧ ¬ (3 ≤ k ∧ k < 6)) : ∀ (v : fw_V), (mf_Mo_pulse_1_j109 v) c i k = v c i k := by
  intro v
  unfold mf_Mo_pulse_1_j109
  (try dsimp only)
  all_goals ((repeat' split) <;> (first | with_reducible rfl | (simp only [msend_c (c' := c) (by omega) (by omega) (by omega) (by omega) (by omega) (by omega) (by omega), mq1_Mo_pulse_1_j110 hc]; done)))
theorem mq1_Mo_pulse_1_j99 {c i k : Nat} (hc : c = 44 ∧ ¬ (3 ≤ k ∧ k < 6)) : ∀ (v : fw_V) (x4 : Int32), (mf_Mo_pulse_1_j99 v x4) c i k = v c i k := by
  intro v x4
  unfold mf_Mo_pulse_1_j99
  (try dsimp only)
  all_goals ((repeat' split) <;> (first | with_reducible rfl | (simp only [fw_up_ne (c := 9) (i := 0) (k := 4) (c' := c) (i' := i) (k' := k) (by omega), msend_c (c' := c) (by omega) (by omega) (by omega) (by omega) (by omega) (by omega) (by omega), mq1_Mo_pulse_1_j100 hc, mq1_Mo_pulse_1_j109 hc]; done)))
theorem mq1_Mo_pulse_1_j98 {c i k : Nat} (hc : c = 44 ∧ ¬ (3 ≤ k ∧ k < 6)) : ∀ (v : fw_V) (x4 : Int32), (mf_Mo_pulse_1_j98 v x4) c i k = v c i k := by
  intro v x4
  unfold mf_Mo_pulse_1_j98
  (try dsimp only)
  all_goals ((repeat' split) <;> (first | with_reducible rfl | (simp only [msend_c (c' := c) (by omega) (by omega) (by omega) (by omega) (by omega) (by omega) (by omega), mq1_Mo_pulse_1_j99 hc]; done)))
theorem mq1_Mo_pulse_1_j116 {c i k : Nat} (hc : c = 44 ∧ ¬ (3 ≤ k ∧ k < 6)) : ∀ (v : fw_V) (x4 : Int32) (x90 : Int32), (mf_Mo_pulse_1_j116 v x4 x90) c i k = v c i k := by
  intro v x4 x90
  unfold mf_Mo_pulse_1_j116
  (try dsimp only)
  all_goals ((repeat' split) <;> (first | with_reducible rfl | (simp only [fw_up_ne (c := 9) (i := 0) (k := 4) (c' := c) (i' := i) (k' := k) (by omega), msend_c (c' := c) (by omega) (by omega) (by omega) (by omega) (by omega) (by omega) (by omega), mq1_Mo_pulse_1_j100 hc, mq1_Mo_pulse_1_j109 hc]; done)))
theorem mq1_Mo_pulse_1_j97 {c i k : Nat} (hc : c = 44 ∧ ¬ (3 ≤ k ∧ k < 6)) : ∀ (v : fw_V), (mf_Mo_pulse_1_j97 v) c i k = v c i k := by
  intro v
  unfold mf_Mo_pulse_1_j97
  (try dsimp only)
  all_goals ((repeat' split) <;> (first | with_reducible rfl | (simp only [msend_c (c' := c) (by omega) (by omega) (by omega) (by omega) (by omega) (by omega) (by omega), mq1_Mo_pulse_1_j98 hc, mq1_Mo_pulse_1_j116 hc]; done)))
theorem mq1_Mo_pulse_1_j96 {c i k : Nat} (hc : c = 44 ∧ ¬ (3 ≤ k ∧ k < 6)) : ∀ (v : fw_V), (mf_Mo_pulse_1_j96 v) c i k = v c i k := by
  intro v
  unfold mf_Mo_pulse_1_j96
  (try dsimp only)
  all_goals ((repeat' split) <;> (first | with_reducible rfl | (simp only [msend_c (c' := c) (by omega) (by omega) (by omega) (by omega) (by omega) (by omega) (by omega), mq1_Mo_pulse_1_j97 hc]; done)))
theorem mq1_Mo_pulse_1_j74 {c i k : Nat} (hc : c = 44 ∧ ¬ (3 ≤ k ∧ k < 6)) : ∀ (v : fw_V) (x4 : Int32), (mf_Mo_pulse_1_j74 v x4) c i k = v c i k := by
  intro v x4
  unfold mf_Mo_pulse_1_j74
  (try dsimp only)
  all_goals ((repeat' split) <;> (first | with_reducible rfl | (simp only [fw_up_ne (c := 9) (i := 0) (k := 3) (c' := c) (i' := i) (k' := k) (by omega), msend_c (c' := c) (by omega) (by omega) (by omega) (by omega) (by omega) (by omega) (by omega), mq1_Mo_pulse_1_j75 hc, mq1_Mo_pulse_1_j96 hc]; done)))
theorem mq1_Mo_pulse_1_j73 {c i k : Nat} (hc : c = 44 ∧ ¬ (3 ≤ k ∧ k < 6)) : ∀ (v : fw_V) (x4 : Int32), (mf_Mo_pulse_1_j73 v x4) c i k = v c i k := by
  intro v x4
  unfold mf_Mo_pulse_1_j73
  (try dsimp only)
  all_goals ((repeat' split) <;> (first | with_reducible rfl | (simp only [msend_c (c' := c) (by omega) (by omega) (by omega) (by omega) (by omega) (by omega) (by omega), mq1_Mo_pulse_1_j74 hc]; done)))
theorem mq1_Mo_pulse_1_j117 {c i k : Nat} (hc : c = 44 ∧ ¬ (3 ≤ k ∧ k < 6)) : ∀ (v : fw_V) (x4 : Int32) (x90 : Int32), (mf_Mo_pulse_1_j117 v x4 x90) c i k = v c i k := by
  intro v x4 x90
  unfold mf_Mo_pulse_1_j117
  (try dsimp only)
  all_goals ((repeat' split) <;> (first | with_reducible rfl | (simp only [fw_up_ne (c := 9) (i := 0) (k := 3) (c' := c) (i' := i) (k' := k) (by omega), msend_c (c' := c) (by omega) (by omega) (by omega) (by omega) (by omega) (by omega) (by omega), mq1_Mo_pulse_1_j75 hc, mq1_Mo_pulse_1_j96 hc]; done)))
theorem mq1_Mo_pulse_1_j72 {c i k : Nat} (hc : c = 44 ∧ ¬ (3 ≤ k ∧ k < 6)) : ∀ (v : fw_V), (mf_Mo_pulse_1_j72 v) c i k = v c i k := by
  intro v
  unfold mf_Mo_pulse_1_j72
  (try dsimp only)
  all_goals ((repeat' split) <;> (first | with_reducible rfl | (simp only [msend_c (c' := c) (by omega) (by omega) (by omega) (by omega) (by omega) (by omega) (by omega), mq1_Mo_pulse_1_j73 hc, mq1_Mo_pulse_1_j117 hc]; done)))
theorem mq1_Mo_pulse_1_j71 {c i k : Nat} (hc : c = 44 ∧ ¬ (3 ≤ k ∧ k < 6)) : ∀ (v : fw_V), (mf_Mo_pulse_1_j71 v) c i k = v c i k := by
  intro v
  unfold mf_Mo_pulse_1_j71
  (try dsimp only)
  all_goals ((repeat' split) <;> (first | with_reducible rfl | (simp only [msend_c (c' := c) (by omega) (by omega) (by omega) (by omega) (by omega) (by omega) (by omega), mq1_Mo_pulse_1_j72 hc]; done)))
theorem mq1_Mo_pulse_1_j122 {c i k : Nat} (hc : c = 44 ∧ ¬ (3 ≤ k ∧ k < 6)) : ∀ (v : fw_V), (mf_Mo_pulse_1_j122 v) c i k = v c i k := by
  intro v
  unfold mf_Mo_pulse_1_j122
  (try dsimp only)
  all_goals ((repeat' split) <;> (first | with_reducible rfl | (simp only [msend_c (c' := c) (by omega) (by omega) (by omega) (by omega) (by omega) (by omega) (by omega), mq1_Mo_pulse_1_j97 hc]; done)))
theorem mq1_Mo_pulse_1_j123 {c i k : Nat} (hc : c = 44 ∧ ¬ (3 ≤ k ∧ k < 6)) : ∀ (v : fw_V), (mf_Mo_pulse_1_j123 v) c i k = v c i k := by
  intro v
  unfold mf_Mo_pulse_1_j123
  (try dsimp only)
  all_goals ((repeat' split) <;> (first | with_reducible rfl | (simp only [msend_c (c' := c) (by omega) (by omega) (by omega) (by omega) (by omega) (by omega) (by omega), mq1_Mo_pulse_1_j97 hc]; done)))
theorem mq1_Mo_pulse_1_j121 {c i k : Nat} (hc : c = 44 ∧ ¬ (3 ≤ k ∧ k < 6)) : ∀ (v : fw_V) (x4 : Int32), (mf_Mo_pulse_1_j121 v x4) c i k = v c i k := by
  intro v x4
  unfold mf_Mo_pulse_1_j121
  (try dsimp only)
  all_goals ((repeat' split) <;> (first | with_reducible rfl | (simp only [fw_up_ne (c := 9) (i := 0) (k := 3) (c' := c) (i' := i) (k' := k) (by omega), msend_c (c' := c) (by omega) (by omega) (by omega) (by omega) (by omega) (by omega) (by omega), mq1_Mo_pulse_1_j122 hc, mq1_Mo_pulse_1_j123 hc]; done)))
theorem mq1_Mo_pulse_1_j120 {c i k : Nat} (hc : c = 44 ∧ ¬ (3 ≤ k ∧ k < 6)) : ∀ (v : fw_V) (x4 : Int32), (mf_Mo_pulse_1_j120 v x4) c i k = v c i k := by
  intro v x4
  unfold mf_Mo_pulse_1_j120
  (try dsimp only)
  all_goals ((repeat' split) <;> (first | with_reducible rfl | (simp only [msend_c (c' := c) (by omega) (by omega) (by omega) (by omega) (by omega) (by omega) (by omega), mq1_Mo_pulse_1_j121 hc]; done)))
theorem mq1_Mo_pulse_1_j124 {c i k : Nat} (hc : c = 44 ∧ ¬ (3 ≤ k ∧ k < 6)) : ∀ (v : fw_V) (x4 : Int32) (x90 : Int32), (mf_Mo_pulse_1_j124 v x4 x90) c i k = v c i k := by
  intro v x4 x90
  unfold mf_Mo_pulse_1_j124
  (try dsimp only)
  all_goals ((repeat' split) <;> (first | with_reducible rfl | (simp only [fw_up_ne (c := 9) (i := 0) (k := 3) (c' := c) (i' := i) (k' := k) (by omega), msend_c (c' := c) (by omega) (by omega) (by omega) (by omega) (by omega) (by omega) (by omega), mq1_Mo_pulse_1_j122 hc, mq1_Mo_pulse_1_j123 hc]; done)))
theorem mq1_Mo_pulse_1_j119 {c i k : Nat} (hc : c = 44 ∧ ¬ (3 ≤ k ∧ k < 6)) : ∀ (v : fw_V), (mf_Mo_pulse_1_j119 v) c i k = v c i k := by
  intro v
  unfold mf_Mo_pulse_1_j119
  (try dsimp only)
  all_goals ((repeat' split) <;> (first | with_reducible rfl | (simp only [msend_c (c' := c) (by omega) (by omega) (by omega) (by omega) (by omega) (by omega) (by omega), mq1_Mo_pulse_1_j120 hc, mq1_Mo_pulse_1_j124 hc]; done)))
theorem mq1_Mo_pulse_1_j118 {c i k : Nat} (hc : c = 44 ∧ ¬ (3 ≤ k ∧ k < 6)) : ∀ (v : fw_V), (mf_Mo_pulse_1_j118 v) c i k = v c i k := by
  intro v
  unfold mf_Mo_pulse_1_j118
  (try dsimp only)
  all_goals ((repeat' split) <;> (first | with_reducible rfl | (simp only [msend_c (c' := c) (by omega) (by omega) (by omega) (by omega) (by omega) (by omega) (by omega), mq1_Mo_pulse_1_j119 hc]; done)))
theorem mq1_Mo_pulse_1_j70 {c i k : Nat} (hc : c = 44 ∧ ¬ (3 ≤ k ∧ k < 6)) : ∀ (v : fw_V) (x4 : Int32), (mf_Mo_pulse_1_j70 v x4) c i k = v c i k := by
  intro v x4
  unfold mf_Mo_pulse_1_j70
  (try dsimp only)
  all_goals ((repeat' split) <;> (first | with_reducible rfl | (simp only [fw_up_ne (c := 9) (i := 0) (k := 2) (c' := c) (i' := i) (k' := k) (by omega), msend_c (c' := c) (by omega) (by omega) (by omega) (by omega) (by omega) (by omega) (by omega), mq1_Mo_pulse_1_j71 hc, mq1_Mo_pulse_1_j118 hc]; done)))
theorem mq1_Mo_pulse_1_j69 {c i k : Nat} (hc : c = 44 ∧ ¬ (3 ≤ k ∧ k < 6)) : ∀ (v : fw_V) (x4 : Int32), (mf_Mo_pulse_1_j69 v x4) c i k = v c i k := by
  intro v x4
  unfold mf_Mo_pulse_1_j69
  (try dsimp only)
  all_goals ((repeat' split) <;> (first | with_reducible rfl | (simp only [msend_c (c' := c) (by omega) (by omega) (by omega) (by omega) (by omega) (by omega) (by omega), mq1_Mo_pulse_1_j70 hc]; done)))
theorem mq1_Mo_pulse_1_j125 {c i k : Nat} (hc : c = 44 ∧ ¬ (3 ≤ k ∧ k < 6)) : ∀ (v : fw_V) (x4 : Int32) (x90 : Int32), (mf_Mo_pulse_1_j125 v x4 x90) c i k = v c i k := by
  intro v x4 x90
  unfold mf_Mo_pulse_1_j125
  (try dsimp only)
  all_goals ((repeat' split) <;> (first | with_reducible rfl | (simp only [fw_up_ne (c := 9) (i := 0) (k := 2) (c' := c) (i' := i) (k' := k) (by omega), msend_c (c' := c) (by omega) (by omega) (by omega) (by omega) (by omega) (by omega) (by omega), mq1_Mo_pulse_1_j71 hc, mq1_Mo_pulse_1_j118 hc]; done)))
theorem mq1_Mo_pulse_1_j68 {c i k : Nat} (hc : c = 44 ∧ ¬ (3 ≤ k ∧ k < 6)) : ∀ (v : fw_V), (mf_Mo_pulse_1_j68 v) c i k = v c i k := by
  intro v
  unfold mf_Mo_pulse_1_j68
  (try dsimp only)
  all_goals ((repeat' split) <;> (first | with_reducible rfl | (simp only [msend_c (c' := c) (by omega) (by omega) (by omega) (by omega) (by omega) (by omega) (by omega), mq1_Mo_pulse_1_j69 hc, mq1_Mo_pulse_1_j125 hc]; done)))
theorem mq1_Mo_pulse_1_j67 {c i k : Nat} (hc : c = 44 ∧ ¬ (3 ≤ k ∧ k < 6)) : ∀ (v : fw_V), (mf_Mo_pulse_1_j67 v) c i k = v c i k := by
  intro v
  unfold mf_Mo_pulse_1_j67
  (try dsimp only)
  all_goals ((repeat' split) <;> (first | with_reducible rfl | (simp only [msend_c (c' := c) (by omega) (by omega) (by omega) (by omega) (by omega) (by omega) (by omega), mq1_Mo_pulse_1_j68 hc]; done)))
theorem mq1_Mo_pulse_1_j7 {c i k : Nat} (hc : c = 44 ∧ ¬ (3 ≤ k ∧ k < 6)) : ∀ (v : fw_V) (x4 : Int32), (mf_Mo_pulse_1_j7 v x4) c i k = v c i k := by
  intro v x4
  unfold mf_Mo_pulse_1_j7
  (try dsimp only)
  all_goals ((repeat' split) <;> (first | with_reducible rfl | (simp only [fw_up_ne (c := 9) (i := 0) (k := 1) (c' := c) (i' := i) (k' := k) (by omega), msend_c (c' := c) (by omega) (by omega) (by omega) (by omega) (by omega) (by omega) (by omega), mq1_Mo_pulse_1_j8 hc, mq1_Mo_pulse_1_j67 hc]; done)))
theorem mq1_Mo_pulse_1_j6 {c i k : Nat} (hc : c = 44 ∧ ¬ (3 ≤ k ∧ k < 6)) : ∀ (v : fw_V) (x4 : Int32), (mf_Mo_pulse_1_j6 v x4) c i k = v c i k := by
  intro v x4
  unfold mf_Mo_pulse_1_j6
  (try dsimp only)
  all_goals ((repeat' split) <;> (first | with_reducible rfl | (simp only [msend_c (c' := c) (by omega) (by omega) (by omega) (by omega) (by omega) (by omega) (by omega), mq1_Mo_pulse_1_j7 hc]; done)))
theorem mq1_Mo_pulse_1_j126 {c i k : Nat} (hc : c = 44 ∧ ¬ (3 ≤ k ∧ k < 6)) : ∀ (v : fw_V) (x4 : Int32) (x90 : Int32), (mf_Mo_pulse_1_j126 v x4 x90) c i k = v c i k := by
  intro v x4 x90
  unfold mf_Mo_pulse_1_j126
  (try dsimp only)
  all_goals ((repeat' split) <;> (first | with_reducible rfl | (simp only [fw_up_ne (c := 9) (i := 0) (k := 1) (c' := c) (i' := i) (k' := k) (by omega), msend_c (c' := c) (by omega) (by omega) (by omega) (by omega) (by omega) (by omega) (by omega), mq1_Mo_pulse_1_j8 hc, mq1_Mo_pulse_1_j67 hc]; done)))
theorem mq1_Mo_pulse_1_j5 {c i k : Nat} (hc : c = 44 ∧ ¬ (3 ≤ k ∧ k < 6)) : ∀ (v : fw_V), (mf_Mo_pulse_1_j5 v) c i k = v c i k := by
  intro v
  unfold mf_Mo_pulse_1_j5
  (try dsimp only)
  all_goals ((repeat' split) <;> (first | with_reducible rfl | (simp only [msend_c (c' := c) (by omega) (by omega) (by omega) (by omega) (by omega) (by omega) (by omega), mq1_Mo_pulse_1_j6 hc, mq1_Mo_pulse_1_j126 hc]; done)))
theorem mq1_Mo_pulse_1_j4 {c i k : Nat} (hc : c = 44 ∧ ¬ (3 ≤ k ∧ k < 6)) : ∀ (v : fw_V), (mf_Mo_pulse_1_j4 v) c i k = v c i k := by
  intro v
  unfold mf_Mo_pulse_1_j4
  (try dsimp only)
  all_goals ((repeat' split) <;> (first | with_reducible rfl | (simp only [msend_c (c' := c) (by omega) (by omega) (by omega) (by omega) (by omega) (by omega) (by omega), mq1_Mo_pulse_1_j5 hc]; done)))
theorem mq1_Mo_pulse_1_j131 {c i k : Nat} (hc : c = 44 ∧ ¬ (3 ≤ k ∧ k < 6)) : ∀ (v : fw_V), (mf_Mo_pulse_1_j131 v) c i k = v c i k := by
  intro v
  unfold mf_Mo_pulse_1_j131
  (try dsimp only)
  all_goals ((repeat' split) <;> (first | with_reducible rfl | (simp only [msend_c (c' := c) (by omega) (by omega) (by omega) (by omega) (by omega) (by omega) (by omega), mq1_Mo_pulse_1_j68 hc]; done)))
theorem mq1_Mo_pulse_1_j132 {c i k : Nat} (hc : c = 44 ∧ ¬ (3 ≤ k ∧ k < 6)) : ∀ (v : fw_V), (mf_Mo_pulse_1_j132 v) c i k = v c i k := by
  intro v
  unfold mf_Mo_pulse_1_j132
  (try dsimp only)
  all_goals ((repeat' split) <;> (first | with_reducible rfl | (simp only [msend_c (c' := c) (by omega) (by omega) (by omega) (by omega) (by omega) (by omega) (by omega), mq1_Mo_pulse_1_j68 hc]; done)))
theorem mq1_Mo_pulse_1_j130 {c i k : Nat} (hc : c = 44 ∧ ¬ (3 ≤ k ∧ k < 6)) : ∀ (v : fw_V) (x4 : Int32), (mf_Mo_pulse_1_j130 v x4) c i k = v c i k := by
  intro v x4
  unfold mf_Mo_pulse_1_j130
  (try dsimp only)
  all_goals ((repeat' split) <;> (first | with_reducible rfl | (simp only [fw_up_ne (c := 9) (i := 0) (k := 1) (c' := c) (i' := i) (k' := k) (by omega), msend_c (c' := c) (by omega) (by omega) (by omega) (by omega) (by omega) (by omega) (by omega), mq1_Mo_pulse_1_j131 hc, mq1_Mo_pulse_1_j132 hc]; done)))
theorem mq1_Mo_pulse_1_j129 {c i k : Nat} (hc : c = 44 ∧ ¬ (3 ≤ k ∧ k < 6)) : ∀ (v : fw_V) (x4 : Int32), (mf_Mo_pulse_1_j129 v x4) c i k = v c i k := by
  intro v x4
  unfold mf_Mo_pulse_1_j129
  (try dsimp only)
  all_goals ((repeat' split) <;> (first | with_reducible rfl | (simp only [msend_c (c' := c) (by omega) (by omega) (by omega) (by omega) (by omega) (by omega) (by omega), mq1_Mo_pulse_1_j130 hc]; done)))
theorem mq1_Mo_pulse_1_j133 {c i k : Nat} (hc : c = 44 ∧ ¬ (3 ≤ k ∧ k < 6)) : ∀ (v : fw_V) (x4 : Int32) (x90 : Int32), (mf_Mo_pulse_1_j133 v x4 x90) c i k = v c i k := by
  intro v x4 x90
  unfold mf_Mo_pulse_1_j133
  (try dsimp only)
  all_goals ((repeat' split) <;> (first | with_reducible rfl | (simp only [fw_up_ne (c := 9) (i := 0) (k := 1) (c' := c) (i' := i) (k' := k) (by omega), msend_c (c' := c) (by omega) (by omega) (by omega) (by omega) (by omega) (by omega) (by omega), mq1_Mo_pulse_1_j131 hc, mq1_Mo_pulse_1_j132 hc]; done)))
theorem mq1_Mo_pulse_1_j128 {c i k : Nat} (hc : c = 44 ∧ ¬ (3 ≤ k ∧ k < 6)) : ∀ (v : fw_V), (mf_Mo_pulse_1_j128 v) c i k = v c i k := by
  intro v
  unfold mf_Mo_pulse_1_j128
  (try dsimp only)
  all_goals ((repeat' split) <;> (first | with_reducible rfl | (simp only [msend_c (c' := c) (by omega) (by omega) (by omega) (by omega) (by omega) (by omega) (by omega), mq1_Mo_pulse_1_j129 hc, mq1_Mo_pulse_1_j133 hc]; done)))
theorem mq1_Mo_pulse_1_j127 {c i k : Nat} (hc : c = 44 ∧ ¬ (3 ≤ k ∧ k < 6)) : ∀ (v : fw_V), (mf_Mo_pulse_1_j127 v) c i k = v c i k := by
  intro v
  unfold mf_Mo_pulse_1_j127
  (try dsimp only)
  all_goals ((repeat' split) <;> (first | with_reducible rfl | (simp only [msend_c (c' := c) (by omega) (by omega) (by omega) (by omega) (by omega) (by omega) (by omega), mq1_Mo_pulse_1_j128 hc]; done)))
theorem mq1_Mo_pulse_1_j3 {c i k : Nat} (hc : c = 44 ∧ ¬ (3 ≤ k ∧ k < 6)) : ∀ (v : fw_V) (x4 : Int32), (mf_Mo_pulse_1_j3 v x4) c i k = v c i k := by
  intro v x4
  unfold mf_Mo_pulse_1_j3
  (try dsimp only)
  all_goals ((repeat' split) <;> (first | with_reducible rfl | (simp only [fw_up_ne (c := 9) (i := 0) (k := 0) (c' := c) (i' := i) (k' := k) (by omega), msend_c (c' := c) (by omega) (by omega) (by omega) (by omega) (by omega) (by omega) (by omega), mq1_Mo_pulse_1_j4 hc, mq1_Mo_pulse_1_j127 hc]; done)))
theorem mq1_Mo_pulse_1_j2 {c i k : Nat} (hc : c = 44 ∧ ¬ (3 ≤ k ∧ k < 6)) : ∀ (v : fw_V) (x4 : Int32), (mf_Mo_pulse_1_j2 v x4) c i k = v c i k := by
  intro v x4
  unfold mf_Mo_pulse_1_j2
  (try dsimp only)
  all_goals ((repeat' split) <;> (first | with_reducible rfl | (simp only [msend_c (c' := c) (by omega) (by omega) (by omega) (by omega) (by omega) (by omega) (by omega), mq1_Mo_pulse_1_j3 hc]; done)))
theorem mq1_Mo_pulse_1_j134 {c i k : Nat} (hc : c = 44 ∧ ¬ (3 ≤ k ∧ k < 6)) : ∀ (v : fw_V) (x4 : Int32) (x90 : Int32), (mf_Mo_pulse_1_j134 v x4 x90) c i k = v c i k := by
  intro v x4 x90
  unfold mf_Mo_pulse_1_j134
  (try dsimp only)
  all_goals ((repeat' split) <;> (first | with_reducible rfl | (simp only [fw_up_ne (c := 9) (i := 0) (k := 0) (c' := c) (i' := i) (k' := k) (by omega), msend_c (c' := c) (by omega) (by omega) (by omega) (by omega) (by omega) (by omega) (by omega), mq1_Mo_pulse_1_j4 hc, mq1_Mo_pulse_1_j127 hc]; done)))
theorem mq1_Mo_pulse_1_j1 {c i k : Nat} (hc : c = 44 ∧ ¬ (3 ≤ k ∧ k < 6)) : ∀ (v : fw_V), (mf_Mo_pulse_1_j1 v) c i k = v c i k := by
  intro v
  unfold mf_Mo_pulse_1_j1
  (try dsimp only)
  all_goals ((repeat' split) <;> (first | with_reducible rfl | (simp only [msend_c (c' := c) (by omega) (by omega) (by omega) (by omega) (by omega) (by omega) (by omega), mq1_Mo_pulse_1_j2 hc, mq1_Mo_pulse_1_j134 hc]; done)))
theorem mq1_Mo_pulse_1 {c i k : Nat} (hc : c = 44 ∧ ¬ (3 ≤ k ∧ k < 6)) : ∀ (v0 : fw_V), (mf_Mo_pulse_1 v0) c i k = v0 c i k := by
  intro v0
  unfold mf_Mo_pulse_1
  (try dsimp only)
  all_goals ((repeat' split) <;> (first | with_reducible rfl | (simp only [fw_up_ne (c := 32) (i := 0) (k := 1) (c' := c) (i' := i) (k' := k) (by omega), fw_up_ne (c := 33) (i := 0) (k := 1) (c' := c) (i' := i) (k' := k) (by omega), fw_up_ne (c := 0) (i := 0) (k := 56) (c' := c) (i' := i) (k' := k) (by omega), msend_c (c' := c) (by omega) (by omega) (by omega) (by omega) (by omega) (by omega) (by omega), mq1_Mo_rest_1 hc, mq1_Mo_quit_1 hc, mq1_Mo_reply_1 hc, mq1_Mo_alarm_1 hc, mq1_Mo_pulse_1_j1 hc]; done)))
theorem mq1_Mo_obeys_1_j22 {c i k : Nat} (hc : c = 44 ∧ ¬ (3 ≤ k ∧ k < 6)) : ∀ (v : fw_V) (a2 : Int32) (a3 : Int32), (mf_Mo_obeys_1_j22 v a2 a3) c i k = v c i k := by
  intro v a2 a3
  unfold mf_Mo_obeys_1_j22
  (try dsimp only)
  all_goals ((repeat' split) <;> (first | with_reducible rfl | (simp only [msend_c (c' := c) (by omega) (by omega) (by omega) (by omega) (by omega) (by omega) (by omega)]; done)))
theorem mq1_Mo_obeys_1_j21 {c i k : Nat} (hc : c = 44 ∧ ¬ (3 ≤ k ∧ k < 6)) : ∀ (v : fw_V) (a2 : Int32) (a3 : Int32), (mf_Mo_obeys_1_j21 v a2 a3) c i k = v c i k := by
  intro v a2 a3
  unfold mf_Mo_obeys_1_j21
  (try dsimp only)
  all_goals ((repeat' split) <;> (first | with_reducible rfl | (simp only [msend_c (c' := c) (by omega) (by omega) (by omega) (by omega) (by omega) (by omega) (by omega), mq1_Mo_obeys_1_j22 hc]; done)))
theorem mq1_Mo_obeys_1_j23 {c i k : Nat} (hc : c = 44 ∧ ¬ (3 ≤ k ∧ k < 6)) : ∀ (v : fw_V) (a2 : Int32) (a3 : Int32), (mf_Mo_obeys_1_j23 v a2 a3) c i k = v c i k := by
  intro v a2 a3
  unfold mf_Mo_obeys_1_j23
  (try dsimp only)
  all_goals ((repeat' split) <;> (first | with_reducible rfl | (simp only [fw_up_ne (c := 46) (i := 0) (k := 11) (c' := c) (i' := i) (k' := k) (by omega), msend_c (c' := c) (by omega) (by omega) (by omega) (by omega) (by omega) (by omega) (by omega), mq1_Mo_obeys_1_j21 hc]; done)))
theorem mq1_Mo_obeys_1_j24 {c i k : Nat} (hc : c = 44 ∧ ¬ (3 ≤ k ∧ k < 6)) : ∀ (v : fw_V) (a2 : Int32) (a3 : Int32) (x90 : Int32), (mf_Mo_obeys_1_j24 v a2 a3 x90) c i k = v c i k := by
  intro v a2 a3 x90
  unfold mf_Mo_obeys_1_j24
  (try dsimp only)
  all_goals ((repeat' split) <;> (first | with_reducible rfl | (simp only [fw_up_ne (c := 46) (i := 0) (k := 11) (c' := c) (i' := i) (k' := k) (by omega), msend_c (c' := c) (by omega) (by omega) (by omega) (by omega) (by omega) (by omega) (by omega), mq1_Mo_obeys_1_j21 hc]; done)))
theorem mq1_Mo_obeys_1_j20 {c i k : Nat} (hc : c = 44 ∧ ¬ (3 ≤ k ∧ k < 6)) : ∀ (v : fw_V) (a2 : Int32) (a3 : Int32), (mf_Mo_obeys_1_j20 v a2 a3) c i k = v c i k := by
  intro v a2 a3
  unfold mf_Mo_obeys_1_j20
  (try dsimp only)
  all_goals ((repeat' split) <;> (first | with_reducible rfl | (simp only [msend_c (c' := c) (by omega) (by omega) (by omega) (by omega) (by omega) (by omega) (by omega), mq1_Mo_obeys_1_j21 hc, mq1_Mo_obeys_1_j23 hc, mq1_Mo_obeys_1_j24 hc]; done)))
theorem mq1_Mo_obeys_1_j19 {c i k : Nat} (hc : c = 44 ∧ ¬ (3 ≤ k ∧ k < 6)) : ∀ (v : fw_V) (a2 : Int32) (a3 : Int32), (mf_Mo_obeys_1_j19 v a2 a3) c i k = v c i k := by
  intro v a2 a3
  unfold mf_Mo_obeys_1_j19
  (try dsimp only)
  all_goals ((repeat' split) <;> (first | with_reducible rfl | (simp only [msend_c (c' := c) (by omega) (by omega) (by omega) (by omega) (by omega) (by omega) (by omega), mq1_Mo_obeys_1_j20 hc]; done)))
theorem mq1_Mo_obeys_1_j25 {c i k : Nat} (hc : c = 44 ∧ ¬ (3 ≤ k ∧ k < 6)) : ∀ (v : fw_V) (a2 : Int32) (a3 : Int32), (mf_Mo_obeys_1_j25 v a2 a3) c i k = v c i k := by
  intro v a2 a3
  unfold mf_Mo_obeys_1_j25
  (try dsimp only)
  all_goals ((repeat' split) <;> (first | with_reducible rfl | (simp only [fw_up_ne (c := 46) (i := 0) (k := 10) (c' := c) (i' := i) (k' := k) (by omega), msend_c (c' := c) (by omega) (by omega) (by omega) (by omega) (by omega) (by omega) (by omega), mq1_Mo_obeys_1_j19 hc]; done)))
theorem mq1_Mo_obeys_1_j26 {c i k : Nat} (hc : c = 44 ∧ ¬ (3 ≤ k ∧ k < 6)) : ∀ (v : fw_V) (a2 : Int32) (a3 : Int32) (x90 : Int32), (mf_Mo_obeys_1_j26 v a2 a3 x90) c i k = v c i k := by
  intro v a2 a3 x90
  unfold mf_Mo_obeys_1_j26
  (try dsimp only)
  all_goals ((repeat' split) <;> (first | with_reducible rfl | (simp only [fw_up_ne (c := 46) (i := 0) (k := 10) (c' := c) (i' := i) (k' := k) (by omega), msend_c (c' := c) (by omega) (by omega) (by omega) (by omega) (by omega) (by omega) (by omega), mq1_Mo_obeys_1_j19 hc]; done)))
theorem mq1_Mo_obeys_1_j18 {c i k : Nat} (hc : c = 44 ∧ ¬ (3 ≤ k ∧ k < 6)) : ∀ (v : fw_V) (a2 : Int32) (a3 : Int32), (mf_Mo_obeys_1_j18 v a2 a3) c i k = v c i k := by
  intro v a2 a3
  unfold mf_Mo_obeys_1_j18
  (try dsimp only)
  all_goals ((repeat' split) <;> (first | with_reducible rfl | (simp only [msend_c (c' := c) (by omega) (by omega) (by omega) (by omega) (by omega) (by omega) (by omega), mq1_Mo_obeys_1_j19 hc, mq1_Mo_obeys_1_j25 hc, mq1_Mo_obeys_1_j26 hc]; done)))
theorem mq1_Mo_obeys_1_j17 {c i k : Nat} (hc : c = 44 ∧ ¬ (3 ≤ k ∧ k < 6)) : ∀ (v : fw_V) (a2 : Int32) (a3 : Int32), (mf_Mo_obeys_1_j17 v a2 a3) c i k = v c i k := by
  intro v a2 a3
  unfold mf_Mo_obeys_1_j17
  (try dsimp only)
  all_goals ((repeat' split) <;> (first | with_reducible rfl | (simp only [msend_c (c' := c) (by omega) (by omega) (by omega) (by omega) (by omega) (by omega) (by omega), mq1_Mo_obeys_1_j18 hc]; done)))
theorem mq1_Mo_obeys_1_j27 {c i k : Nat} (hc : c = 44 ∧ ¬ (3 ≤ k ∧ k < 6)) : ∀ (v : fw_V) (a2 : Int32) (a3 : Int32), (mf_Mo_obeys_1_j27 v a2 a3) c i k = v c i k := by
  intro v a2 a3
  unfold mf_Mo_obeys_1_j27
  (try dsimp only)
  all_goals ((repeat' split) <;> (first | with_reducible rfl | (simp only [fw_up_ne (c := 46) (i := 0) (k := 9) (c' := c) (i' := i) (k' := k) (by omega), msend_c (c' := c) (by omega) (by omega) (by omega) (by omega) (by omega) (by omega) (by omega), mq1_Mo_obeys_1_j17 hc]; done)))
theorem mq1_Mo_obeys_1_j28 {c i k : Nat} (hc : c = 44 ∧ ¬ (3 ≤ k ∧ k < 6)) : ∀ (v : fw_V) (a2 : Int32) (a3 : Int32) (x90 : Int32), (mf_Mo_obeys_1_j28 v a2 a3 x90) c i k = v c i k := by
  intro v a2 a3 x90
  unfold mf_Mo_obeys_1_j28
  (try dsimp only)
  all_goals ((repeat' split) <;> (first | with_reducible rfl | (simp only [fw_up_ne (c := 46) (i := 0) (k := 9) (c' := c) (i' := i) (k' := k) (by omega), msend_c (c' := c) (by omega) (by omega) (by omega) (by omega) (by omega) (by omega) (by omega), mq1_Mo_obeys_1_j17 hc]; done)))
theorem mq1_Mo_obeys_1_j16 {c i k : Nat} (hc : c = 44 ∧ ¬ (3 ≤ k ∧ k < 6)) : ∀ (v : fw_V) (a2 : Int32) (a3 : Int32), (mf_Mo_obeys_1_j16 v a2 a3) c i k = v c i k := by
  intro v a2 a3
  unfold mf_Mo_obeys_1_j16
  (try dsimp only)
  all_goals ((repeat' split) <;> (first | with_reducible rfl | (simp only [msend_c (c' := c) (by omega) (by omega) (by omega) (by omega) (by omega) (by omega) (by omega), mq1_Mo_obeys_1_j17 hc, mq1_Mo_obeys_1_j27 hc, mq1_Mo_obeys_1_j28 hc]; done)))
theorem mq1_Mo_obeys_1_j15 {c i k : Nat} (hc : c = 44 ∧ ¬ (3 ≤ k ∧ k < 6)) : ∀ (v : fw_V) (a2 : Int32) (a3 : Int32), (mf_Mo_obeys_1_j15 v a2 a3) c i k = v c i k := by
  intro v a2 a3
  unfold mf_Mo_obeys_1_j15
  (try dsimp only)
  all_goals ((repeat' split) <;> (first | with_reducible rfl | (simp only [msend_c (c' := c) (by omega) (by omega) (by omega) (by omega) (by omega) (by omega) (by omega), mq1_Mo_obeys_1_j16 hc]; done)))
theorem mq1_Mo_obeys_1_j29 {c i k : Nat} (hc : c = 44 ∧ ¬ (3 ≤ k ∧ k < 6)) : ∀ (v : fw_V) (a2 : Int32) (a3 : Int32), (mf_Mo_obeys_1_j29 v a2 a3) c i k = v c i k := by
  intro v a2 a3
  unfold mf_Mo_obeys_1_j29
  (try dsimp only)
  all_goals ((repeat' split) <;> (first | with_reducible rfl | (simp only [fw_up_ne (c := 46) (i := 0) (k := 8) (c' := c) (i' := i) (k' := k) (by omega), msend_c (c' := c) (by omega) (by omega) (by omega) (by omega) (by omega) (by omega) (by omega), mq1_Mo_obeys_1_j15 hc]; done)))
theorem mq1_Mo_obeys_1_j30 {c i k : Nat} (hc : c = 44 ∧ ¬ (3 ≤ k ∧ k < 6)) : ∀ (v : fw_V) (a2 : Int32) (a3 : Int32) (x90 : Int32), (mf_Mo_obeys_1_j30 v a2 a3 x90) c i k = v c i k := by
  intro v a2 a3 x90
  unfold mf_Mo_obeys_1_j30
  (try dsimp only)
  all_goals ((repeat' split) <;> (first | with_reducible rfl | (simp only [fw_up_ne (c := 46) (i := 0) (k := 8) (c' := c) (i' := i) (k' := k) (by omega), msend_c (c' := c) (by omega) (by omega) (by omega) (by omega) (by omega) (by omega) (by omega), mq1_Mo_obeys_1_j15 hc]; done)))
theorem mq1_Mo_obeys_1_j14 {c i k : Nat} (hc : c = 44 ∧ ¬ (3 ≤ k ∧ k < 6)) : ∀ (v : fw_V) (a2 : Int32) (a3 : Int32), (mf_Mo_obeys_1_j14 v a2 a3) c i k = v c i k := by
  intro v a2 a3
  unfold mf_Mo_obeys_1_j14
  (try dsimp only)
  all_goals ((repeat' split) <;> (first | with_reducible rfl | (simp only [msend_c (c' := c) (by omega) (by omega) (by omega) (by omega) (by omega) (by omega) (by omega), mq1_Mo_obeys_1_j15 hc, mq1_Mo_obeys_1_j29 hc, mq1_Mo_obeys_1_j30 hc]; done)))
theorem mq1_Mo_obeys_1_j13 {c i k : Nat} (hc : c = 44 ∧ ¬ (3 ≤ k ∧ k < 6)) : ∀ (v : fw_V) (a2 : Int32) (a3 : Int32), (mf_Mo_obeys_1_j13 v a2 a3) c i k = v c i k := by
  intro v a2 a3
  unfold mf_Mo_obeys_1_j13
  (try dsimp only)
  all_goals ((repeat' split) <;> (first | with_reducible rfl | (simp only [msend_c (c' := c) (by omega) (by omega) (by omega) (by omega) (by omega) (by omega) (by omega), mq1_Mo_obeys_1_j14 hc]; done)))
theorem mq1_Mo_obeys_1_j31 {c i k : Nat} (hc : c = 44 ∧ ¬ (3 ≤ k ∧ k < 6)) : ∀ (v : fw_V) (a2 : Int32) (a3 : Int32), (mf_Mo_obeys_1_j31 v a2 a3) c i k = v c i k := by
  intro v a2 a3
  unfold mf_Mo_obeys_1_j31
  (try dsimp only)
  all_goals ((repeat' split) <;> (first | with_reducible rfl | (simp only [fw_up_ne (c := 46) (i := 0) (k := 7) (c' := c) (i' := i) (k' := k) (by omega), msend_c (c' := c) (by omega) (by omega) (by omega) (by omega) (by omega) (by omega) (by omega), mq1_Mo_obeys_1_j13 hc]; done)))
theorem mq1_Mo_obeys_1_j32 {c i k : Nat} (hc : c = 44 ∧ ¬ (3 ≤ k ∧ k < 6)) : ∀ (v : fw_V) (a2 : Int32) (a3 : Int32) (x90 : Int32), (mf_Mo_obeys_1_j32 v a2 a3 x90) c i k = v c i k := by
  intro v a2 a3 x90
  unfold mf_Mo_obeys_1_j32
  (try dsimp only)
  all_goals ((repeat' split) <;> (first | with_reducible rfl | (simp only [fw_up_ne (c := 46) (i := 0) (k := 7) (c' := c) (i' := i) (k' := k) (by omega), msend_c (c' := c) (by omega) (by omega) (by omega) (by omega) (by omega) (by omega) (by omega), mq1_Mo_obeys_1_j13 hc]; done)))
theorem mq1_Mo_obeys_1_j12 {c i k : Nat} (hc : c = 44 ∧ ¬ (3 ≤ k ∧ k < 6)) : ∀ (v : fw_V) (a2 : Int32) (a3 : Int32), (mf_Mo_obeys_1_j12 v a2 a3) c i k = v c i k := by
  intro v a2 a3
  unfold mf_Mo_obeys_1_j12
  (try dsimp only)
  all_goals ((repeat' split) <;> (first | with_reducible rfl | (simp only [msend_c (c' := c) (by omega) (by omega) (by omega) (by omega) (by omega) (by omega) (by omega), mq1_Mo_obeys_1_j13 hc, mq1_Mo_obeys_1_j31 hc, mq1_Mo_obeys_1_j32 hc]; done)))
theorem mq1_Mo_obeys_1_j11 {c i k : Nat} (hc : c = 44 ∧ ¬ (3 ≤ k ∧ k < 6)) : ∀ (v : fw_V) (a2 : Int32) (a3 : Int32), (mf_Mo_obeys_1_j11 v a2 a3) c i k = v c i k := by
  intro v a2 a3
  unfold mf_Mo_obeys_1_j11
  (try dsimp only)
  all_goals ((repeat' split) <;> (first | with_reducible rfl | (simp only [msend_c (c' := c) (by omega) (by omega) (by omega) (by omega) (by omega) (by omega) (by omega), mq1_Mo_obeys_1_j12 hc]; done)))
theorem mq1_Mo_obeys_1_j33 {c i k : Nat} (hc : c = 44 ∧ ¬ (3 ≤ k ∧ k < 6)) : ∀ (v : fw_V) (a2 : Int32) (a3 : Int32), (mf_Mo_obeys_1_j33 v a2 a3) c i k = v c i k := by
  intro v a2 a3
  unfold mf_Mo_obeys_1_j33
  (try dsimp only)
  all_goals ((repeat' split) <;> (first | with_reducible rfl | (simp only [fw_up_ne (c := 46) (i := 0) (k := 6) (c' := c) (i' := i) (k' := k) (by omega), msend_c (c' := c) (by omega) (by omega) (by omega) (by omega) (by omega) (by omega) (by omega), mq1_Mo_obeys_1_j11 hc]; done)))
theorem mq1_Mo_obeys_1_j34 {c i k : Nat} (hc : c = 44 ∧ ¬ (3 ≤ k ∧ k < 6)) : ∀ (v : fw_V) (a2 : Int32) (a3 : Int32) (x90 : Int32), (mf_Mo_obeys_1_j34 v a2 a3 x90) c i k = v c i k := by
  intro v a2 a3 x90
  unfold mf_Mo_obeys_1_j34
  (try dsimp only)
  all_goals ((repeat' split) <;> (first | with_reducible rfl | (simp only [fw_up_ne (c := 46) (i := 0) (k := 6) (c' := c) (i' := i) (k' := k) (by omega), msend_c (c' := c) (by omega) (by omega) (by omega) (by omega) (by omega) (by omega) (by omega), mq1_Mo_obeys_1_j11 hc]; done)))
theorem mq1_Mo_obeys_1_j10 {c i k : Nat} (hc : c = 44 ∧ ¬ (3 ≤ k ∧ k < 6)) : ∀ (v : fw_V) (a2 : Int32) (a3 : Int32), (mf_Mo_obeys_1_j10 v a2 a3) c i k = v c i k := by
  intro v a2 a3
  unfold mf_Mo_obeys_1_j10
  (try dsimp only)
  all_goals ((repeat' split) <;> (first | with_reducible rfl | (simp only [msend_c (c' := c) (by omega) (by omega) (by omega) (by omega) (by omega) (by omega) (by omega), mq1_Mo_obeys_1_j11 hc, mq1_Mo_obeys_1_j33 hc, mq1_Mo_obeys_1_j34 hc]; done)))
theorem mq1_Mo_obeys_1_j9 {c i k : Nat} (hc : c = 44 ∧ ¬ (3 ≤ k ∧ k < 6)) : ∀ (v : fw_V) (a2 : Int32) (a3 : Int32), (mf_Mo_obeys_1_j9 v a2 a3) c i k = v c i k := by
  intro v a2 a3
  unfold mf_Mo_obeys_1_j9
  (try dsimp only)
  all_goals ((repeat' split) <;> (first | with_reducible rfl | (simp only [msend_c (c' := c) (by omega) (by omega) (by omega) (by omega) (by omega) (by omega) (by omega)]; done)))
theorem mq1_Mo_obeys_1_j8 {c i k : Nat} (hc : c = 44 ∧ ¬ (3 ≤ k ∧ k < 6)) : ∀ (v : fw_V) (a2 : Int32) (a3 : Int32), (mf_Mo_obeys_1_j8 v a2 a3) c i k = v c i k := by
  intro v a2 a3
  unfold mf_Mo_obeys_1_j8
  (try dsimp only)
  all_goals ((repeat' split) <;> (first | with_reducible rfl | (simp only [fw_up_ne (c := 47) (i := 0) (k := 6) (c' := c) (i' := i) (k' := k) (by omega), fw_up_ne (c := 48) (i := 0) (k := 6) (c' := c) (i' := i) (k' := k) (by omega), msend_c (c' := c) (by omega) (by omega) (by omega) (by omega) (by omega) (by omega) (by omega), mq1_Mo_obeys_1_j9 hc]; done)))
theorem mq1_Mo_obeys_1_j7 {c i k : Nat} (hc : c = 44 ∧ ¬ (3 ≤ k ∧ k < 6)) : ∀ (v : fw_V) (a2 : Int32) (a3 : Int32), (mf_Mo_obeys_1_j7 v a2 a3) c i k = v c i k := by
  intro v a2 a3
  unfold mf_Mo_obeys_1_j7
  (try dsimp only)
  all_goals ((repeat' split) <;> (first | with_reducible rfl | (simp only [fw_up_ne (c := 47) (i := 0) (k := 5) (c' := c) (i' := i) (k' := k) (by omega), fw_up_ne (c := 48) (i := 0) (k := 5) (c' := c) (i' := i) (k' := k) (by omega), msend_c (c' := c) (by omega) (by omega) (by omega) (by omega) (by omega) (by omega) (by omega), mq1_Mo_obeys_1_j8 hc]; done)))
theorem mq1_Mo_obeys_1_j6 {c i k : Nat} (hc : c = 44 ∧ ¬ (3 ≤ k ∧ k < 6)) : ∀ (v : fw_V) (a2 : Int32) (a3 : Int32), (mf_Mo_obeys_1_j6 v a2 a3) c i k = v c i k := by
  intro v a2 a3
  unfold mf_Mo_obeys_1_j6
  (try dsimp only)
  all_goals ((repeat' split) <;> (first | with_reducible rfl | (simp only [fw_up_ne (c := 47) (i := 0) (k := 4) (c' := c) (i' := i) (k' := k) (by omega), fw_up_ne (c := 48) (i := 0) (k := 4) (c' := c) (i' := i) (k' := k) (by omega), msend_c (c' := c) (by omega) (by omega) (by omega) (by omega) (by omega) (by omega) (by omega), mq1_Mo_obeys_1_j7 hc]; done)))
theorem mq1_Mo_obeys_1_j44 {c i k : Nat} (hc : c = 44 ∧ ¬ (3 ≤ k ∧ k < 6)) : ∀ (v0 : fw_V) (a2 : Int32) (a3 : Int32), (mf_Mo_obeys_1_j44 v0 a2 a3) c i k = v0 c i k := by
  intro v0 a2 a3
  unfold mf_Mo_obeys_1_j44
  (try dsimp only)
  all_goals ((repeat' split) <;> (first | with_reducible rfl | (simp only [fw_up_ne (c := 28) (i := 0) (k := 1) (c' := c) (i' := i) (k' := k) (by omega), fw_up_ne (c := 32) (i := 0) (k := 1) (c' := c) (i' := i) (k' := k) (by omega), fw_up_ne (c := 33) (i := 0) (k := 1) (c' := c) (i' := i) (k' := k) (by omega), msend_c (c' := c) (by omega) (by omega) (by omega) (by omega) (by omega) (by omega) (by omega), mq1_Mo_reply_1 hc]; done)))
theorem mq1_Mo_obeys_1_j43 {c i k : Nat} (hc : c = 44 ∧ ¬ (3 ≤ k ∧ k < 6)) : ∀ (v0 : fw_V) (a2 : Int32) (a3 : Int32), (mf_Mo_obeys_1_j43 v0 a2 a3) c i k = v0 c i k := by
  intro v0 a2 a3
  unfold mf_Mo_obeys_1_j43
  (try dsimp only)
  all_goals ((repeat' split) <;> (first | with_reducible rfl | (simp only [msend_c (c' := c) (by omega) (by omega) (by omega) (by omega) (by omega) (by omega) (by omega), mq1_Mo_obeys_1_j44 hc]; done)))
theorem mq1_Mo_obeys_1_j42 {c i k : Nat} (hc : c = 44 ∧ ¬ (3 ≤ k ∧ k < 6)) : ∀ (v0 : fw_V) (a2 : Int32) (a3 : Int32), (mf_Mo_obeys_1_j42 v0 a2 a3) c i k = v0 c i k := by
  intro v0 a2 a3
  unfold mf_Mo_obeys_1_j42
  (try dsimp only)
  all_goals ((repeat' split) <;> (first | with_reducible rfl | (simp only [msend_c (c' := c) (by omega) (by omega) (by omega) (by omega) (by omega) (by omega) (by omega), mq1_Mo_obeys_1_j43 hc]; done)))
theorem mq1_Mo_obeys_1_j46 {c i k : Nat} (hc : c = 44 ∧ ¬ (3 ≤ k ∧ k < 6)) : ∀ (v0 : fw_V) (a2 : Int32) (a3 : Int32), (mf_Mo_obeys_1_j46 v0 a2 a3) c i k = v0 c i k := by
  intro v0 a2 a3
  unfold mf_Mo_obeys_1_j46
  (try dsimp only)
  all_goals ((repeat' split) <;> (first | with_reducible rfl | (simp only [msend_c (c' := c) (by omega) (by omega) (by omega) (by omega) (by omega) (by omega) (by omega), mq1_Mo_quit_1 hc]; done)))
theorem mq1_Mo_obeys_1_j45 {c i k : Nat} (hc : c = 44 ∧ ¬ (3 ≤ k ∧ k < 6)) : ∀ (v0 : fw_V) (a2 : Int32) (a3 : Int32), (mf_Mo_obeys_1_j45 v0 a2 a3) c i k = v0 c i k := by
  intro v0 a2 a3
  unfold mf_Mo_obeys_1_j45
  (try dsimp only)
  all_goals ((repeat' split) <;> (first | with_reducible rfl | (simp only [msend_c (c' := c) (by omega) (by omega) (by omega) (by omega) (by omega) (by omega) (by omega), mq1_Mo_obeys_1_j46 hc]; done)))
theorem mq1_Mo_obeys_1_j41 {c i k : Nat} (hc : c = 44 ∧ ¬ (3 ≤ k ∧ k < 6)) : ∀ (v0 : fw_V) (a2 : Int32) (a3 : Int32), (mf_Mo_obeys_1_j41 v0 a2 a3) c i k = v0 c i k := by
  intro v0 a2 a3
  unfold mf_Mo_obeys_1_j41
  (try dsimp only)
  all_goals ((repeat' split) <;> (first | with_reducible rfl | (simp only [msend_c (c' := c) (by omega) (by omega) (by omega) (by omega) (by omega) (by omega) (by omega), mq1_Mo_obeys_1_j42 hc, mq1_Mo_obeys_1_j45 hc]; done)))
theorem mq1_Mo_obeys_1_j40 {c i k : Nat} (hc : c = 44 ∧ ¬ (3 ≤ k ∧ k < 6)) : ∀ (v0 : fw_V) (a2 : Int32) (a3 : Int32), (mf_Mo_obeys_1_j40 v0 a2 a3) c i k = v0 c i k := by
  intro v0 a2 a3
  unfold mf_Mo_obeys_1_j40
  (try dsimp only)
  all_goals ((repeat' split) <;> (first | with_reducible rfl | (simp only [msend_c (c' := c) (by omega) (by omega) (by omega) (by omega) (by omega) (by omega) (by omega), mq1_Mo_obeys_1_j41 hc]; done)))
theorem mq1_Mo_obeys_1_j39 {c i k : Nat} (hc : c = 44 ∧ ¬ (3 ≤ k ∧ k < 6)) : ∀ (v0 : fw_V) (a2 : Int32) (a3 : Int32), (mf_Mo_obeys_1_j39 v0 a2 a3) c i k = v0 c i k := by
  intro v0 a2 a3
  unfold mf_Mo_obeys_1_j39
  (try dsimp only)
  all_goals ((repeat' split) <;> (first | with_reducible rfl | (simp only [msend_c (c' := c) (by omega) (by omega) (by omega) (by omega) (by omega) (by omega) (by omega), mq1_Mo_obeys_1_j40 hc]; done)))
theorem mq1_Mo_obeys_1_j50 {c i k : Nat} (hc : c = 44 ∧ ¬ (3 ≤ k ∧ k < 6)) : ∀ (v0 : fw_V) (a2 : Int32) (a3 : Int32), (mf_Mo_obeys_1_j50 v0 a2 a3) c i k = v0 c i k := by
  intro v0 a2 a3
  unfold mf_Mo_obeys_1_j50
  (try dsimp only)
  all_goals ((repeat' split) <;> (first | with_reducible rfl | (simp only [msend_c (c' := c) (by omega) (by omega) (by omega) (by omega) (by omega) (by omega) (by omega), mq1_Mo_obeys_1_j46 hc]; done)))
theorem mq1_Mo_obeys_1_j49 {c i k : Nat} (hc : c = 44 ∧ ¬ (3 ≤ k ∧ k < 6)) : ∀ (v0 : fw_V) (a2 : Int32) (a3 : Int32), (mf_Mo_obeys_1_j49 v0 a2 a3) c i k = v0 c i k := by
  intro v0 a2 a3
  unfold mf_Mo_obeys_1_j49
  (try dsimp only)
  all_goals ((repeat' split) <;> (first | with_reducible rfl | (simp only [msend_c (c' := c) (by omega) (by omega) (by omega) (by omega) (by omega) (by omega) (by omega), mq1_Mo_obeys_1_j50 hc]; done)))
theorem mq1_Mo_obeys_1_j51 {c i k : Nat} (hc : c = 44 ∧ ¬ (3 ≤ k ∧ k < 6)) : ∀ (v0 : fw_V) (a2 : Int32) (a3 : Int32), (mf_Mo_obeys_1_j51 v0 a2 a3) c i k = v0 c i k := by
  intro v0 a2 a3
  unfold mf_Mo_obeys_1_j51
  (try dsimp only)
  all_goals ((repeat' split) <;> (first | with_reducible rfl | (simp only [msend_c (c' := c) (by omega) (by omega) (by omega) (by omega) (by omega) (by omega) (by omega), mq1_Mo_obeys_1_j46 hc]; done)))
theorem mq1_Mo_obeys_1_j48 {c i k : Nat} (hc : c = 44 ∧ ¬ (3 ≤ k ∧ k < 6)) : ∀ (v0 : fw_V) (a2 : Int32) (a3 : Int32), (mf_Mo_obeys_1_j48 v0 a2 a3) c i k = v0 c i k := by
  intro v0 a2 a3
  unfold mf_Mo_obeys_1_j48
  (try dsimp only)
  all_goals ((repeat' split) <;> (first | with_reducible rfl | (simp only [msend_c (c' := c) (by omega) (by omega) (by omega) (by omega) (by omega) (by omega) (by omega), mq1_Mo_obeys_1_j49 hc, mq1_Mo_obeys_1_j51 hc]; done)))
theorem mq1_Mo_obeys_1_j47 {c i k : Nat} (hc : c = 44 ∧ ¬ (3 ≤ k ∧ k < 6)) : ∀ (v0 : fw_V) (a2 : Int32) (a3 : Int32), (mf_Mo_obeys_1_j47 v0 a2 a3) c i k = v0 c i k := by
  intro v0 a2 a3
  unfold mf_Mo_obeys_1_j47
  (try dsimp only)
  all_goals ((repeat' split) <;> (first | with_reducible rfl | (simp only [msend_c (c' := c) (by omega) (by omega) (by omega) (by omega) (by omega) (by omega) (by omega), mq1_Mo_obeys_1_j48 hc]; done)))
theorem mq1_Mo_obeys_1_j38 {c i k : Nat} (hc : c = 44 ∧ ¬ (3 ≤ k ∧ k < 6)) : ∀ (v0 : fw_V) (a2 : Int32) (a3 : Int32), (mf_Mo_obeys_1_j38 v0 a2 a3) c i k = v0 c i k := by
  intro v0 a2 a3
  unfold mf_Mo_obeys_1_j38
  (try dsimp only)
  all_goals ((repeat' split) <;> (first | with_reducible rfl | (simp only [msend_c (c' := c) (by omega) (by omega) (by omega) (by omega) (by omega) (by omega) (by omega), mq1_Mo_obeys_1_j39 hc, mq1_Mo_obeys_1_j47 hc]; done)))
theorem mq1_Mo_obeys_1_j37 {c i k : Nat} (hc : c = 44 ∧ ¬ (3 ≤ k ∧ k < 6)) : ∀ (v0 : fw_V) (a2 : Int32) (a3 : Int32), (mf_Mo_obeys_1_j37 v0 a2 a3) c i k = v0 c i k := by
  intro v0 a2 a3
  unfold mf_Mo_obeys_1_j37
  (try dsimp only)
  all_goals ((repeat' split) <;> (first | with_reducible rfl | (simp only [msend_c (c' := c) (by omega) (by omega) (by omega) (by omega) (by omega) (by omega) (by omega), mq1_Mo_obeys_1_j38 hc]; done)))
theorem mq1_Mo_obeys_1_j36 {c i k : Nat} (hc : c = 44 ∧ ¬ (3 ≤ k ∧ k < 6)) : ∀ (v0 : fw_V) (a2 : Int32) (a3 : Int32), (mf_Mo_obeys_1_j36 v0 a2 a3) c i k = v0 c i k := by
  intro v0 a2 a3
  unfold mf_Mo_obeys_1_j36
  (try dsimp only)
  all_goals ((repeat' split) <;> (first | with_reducible rfl | (simp only [msend_c (c' := c) (by omega) (by omega) (by omega) (by omega) (by omega) (by omega) (by omega), mq1_Mo_obeys_1_j37 hc]; done)))
theorem mq1_Mo_obeys_1_j55 {c i k : Nat} (hc : c = 44 ∧ ¬ (3 ≤ k ∧ k < 6)) : ∀ (v0 : fw_V) (a2 : Int32) (a3 : Int32), (mf_Mo_obeys_1_j55 v0 a2 a3) c i k = v0 c i k := by
  intro v0 a2 a3
  unfold mf_Mo_obeys_1_j55
  (try dsimp only)
  all_goals ((repeat' split) <;> (first | with_reducible rfl | (simp only [msend_c (c' := c) (by omega) (by omega) (by omega) (by omega) (by omega) (by omega) (by omega), mq1_Mo_obeys_1_j48 hc]; done)))
theorem mq1_Mo_obeys_1_j54 {c i k : Nat} (hc : c = 44 ∧ ¬ (3 ≤ k ∧ k < 6)) : ∀ (v0 : fw_V) (a2 : Int32) (a3 : Int32), (mf_Mo_obeys_1_j54 v0 a2 a3) c i k = v0 c i k := by
  intro v0 a2 a3
  unfold mf_Mo_obeys_1_j54
  (try dsimp only)
  all_goals ((repeat' split) <;> (first | with_reducible rfl | (simp only [msend_c (c' := c) (by omega) (by omega) (by omega) (by omega) (by omega) (by omega) (by omega), mq1_Mo_obeys_1_j55 hc]; done)))
theorem mq1_Mo_obeys_1_j56 {c i k : Nat} (hc : c = 44 ∧ ¬ (3 ≤ k ∧ k < 6)) : ∀ (v0 : fw_V) (a2 : Int32) (a3 : Int32), (mf_Mo_obeys_1_j56 v0 a2 a3) c i k = v0 c i k := by
  intro v0 a2 a3
  unfold mf_Mo_obeys_1_j56
  (try dsimp only)
  all_goals ((repeat' split) <;> (first | with_reducible rfl | (simp only [msend_c (c' := c) (by omega) (by omega) (by omega) (by omega) (by omega) (by omega) (by omega), mq1_Mo_obeys_1_j48 hc]; done)))
theorem mq1_Mo_obeys_1_j53 {c i k : Nat} (hc : c = 44 ∧ ¬ (3 ≤ k ∧ k < 6)) : ∀ (v0 : fw_V) (a2 : Int32) (a3 : Int32), (mf_Mo_obeys_1_j53 v0 a2 a3) c i k = v0 c i k := by
  intro v0 a2 a3
  unfold mf_Mo_obeys_1_j53
  (try dsimp only)
  all_goals ((repeat' split) <;> (first | with_reducible rfl | (simp only [msend_c (c' := c) (by omega) (by omega) (by omega) (by omega) (by omega) (by omega) (by omega), mq1_Mo_obeys_1_j54 hc, mq1_Mo_obeys_1_j56 hc]; done)))
theorem mq1_Mo_obeys_1_j52 {c i k : Nat} (hc : c = 44 ∧ ¬ (3 ≤ k ∧ k < 6)) : ∀ (v0 : fw_V) (a2 : Int32) (a3 : Int32), (mf_Mo_obeys_1_j52 v0 a2 a3) c i k = v0 c i k := by
  intro v0 a2 a3
  unfold mf_Mo_obeys_1_j52
  (try dsimp only)
  all_goals ((repeat' split) <;> (first | with_reducible rfl | (simp only [msend_c (c' := c) (by omega) (by omega) (by omega) (by omega) (by omega) (by omega) (by omega), mq1_Mo_obeys_1_j53 hc]; done)))
theorem mq1_Mo_obeys_1_j35 {c i k : Nat} (hc : c = 44 ∧ ¬ (3 ≤ k ∧ k < 6)) : ∀ (v0 : fw_V) (a2 : Int32) (a3 : Int32), (mf_Mo_obeys_1_j35 v0 a2 a3) c i k = v0 c i k := by
  intro v0 a2 a3
  unfold mf_Mo_obeys_1_j35
  (try dsimp only)
  all_goals ((repeat' split) <;> (first | with_reducible rfl | (simp only [msend_c (c' := c) (by omega) (by omega) (by omega) (by omega) (by omega) (by omega) (by omega), mq1_Mo_obeys_1_j36 hc, mq1_Mo_obeys_1_j52 hc]; done)))

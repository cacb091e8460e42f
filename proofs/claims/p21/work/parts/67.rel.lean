/-- the ALARMS told, as both hold them -/
def Lg (B : Nat) (v w : fw_V) : Prop := ∃ t, t ≤ B ∧ v 9 0 1 = nI t ∧ w 0 0 55 = nI t ∧ ∀ k, k < 8 → k < t → w 49 0 k = v 10 0 ((t - 1 - k) % 8)
theorem Lg_cg {B : Nat} {v w v' w' : fw_V} (h : Lg B v w) (hv : ∀ c k, c = 9 ∨ c = 10 → v' c 0 k = v c 0 k) (h0 : w' 0 0 55 = w 0 0 55) (hw : ∀ k, w' 49 0 k = w 49 0 k) : Lg B v' w' := by
  obtain ⟨t, h1, h2, h3, h4⟩ := h
  exact ⟨t, h1, by rw [hv 9 1 (Or.inl rfl)]; exact h2, by rw [h0]; exact h3, fun k q1 q2 => by rw [hw, hv 10 _ (Or.inr rfl)]; exact h4 k q1 q2⟩
theorem Lg_mono {B B' : Nat} {v w : fw_V} (h : Lg B v w) (hb : B ≤ B') : Lg B' v w := by
  obtain ⟨t, h1, h2⟩ := h
  exact ⟨t, by omega, h2⟩
theorem rem8 {t : Nat} (h : t < 2 ^ 31) : (nI t - nI t / (8 : Int32) * (8 : Int32)).toNatClampNeg = t % 8 := by
  show (nI t - nI t / nI 8 * nI 8).toNatClampNeg = _
  rw [pk_rem h (by decide) (by decide), nI_clamp (by omega)]
/-- an ALARM is told to both -/
theorem Lg_tell {B : Nat} {v w v' w' : fw_V} {x : Int32} (h : Lg B v w) (hB : B < 2 ^ 30) (hv9 : v' 9 0 1 = v 9 0 1 + 1) (hv10 : ∀ k, v' 10 0 k = if k = (v 9 0 1 - v 9 0 1 / (8 : Int32) * (8 : Int32)).toNatClampNeg then x else v 10 0 k) (hw55 : w' 0 0 55 = w 0 0 55 + 1) (hw0 : w' 49 0 0 = x) (hws : ∀ k, k < 7 → w' 49 0 (k + 1) = w 49 0 k) : Lg (B + 1) v' w' := by
  obtain ⟨t, h1, h2, h3, h4⟩ := h
  refine ⟨t + 1, by omega, by rw [hv9, h2, nI_1], by rw [hw55, h3, nI_1], fun k q1 q2 => ?_⟩
  rw [hv10, h2, rem8 (by omega)]
  by_cases hk : k = 0
  · subst hk
    rw [if_pos (by omega), hw0]
  · obtain ⟨j, rfl⟩ : ∃ j, k = j + 1 := ⟨k - 1, by omega⟩
    rw [if_neg (by omega), hws j (by omega), h4 j (by omega) (by omega)]
    rw [show t + 1 - 1 - (j + 1) = t - 1 - j by omega]

def RB_0 (B : Nat) (v w : fw_V) : Prop := (Rl 0 v w) ∧ (Ri 0 w) ∧ (Wr v w) ∧ (At w) ∧ (Lg B v w)
theorem RB_0.rl {B : Nat} {v w : fw_V} (h : RB_0 B v w) : Rl 0 v w := h.1
theorem RB_0.ri {B : Nat} {v w : fw_V} (h : RB_0 B v w) : Ri 0 w := h.2.1
theorem RB_0.wr {B : Nat} {v w : fw_V} (h : RB_0 B v w) : Wr v w := h.2.2.1
theorem RB_0.at {B : Nat} {v w : fw_V} (h : RB_0 B v w) : At w := h.2.2.2.1
theorem RB_0.lg {B : Nat} {v w : fw_V} (h : RB_0 B v w) : Lg B v w := h.2.2.2.2
theorem RB_ask_0 {B : Nat} {v w v' w' : fw_V} (h : Rl 0 v' w' ∧ Ri 0 w' ∧ Wr v' w' ∧ At w') (hl : Lg B v w) (hv : ∀ c k, c = 9 ∨ c = 10 → v' c 0 k = v c 0 k) (h0 : w' 0 0 55 = w 0 0 55) (hw : ∀ k, w' 49 0 k = w 49 0 k) : RB_0 B v' w' := ⟨h.1, h.2.1, h.2.2.1, h.2.2.2, Lg_cg hl hv h0 hw⟩
theorem RB_shut_0 {B : Nat} {v w : fw_V} (h : RB_0 B v w) : RB_0 B (xf_Re_shut v 0) (mf_Mo_shut_0 w) :=
  ⟨(Rl_shut_0 h.rl).1, (Rl_shut_0 h.rl).2, Wr_shut_0 h.wr, At_shut_0 h.at, Lg_cg h.lg (fun c k hc => xl_Re_shut hc v 0) (mz55_Mo_shut_0 rfl w) (fun k => ml_Mo_shut_0 rfl w)⟩
theorem Lg_send_0 {B : Nat} {v w : fw_V} {a b c d a' b' c' d' : Int32} (h : Lg B v w) : Lg B (xf_Wi_send v a b c d).2 (mf_Mo_send w a' b' c' d') :=
  Lg_cg h (fun c k hc => xsend_c (by omega) (by omega) (by omega)) (msend_0k (by decide) (by decide) (by decide)) (fun k => msend_c (by decide) (by decide) (by decide) (by decide) (by decide) (by decide) (by decide))
theorem newer_0 {n l : Int32} {x : fw_V} {q : Nat} (hl : l = -1 ∨ vp_in l 256) (e : x 14 q 1 = l) : xf_Cy_takes x q n = if mf_Mo_isNewer n l = 0 then (0, x) else (1, fw_up x 14 q 1 n) := by
  unfold xf_Cy_takes mf_Mo_isNewer
  simp only [xw_is, e]
  rcases hl with rfl | hl
  · simp
  · have h1 : ¬ l = -1 := fun q => by
      have := vp_in_iff.mp hl
      rw [q, show (-1 : Int32).toInt = -1 from by decide] at this
      omega
    have h2 : ¬ l < 0 := fun q => by
      have := vp_in_iff.mp hl
      rw [Int32.lt_iff_toInt_lt, show (0 : Int32).toInt = 0 from rfl] at q
      omega
    rw [if_neg h1, if_neg h2]
    rcases mis_01 ((n - l) &&& 255) 1 127 with b | b <;> simp [b]

def RB_1 (B : Nat) (v w : fw_V) : Prop := (Rl 1 v w) ∧ (Ri 1 w) ∧ (Wr v w) ∧ (At w) ∧ (Lg B v w)
theorem RB_1.rl {B : Nat} {v w : fw_V} (h : RB_1 B v w) : Rl 1 v w := h.1
theorem RB_1.ri {B : Nat} {v w : fw_V} (h : RB_1 B v w) : Ri 1 w := h.2.1
theorem RB_1.wr {B : Nat} {v w : fw_V} (h : RB_1 B v w) : Wr v w := h.2.2.1
theorem RB_1.at {B : Nat} {v w : fw_V} (h : RB_1 B v w) : At w := h.2.2.2.1
theorem RB_1.lg {B : Nat} {v w : fw_V} (h : RB_1 B v w) : Lg B v w := h.2.2.2.2
theorem RB_ask_1 {B : Nat} {v w v' w' : fw_V} (h : Rl 1 v' w' ∧ Ri 1 w' ∧ Wr v' w' ∧ At w') (hl : Lg B v w) (hv : ∀ c k, c = 9 ∨ c = 10 → v' c 0 k = v c 0 k) (h0 : w' 0 0 55 = w 0 0 55) (hw : ∀ k, w' 49 0 k = w 49 0 k) : RB_1 B v' w' := ⟨h.1, h.2.1, h.2.2.1, h.2.2.2, Lg_cg hl hv h0 hw⟩
theorem RB_shut_1 {B : Nat} {v w : fw_V} (h : RB_1 B v w) : RB_1 B (xf_Re_shut v 1) (mf_Mo_shut_1 w) :=
  ⟨(Rl_shut_1 h.rl).1, (Rl_shut_1 h.rl).2, Wr_shut_1 h.wr, At_shut_1 h.at, Lg_cg h.lg (fun c k hc => xl_Re_shut hc v 1) (mz55_Mo_shut_1 rfl w) (fun k => ml_Mo_shut_1 rfl w)⟩
theorem Lg_send_1 {B : Nat} {v w : fw_V} {a b c d a' b' c' d' : Int32} (h : Lg B v w) : Lg B (xf_Wi_send v a b c d).2 (mf_Mo_send w a' b' c' d') :=
  Lg_cg h (fun c k hc => xsend_c (by omega) (by omega) (by omega)) (msend_0k (by decide) (by decide) (by decide)) (fun k => msend_c (by decide) (by decide) (by decide) (by decide) (by decide) (by decide) (by decide))
theorem newer_1 {n l : Int32} {x : fw_V} {q : Nat} (hl : l = -1 ∨ vp_in l 256) (e : x 14 q 1 = l) : xf_Cy_takes x q n = if mf_Mo_isNewer n l = 0 then (0, x) else (1, fw_up x 14 q 1 n) := by
  unfold xf_Cy_takes mf_Mo_isNewer
  simp only [xw_is, e]
  rcases hl with rfl | hl
  · simp
  · have h1 : ¬ l = -1 := fun q => by
      have := vp_in_iff.mp hl
      rw [q, show (-1 : Int32).toInt = -1 from by decide] at this
      omega
    have h2 : ¬ l < 0 := fun q => by
      have := vp_in_iff.mp hl
      rw [Int32.lt_iff_toInt_lt, show (0 : Int32).toInt = 0 from rfl] at q
      omega
    rw [if_neg h1, if_neg h2]
    rcases mis_01 ((n - l) &&& 255) 1 127 with b | b <;> simp [b]

theorem Re_found_0 {B : Nat} {v w : fw_V} {q : Nat} {n : Int32} (h : RB_0 B v w) (f2 : v 7 q 2 = n) (f8 : ∀ t, t < 7 → v 8 q t = w 10 0 t) : RB_0 B (xf_Re_deviceFound v 0 q) (if w 12 0 0 = (1 : Int32) then (if w 14 0 0 = w 10 0 0 then mf_Mo_ask_0 (fw_up (mf_Mo_enter_0 w (2 : Int32)) 15 0 0 n) else w) else w) := by
  unfold xf_Re_deviceFound
  rw [h.rl.st]
  by_cases hs : w 12 0 0 = 1
  · rw [if_pos hs, if_pos hs, f8 0 (by decide), h.rl.nm]
    by_cases hn : w 14 0 0 = w 10 0 0
    · rw [if_pos hn, if_pos hn.symm]
      dsimp only
      rw [f2]
      have hR := h.rl
      have hI := h.ri
      refine RB_ask_0 (Re_ask_0 ?_ ?_ ?_ ?_ ?_ ?_) h.lg (fun c k hc => ?_) ?_ (fun k => ?_)
      · unfold xf_Re_enter mf_Mo_enter_0
        refine ⟨?_, ?_, ?_, ?_, ?_, ?_, ?_, ?_, ?_, ?_, ?_, ?_, ?_, ?_, ?_, ?_, ?_⟩ <;> simp [fw_up]
        · exact hR.ix
        · exact hR.nm
        · exact hR.se
        · exact hR.di (by rw [hs]; decide)
        · exact hR.go
        · exact hR.to
        · simpa using hR.ex
        · simpa using hR.pa
        · simpa using hR.gi
        · simpa using hR.gt
      · unfold mf_Mo_enter_0
        have g := hI.g6 (by rw [hs]; decide)
        refine ⟨?_, ?_, ?_, ?_, ?_, ?_, ?_, ?_, ?_⟩ <;> simp [fw_up]
        · exact fw_inc (by decide)
        · exact g
        · exact ⟨fw_inc (by decide), fw_inc (by decide)⟩
      · unfold xf_Re_enter mf_Mo_enter_0
        refine Wr_cg h.wr (fun c i k q1 q2 => ?_) ⟨?_, ?_, ?_⟩ (fun c k q1 q2 => ?_)
        · rw [fw_up_c (by omega), fw_up_c (by omega), fw_up_c (by omega), fw_up_c (by omega)]
        · simp [fw_up]
        · simp [fw_up]
        · simp [fw_up]
        · rw [fw_up_c (by omega), fw_up_c (by omega), fw_up_c (by omega), fw_up_c (by omega)]
      · intro t ht
        unfold mf_Mo_enter_0
        rw [fw_up_c (by decide), fw_up_c (by decide), fw_up_c (by decide), fw_up_c (by decide)]
        exact h.at t ht
      · unfold mf_Mo_enter_0; simp [fw_up]
      · unfold xf_Re_enter; simp [fw_up]
      · rw [xl_Re_sendRequest hc, xl_Re_enter hc, fw_up_c (by omega)]
      · rw [mz55_Mo_ask_0 rfl, fw_up_c (by decide), mz55_Mo_enter_0 rfl]
      · rw [ml_Mo_ask_0 rfl, fw_up_c (by decide), ml_Mo_enter_0 rfl]
    · rw [if_neg hn, if_neg (fun q => hn q.symm)]
      exact h
  · rw [if_neg hs, if_neg hs]
    exact h
theorem Re_acc_0 {B : Nat} {v w : fw_V} {n : Int32} (h : RB_0 B v w) (hK : Kd v w) (hE : ∀ s, s < 3 → vp_in (w 24 0 (3 * 0 + s) + 1) 9) : RB_0 B (xf_Re_accepted v 0 n) (mf_Mo_hears_0 w 4 n) := by
  unfold xf_Re_accepted
  rw [h.rl.st]
  have hR := h.rl
  have hI := h.ri
  by_cases hs : w 12 0 0 = 2
  · rw [if_pos hs, hears4_0 hs]
    unfold xf_Re_goOnWriting mf_Mo_write_0
    dsimp only
    refine RB_ask_0 (Re_write_0 5 6 0 (fw_up v 13 0 13 n) (fw_up w 16 0 0 n) 0 0 (by decide) (by decide) (by decide) ?_ ?_ ?_ ?_ ?_ ?_ ?_ ?_) h.lg (fun c k hc => ?_) ?_ (fun k => ?_)
    · refine ⟨?_, ?_, ?_, ?_, ?_, ?_, ?_, ?_, ?_, ?_, ?_, ?_, ?_, ?_, ?_, ?_, ?_⟩ <;> simp [fw_up]
      · exact hR.ix
      · exact hR.nm
      · exact hR.st
      · exact hR.se
      · exact hR.fo
      · exact hR.go
      · exact hR.ti
      · exact hR.ag
      · exact hR.sl
      · exact hR.ne
      · exact hR.ta
      · exact hR.to
      · simpa using hR.ex
      · simpa using hR.pa
      · simpa using hR.gi
      · simpa using hR.gt
    · have := hI
      unfold Ri at this ⊢
      simpa [fw_up, hs] using this
    · exact Wr_cg h.wr (fun c i k q1 q2 => fw_up_c (by omega)) ⟨fw_up_c (by decide), fw_up_c (by decide), fw_up_c (by decide)⟩ (fun c k q1 q2 => fw_up_c (by omega))
    · exact fun t ht => by rw [fw_up_c (by decide)]; exact h.at t ht
    · exact ⟨fun k hk => by rw [fw_up_c (by decide), fw_up_c (by decide)]; exact hK.ki k hk, fun k hk => by rw [fw_up_c (by decide), fw_up_c (by decide)]; exact hK.ko k hk, fun k hk => by rw [fw_up_c (by decide), fw_up_c (by decide)]; exact hK.kn k hk⟩
    · exact fun s hs => by rw [fw_up_c (by decide)]; exact hE s hs
    · simp [fw_up]
    · rw [fw_up_c (by decide), hs]; decide
    · rw [xl_Re_sendRequest hc, xl_Re_goOnWriting_j1 hc, fw_up_c (by omega)]
    · exact (mz55_Mo_write_0_j1 rfl _ _ _ _).trans (fw_up_c (by decide))
    · exact (ml_Mo_write_0_j1 rfl _ _ _ _).trans (fw_up_c (by decide))
  · rw [if_neg hs, hears4n_0 hs]
    exact h
theorem Re_wri_0 {B : Nat} {v w : fw_V} {n : Int32} (h : RB_0 B v w) (hK : Kd v w) (hE : ∀ s, s < 3 → vp_in (w 24 0 (3 * 0 + s) + 1) 9) : RB_0 B (xf_Re_written v 0 n) (mf_Mo_hears_0 w 7 n) := by
  unfold xf_Re_written
  rw [h.rl.st, hears7_0]
  by_cases hs : w 12 0 0 = 3
  · rw [if_pos hs, if_pos hs, h.rl.sl hs]
    by_cases hn : n = w 20 0 0
    · rw [if_pos hn, if_pos hn]
      unfold xf_Re_goOnWriting mf_Mo_write_0
      dsimp only
      obtain ⟨s, h3, es⟩ := vp_in_of (h.ri.w3 hs) (by decide)
      rw [hn, es, nI_1]
      refine RB_ask_0 (Re_write_0 5 6 (s + 1) v w (nI (s + 1)) (nI (s + 1)) (by omega) (by omega) (by omega) h.rl h.ri h.wr h.at hK hE (h.rl.di (by rw [hs]; decide)) (by rw [hs]; decide)) h.lg (fun c k hc => ?_) ?_ (fun k => ?_)
      · rw [xl_Re_sendRequest hc, xl_Re_goOnWriting_j1 hc]
      · exact mz55_Mo_write_0_j1 rfl _ _ _ _
      · exact ml_Mo_write_0_j1 rfl _ _ _ _
    · rw [if_neg hn, if_neg hn]
      exact h
  · rw [if_neg hs, if_neg hs]
    exact h
theorem Re_end_0 {B : Nat} {v w : fw_V} {n : Int32} (h : RB_0 B v w) : RB_0 B (xf_Re_ended v 0) (mf_Mo_hears_0 w 9 n) := by
  unfold xf_Re_ended
  rw [h.rl.st, hears9_0]
  have hR := h.rl
  by_cases hs : w 12 0 0 = 4
  · rw [if_pos hs, if_pos hs]
    dsimp only
    refine ⟨Rl_enter_0 hR (fun _ => hR.di (by rw [hs]; decide)) (fun q => absurd q (by decide)) (fun q => absurd q (by decide)), ?_, ?_, ?_, ?_⟩
    · have g := h.ri.g6 (by rw [hs]; decide)
      unfold mf_Mo_enter_0
      refine ⟨?_, ?_, ?_, ?_, ?_, ?_, ?_, ?_, ?_⟩ <;> simp [fw_up]
      · exact fw_inc (by decide)
      · exact g
      · exact fw_inc (by decide)
    · unfold xf_Re_enter mf_Mo_enter_0
      refine Wr_cg h.wr (fun c i k q1 q2 => ?_) ⟨?_, ?_, ?_⟩ (fun c k q1 q2 => ?_)
      · rw [fw_up_c (by omega), fw_up_c (by omega), fw_up_c (by omega)]
      · simp [fw_up]
      · simp [fw_up]
      · simp [fw_up]
      · rw [fw_up_c (by omega), fw_up_c (by omega), fw_up_c (by omega)]
    · intro t ht
      unfold mf_Mo_enter_0
      rw [fw_up_c (by decide), fw_up_c (by decide), fw_up_c (by decide)]
      exact h.at t ht
    · exact Lg_cg h.lg (fun c k hc => xl_Re_enter hc _ _ _) (mz55_Mo_enter_0 rfl _ _) (fun k => ml_Mo_enter_0 rfl _ _)
  · rw [if_neg hs, if_neg hs]
    exact h
theorem Re_rdy_0 {B : Nat} {v w : fw_V} {n : Int32} (h : RB_0 B v w) : RB_0 B (xf_Re_deviceReady v 0) (mf_Mo_hears_0 w 10 n) := by
  have hR := h.rl
  have hI := h.ri
  unfold xf_Re_deviceReady
  rw [h.rl.st, hears10_0]
  by_cases h5 : w 12 0 0 = 5
  · rw [if_pos h5, if_neg (by rw [h5]; decide), if_neg (by rw [h5]; decide)]
    dsimp only
    have eS : xf_Re_enter (xf_Cy_restart v 0) 0 6 13 0 11 = v 13 0 11 := by simp [xf_Re_enter, xf_Cy_restart, fw_up]
    have eF : xf_Re_enter (xf_Cy_restart v 0) 0 6 13 0 12 = v 13 0 12 := by simp [xf_Re_enter, xf_Cy_restart, fw_up]
    rw [eS, eF]
    have wv : Wr (xf_Re_enter (xf_Cy_restart v 0) 0 6) w := Wr_cg h.wr (fun c i k q1 q2 => by unfold xf_Re_enter xf_Cy_restart; rw [fw_up_c (by omega), fw_up_c (by omega), fw_up_c (by omega), fw_up_c (by omega), fw_up_c (by omega)]) ⟨rfl, rfl, rfl⟩ (fun _ _ _ _ => rfl)
    have wS := Wr_s0 (a' := 11) (b' := w 13 0 0) (c' := 0) (d' := w 15 0 0) (a := 11) (b := v 13 0 11) (c := 0) (d := v 13 0 12) wv h.at rfl hR.se.symm rfl hR.fo.symm
    have ms : ∀ c k, 12 ≤ c → c ≤ 27 → mf_Mo_send w 11 (w 13 0 0) 0 (w 15 0 0) c 0 k = w c 0 k := fun c k q1 q2 => msend_c (by omega) (by omega) (by omega) (by omega) (by omega) (by omega) (by omega)
    have xs : ∀ c k, 13 ≤ c → c ≤ 18 → (xf_Wi_send (xf_Re_enter (xf_Cy_restart v 0) 0 6) 11 (v 13 0 11) 0 (v 13 0 12)).2 c 0 k = xf_Re_enter (xf_Cy_restart v 0) 0 6 c 0 k := fun c k q1 q2 => xsend_c (by omega) (by omega) (by omega)
    refine ⟨?_, ?_, ?_, ?_, ?_⟩
    · refine Rl_cg (v := xf_Re_enter (xf_Cy_restart v 0) 0 6) (w := fw_up (fw_up (fw_up (mf_Mo_enter_0 w 6) 21 0 0 0) 22 0 0 (-1)) 17 0 0 0) ?_ xs (fun c k q1 q2 => ?_)
      · have hg := hI.g6 (by rw [h5]; decide)
        unfold xf_Re_enter xf_Cy_restart mf_Mo_enter_0
        refine ⟨?_, ?_, ?_, ?_, ?_, ?_, ?_, ?_, ?_, ?_, ?_, ?_, ?_, ?_, ?_, ?_, ?_⟩ <;> simp [fw_up]
        · exact hR.ix
        · exact hR.nm
        · exact hR.se
        · exact hR.fo
        · exact hR.di (by rw [h5]; decide)
        · rw [hR.go]; exact hg
        · exact hR.to
        · simpa using hR.ex
        · simpa using hR.pa
        · simpa using hR.gi
        · simpa using hR.gt
      · unfold mf_Mo_enter_0
        simp only [fw_up, ms c k q1 q2]
    · refine Ri_cg (w := fw_up (fw_up (fw_up (mf_Mo_enter_0 w 6) 21 0 0 0) 22 0 0 (-1)) 17 0 0 0) ?_ (fun c k q1 q2 => ?_)
      · unfold mf_Mo_enter_0
        refine ⟨?_, ?_, ?_, ?_, ?_, ?_, ?_, ?_, ?_⟩ <;> simp [fw_up]
        · exact fw_inc (by decide)
        · exact fw_inc (by decide)
        · exact fw_inc (by decide)
      · unfold mf_Mo_enter_0
        simp only [fw_up, ms c k q1 q2]
    · refine Wr_cg wS (fun _ _ _ _ _ => rfl) ⟨?_, ?_, ?_⟩ (fun c k q1 q2 => ?_)
      · unfold mf_Mo_enter_0; simp [fw_up]
      · unfold mf_Mo_enter_0; simp [fw_up]
      · unfold mf_Mo_enter_0; simp [fw_up]
      · unfold mf_Mo_enter_0; rw [fw_up_c (by omega), fw_up_c (by omega), fw_up_c (by omega), fw_up_c (by omega), fw_up_c (by omega), fw_up_c (by omega)]
    · intro t ht
      unfold mf_Mo_enter_0; rw [fw_up_c (by decide), fw_up_c (by decide), fw_up_c (by decide), fw_up_c (by decide), fw_up_c (by decide), fw_up_c (by decide)]
      exact At_send t ht
    · refine Lg_cg h.lg (fun c k hc => ?_) ?_ (fun k => ?_)
      · rw [xsend_c (by omega) (by omega) (by omega), xl_Re_enter hc, xl_Cy_restart hc]
      · rw [fw_up_c (by decide), fw_up_c (by decide), fw_up_c (by decide), mz55_Mo_enter_0 rfl, msend_0k (by decide) (by decide) (by decide)]
      · rw [fw_up_c (by decide), fw_up_c (by decide), fw_up_c (by decide), ml_Mo_enter_0 rfl, msend_c (by decide) (by decide) (by decide) (by decide) (by decide) (by decide) (by decide)]
  · rw [if_neg h5]
    by_cases h6 : w 12 0 0 = 6
    · rw [if_pos h6, if_neg (by rw [h6]; decide), if_pos h6]
      exact ⟨Rl_send_0 hR, Ri_send_0 hI, Wr_s0 h.wr h.at rfl hR.se.symm rfl hR.fo.symm, At_send, Lg_send_0 h.lg⟩
    · rw [if_neg h6]
      obtain ⟨s, hs, es⟩ := vp_in_of hI.s7 (by decide)
      have : s < 5 := by
        rcases (show s < 5 ∨ s = 5 ∨ s = 6 by omega) with q | q | q
        · exact q
        · subst q; exact absurd es h5
        · subst q; exact absurd es h6
      rw [if_pos (show w 12 0 0 < 5 by rw [es]; exact (nI_ltI (a := s) (b := 5) (by omega) (by omega)).mpr this)]
      exact h

theorem Re_found_1 {B : Nat} {v w : fw_V} {q : Nat} {n : Int32} (h : RB_1 B v w) (f2 : v 7 q 2 = n) (f8 : ∀ t, t < 7 → v 8 q t = w 10 0 t) : RB_1 B (xf_Re_deviceFound v 1 q) (if w 12 0 1 = (1 : Int32) then (if w 14 0 1 = w 10 0 0 then mf_Mo_ask_1 (fw_up (mf_Mo_enter_1 w (2 : Int32)) 15 0 1 n) else w) else w) := by
  unfold xf_Re_deviceFound
  rw [h.rl.st]
  by_cases hs : w 12 0 1 = 1
  · rw [if_pos hs, if_pos hs, f8 0 (by decide), h.rl.nm]
    by_cases hn : w 14 0 1 = w 10 0 0
    · rw [if_pos hn, if_pos hn.symm]
      dsimp only
      rw [f2]
      have hR := h.rl
      have hI := h.ri
      refine RB_ask_1 (Re_ask_1 ?_ ?_ ?_ ?_ ?_ ?_) h.lg (fun c k hc => ?_) ?_ (fun k => ?_)
      · unfold xf_Re_enter mf_Mo_enter_1
        refine ⟨?_, ?_, ?_, ?_, ?_, ?_, ?_, ?_, ?_, ?_, ?_, ?_, ?_, ?_, ?_, ?_, ?_⟩ <;> simp [fw_up]
        · exact hR.ix
        · exact hR.nm
        · exact hR.se
        · exact hR.di (by rw [hs]; decide)
        · exact hR.go
        · exact hR.to
        · simpa using hR.ex
        · simpa using hR.pa
        · simpa using hR.gi
        · simpa using hR.gt
      · unfold mf_Mo_enter_1
        have g := hI.g6 (by rw [hs]; decide)
        refine ⟨?_, ?_, ?_, ?_, ?_, ?_, ?_, ?_, ?_⟩ <;> simp [fw_up]
        · exact fw_inc (by decide)
        · exact g
        · exact ⟨fw_inc (by decide), fw_inc (by decide)⟩
      · unfold xf_Re_enter mf_Mo_enter_1
        refine Wr_cg h.wr (fun c i k q1 q2 => ?_) ⟨?_, ?_, ?_⟩ (fun c k q1 q2 => ?_)
        · rw [fw_up_c (by omega), fw_up_c (by omega), fw_up_c (by omega), fw_up_c (by omega)]
        · simp [fw_up]
        · simp [fw_up]
        · simp [fw_up]
        · rw [fw_up_c (by omega), fw_up_c (by omega), fw_up_c (by omega), fw_up_c (by omega)]
      · intro t ht
        unfold mf_Mo_enter_1
        rw [fw_up_c (by decide), fw_up_c (by decide), fw_up_c (by decide), fw_up_c (by decide)]
        exact h.at t ht
      · unfold mf_Mo_enter_1; simp [fw_up]
      · unfold xf_Re_enter; simp [fw_up]
      · rw [xl_Re_sendRequest hc, xl_Re_enter hc, fw_up_c (by omega)]
      · rw [mz55_Mo_ask_1 rfl, fw_up_c (by decide), mz55_Mo_enter_1 rfl]
      · rw [ml_Mo_ask_1 rfl, fw_up_c (by decide), ml_Mo_enter_1 rfl]
    · rw [if_neg hn, if_neg (fun q => hn q.symm)]
      exact h
  · rw [if_neg hs, if_neg hs]
    exact h
theorem Re_acc_1 {B : Nat} {v w : fw_V} {n : Int32} (h : RB_1 B v w) (hK : Kd v w) (hE : ∀ s, s < 3 → vp_in (w 24 0 (3 * 1 + s) + 1) 9) : RB_1 B (xf_Re_accepted v 1 n) (mf_Mo_hears_1 w 4 n) := by
  unfold xf_Re_accepted
  rw [h.rl.st]
  have hR := h.rl
  have hI := h.ri
  by_cases hs : w 12 0 1 = 2
  · rw [if_pos hs, hears4_1 hs]
    unfold xf_Re_goOnWriting mf_Mo_write_1
    dsimp only
    refine RB_ask_1 (Re_write_1 5 6 0 (fw_up v 13 1 13 n) (fw_up w 16 0 1 n) 0 0 (by decide) (by decide) (by decide) ?_ ?_ ?_ ?_ ?_ ?_ ?_ ?_) h.lg (fun c k hc => ?_) ?_ (fun k => ?_)
    · refine ⟨?_, ?_, ?_, ?_, ?_, ?_, ?_, ?_, ?_, ?_, ?_, ?_, ?_, ?_, ?_, ?_, ?_⟩ <;> simp [fw_up]
      · exact hR.ix
      · exact hR.nm
      · exact hR.st
      · exact hR.se
      · exact hR.fo
      · exact hR.go
      · exact hR.ti
      · exact hR.ag
      · exact hR.sl
      · exact hR.ne
      · exact hR.ta
      · exact hR.to
      · simpa using hR.ex
      · simpa using hR.pa
      · simpa using hR.gi
      · simpa using hR.gt
    · have := hI
      unfold Ri at this ⊢
      simpa [fw_up, hs] using this
    · exact Wr_cg h.wr (fun c i k q1 q2 => fw_up_c (by omega)) ⟨fw_up_c (by decide), fw_up_c (by decide), fw_up_c (by decide)⟩ (fun c k q1 q2 => fw_up_c (by omega))
    · exact fun t ht => by rw [fw_up_c (by decide)]; exact h.at t ht
    · exact ⟨fun k hk => by rw [fw_up_c (by decide), fw_up_c (by decide)]; exact hK.ki k hk, fun k hk => by rw [fw_up_c (by decide), fw_up_c (by decide)]; exact hK.ko k hk, fun k hk => by rw [fw_up_c (by decide), fw_up_c (by decide)]; exact hK.kn k hk⟩
    · exact fun s hs => by rw [fw_up_c (by decide)]; exact hE s hs
    · simp [fw_up]
    · rw [fw_up_c (by decide), hs]; decide
    · rw [xl_Re_sendRequest hc, xl_Re_goOnWriting_j1 hc, fw_up_c (by omega)]
    · exact (mz55_Mo_write_1_j1 rfl _ _ _ _).trans (fw_up_c (by decide))
    · exact (ml_Mo_write_1_j1 rfl _ _ _ _).trans (fw_up_c (by decide))
  · rw [if_neg hs, hears4n_1 hs]
    exact h
theorem Re_wri_1 {B : Nat} {v w : fw_V} {n : Int32} (h : RB_1 B v w) (hK : Kd v w) (hE : ∀ s, s < 3 → vp_in (w 24 0 (3 * 1 + s) + 1) 9) : RB_1 B (xf_Re_written v 1 n) (mf_Mo_hears_1 w 7 n) := by
  unfold xf_Re_written
  rw [h.rl.st, hears7_1]
  by_cases hs : w 12 0 1 = 3
  · rw [if_pos hs, if_pos hs, h.rl.sl hs]
    by_cases hn : n = w 20 0 1
    · rw [if_pos hn, if_pos hn]
      unfold xf_Re_goOnWriting mf_Mo_write_1
      dsimp only
      obtain ⟨s, h3, es⟩ := vp_in_of (h.ri.w3 hs) (by decide)
      rw [hn, es, nI_1]
      refine RB_ask_1 (Re_write_1 5 6 (s + 1) v w (nI (s + 1)) (nI (s + 1)) (by omega) (by omega) (by omega) h.rl h.ri h.wr h.at hK hE (h.rl.di (by rw [hs]; decide)) (by rw [hs]; decide)) h.lg (fun c k hc => ?_) ?_ (fun k => ?_)
      · rw [xl_Re_sendRequest hc, xl_Re_goOnWriting_j1 hc]
      · exact mz55_Mo_write_1_j1 rfl _ _ _ _
      · exact ml_Mo_write_1_j1 rfl _ _ _ _
    · rw [if_neg hn, if_neg hn]
      exact h
  · rw [if_neg hs, if_neg hs]
    exact h
theorem Re_end_1 {B : Nat} {v w : fw_V} {n : Int32} (h : RB_1 B v w) : RB_1 B (xf_Re_ended v 1) (mf_Mo_hears_1 w 9 n) := by
  unfold xf_Re_ended
  rw [h.rl.st, hears9_1]
  have hR := h.rl
  by_cases hs : w 12 0 1 = 4
  · rw [if_pos hs, if_pos hs]
    dsimp only
    refine ⟨Rl_enter_1 hR (fun _ => hR.di (by rw [hs]; decide)) (fun q => absurd q (by decide)) (fun q => absurd q (by decide)), ?_, ?_, ?_, ?_⟩
    · have g := h.ri.g6 (by rw [hs]; decide)
      unfold mf_Mo_enter_1
      refine ⟨?_, ?_, ?_, ?_, ?_, ?_, ?_, ?_, ?_⟩ <;> simp [fw_up]
      · exact fw_inc (by decide)
      · exact g
      · exact fw_inc (by decide)
    · unfold xf_Re_enter mf_Mo_enter_1
      refine Wr_cg h.wr (fun c i k q1 q2 => ?_) ⟨?_, ?_, ?_⟩ (fun c k q1 q2 => ?_)
      · rw [fw_up_c (by omega), fw_up_c (by omega), fw_up_c (by omega)]
      · simp [fw_up]
      · simp [fw_up]
      · simp [fw_up]
      · rw [fw_up_c (by omega), fw_up_c (by omega), fw_up_c (by omega)]
    · intro t ht
      unfold mf_Mo_enter_1
      rw [fw_up_c (by decide), fw_up_c (by decide), fw_up_c (by decide)]
      exact h.at t ht
    · exact Lg_cg h.lg (fun c k hc => xl_Re_enter hc _ _ _) (mz55_Mo_enter_1 rfl _ _) (fun k => ml_Mo_enter_1 rfl _ _)
  · rw [if_neg hs, if_neg hs]
    exact h
theorem Re_rdy_1 {B : Nat} {v w : fw_V} {n : Int32} (h : RB_1 B v w) : RB_1 B (xf_Re_deviceReady v 1) (mf_Mo_hears_1 w 10 n) := by
  have hR := h.rl
  have hI := h.ri
  unfold xf_Re_deviceReady
  rw [h.rl.st, hears10_1]
  by_cases h5 : w 12 0 1 = 5
  · rw [if_pos h5, if_neg (by rw [h5]; decide), if_neg (by rw [h5]; decide)]
    dsimp only
    have eS : xf_Re_enter (xf_Cy_restart v 1) 1 6 13 1 11 = v 13 1 11 := by simp [xf_Re_enter, xf_Cy_restart, fw_up]
    have eF : xf_Re_enter (xf_Cy_restart v 1) 1 6 13 1 12 = v 13 1 12 := by simp [xf_Re_enter, xf_Cy_restart, fw_up]
    rw [eS, eF]
    have wv : Wr (xf_Re_enter (xf_Cy_restart v 1) 1 6) w := Wr_cg h.wr (fun c i k q1 q2 => by unfold xf_Re_enter xf_Cy_restart; rw [fw_up_c (by omega), fw_up_c (by omega), fw_up_c (by omega), fw_up_c (by omega), fw_up_c (by omega)]) ⟨rfl, rfl, rfl⟩ (fun _ _ _ _ => rfl)
    have wS := Wr_s0 (a' := 11) (b' := w 13 0 1) (c' := 0) (d' := w 15 0 1) (a := 11) (b := v 13 1 11) (c := 0) (d := v 13 1 12) wv h.at rfl hR.se.symm rfl hR.fo.symm
    have ms : ∀ c k, 12 ≤ c → c ≤ 27 → mf_Mo_send w 11 (w 13 0 1) 0 (w 15 0 1) c 0 k = w c 0 k := fun c k q1 q2 => msend_c (by omega) (by omega) (by omega) (by omega) (by omega) (by omega) (by omega)
    have xs : ∀ c k, 13 ≤ c → c ≤ 18 → (xf_Wi_send (xf_Re_enter (xf_Cy_restart v 1) 1 6) 11 (v 13 1 11) 0 (v 13 1 12)).2 c 1 k = xf_Re_enter (xf_Cy_restart v 1) 1 6 c 1 k := fun c k q1 q2 => xsend_c (by omega) (by omega) (by omega)
    refine ⟨?_, ?_, ?_, ?_, ?_⟩
    · refine Rl_cg (v := xf_Re_enter (xf_Cy_restart v 1) 1 6) (w := fw_up (fw_up (fw_up (mf_Mo_enter_1 w 6) 21 0 1 0) 22 0 1 (-1)) 17 0 1 0) ?_ xs (fun c k q1 q2 => ?_)
      · have hg := hI.g6 (by rw [h5]; decide)
        unfold xf_Re_enter xf_Cy_restart mf_Mo_enter_1
        refine ⟨?_, ?_, ?_, ?_, ?_, ?_, ?_, ?_, ?_, ?_, ?_, ?_, ?_, ?_, ?_, ?_, ?_⟩ <;> simp [fw_up]
        · exact hR.ix
        · exact hR.nm
        · exact hR.se
        · exact hR.fo
        · exact hR.di (by rw [h5]; decide)
        · rw [hR.go]; exact hg
        · exact hR.to
        · simpa using hR.ex
        · simpa using hR.pa
        · simpa using hR.gi
        · simpa using hR.gt
      · unfold mf_Mo_enter_1
        simp only [fw_up, ms c k q1 q2]
    · refine Ri_cg (w := fw_up (fw_up (fw_up (mf_Mo_enter_1 w 6) 21 0 1 0) 22 0 1 (-1)) 17 0 1 0) ?_ (fun c k q1 q2 => ?_)
      · unfold mf_Mo_enter_1
        refine ⟨?_, ?_, ?_, ?_, ?_, ?_, ?_, ?_, ?_⟩ <;> simp [fw_up]
        · exact fw_inc (by decide)
        · exact fw_inc (by decide)
        · exact fw_inc (by decide)
      · unfold mf_Mo_enter_1
        simp only [fw_up, ms c k q1 q2]
    · refine Wr_cg wS (fun _ _ _ _ _ => rfl) ⟨?_, ?_, ?_⟩ (fun c k q1 q2 => ?_)
      · unfold mf_Mo_enter_1; simp [fw_up]
      · unfold mf_Mo_enter_1; simp [fw_up]
      · unfold mf_Mo_enter_1; simp [fw_up]
      · unfold mf_Mo_enter_1; rw [fw_up_c (by omega), fw_up_c (by omega), fw_up_c (by omega), fw_up_c (by omega), fw_up_c (by omega), fw_up_c (by omega)]
    · intro t ht
      unfold mf_Mo_enter_1; rw [fw_up_c (by decide), fw_up_c (by decide), fw_up_c (by decide), fw_up_c (by decide), fw_up_c (by decide), fw_up_c (by decide)]
      exact At_send t ht
    · refine Lg_cg h.lg (fun c k hc => ?_) ?_ (fun k => ?_)
      · rw [xsend_c (by omega) (by omega) (by omega), xl_Re_enter hc, xl_Cy_restart hc]
      · rw [fw_up_c (by decide), fw_up_c (by decide), fw_up_c (by decide), mz55_Mo_enter_1 rfl, msend_0k (by decide) (by decide) (by decide)]
      · rw [fw_up_c (by decide), fw_up_c (by decide), fw_up_c (by decide), ml_Mo_enter_1 rfl, msend_c (by decide) (by decide) (by decide) (by decide) (by decide) (by decide) (by decide)]
  · rw [if_neg h5]
    by_cases h6 : w 12 0 1 = 6
    · rw [if_pos h6, if_neg (by rw [h6]; decide), if_pos h6]
      exact ⟨Rl_send_1 hR, Ri_send_1 hI, Wr_s0 h.wr h.at rfl hR.se.symm rfl hR.fo.symm, At_send, Lg_send_1 h.lg⟩
    · rw [if_neg h6]
      obtain ⟨s, hs, es⟩ := vp_in_of hI.s7 (by decide)
      have : s < 5 := by
        rcases (show s < 5 ∨ s = 5 ∨ s = 6 by omega) with q | q | q
        · exact q
        · subst q; exact absurd es h5
        · subst q; exact absurd es h6
      rw [if_pos (show w 12 0 1 < 5 by rw [es]; exact (nI_ltI (a := s) (b := 5) (by omega) (by omega)).mpr this)]
      exact h

theorem Re_inp_0 {B : Nat} {v w : fw_V} {q : Nat} {n : Int32} (h : RB_0 B v w) (f2 : v 7 q 2 = n) (f8 : ∀ t, t < 7 → v 8 q t = w 10 0 t) (h13 : vp_in n 256) : RB_0 B (xf_Re_takeInput v 0 q) (mf_Mo_hears_0 w 13 n) := by
  have hR := h.rl
  have hI := h.ri
  unfold xf_Re_takeInput
  rw [h.rl.st, hears13_0]
  by_cases h6 : w 12 0 0 = 6
  · rw [if_pos h6, if_pos h6, f2]
    (try dsimp only)
    rw [newer_0 (hI.l6 h6) (hR.ta h6)]
    by_cases hn : mf_Mo_isNewer n (w 22 0 0) = 0
    · rw [if_pos hn, if_pos hn]
      (try dsimp only)
      rw [if_pos rfl]
      exact h
    · rw [if_neg hn, if_neg hn]
      (try dsimp only)
      rw [if_neg (show ¬ (1 : Int32) = 0 by decide)]
      have s6 : (6 : Int32).toNatClampNeg = 6 := by decide
      have s0 : (0 : Int32).toNatClampNeg = 0 := by decide
      have cp : ∀ i, i < 6 → va_cpy (fw_up v 14 0 1 n 8 q) (fw_up v 14 0 1 n 18 0) (0 : Int32).toNatClampNeg (0 : Int32).toNatClampNeg (6 : Int32).toNatClampNeg i = w 10 0 i := by
        intro i hi
        unfold va_cpy
        rw [s0, s6, if_pos ⟨Nat.zero_le _, by omega⟩, fw_up_c (by decide), Nat.zero_add, Nat.sub_zero]
        exact f8 i (by omega)
      have e6 : v 8 q 6 = w 10 0 6 := f8 6 (by decide)
      refine ⟨?_, ?_, ?_, ?_, ?_⟩
      · refine ⟨?_, ?_, ?_, ?_, ?_, ?_, ?_, ?_, ?_, ?_, ?_, ?_, ?_, ?_, ?_, ?_, fun i hi => ?_⟩
        · simp [fw_up, fw_row]; exact hR.ix
        · simp [fw_up, fw_row]; exact hR.nm
        · simp [fw_up, fw_row]; exact hR.st
        · simp [fw_up, fw_row]; exact hR.se
        · simp [fw_up, fw_row]; exact hR.fo
        · simp [fw_up, fw_row]; exact hR.di
        · simp [fw_up, fw_row]; exact e6
        · simp [fw_up, fw_row]
        · simp [fw_up, fw_row]; exact hR.ag
        · simp [fw_up, fw_row]; exact hR.sl
        · simp [fw_up, fw_row]; exact hR.ne
        · simp [fw_up, fw_row]
        · simp [fw_up, fw_row]; exact hR.to
        · simp [fw_up, fw_row]; simpa using hR.ex
        · simp [fw_up, fw_row]; simpa using hR.pa
        · simp [fw_up, fw_row]; simpa using hR.gi
        · rw [fw_up_c (by decide), fw_up_c (by decide), fw_row_s, cp i hi]
          rcases (show i = 0 ∨ i = 1 ∨ i = 2 ∨ i = 3 ∨ i = 4 ∨ i = 5 by omega) with rfl | rfl | rfl | rfl | rfl | rfl <;> simp [fw_up]
      · refine ⟨?_, ?_, ?_, ?_, ?_, ?_, ?_, ?_, ?_⟩ <;> simp [fw_up, h6]
        · rw [← h6]; exact hI.s7
        · exact fw_inc (by decide)
        · exact hI.n6 h6
        · exact Or.inr h13
      · refine Wr_cg h.wr (fun c i k q1 q2 => ?_) ⟨?_, ?_, ?_⟩ (fun c k q1 q2 => ?_)
        · rw [fw_up_c (by omega), fw_up_c (by omega), fw_row_c (by omega), fw_up_c (by omega)]
        · simp [fw_up]
        · simp [fw_up]
        · simp [fw_up]
        · rw [fw_up_c (by omega), fw_up_c (by omega), fw_up_c (by omega), fw_up_c (by omega), fw_up_c (by omega), fw_up_c (by omega), fw_up_c (by omega), fw_up_c (by omega), fw_up_c (by omega)]
      · intro t ht
        simp [fw_up]
        exact h.at t ht
      · refine Lg_cg h.lg (fun c k hc => ?_) ?_ (fun k => ?_)
        · rw [fw_up_c (by omega), fw_up_c (by omega), fw_row_c (by omega), fw_up_c (by omega)]
        · simp [fw_up]
        · simp [fw_up]
  · rw [if_neg h6, if_neg h6]
    exact h
/-- an ALARM comes -/
theorem Re_alm_0 {B : Nat} {v w : fw_V} {q : Nat} {n : Int32} (h : RB_0 B v w) (hB : B < 2 ^ 30) (f2 : v 7 q 2 = n) (f8 : ∀ t, t < 7 → v 8 q t = w 10 0 t) (hF : Fx v q) (h14 : vp_in (w 10 0 0) 3) (hA : w 12 0 0 = 6 → ¬ w 24 0 (3 * 0 + (w 10 0 0).toNatClampNeg) < 0) : RB_0 (B + 1) (xf_Re_takeAlarm v 0 q) (mf_Mo_hears_0 w 14 n) := by
  have hR := h.rl
  have hI := h.ri
  obtain ⟨u, eu⟩ : ∃ u, u = (xf_Wi_send v 15 (v 13 0 11) n (v 13 0 12)).2 := ⟨_, rfl⟩
  obtain ⟨m, em⟩ : ∃ m, m = mf_Mo_send w 15 (w 13 0 0) n (w 15 0 0) := ⟨_, rfl⟩
  have hu : RB_0 B u m := by
    rw [eu, em]
    exact ⟨Rl_send_0 hR, Ri_send_0 hI, Wr_s0 h.wr h.at rfl hR.se.symm rfl hR.fo.symm, At_send, Lg_send_0 h.lg⟩
  have uc : ∀ c i k, c ≠ 5 → c ≠ 7 → c ≠ 8 → u c i k = v c i k := fun c i k h5 h7 h8 => by rw [eu]; exact xsend_c h5 h7 h8
  have mc : ∀ c k, 10 ≤ c → m c 0 k = w c 0 k := fun c k hc => by rw [em]; exact msend_c (by omega) (by omega) (by omega) (by omega) (by omega) (by omega) (by omega)
  have uk : ∀ c k, c = 7 ∨ c = 8 → u c q k = v c q k := fun c k hc => by rw [eu]; exact kx_send hc hF
  unfold xf_Re_takeAlarm
  (try dsimp only)
  rw [f2, ← eu, hears14_0, ← em, uc 13 0 10 (by decide) (by decide) (by decide), hR.st]
  by_cases h6 : w 12 0 0 = 6
  · rw [if_pos h6, if_pos h6, uk 7 2 (Or.inl rfl), f2, uc 13 0 18 (by decide) (by decide) (by decide), hR.to]
    by_cases hn : n = w 23 0 0
    · rw [if_pos hn, if_pos hn]
      exact ⟨hu.rl, hu.ri, hu.wr, hu.at, Lg_mono hu.lg (by omega)⟩
    · rw [if_neg hn, if_neg hn]
      have k0 : u 8 q 0 = w 10 0 0 := by rw [uk 8 0 (Or.inr rfl)]; exact f8 0 (by decide)
      have k1 : u 8 q 1 = w 10 0 1 := by rw [uk 8 1 (Or.inr rfl)]; exact f8 1 (by decide)
      obtain ⟨s, hs, es⟩ := vp_in_of h14 (by decide)
      have hsl : ¬ xf_FR_isSlot (w 10 0 0) = 0 := by
        rw [es]
        rcases (show s = 0 ∨ s = 1 ∨ s = 2 by omega) with rfl | rfl | rfl <;> decide
      rw [k0, if_neg hsl]
      have hA' := hA h6
      have ms10 : m 10 0 0 = nI s := by rw [mc 10 0 (by decide)]; exact es
      have ms11 : m 10 0 1 = w 10 0 1 := mc 10 1 (by decide)
      rw [es, nI_clamp (by omega)] at hA'
      have ie : ((0 : Int32) + nI s).toNatClampNeg = 3 * 0 + s := by
        show (nI 0 + nI s).toNatClampNeg = _
        rw [nI_add, nI_clamp (by omega)]
      have exs : v 15 0 s = w 24 0 (3 * 0 + s) := hR.ex s hs
      obtain ⟨g, eg⟩ : ∃ g, g = xf_AL_add (fw_up u 13 0 18 n) (nI 0) (nI s) (w 10 0 1) := ⟨_, rfl⟩
      have g9 : g 9 0 1 = u 9 0 1 + 1 := by rw [eg]; unfold xf_AL_add; simp [fw_up]
      have g10 : ∀ k, g 10 0 k = if k = (u 9 0 1 - u 9 0 1 / (8 : Int32) * (8 : Int32)).toNatClampNeg then ((64 : Int32) * nI 0 + (16 : Int32) * nI s) + w 10 0 1 else u 10 0 k := by
        intro k; rw [eg]; unfold xf_AL_add; simp [fw_up]
      have gc : ∀ c i k, c ≠ 9 → c ≠ 10 → g c i k = fw_up u 13 0 18 n c i k := by
        intro c i k h9 h10; rw [eg]; unfold xf_AL_add; (try dsimp only); rw [fw_up_c h9, fw_up_c h10]
      have g13 : g 13 0 13 = w 16 0 0 := by
        rw [gc 13 0 13 (by decide) (by decide), fw_up_k (by decide), uc 13 0 13 (by decide) (by decide) (by decide)]
        exact hR.di (by rw [h6]; decide)
      have eX : (if g 8 q 1 = g 15 0 (nI s).toNatClampNeg + 1 then fw_up g 13 0 13 (xf_FR_withSlot (g 13 0 13) (nI s) 0) else fw_up g 13 0 13 (xf_FR_withSlot (g 13 0 13) (nI s) 1)) = fw_up g 13 0 13 (if w 10 0 1 = w 24 0 (3 * 0 + s) + 1 then (w 16 0 0 &&& (((1 : Int32) <<< (nI s &&& 31)) ^^^ (-1 : Int32))) else (w 16 0 0 ||| ((1 : Int32) <<< (nI s &&& 31)))) := by
        rw [gc 8 q 1 (by decide) (by decide), fw_up_c (by decide), k1, nI_clamp (by omega), gc 15 0 s (by decide) (by decide), fw_up_c (by decide), uc 15 0 s (by decide) (by decide) (by decide), exs, g13]
        unfold xf_FR_withSlot
        by_cases z : w 10 0 1 = w 24 0 (3 * 0 + s) + 1
        · rw [if_pos z, if_pos z, if_pos rfl]
        · rw [if_neg z, if_neg z, if_neg (by decide)]
      have ix : fw_up u 13 0 18 n 13 0 0 = nI 0 := by rw [fw_up_k (by decide), uc 13 0 0 (by decide) (by decide) (by decide)]; exact hR.ix
      have r1 : fw_up u 13 0 18 n 8 q 1 = w 10 0 1 := by rw [fw_up_c (by decide)]; exact k1
      rw [ix, r1, es, ← eg, eX]
      -- the reference
      obtain ⟨D, eD⟩ : ∃ D : Int32, D = (if w 10 0 1 = w 24 0 (3 * 0 + s) + 1 then (w 16 0 0 &&& (((1 : Int32) <<< (nI s &&& 31)) ^^^ (-1 : Int32))) else (w 16 0 0 ||| ((1 : Int32) <<< (nI s &&& 31)))) := ⟨_, rfl⟩
      have eM : mf_Mo_tell_0 m n = mf_Mo_tell_0_j2 (fw_up m 23 0 0 n) n (nI s) (w 10 0 1) D := by
        unfold mf_Mo_tell_0 mf_Mo_tell_0_j1
        (try dsimp only)
        rw [ms10, ms11, ie, fw_up_c (show (24 : Nat) ≠ 23 by decide), mc 24 _ (by decide), if_neg hA', fw_up_c (show (16 : Nat) ≠ 23 by decide), mc 16 _ (by decide), eD]
        by_cases z : w 10 0 1 = w 24 0 (3 * 0 + s) + 1
        · rw [if_pos z, if_pos z]
        · rw [if_neg z, if_neg z]
      rw [← eD, eM]
      have hRu := hu.rl
      have hIu := hu.ri
      have tl : ∀ c k, 12 ≤ c → c ≤ 27 → c ≠ 16 → mf_Mo_tell_0_j2 (fw_up m 23 0 0 n) n (nI s) (w 10 0 1) D c 0 k = fw_up m 23 0 0 n c 0 k := by
        intro c k q1 q2 q3
        unfold mf_Mo_tell_0_j2
        (try dsimp only)
        rw [fw_up_c (by omega), fw_up_c (by omega), fw_up_c (by omega), fw_up_c (by omega), fw_up_c (by omega), fw_up_c (by omega), fw_up_c (by omega), fw_up_c (by omega), fw_up_c (by omega), fw_up_c q3]
      have tl16 : ∀ k, mf_Mo_tell_0_j2 (fw_up m 23 0 0 n) n (nI s) (w 10 0 1) D 16 0 k = if k = 0 then D else m 16 0 k := by
        intro k
        unfold mf_Mo_tell_0_j2
        simp [fw_up]
      have gg : ∀ c k, 13 ≤ c → c ≤ 18 → fw_up g 13 0 13 D c 0 k = fw_up (fw_up u 13 0 18 n) 13 0 13 D c 0 k := by
        intro c k q1 q2
        by_cases z : c = 13 ∧ k = 13
        · obtain ⟨rfl, rfl⟩ := z; rw [fw_up_s, fw_up_s]
        · rw [fw_up_ne (fun y => z ⟨y.1, y.2.2⟩), fw_up_ne (fun y => z ⟨y.1, y.2.2⟩), gc c 0 k (by omega) (by omega)]
      refine ⟨?_, ?_, ?_, ?_, ?_⟩
      · refine Rl_cg (v := fw_up (fw_up u 13 0 18 n) 13 0 13 D) (w := fw_up (fw_up m 23 0 0 n) 16 0 0 D) ?_ gg (fun c k q1 q2 => ?_)
        · refine ⟨?_, ?_, ?_, ?_, ?_, ?_, ?_, ?_, ?_, ?_, ?_, ?_, ?_, ?_, ?_, ?_, ?_⟩ <;> simp [fw_up]
          · exact hRu.ix
          · exact hRu.nm
          · exact hRu.st
          · exact hRu.se
          · exact hRu.fo
          · exact hRu.go
          · exact hRu.ti
          · exact hRu.ag
          · exact hRu.sl
          · exact hRu.ne
          · exact hRu.ta
          · simpa using hRu.ex
          · simpa using hRu.pa
          · simpa using hRu.gi
          · simpa using hRu.gt
        · by_cases z : c = 16
          · subst z
            rw [tl16 k]
            by_cases zk : k = 0
            · subst zk; rw [if_pos rfl, fw_up_s]
            · rw [if_neg zk, fw_up_k zk, fw_up_c (by decide)]
          · rw [tl c k q1 q2 z, fw_up_c z]
      · have h1 : Ri 0 (fw_up m 23 0 0 n) := by
          have := hIu
          unfold Ri at this ⊢
          simpa [fw_up] using this
        refine ⟨?_, fun q => ?_, ?_, ?_, ?_, ?_, ?_, ?_, ?_⟩
        · rw [tl 12 _ (by decide) (by decide) (by decide)]; exact h1.s7
        · rw [tl 12 _ (by decide) (by decide) (by decide), fw_up_c (by decide), mc 12 _ (by decide), h6] at q
          exact absurd q (by decide)
        · rw [tl 12 _ (by decide) (by decide) (by decide), tl 17 _ (by decide) (by decide) (by decide)]; exact h1.g6
        · rw [tl 12 _ (by decide) (by decide) (by decide), tl 18 _ (by decide) (by decide) (by decide)]; exact h1.t6
        · rw [tl 12 _ (by decide) (by decide) (by decide), tl 18 _ (by decide) (by decide) (by decide)]; exact h1.t5
        · rw [tl 12 _ (by decide) (by decide) (by decide), tl 18 _ (by decide) (by decide) (by decide), tl 19 _ (by decide) (by decide) (by decide)]; exact h1.t4
        · rw [tl 12 _ (by decide) (by decide) (by decide), tl 21 _ (by decide) (by decide) (by decide)]; exact h1.n6
        · rw [tl 12 _ (by decide) (by decide) (by decide), tl 22 _ (by decide) (by decide) (by decide)]; exact h1.l6
        · rw [tl 12 _ (by decide) (by decide) (by decide), tl 20 _ (by decide) (by decide) (by decide)]; exact h1.w3
      · refine Wr_cg hu.wr (fun c i k q1 q2 => ?_) ⟨?_, ?_, ?_⟩ (fun c k q1 q2 => ?_)
        · rw [fw_up_c (by omega), gc c i k (by omega) (by omega), fw_up_c (by omega)]
        · unfold mf_Mo_tell_0_j2; simp [fw_up]
        · unfold mf_Mo_tell_0_j2; simp [fw_up]
        · unfold mf_Mo_tell_0_j2; simp [fw_up]
        · unfold mf_Mo_tell_0_j2
          (try dsimp only)
          rw [fw_up_c (by omega), fw_up_c (by omega), fw_up_c (by omega), fw_up_c (by omega), fw_up_c (by omega), fw_up_c (by omega), fw_up_c (by omega), fw_up_c (by omega), fw_up_c (by omega), fw_up_c (by omega), fw_up_c (by omega)]
      · intro t ht
        unfold mf_Mo_tell_0_j2
        simp [fw_up]
        exact hu.at t ht
      · refine Lg_tell (x := ((64 : Int32) * nI 0 + (16 : Int32) * nI s) + w 10 0 1) hu.lg hB ?_ (fun k => ?_) ?_ ?_ (fun k hk => ?_)
        · rw [fw_up_c (by decide), g9]
        · rw [fw_up_c (by decide), g10]
        · unfold mf_Mo_tell_0_j2; simp [fw_up]
        · unfold mf_Mo_tell_0_j2; simp [fw_up]
          rfl
        · unfold mf_Mo_tell_0_j2
          rcases (show k = 0 ∨ k = 1 ∨ k = 2 ∨ k = 3 ∨ k = 4 ∨ k = 5 ∨ k = 6 by omega) with rfl | rfl | rfl | rfl | rfl | rfl | rfl <;> simp [fw_up]
  · rw [if_neg h6, if_neg h6]
    exact ⟨hu.rl, hu.ri, hu.wr, hu.at, Lg_mono hu.lg (by omega)⟩

theorem Re_inp_1 {B : Nat} {v w : fw_V} {q : Nat} {n : Int32} (h : RB_1 B v w) (f2 : v 7 q 2 = n) (f8 : ∀ t, t < 7 → v 8 q t = w 10 0 t) (h13 : vp_in n 256) : RB_1 B (xf_Re_takeInput v 1 q) (mf_Mo_hears_1 w 13 n) := by
  have hR := h.rl
  have hI := h.ri
  unfold xf_Re_takeInput
  rw [h.rl.st, hears13_1]
  by_cases h6 : w 12 0 1 = 6
  · rw [if_pos h6, if_pos h6, f2]
    (try dsimp only)
    rw [newer_1 (hI.l6 h6) (hR.ta h6)]
    by_cases hn : mf_Mo_isNewer n (w 22 0 1) = 0
    · rw [if_pos hn, if_pos hn]
      (try dsimp only)
      rw [if_pos rfl]
      exact h
    · rw [if_neg hn, if_neg hn]
      (try dsimp only)
      rw [if_neg (show ¬ (1 : Int32) = 0 by decide)]
      have s6 : (6 : Int32).toNatClampNeg = 6 := by decide
      have s0 : (0 : Int32).toNatClampNeg = 0 := by decide
      have cp : ∀ i, i < 6 → va_cpy (fw_up v 14 1 1 n 8 q) (fw_up v 14 1 1 n 18 1) (0 : Int32).toNatClampNeg (0 : Int32).toNatClampNeg (6 : Int32).toNatClampNeg i = w 10 0 i := by
        intro i hi
        unfold va_cpy
        rw [s0, s6, if_pos ⟨Nat.zero_le _, by omega⟩, fw_up_c (by decide), Nat.zero_add, Nat.sub_zero]
        exact f8 i (by omega)
      have e6 : v 8 q 6 = w 10 0 6 := f8 6 (by decide)
      refine ⟨?_, ?_, ?_, ?_, ?_⟩
      · refine ⟨?_, ?_, ?_, ?_, ?_, ?_, ?_, ?_, ?_, ?_, ?_, ?_, ?_, ?_, ?_, ?_, fun i hi => ?_⟩
        · simp [fw_up, fw_row]; exact hR.ix
        · simp [fw_up, fw_row]; exact hR.nm
        · simp [fw_up, fw_row]; exact hR.st
        · simp [fw_up, fw_row]; exact hR.se
        · simp [fw_up, fw_row]; exact hR.fo
        · simp [fw_up, fw_row]; exact hR.di
        · simp [fw_up, fw_row]; exact e6
        · simp [fw_up, fw_row]
        · simp [fw_up, fw_row]; exact hR.ag
        · simp [fw_up, fw_row]; exact hR.sl
        · simp [fw_up, fw_row]; exact hR.ne
        · simp [fw_up, fw_row]
        · simp [fw_up, fw_row]; exact hR.to
        · simp [fw_up, fw_row]; simpa using hR.ex
        · simp [fw_up, fw_row]; simpa using hR.pa
        · simp [fw_up, fw_row]; simpa using hR.gi
        · rw [fw_up_c (by decide), fw_up_c (by decide), fw_row_s, cp i hi]
          rcases (show i = 0 ∨ i = 1 ∨ i = 2 ∨ i = 3 ∨ i = 4 ∨ i = 5 by omega) with rfl | rfl | rfl | rfl | rfl | rfl <;> simp [fw_up]
      · refine ⟨?_, ?_, ?_, ?_, ?_, ?_, ?_, ?_, ?_⟩ <;> simp [fw_up, h6]
        · rw [← h6]; exact hI.s7
        · exact fw_inc (by decide)
        · exact hI.n6 h6
        · exact Or.inr h13
      · refine Wr_cg h.wr (fun c i k q1 q2 => ?_) ⟨?_, ?_, ?_⟩ (fun c k q1 q2 => ?_)
        · rw [fw_up_c (by omega), fw_up_c (by omega), fw_row_c (by omega), fw_up_c (by omega)]
        · simp [fw_up]
        · simp [fw_up]
        · simp [fw_up]
        · rw [fw_up_c (by omega), fw_up_c (by omega), fw_up_c (by omega), fw_up_c (by omega), fw_up_c (by omega), fw_up_c (by omega), fw_up_c (by omega), fw_up_c (by omega), fw_up_c (by omega)]
      · intro t ht
        simp [fw_up]
        exact h.at t ht
      · refine Lg_cg h.lg (fun c k hc => ?_) ?_ (fun k => ?_)
        · rw [fw_up_c (by omega), fw_up_c (by omega), fw_row_c (by omega), fw_up_c (by omega)]
        · simp [fw_up]
        · simp [fw_up]
  · rw [if_neg h6, if_neg h6]
    exact h
/-- an ALARM comes -/
theorem Re_alm_1 {B : Nat} {v w : fw_V} {q : Nat} {n : Int32} (h : RB_1 B v w) (hB : B < 2 ^ 30) (f2 : v 7 q 2 = n) (f8 : ∀ t, t < 7 → v 8 q t = w 10 0 t) (hF : Fx v q) (h14 : vp_in (w 10 0 0) 3) (hA : w 12 0 1 = 6 → ¬ w 24 0 (3 * 1 + (w 10 0 0).toNatClampNeg) < 0) : RB_1 (B + 1) (xf_Re_takeAlarm v 1 q) (mf_Mo_hears_1 w 14 n) := by
  have hR := h.rl
  have hI := h.ri
  obtain ⟨u, eu⟩ : ∃ u, u = (xf_Wi_send v 15 (v 13 1 11) n (v 13 1 12)).2 := ⟨_, rfl⟩
  obtain ⟨m, em⟩ : ∃ m, m = mf_Mo_send w 15 (w 13 0 1) n (w 15 0 1) := ⟨_, rfl⟩
  have hu : RB_1 B u m := by
    rw [eu, em]
    exact ⟨Rl_send_1 hR, Ri_send_1 hI, Wr_s0 h.wr h.at rfl hR.se.symm rfl hR.fo.symm, At_send, Lg_send_1 h.lg⟩
  have uc : ∀ c i k, c ≠ 5 → c ≠ 7 → c ≠ 8 → u c i k = v c i k := fun c i k h5 h7 h8 => by rw [eu]; exact xsend_c h5 h7 h8
  have mc : ∀ c k, 10 ≤ c → m c 0 k = w c 0 k := fun c k hc => by rw [em]; exact msend_c (by omega) (by omega) (by omega) (by omega) (by omega) (by omega) (by omega)
  have uk : ∀ c k, c = 7 ∨ c = 8 → u c q k = v c q k := fun c k hc => by rw [eu]; exact kx_send hc hF
  unfold xf_Re_takeAlarm
  (try dsimp only)
  rw [f2, ← eu, hears14_1, ← em, uc 13 1 10 (by decide) (by decide) (by decide), hR.st]
  by_cases h6 : w 12 0 1 = 6
  · rw [if_pos h6, if_pos h6, uk 7 2 (Or.inl rfl), f2, uc 13 1 18 (by decide) (by decide) (by decide), hR.to]
    by_cases hn : n = w 23 0 1
    · rw [if_pos hn, if_pos hn]
      exact ⟨hu.rl, hu.ri, hu.wr, hu.at, Lg_mono hu.lg (by omega)⟩
    · rw [if_neg hn, if_neg hn]
      have k0 : u 8 q 0 = w 10 0 0 := by rw [uk 8 0 (Or.inr rfl)]; exact f8 0 (by decide)
      have k1 : u 8 q 1 = w 10 0 1 := by rw [uk 8 1 (Or.inr rfl)]; exact f8 1 (by decide)
      obtain ⟨s, hs, es⟩ := vp_in_of h14 (by decide)
      have hsl : ¬ xf_FR_isSlot (w 10 0 0) = 0 := by
        rw [es]
        rcases (show s = 0 ∨ s = 1 ∨ s = 2 by omega) with rfl | rfl | rfl <;> decide
      rw [k0, if_neg hsl]
      have hA' := hA h6
      have ms10 : m 10 0 0 = nI s := by rw [mc 10 0 (by decide)]; exact es
      have ms11 : m 10 0 1 = w 10 0 1 := mc 10 1 (by decide)
      rw [es, nI_clamp (by omega)] at hA'
      have ie : ((3 : Int32) + nI s).toNatClampNeg = 3 * 1 + s := by
        show (nI 3 + nI s).toNatClampNeg = _
        rw [nI_add, nI_clamp (by omega)]
      have exs : v 15 1 s = w 24 0 (3 * 1 + s) := hR.ex s hs
      obtain ⟨g, eg⟩ : ∃ g, g = xf_AL_add (fw_up u 13 1 18 n) (nI 1) (nI s) (w 10 0 1) := ⟨_, rfl⟩
      have g9 : g 9 0 1 = u 9 0 1 + 1 := by rw [eg]; unfold xf_AL_add; simp [fw_up]
      have g10 : ∀ k, g 10 0 k = if k = (u 9 0 1 - u 9 0 1 / (8 : Int32) * (8 : Int32)).toNatClampNeg then ((64 : Int32) * nI 1 + (16 : Int32) * nI s) + w 10 0 1 else u 10 0 k := by
        intro k; rw [eg]; unfold xf_AL_add; simp [fw_up]
      have gc : ∀ c i k, c ≠ 9 → c ≠ 10 → g c i k = fw_up u 13 1 18 n c i k := by
        intro c i k h9 h10; rw [eg]; unfold xf_AL_add; (try dsimp only); rw [fw_up_c h9, fw_up_c h10]
      have g13 : g 13 1 13 = w 16 0 1 := by
        rw [gc 13 1 13 (by decide) (by decide), fw_up_k (by decide), uc 13 1 13 (by decide) (by decide) (by decide)]
        exact hR.di (by rw [h6]; decide)
      have eX : (if g 8 q 1 = g 15 1 (nI s).toNatClampNeg + 1 then fw_up g 13 1 13 (xf_FR_withSlot (g 13 1 13) (nI s) 0) else fw_up g 13 1 13 (xf_FR_withSlot (g 13 1 13) (nI s) 1)) = fw_up g 13 1 13 (if w 10 0 1 = w 24 0 (3 * 1 + s) + 1 then (w 16 0 1 &&& (((1 : Int32) <<< (nI s &&& 31)) ^^^ (-1 : Int32))) else (w 16 0 1 ||| ((1 : Int32) <<< (nI s &&& 31)))) := by
        rw [gc 8 q 1 (by decide) (by decide), fw_up_c (by decide), k1, nI_clamp (by omega), gc 15 1 s (by decide) (by decide), fw_up_c (by decide), uc 15 1 s (by decide) (by decide) (by decide), exs, g13]
        unfold xf_FR_withSlot
        by_cases z : w 10 0 1 = w 24 0 (3 * 1 + s) + 1
        · rw [if_pos z, if_pos z, if_pos rfl]
        · rw [if_neg z, if_neg z, if_neg (by decide)]
      have ix : fw_up u 13 1 18 n 13 1 0 = nI 1 := by rw [fw_up_k (by decide), uc 13 1 0 (by decide) (by decide) (by decide)]; exact hR.ix
      have r1 : fw_up u 13 1 18 n 8 q 1 = w 10 0 1 := by rw [fw_up_c (by decide)]; exact k1
      rw [ix, r1, es, ← eg, eX]
      -- the reference
      obtain ⟨D, eD⟩ : ∃ D : Int32, D = (if w 10 0 1 = w 24 0 (3 * 1 + s) + 1 then (w 16 0 1 &&& (((1 : Int32) <<< (nI s &&& 31)) ^^^ (-1 : Int32))) else (w 16 0 1 ||| ((1 : Int32) <<< (nI s &&& 31)))) := ⟨_, rfl⟩
      have eM : mf_Mo_tell_1 m n = mf_Mo_tell_1_j2 (fw_up m 23 0 1 n) n (nI s) (w 10 0 1) D := by
        unfold mf_Mo_tell_1 mf_Mo_tell_1_j1
        (try dsimp only)
        rw [ms10, ms11, ie, fw_up_c (show (24 : Nat) ≠ 23 by decide), mc 24 _ (by decide), if_neg hA', fw_up_c (show (16 : Nat) ≠ 23 by decide), mc 16 _ (by decide), eD]
        by_cases z : w 10 0 1 = w 24 0 (3 * 1 + s) + 1
        · rw [if_pos z, if_pos z]
        · rw [if_neg z, if_neg z]
      rw [← eD, eM]
      have hRu := hu.rl
      have hIu := hu.ri
      have tl : ∀ c k, 12 ≤ c → c ≤ 27 → c ≠ 16 → mf_Mo_tell_1_j2 (fw_up m 23 0 1 n) n (nI s) (w 10 0 1) D c 0 k = fw_up m 23 0 1 n c 0 k := by
        intro c k q1 q2 q3
        unfold mf_Mo_tell_1_j2
        (try dsimp only)
        rw [fw_up_c (by omega), fw_up_c (by omega), fw_up_c (by omega), fw_up_c (by omega), fw_up_c (by omega), fw_up_c (by omega), fw_up_c (by omega), fw_up_c (by omega), fw_up_c (by omega), fw_up_c q3]
      have tl16 : ∀ k, mf_Mo_tell_1_j2 (fw_up m 23 0 1 n) n (nI s) (w 10 0 1) D 16 0 k = if k = 1 then D else m 16 0 k := by
        intro k
        unfold mf_Mo_tell_1_j2
        simp [fw_up]
      have gg : ∀ c k, 13 ≤ c → c ≤ 18 → fw_up g 13 1 13 D c 1 k = fw_up (fw_up u 13 1 18 n) 13 1 13 D c 1 k := by
        intro c k q1 q2
        by_cases z : c = 13 ∧ k = 13
        · obtain ⟨rfl, rfl⟩ := z; rw [fw_up_s, fw_up_s]
        · rw [fw_up_ne (fun y => z ⟨y.1, y.2.2⟩), fw_up_ne (fun y => z ⟨y.1, y.2.2⟩), gc c 1 k (by omega) (by omega)]
      refine ⟨?_, ?_, ?_, ?_, ?_⟩
      · refine Rl_cg (v := fw_up (fw_up u 13 1 18 n) 13 1 13 D) (w := fw_up (fw_up m 23 0 1 n) 16 0 1 D) ?_ gg (fun c k q1 q2 => ?_)
        · refine ⟨?_, ?_, ?_, ?_, ?_, ?_, ?_, ?_, ?_, ?_, ?_, ?_, ?_, ?_, ?_, ?_, ?_⟩ <;> simp [fw_up]
          · exact hRu.ix
          · exact hRu.nm
          · exact hRu.st
          · exact hRu.se
          · exact hRu.fo
          · exact hRu.go
          · exact hRu.ti
          · exact hRu.ag
          · exact hRu.sl
          · exact hRu.ne
          · exact hRu.ta
          · simpa using hRu.ex
          · simpa using hRu.pa
          · simpa using hRu.gi
          · simpa using hRu.gt
        · by_cases z : c = 16
          · subst z
            rw [tl16 k]
            by_cases zk : k = 1
            · subst zk; rw [if_pos rfl, fw_up_s]
            · rw [if_neg zk, fw_up_k zk, fw_up_c (by decide)]
          · rw [tl c k q1 q2 z, fw_up_c z]
      · have h1 : Ri 1 (fw_up m 23 0 1 n) := by
          have := hIu
          unfold Ri at this ⊢
          simpa [fw_up] using this
        refine ⟨?_, fun q => ?_, ?_, ?_, ?_, ?_, ?_, ?_, ?_⟩
        · rw [tl 12 _ (by decide) (by decide) (by decide)]; exact h1.s7
        · rw [tl 12 _ (by decide) (by decide) (by decide), fw_up_c (by decide), mc 12 _ (by decide), h6] at q
          exact absurd q (by decide)
        · rw [tl 12 _ (by decide) (by decide) (by decide), tl 17 _ (by decide) (by decide) (by decide)]; exact h1.g6
        · rw [tl 12 _ (by decide) (by decide) (by decide), tl 18 _ (by decide) (by decide) (by decide)]; exact h1.t6
        · rw [tl 12 _ (by decide) (by decide) (by decide), tl 18 _ (by decide) (by decide) (by decide)]; exact h1.t5
        · rw [tl 12 _ (by decide) (by decide) (by decide), tl 18 _ (by decide) (by decide) (by decide), tl 19 _ (by decide) (by decide) (by decide)]; exact h1.t4
        · rw [tl 12 _ (by decide) (by decide) (by decide), tl 21 _ (by decide) (by decide) (by decide)]; exact h1.n6
        · rw [tl 12 _ (by decide) (by decide) (by decide), tl 22 _ (by decide) (by decide) (by decide)]; exact h1.l6
        · rw [tl 12 _ (by decide) (by decide) (by decide), tl 20 _ (by decide) (by decide) (by decide)]; exact h1.w3
      · refine Wr_cg hu.wr (fun c i k q1 q2 => ?_) ⟨?_, ?_, ?_⟩ (fun c k q1 q2 => ?_)
        · rw [fw_up_c (by omega), gc c i k (by omega) (by omega), fw_up_c (by omega)]
        · unfold mf_Mo_tell_1_j2; simp [fw_up]
        · unfold mf_Mo_tell_1_j2; simp [fw_up]
        · unfold mf_Mo_tell_1_j2; simp [fw_up]
        · unfold mf_Mo_tell_1_j2
          (try dsimp only)
          rw [fw_up_c (by omega), fw_up_c (by omega), fw_up_c (by omega), fw_up_c (by omega), fw_up_c (by omega), fw_up_c (by omega), fw_up_c (by omega), fw_up_c (by omega), fw_up_c (by omega), fw_up_c (by omega), fw_up_c (by omega)]
      · intro t ht
        unfold mf_Mo_tell_1_j2
        simp [fw_up]
        exact hu.at t ht
      · refine Lg_tell (x := ((64 : Int32) * nI 1 + (16 : Int32) * nI s) + w 10 0 1) hu.lg hB ?_ (fun k => ?_) ?_ ?_ (fun k hk => ?_)
        · rw [fw_up_c (by decide), g9]
        · rw [fw_up_c (by decide), g10]
        · unfold mf_Mo_tell_1_j2; simp [fw_up]
        · unfold mf_Mo_tell_1_j2; simp [fw_up]
          rfl
        · unfold mf_Mo_tell_1_j2
          rcases (show k = 0 ∨ k = 1 ∨ k = 2 ∨ k = 3 ∨ k = 4 ∨ k = 5 ∨ k = 6 by omega) with rfl | rfl | rfl | rfl | rfl | rfl | rfl <;> simp [fw_up]
  · rw [if_neg h6, if_neg h6]
    exact ⟨hu.rl, hu.ri, hu.wr, hu.at, Lg_mono hu.lg (by omega)⟩

theorem RB_mono_0 {B B' : Nat} {v w : fw_V} (h : RB_0 B v w) (hb : B ≤ B') : RB_0 B' v w := ⟨h.rl, h.ri, h.wr, h.at, Lg_mono h.lg hb⟩
/-- a FRAME comes to the CONTROLLER: RELATION by RELATION -/
theorem Re_recv_0 {B : Nat} {v w : fw_V} {q : Nat} {what who n : Int32} (h : RB_0 B v w) (hB : B < 2 ^ 30) (hK : Kd v w) (hE : ∀ s, s < 3 → vp_in (w 24 0 (3 * 0 + s) + 1) 9) (f0 : v 7 q 0 = what) (f1 : v 7 q 1 = who) (f2 : v 7 q 2 = n) (f8 : ∀ t, t < 7 → v 8 q t = w 10 0 t) (hF : Fx v q) (h13 : what = 13 → vp_in n 256) (h14 : what = 14 → vp_in (w 10 0 0) 3) (hA : what = 14 → w 12 0 0 = 6 → w 13 0 0 = who → ¬ w 24 0 (3 * 0 + (w 10 0 0).toNatClampNeg) < 0) : RB_0 (B + 1) (xf_Re_receive v 0 q) (ctl_0 w what who n) := by
  have hm : ∀ {v' w' : fw_V}, RB_0 B v' w' → RB_0 (B + 1) v' w' := fun h => RB_mono_0 h (Nat.le_succ B)
  unfold xf_Re_receive ctl_0
  rw [f0]
  by_cases h2 : what = 2
  · rw [if_pos h2, if_pos h2]
    exact hm (Re_found_0 h f2 f8)
  · rw [if_neg h2, if_neg h2, h.rl.st, f1, h.rl.se]
    by_cases h0 : w 12 0 0 = 0
    · rw [if_pos h0, if_pos h0]; exact hm h
    · rw [if_neg h0, if_neg h0]
      by_cases hw : w 13 0 0 = who
      · rw [if_pos hw, if_pos hw.symm, f2]
        (try dsimp only)
        by_cases e4 : what = 4
        · rw [if_pos e4, e4]; exact hm (Re_acc_0 h hK hE)
        · rw [if_neg e4]
          by_cases e5 : what = 5
          · rw [if_pos e5, e5, hears5_0]
            unfold xf_Re_refused
            rw [h.rl.st]
            by_cases hs : w 12 0 0 = 2
            · rw [if_pos hs, if_pos hs]; exact hm (RB_shut_0 h)
            · rw [if_neg hs, if_neg hs]; exact hm h
          · rw [if_neg e5]
            by_cases e7 : what = 7
            · rw [if_pos e7, e7]; exact hm (Re_wri_0 h hK hE)
            · rw [if_neg e7]
              by_cases e9 : what = 9
              · rw [if_pos e9, e9]; exact hm (Re_end_0 h)
              · rw [if_neg e9]
                by_cases e10 : what = 10
                · rw [if_pos e10, e10]; exact hm (Re_rdy_0 h)
                · rw [if_neg e10]
                  by_cases e13 : what = 13
                  · rw [if_pos e13, e13]; exact hm (Re_inp_0 h f2 f8 (h13 e13))
                  · rw [if_neg e13]
                    by_cases e14 : what = 14
                    · rw [if_pos e14, e14]; exact Re_alm_0 h hB f2 f8 hF (h14 e14) (fun h6 => hA e14 h6 hw)
                    · rw [if_neg e14]
                      by_cases e16 : what = 16
                      · rw [if_pos e16, e16, hears16_0]; exact hm (RB_shut_0 h)
                      · rw [if_neg e16, hears_no_0 e4 e5 e7 e9 e10 e13 e14 e16]; exact hm h
      · rw [if_neg hw, if_neg (fun q => hw q.symm)]; exact hm h

theorem RB_mono_1 {B B' : Nat} {v w : fw_V} (h : RB_1 B v w) (hb : B ≤ B') : RB_1 B' v w := ⟨h.rl, h.ri, h.wr, h.at, Lg_mono h.lg hb⟩
/-- a FRAME comes to the CONTROLLER: RELATION by RELATION -/
theorem Re_recv_1 {B : Nat} {v w : fw_V} {q : Nat} {what who n : Int32} (h : RB_1 B v w) (hB : B < 2 ^ 30) (hK : Kd v w) (hE : ∀ s, s < 3 → vp_in (w 24 0 (3 * 1 + s) + 1) 9) (f0 : v 7 q 0 = what) (f1 : v 7 q 1 = who) (f2 : v 7 q 2 = n) (f8 : ∀ t, t < 7 → v 8 q t = w 10 0 t) (hF : Fx v q) (h13 : what = 13 → vp_in n 256) (h14 : what = 14 → vp_in (w 10 0 0) 3) (hA : what = 14 → w 12 0 1 = 6 → w 13 0 1 = who → ¬ w 24 0 (3 * 1 + (w 10 0 0).toNatClampNeg) < 0) : RB_1 (B + 1) (xf_Re_receive v 1 q) (ctl_1 w what who n) := by
  have hm : ∀ {v' w' : fw_V}, RB_1 B v' w' → RB_1 (B + 1) v' w' := fun h => RB_mono_1 h (Nat.le_succ B)
  unfold xf_Re_receive ctl_1
  rw [f0]
  by_cases h2 : what = 2
  · rw [if_pos h2, if_pos h2]
    exact hm (Re_found_1 h f2 f8)
  · rw [if_neg h2, if_neg h2, h.rl.st, f1, h.rl.se]
    by_cases h0 : w 12 0 1 = 0
    · rw [if_pos h0, if_pos h0]; exact hm h
    · rw [if_neg h0, if_neg h0]
      by_cases hw : w 13 0 1 = who
      · rw [if_pos hw, if_pos hw.symm, f2]
        (try dsimp only)
        by_cases e4 : what = 4
        · rw [if_pos e4, e4]; exact hm (Re_acc_1 h hK hE)
        · rw [if_neg e4]
          by_cases e5 : what = 5
          · rw [if_pos e5, e5, hears5_1]
            unfold xf_Re_refused
            rw [h.rl.st]
            by_cases hs : w 12 0 1 = 2
            · rw [if_pos hs, if_pos hs]; exact hm (RB_shut_1 h)
            · rw [if_neg hs, if_neg hs]; exact hm h
          · rw [if_neg e5]
            by_cases e7 : what = 7
            · rw [if_pos e7, e7]; exact hm (Re_wri_1 h hK hE)
            · rw [if_neg e7]
              by_cases e9 : what = 9
              · rw [if_pos e9, e9]; exact hm (Re_end_1 h)
              · rw [if_neg e9]
                by_cases e10 : what = 10
                · rw [if_pos e10, e10]; exact hm (Re_rdy_1 h)
                · rw [if_neg e10]
                  by_cases e13 : what = 13
                  · rw [if_pos e13, e13]; exact hm (Re_inp_1 h f2 f8 (h13 e13))
                  · rw [if_neg e13]
                    by_cases e14 : what = 14
                    · rw [if_pos e14, e14]; exact Re_alm_1 h hB f2 f8 hF (h14 e14) (fun h6 => hA e14 h6 hw)
                    · rw [if_neg e14]
                      by_cases e16 : what = 16
                      · rw [if_pos e16, e16, hears16_1]; exact hm (RB_shut_1 h)
                      · rw [if_neg e16, hears_no_1 e4 e5 e7 e9 e10 e13 e14 e16]; exact hm h
      · rw [if_neg hw, if_neg (fun q => hw q.symm)]; exact hm h

theorem fw_up_id (v : fw_V) (c i k : Nat) : fw_up v c i k (v c i k) = v := by
  funext c' i' k'
  unfold fw_up
  split
  · rename_i h; obtain ⟨rfl, rfl, rfl⟩ := h; rfl
  · rfl
theorem fw_up_idx {v : fw_V} {c i k : Nat} {x : Int32} (h : x = v c i k) : fw_up v c i k x = v := by rw [h]; exact fw_up_id v c i k
theorem le01 {x : Int32} (h : x ≤ 0) : x ≤ 1 := by
  rw [Int32.le_iff_toInt_le] at h ⊢
  rw [show (0 : Int32).toInt = 0 from rfl] at h
  rw [show (1 : Int32).toInt = 1 from by decide]
  omega
/-- OUTPUT's row, slot s -/
def SO (u : fw_V) (r f s : Nat) : fw_V := fw_up (fw_up u 8 f (2 * s) (if xf_FR_hasSlot (u 13 r 13) (nI s) = 0 ∧ ¬ xf_KT_outsOf u (u 15 r s) ≤ 0 then u 17 r (2 * s) else u 8 f (2 * s))) 8 f (2 * s + 1) (if xf_FR_hasSlot (u 13 r 13) (nI s) = 0 ∧ ¬ xf_KT_outsOf u (u 15 r s) ≤ 1 then u 17 r (2 * s + 1) else u 8 f (2 * s + 1))
theorem SO_no {u : fw_V} {r f s : Nat} (h : ¬ xf_FR_hasSlot (u 13 r 13) (nI s) = 0) : SO u r f s = u := by
  unfold SO
  rw [if_neg (fun q => h q.1), if_neg (fun q => h q.1), fw_up_id, fw_up_id]
theorem SO_0 {u : fw_V} {r f s : Nat} (h : xf_FR_hasSlot (u 13 r 13) (nI s) = 0) (h0 : xf_KT_outsOf u (u 15 r s) ≤ 0) : SO u r f s = u := by
  unfold SO
  rw [if_neg (fun q => q.2 h0), if_neg (fun q => q.2 (le01 h0)), fw_up_id, fw_up_id]
theorem SO_1 {u : fw_V} {r f s : Nat} (h : xf_FR_hasSlot (u 13 r 13) (nI s) = 0) (h0 : ¬ xf_KT_outsOf u (u 15 r s) ≤ 0) (h1 : xf_KT_outsOf u (u 15 r s) ≤ 1) : SO u r f s = fw_up u 8 f (2 * s) (u 17 r (2 * s)) := by
  unfold SO
  rw [if_pos ⟨h, h0⟩, if_neg (fun q => q.2 h1), fw_up_idx (by rw [fw_up_k (by omega)])]
theorem SO_2 {u : fw_V} {r f s : Nat} (h : xf_FR_hasSlot (u 13 r 13) (nI s) = 0) (h1 : ¬ xf_KT_outsOf u (u 15 r s) ≤ 1) : SO u r f s = fw_up (fw_up u 8 f (2 * s) (u 17 r (2 * s))) 8 f (2 * s + 1) (u 17 r (2 * s + 1)) := by
  unfold SO
  rw [if_pos ⟨h, fun q => h1 (le01 q)⟩, if_pos ⟨h, h1⟩]
theorem so7 (u : fw_V) (r f : Nat) : xf_Re_sendOutput_j7 u r f = SO u r f 2 := by
  unfold xf_Re_sendOutput_j7 xf_Re_sendOutput_j8 xf_Re_sendOutput_j9 xf_Re_sendOutput_j10 xf_Re_sendOutput_j11 xf_Re_sendOutput_j12 xf_Re_sendOutput_j13 xf_Re_sendOutput_j14
  (try dsimp only)
  by_cases h : xf_FR_hasSlot (u 13 r 13) 2 = 0
  · rw [if_pos h]
    by_cases h0 : xf_KT_outsOf u (u 15 r 2) ≤ 0
    · rw [if_pos h0]; exact (SO_0 (s := 2) h h0).symm
    · rw [if_neg h0]
      by_cases h1 : xf_KT_outsOf u (u 15 r 2) ≤ 1
      · rw [if_pos h1]; exact (SO_1 (s := 2) h h0 h1).symm
      · rw [if_neg h1, fw_up_c (by decide)]; exact (SO_2 (s := 2) h h1).symm
  · rw [if_neg h]; exact (SO_no (s := 2) h).symm
theorem so4 (u : fw_V) (r f : Nat) : xf_Re_sendOutput_j4 u r f = SO (SO u r f 1) r f 2 := by
  unfold xf_Re_sendOutput_j4 xf_Re_sendOutput_j5 xf_Re_sendOutput_j6 xf_Re_sendOutput_j15 xf_Re_sendOutput_j16 xf_Re_sendOutput_j17 xf_Re_sendOutput_j18
  simp only [so7]
  by_cases h : xf_FR_hasSlot (u 13 r 13) 1 = 0
  · rw [if_pos h]
    by_cases h0 : xf_KT_outsOf u (u 15 r 1) ≤ 0
    · rw [if_pos h0, SO_0 (s := 1) h h0]
    · rw [if_neg h0]
      by_cases h1 : xf_KT_outsOf u (u 15 r 1) ≤ 1
      · rw [if_pos h1, SO_1 (s := 1) h h0 h1]
      · rw [if_neg h1, fw_up_c (by decide), SO_2 (s := 1) h h1]
  · rw [if_neg h, SO_no (s := 1) h]
theorem so1 (u : fw_V) (r f : Nat) : xf_Re_sendOutput_j1 u r f = SO (SO (SO u r f 0) r f 1) r f 2 := by
  unfold xf_Re_sendOutput_j1 xf_Re_sendOutput_j2 xf_Re_sendOutput_j3 xf_Re_sendOutput_j19 xf_Re_sendOutput_j20 xf_Re_sendOutput_j21 xf_Re_sendOutput_j22
  simp only [so4]
  by_cases h : xf_FR_hasSlot (u 13 r 13) 0 = 0
  · rw [if_pos h]
    by_cases h0 : xf_KT_outsOf u (u 15 r 0) ≤ 0
    · rw [if_pos h0, SO_0 (s := 0) h h0]
    · rw [if_neg h0]
      by_cases h1 : xf_KT_outsOf u (u 15 r 0) ≤ 1
      · rw [if_pos h1, SO_1 (s := 0) h h0 h1]
      · rw [if_neg h1, fw_up_c (by decide), SO_2 (s := 0) h h1]
  · rw [if_neg h, SO_no (s := 0) h]
theorem SO_c {u : fw_V} {r f s c i k : Nat} (h : ¬ (c = 8 ∧ i = f)) : SO u r f s c i k = u c i k := by
  unfold SO
  rw [fw_up_ne (fun q => h ⟨q.1, q.2.1⟩), fw_up_ne (fun q => h ⟨q.1, q.2.1⟩)]
theorem SO_k {u : fw_V} {r f s k : Nat} (h : k ≠ 2 * s) (h' : k ≠ 2 * s + 1) : SO u r f s 8 f k = u 8 f k := by
  unfold SO
  rw [fw_up_k h', fw_up_k h]
/-- what octet i of OUTPUT is -/
def OX (u : fw_V) (r s j : Nat) : Int32 := if xf_FR_hasSlot (u 13 r 13) (nI s) = 0 ∧ ¬ xf_KT_outsOf u (u 15 r s) ≤ nI j then u 17 r (2 * s + j) else 0
theorem OX_cg {u u' : fw_V} {r s j : Nat} (h : ∀ c i k, c ≠ 8 → u' c i k = u c i k) : OX u' r s j = OX u r s j := by
  unfold OX xf_KT_outsOf
  simp only [h 13 _ _ (by decide), h 15 _ _ (by decide), h 17 _ _ (by decide), h 3 _ _ (by decide)]
theorem SO_v {u : fw_V} {r f s j : Nat} (hj : j < 2) (hz : ∀ t, t < 7 → u 8 f t = 0) (hs : s < 3) : SO u r f s 8 f (2 * s + j) = OX u r s j := by
  unfold SO OX
  rcases (show j = 0 ∨ j = 1 by omega) with rfl | rfl
  · rw [fw_up_k (by omega), Nat.add_zero, fw_up_s, hz _ (by omega)]
    rfl
  · rw [fw_up_s, hz _ (by omega)]
    rfl
theorem SO_v' {u : fw_V} {r f s j : Nat} (hj : j < 2) (hz : ∀ t, 2 * s ≤ t → t < 7 → u 8 f t = 0) (hs : s < 3) : SO u r f s 8 f (2 * s + j) = OX u r s j := by
  unfold SO OX
  rcases (show j = 0 ∨ j = 1 by omega) with rfl | rfl
  · rw [fw_up_k (by omega), Nat.add_zero, fw_up_s, hz _ (by omega) (by omega)]
    rfl
  · rw [fw_up_s, hz _ (by omega) (by omega)]
    rfl
theorem so_row (u : fw_V) (r f : Nat) (hz : ∀ t, t < 7 → u 8 f t = 0) : (∀ s j, s < 3 → j < 2 → xf_Re_sendOutput_j1 u r f 8 f (2 * s + j) = OX u r s j) ∧ xf_Re_sendOutput_j1 u r f 8 f 6 = 0 ∧ ∀ c i k, ¬ (c = 8 ∧ i = f) → xf_Re_sendOutput_j1 u r f c i k = u c i k := by
  rw [so1]
  have c1 : ∀ c i k, c ≠ 8 → SO u r f 0 c i k = u c i k := fun c i k h => SO_c (fun q => h q.1)
  have c2 : ∀ c i k, c ≠ 8 → SO (SO u r f 0) r f 1 c i k = u c i k := fun c i k h => by rw [SO_c (fun q => h q.1), c1 c i k h]
  have z : ∀ k, SO (SO (SO u r f 0) r f 1) r f 2 8 f k = if k = 4 ∨ k = 5 then SO (SO (SO u r f 0) r f 1) r f 2 8 f k else if k = 2 ∨ k = 3 then SO (SO u r f 0) r f 1 8 f k else if k = 0 ∨ k = 1 then SO u r f 0 8 f k else u 8 f k := by
    intro k
    split
    · rfl
    · rename_i h; rw [SO_k (by omega) (by omega)]
      split
      · rfl
      · rename_i h; rw [SO_k (by omega) (by omega)]
        split
        · rfl
        · rename_i h; rw [SO_k (by omega) (by omega)]
  refine ⟨fun s j hs hj => ?_, ?_, fun c i k h => ?_⟩
  · have pj : j = 0 ∨ j = 1 := by omega
    rcases (show s = 0 ∨ s = 1 ∨ s = 2 by omega) with rfl | rfl | rfl
    · rw [SO_k (by omega) (by omega), SO_k (by omega) (by omega)]
      exact SO_v hj hz hs
    · rw [SO_k (by omega) (by omega), ← OX_cg c1]
      exact SO_v' hj (fun t h1 h2 => by rw [SO_k (by omega) (by omega)]; exact hz t h2) hs
    · rw [← OX_cg c2]
      exact SO_v' hj (fun t h1 h2 => by rw [SO_k (by omega) (by omega), SO_k (by omega) (by omega)]; exact hz t h2) hs
  · rw [SO_k (by decide) (by decide), SO_k (by decide) (by decide), SO_k (by decide) (by decide)]; exact hz 6 (by decide)
  · rw [SO_c h, SO_c h, SO_c h]

def Rs (r : Nat) (v w : fw_V) : Prop := (v 13 r 0 = nI r) ∧ (v 13 r 5 = w 14 0 r) ∧ (v 13 r 11 = w 13 0 r) ∧ (v 13 r 12 = w 15 0 r) ∧ (v 13 r 18 = w 23 0 r) ∧ (∀ s, s < 3 → v 15 r s = w 24 0 (3 * r + s)) ∧ (∀ s, s < 3 → v 16 r s = w 25 0 (3 * r + s)) ∧ (∀ i, i < 6 → v 17 r i = w 26 0 (6 * r + i))
theorem Rs.ix {r : Nat} {v w : fw_V} (h : Rs r v w) : v 13 r 0 = nI r := h.1
theorem Rs.nm {r : Nat} {v w : fw_V} (h : Rs r v w) : v 13 r 5 = w 14 0 r := h.2.1
theorem Rs.se {r : Nat} {v w : fw_V} (h : Rs r v w) : v 13 r 11 = w 13 0 r := h.2.2.1
theorem Rs.fo {r : Nat} {v w : fw_V} (h : Rs r v w) : v 13 r 12 = w 15 0 r := h.2.2.2.1
theorem Rs.to {r : Nat} {v w : fw_V} (h : Rs r v w) : v 13 r 18 = w 23 0 r := h.2.2.2.2.1
theorem Rs.ex {r : Nat} {v w : fw_V} (h : Rs r v w) : ∀ s, s < 3 → v 15 r s = w 24 0 (3 * r + s) := h.2.2.2.2.2.1
theorem Rs.pa {r : Nat} {v w : fw_V} (h : Rs r v w) : ∀ s, s < 3 → v 16 r s = w 25 0 (3 * r + s) := h.2.2.2.2.2.2.1
theorem Rs.gi {r : Nat} {v w : fw_V} (h : Rs r v w) : ∀ i, i < 6 → v 17 r i = w 26 0 (6 * r + i) := h.2.2.2.2.2.2.2
theorem Rs_of {r : Nat} {v w : fw_V} (h : Rl r v w) : Rs r v w := ⟨h.ix, h.nm, h.se, h.fo, h.to, h.ex, h.pa, h.gi⟩
theorem Rs_cg {r : Nat} {v v' w w' : fw_V} (h : Rs r v w) (hv : ∀ c k, 13 ≤ c → c ≤ 17 → ¬ (c = 13 ∧ (k = 10 ∨ k = 13 ∨ k = 14 ∨ k = 15 ∨ k = 16 ∨ k = 17 ∨ k = 19)) → v' c r k = v c r k) (hw : ∀ c k, c = 13 ∨ c = 14 ∨ c = 15 ∨ c = 23 ∨ c = 24 ∨ c = 25 ∨ c = 26 → w' c 0 k = w c 0 k) : Rs r v' w' := by
  refine ⟨?_, ?_, ?_, ?_, ?_, fun s hs => ?_, fun s hs => ?_, fun i hi => ?_⟩
  · rw [hv 13 0 (by decide) (by decide) (by decide)]; exact h.ix
  · rw [hv 13 5 (by decide) (by decide) (by decide), hw 14 r (by decide)]; exact h.nm
  · rw [hv 13 11 (by decide) (by decide) (by decide), hw 13 r (by decide)]; exact h.se
  · rw [hv 13 12 (by decide) (by decide) (by decide), hw 15 r (by decide)]; exact h.fo
  · rw [hv 13 18 (by decide) (by decide) (by decide), hw 23 r (by decide)]; exact h.to
  · rw [hv 15 s (by decide) (by decide) (fun q => absurd q.1 (by decide)), hw 24 _ (by decide)]; exact h.ex s hs
  · rw [hv 16 s (by decide) (by decide) (fun q => absurd q.1 (by decide)), hw 25 _ (by decide)]; exact h.pa s hs
  · rw [hv 17 i (by decide) (by decide) (fun q => absurd q.1 (by decide)), hw 26 _ (by decide)]; exact h.gi i hi

theorem Rs_shut_0 {v w : fw_V} (h : Rs 0 v w) : Rl 0 (xf_Re_shut v 0) (mf_Mo_shut_0 w) ∧ Ri 0 (mf_Mo_shut_0 w) := by
  unfold xf_Re_shut mf_Mo_shut_0 xf_Re_enter mf_Mo_enter_0
  constructor
  · refine ⟨?_, ?_, ?_, ?_, ?_, ?_, ?_, ?_, ?_, ?_, ?_, ?_, ?_, ?_, ?_, ?_, fun i hi => ?_⟩ <;> simp [fw_up, fw_row]
    · exact h.ix
    · exact h.nm
    · exact h.to
    · simpa using h.ex
    · simpa using h.pa
    · simpa using h.gi
    · rcases (show i = 0 ∨ i = 1 ∨ i = 2 ∨ i = 3 ∨ i = 4 ∨ i = 5 by omega) with rfl | rfl | rfl | rfl | rfl | rfl <;> simp
  · refine ⟨?_, fun _ => ⟨?_, ?_, ?_, ?_, ?_, fun i hi => ?_⟩, ?_, ?_, ?_, ?_, ?_, ?_, ?_⟩ <;> simp [fw_up]
    · exact fw_inc (by decide)
    · rcases (show i = 0 ∨ i = 1 ∨ i = 2 ∨ i = 3 ∨ i = 4 ∨ i = 5 by omega) with rfl | rfl | rfl | rfl | rfl | rfl <;> simp
theorem RBs_shut_0 {B : Nat} {v w : fw_V} (h : Rs 0 v w) (hW : Wr v w) (h9 : At w) (hl : Lg B v w) : RB_0 B (xf_Re_shut v 0) (mf_Mo_shut_0 w) :=
  ⟨(Rs_shut_0 h).1, (Rs_shut_0 h).2, Wr_shut_0 hW, At_shut_0 h9, Lg_cg hl (fun c k hc => xl_Re_shut hc v 0) (mz55_Mo_shut_0 rfl w) (fun k => ml_Mo_shut_0 rfl w)⟩
theorem RBs_abort_0 {B : Nat} {v w : fw_V} (h : Rs 0 v w) (hW : Wr v w) (h9 : At w) (hl : Lg B v w) : RB_0 B (xf_Re_abort v 0) (mf_Mo_shut_0 (mf_Mo_send w 16 (w 13 0 0) 0 (w 15 0 0))) := by
  unfold xf_Re_abort
  refine RBs_shut_0 (Rs_cg h (fun c k q1 q2 _ => xsend_c (by omega) (by omega) (by omega)) (fun c k hc => msend_c (by omega) (by omega) (by omega) (by omega) (by omega) (by omega) (by omega))) (Wr_s0 hW h9 rfl h.se.symm rfl h.fo.symm) At_send (Lg_send_0 hl)
/-- breaking off, past SEEKING or not -/
theorem RBs_break_0 {B : Nat} {v w : fw_V} (h : Rs 0 v w) (hW : Wr v w) (h9 : At w) (hl : Lg B v w) : RB_0 B (if w 12 0 0 ≤ 1 then xf_Re_shut v 0 else xf_Re_abort v 0) (mf_Mo_breakOff_0 w) := by
  unfold mf_Mo_breakOff_0
  by_cases q : w 12 0 0 ≤ 1
  · rw [if_pos q, if_pos q]; exact RBs_shut_0 h hW h9 hl
  · rw [if_neg q, if_neg q]; exact RBs_abort_0 h hW h9 hl
/-- what octet of OUTPUT the reference sends -/
def OM_0 (w : fw_V) (s j : Nat) : Int32 := if w 24 0 (0 + s) < (0 : Int32) then 0 else if ((w 16 0 0 >>> (nI s &&& 31)) &&& (1 : Int32)) = (0 : Int32) then (if w 2 0 (w 24 0 (0 + s)).toNatClampNeg ≤ nI j then 0 else w 26 0 (0 + 2 * s + j)) else 0
theorem OM_cg_0 {w w' : fw_V} {s j : Nat} (h : ∀ c k, c = 24 ∨ c = 16 ∨ c = 2 ∨ c = 26 → w' c 0 k = w c 0 k) : OM_0 w' s j = OM_0 w s j := by
  unfold OM_0
  simp only [h 24 _ (by decide), h 16 _ (by decide), h 2 _ (by decide), h 26 _ (by decide)]
theorem OM_9_0 {w : fw_V} {s j k : Nat} {x : Int32} : OM_0 (fw_up w 9 0 k x) s j = OM_0 w s j := OM_cg_0 (fun c k hc => fw_up_c (by omega))
theorem bt1_0 (w : fw_V) : mf_Mo_beat_0_j1 w = mf_Mo_beat_0_j5 (fw_up w 9 0 0 (OM_0 w 0 0)) := by
  unfold mf_Mo_beat_0_j1 mf_Mo_beat_0_j2 mf_Mo_beat_0_j3 mf_Mo_beat_0_j4 mf_Mo_beat_0_j36 mf_Mo_beat_0_j37 OM_0
  (try dsimp only)
  have e0 : nI 0 = (0 : Int32) := rfl
  have e1 : nI 0 = (0 : Int32) := rfl
  simp only [e0, e1, Nat.reduceAdd, Nat.reduceMul]
  by_cases h1 : w 24 0 0 < 0
  · simp only [h1, if_true]
  · by_cases h2 : ((w 16 0 0 >>> ((0 : Int32) &&& 31)) &&& (1 : Int32)) = 0
    · by_cases h3 : w 2 0 (w 24 0 0).toNatClampNeg ≤ (0 : Int32)
      · simp only [h1, h2, h3, if_true, if_false]
      · simp only [h1, h2, h3, if_true, if_false]
    · simp only [h1, h2, if_false]
theorem bt5_0 (w : fw_V) : mf_Mo_beat_0_j5 w = mf_Mo_beat_0_j9 (fw_up w 9 0 1 (OM_0 w 0 1)) := by
  unfold mf_Mo_beat_0_j5 mf_Mo_beat_0_j6 mf_Mo_beat_0_j7 mf_Mo_beat_0_j8 mf_Mo_beat_0_j34 mf_Mo_beat_0_j35 OM_0
  (try dsimp only)
  have e0 : nI 0 = (0 : Int32) := rfl
  have e1 : nI 1 = (1 : Int32) := rfl
  simp only [e0, e1, Nat.reduceAdd, Nat.reduceMul]
  by_cases h1 : w 24 0 0 < 0
  · simp only [h1, if_true]
  · by_cases h2 : ((w 16 0 0 >>> ((0 : Int32) &&& 31)) &&& (1 : Int32)) = 0
    · by_cases h3 : w 2 0 (w 24 0 0).toNatClampNeg ≤ (1 : Int32)
      · simp only [h1, h2, h3, if_true, if_false]
      · simp only [h1, h2, h3, if_true, if_false]
    · simp only [h1, h2, if_false]
theorem bt9_0 (w : fw_V) : mf_Mo_beat_0_j9 w = mf_Mo_beat_0_j13 (fw_up w 9 0 2 (OM_0 w 1 0)) := by
  unfold mf_Mo_beat_0_j9 mf_Mo_beat_0_j10 mf_Mo_beat_0_j11 mf_Mo_beat_0_j12 mf_Mo_beat_0_j32 mf_Mo_beat_0_j33 OM_0
  (try dsimp only)
  have e0 : nI 1 = (1 : Int32) := rfl
  have e1 : nI 0 = (0 : Int32) := rfl
  simp only [e0, e1, Nat.reduceAdd, Nat.reduceMul]
  by_cases h1 : w 24 0 1 < 0
  · simp only [h1, if_true]
  · by_cases h2 : ((w 16 0 0 >>> ((1 : Int32) &&& 31)) &&& (1 : Int32)) = 0
    · by_cases h3 : w 2 0 (w 24 0 1).toNatClampNeg ≤ (0 : Int32)
      · simp only [h1, h2, h3, if_true, if_false]
      · simp only [h1, h2, h3, if_true, if_false]
    · simp only [h1, h2, if_false]
theorem bt13_0 (w : fw_V) : mf_Mo_beat_0_j13 w = mf_Mo_beat_0_j17 (fw_up w 9 0 3 (OM_0 w 1 1)) := by
  unfold mf_Mo_beat_0_j13 mf_Mo_beat_0_j14 mf_Mo_beat_0_j15 mf_Mo_beat_0_j16 mf_Mo_beat_0_j30 mf_Mo_beat_0_j31 OM_0
  (try dsimp only)
  have e0 : nI 1 = (1 : Int32) := rfl
  have e1 : nI 1 = (1 : Int32) := rfl
  simp only [e0, e1, Nat.reduceAdd, Nat.reduceMul]
  by_cases h1 : w 24 0 1 < 0
  · simp only [h1, if_true]
  · by_cases h2 : ((w 16 0 0 >>> ((1 : Int32) &&& 31)) &&& (1 : Int32)) = 0
    · by_cases h3 : w 2 0 (w 24 0 1).toNatClampNeg ≤ (1 : Int32)
      · simp only [h1, h2, h3, if_true, if_false]
      · simp only [h1, h2, h3, if_true, if_false]
    · simp only [h1, h2, if_false]
theorem bt17_0 (w : fw_V) : mf_Mo_beat_0_j17 w = mf_Mo_beat_0_j21 (fw_up w 9 0 4 (OM_0 w 2 0)) := by
  unfold mf_Mo_beat_0_j17 mf_Mo_beat_0_j18 mf_Mo_beat_0_j19 mf_Mo_beat_0_j20 mf_Mo_beat_0_j28 mf_Mo_beat_0_j29 OM_0
  (try dsimp only)
  have e0 : nI 2 = (2 : Int32) := rfl
  have e1 : nI 0 = (0 : Int32) := rfl
  simp only [e0, e1, Nat.reduceAdd, Nat.reduceMul]
  by_cases h1 : w 24 0 2 < 0
  · simp only [h1, if_true]
  · by_cases h2 : ((w 16 0 0 >>> ((2 : Int32) &&& 31)) &&& (1 : Int32)) = 0
    · by_cases h3 : w 2 0 (w 24 0 2).toNatClampNeg ≤ (0 : Int32)
      · simp only [h1, h2, h3, if_true, if_false]
      · simp only [h1, h2, h3, if_true, if_false]
    · simp only [h1, h2, if_false]
theorem bt21_0 (w : fw_V) : mf_Mo_beat_0_j21 w = mf_Mo_beat_0_j25 (fw_up w 9 0 5 (OM_0 w 2 1)) := by
  unfold mf_Mo_beat_0_j21 mf_Mo_beat_0_j22 mf_Mo_beat_0_j23 mf_Mo_beat_0_j24 mf_Mo_beat_0_j26 mf_Mo_beat_0_j27 OM_0
  (try dsimp only)
  have e0 : nI 2 = (2 : Int32) := rfl
  have e1 : nI 1 = (1 : Int32) := rfl
  simp only [e0, e1, Nat.reduceAdd, Nat.reduceMul]
  by_cases h1 : w 24 0 2 < 0
  · simp only [h1, if_true]
  · by_cases h2 : ((w 16 0 0 >>> ((2 : Int32) &&& 31)) &&& (1 : Int32)) = 0
    · by_cases h3 : w 2 0 (w 24 0 2).toNatClampNeg ≤ (1 : Int32)
      · simp only [h1, h2, h3, if_true, if_false]
      · simp only [h1, h2, h3, if_true, if_false]
    · simp only [h1, h2, if_false]
theorem bt_0 (w : fw_V) : mf_Mo_beat_0_j1 w = mf_Mo_beat_0_j25 (fw_up (fw_up (fw_up (fw_up (fw_up (fw_up w 9 0 0 (OM_0 w 0 0)) 9 0 1 (OM_0 w 0 1)) 9 0 2 (OM_0 w 1 0)) 9 0 3 (OM_0 w 1 1)) 9 0 4 (OM_0 w 2 0)) 9 0 5 (OM_0 w 2 1)) := by
  rw [bt1_0, bt5_0, bt9_0, bt13_0, bt17_0, bt21_0]
  simp only [OM_9_0]
/-- the octets of both -/
theorem OXM_0 {v w : fw_V} {s j : Nat} (hs : s < 3) (hj : j < 2) (hK : Kd v w) (hE : ∀ s, s < 3 → vp_in (w 24 0 (3 * 0 + s) + 1) 9) (hd : v 13 0 13 = w 16 0 0) (he : ∀ s, s < 3 → v 15 0 s = w 24 0 (3 * 0 + s)) (hg : ∀ i, i < 6 → v 17 0 i = w 26 0 (6 * 0 + i)) : OX v 0 s j = OM_0 w s j := by
  unfold OX OM_0 xf_FR_hasSlot
  rw [hd, he s hs, KT_outs hK (hE s hs), hg (2 * s + j) (by omega), show 0 + s = 3 * 0 + s by omega, show 0 + 2 * s + j = 6 * 0 + (2 * s + j) by omega]
  by_cases h1 : w 24 0 (3 * 0 + s) < 0
  · rw [if_pos h1, if_pos h1, if_neg]
    intro q
    apply q.2
    show nI 0 ≤ nI j
    exact (nI_leI (by omega) (by omega)).mpr (Nat.zero_le _)
  · rw [if_neg h1, if_neg h1]
    rcases and1 (w 16 0 0 >>> (nI s &&& 31)) with b | b
    · rw [if_pos b, if_pos b]
      by_cases h3 : w 2 0 (w 24 0 (3 * 0 + s)).toNatClampNeg ≤ nI j
      · rw [if_pos h3, if_neg (fun q => q.2 h3)]
      · rw [if_neg h3, if_pos ⟨rfl, h3⟩]
    · rw [b, if_neg (show ¬ (1 : Int32) = 0 by decide), if_neg (show ¬ (1 : Int32) = 0 by decide), if_neg (fun q => absurd q.1 (by decide))]

theorem Rs_shut_1 {v w : fw_V} (h : Rs 1 v w) : Rl 1 (xf_Re_shut v 1) (mf_Mo_shut_1 w) ∧ Ri 1 (mf_Mo_shut_1 w) := by
  unfold xf_Re_shut mf_Mo_shut_1 xf_Re_enter mf_Mo_enter_1
  constructor
  · refine ⟨?_, ?_, ?_, ?_, ?_, ?_, ?_, ?_, ?_, ?_, ?_, ?_, ?_, ?_, ?_, ?_, fun i hi => ?_⟩ <;> simp [fw_up, fw_row]
    · exact h.ix
    · exact h.nm
    · exact h.to
    · simpa using h.ex
    · simpa using h.pa
    · simpa using h.gi
    · rcases (show i = 0 ∨ i = 1 ∨ i = 2 ∨ i = 3 ∨ i = 4 ∨ i = 5 by omega) with rfl | rfl | rfl | rfl | rfl | rfl <;> simp
  · refine ⟨?_, fun _ => ⟨?_, ?_, ?_, ?_, ?_, fun i hi => ?_⟩, ?_, ?_, ?_, ?_, ?_, ?_, ?_⟩ <;> simp [fw_up]
    · exact fw_inc (by decide)
    · rcases (show i = 0 ∨ i = 1 ∨ i = 2 ∨ i = 3 ∨ i = 4 ∨ i = 5 by omega) with rfl | rfl | rfl | rfl | rfl | rfl <;> simp
theorem RBs_shut_1 {B : Nat} {v w : fw_V} (h : Rs 1 v w) (hW : Wr v w) (h9 : At w) (hl : Lg B v w) : RB_1 B (xf_Re_shut v 1) (mf_Mo_shut_1 w) :=
  ⟨(Rs_shut_1 h).1, (Rs_shut_1 h).2, Wr_shut_1 hW, At_shut_1 h9, Lg_cg hl (fun c k hc => xl_Re_shut hc v 1) (mz55_Mo_shut_1 rfl w) (fun k => ml_Mo_shut_1 rfl w)⟩
theorem RBs_abort_1 {B : Nat} {v w : fw_V} (h : Rs 1 v w) (hW : Wr v w) (h9 : At w) (hl : Lg B v w) : RB_1 B (xf_Re_abort v 1) (mf_Mo_shut_1 (mf_Mo_send w 16 (w 13 0 1) 0 (w 15 0 1))) := by
  unfold xf_Re_abort
  refine RBs_shut_1 (Rs_cg h (fun c k q1 q2 _ => xsend_c (by omega) (by omega) (by omega)) (fun c k hc => msend_c (by omega) (by omega) (by omega) (by omega) (by omega) (by omega) (by omega))) (Wr_s0 hW h9 rfl h.se.symm rfl h.fo.symm) At_send (Lg_send_1 hl)
/-- breaking off, past SEEKING or not -/
theorem RBs_break_1 {B : Nat} {v w : fw_V} (h : Rs 1 v w) (hW : Wr v w) (h9 : At w) (hl : Lg B v w) : RB_1 B (if w 12 0 1 ≤ 1 then xf_Re_shut v 1 else xf_Re_abort v 1) (mf_Mo_breakOff_1 w) := by
  unfold mf_Mo_breakOff_1
  by_cases q : w 12 0 1 ≤ 1
  · rw [if_pos q, if_pos q]; exact RBs_shut_1 h hW h9 hl
  · rw [if_neg q, if_neg q]; exact RBs_abort_1 h hW h9 hl
/-- what octet of OUTPUT the reference sends -/
def OM_1 (w : fw_V) (s j : Nat) : Int32 := if w 24 0 (3 + s) < (0 : Int32) then 0 else if ((w 16 0 1 >>> (nI s &&& 31)) &&& (1 : Int32)) = (0 : Int32) then (if w 2 0 (w 24 0 (3 + s)).toNatClampNeg ≤ nI j then 0 else w 26 0 (6 + 2 * s + j)) else 0
theorem OM_cg_1 {w w' : fw_V} {s j : Nat} (h : ∀ c k, c = 24 ∨ c = 16 ∨ c = 2 ∨ c = 26 → w' c 0 k = w c 0 k) : OM_1 w' s j = OM_1 w s j := by
  unfold OM_1
  simp only [h 24 _ (by decide), h 16 _ (by decide), h 2 _ (by decide), h 26 _ (by decide)]
theorem OM_9_1 {w : fw_V} {s j k : Nat} {x : Int32} : OM_1 (fw_up w 9 0 k x) s j = OM_1 w s j := OM_cg_1 (fun c k hc => fw_up_c (by omega))
theorem bt1_1 (w : fw_V) : mf_Mo_beat_1_j1 w = mf_Mo_beat_1_j5 (fw_up w 9 0 0 (OM_1 w 0 0)) := by
  unfold mf_Mo_beat_1_j1 mf_Mo_beat_1_j2 mf_Mo_beat_1_j3 mf_Mo_beat_1_j4 mf_Mo_beat_1_j36 mf_Mo_beat_1_j37 OM_1
  (try dsimp only)
  have e0 : nI 0 = (0 : Int32) := rfl
  have e1 : nI 0 = (0 : Int32) := rfl
  simp only [e0, e1, Nat.reduceAdd, Nat.reduceMul]
  by_cases h1 : w 24 0 3 < 0
  · simp only [h1, if_true]
  · by_cases h2 : ((w 16 0 1 >>> ((0 : Int32) &&& 31)) &&& (1 : Int32)) = 0
    · by_cases h3 : w 2 0 (w 24 0 3).toNatClampNeg ≤ (0 : Int32)
      · simp only [h1, h2, h3, if_true, if_false]
      · simp only [h1, h2, h3, if_true, if_false]
    · simp only [h1, h2, if_false]
theorem bt5_1 (w : fw_V) : mf_Mo_beat_1_j5 w = mf_Mo_beat_1_j9 (fw_up w 9 0 1 (OM_1 w 0 1)) := by
  unfold mf_Mo_beat_1_j5 mf_Mo_beat_1_j6 mf_Mo_beat_1_j7 mf_Mo_beat_1_j8 mf_Mo_beat_1_j34 mf_Mo_beat_1_j35 OM_1
  (try dsimp only)
  have e0 : nI 0 = (0 : Int32) := rfl
  have e1 : nI 1 = (1 : Int32) := rfl
  simp only [e0, e1, Nat.reduceAdd, Nat.reduceMul]
  by_cases h1 : w 24 0 3 < 0
  · simp only [h1, if_true]
  · by_cases h2 : ((w 16 0 1 >>> ((0 : Int32) &&& 31)) &&& (1 : Int32)) = 0
    · by_cases h3 : w 2 0 (w 24 0 3).toNatClampNeg ≤ (1 : Int32)
      · simp only [h1, h2, h3, if_true, if_false]
      · simp only [h1, h2, h3, if_true, if_false]
    · simp only [h1, h2, if_false]
theorem bt9_1 (w : fw_V) : mf_Mo_beat_1_j9 w = mf_Mo_beat_1_j13 (fw_up w 9 0 2 (OM_1 w 1 0)) := by
  unfold mf_Mo_beat_1_j9 mf_Mo_beat_1_j10 mf_Mo_beat_1_j11 mf_Mo_beat_1_j12 mf_Mo_beat_1_j32 mf_Mo_beat_1_j33 OM_1
  (try dsimp only)
  have e0 : nI 1 = (1 : Int32) := rfl
  have e1 : nI 0 = (0 : Int32) := rfl
  simp only [e0, e1, Nat.reduceAdd, Nat.reduceMul]
  by_cases h1 : w 24 0 4 < 0
  · simp only [h1, if_true]
  · by_cases h2 : ((w 16 0 1 >>> ((1 : Int32) &&& 31)) &&& (1 : Int32)) = 0
    · by_cases h3 : w 2 0 (w 24 0 4).toNatClampNeg ≤ (0 : Int32)
      · simp only [h1, h2, h3, if_true, if_false]
      · simp only [h1, h2, h3, if_true, if_false]
    · simp only [h1, h2, if_false]
theorem bt13_1 (w : fw_V) : mf_Mo_beat_1_j13 w = mf_Mo_beat_1_j17 (fw_up w 9 0 3 (OM_1 w 1 1)) := by
  unfold mf_Mo_beat_1_j13 mf_Mo_beat_1_j14 mf_Mo_beat_1_j15 mf_Mo_beat_1_j16 mf_Mo_beat_1_j30 mf_Mo_beat_1_j31 OM_1
  (try dsimp only)
  have e0 : nI 1 = (1 : Int32) := rfl
  have e1 : nI 1 = (1 : Int32) := rfl
  simp only [e0, e1, Nat.reduceAdd, Nat.reduceMul]
  by_cases h1 : w 24 0 4 < 0
  · simp only [h1, if_true]
  · by_cases h2 : ((w 16 0 1 >>> ((1 : Int32) &&& 31)) &&& (1 : Int32)) = 0
    · by_cases h3 : w 2 0 (w 24 0 4).toNatClampNeg ≤ (1 : Int32)
      · simp only [h1, h2, h3, if_true, if_false]
      · simp only [h1, h2, h3, if_true, if_false]
    · simp only [h1, h2, if_false]
theorem bt17_1 (w : fw_V) : mf_Mo_beat_1_j17 w = mf_Mo_beat_1_j21 (fw_up w 9 0 4 (OM_1 w 2 0)) := by
  unfold mf_Mo_beat_1_j17 mf_Mo_beat_1_j18 mf_Mo_beat_1_j19 mf_Mo_beat_1_j20 mf_Mo_beat_1_j28 mf_Mo_beat_1_j29 OM_1
  (try dsimp only)
  have e0 : nI 2 = (2 : Int32) := rfl
  have e1 : nI 0 = (0 : Int32) := rfl
  simp only [e0, e1, Nat.reduceAdd, Nat.reduceMul]
  by_cases h1 : w 24 0 5 < 0
  · simp only [h1, if_true]
  · by_cases h2 : ((w 16 0 1 >>> ((2 : Int32) &&& 31)) &&& (1 : Int32)) = 0
    · by_cases h3 : w 2 0 (w 24 0 5).toNatClampNeg ≤ (0 : Int32)
      · simp only [h1, h2, h3, if_true, if_false]
      · simp only [h1, h2, h3, if_true, if_false]
    · simp only [h1, h2, if_false]
theorem bt21_1 (w : fw_V) : mf_Mo_beat_1_j21 w = mf_Mo_beat_1_j25 (fw_up w 9 0 5 (OM_1 w 2 1)) := by
  unfold mf_Mo_beat_1_j21 mf_Mo_beat_1_j22 mf_Mo_beat_1_j23 mf_Mo_beat_1_j24 mf_Mo_beat_1_j26 mf_Mo_beat_1_j27 OM_1
  (try dsimp only)
  have e0 : nI 2 = (2 : Int32) := rfl
  have e1 : nI 1 = (1 : Int32) := rfl
  simp only [e0, e1, Nat.reduceAdd, Nat.reduceMul]
  by_cases h1 : w 24 0 5 < 0
  · simp only [h1, if_true]
  · by_cases h2 : ((w 16 0 1 >>> ((2 : Int32) &&& 31)) &&& (1 : Int32)) = 0
    · by_cases h3 : w 2 0 (w 24 0 5).toNatClampNeg ≤ (1 : Int32)
      · simp only [h1, h2, h3, if_true, if_false]
      · simp only [h1, h2, h3, if_true, if_false]
    · simp only [h1, h2, if_false]
theorem bt_1 (w : fw_V) : mf_Mo_beat_1_j1 w = mf_Mo_beat_1_j25 (fw_up (fw_up (fw_up (fw_up (fw_up (fw_up w 9 0 0 (OM_1 w 0 0)) 9 0 1 (OM_1 w 0 1)) 9 0 2 (OM_1 w 1 0)) 9 0 3 (OM_1 w 1 1)) 9 0 4 (OM_1 w 2 0)) 9 0 5 (OM_1 w 2 1)) := by
  rw [bt1_1, bt5_1, bt9_1, bt13_1, bt17_1, bt21_1]
  simp only [OM_9_1]
/-- the octets of both -/
theorem OXM_1 {v w : fw_V} {s j : Nat} (hs : s < 3) (hj : j < 2) (hK : Kd v w) (hE : ∀ s, s < 3 → vp_in (w 24 0 (3 * 1 + s) + 1) 9) (hd : v 13 1 13 = w 16 0 1) (he : ∀ s, s < 3 → v 15 1 s = w 24 0 (3 * 1 + s)) (hg : ∀ i, i < 6 → v 17 1 i = w 26 0 (6 * 1 + i)) : OX v 1 s j = OM_1 w s j := by
  unfold OX OM_1 xf_FR_hasSlot
  rw [hd, he s hs, KT_outs hK (hE s hs), hg (2 * s + j) (by omega), show 3 + s = 3 * 1 + s by omega, show 6 + 2 * s + j = 6 * 1 + (2 * s + j) by omega]
  by_cases h1 : w 24 0 (3 * 1 + s) < 0
  · rw [if_pos h1, if_pos h1, if_neg]
    intro q
    apply q.2
    show nI 0 ≤ nI j
    exact (nI_leI (by omega) (by omega)).mpr (Nat.zero_le _)
  · rw [if_neg h1, if_neg h1]
    rcases and1 (w 16 0 1 >>> (nI s &&& 31)) with b | b
    · rw [if_pos b, if_pos b]
      by_cases h3 : w 2 0 (w 24 0 (3 * 1 + s)).toNatClampNeg ≤ nI j
      · rw [if_pos h3, if_neg (fun q => q.2 h3)]
      · rw [if_neg h3, if_pos ⟨rfl, h3⟩]
    · rw [b, if_neg (show ¬ (1 : Int32) = 0 by decide), if_neg (show ¬ (1 : Int32) = 0 by decide), if_neg (fun q => absurd q.1 (by decide))]

theorem and255 (x : Int32) : vp_in (x &&& 255) 256 := by
  have e : (x &&& 255).toBitVec = x.toBitVec &&& 255#32 := rfl
  have hl : (x.toBitVec &&& 255#32).toNat ≤ 255 := by
    rw [BitVec.toNat_and]
    exact Nat.and_le_right
  have ht : (x &&& 255).toInt = ((x.toBitVec &&& 255#32).toNat : Int) := by
    show (x &&& 255).toBitVec.toInt = _
    rw [e, BitVec.toInt_eq_toNat_cond, if_pos (by omega)]
  rw [vp_in_iff, ht]
  omega

/-- OUTPUT is sent, in DATA -/
theorem Re_out_0 {B : Nat} {v w : fw_V} (h : RB_0 B v w) (hK : Kd v w) (hE : ∀ s, s < 3 → vp_in (w 24 0 (3 * 0 + s) + 1) 9) (h6 : w 12 0 0 = 6) : RB_0 B (xf_Re_sendOutput v 0) (mf_Mo_beat_0_j1 w) := by
  have hR := h.rl
  have hI := h.ri
  obtain ⟨v3, e3⟩ : ∃ v3, v3 = fw_up v 14 0 0 ((v 14 0 0 + 1) &&& 255) := ⟨_, rfl⟩
  obtain ⟨f, ef⟩ : ∃ f, f = (xf_Wi_send v3 12 (v 13 0 11) (v 14 0 0) (v3 13 0 12)).1 := ⟨_, rfl⟩
  obtain ⟨u, eu⟩ : ∃ u, u = (xf_Wi_send v3 12 (v 13 0 11) (v 14 0 0) (v3 13 0 12)).2 := ⟨_, rfl⟩
  have eX : xf_Re_sendOutput v 0 = xf_Re_sendOutput_j1 u 0 f := by
    unfold xf_Re_sendOutput xf_Cy_nextToSend
    (try dsimp only)
    rw [← e3, ← ef, ← eu]
  obtain ⟨w6, e6⟩ : ∃ w6, w6 = fw_up (fw_up (fw_up (fw_up (fw_up (fw_up w 9 0 0 (OM_0 w 0 0)) 9 0 1 (OM_0 w 0 1)) 9 0 2 (OM_0 w 1 0)) 9 0 3 (OM_0 w 1 1)) 9 0 4 (OM_0 w 2 0)) 9 0 5 (OM_0 w 2 1) := ⟨_, rfl⟩
  have w6c : ∀ c k, c ≠ 9 → w6 c 0 k = w c 0 k := fun c k hc => by rw [e6, fw_up_c hc, fw_up_c hc, fw_up_c hc, fw_up_c hc, fw_up_c hc, fw_up_c hc]
  have eM : mf_Mo_beat_0_j1 w = fw_up (mf_Mo_send w6 12 (w 13 0 0) (w 21 0 0) (w 15 0 0)) 21 0 0 ((w 21 0 0 + 1) &&& 255) := by
    rw [bt_0, ← e6]
    unfold mf_Mo_beat_0_j25
    (try dsimp only)
    rw [w6c 13 _ (by decide), w6c 21 _ (by decide), w6c 15 _ (by decide), msend_c (by decide) (by decide) (by decide) (by decide) (by decide) (by decide) (by decide), w6c 21 _ (by decide)]
  have v3c : ∀ c i k, c ≠ 14 → v3 c i k = v c i k := fun c i k hc => by rw [e3, fw_up_c hc]
  have uz : ∀ t, t < 7 → u 8 f t = 0 := fun t _ => by rw [eu, ef]; exact xsend_8
  obtain ⟨x1, x2, x3⟩ := so_row u 0 f uz
  have uc : ∀ c i k, c ≠ 5 → c ≠ 7 → c ≠ 8 → u c i k = v3 c i k := fun c i k a1 a2 a3 => by rw [eu]; exact xsend_c a1 a2 a3
  have xc : ∀ c i k, c ≠ 5 → c ≠ 7 → c ≠ 8 → xf_Re_sendOutput_j1 u 0 f c i k = v3 c i k := fun c i k a1 a2 a3 => by rw [x3 c i k (fun q => a3 q.1), uc c i k a1 a2 a3]
  have hKu : Kd u w := ⟨fun k hk => by rw [uc 2 0 k (by decide) (by decide) (by decide), v3c 2 0 k (by decide)]; exact hK.ki k hk, fun k hk => by rw [uc 3 0 k (by decide) (by decide) (by decide), v3c 3 0 k (by decide)]; exact hK.ko k hk, fun k hk => by rw [uc 4 0 k (by decide) (by decide) (by decide), v3c 4 0 k (by decide)]; exact hK.kn k hk⟩
  have ox : ∀ s j, s < 3 → j < 2 → OX u 0 s j = OM_0 w s j := by
    intro s j hs hj
    refine OXM_0 hs hj hKu hE ?_ (fun s hs => ?_) (fun i hi => ?_)
    · rw [uc 13 0 13 (by decide) (by decide) (by decide), v3c 13 0 13 (by decide)]; exact hR.di (by rw [h6]; decide)
    · rw [uc 15 0 s (by decide) (by decide) (by decide), v3c 15 0 s (by decide)]; exact hR.ex s hs
    · rw [uc 17 0 i (by decide) (by decide) (by decide), v3c 17 0 i (by decide)]; exact hR.gi i hi
  rw [eX, eM]
  have wv : Wr v3 w := Wr_cg h.wr (fun c i k q1 q2 => v3c c i k (by omega)) ⟨rfl, rfl, rfl⟩ (fun _ _ _ _ => rfl)
  have n6 := hI.n6 h6
  refine ⟨?_, ?_, ?_, ?_, ?_⟩
  · refine Rl_cg (v := v3) (w := fw_up w 21 0 0 ((w 21 0 0 + 1) &&& 255)) ?_ (fun c k q1 q2 => xc c 0 k (by omega) (by omega) (by omega)) (fun c k q1 q2 => ?_)
    · rw [e3]
      have hne := hR.ne h6
      refine ⟨?_, ?_, ?_, ?_, ?_, ?_, ?_, ?_, ?_, ?_, ?_, ?_, ?_, ?_, ?_, ?_, ?_⟩ <;> simp [fw_up]
      · exact hR.ix
      · exact hR.nm
      · exact hR.st
      · exact hR.se
      · exact hR.fo
      · exact hR.di
      · exact hR.go
      · exact hR.ti
      · exact hR.ag
      · exact hR.sl
      · intro _; rw [hne]
      · exact hR.ta
      · exact hR.to
      · simpa using hR.ex
      · simpa using hR.pa
      · simpa using hR.gi
      · simpa using hR.gt
    · by_cases z : c = 21 ∧ k = 0
      · obtain ⟨rfl, rfl⟩ := z; rw [fw_up_s, fw_up_s]
      · rw [fw_up_ne (fun y => z ⟨y.1, y.2.2⟩), fw_up_ne (fun y => z ⟨y.1, y.2.2⟩), msend_c (by omega) (by omega) (by omega) (by omega) (by omega) (by omega) (by omega), w6c c k (by omega)]
  · refine Ri_cg (w := fw_up w 21 0 0 ((w 21 0 0 + 1) &&& 255)) ?_ (fun c k q1 q2 => ?_)
    · have := hI
      unfold Ri at this ⊢
      simp only [fw_up, Nat.reduceEqDiff, and_true, true_and, and_false, false_and, if_true, if_false, and_self]
      obtain ⟨a1, a2, a3, a4, a5, a6, a7, a8, a9⟩ := this
      exact ⟨a1, a2, a3, a4, a5, a6, fun _ => and255 _, a8, a9⟩
    · by_cases z : c = 21 ∧ k = 0
      · obtain ⟨rfl, rfl⟩ := z; rw [fw_up_s, fw_up_s]
      · rw [fw_up_ne (fun y => z ⟨y.1, y.2.2⟩), fw_up_ne (fun y => z ⟨y.1, y.2.2⟩), msend_c (by omega) (by omega) (by omega) (by omega) (by omega) (by omega) (by omega), w6c c k (by omega)]
  · have w0 : Wr (xf_Re_sendOutput_j1 u 0 f) (mf_Mo_send w6 12 (w 13 0 0) (w 21 0 0) (w 15 0 0)) := by
      refine Wr_sr_0 (v := v3) (w := w) wv (fun c k q1 q2 => w6c c k q1) rfl hR.se.symm (hR.ne h6).symm ((v3c 13 0 12 (by decide)).trans hR.fo).symm (fun c' i k q => ?_) (fun t ht => ?_)
      · rw [← ef] at q
        rw [x3 c' i k q, eu]
      · rw [← ef]
        rcases (show t = 0 ∨ t = 1 ∨ t = 2 ∨ t = 3 ∨ t = 4 ∨ t = 5 ∨ t = 6 by omega) with rfl | rfl | rfl | rfl | rfl | rfl | rfl
        · rw [show (0 : Nat) = 2 * 0 + 0 from rfl, x1 0 0 (by decide) (by decide), ox 0 0 (by decide) (by decide), e6]; simp [fw_up]
        · rw [show (1 : Nat) = 2 * 0 + 1 from rfl, x1 0 1 (by decide) (by decide), ox 0 1 (by decide) (by decide), e6]; simp [fw_up]
        · rw [show (2 : Nat) = 2 * 1 + 0 from rfl, x1 1 0 (by decide) (by decide), ox 1 0 (by decide) (by decide), e6]; simp [fw_up]
        · rw [show (3 : Nat) = 2 * 1 + 1 from rfl, x1 1 1 (by decide) (by decide), ox 1 1 (by decide) (by decide), e6]; simp [fw_up]
        · rw [show (4 : Nat) = 2 * 2 + 0 from rfl, x1 2 0 (by decide) (by decide), ox 2 0 (by decide) (by decide), e6]; simp [fw_up]
        · rw [show (5 : Nat) = 2 * 2 + 1 from rfl, x1 2 1 (by decide) (by decide), ox 2 1 (by decide) (by decide), e6]; simp [fw_up]
        · rw [x2, e6]; simp [fw_up]; exact (h.at 6 (by decide)).symm
    exact Wr_cg w0 (fun _ _ _ _ _ => rfl) ⟨fw_up_c (by decide), fw_up_c (by decide), fw_up_c (by decide)⟩ (fun c k q1 q2 => fw_up_c (by omega))
  · exact fun t ht => by rw [fw_up_c (by decide)]; exact msend_9 ht
  · refine Lg_cg h.lg (fun c k hc => ?_) ?_ (fun k => ?_)
    · rw [xc c 0 k (by omega) (by omega) (by omega), v3c c 0 k (by omega)]
    · rw [fw_up_c (by decide), msend_0k (by decide) (by decide) (by decide), w6c 0 55 (by decide)]
    · rw [fw_up_c (by decide), msend_c (by decide) (by decide) (by decide) (by decide) (by decide) (by decide) (by decide), w6c 49 k (by decide)]

/-- OUTPUT is sent, in DATA -/
theorem Re_out_1 {B : Nat} {v w : fw_V} (h : RB_1 B v w) (hK : Kd v w) (hE : ∀ s, s < 3 → vp_in (w 24 0 (3 * 1 + s) + 1) 9) (h6 : w 12 0 1 = 6) : RB_1 B (xf_Re_sendOutput v 1) (mf_Mo_beat_1_j1 w) := by
  have hR := h.rl
  have hI := h.ri
  obtain ⟨v3, e3⟩ : ∃ v3, v3 = fw_up v 14 1 0 ((v 14 1 0 + 1) &&& 255) := ⟨_, rfl⟩
  obtain ⟨f, ef⟩ : ∃ f, f = (xf_Wi_send v3 12 (v 13 1 11) (v 14 1 0) (v3 13 1 12)).1 := ⟨_, rfl⟩
  obtain ⟨u, eu⟩ : ∃ u, u = (xf_Wi_send v3 12 (v 13 1 11) (v 14 1 0) (v3 13 1 12)).2 := ⟨_, rfl⟩
  have eX : xf_Re_sendOutput v 1 = xf_Re_sendOutput_j1 u 1 f := by
    unfold xf_Re_sendOutput xf_Cy_nextToSend
    (try dsimp only)
    rw [← e3, ← ef, ← eu]
  obtain ⟨w6, e6⟩ : ∃ w6, w6 = fw_up (fw_up (fw_up (fw_up (fw_up (fw_up w 9 0 0 (OM_1 w 0 0)) 9 0 1 (OM_1 w 0 1)) 9 0 2 (OM_1 w 1 0)) 9 0 3 (OM_1 w 1 1)) 9 0 4 (OM_1 w 2 0)) 9 0 5 (OM_1 w 2 1) := ⟨_, rfl⟩
  have w6c : ∀ c k, c ≠ 9 → w6 c 0 k = w c 0 k := fun c k hc => by rw [e6, fw_up_c hc, fw_up_c hc, fw_up_c hc, fw_up_c hc, fw_up_c hc, fw_up_c hc]
  have eM : mf_Mo_beat_1_j1 w = fw_up (mf_Mo_send w6 12 (w 13 0 1) (w 21 0 1) (w 15 0 1)) 21 0 1 ((w 21 0 1 + 1) &&& 255) := by
    rw [bt_1, ← e6]
    unfold mf_Mo_beat_1_j25
    (try dsimp only)
    rw [w6c 13 _ (by decide), w6c 21 _ (by decide), w6c 15 _ (by decide), msend_c (by decide) (by decide) (by decide) (by decide) (by decide) (by decide) (by decide), w6c 21 _ (by decide)]
  have v3c : ∀ c i k, c ≠ 14 → v3 c i k = v c i k := fun c i k hc => by rw [e3, fw_up_c hc]
  have uz : ∀ t, t < 7 → u 8 f t = 0 := fun t _ => by rw [eu, ef]; exact xsend_8
  obtain ⟨x1, x2, x3⟩ := so_row u 1 f uz
  have uc : ∀ c i k, c ≠ 5 → c ≠ 7 → c ≠ 8 → u c i k = v3 c i k := fun c i k a1 a2 a3 => by rw [eu]; exact xsend_c a1 a2 a3
  have xc : ∀ c i k, c ≠ 5 → c ≠ 7 → c ≠ 8 → xf_Re_sendOutput_j1 u 1 f c i k = v3 c i k := fun c i k a1 a2 a3 => by rw [x3 c i k (fun q => a3 q.1), uc c i k a1 a2 a3]
  have hKu : Kd u w := ⟨fun k hk => by rw [uc 2 0 k (by decide) (by decide) (by decide), v3c 2 0 k (by decide)]; exact hK.ki k hk, fun k hk => by rw [uc 3 0 k (by decide) (by decide) (by decide), v3c 3 0 k (by decide)]; exact hK.ko k hk, fun k hk => by rw [uc 4 0 k (by decide) (by decide) (by decide), v3c 4 0 k (by decide)]; exact hK.kn k hk⟩
  have ox : ∀ s j, s < 3 → j < 2 → OX u 1 s j = OM_1 w s j := by
    intro s j hs hj
    refine OXM_1 hs hj hKu hE ?_ (fun s hs => ?_) (fun i hi => ?_)
    · rw [uc 13 1 13 (by decide) (by decide) (by decide), v3c 13 1 13 (by decide)]; exact hR.di (by rw [h6]; decide)
    · rw [uc 15 1 s (by decide) (by decide) (by decide), v3c 15 1 s (by decide)]; exact hR.ex s hs
    · rw [uc 17 1 i (by decide) (by decide) (by decide), v3c 17 1 i (by decide)]; exact hR.gi i hi
  rw [eX, eM]
  have wv : Wr v3 w := Wr_cg h.wr (fun c i k q1 q2 => v3c c i k (by omega)) ⟨rfl, rfl, rfl⟩ (fun _ _ _ _ => rfl)
  have n6 := hI.n6 h6
  refine ⟨?_, ?_, ?_, ?_, ?_⟩
  · refine Rl_cg (v := v3) (w := fw_up w 21 0 1 ((w 21 0 1 + 1) &&& 255)) ?_ (fun c k q1 q2 => xc c 1 k (by omega) (by omega) (by omega)) (fun c k q1 q2 => ?_)
    · rw [e3]
      have hne := hR.ne h6
      refine ⟨?_, ?_, ?_, ?_, ?_, ?_, ?_, ?_, ?_, ?_, ?_, ?_, ?_, ?_, ?_, ?_, ?_⟩ <;> simp [fw_up]
      · exact hR.ix
      · exact hR.nm
      · exact hR.st
      · exact hR.se
      · exact hR.fo
      · exact hR.di
      · exact hR.go
      · exact hR.ti
      · exact hR.ag
      · exact hR.sl
      · intro _; rw [hne]
      · exact hR.ta
      · exact hR.to
      · simpa using hR.ex
      · simpa using hR.pa
      · simpa using hR.gi
      · simpa using hR.gt
    · by_cases z : c = 21 ∧ k = 1
      · obtain ⟨rfl, rfl⟩ := z; rw [fw_up_s, fw_up_s]
      · rw [fw_up_ne (fun y => z ⟨y.1, y.2.2⟩), fw_up_ne (fun y => z ⟨y.1, y.2.2⟩), msend_c (by omega) (by omega) (by omega) (by omega) (by omega) (by omega) (by omega), w6c c k (by omega)]
  · refine Ri_cg (w := fw_up w 21 0 1 ((w 21 0 1 + 1) &&& 255)) ?_ (fun c k q1 q2 => ?_)
    · have := hI
      unfold Ri at this ⊢
      simp only [fw_up, Nat.reduceEqDiff, and_true, true_and, and_false, false_and, if_true, if_false, and_self]
      obtain ⟨a1, a2, a3, a4, a5, a6, a7, a8, a9⟩ := this
      exact ⟨a1, a2, a3, a4, a5, a6, fun _ => and255 _, a8, a9⟩
    · by_cases z : c = 21 ∧ k = 1
      · obtain ⟨rfl, rfl⟩ := z; rw [fw_up_s, fw_up_s]
      · rw [fw_up_ne (fun y => z ⟨y.1, y.2.2⟩), fw_up_ne (fun y => z ⟨y.1, y.2.2⟩), msend_c (by omega) (by omega) (by omega) (by omega) (by omega) (by omega) (by omega), w6c c k (by omega)]
  · have w0 : Wr (xf_Re_sendOutput_j1 u 1 f) (mf_Mo_send w6 12 (w 13 0 1) (w 21 0 1) (w 15 0 1)) := by
      refine Wr_sr_1 (v := v3) (w := w) wv (fun c k q1 q2 => w6c c k q1) rfl hR.se.symm (hR.ne h6).symm ((v3c 13 1 12 (by decide)).trans hR.fo).symm (fun c' i k q => ?_) (fun t ht => ?_)
      · rw [← ef] at q
        rw [x3 c' i k q, eu]
      · rw [← ef]
        rcases (show t = 0 ∨ t = 1 ∨ t = 2 ∨ t = 3 ∨ t = 4 ∨ t = 5 ∨ t = 6 by omega) with rfl | rfl | rfl | rfl | rfl | rfl | rfl
        · rw [show (0 : Nat) = 2 * 0 + 0 from rfl, x1 0 0 (by decide) (by decide), ox 0 0 (by decide) (by decide), e6]; simp [fw_up]
        · rw [show (1 : Nat) = 2 * 0 + 1 from rfl, x1 0 1 (by decide) (by decide), ox 0 1 (by decide) (by decide), e6]; simp [fw_up]
        · rw [show (2 : Nat) = 2 * 1 + 0 from rfl, x1 1 0 (by decide) (by decide), ox 1 0 (by decide) (by decide), e6]; simp [fw_up]
        · rw [show (3 : Nat) = 2 * 1 + 1 from rfl, x1 1 1 (by decide) (by decide), ox 1 1 (by decide) (by decide), e6]; simp [fw_up]
        · rw [show (4 : Nat) = 2 * 2 + 0 from rfl, x1 2 0 (by decide) (by decide), ox 2 0 (by decide) (by decide), e6]; simp [fw_up]
        · rw [show (5 : Nat) = 2 * 2 + 1 from rfl, x1 2 1 (by decide) (by decide), ox 2 1 (by decide) (by decide), e6]; simp [fw_up]
        · rw [x2, e6]; simp [fw_up]; exact (h.at 6 (by decide)).symm
    exact Wr_cg w0 (fun _ _ _ _ _ => rfl) ⟨fw_up_c (by decide), fw_up_c (by decide), fw_up_c (by decide)⟩ (fun c k q1 q2 => fw_up_c (by omega))
  · exact fun t ht => by rw [fw_up_c (by decide)]; exact msend_9 ht
  · refine Lg_cg h.lg (fun c k hc => ?_) ?_ (fun k => ?_)
    · rw [xc c 0 k (by omega) (by omega) (by omega), v3c c 0 k (by omega)]
    · rw [fw_up_c (by decide), msend_0k (by decide) (by decide) (by decide), w6c 0 55 (by decide)]
    · rw [fw_up_c (by decide), msend_c (by decide) (by decide) (by decide) (by decide) (by decide) (by decide) (by decide), w6c 49 k (by decide)]

theorem fw_up_tw_0 {v : fw_V} {c i k : Nat} {x y : Int32} : fw_up (fw_up v c i k x) c i k y = fw_up v c i k y := by
  funext c' i' k'
  unfold fw_up
  split <;> rfl
theorem ask_idem_0 {w : fw_V} : mf_Mo_ask_0 (fw_up w 18 0 0 0) = mf_Mo_ask_0 w := by
  unfold mf_Mo_ask_0
  rw [fw_up_tw_0]
/-- a TICK for RELATION r -/
theorem Re_tick_0 {B : Nat} {v w : fw_V} (h : RB_0 B v w) (hK : Kd v w) (hE : ∀ s, s < 3 → vp_in (w 24 0 (3 * 0 + s) + 1) 9) : RB_0 B (xf_Re_passTick v 0) (mf_Mo_beat_0 w) ∧ ((xf_Re_passTick v 0 13 0 19 = v 13 0 19 ∧ mf_Mo_beat_0 w 0 0 56 = w 0 0 56) ∨ (xf_Re_passTick v 0 13 0 19 = v 13 0 19 + 1 ∧ mf_Mo_beat_0 w 0 0 56 = w 0 0 56 + 1)) := by
  have hR := h.rl
  have hI := h.ri
  unfold xf_Re_passTick mf_Mo_beat_0
  rw [hR.st]
  by_cases h0 : w 12 0 0 = 0
  · rw [if_pos h0, if_pos h0]; exact ⟨h, Or.inl ⟨rfl, rfl⟩⟩
  · rw [if_neg h0, if_neg h0]
    (try dsimp only)
    obtain ⟨v2, e2⟩ : ∃ v2, v2 = fw_up v 13 0 15 (v 13 0 15 + 1) := ⟨_, rfl⟩
    obtain ⟨w2, f2⟩ : ∃ w2, w2 = fw_up w 18 0 0 (w 18 0 0 + 1) := ⟨_, rfl⟩
    rw [← e2, ← f2]
    have s2 : w2 12 0 0 = w 12 0 0 := by rw [f2]; exact fw_up_c (by decide)
    have t2 : w2 18 0 0 = w 18 0 0 + 1 := by rw [f2]; exact fw_up_s
    have sv : v2 13 0 10 = w 12 0 0 := by rw [e2, fw_up_k (by decide)]; exact hR.st
    have tv : v2 13 0 15 = w 18 0 0 + 1 := by rw [e2, fw_up_s, hR.ti]
    have v2c : ∀ c i k, ¬ (c = 13 ∧ i = 0 ∧ k = 15) → v2 c i k = v c i k := fun c i k q => by rw [e2, fw_up_ne q]
    have w2c : ∀ c k, ¬ (c = 18 ∧ k = 0) → w2 c 0 k = w c 0 k := fun c k q => by rw [f2, fw_up_ne (fun z => q ⟨z.1, z.2.2⟩)]
    have rl2 : Rl 0 v2 w2 := by
      rw [e2, f2]
      refine ⟨?_, ?_, ?_, ?_, ?_, ?_, ?_, ?_, ?_, ?_, ?_, ?_, ?_, ?_, ?_, ?_, ?_⟩ <;> simp [fw_up]
      · exact hR.ix
      · exact hR.nm
      · exact hR.st
      · exact hR.se
      · exact hR.fo
      · exact hR.di
      · exact hR.go
      · rw [hR.ti]
      · exact hR.ag
      · exact hR.sl
      · exact hR.ne
      · exact hR.ta
      · exact hR.to
      · simpa using hR.ex
      · simpa using hR.pa
      · simpa using hR.gi
      · simpa using hR.gt
    have wr2 : Wr v2 w2 := Wr_cg h.wr (fun c i k q1 q2 => v2c c i k (by omega)) ⟨w2c 0 10 (by omega), w2c 0 50 (by omega), w2c 0 51 (by omega)⟩ (fun c k q1 q2 => w2c c k (by omega))
    have at2 : At w2 := fun t ht => by rw [w2c 9 t (by omega)]; exact h.at t ht
    have lg2 : Lg B v2 w2 := Lg_cg h.lg (fun c k hc => v2c c 0 k (by omega)) (w2c 0 55 (by omega)) (fun k => w2c 49 k (by omega))
    have hK2 : Kd v2 w2 := ⟨fun k hk => by rw [v2c 2 0 k (by omega), w2c 1 k (by omega)]; exact hK.ki k hk, fun k hk => by rw [v2c 3 0 k (by omega), w2c 2 k (by omega)]; exact hK.ko k hk, fun k hk => by rw [v2c 4 0 k (by omega), w2c 3 k (by omega)]; exact hK.kn k hk⟩
    have hE2 : ∀ s, s < 3 → vp_in (w2 24 0 (3 * 0 + s) + 1) 9 := fun s hs => by rw [w2c 24 _ (by omega)]; exact hE s hs
    have ri2 : (w 12 0 0 = 6 → vp_in (w 18 0 0 + 1) 4) → (w 12 0 0 = 5 → vp_in (w 18 0 0 + 1) 12) → (w 12 0 0 ≠ 5 → w 12 0 0 ≠ 6 → vp_in (w 18 0 0 + 1) 4) → Ri 0 w2 := by
      intro b6 b5 b4
      refine ⟨?_, fun q => absurd (s2.symm.trans q) h0, ?_, ?_, ?_, ?_, ?_, ?_, ?_⟩
      · rw [s2]; exact hI.s7
      · rw [s2, w2c 17 _ (by omega)]; exact hI.g6
      · rw [s2, t2]; exact b6
      · rw [s2, t2]; exact b5
      · rw [s2, t2, w2c 19 _ (by omega)]; exact fun q1 q2 q3 => ⟨b4 q2 q3, (hI.t4 q1 q2 q3).2⟩
      · rw [s2, w2c 21 _ (by omega)]; exact hI.n6
      · rw [s2, w2c 22 _ (by omega)]; exact hI.l6
      · rw [s2, w2c 20 _ (by omega)]; exact hI.w3
    have xv19 : v2 13 0 19 = v 13 0 19 := v2c 13 0 19 (by omega)
    have xw56 : w2 0 0 56 = w 0 0 56 := w2c 0 56 (by omega)
    rw [sv, s2]
    by_cases h6 : w 12 0 0 = 6
    · rw [if_pos h6, if_pos h6]
      obtain ⟨t, ht, et⟩ := vp_in_of (hI.t6 h6) (by decide)
      unfold xf_Re_passTickInData
      (try dsimp only)
      rw [tv, t2, et, nI_1]
      by_cases h3 : t = 3
      · subst h3
        rw [if_neg (show ¬ nI (3 + 1) < 4 by decide), if_pos (show nI (3 + 1) = (4 : Int32) by decide)]
        have hb : mf_Mo_breakOff_0 (fw_up w2 0 0 56 (w2 0 0 56 + 1)) = mf_Mo_shut_0 (mf_Mo_send (fw_up w2 0 0 56 (w2 0 0 56 + 1)) 16 (fw_up w2 0 0 56 (w2 0 0 56 + 1) 13 0 0) 0 (fw_up w2 0 0 56 (w2 0 0 56 + 1) 15 0 0)) := by
          unfold mf_Mo_breakOff_0
          rw [fw_up_c (by decide), s2, if_neg (by rw [h6]; decide)]
        rw [hb]
        refine ⟨RBs_abort_0 (Rs_cg (Rs_of rl2) (fun c k q1 q2 q3 => fw_up_ne (fun z => q3 ⟨z.1, by omega⟩)) (fun c k hc => fw_up_c (by omega))) (Wr_cg wr2 (fun c i k q1 q2 => fw_up_c (by omega)) ⟨fw_up_k (by decide), fw_up_k (by decide), fw_up_k (by decide)⟩ (fun c k q1 q2 => fw_up_c (by omega))) (fun t ht => by rw [fw_up_c (by decide)]; exact at2 t ht) (Lg_cg lg2 (fun c k hc => fw_up_c (by omega)) (fw_up_k (by decide)) (fun k => fw_up_c (by decide))), Or.inr ⟨?_, ?_⟩⟩
        · rw [xq_Re_abort ⟨rfl, rfl⟩, fw_up_s, xv19]
        · rw [mz56_Mo_shut_0 rfl, msend_0k (by decide) (by decide) (by decide), fw_up_s, xw56]
      · rw [if_pos (show nI (t + 1) < 4 from (nI_ltI (a := t + 1) (b := 4) (by omega) (by omega)).mpr (by omega)), if_neg (show ¬ nI (t + 1) = (4 : Int32) from fun q => by
          have := (nI_eq (a := t + 1) (b := 4) (by omega) (by omega)).mp q
          omega)]
        have ok : vp_in (w 18 0 0 + 1) 4 := by rw [et, nI_1]; exact vp_in_nI (by omega) (by decide)
        have hB2 : RB_0 B v2 w2 := ⟨rl2, ri2 (fun _ => ok) (fun q => absurd (h6.symm.trans q) (by decide)) (fun _ q => absurd h6 q), wr2, at2, lg2⟩
        refine ⟨Re_out_0 hB2 hK2 hE2 (by rw [s2]; exact h6), Or.inl ⟨?_, ?_⟩⟩
        · rw [xq_Re_sendOutput ⟨rfl, rfl⟩, xv19]
        · rw [mz56_Mo_beat_0_j1 rfl, xw56]
    · rw [if_neg h6, if_neg h6]
      by_cases h5 : w 12 0 0 = 5
      · rw [if_pos h5, if_pos h5]
        obtain ⟨t, ht, et⟩ := vp_in_of (hI.t5 h5) (by decide)
        rw [tv, t2, et, nI_1]
        by_cases h3 : t = 11
        · subst h3
          rw [if_neg (show ¬ nI (11 + 1) < 12 by decide), if_pos (show nI (11 + 1) = (12 : Int32) by decide)]
          have hb : mf_Mo_breakOff_0 w2 = mf_Mo_shut_0 (mf_Mo_send w2 16 (w2 13 0 0) 0 (w2 15 0 0)) := by
            unfold mf_Mo_breakOff_0
            rw [s2, if_neg (by rw [h5]; decide)]
          rw [hb]
          refine ⟨RBs_abort_0 (Rs_of rl2) wr2 at2 lg2, Or.inl ⟨?_, ?_⟩⟩
          · rw [xq_Re_abort ⟨rfl, rfl⟩, xv19]
          · rw [mz56_Mo_shut_0 rfl, msend_0k (by decide) (by decide) (by decide), xw56]
        · rw [if_pos (show nI (t + 1) < 12 from (nI_ltI (a := t + 1) (b := 12) (by omega) (by omega)).mpr (by omega)), if_neg (show ¬ nI (t + 1) = (12 : Int32) from fun q => by
            have := (nI_eq (a := t + 1) (b := 12) (by omega) (by omega)).mp q
            omega)]
          have ok : vp_in (w 18 0 0 + 1) 12 := by rw [et, nI_1]; exact vp_in_nI (by omega) (by decide)
          exact ⟨⟨rl2, ri2 (fun q => absurd q h6) (fun _ => ok) (fun q _ => absurd h5 q), wr2, at2, lg2⟩, Or.inl ⟨xv19, xw56⟩⟩
      · rw [if_neg h5, if_neg h5]
        obtain ⟨b1, b2⟩ := hI.t4 h0 h5 h6
        obtain ⟨t, ht, et⟩ := vp_in_of b1 (by decide)
        obtain ⟨a, ha, ea⟩ := vp_in_of b2 (by decide)
        rw [tv, t2, et, nI_1]
        by_cases h3 : t = 3
        · subst h3
          rw [if_neg (show ¬ nI (3 + 1) < 4 by decide), if_pos (show nI (3 + 1) = (4 : Int32) by decide)]
          unfold xf_Re_requestAgain
          have ag2 : v2 13 0 16 = nI a := by rw [v2c 13 0 16 (by omega), hR.ag]; exact ea
          have aw2 : w2 19 0 0 = nI a := by rw [w2c 19 _ (by omega)]; exact ea
          rw [ag2, aw2, sv, nI_1]
          by_cases h2 : a = 2
          · subst h2
            rw [if_pos (show (2 : Int32) ≤ nI 2 by decide), if_pos (show nI 2 = (2 : Int32) by decide)]
            have rs : Rs 0 v2 (fw_up w2 19 0 0 (nI (2 + 1))) := Rs_cg (Rs_of rl2) (fun _ _ _ _ _ => rfl) (fun c k hc => fw_up_c (by omega))
            have hb := RBs_break_0 (B := B) rs (Wr_cg wr2 (fun _ _ _ _ _ => rfl) ⟨fw_up_c (by decide), fw_up_c (by decide), fw_up_c (by decide)⟩ (fun c k q1 q2 => fw_up_c (by omega))) (fun t ht => by rw [fw_up_c (by decide)]; exact at2 t ht) (Lg_cg lg2 (fun _ _ _ => rfl) (fw_up_c (by decide)) (fun k => fw_up_c (by decide)))
            rw [fw_up_c (show (12 : Nat) ≠ 19 by decide), s2] at hb
            have m56 : mf_Mo_breakOff_0 (fw_up w2 19 0 0 (nI (2 + 1))) 0 0 56 = w 0 0 56 := by rw [mz56_Mo_breakOff_0 rfl, fw_up_c (by decide), xw56]
            by_cases h1 : w 12 0 0 = 1
            · rw [if_pos h1]
              rw [if_pos (by rw [h1]; decide)] at hb
              exact ⟨hb, Or.inl ⟨by rw [xq_Re_shut ⟨rfl, rfl⟩, xv19], m56⟩⟩
            · rw [if_neg h1]
              have : ¬ w 12 0 0 ≤ 1 := by
                obtain ⟨z, hz, ez⟩ := vp_in_of hI.s7 (by decide)
                rw [ez] at h0 h1 ⊢
                intro q
                have := (nI_leI (a := z) (b := 1) (by omega) (by omega)).mp q
                rcases (show z = 0 ∨ z = 1 by omega) with rfl | rfl
                · exact h0 rfl
                · exact h1 rfl
              rw [if_neg this] at hb
              exact ⟨hb, Or.inl ⟨by rw [xq_Re_abort ⟨rfl, rfl⟩, xv19], m56⟩⟩
          · rw [if_neg (show ¬ (2 : Int32) ≤ nI a from fun q => by
              have := (nI_leI (a := 2) (b := a) (by omega) (by omega)).mp q
              omega), if_neg (show ¬ nI a = (2 : Int32) from fun q => h2 ((nI_eq (a := a) (b := 2) (by omega) (by omega)).mp q))]
            (try dsimp only)
            obtain ⟨w7, f7⟩ : ∃ w7, w7 = fw_up (fw_up w2 19 0 0 (nI (a + 1))) 18 0 0 0 := ⟨_, rfl⟩
            obtain ⟨v7, e7⟩ : ∃ v7, v7 = fw_up (fw_up v2 13 0 16 (nI (a + 1))) 13 0 15 0 := ⟨_, rfl⟩
            rw [← ask_idem_0 (w := fw_up w2 19 0 0 (nI (a + 1))), ← f7, ← e7]
            have w7c : ∀ c k, ¬ ((c = 18 ∨ c = 19) ∧ k = 0) → w7 c 0 k = w2 c 0 k := fun c k q => by rw [f7, fw_up_ne (fun z => q ⟨Or.inl z.1, z.2.2⟩), fw_up_ne (fun z => q ⟨Or.inr z.1, z.2.2⟩)]
            have v7c : ∀ c i k, ¬ (c = 13 ∧ (k = 15 ∨ k = 16)) → v7 c i k = v2 c i k := fun c i k q => by rw [e7, fw_up_ne (fun z => q ⟨z.1, Or.inl z.2.2⟩), fw_up_ne (fun z => q ⟨z.1, Or.inr z.2.2⟩)]
            have t7 : w7 18 0 0 = 0 := by rw [f7]; exact fw_up_s
            have a7 : w7 19 0 0 = nI (a + 1) := by rw [f7, fw_up_c (by decide)]; exact fw_up_s
            have s7 : w7 12 0 0 = w 12 0 0 := by rw [w7c 12 _ (by omega)]; exact s2
            have rl7 : Rl 0 v7 w7 := by
              refine ⟨?_, ?_, ?_, ?_, ?_, ?_, ?_, ?_, ?_, ?_, ?_, ?_, ?_, fun s hs => ?_, fun s hs => ?_, fun i hi => ?_, fun i hi => ?_⟩
              · rw [v7c 13 0 0 (by omega)]; exact rl2.ix
              · rw [v7c 13 0 5 (by omega), w7c 14 _ (by omega)]; exact rl2.nm
              · rw [v7c 13 0 10 (by omega), w7c 12 _ (by omega)]; exact rl2.st
              · rw [v7c 13 0 11 (by omega), w7c 13 _ (by omega)]; exact rl2.se
              · rw [v7c 13 0 12 (by omega), w7c 15 _ (by omega)]; exact rl2.fo
              · rw [v7c 13 0 13 (by omega), w7c 16 _ (by omega), w7c 12 _ (by omega)]; exact rl2.di
              · rw [v7c 13 0 14 (by omega), w7c 17 _ (by omega)]; exact rl2.go
              · rw [t7, e7]; exact fw_up_s
              · rw [a7, e7, fw_up_k (by decide)]; exact fw_up_s
              · rw [v7c 13 0 17 (by omega), w7c 20 _ (by omega), w7c 12 _ (by omega)]; exact rl2.sl
              · rw [v7c 14 0 0 (by omega), w7c 21 _ (by omega), w7c 12 _ (by omega)]; exact rl2.ne
              · rw [v7c 14 0 1 (by omega), w7c 22 _ (by omega), w7c 12 _ (by omega)]; exact rl2.ta
              · rw [v7c 13 0 18 (by omega), w7c 23 _ (by omega)]; exact rl2.to
              · rw [v7c 15 0 s (by omega), w7c 24 _ (by omega)]; exact rl2.ex s hs
              · rw [v7c 16 0 s (by omega), w7c 25 _ (by omega)]; exact rl2.pa s hs
              · rw [v7c 17 0 i (by omega), w7c 26 _ (by omega)]; exact rl2.gi i hi
              · rw [v7c 18 0 i (by omega), w7c 27 _ (by omega)]; exact rl2.gt i hi
            have ri7 : Ri 0 w7 := by
              refine ⟨?_, fun q => absurd (s7.symm.trans q) h0, ?_, fun q => absurd (s7.symm.trans q) h6, fun q => absurd (s7.symm.trans q) h5, fun _ _ _ => ⟨?_, ?_⟩, fun q => absurd (s7.symm.trans q) h6, fun q => absurd (s7.symm.trans q) h6, ?_⟩
              · rw [s7]; exact hI.s7
              · rw [s7, w7c 17 _ (by omega), w2c 17 _ (by omega)]; exact hI.g6
              · rw [t7]; exact fw_inc (by decide)
              · rw [a7]; exact vp_in_nI (by omega) (by decide)
              · rw [s7, w7c 20 _ (by omega), w2c 20 _ (by omega)]; exact hI.w3
            have hs14 : w7 12 0 0 = 1 ∨ w7 12 0 0 = 2 ∨ w7 12 0 0 = 3 ∨ w7 12 0 0 = 4 := by
              rw [s7]
              obtain ⟨z, hz, ez⟩ := vp_in_of hI.s7 (by decide)
              rw [ez] at h0 h5 h6 ⊢
              rcases (show z = 0 ∨ z = 1 ∨ z = 2 ∨ z = 3 ∨ z = 4 ∨ z = 5 ∨ z = 6 by omega) with rfl | rfl | rfl | rfl | rfl | rfl | rfl
              · exact absurd rfl h0
              · exact Or.inl rfl
              · exact Or.inr (Or.inl rfl)
              · exact Or.inr (Or.inr (Or.inl rfl))
              · exact Or.inr (Or.inr (Or.inr rfl))
              · exact absurd rfl h5
              · exact absurd rfl h6
            have wr7 : Wr v7 w7 := Wr_cg wr2 (fun c i k q1 q2 => v7c c i k (by omega)) ⟨w7c 0 10 (by omega), w7c 0 50 (by omega), w7c 0 51 (by omega)⟩ (fun c k q1 q2 => w7c c k (by omega))
            have at7 : At w7 := fun t ht => by rw [w7c 9 t (by omega)]; exact at2 t ht
            have lg7 : Lg B v7 w7 := Lg_cg lg2 (fun c k hc => v7c c 0 k (by omega)) (w7c 0 55 (by omega)) (fun k => w7c 49 k (by omega))
            refine ⟨RB_ask_0 (B := B) (Re_ask_0 rl7 ri7 wr7 at7 hs14 (by rw [e7]; exact fw_up_s)) lg7 (fun c k hc => xl_Re_sendRequest hc _ _) (mz55_Mo_ask_0 rfl _) (fun k => ml_Mo_ask_0 rfl _), Or.inl ⟨?_, ?_⟩⟩
            · rw [xq_Re_sendRequest ⟨rfl, rfl⟩, v7c 13 0 19 (by omega), xv19]
            · rw [mz56_Mo_ask_0 rfl, w7c 0 56 (by omega), xw56]
        · rw [if_pos (show nI (t + 1) < 4 from (nI_ltI (a := t + 1) (b := 4) (by omega) (by omega)).mpr (by omega)), if_neg (show ¬ nI (t + 1) = (4 : Int32) from fun q => by
            have := (nI_eq (a := t + 1) (b := 4) (by omega) (by omega)).mp q
            omega)]
          have ok : vp_in (w 18 0 0 + 1) 4 := by rw [et, nI_1]; exact vp_in_nI (by omega) (by decide)
          exact ⟨⟨rl2, ri2 (fun q => absurd q h6) (fun q => absurd q h5) (fun _ _ => ok), wr2, at2, lg2⟩, Or.inl ⟨xv19, xw56⟩⟩

theorem fw_up_tw_1 {v : fw_V} {c i k : Nat} {x y : Int32} : fw_up (fw_up v c i k x) c i k y = fw_up v c i k y := by
  funext c' i' k'
  unfold fw_up
  split <;> rfl
theorem ask_idem_1 {w : fw_V} : mf_Mo_ask_1 (fw_up w 18 0 1 0) = mf_Mo_ask_1 w := by
  unfold mf_Mo_ask_1
  rw [fw_up_tw_1]
/-- a TICK for RELATION r -/
theorem Re_tick_1 {B : Nat} {v w : fw_V} (h : RB_1 B v w) (hK : Kd v w) (hE : ∀ s, s < 3 → vp_in (w 24 0 (3 * 1 + s) + 1) 9) : RB_1 B (xf_Re_passTick v 1) (mf_Mo_beat_1 w) ∧ ((xf_Re_passTick v 1 13 1 19 = v 13 1 19 ∧ mf_Mo_beat_1 w 0 0 56 = w 0 0 56) ∨ (xf_Re_passTick v 1 13 1 19 = v 13 1 19 + 1 ∧ mf_Mo_beat_1 w 0 0 56 = w 0 0 56 + 1)) := by
  have hR := h.rl
  have hI := h.ri
  unfold xf_Re_passTick mf_Mo_beat_1
  rw [hR.st]
  by_cases h0 : w 12 0 1 = 0
  · rw [if_pos h0, if_pos h0]; exact ⟨h, Or.inl ⟨rfl, rfl⟩⟩
  · rw [if_neg h0, if_neg h0]
    (try dsimp only)
    obtain ⟨v2, e2⟩ : ∃ v2, v2 = fw_up v 13 1 15 (v 13 1 15 + 1) := ⟨_, rfl⟩
    obtain ⟨w2, f2⟩ : ∃ w2, w2 = fw_up w 18 0 1 (w 18 0 1 + 1) := ⟨_, rfl⟩
    rw [← e2, ← f2]
    have s2 : w2 12 0 1 = w 12 0 1 := by rw [f2]; exact fw_up_c (by decide)
    have t2 : w2 18 0 1 = w 18 0 1 + 1 := by rw [f2]; exact fw_up_s
    have sv : v2 13 1 10 = w 12 0 1 := by rw [e2, fw_up_k (by decide)]; exact hR.st
    have tv : v2 13 1 15 = w 18 0 1 + 1 := by rw [e2, fw_up_s, hR.ti]
    have v2c : ∀ c i k, ¬ (c = 13 ∧ i = 1 ∧ k = 15) → v2 c i k = v c i k := fun c i k q => by rw [e2, fw_up_ne q]
    have w2c : ∀ c k, ¬ (c = 18 ∧ k = 1) → w2 c 0 k = w c 0 k := fun c k q => by rw [f2, fw_up_ne (fun z => q ⟨z.1, z.2.2⟩)]
    have rl2 : Rl 1 v2 w2 := by
      rw [e2, f2]
      refine ⟨?_, ?_, ?_, ?_, ?_, ?_, ?_, ?_, ?_, ?_, ?_, ?_, ?_, ?_, ?_, ?_, ?_⟩ <;> simp [fw_up]
      · exact hR.ix
      · exact hR.nm
      · exact hR.st
      · exact hR.se
      · exact hR.fo
      · exact hR.di
      · exact hR.go
      · rw [hR.ti]
      · exact hR.ag
      · exact hR.sl
      · exact hR.ne
      · exact hR.ta
      · exact hR.to
      · simpa using hR.ex
      · simpa using hR.pa
      · simpa using hR.gi
      · simpa using hR.gt
    have wr2 : Wr v2 w2 := Wr_cg h.wr (fun c i k q1 q2 => v2c c i k (by omega)) ⟨w2c 0 10 (by omega), w2c 0 50 (by omega), w2c 0 51 (by omega)⟩ (fun c k q1 q2 => w2c c k (by omega))
    have at2 : At w2 := fun t ht => by rw [w2c 9 t (by omega)]; exact h.at t ht
    have lg2 : Lg B v2 w2 := Lg_cg h.lg (fun c k hc => v2c c 0 k (by omega)) (w2c 0 55 (by omega)) (fun k => w2c 49 k (by omega))
    have hK2 : Kd v2 w2 := ⟨fun k hk => by rw [v2c 2 0 k (by omega), w2c 1 k (by omega)]; exact hK.ki k hk, fun k hk => by rw [v2c 3 0 k (by omega), w2c 2 k (by omega)]; exact hK.ko k hk, fun k hk => by rw [v2c 4 0 k (by omega), w2c 3 k (by omega)]; exact hK.kn k hk⟩
    have hE2 : ∀ s, s < 3 → vp_in (w2 24 0 (3 * 1 + s) + 1) 9 := fun s hs => by rw [w2c 24 _ (by omega)]; exact hE s hs
    have ri2 : (w 12 0 1 = 6 → vp_in (w 18 0 1 + 1) 4) → (w 12 0 1 = 5 → vp_in (w 18 0 1 + 1) 12) → (w 12 0 1 ≠ 5 → w 12 0 1 ≠ 6 → vp_in (w 18 0 1 + 1) 4) → Ri 1 w2 := by
      intro b6 b5 b4
      refine ⟨?_, fun q => absurd (s2.symm.trans q) h0, ?_, ?_, ?_, ?_, ?_, ?_, ?_⟩
      · rw [s2]; exact hI.s7
      · rw [s2, w2c 17 _ (by omega)]; exact hI.g6
      · rw [s2, t2]; exact b6
      · rw [s2, t2]; exact b5
      · rw [s2, t2, w2c 19 _ (by omega)]; exact fun q1 q2 q3 => ⟨b4 q2 q3, (hI.t4 q1 q2 q3).2⟩
      · rw [s2, w2c 21 _ (by omega)]; exact hI.n6
      · rw [s2, w2c 22 _ (by omega)]; exact hI.l6
      · rw [s2, w2c 20 _ (by omega)]; exact hI.w3
    have xv19 : v2 13 1 19 = v 13 1 19 := v2c 13 1 19 (by omega)
    have xw56 : w2 0 0 56 = w 0 0 56 := w2c 0 56 (by omega)
    rw [sv, s2]
    by_cases h6 : w 12 0 1 = 6
    · rw [if_pos h6, if_pos h6]
      obtain ⟨t, ht, et⟩ := vp_in_of (hI.t6 h6) (by decide)
      unfold xf_Re_passTickInData
      (try dsimp only)
      rw [tv, t2, et, nI_1]
      by_cases h3 : t = 3
      · subst h3
        rw [if_neg (show ¬ nI (3 + 1) < 4 by decide), if_pos (show nI (3 + 1) = (4 : Int32) by decide)]
        have hb : mf_Mo_breakOff_1 (fw_up w2 0 0 56 (w2 0 0 56 + 1)) = mf_Mo_shut_1 (mf_Mo_send (fw_up w2 0 0 56 (w2 0 0 56 + 1)) 16 (fw_up w2 0 0 56 (w2 0 0 56 + 1) 13 0 1) 0 (fw_up w2 0 0 56 (w2 0 0 56 + 1) 15 0 1)) := by
          unfold mf_Mo_breakOff_1
          rw [fw_up_c (by decide), s2, if_neg (by rw [h6]; decide)]
        rw [hb]
        refine ⟨RBs_abort_1 (Rs_cg (Rs_of rl2) (fun c k q1 q2 q3 => fw_up_ne (fun z => q3 ⟨z.1, by omega⟩)) (fun c k hc => fw_up_c (by omega))) (Wr_cg wr2 (fun c i k q1 q2 => fw_up_c (by omega)) ⟨fw_up_k (by decide), fw_up_k (by decide), fw_up_k (by decide)⟩ (fun c k q1 q2 => fw_up_c (by omega))) (fun t ht => by rw [fw_up_c (by decide)]; exact at2 t ht) (Lg_cg lg2 (fun c k hc => fw_up_c (by omega)) (fw_up_k (by decide)) (fun k => fw_up_c (by decide))), Or.inr ⟨?_, ?_⟩⟩
        · rw [xq_Re_abort ⟨rfl, rfl⟩, fw_up_s, xv19]
        · rw [mz56_Mo_shut_1 rfl, msend_0k (by decide) (by decide) (by decide), fw_up_s, xw56]
      · rw [if_pos (show nI (t + 1) < 4 from (nI_ltI (a := t + 1) (b := 4) (by omega) (by omega)).mpr (by omega)), if_neg (show ¬ nI (t + 1) = (4 : Int32) from fun q => by
          have := (nI_eq (a := t + 1) (b := 4) (by omega) (by omega)).mp q
          omega)]
        have ok : vp_in (w 18 0 1 + 1) 4 := by rw [et, nI_1]; exact vp_in_nI (by omega) (by decide)
        have hB2 : RB_1 B v2 w2 := ⟨rl2, ri2 (fun _ => ok) (fun q => absurd (h6.symm.trans q) (by decide)) (fun _ q => absurd h6 q), wr2, at2, lg2⟩
        refine ⟨Re_out_1 hB2 hK2 hE2 (by rw [s2]; exact h6), Or.inl ⟨?_, ?_⟩⟩
        · rw [xq_Re_sendOutput ⟨rfl, rfl⟩, xv19]
        · rw [mz56_Mo_beat_1_j1 rfl, xw56]
    · rw [if_neg h6, if_neg h6]
      by_cases h5 : w 12 0 1 = 5
      · rw [if_pos h5, if_pos h5]
        obtain ⟨t, ht, et⟩ := vp_in_of (hI.t5 h5) (by decide)
        rw [tv, t2, et, nI_1]
        by_cases h3 : t = 11
        · subst h3
          rw [if_neg (show ¬ nI (11 + 1) < 12 by decide), if_pos (show nI (11 + 1) = (12 : Int32) by decide)]
          have hb : mf_Mo_breakOff_1 w2 = mf_Mo_shut_1 (mf_Mo_send w2 16 (w2 13 0 1) 0 (w2 15 0 1)) := by
            unfold mf_Mo_breakOff_1
            rw [s2, if_neg (by rw [h5]; decide)]
          rw [hb]
          refine ⟨RBs_abort_1 (Rs_of rl2) wr2 at2 lg2, Or.inl ⟨?_, ?_⟩⟩
          · rw [xq_Re_abort ⟨rfl, rfl⟩, xv19]
          · rw [mz56_Mo_shut_1 rfl, msend_0k (by decide) (by decide) (by decide), xw56]
        · rw [if_pos (show nI (t + 1) < 12 from (nI_ltI (a := t + 1) (b := 12) (by omega) (by omega)).mpr (by omega)), if_neg (show ¬ nI (t + 1) = (12 : Int32) from fun q => by
            have := (nI_eq (a := t + 1) (b := 12) (by omega) (by omega)).mp q
            omega)]
          have ok : vp_in (w 18 0 1 + 1) 12 := by rw [et, nI_1]; exact vp_in_nI (by omega) (by decide)
          exact ⟨⟨rl2, ri2 (fun q => absurd q h6) (fun _ => ok) (fun q _ => absurd h5 q), wr2, at2, lg2⟩, Or.inl ⟨xv19, xw56⟩⟩
      · rw [if_neg h5, if_neg h5]
        obtain ⟨b1, b2⟩ := hI.t4 h0 h5 h6
        obtain ⟨t, ht, et⟩ := vp_in_of b1 (by decide)
        obtain ⟨a, ha, ea⟩ := vp_in_of b2 (by decide)
        rw [tv, t2, et, nI_1]
        by_cases h3 : t = 3
        · subst h3
          rw [if_neg (show ¬ nI (3 + 1) < 4 by decide), if_pos (show nI (3 + 1) = (4 : Int32) by decide)]
          unfold xf_Re_requestAgain
          have ag2 : v2 13 1 16 = nI a := by rw [v2c 13 1 16 (by omega), hR.ag]; exact ea
          have aw2 : w2 19 0 1 = nI a := by rw [w2c 19 _ (by omega)]; exact ea
          rw [ag2, aw2, sv, nI_1]
          by_cases h2 : a = 2
          · subst h2
            rw [if_pos (show (2 : Int32) ≤ nI 2 by decide), if_pos (show nI 2 = (2 : Int32) by decide)]
            have rs : Rs 1 v2 (fw_up w2 19 0 1 (nI (2 + 1))) := Rs_cg (Rs_of rl2) (fun _ _ _ _ _ => rfl) (fun c k hc => fw_up_c (by omega))
            have hb := RBs_break_1 (B := B) rs (Wr_cg wr2 (fun _ _ _ _ _ => rfl) ⟨fw_up_c (by decide), fw_up_c (by decide), fw_up_c (by decide)⟩ (fun c k q1 q2 => fw_up_c (by omega))) (fun t ht => by rw [fw_up_c (by decide)]; exact at2 t ht) (Lg_cg lg2 (fun _ _ _ => rfl) (fw_up_c (by decide)) (fun k => fw_up_c (by decide)))
            rw [fw_up_c (show (12 : Nat) ≠ 19 by decide), s2] at hb
            have m56 : mf_Mo_breakOff_1 (fw_up w2 19 0 1 (nI (2 + 1))) 0 0 56 = w 0 0 56 := by rw [mz56_Mo_breakOff_1 rfl, fw_up_c (by decide), xw56]
            by_cases h1 : w 12 0 1 = 1
            · rw [if_pos h1]
              rw [if_pos (by rw [h1]; decide)] at hb
              exact ⟨hb, Or.inl ⟨by rw [xq_Re_shut ⟨rfl, rfl⟩, xv19], m56⟩⟩
            · rw [if_neg h1]
              have : ¬ w 12 0 1 ≤ 1 := by
                obtain ⟨z, hz, ez⟩ := vp_in_of hI.s7 (by decide)
                rw [ez] at h0 h1 ⊢
                intro q
                have := (nI_leI (a := z) (b := 1) (by omega) (by omega)).mp q
                rcases (show z = 0 ∨ z = 1 by omega) with rfl | rfl
                · exact h0 rfl
                · exact h1 rfl
              rw [if_neg this] at hb
              exact ⟨hb, Or.inl ⟨by rw [xq_Re_abort ⟨rfl, rfl⟩, xv19], m56⟩⟩
          · rw [if_neg (show ¬ (2 : Int32) ≤ nI a from fun q => by
              have := (nI_leI (a := 2) (b := a) (by omega) (by omega)).mp q
              omega), if_neg (show ¬ nI a = (2 : Int32) from fun q => h2 ((nI_eq (a := a) (b := 2) (by omega) (by omega)).mp q))]
            (try dsimp only)
            obtain ⟨w7, f7⟩ : ∃ w7, w7 = fw_up (fw_up w2 19 0 1 (nI (a + 1))) 18 0 1 0 := ⟨_, rfl⟩
            obtain ⟨v7, e7⟩ : ∃ v7, v7 = fw_up (fw_up v2 13 1 16 (nI (a + 1))) 13 1 15 0 := ⟨_, rfl⟩
            rw [← ask_idem_1 (w := fw_up w2 19 0 1 (nI (a + 1))), ← f7, ← e7]
            have w7c : ∀ c k, ¬ ((c = 18 ∨ c = 19) ∧ k = 1) → w7 c 0 k = w2 c 0 k := fun c k q => by rw [f7, fw_up_ne (fun z => q ⟨Or.inl z.1, z.2.2⟩), fw_up_ne (fun z => q ⟨Or.inr z.1, z.2.2⟩)]
            have v7c : ∀ c i k, ¬ (c = 13 ∧ (k = 15 ∨ k = 16)) → v7 c i k = v2 c i k := fun c i k q => by rw [e7, fw_up_ne (fun z => q ⟨z.1, Or.inl z.2.2⟩), fw_up_ne (fun z => q ⟨z.1, Or.inr z.2.2⟩)]
            have t7 : w7 18 0 1 = 0 := by rw [f7]; exact fw_up_s
            have a7 : w7 19 0 1 = nI (a + 1) := by rw [f7, fw_up_c (by decide)]; exact fw_up_s
            have s7 : w7 12 0 1 = w 12 0 1 := by rw [w7c 12 _ (by omega)]; exact s2
            have rl7 : Rl 1 v7 w7 := by
              refine ⟨?_, ?_, ?_, ?_, ?_, ?_, ?_, ?_, ?_, ?_, ?_, ?_, ?_, fun s hs => ?_, fun s hs => ?_, fun i hi => ?_, fun i hi => ?_⟩
              · rw [v7c 13 1 0 (by omega)]; exact rl2.ix
              · rw [v7c 13 1 5 (by omega), w7c 14 _ (by omega)]; exact rl2.nm
              · rw [v7c 13 1 10 (by omega), w7c 12 _ (by omega)]; exact rl2.st
              · rw [v7c 13 1 11 (by omega), w7c 13 _ (by omega)]; exact rl2.se
              · rw [v7c 13 1 12 (by omega), w7c 15 _ (by omega)]; exact rl2.fo
              · rw [v7c 13 1 13 (by omega), w7c 16 _ (by omega), w7c 12 _ (by omega)]; exact rl2.di
              · rw [v7c 13 1 14 (by omega), w7c 17 _ (by omega)]; exact rl2.go
              · rw [t7, e7]; exact fw_up_s
              · rw [a7, e7, fw_up_k (by decide)]; exact fw_up_s
              · rw [v7c 13 1 17 (by omega), w7c 20 _ (by omega), w7c 12 _ (by omega)]; exact rl2.sl
              · rw [v7c 14 1 0 (by omega), w7c 21 _ (by omega), w7c 12 _ (by omega)]; exact rl2.ne
              · rw [v7c 14 1 1 (by omega), w7c 22 _ (by omega), w7c 12 _ (by omega)]; exact rl2.ta
              · rw [v7c 13 1 18 (by omega), w7c 23 _ (by omega)]; exact rl2.to
              · rw [v7c 15 1 s (by omega), w7c 24 _ (by omega)]; exact rl2.ex s hs
              · rw [v7c 16 1 s (by omega), w7c 25 _ (by omega)]; exact rl2.pa s hs
              · rw [v7c 17 1 i (by omega), w7c 26 _ (by omega)]; exact rl2.gi i hi
              · rw [v7c 18 1 i (by omega), w7c 27 _ (by omega)]; exact rl2.gt i hi
            have ri7 : Ri 1 w7 := by
              refine ⟨?_, fun q => absurd (s7.symm.trans q) h0, ?_, fun q => absurd (s7.symm.trans q) h6, fun q => absurd (s7.symm.trans q) h5, fun _ _ _ => ⟨?_, ?_⟩, fun q => absurd (s7.symm.trans q) h6, fun q => absurd (s7.symm.trans q) h6, ?_⟩
              · rw [s7]; exact hI.s7
              · rw [s7, w7c 17 _ (by omega), w2c 17 _ (by omega)]; exact hI.g6
              · rw [t7]; exact fw_inc (by decide)
              · rw [a7]; exact vp_in_nI (by omega) (by decide)
              · rw [s7, w7c 20 _ (by omega), w2c 20 _ (by omega)]; exact hI.w3
            have hs14 : w7 12 0 1 = 1 ∨ w7 12 0 1 = 2 ∨ w7 12 0 1 = 3 ∨ w7 12 0 1 = 4 := by
              rw [s7]
              obtain ⟨z, hz, ez⟩ := vp_in_of hI.s7 (by decide)
              rw [ez] at h0 h5 h6 ⊢
              rcases (show z = 0 ∨ z = 1 ∨ z = 2 ∨ z = 3 ∨ z = 4 ∨ z = 5 ∨ z = 6 by omega) with rfl | rfl | rfl | rfl | rfl | rfl | rfl
              · exact absurd rfl h0
              · exact Or.inl rfl
              · exact Or.inr (Or.inl rfl)
              · exact Or.inr (Or.inr (Or.inl rfl))
              · exact Or.inr (Or.inr (Or.inr rfl))
              · exact absurd rfl h5
              · exact absurd rfl h6
            have wr7 : Wr v7 w7 := Wr_cg wr2 (fun c i k q1 q2 => v7c c i k (by omega)) ⟨w7c 0 10 (by omega), w7c 0 50 (by omega), w7c 0 51 (by omega)⟩ (fun c k q1 q2 => w7c c k (by omega))
            have at7 : At w7 := fun t ht => by rw [w7c 9 t (by omega)]; exact at2 t ht
            have lg7 : Lg B v7 w7 := Lg_cg lg2 (fun c k hc => v7c c 0 k (by omega)) (w7c 0 55 (by omega)) (fun k => w7c 49 k (by omega))
            refine ⟨RB_ask_1 (B := B) (Re_ask_1 rl7 ri7 wr7 at7 hs14 (by rw [e7]; exact fw_up_s)) lg7 (fun c k hc => xl_Re_sendRequest hc _ _) (mz55_Mo_ask_1 rfl _) (fun k => ml_Mo_ask_1 rfl _), Or.inl ⟨?_, ?_⟩⟩
            · rw [xq_Re_sendRequest ⟨rfl, rfl⟩, v7c 13 1 19 (by omega), xv19]
            · rw [mz56_Mo_ask_1 rfl, w7c 0 56 (by omega), xw56]
        · rw [if_pos (show nI (t + 1) < 4 from (nI_ltI (a := t + 1) (b := 4) (by omega) (by omega)).mpr (by omega)), if_neg (show ¬ nI (t + 1) = (4 : Int32) from fun q => by
            have := (nI_eq (a := t + 1) (b := 4) (by omega) (by omega)).mp q
            omega)]
          have ok : vp_in (w 18 0 1 + 1) 4 := by rw [et, nI_1]; exact vp_in_nI (by omega) (by decide)
          exact ⟨⟨rl2, ri2 (fun q => absurd q h6) (fun q => absurd q h5) (fun _ _ => ok), wr2, at2, lg2⟩, Or.inl ⟨xv19, xw56⟩⟩

/-- a CLOSED one is closed again by the class: nothing changes -/
theorem RB_shut0_0 {B : Nat} {v w : fw_V} (h : RB_0 B v w) (h0 : w 12 0 0 = 0) : RB_0 B (xf_Re_shut v 0) w := by
  have hR := h.rl
  obtain ⟨c1, c2, c3, c4, c5, c6⟩ := h.ri.c0 h0
  have g := h.ri.g6 (by rw [h0]; decide)
  refine ⟨?_, h.ri, Wr_cg h.wr (fun c i k h1 h2 => ?_) ⟨rfl, rfl, rfl⟩ (fun _ _ _ _ => rfl), h.at, Lg_cg h.lg (fun c k hc => xl_Re_shut hc v 0) rfl (fun _ => rfl)⟩
  · unfold xf_Re_shut xf_Re_enter
    refine ⟨?_, ?_, ?_, ?_, ?_, fun q => absurd h0 q, ?_, ?_, ?_, fun q => absurd (h0.symm.trans q) (by decide), fun q => absurd (h0.symm.trans q) (by decide), fun q => absurd (h0.symm.trans q) (by decide), ?_, ?_, ?_, ?_, fun i hi => ?_⟩
    · simp [fw_up, fw_row]; exact hR.ix
    · simp [fw_up, fw_row]; exact hR.nm
    · simp [fw_up, fw_row]; exact h0.symm
    · simp [fw_up, fw_row]; exact c1.symm
    · simp [fw_up, fw_row]; exact c2.symm
    · simp [fw_up, fw_row]; exact g.symm
    · simp [fw_up, fw_row]; exact c4.symm
    · simp [fw_up, fw_row]; exact c5.symm
    · simp [fw_up, fw_row]; exact hR.to
    · simp [fw_up, fw_row]; simpa using hR.ex
    · simp [fw_up, fw_row]; simpa using hR.pa
    · simp [fw_up, fw_row]; simpa using hR.gi
    · simp [fw_up, fw_row]; simpa using (c6 i hi).symm
  · simp [xf_Re_shut, xf_Re_enter, fw_up, fw_row, show c ≠ 13 by omega, show c ≠ 18 by omega]
/-- close -/
theorem Re_close_0 {B : Nat} {v w : fw_V} (h : RB_0 B v w) : (xf_Re_end v 0).1 = w 12 0 0 ∧ RB_0 B (xf_Re_end v 0).2 (if w 12 0 0 = 0 then w else mf_Mo_breakOff_0 w) := by
  unfold xf_Re_end
  rw [h.rl.st]
  by_cases q : w 12 0 0 ≤ 1
  · rw [if_pos q]
    refine ⟨rfl, ?_⟩
    by_cases h0 : w 12 0 0 = 0
    · rw [if_pos h0]; exact RB_shut0_0 h h0
    · rw [if_neg h0]
      have hb := RBs_break_0 (Rs_of h.rl) h.wr h.at h.lg
      rw [if_pos q] at hb
      exact hb
  · rw [if_neg q]
    refine ⟨rfl, ?_⟩
    rw [if_neg (fun h0 => q (by rw [h0]; decide))]
    have hb := RBs_break_0 (Rs_of h.rl) h.wr h.at h.lg
    rw [if_neg q] at hb
    exact hb
/-- open -/
theorem Re_open_0 {B : Nat} {v w : fw_V} {x : Int32} (h : RB_0 B v w) (h0 : w 12 0 0 = 0) : RB_0 B (xf_Re_begin v 0 x) (mf_Mo_ask_0 (fw_up (fw_up (mf_Mo_enter_0 w 1) 13 0 0 x) 23 0 0 0)) := by
  have hR := h.rl
  obtain ⟨c1, c2, c3, c4, c5, c6⟩ := h.ri.c0 h0
  have g := h.ri.g6 (by rw [h0]; decide)
  unfold xf_Re_begin
  (try dsimp only)
  refine RB_ask_0 (Re_ask_0 ?_ ?_ ?_ ?_ ?_ ?_) h.lg (fun c k hc => ?_) ?_ (fun k => ?_)
  · unfold xf_Re_enter mf_Mo_enter_0
    refine ⟨?_, ?_, ?_, ?_, ?_, ?_, ?_, ?_, ?_, ?_, ?_, ?_, ?_, ?_, ?_, ?_, ?_⟩ <;> simp [fw_up]
    · exact hR.ix
    · exact hR.nm
    · exact hR.fo
    · exact c3.symm
    · exact hR.go
    · simpa using hR.ex
    · simpa using hR.pa
    · simpa using hR.gi
    · simpa using hR.gt
  · unfold mf_Mo_enter_0
    refine ⟨?_, ?_, ?_, ?_, ?_, ?_, ?_, ?_, ?_⟩ <;> simp [fw_up]
    · exact fw_inc (by decide)
    · exact g
    · exact ⟨fw_inc (by decide), fw_inc (by decide)⟩
  · unfold xf_Re_enter mf_Mo_enter_0
    refine Wr_cg h.wr (fun c i k q1 q2 => ?_) ⟨?_, ?_, ?_⟩ (fun c k q1 q2 => ?_)
    · rw [fw_up_c (by omega), fw_up_c (by omega), fw_up_c (by omega), fw_up_c (by omega), fw_up_c (by omega), fw_up_c (by omega)]
    · simp [fw_up]
    · simp [fw_up]
    · simp [fw_up]
    · rw [fw_up_c (by omega), fw_up_c (by omega), fw_up_c (by omega), fw_up_c (by omega), fw_up_c (by omega)]
  · intro t ht
    unfold mf_Mo_enter_0
    rw [fw_up_c (by decide), fw_up_c (by decide), fw_up_c (by decide), fw_up_c (by decide), fw_up_c (by decide)]
    exact h.at t ht
  · unfold mf_Mo_enter_0; simp [fw_up]
  · unfold xf_Re_enter; simp [fw_up]
  · rw [xl_Re_sendRequest hc, xl_Re_enter hc, fw_up_c (by omega), fw_up_c (by omega), fw_up_c (by omega)]
  · rw [mz55_Mo_ask_0 rfl, fw_up_c (by decide), fw_up_c (by decide), mz55_Mo_enter_0 rfl]
  · rw [ml_Mo_ask_0 rfl, fw_up_c (by decide), fw_up_c (by decide), ml_Mo_enter_0 rfl]

/-- a CLOSED one is closed again by the class: nothing changes -/
theorem RB_shut0_1 {B : Nat} {v w : fw_V} (h : RB_1 B v w) (h0 : w 12 0 1 = 0) : RB_1 B (xf_Re_shut v 1) w := by
  have hR := h.rl
  obtain ⟨c1, c2, c3, c4, c5, c6⟩ := h.ri.c0 h0
  have g := h.ri.g6 (by rw [h0]; decide)
  refine ⟨?_, h.ri, Wr_cg h.wr (fun c i k h1 h2 => ?_) ⟨rfl, rfl, rfl⟩ (fun _ _ _ _ => rfl), h.at, Lg_cg h.lg (fun c k hc => xl_Re_shut hc v 1) rfl (fun _ => rfl)⟩
  · unfold xf_Re_shut xf_Re_enter
    refine ⟨?_, ?_, ?_, ?_, ?_, fun q => absurd h0 q, ?_, ?_, ?_, fun q => absurd (h0.symm.trans q) (by decide), fun q => absurd (h0.symm.trans q) (by decide), fun q => absurd (h0.symm.trans q) (by decide), ?_, ?_, ?_, ?_, fun i hi => ?_⟩
    · simp [fw_up, fw_row]; exact hR.ix
    · simp [fw_up, fw_row]; exact hR.nm
    · simp [fw_up, fw_row]; exact h0.symm
    · simp [fw_up, fw_row]; exact c1.symm
    · simp [fw_up, fw_row]; exact c2.symm
    · simp [fw_up, fw_row]; exact g.symm
    · simp [fw_up, fw_row]; exact c4.symm
    · simp [fw_up, fw_row]; exact c5.symm
    · simp [fw_up, fw_row]; exact hR.to
    · simp [fw_up, fw_row]; simpa using hR.ex
    · simp [fw_up, fw_row]; simpa using hR.pa
    · simp [fw_up, fw_row]; simpa using hR.gi
    · simp [fw_up, fw_row]; simpa using (c6 i hi).symm
  · simp [xf_Re_shut, xf_Re_enter, fw_up, fw_row, show c ≠ 13 by omega, show c ≠ 18 by omega]
/-- close -/
theorem Re_close_1 {B : Nat} {v w : fw_V} (h : RB_1 B v w) : (xf_Re_end v 1).1 = w 12 0 1 ∧ RB_1 B (xf_Re_end v 1).2 (if w 12 0 1 = 0 then w else mf_Mo_breakOff_1 w) := by
  unfold xf_Re_end
  rw [h.rl.st]
  by_cases q : w 12 0 1 ≤ 1
  · rw [if_pos q]
    refine ⟨rfl, ?_⟩
    by_cases h0 : w 12 0 1 = 0
    · rw [if_pos h0]; exact RB_shut0_1 h h0
    · rw [if_neg h0]
      have hb := RBs_break_1 (Rs_of h.rl) h.wr h.at h.lg
      rw [if_pos q] at hb
      exact hb
  · rw [if_neg q]
    refine ⟨rfl, ?_⟩
    rw [if_neg (fun h0 => q (by rw [h0]; decide))]
    have hb := RBs_break_1 (Rs_of h.rl) h.wr h.at h.lg
    rw [if_neg q] at hb
    exact hb
/-- open -/
theorem Re_open_1 {B : Nat} {v w : fw_V} {x : Int32} (h : RB_1 B v w) (h0 : w 12 0 1 = 0) : RB_1 B (xf_Re_begin v 1 x) (mf_Mo_ask_1 (fw_up (fw_up (mf_Mo_enter_1 w 1) 13 0 1 x) 23 0 1 0)) := by
  have hR := h.rl
  obtain ⟨c1, c2, c3, c4, c5, c6⟩ := h.ri.c0 h0
  have g := h.ri.g6 (by rw [h0]; decide)
  unfold xf_Re_begin
  (try dsimp only)
  refine RB_ask_1 (Re_ask_1 ?_ ?_ ?_ ?_ ?_ ?_) h.lg (fun c k hc => ?_) ?_ (fun k => ?_)
  · unfold xf_Re_enter mf_Mo_enter_1
    refine ⟨?_, ?_, ?_, ?_, ?_, ?_, ?_, ?_, ?_, ?_, ?_, ?_, ?_, ?_, ?_, ?_, ?_⟩ <;> simp [fw_up]
    · exact hR.ix
    · exact hR.nm
    · exact hR.fo
    · exact c3.symm
    · exact hR.go
    · simpa using hR.ex
    · simpa using hR.pa
    · simpa using hR.gi
    · simpa using hR.gt
  · unfold mf_Mo_enter_1
    refine ⟨?_, ?_, ?_, ?_, ?_, ?_, ?_, ?_, ?_⟩ <;> simp [fw_up]
    · exact fw_inc (by decide)
    · exact g
    · exact ⟨fw_inc (by decide), fw_inc (by decide)⟩
  · unfold xf_Re_enter mf_Mo_enter_1
    refine Wr_cg h.wr (fun c i k q1 q2 => ?_) ⟨?_, ?_, ?_⟩ (fun c k q1 q2 => ?_)
    · rw [fw_up_c (by omega), fw_up_c (by omega), fw_up_c (by omega), fw_up_c (by omega), fw_up_c (by omega), fw_up_c (by omega)]
    · simp [fw_up]
    · simp [fw_up]
    · simp [fw_up]
    · rw [fw_up_c (by omega), fw_up_c (by omega), fw_up_c (by omega), fw_up_c (by omega), fw_up_c (by omega)]
  · intro t ht
    unfold mf_Mo_enter_1
    rw [fw_up_c (by decide), fw_up_c (by decide), fw_up_c (by decide), fw_up_c (by decide), fw_up_c (by decide)]
    exact h.at t ht
  · unfold mf_Mo_enter_1; simp [fw_up]
  · unfold xf_Re_enter; simp [fw_up]
  · rw [xl_Re_sendRequest hc, xl_Re_enter hc, fw_up_c (by omega), fw_up_c (by omega), fw_up_c (by omega)]
  · rw [mz55_Mo_ask_1 rfl, fw_up_c (by decide), fw_up_c (by decide), mz55_Mo_enter_1 rfl]
  · rw [ml_Mo_ask_1 rfl, fw_up_c (by decide), fw_up_c (by decide), ml_Mo_enter_1 rfl]


/-- what is left of DEVICE d when it is IDLE again -/
def Dz (d : Nat) (v w : fw_V) : Prop := (v 19 d 0 = nI d) ∧ (v 19 d 5 = w 30 0 d) ∧ (v 19 d 6 = w 40 0 d) ∧ (v 19 d 7 = w 41 0 d) ∧ (v 19 d 11 = w 28 0 d) ∧ (v 19 d 12 = w 29 0 d) ∧ (∀ j, j < 4 → v 21 d j = w 47 0 (4 * d + j)) ∧ (∀ j, j < 4 → v 22 d j = w 48 0 (4 * d + j)) ∧ (∀ s, s < 3 → v 23 d s = w 42 0 (3 * d + s)) ∧ (∀ i, i < 6 → v 24 d i = w 45 0 (6 * d + i)) ∧ (∀ i, i < 6 → v 25 d i = w 46 0 (6 * d + i))
theorem Dz.ix {d : Nat} {v w : fw_V} (h : Dz d v w) : v 19 d 0 = nI d := h.1
theorem Dz.nm {d : Nat} {v w : fw_V} (h : Dz d v w) : v 19 d 5 = w 30 0 d := h.2.1
theorem Dz.fb {d : Nat} {v w : fw_V} (h : Dz d v w) : v 19 d 6 = w 40 0 d := h.2.2.1
theorem Dz.oc {d : Nat} {v w : fw_V} (h : Dz d v w) : v 19 d 7 = w 41 0 d := h.2.2.2.1
theorem Dz.st {d : Nat} {v w : fw_V} (h : Dz d v w) : v 19 d 11 = w 28 0 d := h.2.2.2.2.1
theorem Dz.se {d : Nat} {v w : fw_V} (h : Dz d v w) : v 19 d 12 = w 29 0 d := h.2.2.2.2.2.1
theorem Dz.sl {d : Nat} {v w : fw_V} (h : Dz d v w) : ∀ j, j < 4 → v 21 d j = w 47 0 (4 * d + j) := h.2.2.2.2.2.2.1
theorem Dz.sk {d : Nat} {v w : fw_V} (h : Dz d v w) : ∀ j, j < 4 → v 22 d j = w 48 0 (4 * d + j) := h.2.2.2.2.2.2.2.1
theorem Dz.mo {d : Nat} {v w : fw_V} (h : Dz d v w) : ∀ s, s < 3 → v 23 d s = w 42 0 (3 * d + s) := h.2.2.2.2.2.2.2.2.1
theorem Dz.sn {d : Nat} {v w : fw_V} (h : Dz d v w) : ∀ i, i < 6 → v 24 d i = w 45 0 (6 * d + i) := h.2.2.2.2.2.2.2.2.2.1
theorem Dz.sh {d : Nat} {v w : fw_V} (h : Dz d v w) : ∀ i, i < 6 → v 25 d i = w 46 0 (6 * d + i) := h.2.2.2.2.2.2.2.2.2.2
theorem Dz_cg {d : Nat} {v w v' w' : fw_V} (h : Dv d v w) (hv : ∀ c k, 19 ≤ c → c ≤ 25 → ¬ (c = 19 ∧ 16 ≤ k) → v' c d k = v c d k) (hw : ∀ c k, 28 ≤ c → c ≤ 48 → c ≠ 33 → w' c 0 k = w c 0 k) : Dz d v' w' := by
  refine ⟨?_, ?_, ?_, ?_, ?_, ?_, fun s hs => ?_, fun s hs => ?_, fun s hs => ?_, fun s hs => ?_, fun s hs => ?_⟩
  · rw [hv 19 0 (by decide) (by decide) (by decide)]; exact h.ix
  · rw [hv 19 5 (by decide) (by decide) (by decide), hw 30 _ (by decide) (by decide) (by decide)]; exact h.nm
  · rw [hv 19 6 (by decide) (by decide) (by decide), hw 40 _ (by decide) (by decide) (by decide)]; exact h.fb
  · rw [hv 19 7 (by decide) (by decide) (by decide), hw 41 _ (by decide) (by decide) (by decide)]; exact h.oc
  · rw [hv 19 11 (by decide) (by decide) (by decide), hw 28 _ (by decide) (by decide) (by decide)]; exact h.st
  · rw [hv 19 12 (by decide) (by decide) (by decide), hw 29 _ (by decide) (by decide) (by decide)]; exact h.se
  · rw [hv 21 _ (by decide) (by decide) (fun q => absurd q.1 (by decide)), hw 47 _ (by decide) (by decide) (by decide)]; exact h.sl s hs
  · rw [hv 22 _ (by decide) (by decide) (fun q => absurd q.1 (by decide)), hw 48 _ (by decide) (by decide) (by decide)]; exact h.sk s hs
  · rw [hv 23 _ (by decide) (by decide) (fun q => absurd q.1 (by decide)), hw 42 _ (by decide) (by decide) (by decide)]; exact h.mo s hs
  · rw [hv 24 _ (by decide) (by decide) (fun q => absurd q.1 (by decide)), hw 45 _ (by decide) (by decide) (by decide)]; exact h.sn s hs
  · rw [hv 25 _ (by decide) (by decide) (fun q => absurd q.1 (by decide)), hw 46 _ (by decide) (by decide) (by decide)]; exact h.sh s hs

theorem Dz_send_0 {v w : fw_V} {a b c d a' b' c' d' : Int32} (h : Dz 0 v w) : Dz 0 (xf_Wi_send v a b c d).2 (mf_Mo_send w a' b' c' d') := by
  have xs : ∀ c' i k, 10 ≤ c' → (xf_Wi_send v a b c d).2 c' i k = v c' i k := fun c' i k q => xsend_c (by omega) (by omega) (by omega)
  have ms : ∀ c k, 10 ≤ c → mf_Mo_send w a' b' c' d' c 0 k = w c 0 k := fun c k q => msend_c (by omega) (by omega) (by omega) (by omega) (by omega) (by omega) (by omega)
  unfold Dz at h ⊢
  simp only [xs 19 _ _ (by decide), xs 21 _ _ (by decide), xs 22 _ _ (by decide), xs 23 _ _ (by decide), xs 24 _ _ (by decide), xs 25 _ _ (by decide), ms 28 _ (by decide), ms 29 _ (by decide), ms 30 _ (by decide), ms 40 _ (by decide), ms 41 _ (by decide), ms 42 _ (by decide), ms 45 _ (by decide), ms 46 _ (by decide), ms 47 _ (by decide), ms 48 _ (by decide)]
  exact h
theorem De_zreset_0 {v w : fw_V} (h : Dz 0 v w) (hsb : vp_in (w 40 0 0) 3) (hm : ∀ s, s < 3 → vp_in (w 42 0 (3 * 0 + s) + 1) 9) (ha : ∀ j, j < 4 → vp_in (w 47 0 (4 * 0 + j)) 3) : Dv 0 (xf_De_becomeIdle_j1 v 0) (RS_0 w) ∧ Di 0 (xf_De_becomeIdle_j1 v 0) (RS_0 w) := by
  unfold RS_0 mf_Mo_rest_0_j1 mf_Mo_rest_0_j2 xf_De_becomeIdle_j1 xf_AQ_clear
  constructor
  · refine ⟨?_, ?_, ?_, ?_, ?_, ?_, ?_, ?_, ?_, ?_, ?_, ?_, ?_, ?_, ?_, ?_, ?_, ?_, ?_, fun s hs => ?_, ?_, ?_⟩
    · simp [fw_up, fw_row]; exact h.ix
    · simp [fw_up, fw_row]; exact h.nm
    · simp [fw_up, fw_row]; exact h.fb
    · simp [fw_up, fw_row]; exact h.oc
    · simp [fw_up, fw_row]
    · simp [fw_up, fw_row]
    · simp [fw_up, fw_row]
    · simp [fw_up, fw_row]
    · simp [fw_up, fw_row]
    · simp [fw_up, fw_row]
    · simp [fw_up, fw_row]
    · simp [fw_up, fw_row]
    · simp [fw_up, fw_row]
    · simp [fw_up, fw_row]
    · simp [fw_up, fw_row]
    · simp [fw_up, fw_row]; simpa using h.sl
    · simp [fw_up, fw_row]; simpa using h.sk
    · simp [fw_up, fw_row]; simpa using h.mo
    · simp [fw_up, fw_row]
    · rcases (show s = 0 ∨ s = 1 ∨ s = 2 by omega) with rfl | rfl | rfl <;> simp [fw_up, fw_row]
    · simp [fw_up, fw_row]; simpa using h.sn
    · simp [fw_up, fw_row]; simpa using h.sh
  · refine ⟨?_, fun _ => ⟨?_, ?_, ?_, fun s hs => ?_⟩, fun _ => ⟨?_, ?_, ?_⟩, ?_, ?_, ?_, ?_, ?_, ?_, ?_, ?_, ?_, fun s hs => ?_, ?_, ?_, ?_, ?_⟩
    · simp [fw_up]; exact fw_inc (by decide)
    · simp [fw_up]
    · simp [fw_up]
    · simp [fw_up]
    · rcases (show s = 0 ∨ s = 1 ∨ s = 2 by omega) with rfl | rfl | rfl <;> simp [fw_up]
    · simp [fw_up]
    · simp [fw_up]
    · simp [fw_up, fw_row]
    · simp [fw_up]
    · simp [fw_up]
    · simp [fw_up]
    · simp [fw_up]
    · simp [fw_up]
    · simp [fw_up]; exact fw_inc (by decide)
    · simp [fw_up]
    · simp [fw_up]
    · simp [fw_up]
    · left
      rcases (show s = 0 ∨ s = 1 ∨ s = 2 by omega) with rfl | rfl | rfl <;> simp [fw_up]
    · simp [fw_up]; exact hsb
    · simp [fw_up]; simpa using hm
    · simp [fw_up]
    · simp [fw_up]; simpa using ha
theorem De_zrest_0 {v w : fw_V} (h : Dz 0 v w) (hsb : vp_in (w 40 0 0) 3) (hm : ∀ s, s < 3 → vp_in (w 42 0 (3 * 0 + s) + 1) 9) (ha : ∀ j, j < 4 → vp_in (w 47 0 (4 * 0 + j)) 3) (hK : Kd v w) (hW : Wr v w) (h9 : At w) : DB_0 (xf_De_becomeIdle v 0) (mf_Mo_rest_0 w) := by
  obtain ⟨d1, d2⟩ := De_zreset_0 h hsb hm ha
  have wr1 : Wr (xf_De_becomeIdle_j1 v 0) (RS_0 w) := Wr_cg hW (fun c i k q1 q2 => J1_c_0 (by omega)) ⟨RS_c_0 (by omega), RS_c_0 (by omega), RS_c_0 (by omega)⟩ (fun c k q1 q2 => RS_c_0 (by omega))
  have at1 : At (RS_0 w) := fun t ht => by rw [RS_c_0 (by omega)]; exact h9 t ht
  rw [rest_eq_0, idle_eq_0, h.st]
  by_cases h3 : w 28 0 0 = 3
  · rw [if_pos h3, if_pos h3]
    obtain ⟨s1, s2⟩ := sf_3 (v := v) (r := 0)
    obtain ⟨p1, p2⟩ := rp_3_0 (w := RS_0 w)
    refine ⟨?_, ?_, ?_, ?_⟩
    · refine Dv_sh_0 d1 (fun c k q1 q2 q3 => J1_pt_0 (s2 c 0 k (by omega))) (fun k => J1_pt_0 (s2 14 _ k (by omega))) (fun c k q1 q2 q3 => p2 c 0 k (by omega)) (fun i hi => ?_)
      obtain ⟨s, j, hs, hj, rfl⟩ : ∃ s j, s < 3 ∧ j < 2 ∧ i = 2 * s + j := ⟨i / 2, i % 2, by omega, by omega, by omega⟩
      rw [J1_c_0 (by decide), s1 s j hs hj, show 6 * 0 + (2 * s + j) = 0 + 2 * s + j by omega, p1 s j hs hj, FM_cg_0 (w := w) (fun c k hc => RS_c_0 (by omega))]
      exact FXM_0 hK hs hj (by rw [show 0 + s = 3 * 0 + s by omega]; exact h.mo s hs) (by rw [show 0 + s = 3 * 0 + s by omega]; exact hm s hs) h.fb h.oc hsb (by rw [show 0 + 2 * s + j = 6 * 0 + (2 * s + j) by omega]; exact h.sh _ (by omega))
    · exact Di_sh_0 d2 (J1_pt_0 (s2 20 0 4 (by omega))) (fun c k q1 q2 q3 => p2 c 0 k (by omega))
    · exact Wr_cg wr1 (fun c i k q1 q2 => J1_pt_0 (s2 c i k (by omega))) ⟨p2 0 0 10 (by omega), p2 0 0 50 (by omega), p2 0 0 51 (by omega)⟩ (fun c k q1 q2 => p2 c 0 k (by omega))
    · exact fun t ht => by rw [p2 9 0 t (by omega)]; exact at1 t ht
  · rw [if_neg h3, if_neg h3]
    exact ⟨d1, d2, wr1, at1⟩
theorem De_zquit_0 {v w : fw_V} (h : Dz 0 v w) (hsb : vp_in (w 40 0 0) 3) (hm : ∀ s, s < 3 → vp_in (w 42 0 (3 * 0 + s) + 1) 9) (ha : ∀ j, j < 4 → vp_in (w 47 0 (4 * 0 + j)) 3) (hK : Kd v w) (hW : Wr v w) (h9 : At w) : DB_0 (xf_De_abort v 0) (mf_Mo_quit_0 w) := by
  unfold xf_De_abort mf_Mo_quit_0 mf_Mo_reply_0
  have ms : ∀ c k, 10 ≤ c → mf_Mo_send w 16 (w 29 0 0) 0 2 c 0 k = w c 0 k := fun c k hc => msend_c (by omega) (by omega) (by omega) (by omega) (by omega) (by omega) (by omega)
  exact De_zrest_0 (Dz_send_0 h) (by rw [ms 40 _ (by decide)]; exact hsb) (fun s hs => by rw [ms 42 _ (by decide)]; exact hm s hs) (fun j hj => by rw [ms 47 _ (by decide)]; exact ha j hj) (Kd_send_0 hK) (Wr_s0 hW h9 rfl h.se.symm rfl rfl) At_send

theorem Dz_send_1 {v w : fw_V} {a b c d a' b' c' d' : Int32} (h : Dz 1 v w) : Dz 1 (xf_Wi_send v a b c d).2 (mf_Mo_send w a' b' c' d') := by
  have xs : ∀ c' i k, 10 ≤ c' → (xf_Wi_send v a b c d).2 c' i k = v c' i k := fun c' i k q => xsend_c (by omega) (by omega) (by omega)
  have ms : ∀ c k, 10 ≤ c → mf_Mo_send w a' b' c' d' c 0 k = w c 0 k := fun c k q => msend_c (by omega) (by omega) (by omega) (by omega) (by omega) (by omega) (by omega)
  unfold Dz at h ⊢
  simp only [xs 19 _ _ (by decide), xs 21 _ _ (by decide), xs 22 _ _ (by decide), xs 23 _ _ (by decide), xs 24 _ _ (by decide), xs 25 _ _ (by decide), ms 28 _ (by decide), ms 29 _ (by decide), ms 30 _ (by decide), ms 40 _ (by decide), ms 41 _ (by decide), ms 42 _ (by decide), ms 45 _ (by decide), ms 46 _ (by decide), ms 47 _ (by decide), ms 48 _ (by decide)]
  exact h
theorem De_zreset_1 {v w : fw_V} (h : Dz 1 v w) (hsb : vp_in (w 40 0 1) 3) (hm : ∀ s, s < 3 → vp_in (w 42 0 (3 * 1 + s) + 1) 9) (ha : ∀ j, j < 4 → vp_in (w 47 0 (4 * 1 + j)) 3) : Dv 1 (xf_De_becomeIdle_j1 v 1) (RS_1 w) ∧ Di 1 (xf_De_becomeIdle_j1 v 1) (RS_1 w) := by
  unfold RS_1 mf_Mo_rest_1_j1 mf_Mo_rest_1_j2 xf_De_becomeIdle_j1 xf_AQ_clear
  constructor
  · refine ⟨?_, ?_, ?_, ?_, ?_, ?_, ?_, ?_, ?_, ?_, ?_, ?_, ?_, ?_, ?_, ?_, ?_, ?_, ?_, fun s hs => ?_, ?_, ?_⟩
    · simp [fw_up, fw_row]; exact h.ix
    · simp [fw_up, fw_row]; exact h.nm
    · simp [fw_up, fw_row]; exact h.fb
    · simp [fw_up, fw_row]; exact h.oc
    · simp [fw_up, fw_row]
    · simp [fw_up, fw_row]
    · simp [fw_up, fw_row]
    · simp [fw_up, fw_row]
    · simp [fw_up, fw_row]
    · simp [fw_up, fw_row]
    · simp [fw_up, fw_row]
    · simp [fw_up, fw_row]
    · simp [fw_up, fw_row]
    · simp [fw_up, fw_row]
    · simp [fw_up, fw_row]
    · simp [fw_up, fw_row]; simpa using h.sl
    · simp [fw_up, fw_row]; simpa using h.sk
    · simp [fw_up, fw_row]; simpa using h.mo
    · simp [fw_up, fw_row]
    · rcases (show s = 0 ∨ s = 1 ∨ s = 2 by omega) with rfl | rfl | rfl <;> simp [fw_up, fw_row]
    · simp [fw_up, fw_row]; simpa using h.sn
    · simp [fw_up, fw_row]; simpa using h.sh
  · refine ⟨?_, fun _ => ⟨?_, ?_, ?_, fun s hs => ?_⟩, fun _ => ⟨?_, ?_, ?_⟩, ?_, ?_, ?_, ?_, ?_, ?_, ?_, ?_, ?_, fun s hs => ?_, ?_, ?_, ?_, ?_⟩
    · simp [fw_up]; exact fw_inc (by decide)
    · simp [fw_up]
    · simp [fw_up]
    · simp [fw_up]
    · rcases (show s = 0 ∨ s = 1 ∨ s = 2 by omega) with rfl | rfl | rfl <;> simp [fw_up]
    · simp [fw_up]
    · simp [fw_up]
    · simp [fw_up, fw_row]
    · simp [fw_up]
    · simp [fw_up]
    · simp [fw_up]
    · simp [fw_up]
    · simp [fw_up]
    · simp [fw_up]; exact fw_inc (by decide)
    · simp [fw_up]
    · simp [fw_up]
    · simp [fw_up]
    · left
      rcases (show s = 0 ∨ s = 1 ∨ s = 2 by omega) with rfl | rfl | rfl <;> simp [fw_up]
    · simp [fw_up]; exact hsb
    · simp [fw_up]; simpa using hm
    · simp [fw_up]
    · simp [fw_up]; simpa using ha
theorem De_zrest_1 {v w : fw_V} (h : Dz 1 v w) (hsb : vp_in (w 40 0 1) 3) (hm : ∀ s, s < 3 → vp_in (w 42 0 (3 * 1 + s) + 1) 9) (ha : ∀ j, j < 4 → vp_in (w 47 0 (4 * 1 + j)) 3) (hK : Kd v w) (hW : Wr v w) (h9 : At w) : DB_1 (xf_De_becomeIdle v 1) (mf_Mo_rest_1 w) := by
  obtain ⟨d1, d2⟩ := De_zreset_1 h hsb hm ha
  have wr1 : Wr (xf_De_becomeIdle_j1 v 1) (RS_1 w) := Wr_cg hW (fun c i k q1 q2 => J1_c_1 (by omega)) ⟨RS_c_1 (by omega), RS_c_1 (by omega), RS_c_1 (by omega)⟩ (fun c k q1 q2 => RS_c_1 (by omega))
  have at1 : At (RS_1 w) := fun t ht => by rw [RS_c_1 (by omega)]; exact h9 t ht
  rw [rest_eq_1, idle_eq_1, h.st]
  by_cases h3 : w 28 0 1 = 3
  · rw [if_pos h3, if_pos h3]
    obtain ⟨s1, s2⟩ := sf_3 (v := v) (r := 1)
    obtain ⟨p1, p2⟩ := rp_3_1 (w := RS_1 w)
    refine ⟨?_, ?_, ?_, ?_⟩
    · refine Dv_sh_1 d1 (fun c k q1 q2 q3 => J1_pt_1 (s2 c 1 k (by omega))) (fun k => J1_pt_1 (s2 14 _ k (by omega))) (fun c k q1 q2 q3 => p2 c 0 k (by omega)) (fun i hi => ?_)
      obtain ⟨s, j, hs, hj, rfl⟩ : ∃ s j, s < 3 ∧ j < 2 ∧ i = 2 * s + j := ⟨i / 2, i % 2, by omega, by omega, by omega⟩
      rw [J1_c_1 (by decide), s1 s j hs hj, show 6 * 1 + (2 * s + j) = 6 + 2 * s + j by omega, p1 s j hs hj, FM_cg_1 (w := w) (fun c k hc => RS_c_1 (by omega))]
      exact FXM_1 hK hs hj (by rw [show 3 + s = 3 * 1 + s by omega]; exact h.mo s hs) (by rw [show 3 + s = 3 * 1 + s by omega]; exact hm s hs) h.fb h.oc hsb (by rw [show 6 + 2 * s + j = 6 * 1 + (2 * s + j) by omega]; exact h.sh _ (by omega))
    · exact Di_sh_1 d2 (J1_pt_1 (s2 20 1 4 (by omega))) (fun c k q1 q2 q3 => p2 c 0 k (by omega))
    · exact Wr_cg wr1 (fun c i k q1 q2 => J1_pt_1 (s2 c i k (by omega))) ⟨p2 0 0 10 (by omega), p2 0 0 50 (by omega), p2 0 0 51 (by omega)⟩ (fun c k q1 q2 => p2 c 0 k (by omega))
    · exact fun t ht => by rw [p2 9 0 t (by omega)]; exact at1 t ht
  · rw [if_neg h3, if_neg h3]
    exact ⟨d1, d2, wr1, at1⟩
theorem De_zquit_1 {v w : fw_V} (h : Dz 1 v w) (hsb : vp_in (w 40 0 1) 3) (hm : ∀ s, s < 3 → vp_in (w 42 0 (3 * 1 + s) + 1) 9) (ha : ∀ j, j < 4 → vp_in (w 47 0 (4 * 1 + j)) 3) (hK : Kd v w) (hW : Wr v w) (h9 : At w) : DB_1 (xf_De_abort v 1) (mf_Mo_quit_1 w) := by
  unfold xf_De_abort mf_Mo_quit_1 mf_Mo_reply_1
  have ms : ∀ c k, 10 ≤ c → mf_Mo_send w 16 (w 29 0 1) 0 2 c 0 k = w c 0 k := fun c k hc => msend_c (by omega) (by omega) (by omega) (by omega) (by omega) (by omega) (by omega)
  exact De_zrest_1 (Dz_send_1 h) (by rw [ms 40 _ (by decide)]; exact hsb) (fun s hs => by rw [ms 42 _ (by decide)]; exact hm s hs) (fun j hj => by rw [ms 47 _ (by decide)]; exact ha j hj) (Kd_send_1 hK) (Wr_s0 hW h9 rfl h.se.symm rfl rfl) At_send

theorem al28_0 (w : fw_V) : mf_Mo_alarm_0 w 28 0 0 = w 28 0 0 := by
  have a2 : ∀ u : fw_V, mf_Mo_alarm_0_j2 u 28 0 0 = u 28 0 0 := by
    intro u
    unfold mf_Mo_alarm_0_j2 mf_Mo_reply_0
    (try dsimp only)
    rw [msend_c (by decide) (by decide) (by decide) (by decide) (by decide) (by decide) (by decide), fw_up_c (by decide), fw_up_c (by decide), fw_up_c (by decide)]
  unfold mf_Mo_alarm_0 mf_Mo_alarm_0_j1 mf_Mo_alarm_0_j3
  (try dsimp only)
  (repeat' split) <;> (first | rfl | (simp only [a2, fw_up_c (show (28 : Nat) ≠ 39 by decide), fw_up_c (show (28 : Nat) ≠ 36 by decide), fw_up_c (show (28 : Nat) ≠ 38 by decide)]))
/-- READY is asked no more: the abort -/
theorem dqa_0 {v w v2 w2 : fw_V} {x : Int32} (dv2 : Dv 0 v2 w2) (sb2 : vp_in (w2 40 0 0) 3) (m82 : ∀ s, s < 3 → vp_in (w2 42 0 (3 * 0 + s) + 1) 9) (a32 : ∀ j, j < 4 → vp_in (w2 47 0 (4 * 0 + j)) 3) (hK2 : Kd v2 w2) (wr2 : Wr v2 w2) (at2 : At w2) (xv18 : v2 19 0 18 = v 19 0 18) (xw56 : w2 0 0 56 = w 0 0 56) : DB_0 (xf_De_abort v2 0) (mf_Mo_quit_0 (fw_up w2 33 0 0 x)) ∧ ((xf_De_abort v2 0 19 0 18 = v 19 0 18 ∧ mf_Mo_quit_0 (fw_up w2 33 0 0 x) 0 0 56 = w 0 0 56) ∨ (xf_De_abort v2 0 19 0 18 = v 19 0 18 + 1 ∧ mf_Mo_quit_0 (fw_up w2 33 0 0 x) 0 0 56 = w 0 0 56 + 1)) := by
  refine ⟨?_, Or.inl ⟨by rw [xv_De_abort ⟨rfl, rfl⟩, xv18], by rw [mz56_Mo_quit_0 rfl, fw_up_c (by decide), xw56]⟩⟩
  refine De_zquit_0 (Dz_cg dv2 (fun _ _ _ _ _ => rfl) (fun c k q1 q2 q3 => fw_up_c q3)) ?_ ?_ ?_ ?_ ?_ ?_
  · rw [fw_up_c (by decide)]; exact sb2
  · exact fun s hs => by rw [fw_up_c (by decide)]; exact m82 s hs
  · exact fun j hj => by rw [fw_up_c (by decide)]; exact a32 j hj
  · exact ⟨fun k hk => by rw [fw_up_c (by decide)]; exact hK2.ki k hk, fun k hk => by rw [fw_up_c (by decide)]; exact hK2.ko k hk, fun k hk => by rw [fw_up_c (by decide)]; exact hK2.kn k hk⟩
  · exact Wr_cg wr2 (fun _ _ _ _ _ => rfl) ⟨fw_up_c (by decide), fw_up_c (by decide), fw_up_c (by decide)⟩ (fun c k q1 q2 => fw_up_c (by omega))
  · exact fun t ht => by rw [fw_up_c (by decide)]; exact at2 t ht

theorem al28_1 (w : fw_V) : mf_Mo_alarm_1 w 28 0 1 = w 28 0 1 := by
  have a2 : ∀ u : fw_V, mf_Mo_alarm_1_j2 u 28 0 1 = u 28 0 1 := by
    intro u
    unfold mf_Mo_alarm_1_j2 mf_Mo_reply_1
    (try dsimp only)
    rw [msend_c (by decide) (by decide) (by decide) (by decide) (by decide) (by decide) (by decide), fw_up_c (by decide), fw_up_c (by decide), fw_up_c (by decide)]
  unfold mf_Mo_alarm_1 mf_Mo_alarm_1_j1 mf_Mo_alarm_1_j3
  (try dsimp only)
  (repeat' split) <;> (first | rfl | (simp only [a2, fw_up_c (show (28 : Nat) ≠ 39 by decide), fw_up_c (show (28 : Nat) ≠ 36 by decide), fw_up_c (show (28 : Nat) ≠ 38 by decide)]))
/-- READY is asked no more: the abort -/
theorem dqa_1 {v w v2 w2 : fw_V} {x : Int32} (dv2 : Dv 1 v2 w2) (sb2 : vp_in (w2 40 0 1) 3) (m82 : ∀ s, s < 3 → vp_in (w2 42 0 (3 * 1 + s) + 1) 9) (a32 : ∀ j, j < 4 → vp_in (w2 47 0 (4 * 1 + j)) 3) (hK2 : Kd v2 w2) (wr2 : Wr v2 w2) (at2 : At w2) (xv18 : v2 19 1 18 = v 19 1 18) (xw56 : w2 0 0 56 = w 0 0 56) : DB_1 (xf_De_abort v2 1) (mf_Mo_quit_1 (fw_up w2 33 0 1 x)) ∧ ((xf_De_abort v2 1 19 1 18 = v 19 1 18 ∧ mf_Mo_quit_1 (fw_up w2 33 0 1 x) 0 0 56 = w 0 0 56) ∨ (xf_De_abort v2 1 19 1 18 = v 19 1 18 + 1 ∧ mf_Mo_quit_1 (fw_up w2 33 0 1 x) 0 0 56 = w 0 0 56 + 1)) := by
  refine ⟨?_, Or.inl ⟨by rw [xv_De_abort ⟨rfl, rfl⟩, xv18], by rw [mz56_Mo_quit_1 rfl, fw_up_c (by decide), xw56]⟩⟩
  refine De_zquit_1 (Dz_cg dv2 (fun _ _ _ _ _ => rfl) (fun c k q1 q2 q3 => fw_up_c q3)) ?_ ?_ ?_ ?_ ?_ ?_
  · rw [fw_up_c (by decide)]; exact sb2
  · exact fun s hs => by rw [fw_up_c (by decide)]; exact m82 s hs
  · exact fun j hj => by rw [fw_up_c (by decide)]; exact a32 j hj
  · exact ⟨fun k hk => by rw [fw_up_c (by decide)]; exact hK2.ki k hk, fun k hk => by rw [fw_up_c (by decide)]; exact hK2.ko k hk, fun k hk => by rw [fw_up_c (by decide)]; exact hK2.kn k hk⟩
  · exact Wr_cg wr2 (fun _ _ _ _ _ => rfl) ⟨fw_up_c (by decide), fw_up_c (by decide), fw_up_c (by decide)⟩ (fun c k q1 q2 => fw_up_c (by omega))
  · exact fun t ht => by rw [fw_up_c (by decide)]; exact at2 t ht

/-- a TICK for DEVICE d -/
theorem De_tick_0 {v w : fw_V} (h : DB_0 v w) (hK : Kd v w) : DB_0 (xf_De_passTick v 0) (mf_Mo_pulse_0 w) ∧ ((xf_De_passTick v 0 19 0 18 = v 19 0 18 ∧ mf_Mo_pulse_0 w 0 0 56 = w 0 0 56) ∨ (xf_De_passTick v 0 19 0 18 = v 19 0 18 + 1 ∧ mf_Mo_pulse_0 w 0 0 56 = w 0 0 56 + 1)) := by
  have hD := h.dv
  have hI := h.di
  unfold xf_De_passTick mf_Mo_pulse_0
  rw [hD.st]
  by_cases h0 : w 28 0 0 = 0
  · rw [if_pos h0, if_pos h0]; exact ⟨h, Or.inl ⟨rfl, rfl⟩⟩
  · rw [if_neg h0, if_neg h0]
    (try dsimp only)
    obtain ⟨v2, e2⟩ : ∃ v2, v2 = fw_up v 19 0 16 (v 19 0 16 + 1) := ⟨_, rfl⟩
    obtain ⟨w2, f2⟩ : ∃ w2, w2 = fw_up w 32 0 0 (w 32 0 0 + 1) := ⟨_, rfl⟩
    rw [← e2, ← f2]
    have s2 : w2 28 0 0 = w 28 0 0 := by rw [f2]; exact fw_up_c (by decide)
    have t2 : w2 32 0 0 = w 32 0 0 + 1 := by rw [f2]; exact fw_up_s
    have sv : v2 19 0 11 = w 28 0 0 := by rw [e2, fw_up_k (by decide)]; exact hD.st
    have tv : v2 19 0 16 = w 32 0 0 + 1 := by rw [e2, fw_up_s, hD.ti]
    have v2c : ∀ c i k, ¬ (c = 19 ∧ i = 0 ∧ k = 16) → v2 c i k = v c i k := fun c i k q => by rw [e2, fw_up_ne q]
    have w2c : ∀ c k, ¬ (c = 32 ∧ k = 0) → w2 c 0 k = w c 0 k := fun c k q => by rw [f2, fw_up_ne (fun z => q ⟨z.1, z.2.2⟩)]
    have w2d : ∀ c k, c ≠ 32 → w2 c 0 k = w c 0 k := fun c k q => w2c c k (fun z => q z.1)
    have v2d : ∀ c i k, c ≠ 19 → v2 c i k = v c i k := fun c i k q => v2c c i k (fun z => q z.1)
    have dv2 : Dv 0 v2 w2 := by
      rw [e2, f2]
      refine ⟨?_, ?_, ?_, ?_, ?_, ?_, ?_, ?_, ?_, ?_, ?_, ?_, ?_, ?_, ?_, ?_, ?_, ?_, ?_, ?_, ?_, ?_⟩ <;> simp [fw_up]
      · exact hD.ix
      · exact hD.nm
      · exact hD.fb
      · exact hD.oc
      · exact hD.st
      · exact hD.se
      · exact hD.di
      · rw [hD.ti]
      · exact hD.ag
      · exact hD.ne
      · exact hD.ta
      · exact hD.qs
      · exact hD.qw
      · exact hD.qn
      · exact hD.qt
      · simpa using hD.sl
      · simpa using hD.sk
      · simpa using hD.mo
      · simpa using hD.wa
      · simpa using hD.wr
      · simpa using hD.sn
      · simpa using hD.sh
    have wr2 : Wr v2 w2 := Wr_cg h.wr (fun c i k q1 q2 => v2c c i k (by omega)) ⟨w2c 0 10 (by omega), w2c 0 50 (by omega), w2c 0 51 (by omega)⟩ (fun c k q1 q2 => w2c c k (by omega))
    have at2 : At w2 := fun t ht => by rw [w2c 9 t (by omega)]; exact h.at t ht
    have hK2 : Kd v2 w2 := ⟨fun k hk => by rw [v2c 2 0 k (by omega), w2c 1 k (by omega)]; exact hK.ki k hk, fun k hk => by rw [v2c 3 0 k (by omega), w2c 2 k (by omega)]; exact hK.ko k hk, fun k hk => by rw [v2c 4 0 k (by omega), w2c 3 k (by omega)]; exact hK.kn k hk⟩
    have di2 : (w 28 0 0 = 1 → vp_in (w 32 0 0 + 1) 16) → (w 28 0 0 = 2 → vp_in (w 32 0 0 + 1) 3) → (w 28 0 0 = 3 → vp_in (w 32 0 0 + 1) 4) → Di 0 v2 w2 := by
      intro b1 b2 b3
      have := hI
      unfold Di at this ⊢
      simp only [s2, t2, v2d 20 0 4 (by decide), w2d 29 _ (by decide), w2d 31 _ (by decide), w2d 33 _ (by decide), w2d 34 _ (by decide), w2d 35 _ (by decide), w2d 36 _ (by decide), w2d 37 _ (by decide), w2d 39 _ (by decide), w2d 40 _ (by decide), w2d 42 _ (by decide), w2d 43 _ (by decide), w2d 44 _ (by decide), w2d 47 _ (by decide)]
      obtain ⟨a1, a2, a3, a4, a5, a6, a7⟩ := this
      exact ⟨a1, fun q => absurd q h0, a3, b1, fun q => ⟨b2 q, (a5 q).2⟩, b3, a7⟩
    have xv18 : v2 19 0 18 = v 19 0 18 := v2c 19 0 18 (by omega)
    have xw56 : w2 0 0 56 = w 0 0 56 := w2c 0 56 (by omega)
    have sb2 : vp_in (w2 40 0 0) 3 := by rw [w2c 40 _ (by omega)]; exact hI.sb
    have m82 : ∀ s, s < 3 → vp_in (w2 42 0 (3 * 0 + s) + 1) 9 := fun s hs => by rw [w2c 42 _ (by omega)]; exact hI.m8 s hs
    have a32 : ∀ j, j < 4 → vp_in (w2 47 0 (4 * 0 + j)) 3 := fun j hj => by rw [w2c 47 _ (by omega)]; exact hI.a3 j hj
    rw [sv, s2]
    by_cases h3 : w 28 0 0 = 3
    · rw [if_pos h3, if_neg (show ¬ w 28 0 0 = 1 by rw [h3]; decide), if_neg (show ¬ w 28 0 0 = 2 by rw [h3]; decide)]
      obtain ⟨t, ht, et⟩ := vp_in_of (hI.t3 h3) (by decide)
      unfold xf_De_passTickInData
      (try dsimp only)
      rw [tv, t2, et, nI_1]
      by_cases ht3 : t = 3
      · subst ht3
        rw [if_neg (show ¬ nI (3 + 1) < 4 by decide), if_pos (show nI (3 + 1) = (4 : Int32) by decide)]
        refine ⟨De_zquit_0 (Dz_cg dv2 (fun c k q1 q2 q3 => fw_up_ne (fun z => q3 ⟨z.1, by omega⟩)) (fun c k q1 q2 q3 => fw_up_c (by omega))) ?_ ?_ ?_ ?_ ?_ ?_, Or.inr ⟨?_, ?_⟩⟩
        · rw [fw_up_c (by decide)]; exact sb2
        · exact fun s hs => by rw [fw_up_c (by decide)]; exact m82 s hs
        · exact fun j hj => by rw [fw_up_c (by decide)]; exact a32 j hj
        · exact ⟨fun k hk => by rw [fw_up_c (by decide), fw_up_c (by decide)]; exact hK2.ki k hk, fun k hk => by rw [fw_up_c (by decide), fw_up_c (by decide)]; exact hK2.ko k hk, fun k hk => by rw [fw_up_c (by decide), fw_up_c (by decide)]; exact hK2.kn k hk⟩
        · exact Wr_cg wr2 (fun c i k q1 q2 => fw_up_c (by omega)) ⟨fw_up_k (by decide), fw_up_k (by decide), fw_up_k (by decide)⟩ (fun c k q1 q2 => fw_up_c (by omega))
        · exact fun t ht => by rw [fw_up_c (by decide)]; exact at2 t ht
        · rw [xv_De_abort ⟨rfl, rfl⟩, fw_up_s, xv18]
        · rw [mz56_Mo_quit_0 rfl, fw_up_s, xw56]
      · rw [if_pos (show nI (t + 1) < 4 from (nI_ltI (a := t + 1) (b := 4) (by omega) (by omega)).mpr (by omega)), if_neg (show ¬ nI (t + 1) = (4 : Int32) from fun q => by
          have := (nI_eq (a := t + 1) (b := 4) (by omega) (by omega)).mp q
          omega)]
        have ok : vp_in (w 32 0 0 + 1) 4 := by rw [et, nI_1]; exact vp_in_nI (by omega) (by decide)
        have hB2 : DB_0 v2 w2 := ⟨dv2, di2 (fun q => absurd (h3.symm.trans q) (by decide)) (fun q => absurd (h3.symm.trans q) (by decide)) (fun _ => ok), wr2, at2⟩
        have al := De_alarm_0 hB2 (by rw [s2]; exact h3)
        obtain ⟨va, ea⟩ : ∃ va, va = (if (xf_AQ_isDueThisTick v2 0).1 = 0 then (xf_AQ_isDueThisTick v2 0).2 else xf_De_sendAlarm (xf_AQ_isDueThisTick v2 0).2 0) := ⟨_, rfl⟩
        have ez : (if (xf_AQ_isDueThisTick v2 0).1 = 0 then xf_De_sendInput (xf_AQ_isDueThisTick v2 0).2 0 else xf_De_sendInput (xf_De_sendAlarm (xf_AQ_isDueThisTick v2 0).2 0) 0) = xf_De_sendInput va 0 := by
          rw [ea]; split <;> rfl
        rw [ez]
        rw [← ea] at al
        have av : ∀ c i k, (c ≠ 5 ∧ c ≠ 7 ∧ c ≠ 8) → ¬ ((i = 0 ∧ 19 ≤ c) ∨ (i = 0 + 2 ∧ c = 14)) → va c i k = v2 c i k := by
          intro c i k q1 q2
          rw [ea]
          split
          · exact do_AQ_isDueThisTick q1 q2 _
          · rw [do_De_sendAlarm q1 q2]; exact do_AQ_isDueThisTick q1 q2 _
        have aw : ∀ c k, (c ≠ 0 ∧ c ≠ 4 ∧ c ≠ 5 ∧ c ≠ 6 ∧ c ≠ 7 ∧ c ≠ 8 ∧ c ≠ 9 ∧ c ≠ 44) → c < 28 → mf_Mo_alarm_0 w2 c 0 k = w2 c 0 k := fun c k q1 q2 => md0_Mo_alarm_0 q1 (by omega) w2
        have hKa : Kd va (mf_Mo_alarm_0 w2) := ⟨fun k hk => by rw [av 2 0 k (by decide) (by omega), aw 1 k (by decide) (by decide)]; exact hK2.ki k hk, fun k hk => by rw [av 3 0 k (by decide) (by omega), aw 2 k (by decide) (by decide)]; exact hK2.ko k hk, fun k hk => by rw [av 4 0 k (by decide) (by omega), aw 3 k (by decide) (by decide)]; exact hK2.kn k hk⟩
        have s3 : mf_Mo_alarm_0 w2 28 0 0 = 3 := by
          have : mf_Mo_alarm_0 w2 28 0 0 = w2 28 0 0 := al28_0 w2
          rw [this, s2]; exact h3
        refine ⟨De_input_0 al hKa s3, Or.inl ⟨?_, ?_⟩⟩
        · rw [xv_De_sendInput ⟨rfl, rfl⟩, ea]
          split
          · rw [xv_AQ_isDueThisTick ⟨rfl, rfl⟩, xv18]
          · rw [xv_De_sendAlarm ⟨rfl, rfl⟩, xv_AQ_isDueThisTick ⟨rfl, rfl⟩, xv18]
        · rw [mz56_Mo_pulse_0_j1 rfl, mz56_Mo_alarm_0 rfl, xw56]
    · rw [if_neg h3]
      by_cases h1 : w 28 0 0 = 1
      · rw [if_pos h1, if_neg (show ¬ w 28 0 0 = 2 by rw [h1]; decide)]
        obtain ⟨t, ht, et⟩ := vp_in_of (hI.t1 h1) (by decide)
        rw [tv, t2, et, nI_1]
        by_cases h15 : t = 15
        · subst h15
          rw [if_neg (show ¬ nI (15 + 1) < 16 by decide), if_pos (show nI (15 + 1) = (16 : Int32) by decide)]
          refine ⟨De_rest_0 dv2 sb2 m82 a32 hK2 wr2 at2, Or.inl ⟨?_, ?_⟩⟩
          · rw [xv_De_becomeIdle ⟨rfl, rfl⟩, xv18]
          · rw [mz56_Mo_rest_0 rfl, xw56]
        · rw [if_pos (show nI (t + 1) < 16 from (nI_ltI (a := t + 1) (b := 16) (by omega) (by omega)).mpr (by omega)), if_neg (show ¬ nI (t + 1) = (16 : Int32) from fun q => by
            have := (nI_eq (a := t + 1) (b := 16) (by omega) (by omega)).mp q
            omega)]
          have ok : vp_in (w 32 0 0 + 1) 16 := by rw [et, nI_1]; exact vp_in_nI (by omega) (by decide)
          exact ⟨⟨dv2, di2 (fun _ => ok) (fun q => absurd (h1.symm.trans q) (by decide)) (fun q => absurd q h3), wr2, at2⟩, Or.inl ⟨xv18, xw56⟩⟩
      · have h2 : w 28 0 0 = 2 := by
          obtain ⟨z, hz, ez⟩ := vp_in_of hI.s4 (by decide)
          rw [ez] at h0 h1 h3 ⊢
          rcases (show z = 0 ∨ z = 1 ∨ z = 2 ∨ z = 3 by omega) with rfl | rfl | rfl | rfl
          · exact absurd rfl h0
          · exact absurd rfl h1
          · rfl
          · exact absurd rfl h3
        rw [if_neg h1, if_pos h2, if_pos h2]
        obtain ⟨b1, b2⟩ := hI.t2 h2
        obtain ⟨t, ht, et⟩ := vp_in_of b1 (by decide)
        obtain ⟨a, ha, ea⟩ := vp_in_of b2 (by decide)
        rw [tv, t2, et, nI_1]
        by_cases h22 : t = 2
        · subst h22
          rw [if_neg (show ¬ nI (2 + 1) < 3 by decide), if_pos (show (3 : Int32) ≤ nI (2 + 1) by decide)]
          unfold xf_De_readyAgain
          have ag2 : v2 19 0 17 = nI a := by rw [v2c 19 0 17 (by omega), hD.ag h2]; exact ea
          have aw2 : w2 33 0 0 = nI a := by rw [w2c 33 _ (by omega)]; exact ea
          rw [ag2, aw2, nI_1]
          by_cases ha3 : a = 3
          · subst ha3
            rw [if_pos (show (3 : Int32) ≤ nI 3 by decide), if_pos (show nI 3 = (3 : Int32) by decide)]
            have kw : ∀ c k, c ≠ 33 → fw_up w2 33 0 0 (nI (3 + 1)) c 0 k = w2 c 0 k := fun c k q => fw_up_c q
            exact dqa_0 dv2 sb2 m82 a32 hK2 wr2 at2 xv18 xw56
          · rw [if_neg (show ¬ (3 : Int32) ≤ nI a from fun q => by
              have := (nI_leI (a := 3) (b := a) (by omega) (by omega)).mp q
              omega), if_neg (show ¬ nI a = (3 : Int32) from fun q => ha3 ((nI_eq (a := a) (b := 3) (by omega) (by omega)).mp q))]
            (try dsimp only)
            obtain ⟨w7, f7⟩ : ∃ w7, w7 = fw_up (fw_up w2 33 0 0 (nI (a + 1))) 32 0 0 0 := ⟨_, rfl⟩
            obtain ⟨v7, e7⟩ : ∃ v7, v7 = fw_up (fw_up v2 19 0 17 (nI (a + 1))) 19 0 16 0 := ⟨_, rfl⟩
            rw [← f7, ← e7]
            have w7c : ∀ c k, c ≠ 32 → c ≠ 33 → w7 c 0 k = w2 c 0 k := fun c k q1 q2 => by rw [f7, fw_up_c q1, fw_up_c q2]
            have v7c : ∀ c i k, ¬ (c = 19 ∧ (k = 16 ∨ k = 17)) → v7 c i k = v2 c i k := fun c i k q => by rw [e7, fw_up_ne (fun z => q ⟨z.1, Or.inl z.2.2⟩), fw_up_ne (fun z => q ⟨z.1, Or.inr z.2.2⟩)]
            have v7d : ∀ c i k, c ≠ 19 → v7 c i k = v2 c i k := fun c i k q => v7c c i k (fun z => q z.1)
            have t7 : w7 32 0 0 = 0 := by rw [f7]; exact fw_up_s
            have a7 : w7 33 0 0 = nI (a + 1) := by rw [f7, fw_up_c (by decide)]; exact fw_up_s
            have s7 : w7 28 0 0 = w 28 0 0 := by rw [w7c 28 _ (by decide) (by decide)]; exact s2
            have dv7 : Dv 0 v7 w7 := by
              have g := dv2
              unfold Dv at g ⊢
              have z16 : v7 19 0 16 = w7 32 0 0 := by rw [t7, e7]; exact fw_up_s
              have z17 : v7 19 0 17 = w7 33 0 0 := by rw [a7, e7, fw_up_k (by decide)]; exact fw_up_s
              simp only [z16, z17, v7c 19 _ 0 (by omega), v7c 19 _ 5 (by omega), v7c 19 _ 6 (by omega), v7c 19 _ 7 (by omega), v7c 19 _ 11 (by omega), v7c 19 _ 12 (by omega), v7c 19 _ 15 (by omega), v7d 14 _ _ (by decide), v7d 20 _ _ (by decide), v7d 21 _ _ (by decide), v7d 22 _ _ (by decide), v7d 23 _ _ (by decide), v7d 24 _ _ (by decide), v7d 25 _ _ (by decide), v7d 26 _ _ (by decide), v7d 27 _ _ (by decide), w7c 28 _ (by decide) (by decide), w7c 29 _ (by decide) (by decide), w7c 30 _ (by decide) (by decide), w7c 31 _ (by decide) (by decide), w7c 34 _ (by decide) (by decide), w7c 35 _ (by decide) (by decide), w7c 36 _ (by decide) (by decide), w7c 37 _ (by decide) (by decide), w7c 38 _ (by decide) (by decide), w7c 39 _ (by decide) (by decide), w7c 40 _ (by decide) (by decide), w7c 41 _ (by decide) (by decide), w7c 42 _ (by decide) (by decide), w7c 43 _ (by decide) (by decide), w7c 44 _ (by decide) (by decide), w7c 45 _ (by decide) (by decide), w7c 46 _ (by decide) (by decide), w7c 47 _ (by decide) (by decide), w7c 48 _ (by decide) (by decide)]
              obtain ⟨c1, c2, c3, c4, c5, c6, c7, c8, c9, c10⟩ := g
              exact ⟨c1, c2, c3, c4, c5, c6, c7, trivial, fun _ => trivial, c10⟩
            have di7 : Di 0 v7 w7 := by
              have := hI
              unfold Di at this ⊢
              simp only [s7, t7, a7, v7d 20 0 4 (by decide), v2d 20 0 4 (by decide), w7c 29 _ (by decide) (by decide), w2d 29 _ (by decide), w7c 31 _ (by decide) (by decide), w2d 31 _ (by decide), w7c 34 _ (by decide) (by decide), w2d 34 _ (by decide), w7c 35 _ (by decide) (by decide), w2d 35 _ (by decide), w7c 36 _ (by decide) (by decide), w2d 36 _ (by decide), w7c 37 _ (by decide) (by decide), w2d 37 _ (by decide), w7c 39 _ (by decide) (by decide), w2d 39 _ (by decide), w7c 40 _ (by decide) (by decide), w2d 40 _ (by decide), w7c 42 _ (by decide) (by decide), w2d 42 _ (by decide), w7c 43 _ (by decide) (by decide), w2d 43 _ (by decide), w7c 44 _ (by decide) (by decide), w2d 44 _ (by decide), w7c 47 _ (by decide) (by decide), w2d 47 _ (by decide)]
              obtain ⟨a1, a2, a3, a4, a5, a6, a7⟩ := this
              exact ⟨a1, fun q => absurd q h0, a3, fun q => absurd q h1, fun q => ⟨fw_inc (by decide), vp_in_nI (by omega) (by decide)⟩, fun q => absurd q h3, a7⟩
            have wr7 : Wr v7 w7 := Wr_cg wr2 (fun c i k q1 q2 => v7c c i k (by omega)) ⟨w7c 0 10 (by decide) (by decide), w7c 0 50 (by decide) (by decide), w7c 0 51 (by decide) (by decide)⟩ (fun c k q1 q2 => w7c c k (by omega) (by omega))
            have at7 : At w7 := fun t ht => by rw [w7c 9 t (by decide) (by decide)]; exact at2 t ht
            unfold mf_Mo_reply_0
            (try dsimp only)
            refine ⟨⟨Dv_send_0 dv7, Di_send_0 di7, Wr_s0 wr7 at7 rfl dv7.se.symm rfl rfl, At_send⟩, Or.inl ⟨?_, ?_⟩⟩
            · rw [xsend_c (by decide) (by decide) (by decide), v7c 19 0 18 (by omega), xv18]
            · rw [msend_0k (by decide) (by decide) (by decide), w7c 0 56 (by decide) (by decide), xw56]
        · rw [if_pos (show nI (t + 1) < 3 from (nI_ltI (a := t + 1) (b := 3) (by omega) (by omega)).mpr (by omega)), if_neg (show ¬ (3 : Int32) ≤ nI (t + 1) from fun q => by
            have := (nI_leI (a := 3) (b := t + 1) (by omega) (by omega)).mp q
            omega)]
          have ok : vp_in (w 32 0 0 + 1) 3 := by rw [et, nI_1]; exact vp_in_nI (by omega) (by decide)
          exact ⟨⟨dv2, di2 (fun q => absurd q h1) (fun _ => ok) (fun q => absurd q h3), wr2, at2⟩, Or.inl ⟨xv18, xw56⟩⟩

/-- a TICK for DEVICE d -/
theorem De_tick_1 {v w : fw_V} (h : DB_1 v w) (hK : Kd v w) : DB_1 (xf_De_passTick v 1) (mf_Mo_pulse_1 w) ∧ ((xf_De_passTick v 1 19 1 18 = v 19 1 18 ∧ mf_Mo_pulse_1 w 0 0 56 = w 0 0 56) ∨ (xf_De_passTick v 1 19 1 18 = v 19 1 18 + 1 ∧ mf_Mo_pulse_1 w 0 0 56 = w 0 0 56 + 1)) := by
  have hD := h.dv
  have hI := h.di
  unfold xf_De_passTick mf_Mo_pulse_1
  rw [hD.st]
  by_cases h0 : w 28 0 1 = 0
  · rw [if_pos h0, if_pos h0]; exact ⟨h, Or.inl ⟨rfl, rfl⟩⟩
  · rw [if_neg h0, if_neg h0]
    (try dsimp only)
    obtain ⟨v2, e2⟩ : ∃ v2, v2 = fw_up v 19 1 16 (v 19 1 16 + 1) := ⟨_, rfl⟩
    obtain ⟨w2, f2⟩ : ∃ w2, w2 = fw_up w 32 0 1 (w 32 0 1 + 1) := ⟨_, rfl⟩
    rw [← e2, ← f2]
    have s2 : w2 28 0 1 = w 28 0 1 := by rw [f2]; exact fw_up_c (by decide)
    have t2 : w2 32 0 1 = w 32 0 1 + 1 := by rw [f2]; exact fw_up_s
    have sv : v2 19 1 11 = w 28 0 1 := by rw [e2, fw_up_k (by decide)]; exact hD.st
    have tv : v2 19 1 16 = w 32 0 1 + 1 := by rw [e2, fw_up_s, hD.ti]
    have v2c : ∀ c i k, ¬ (c = 19 ∧ i = 1 ∧ k = 16) → v2 c i k = v c i k := fun c i k q => by rw [e2, fw_up_ne q]
    have w2c : ∀ c k, ¬ (c = 32 ∧ k = 1) → w2 c 0 k = w c 0 k := fun c k q => by rw [f2, fw_up_ne (fun z => q ⟨z.1, z.2.2⟩)]
    have w2d : ∀ c k, c ≠ 32 → w2 c 0 k = w c 0 k := fun c k q => w2c c k (fun z => q z.1)
    have v2d : ∀ c i k, c ≠ 19 → v2 c i k = v c i k := fun c i k q => v2c c i k (fun z => q z.1)
    have dv2 : Dv 1 v2 w2 := by
      rw [e2, f2]
      refine ⟨?_, ?_, ?_, ?_, ?_, ?_, ?_, ?_, ?_, ?_, ?_, ?_, ?_, ?_, ?_, ?_, ?_, ?_, ?_, ?_, ?_, ?_⟩ <;> simp [fw_up]
      · exact hD.ix
      · exact hD.nm
      · exact hD.fb
      · exact hD.oc
      · exact hD.st
      · exact hD.se
      · exact hD.di
      · rw [hD.ti]
      · exact hD.ag
      · exact hD.ne
      · exact hD.ta
      · exact hD.qs
      · exact hD.qw
      · exact hD.qn
      · exact hD.qt
      · simpa using hD.sl
      · simpa using hD.sk
      · simpa using hD.mo
      · simpa using hD.wa
      · simpa using hD.wr
      · simpa using hD.sn
      · simpa using hD.sh
    have wr2 : Wr v2 w2 := Wr_cg h.wr (fun c i k q1 q2 => v2c c i k (by omega)) ⟨w2c 0 10 (by omega), w2c 0 50 (by omega), w2c 0 51 (by omega)⟩ (fun c k q1 q2 => w2c c k (by omega))
    have at2 : At w2 := fun t ht => by rw [w2c 9 t (by omega)]; exact h.at t ht
    have hK2 : Kd v2 w2 := ⟨fun k hk => by rw [v2c 2 0 k (by omega), w2c 1 k (by omega)]; exact hK.ki k hk, fun k hk => by rw [v2c 3 0 k (by omega), w2c 2 k (by omega)]; exact hK.ko k hk, fun k hk => by rw [v2c 4 0 k (by omega), w2c 3 k (by omega)]; exact hK.kn k hk⟩
    have di2 : (w 28 0 1 = 1 → vp_in (w 32 0 1 + 1) 16) → (w 28 0 1 = 2 → vp_in (w 32 0 1 + 1) 3) → (w 28 0 1 = 3 → vp_in (w 32 0 1 + 1) 4) → Di 1 v2 w2 := by
      intro b1 b2 b3
      have := hI
      unfold Di at this ⊢
      simp only [s2, t2, v2d 20 1 4 (by decide), w2d 29 _ (by decide), w2d 31 _ (by decide), w2d 33 _ (by decide), w2d 34 _ (by decide), w2d 35 _ (by decide), w2d 36 _ (by decide), w2d 37 _ (by decide), w2d 39 _ (by decide), w2d 40 _ (by decide), w2d 42 _ (by decide), w2d 43 _ (by decide), w2d 44 _ (by decide), w2d 47 _ (by decide)]
      obtain ⟨a1, a2, a3, a4, a5, a6, a7⟩ := this
      exact ⟨a1, fun q => absurd q h0, a3, b1, fun q => ⟨b2 q, (a5 q).2⟩, b3, a7⟩
    have xv18 : v2 19 1 18 = v 19 1 18 := v2c 19 1 18 (by omega)
    have xw56 : w2 0 0 56 = w 0 0 56 := w2c 0 56 (by omega)
    have sb2 : vp_in (w2 40 0 1) 3 := by rw [w2c 40 _ (by omega)]; exact hI.sb
    have m82 : ∀ s, s < 3 → vp_in (w2 42 0 (3 * 1 + s) + 1) 9 := fun s hs => by rw [w2c 42 _ (by omega)]; exact hI.m8 s hs
    have a32 : ∀ j, j < 4 → vp_in (w2 47 0 (4 * 1 + j)) 3 := fun j hj => by rw [w2c 47 _ (by omega)]; exact hI.a3 j hj
    rw [sv, s2]
    by_cases h3 : w 28 0 1 = 3
    · rw [if_pos h3, if_neg (show ¬ w 28 0 1 = 1 by rw [h3]; decide), if_neg (show ¬ w 28 0 1 = 2 by rw [h3]; decide)]
      obtain ⟨t, ht, et⟩ := vp_in_of (hI.t3 h3) (by decide)
      unfold xf_De_passTickInData
      (try dsimp only)
      rw [tv, t2, et, nI_1]
      by_cases ht3 : t = 3
      · subst ht3
        rw [if_neg (show ¬ nI (3 + 1) < 4 by decide), if_pos (show nI (3 + 1) = (4 : Int32) by decide)]
        refine ⟨De_zquit_1 (Dz_cg dv2 (fun c k q1 q2 q3 => fw_up_ne (fun z => q3 ⟨z.1, by omega⟩)) (fun c k q1 q2 q3 => fw_up_c (by omega))) ?_ ?_ ?_ ?_ ?_ ?_, Or.inr ⟨?_, ?_⟩⟩
        · rw [fw_up_c (by decide)]; exact sb2
        · exact fun s hs => by rw [fw_up_c (by decide)]; exact m82 s hs
        · exact fun j hj => by rw [fw_up_c (by decide)]; exact a32 j hj
        · exact ⟨fun k hk => by rw [fw_up_c (by decide), fw_up_c (by decide)]; exact hK2.ki k hk, fun k hk => by rw [fw_up_c (by decide), fw_up_c (by decide)]; exact hK2.ko k hk, fun k hk => by rw [fw_up_c (by decide), fw_up_c (by decide)]; exact hK2.kn k hk⟩
        · exact Wr_cg wr2 (fun c i k q1 q2 => fw_up_c (by omega)) ⟨fw_up_k (by decide), fw_up_k (by decide), fw_up_k (by decide)⟩ (fun c k q1 q2 => fw_up_c (by omega))
        · exact fun t ht => by rw [fw_up_c (by decide)]; exact at2 t ht
        · rw [xv_De_abort ⟨rfl, rfl⟩, fw_up_s, xv18]
        · rw [mz56_Mo_quit_1 rfl, fw_up_s, xw56]
      · rw [if_pos (show nI (t + 1) < 4 from (nI_ltI (a := t + 1) (b := 4) (by omega) (by omega)).mpr (by omega)), if_neg (show ¬ nI (t + 1) = (4 : Int32) from fun q => by
          have := (nI_eq (a := t + 1) (b := 4) (by omega) (by omega)).mp q
          omega)]
        have ok : vp_in (w 32 0 1 + 1) 4 := by rw [et, nI_1]; exact vp_in_nI (by omega) (by decide)
        have hB2 : DB_1 v2 w2 := ⟨dv2, di2 (fun q => absurd (h3.symm.trans q) (by decide)) (fun q => absurd (h3.symm.trans q) (by decide)) (fun _ => ok), wr2, at2⟩
        have al := De_alarm_1 hB2 (by rw [s2]; exact h3)
        obtain ⟨va, ea⟩ : ∃ va, va = (if (xf_AQ_isDueThisTick v2 1).1 = 0 then (xf_AQ_isDueThisTick v2 1).2 else xf_De_sendAlarm (xf_AQ_isDueThisTick v2 1).2 1) := ⟨_, rfl⟩
        have ez : (if (xf_AQ_isDueThisTick v2 1).1 = 0 then xf_De_sendInput (xf_AQ_isDueThisTick v2 1).2 1 else xf_De_sendInput (xf_De_sendAlarm (xf_AQ_isDueThisTick v2 1).2 1) 1) = xf_De_sendInput va 1 := by
          rw [ea]; split <;> rfl
        rw [ez]
        rw [← ea] at al
        have av : ∀ c i k, (c ≠ 5 ∧ c ≠ 7 ∧ c ≠ 8) → ¬ ((i = 1 ∧ 19 ≤ c) ∨ (i = 1 + 2 ∧ c = 14)) → va c i k = v2 c i k := by
          intro c i k q1 q2
          rw [ea]
          split
          · exact do_AQ_isDueThisTick q1 q2 _
          · rw [do_De_sendAlarm q1 q2]; exact do_AQ_isDueThisTick q1 q2 _
        have aw : ∀ c k, (c ≠ 0 ∧ c ≠ 4 ∧ c ≠ 5 ∧ c ≠ 6 ∧ c ≠ 7 ∧ c ≠ 8 ∧ c ≠ 9 ∧ c ≠ 44) → c < 28 → mf_Mo_alarm_1 w2 c 0 k = w2 c 0 k := fun c k q1 q2 => md1_Mo_alarm_1 q1 (by omega) w2
        have hKa : Kd va (mf_Mo_alarm_1 w2) := ⟨fun k hk => by rw [av 2 0 k (by decide) (by omega), aw 1 k (by decide) (by decide)]; exact hK2.ki k hk, fun k hk => by rw [av 3 0 k (by decide) (by omega), aw 2 k (by decide) (by decide)]; exact hK2.ko k hk, fun k hk => by rw [av 4 0 k (by decide) (by omega), aw 3 k (by decide) (by decide)]; exact hK2.kn k hk⟩
        have s3 : mf_Mo_alarm_1 w2 28 0 1 = 3 := by
          have : mf_Mo_alarm_1 w2 28 0 1 = w2 28 0 1 := al28_1 w2
          rw [this, s2]; exact h3
        refine ⟨De_input_1 al hKa s3, Or.inl ⟨?_, ?_⟩⟩
        · rw [xv_De_sendInput ⟨rfl, rfl⟩, ea]
          split
          · rw [xv_AQ_isDueThisTick ⟨rfl, rfl⟩, xv18]
          · rw [xv_De_sendAlarm ⟨rfl, rfl⟩, xv_AQ_isDueThisTick ⟨rfl, rfl⟩, xv18]
        · rw [mz56_Mo_pulse_1_j1 rfl, mz56_Mo_alarm_1 rfl, xw56]
    · rw [if_neg h3]
      by_cases h1 : w 28 0 1 = 1
      · rw [if_pos h1, if_neg (show ¬ w 28 0 1 = 2 by rw [h1]; decide)]
        obtain ⟨t, ht, et⟩ := vp_in_of (hI.t1 h1) (by decide)
        rw [tv, t2, et, nI_1]
        by_cases h15 : t = 15
        · subst h15
          rw [if_neg (show ¬ nI (15 + 1) < 16 by decide), if_pos (show nI (15 + 1) = (16 : Int32) by decide)]
          refine ⟨De_rest_1 dv2 sb2 m82 a32 hK2 wr2 at2, Or.inl ⟨?_, ?_⟩⟩
          · rw [xv_De_becomeIdle ⟨rfl, rfl⟩, xv18]
          · rw [mz56_Mo_rest_1 rfl, xw56]
        · rw [if_pos (show nI (t + 1) < 16 from (nI_ltI (a := t + 1) (b := 16) (by omega) (by omega)).mpr (by omega)), if_neg (show ¬ nI (t + 1) = (16 : Int32) from fun q => by
            have := (nI_eq (a := t + 1) (b := 16) (by omega) (by omega)).mp q
            omega)]
          have ok : vp_in (w 32 0 1 + 1) 16 := by rw [et, nI_1]; exact vp_in_nI (by omega) (by decide)
          exact ⟨⟨dv2, di2 (fun _ => ok) (fun q => absurd (h1.symm.trans q) (by decide)) (fun q => absurd q h3), wr2, at2⟩, Or.inl ⟨xv18, xw56⟩⟩
      · have h2 : w 28 0 1 = 2 := by
          obtain ⟨z, hz, ez⟩ := vp_in_of hI.s4 (by decide)
          rw [ez] at h0 h1 h3 ⊢
          rcases (show z = 0 ∨ z = 1 ∨ z = 2 ∨ z = 3 by omega) with rfl | rfl | rfl | rfl
          · exact absurd rfl h0
          · exact absurd rfl h1
          · rfl
          · exact absurd rfl h3
        rw [if_neg h1, if_pos h2, if_pos h2]
        obtain ⟨b1, b2⟩ := hI.t2 h2
        obtain ⟨t, ht, et⟩ := vp_in_of b1 (by decide)
        obtain ⟨a, ha, ea⟩ := vp_in_of b2 (by decide)
        rw [tv, t2, et, nI_1]
        by_cases h22 : t = 2
        · subst h22
          rw [if_neg (show ¬ nI (2 + 1) < 3 by decide), if_pos (show (3 : Int32) ≤ nI (2 + 1) by decide)]
          unfold xf_De_readyAgain
          have ag2 : v2 19 1 17 = nI a := by rw [v2c 19 1 17 (by omega), hD.ag h2]; exact ea
          have aw2 : w2 33 0 1 = nI a := by rw [w2c 33 _ (by omega)]; exact ea
          rw [ag2, aw2, nI_1]
          by_cases ha3 : a = 3
          · subst ha3
            rw [if_pos (show (3 : Int32) ≤ nI 3 by decide), if_pos (show nI 3 = (3 : Int32) by decide)]
            have kw : ∀ c k, c ≠ 33 → fw_up w2 33 0 1 (nI (3 + 1)) c 0 k = w2 c 0 k := fun c k q => fw_up_c q
            exact dqa_1 dv2 sb2 m82 a32 hK2 wr2 at2 xv18 xw56
          · rw [if_neg (show ¬ (3 : Int32) ≤ nI a from fun q => by
              have := (nI_leI (a := 3) (b := a) (by omega) (by omega)).mp q
              omega), if_neg (show ¬ nI a = (3 : Int32) from fun q => ha3 ((nI_eq (a := a) (b := 3) (by omega) (by omega)).mp q))]
            (try dsimp only)
            obtain ⟨w7, f7⟩ : ∃ w7, w7 = fw_up (fw_up w2 33 0 1 (nI (a + 1))) 32 0 1 0 := ⟨_, rfl⟩
            obtain ⟨v7, e7⟩ : ∃ v7, v7 = fw_up (fw_up v2 19 1 17 (nI (a + 1))) 19 1 16 0 := ⟨_, rfl⟩
            rw [← f7, ← e7]
            have w7c : ∀ c k, c ≠ 32 → c ≠ 33 → w7 c 0 k = w2 c 0 k := fun c k q1 q2 => by rw [f7, fw_up_c q1, fw_up_c q2]
            have v7c : ∀ c i k, ¬ (c = 19 ∧ (k = 16 ∨ k = 17)) → v7 c i k = v2 c i k := fun c i k q => by rw [e7, fw_up_ne (fun z => q ⟨z.1, Or.inl z.2.2⟩), fw_up_ne (fun z => q ⟨z.1, Or.inr z.2.2⟩)]
            have v7d : ∀ c i k, c ≠ 19 → v7 c i k = v2 c i k := fun c i k q => v7c c i k (fun z => q z.1)
            have t7 : w7 32 0 1 = 0 := by rw [f7]; exact fw_up_s
            have a7 : w7 33 0 1 = nI (a + 1) := by rw [f7, fw_up_c (by decide)]; exact fw_up_s
            have s7 : w7 28 0 1 = w 28 0 1 := by rw [w7c 28 _ (by decide) (by decide)]; exact s2
            have dv7 : Dv 1 v7 w7 := by
              have g := dv2
              unfold Dv at g ⊢
              have z16 : v7 19 1 16 = w7 32 0 1 := by rw [t7, e7]; exact fw_up_s
              have z17 : v7 19 1 17 = w7 33 0 1 := by rw [a7, e7, fw_up_k (by decide)]; exact fw_up_s
              simp only [z16, z17, v7c 19 _ 0 (by omega), v7c 19 _ 5 (by omega), v7c 19 _ 6 (by omega), v7c 19 _ 7 (by omega), v7c 19 _ 11 (by omega), v7c 19 _ 12 (by omega), v7c 19 _ 15 (by omega), v7d 14 _ _ (by decide), v7d 20 _ _ (by decide), v7d 21 _ _ (by decide), v7d 22 _ _ (by decide), v7d 23 _ _ (by decide), v7d 24 _ _ (by decide), v7d 25 _ _ (by decide), v7d 26 _ _ (by decide), v7d 27 _ _ (by decide), w7c 28 _ (by decide) (by decide), w7c 29 _ (by decide) (by decide), w7c 30 _ (by decide) (by decide), w7c 31 _ (by decide) (by decide), w7c 34 _ (by decide) (by decide), w7c 35 _ (by decide) (by decide), w7c 36 _ (by decide) (by decide), w7c 37 _ (by decide) (by decide), w7c 38 _ (by decide) (by decide), w7c 39 _ (by decide) (by decide), w7c 40 _ (by decide) (by decide), w7c 41 _ (by decide) (by decide), w7c 42 _ (by decide) (by decide), w7c 43 _ (by decide) (by decide), w7c 44 _ (by decide) (by decide), w7c 45 _ (by decide) (by decide), w7c 46 _ (by decide) (by decide), w7c 47 _ (by decide) (by decide), w7c 48 _ (by decide) (by decide)]
              obtain ⟨c1, c2, c3, c4, c5, c6, c7, c8, c9, c10⟩ := g
              exact ⟨c1, c2, c3, c4, c5, c6, c7, trivial, fun _ => trivial, c10⟩
            have di7 : Di 1 v7 w7 := by
              have := hI
              unfold Di at this ⊢
              simp only [s7, t7, a7, v7d 20 1 4 (by decide), v2d 20 1 4 (by decide), w7c 29 _ (by decide) (by decide), w2d 29 _ (by decide), w7c 31 _ (by decide) (by decide), w2d 31 _ (by decide), w7c 34 _ (by decide) (by decide), w2d 34 _ (by decide), w7c 35 _ (by decide) (by decide), w2d 35 _ (by decide), w7c 36 _ (by decide) (by decide), w2d 36 _ (by decide), w7c 37 _ (by decide) (by decide), w2d 37 _ (by decide), w7c 39 _ (by decide) (by decide), w2d 39 _ (by decide), w7c 40 _ (by decide) (by decide), w2d 40 _ (by decide), w7c 42 _ (by decide) (by decide), w2d 42 _ (by decide), w7c 43 _ (by decide) (by decide), w2d 43 _ (by decide), w7c 44 _ (by decide) (by decide), w2d 44 _ (by decide), w7c 47 _ (by decide) (by decide), w2d 47 _ (by decide)]
              obtain ⟨a1, a2, a3, a4, a5, a6, a7⟩ := this
              exact ⟨a1, fun q => absurd q h0, a3, fun q => absurd q h1, fun q => ⟨fw_inc (by decide), vp_in_nI (by omega) (by decide)⟩, fun q => absurd q h3, a7⟩
            have wr7 : Wr v7 w7 := Wr_cg wr2 (fun c i k q1 q2 => v7c c i k (by omega)) ⟨w7c 0 10 (by decide) (by decide), w7c 0 50 (by decide) (by decide), w7c 0 51 (by decide) (by decide)⟩ (fun c k q1 q2 => w7c c k (by omega) (by omega))
            have at7 : At w7 := fun t ht => by rw [w7c 9 t (by decide) (by decide)]; exact at2 t ht
            unfold mf_Mo_reply_1
            (try dsimp only)
            refine ⟨⟨Dv_send_1 dv7, Di_send_1 di7, Wr_s0 wr7 at7 rfl dv7.se.symm rfl rfl, At_send⟩, Or.inl ⟨?_, ?_⟩⟩
            · rw [xsend_c (by decide) (by decide) (by decide), v7c 19 1 18 (by omega), xv18]
            · rw [msend_0k (by decide) (by decide) (by decide), w7c 0 56 (by decide) (by decide), xw56]
        · rw [if_pos (show nI (t + 1) < 3 from (nI_ltI (a := t + 1) (b := 3) (by omega) (by omega)).mpr (by omega)), if_neg (show ¬ (3 : Int32) ≤ nI (t + 1) from fun q => by
            have := (nI_leI (a := 3) (b := t + 1) (by omega) (by omega)).mp q
            omega)]
          have ok : vp_in (w 32 0 1 + 1) 3 := by rw [et, nI_1]; exact vp_in_nI (by omega) (by decide)
          exact ⟨⟨dv2, di2 (fun q => absurd q h1) (fun _ => ok) (fun q => absurd q h3), wr2, at2⟩, Or.inl ⟨xv18, xw56⟩⟩

theorem plx {x : Int32} (h : vp_in (x + 1) 9) : ¬ mf_Mo_is x (-1) 7 = 0 := by
  obtain ⟨n, hn, en⟩ := vp_in_of h (by decide)
  have ex : x = nI n - 1 := by rw [← en]; simp
  rw [ex]
  rcases (show n = 0 ∨ n = 1 ∨ n = 2 ∨ n = 3 ∨ n = 4 ∨ n = 5 ∨ n = 6 ∨ n = 7 ∨ n = 8 by omega) with rfl | rfl | rfl | rfl | rfl | rfl | rfl | rfl | rfl <;> decide
theorem plge {x : Int32} (h : vp_in (x + 1) 9) (hn : ¬ x = -1) : (0 : Int32) ≤ x := by
  obtain ⟨n, hn', en⟩ := vp_in_of h (by decide)
  have ex : x = nI n - 1 := by rw [← en]; simp
  rw [ex] at hn ⊢
  rcases (show n = 0 ∨ n = 1 ∨ n = 2 ∨ n = 3 ∨ n = 4 ∨ n = 5 ∨ n = 6 ∨ n = 7 ∨ n = 8 by omega) with rfl | rfl | rfl | rfl | rfl | rfl | rfl | rfl | rfl <;> first | decide | exact absurd rfl hn

/-- the module of slot s changes, the octets shown with it -/
theorem De_mod_0 {v w : fw_V} {s : Nat} {x : Int32} (h : DB_0 v w) (hK : Kd v w) (hs : s < 3) (hx : vp_in (x + 1) 9) : DB_0 (xf_De_showFallback (fw_up v 23 0 s x) 0 (nI s)) (mf_Mo_replace_0 (fw_up w 42 0 (3 * 0 + s) x) (nI s)) := by
  have hD := h.dv
  have hI := h.di
  obtain ⟨v2, e2⟩ : ∃ v2, v2 = fw_up v 23 0 s x := ⟨_, rfl⟩
  obtain ⟨w2, f2⟩ : ∃ w2, w2 = fw_up w 42 0 (3 * 0 + s) x := ⟨_, rfl⟩
  have v2d : ∀ c i k, c ≠ 23 → v2 c i k = v c i k := fun c i k q => by rw [e2, fw_up_c q]
  have w2d : ∀ c k, c ≠ 42 → w2 c 0 k = w c 0 k := fun c k q => by rw [f2, fw_up_c q]
  rw [← e2, ← f2]
  have mo2 : ∀ s', s' < 3 → v2 23 0 s' = w2 42 0 (3 * 0 + s') := fun s' hs' => by
    by_cases z : s' = s
    · subst z; rw [e2, f2, fw_up_s, fw_up_s]
    · rw [e2, f2, fw_up_k z, fw_up_k (by omega)]; exact hD.mo s' hs'
  have m82 : ∀ s', s' < 3 → vp_in (w2 42 0 (3 * 0 + s') + 1) 9 := fun s' hs' => by
    by_cases z : s' = s
    · subst z; rw [f2, fw_up_s]; exact hx
    · rw [f2, fw_up_k (by omega)]; exact hI.m8 s' hs'
  have dv2 : Dv 0 v2 w2 := by
    have g := hD
    unfold Dv at g ⊢
    simp only [v2d 19 _ _ (by decide), v2d 14 _ _ (by decide), v2d 20 _ _ (by decide), v2d 21 _ _ (by decide), v2d 22 _ _ (by decide), v2d 24 _ _ (by decide), v2d 25 _ _ (by decide), v2d 26 _ _ (by decide), v2d 27 _ _ (by decide), w2d 28 _ (by decide), w2d 29 _ (by decide), w2d 30 _ (by decide), w2d 31 _ (by decide), w2d 32 _ (by decide), w2d 33 _ (by decide), w2d 34 _ (by decide), w2d 35 _ (by decide), w2d 36 _ (by decide), w2d 37 _ (by decide), w2d 38 _ (by decide), w2d 39 _ (by decide), w2d 40 _ (by decide), w2d 41 _ (by decide), w2d 43 _ (by decide), w2d 44 _ (by decide), w2d 45 _ (by decide), w2d 46 _ (by decide), w2d 47 _ (by decide), w2d 48 _ (by decide)]
    obtain ⟨a1, a2, a3, a4, a5, a6, a7, a8, a9, a10, a11, a12, a13, a14, a15, a16, a17, a18, a19⟩ := g
    exact ⟨a1, a2, a3, a4, a5, a6, a7, a8, a9, a10, a11, a12, a13, a14, a15, a16, a17, mo2, a19⟩
  have di2 : Di 0 v2 w2 := by
    have g := hI
    unfold Di at g ⊢
    simp only [v2d 20 _ _ (by decide), w2d 28 _ (by decide), w2d 29 _ (by decide), w2d 31 _ (by decide), w2d 32 _ (by decide), w2d 33 _ (by decide), w2d 34 _ (by decide), w2d 35 _ (by decide), w2d 36 _ (by decide), w2d 37 _ (by decide), w2d 39 _ (by decide), w2d 40 _ (by decide), w2d 43 _ (by decide), w2d 44 _ (by decide), w2d 47 _ (by decide)]
    obtain ⟨a1, a2, a3, a4, a5, a6, a7, a8, a9, a10, a11, a12, a13, a14, a15, a16⟩ := g
    exact ⟨a1, a2, a3, a4, a5, a6, a7, a8, a9, a10, a11, a12, a13, a14, m82, a16⟩
  have hK2 : Kd v2 w2 := ⟨fun k hk => by rw [v2d 2 0 k (by decide), w2d 1 k (by decide)]; exact hK.ki k hk, fun k hk => by rw [v2d 3 0 k (by decide), w2d 2 k (by decide)]; exact hK.ko k hk, fun k hk => by rw [v2d 4 0 k (by decide), w2d 3 k (by decide)]; exact hK.kn k hk⟩
  have wr2 : Wr v2 w2 := Wr_cg h.wr (fun c i k q1 q2 => v2d c i k (by omega)) ⟨w2d 0 10 (by decide), w2d 0 50 (by decide), w2d 0 51 (by decide)⟩ (fun c k q1 q2 => w2d c k (by omega))
  refine ⟨?_, ?_, ?_, ?_⟩
  · refine Dv_sh_0 dv2 (fun c k q1 q2 q3 => sf_o hs (fun z => q3 z.1)) (fun k => sf_o hs (by omega)) (fun c k q1 q2 q3 => rp_o_0 hs (fun z => q3 z.1)) (fun i hi => ?_)
    by_cases z : i = 2 * s ∨ i = 2 * s + 1
    · obtain ⟨j, hj, rfl⟩ : ∃ j, j < 2 ∧ i = 2 * s + j := ⟨i - 2 * s, by omega, by omega⟩
      rw [sf_v hs hj, show 6 * 0 + (2 * s + j) = 0 + 2 * s + j by omega, rp_v_0 hs hj]
      exact FXM_0 hK2 hs hj (by rw [show 0 + s = 3 * 0 + s by omega]; exact mo2 s hs) (by rw [show 0 + s = 3 * 0 + s by omega]; exact m82 s hs) dv2.fb dv2.oc di2.sb (by rw [show 0 + 2 * s + j = 6 * 0 + (2 * s + j) by omega]; exact dv2.sh _ (by omega))
    · rw [sf_o hs (by omega), rp_o_0 hs (by omega)]; exact dv2.sh i hi
  · exact Di_sh_0 di2 (sf_o hs (by omega)) (fun c k q1 q2 q3 => rp_o_0 hs (fun z => q3 z.1))
  · exact Wr_cg wr2 (fun c i k q1 q2 => sf_o hs (by omega)) ⟨rp_o_0 hs (by omega), rp_o_0 hs (by omega), rp_o_0 hs (by omega)⟩ (fun c k q1 q2 => rp_o_0 hs (by omega))
  · exact fun t ht => by rw [rp_o_0 hs (by omega), w2d 9 t (by decide)]; exact h.at t ht
/-- what differs -/
theorem De_dif_0 {v w : fw_V} {y : Int32} (h : DB_0 v w) (h3 : w 28 0 0 = 3) : DB_0 (fw_up v 19 0 15 y) (fw_up w 31 0 0 y) := by
  have hD := h.dv
  have hI := h.di
  refine ⟨?_, ?_, ?_, ?_⟩
  · refine ⟨?_, ?_, ?_, ?_, ?_, ?_, ?_, ?_, ?_, ?_, ?_, ?_, ?_, ?_, ?_, ?_, ?_, ?_, ?_, ?_, ?_, ?_⟩ <;> simp [fw_up]
    · exact hD.ix
    · exact hD.nm
    · exact hD.fb
    · exact hD.oc
    · exact hD.st
    · exact hD.se
    · exact hD.ti
    · exact hD.ag
    · exact hD.ne
    · exact hD.ta
    · exact hD.qs
    · exact hD.qw
    · exact hD.qn
    · exact hD.qt
    · simpa using hD.sl
    · simpa using hD.sk
    · simpa using hD.mo
    · simpa using hD.wa
    · simpa using hD.wr
    · simpa using hD.sn
    · simpa using hD.sh
  · have g := hI
    have w2d : ∀ c k, c ≠ 31 → fw_up w 31 0 0 y c 0 k = w c 0 k := fun c k q => fw_up_c q
    have v2d : ∀ c i k, c ≠ 19 → fw_up v 19 0 15 y c i k = v c i k := fun c i k q => fw_up_c q
    unfold Di at g ⊢
    simp only [v2d 20 _ _ (by decide), w2d 28 _ (by decide), w2d 29 _ (by decide), w2d 32 _ (by decide), w2d 33 _ (by decide), w2d 34 _ (by decide), w2d 35 _ (by decide), w2d 36 _ (by decide), w2d 37 _ (by decide), w2d 39 _ (by decide), w2d 40 _ (by decide), w2d 42 _ (by decide), w2d 43 _ (by decide), w2d 44 _ (by decide), w2d 47 _ (by decide)]
    obtain ⟨a1, a2, a3⟩ := g
    exact ⟨a1, fun q => absurd (h3.symm.trans q) (by decide), a3⟩
  · exact Wr_cg h.wr (fun c i k q1 q2 => fw_up_c (by omega)) ⟨fw_up_c (by decide), fw_up_c (by decide), fw_up_c (by decide)⟩ (fun c k q1 q2 => fw_up_c (by omega))
  · exact fun t ht => by rw [fw_up_c (by decide)]; exact h.at t ht
/-- an alarm goes into the queue -/
theorem De_push_0 {v w : fw_V} {n : Nat} {a b : Int32} (h : DB_0 v w) (h3 : w 28 0 0 = 3) (hn : n < 4) (en : w 37 0 0 = nI n) (ha : vp_in a 3) : DB_0 (fw_up (fw_up (fw_up v 21 0 n a) 22 0 n b) 20 0 2 (nI (n + 1))) (fw_up (fw_up (fw_up w 47 0 (4 * 0 + n) a) 37 0 0 (nI (n + 1))) 48 0 (4 * 0 + n) b) := by
  have hD := h.dv
  have hI := h.di
  have ni : nI (n + 1) ≠ 0 := fun q => by
    have := (nI_eq (a := n + 1) (b := 0) (by omega) (by omega)).mp q
    omega
  refine ⟨?_, ?_, ?_, ?_⟩
  · refine ⟨?_, ?_, ?_, ?_, ?_, ?_, ?_, ?_, ?_, ?_, ?_, ?_, ?_, ?_, ?_, fun j hj => ?_, fun j hj => ?_, ?_, ?_, ?_, ?_, ?_⟩
    · simp [fw_up]; exact hD.ix
    · simp [fw_up]; exact hD.nm
    · simp [fw_up]; exact hD.fb
    · simp [fw_up]; exact hD.oc
    · simp [fw_up]; exact hD.st
    · simp [fw_up]; exact hD.se
    · simp [fw_up]; exact hD.di
    · simp [fw_up]; exact hD.ti
    · simp [fw_up]; exact hD.ag
    · simp [fw_up]; exact hD.ne
    · simp [fw_up]; exact hD.ta
    · simp [fw_up]
    · simp [fw_up]; exact hD.qw
    · simp [fw_up]; exact hD.qn
    · simp [fw_up]; exact hD.qt
    · rw [fw_up_c (show (21 : Nat) ≠ 20 by decide), fw_up_c (show (21 : Nat) ≠ 22 by decide), fw_up_c (show (47 : Nat) ≠ 48 by decide), fw_up_c (show (47 : Nat) ≠ 37 by decide)]
      by_cases z : j = n
      · subst z; rw [fw_up_s, fw_up_s]
      · rw [fw_up_k z, fw_up_k (by omega)]; exact hD.sl j hj
    · rw [fw_up_c (show (22 : Nat) ≠ 20 by decide)]
      by_cases z : j = n
      · subst z; rw [fw_up_s, fw_up_s]
      · rw [fw_up_k z, fw_up_k (show 4 * 0 + j ≠ 4 * 0 + n by omega), fw_up_c (show (22 : Nat) ≠ 21 by decide), fw_up_c (show (48 : Nat) ≠ 37 by decide), fw_up_c (show (48 : Nat) ≠ 47 by decide)]; exact hD.sk j hj
    · simp [fw_up]; simpa using hD.mo
    · simp [fw_up]; simpa using hD.wa
    · simp [fw_up]; simpa using hD.wr
    · simp [fw_up]; simpa using hD.sn
    · simp [fw_up]; simpa using hD.sh
  · have a3 : ∀ j, j < 4 → vp_in (fw_up (fw_up (fw_up w 47 0 (4 * 0 + n) a) 37 0 0 (nI (n + 1))) 48 0 (4 * 0 + n) b 47 0 (4 * 0 + j)) 3 := fun j hj => by
      rw [fw_up_c (by decide), fw_up_c (by decide)]
      by_cases z : j = n
      · subst z; rw [fw_up_s]; exact ha
      · rw [fw_up_k (by omega)]; exact hI.a3 j hj
    have c37 : fw_up (fw_up (fw_up w 47 0 (4 * 0 + n) a) 37 0 0 (nI (n + 1))) 48 0 (4 * 0 + n) b 37 0 0 = nI (n + 1) := by rw [fw_up_c (by decide), fw_up_s]
    have w2d : ∀ c k, c ≠ 47 → c ≠ 37 → c ≠ 48 → fw_up (fw_up (fw_up w 47 0 (4 * 0 + n) a) 37 0 0 (nI (n + 1))) 48 0 (4 * 0 + n) b c 0 k = w c 0 k := fun c k q1 q2 q3 => by rw [fw_up_c q3, fw_up_c q2, fw_up_c q1]
    have v4 : fw_up (fw_up (fw_up v 21 0 n a) 22 0 n b) 20 0 2 (nI (n + 1)) 20 0 4 = v 20 0 4 := by rw [fw_up_k (by decide), fw_up_c (by decide), fw_up_c (by decide)]
    have g := hI
    unfold Di at g ⊢
    simp only [c37, v4, w2d 28 _ (by decide) (by decide) (by decide), w2d 29 _ (by decide) (by decide) (by decide), w2d 31 _ (by decide) (by decide) (by decide), w2d 32 _ (by decide) (by decide) (by decide), w2d 33 _ (by decide) (by decide) (by decide), w2d 34 _ (by decide) (by decide) (by decide), w2d 35 _ (by decide) (by decide) (by decide), w2d 36 _ (by decide) (by decide) (by decide), w2d 39 _ (by decide) (by decide) (by decide), w2d 40 _ (by decide) (by decide) (by decide), w2d 42 _ (by decide) (by decide) (by decide), w2d 43 _ (by decide) (by decide) (by decide), w2d 44 _ (by decide) (by decide) (by decide)]
    obtain ⟨b1, b2, b3, b4, b5, b6, b7, b8, b9, b10, b11, b12, b13, b14, b15, b16, b17⟩ := g
    exact ⟨b1, b2, fun q => absurd h3 q, b4, b5, b6, b7, b8, vp_in_nI (by omega) (by decide), b10, b11, fun _ q => absurd q ni, b13, b14, b15, b16, a3⟩
  · refine Wr_cg h.wr (fun c i k q1 q2 => ?_) ⟨?_, ?_, ?_⟩ (fun c k q1 q2 => ?_)
    · rw [fw_up_c (by omega), fw_up_c (by omega), fw_up_c (by omega)]
    · simp [fw_up]
    · simp [fw_up]
    · simp [fw_up]
    · rw [fw_up_c (by omega), fw_up_c (by omega), fw_up_c (by omega)]
  · intro t ht
    rw [fw_up_c (by decide), fw_up_c (by decide), fw_up_c (by decide)]
    exact h.at t ht
theorem i3_0 {s : Nat} (hs : s < 3) : (((3 : Int32) * (0 : Int32)) + nI s).toNatClampNeg = 3 * 0 + s := by
  rcases (show s = 0 ∨ s = 1 ∨ s = 2 by omega) with rfl | rfl | rfl <;> decide
theorem i4_0 {n : Nat} (hn : n < 4) : (((4 : Int32) * (0 : Int32)) + nI n).toNatClampNeg = 4 * 0 + n := by
  rcases (show n = 0 ∨ n = 1 ∨ n = 2 ∨ n = 3 by omega) with rfl | rfl | rfl | rfl <;> decide
/-- plug, past its questions -/
theorem De_plug_0 {v w : fw_V} {s : Nat} {x : Int32} (h : DB_0 v w) (hK : Kd v w) (hs : s < 3) (hx : vp_in (x + 1) 9) : DB_0 (xf_De_changeModule v 0 (nI s) x) (mf_Mo_plug w (0 : Int32) (nI s) x).2 ∧ (mf_Mo_plug w (0 : Int32) (nI s) x).1 = 1 := by
  have hD := h.dv
  have hI := h.di
  have r1 : ¬ mf_Mo_is (0 : Int32) 0 1 = 0 := by decide
  have r2 : ¬ mf_Mo_is (nI s) 0 2 = 0 := by
    rcases (show s = 0 ∨ s = 1 ∨ s = 2 by omega) with rfl | rfl | rfl <;> decide
  have r3 : ¬ mf_Mo_is x (-1) 7 = 0 := plx hx
  have ci : (0 : Int32).toNatClampNeg = 0 := by decide
  have cs : (nI s).toNatClampNeg = s := nI_clamp (by omega)
  unfold xf_De_changeModule mf_Mo_plug
  (try dsimp only)
  rw [if_neg r1, if_neg r2, if_neg r3, i3_0 hs, ci, cs, hD.mo s hs]
  by_cases hm : w 42 0 (3 * 0 + s) = x
  · rw [if_pos hm, if_pos hm]; exact ⟨h, rfl⟩
  · rw [if_neg hm, if_neg hm]
    have hB := De_mod_0 h hK hs hx
    have w42 : mf_Mo_replace_0 (fw_up w 42 0 (3 * 0 + s) x) (nI s) 42 0 (3 * 0 + s) = x := by rw [rp_o_0 hs (by omega), fw_up_s]
    obtain ⟨v3, e3⟩ : ∃ v3, v3 = xf_De_showFallback (fw_up v 23 0 s x) 0 (nI s) := ⟨_, rfl⟩
    obtain ⟨w3, f3⟩ : ∃ w3, w3 = mf_Mo_replace_0 (fw_up w 42 0 (3 * 0 + s) x) (nI s) := ⟨_, rfl⟩
    rw [← e3, ← f3] at hB
    rw [← f3] at w42
    rw [← e3]
    rw [if_pos rfl]
    rw [← f3, hB.dv.st]
    by_cases h3 : w3 28 0 0 = 3
    · rw [if_pos h3, if_pos h3]
      have he := hB.dv.wa (by rw [h3]; decide) s hs
      have h8 := hB.di.w8 (by rw [h3]; decide) s hs
      rw [he]
      by_cases hn : w3 43 0 (3 * 0 + s) = -1
      · rw [if_pos hn, if_neg (by rw [hn]; decide)]; exact ⟨hB, rfl⟩
      · have hge : (0 : Int32) ≤ w3 43 0 (3 * 0 + s) := plge h8 hn
        rw [if_neg hn, if_pos hge, mark_0 hs, w42]
        obtain ⟨y, ey⟩ : ∃ y, y = MW_0 (w3 31 0 0) (w3 43 0 (3 * 0 + s)) x s := ⟨_, rfl⟩
        have hd : (if x = w3 43 0 (3 * 0 + s) then xf_De_changeModule_j1 v3 0 (nI s) x (v3 19 0 15) else xf_De_changeModule_j2 v3 0 (nI s) x (v3 19 0 15)) = xf_AQ_add (fw_up v3 19 0 15 y) 0 (nI s) (x + 1) := by
          rw [ey, ← hB.dv.di]
          unfold MW_0 xf_De_changeModule_j1 xf_De_changeModule_j2 xf_FR_withSlot
          (try dsimp only)
          rw [if_neg (Int32.not_lt.mpr hge)]
          by_cases q : x = w3 43 0 (3 * 0 + s)
          · rw [if_pos q, if_pos q, if_pos rfl]
          · rw [if_neg q, if_neg q, if_neg (by decide)]
        rw [hd, ← ey]
        have hB4 := De_dif_0 (y := y) hB h3
        obtain ⟨v4, e4⟩ : ∃ v4, v4 = fw_up v3 19 0 15 y := ⟨_, rfl⟩
        obtain ⟨w4, f4⟩ : ∃ w4, w4 = fw_up w3 31 0 0 y := ⟨_, rfl⟩
        rw [← e4, ← f4] at hB4
        rw [← e4, ← f4]
        have s4 : w4 28 0 0 = 3 := by rw [f4, fw_up_c (by decide)]; exact h3
        obtain ⟨n, hn5, en⟩ := vp_in_of hB4.di.q5 (by decide)
        unfold xf_AQ_add
        (try dsimp only)
        rw [hB4.dv.qs, en]
        by_cases h4 : n = 4
        · subst h4
          rw [if_pos (show (4 : Int32) ≤ nI 4 by decide), if_pos (show (4 : Int32) ≤ nI 4 by decide)]
          exact ⟨hB4, rfl⟩
        · have hlt : ¬ (4 : Int32) ≤ nI n := fun q => by
            have := (nI_leI (a := 4) (b := n) (by omega) (by omega)).mp q
            omega
          rw [if_neg hlt, if_neg hlt, i4_0 (show n < 4 by omega), nI_clamp (by omega)]
          have u1 : fw_up v4 21 0 n (nI s) 20 0 2 = nI n := by rw [fw_up_c (by decide), hB4.dv.qs]; exact en
          have u2 : fw_up (fw_up v4 21 0 n (nI s)) 22 0 n (x + 1) 20 0 2 = nI n := by rw [fw_up_c (by decide), u1]
          have u3 : fw_up w4 47 0 (4 * 0 + n) (nI s) 37 0 0 = nI n := by rw [fw_up_c (by decide)]; exact en
          rw [u1, nI_clamp (by omega), u2, u3, i4_0 (show n < 4 by omega), nI_1]
          exact ⟨De_push_0 hB4 s4 (by omega) en (vp_in_nI (by omega) (by decide)), rfl⟩
    · rw [if_neg h3, if_neg h3]; exact ⟨hB, rfl⟩

/-- the module of slot s changes, the octets shown with it -/
theorem De_mod_1 {v w : fw_V} {s : Nat} {x : Int32} (h : DB_1 v w) (hK : Kd v w) (hs : s < 3) (hx : vp_in (x + 1) 9) : DB_1 (xf_De_showFallback (fw_up v 23 1 s x) 1 (nI s)) (mf_Mo_replace_1 (fw_up w 42 0 (3 * 1 + s) x) (nI s)) := by
  have hD := h.dv
  have hI := h.di
  obtain ⟨v2, e2⟩ : ∃ v2, v2 = fw_up v 23 1 s x := ⟨_, rfl⟩
  obtain ⟨w2, f2⟩ : ∃ w2, w2 = fw_up w 42 0 (3 * 1 + s) x := ⟨_, rfl⟩
  have v2d : ∀ c i k, c ≠ 23 → v2 c i k = v c i k := fun c i k q => by rw [e2, fw_up_c q]
  have w2d : ∀ c k, c ≠ 42 → w2 c 0 k = w c 0 k := fun c k q => by rw [f2, fw_up_c q]
  rw [← e2, ← f2]
  have mo2 : ∀ s', s' < 3 → v2 23 1 s' = w2 42 0 (3 * 1 + s') := fun s' hs' => by
    by_cases z : s' = s
    · subst z; rw [e2, f2, fw_up_s, fw_up_s]
    · rw [e2, f2, fw_up_k z, fw_up_k (by omega)]; exact hD.mo s' hs'
  have m82 : ∀ s', s' < 3 → vp_in (w2 42 0 (3 * 1 + s') + 1) 9 := fun s' hs' => by
    by_cases z : s' = s
    · subst z; rw [f2, fw_up_s]; exact hx
    · rw [f2, fw_up_k (by omega)]; exact hI.m8 s' hs'
  have dv2 : Dv 1 v2 w2 := by
    have g := hD
    unfold Dv at g ⊢
    simp only [v2d 19 _ _ (by decide), v2d 14 _ _ (by decide), v2d 20 _ _ (by decide), v2d 21 _ _ (by decide), v2d 22 _ _ (by decide), v2d 24 _ _ (by decide), v2d 25 _ _ (by decide), v2d 26 _ _ (by decide), v2d 27 _ _ (by decide), w2d 28 _ (by decide), w2d 29 _ (by decide), w2d 30 _ (by decide), w2d 31 _ (by decide), w2d 32 _ (by decide), w2d 33 _ (by decide), w2d 34 _ (by decide), w2d 35 _ (by decide), w2d 36 _ (by decide), w2d 37 _ (by decide), w2d 38 _ (by decide), w2d 39 _ (by decide), w2d 40 _ (by decide), w2d 41 _ (by decide), w2d 43 _ (by decide), w2d 44 _ (by decide), w2d 45 _ (by decide), w2d 46 _ (by decide), w2d 47 _ (by decide), w2d 48 _ (by decide)]
    obtain ⟨a1, a2, a3, a4, a5, a6, a7, a8, a9, a10, a11, a12, a13, a14, a15, a16, a17, a18, a19⟩ := g
    exact ⟨a1, a2, a3, a4, a5, a6, a7, a8, a9, a10, a11, a12, a13, a14, a15, a16, a17, mo2, a19⟩
  have di2 : Di 1 v2 w2 := by
    have g := hI
    unfold Di at g ⊢
    simp only [v2d 20 _ _ (by decide), w2d 28 _ (by decide), w2d 29 _ (by decide), w2d 31 _ (by decide), w2d 32 _ (by decide), w2d 33 _ (by decide), w2d 34 _ (by decide), w2d 35 _ (by decide), w2d 36 _ (by decide), w2d 37 _ (by decide), w2d 39 _ (by decide), w2d 40 _ (by decide), w2d 43 _ (by decide), w2d 44 _ (by decide), w2d 47 _ (by decide)]
    obtain ⟨a1, a2, a3, a4, a5, a6, a7, a8, a9, a10, a11, a12, a13, a14, a15, a16⟩ := g
    exact ⟨a1, a2, a3, a4, a5, a6, a7, a8, a9, a10, a11, a12, a13, a14, m82, a16⟩
  have hK2 : Kd v2 w2 := ⟨fun k hk => by rw [v2d 2 0 k (by decide), w2d 1 k (by decide)]; exact hK.ki k hk, fun k hk => by rw [v2d 3 0 k (by decide), w2d 2 k (by decide)]; exact hK.ko k hk, fun k hk => by rw [v2d 4 0 k (by decide), w2d 3 k (by decide)]; exact hK.kn k hk⟩
  have wr2 : Wr v2 w2 := Wr_cg h.wr (fun c i k q1 q2 => v2d c i k (by omega)) ⟨w2d 0 10 (by decide), w2d 0 50 (by decide), w2d 0 51 (by decide)⟩ (fun c k q1 q2 => w2d c k (by omega))
  refine ⟨?_, ?_, ?_, ?_⟩
  · refine Dv_sh_1 dv2 (fun c k q1 q2 q3 => sf_o hs (fun z => q3 z.1)) (fun k => sf_o hs (by omega)) (fun c k q1 q2 q3 => rp_o_1 hs (fun z => q3 z.1)) (fun i hi => ?_)
    by_cases z : i = 2 * s ∨ i = 2 * s + 1
    · obtain ⟨j, hj, rfl⟩ : ∃ j, j < 2 ∧ i = 2 * s + j := ⟨i - 2 * s, by omega, by omega⟩
      rw [sf_v hs hj, show 6 * 1 + (2 * s + j) = 6 + 2 * s + j by omega, rp_v_1 hs hj]
      exact FXM_1 hK2 hs hj (by rw [show 3 + s = 3 * 1 + s by omega]; exact mo2 s hs) (by rw [show 3 + s = 3 * 1 + s by omega]; exact m82 s hs) dv2.fb dv2.oc di2.sb (by rw [show 6 + 2 * s + j = 6 * 1 + (2 * s + j) by omega]; exact dv2.sh _ (by omega))
    · rw [sf_o hs (by omega), rp_o_1 hs (by omega)]; exact dv2.sh i hi
  · exact Di_sh_1 di2 (sf_o hs (by omega)) (fun c k q1 q2 q3 => rp_o_1 hs (fun z => q3 z.1))
  · exact Wr_cg wr2 (fun c i k q1 q2 => sf_o hs (by omega)) ⟨rp_o_1 hs (by omega), rp_o_1 hs (by omega), rp_o_1 hs (by omega)⟩ (fun c k q1 q2 => rp_o_1 hs (by omega))
  · exact fun t ht => by rw [rp_o_1 hs (by omega), w2d 9 t (by decide)]; exact h.at t ht
/-- what differs -/
theorem De_dif_1 {v w : fw_V} {y : Int32} (h : DB_1 v w) (h3 : w 28 0 1 = 3) : DB_1 (fw_up v 19 1 15 y) (fw_up w 31 0 1 y) := by
  have hD := h.dv
  have hI := h.di
  refine ⟨?_, ?_, ?_, ?_⟩
  · refine ⟨?_, ?_, ?_, ?_, ?_, ?_, ?_, ?_, ?_, ?_, ?_, ?_, ?_, ?_, ?_, ?_, ?_, ?_, ?_, ?_, ?_, ?_⟩ <;> simp [fw_up]
    · exact hD.ix
    · exact hD.nm
    · exact hD.fb
    · exact hD.oc
    · exact hD.st
    · exact hD.se
    · exact hD.ti
    · exact hD.ag
    · exact hD.ne
    · exact hD.ta
    · exact hD.qs
    · exact hD.qw
    · exact hD.qn
    · exact hD.qt
    · simpa using hD.sl
    · simpa using hD.sk
    · simpa using hD.mo
    · simpa using hD.wa
    · simpa using hD.wr
    · simpa using hD.sn
    · simpa using hD.sh
  · have g := hI
    have w2d : ∀ c k, c ≠ 31 → fw_up w 31 0 1 y c 0 k = w c 0 k := fun c k q => fw_up_c q
    have v2d : ∀ c i k, c ≠ 19 → fw_up v 19 1 15 y c i k = v c i k := fun c i k q => fw_up_c q
    unfold Di at g ⊢
    simp only [v2d 20 _ _ (by decide), w2d 28 _ (by decide), w2d 29 _ (by decide), w2d 32 _ (by decide), w2d 33 _ (by decide), w2d 34 _ (by decide), w2d 35 _ (by decide), w2d 36 _ (by decide), w2d 37 _ (by decide), w2d 39 _ (by decide), w2d 40 _ (by decide), w2d 42 _ (by decide), w2d 43 _ (by decide), w2d 44 _ (by decide), w2d 47 _ (by decide)]
    obtain ⟨a1, a2, a3⟩ := g
    exact ⟨a1, fun q => absurd (h3.symm.trans q) (by decide), a3⟩
  · exact Wr_cg h.wr (fun c i k q1 q2 => fw_up_c (by omega)) ⟨fw_up_c (by decide), fw_up_c (by decide), fw_up_c (by decide)⟩ (fun c k q1 q2 => fw_up_c (by omega))
  · exact fun t ht => by rw [fw_up_c (by decide)]; exact h.at t ht
/-- an alarm goes into the queue -/
theorem De_push_1 {v w : fw_V} {n : Nat} {a b : Int32} (h : DB_1 v w) (h3 : w 28 0 1 = 3) (hn : n < 4) (en : w 37 0 1 = nI n) (ha : vp_in a 3) : DB_1 (fw_up (fw_up (fw_up v 21 1 n a) 22 1 n b) 20 1 2 (nI (n + 1))) (fw_up (fw_up (fw_up w 47 0 (4 * 1 + n) a) 37 0 1 (nI (n + 1))) 48 0 (4 * 1 + n) b) := by
  have hD := h.dv
  have hI := h.di
  have ni : nI (n + 1) ≠ 0 := fun q => by
    have := (nI_eq (a := n + 1) (b := 0) (by omega) (by omega)).mp q
    omega
  refine ⟨?_, ?_, ?_, ?_⟩
  · refine ⟨?_, ?_, ?_, ?_, ?_, ?_, ?_, ?_, ?_, ?_, ?_, ?_, ?_, ?_, ?_, fun j hj => ?_, fun j hj => ?_, ?_, ?_, ?_, ?_, ?_⟩
    · simp [fw_up]; exact hD.ix
    · simp [fw_up]; exact hD.nm
    · simp [fw_up]; exact hD.fb
    · simp [fw_up]; exact hD.oc
    · simp [fw_up]; exact hD.st
    · simp [fw_up]; exact hD.se
    · simp [fw_up]; exact hD.di
    · simp [fw_up]; exact hD.ti
    · simp [fw_up]; exact hD.ag
    · simp [fw_up]; exact hD.ne
    · simp [fw_up]; exact hD.ta
    · simp [fw_up]
    · simp [fw_up]; exact hD.qw
    · simp [fw_up]; exact hD.qn
    · simp [fw_up]; exact hD.qt
    · rw [fw_up_c (show (21 : Nat) ≠ 20 by decide), fw_up_c (show (21 : Nat) ≠ 22 by decide), fw_up_c (show (47 : Nat) ≠ 48 by decide), fw_up_c (show (47 : Nat) ≠ 37 by decide)]
      by_cases z : j = n
      · subst z; rw [fw_up_s, fw_up_s]
      · rw [fw_up_k z, fw_up_k (by omega)]; exact hD.sl j hj
    · rw [fw_up_c (show (22 : Nat) ≠ 20 by decide)]
      by_cases z : j = n
      · subst z; rw [fw_up_s, fw_up_s]
      · rw [fw_up_k z, fw_up_k (show 4 * 1 + j ≠ 4 * 1 + n by omega), fw_up_c (show (22 : Nat) ≠ 21 by decide), fw_up_c (show (48 : Nat) ≠ 37 by decide), fw_up_c (show (48 : Nat) ≠ 47 by decide)]; exact hD.sk j hj
    · simp [fw_up]; simpa using hD.mo
    · simp [fw_up]; simpa using hD.wa
    · simp [fw_up]; simpa using hD.wr
    · simp [fw_up]; simpa using hD.sn
    · simp [fw_up]; simpa using hD.sh
  · have a3 : ∀ j, j < 4 → vp_in (fw_up (fw_up (fw_up w 47 0 (4 * 1 + n) a) 37 0 1 (nI (n + 1))) 48 0 (4 * 1 + n) b 47 0 (4 * 1 + j)) 3 := fun j hj => by
      rw [fw_up_c (by decide), fw_up_c (by decide)]
      by_cases z : j = n
      · subst z; rw [fw_up_s]; exact ha
      · rw [fw_up_k (by omega)]; exact hI.a3 j hj
    have c37 : fw_up (fw_up (fw_up w 47 0 (4 * 1 + n) a) 37 0 1 (nI (n + 1))) 48 0 (4 * 1 + n) b 37 0 1 = nI (n + 1) := by rw [fw_up_c (by decide), fw_up_s]
    have w2d : ∀ c k, c ≠ 47 → c ≠ 37 → c ≠ 48 → fw_up (fw_up (fw_up w 47 0 (4 * 1 + n) a) 37 0 1 (nI (n + 1))) 48 0 (4 * 1 + n) b c 0 k = w c 0 k := fun c k q1 q2 q3 => by rw [fw_up_c q3, fw_up_c q2, fw_up_c q1]
    have v4 : fw_up (fw_up (fw_up v 21 1 n a) 22 1 n b) 20 1 2 (nI (n + 1)) 20 1 4 = v 20 1 4 := by rw [fw_up_k (by decide), fw_up_c (by decide), fw_up_c (by decide)]
    have g := hI
    unfold Di at g ⊢
    simp only [c37, v4, w2d 28 _ (by decide) (by decide) (by decide), w2d 29 _ (by decide) (by decide) (by decide), w2d 31 _ (by decide) (by decide) (by decide), w2d 32 _ (by decide) (by decide) (by decide), w2d 33 _ (by decide) (by decide) (by decide), w2d 34 _ (by decide) (by decide) (by decide), w2d 35 _ (by decide) (by decide) (by decide), w2d 36 _ (by decide) (by decide) (by decide), w2d 39 _ (by decide) (by decide) (by decide), w2d 40 _ (by decide) (by decide) (by decide), w2d 42 _ (by decide) (by decide) (by decide), w2d 43 _ (by decide) (by decide) (by decide), w2d 44 _ (by decide) (by decide) (by decide)]
    obtain ⟨b1, b2, b3, b4, b5, b6, b7, b8, b9, b10, b11, b12, b13, b14, b15, b16, b17⟩ := g
    exact ⟨b1, b2, fun q => absurd h3 q, b4, b5, b6, b7, b8, vp_in_nI (by omega) (by decide), b10, b11, fun _ q => absurd q ni, b13, b14, b15, b16, a3⟩
  · refine Wr_cg h.wr (fun c i k q1 q2 => ?_) ⟨?_, ?_, ?_⟩ (fun c k q1 q2 => ?_)
    · rw [fw_up_c (by omega), fw_up_c (by omega), fw_up_c (by omega)]
    · simp [fw_up]
    · simp [fw_up]
    · simp [fw_up]
    · rw [fw_up_c (by omega), fw_up_c (by omega), fw_up_c (by omega)]
  · intro t ht
    rw [fw_up_c (by decide), fw_up_c (by decide), fw_up_c (by decide)]
    exact h.at t ht
theorem i3_1 {s : Nat} (hs : s < 3) : (((3 : Int32) * (1 : Int32)) + nI s).toNatClampNeg = 3 * 1 + s := by
  rcases (show s = 0 ∨ s = 1 ∨ s = 2 by omega) with rfl | rfl | rfl <;> decide
theorem i4_1 {n : Nat} (hn : n < 4) : (((4 : Int32) * (1 : Int32)) + nI n).toNatClampNeg = 4 * 1 + n := by
  rcases (show n = 0 ∨ n = 1 ∨ n = 2 ∨ n = 3 by omega) with rfl | rfl | rfl | rfl <;> decide
/-- plug, past its questions -/
theorem De_plug_1 {v w : fw_V} {s : Nat} {x : Int32} (h : DB_1 v w) (hK : Kd v w) (hs : s < 3) (hx : vp_in (x + 1) 9) : DB_1 (xf_De_changeModule v 1 (nI s) x) (mf_Mo_plug w (1 : Int32) (nI s) x).2 ∧ (mf_Mo_plug w (1 : Int32) (nI s) x).1 = 1 := by
  have hD := h.dv
  have hI := h.di
  have r1 : ¬ mf_Mo_is (1 : Int32) 0 1 = 0 := by decide
  have r2 : ¬ mf_Mo_is (nI s) 0 2 = 0 := by
    rcases (show s = 0 ∨ s = 1 ∨ s = 2 by omega) with rfl | rfl | rfl <;> decide
  have r3 : ¬ mf_Mo_is x (-1) 7 = 0 := plx hx
  have ci : (1 : Int32).toNatClampNeg = 1 := by decide
  have cs : (nI s).toNatClampNeg = s := nI_clamp (by omega)
  unfold xf_De_changeModule mf_Mo_plug
  (try dsimp only)
  rw [if_neg r1, if_neg r2, if_neg r3, i3_1 hs, ci, cs, hD.mo s hs]
  by_cases hm : w 42 0 (3 * 1 + s) = x
  · rw [if_pos hm, if_pos hm]; exact ⟨h, rfl⟩
  · rw [if_neg hm, if_neg hm]
    have hB := De_mod_1 h hK hs hx
    have w42 : mf_Mo_replace_1 (fw_up w 42 0 (3 * 1 + s) x) (nI s) 42 0 (3 * 1 + s) = x := by rw [rp_o_1 hs (by omega), fw_up_s]
    obtain ⟨v3, e3⟩ : ∃ v3, v3 = xf_De_showFallback (fw_up v 23 1 s x) 1 (nI s) := ⟨_, rfl⟩
    obtain ⟨w3, f3⟩ : ∃ w3, w3 = mf_Mo_replace_1 (fw_up w 42 0 (3 * 1 + s) x) (nI s) := ⟨_, rfl⟩
    rw [← e3, ← f3] at hB
    rw [← f3] at w42
    rw [← e3]
    rw [if_neg (show ¬ (1 : Int32) = 0 by decide)]
    rw [← f3, hB.dv.st]
    by_cases h3 : w3 28 0 1 = 3
    · rw [if_pos h3, if_pos h3]
      have he := hB.dv.wa (by rw [h3]; decide) s hs
      have h8 := hB.di.w8 (by rw [h3]; decide) s hs
      rw [he]
      by_cases hn : w3 43 0 (3 * 1 + s) = -1
      · rw [if_pos hn, if_neg (by rw [hn]; decide)]; exact ⟨hB, rfl⟩
      · have hge : (0 : Int32) ≤ w3 43 0 (3 * 1 + s) := plge h8 hn
        rw [if_neg hn, if_pos hge, mark_1 hs, w42]
        obtain ⟨y, ey⟩ : ∃ y, y = MW_1 (w3 31 0 1) (w3 43 0 (3 * 1 + s)) x s := ⟨_, rfl⟩
        have hd : (if x = w3 43 0 (3 * 1 + s) then xf_De_changeModule_j1 v3 1 (nI s) x (v3 19 1 15) else xf_De_changeModule_j2 v3 1 (nI s) x (v3 19 1 15)) = xf_AQ_add (fw_up v3 19 1 15 y) 1 (nI s) (x + 1) := by
          rw [ey, ← hB.dv.di]
          unfold MW_1 xf_De_changeModule_j1 xf_De_changeModule_j2 xf_FR_withSlot
          (try dsimp only)
          rw [if_neg (Int32.not_lt.mpr hge)]
          by_cases q : x = w3 43 0 (3 * 1 + s)
          · rw [if_pos q, if_pos q, if_pos rfl]
          · rw [if_neg q, if_neg q, if_neg (by decide)]
        rw [hd, ← ey]
        have hB4 := De_dif_1 (y := y) hB h3
        obtain ⟨v4, e4⟩ : ∃ v4, v4 = fw_up v3 19 1 15 y := ⟨_, rfl⟩
        obtain ⟨w4, f4⟩ : ∃ w4, w4 = fw_up w3 31 0 1 y := ⟨_, rfl⟩
        rw [← e4, ← f4] at hB4
        rw [← e4, ← f4]
        have s4 : w4 28 0 1 = 3 := by rw [f4, fw_up_c (by decide)]; exact h3
        obtain ⟨n, hn5, en⟩ := vp_in_of hB4.di.q5 (by decide)
        unfold xf_AQ_add
        (try dsimp only)
        rw [hB4.dv.qs, en]
        by_cases h4 : n = 4
        · subst h4
          rw [if_pos (show (4 : Int32) ≤ nI 4 by decide), if_pos (show (4 : Int32) ≤ nI 4 by decide)]
          exact ⟨hB4, rfl⟩
        · have hlt : ¬ (4 : Int32) ≤ nI n := fun q => by
            have := (nI_leI (a := 4) (b := n) (by omega) (by omega)).mp q
            omega
          rw [if_neg hlt, if_neg hlt, i4_1 (show n < 4 by omega), nI_clamp (by omega)]
          have u1 : fw_up v4 21 1 n (nI s) 20 1 2 = nI n := by rw [fw_up_c (by decide), hB4.dv.qs]; exact en
          have u2 : fw_up (fw_up v4 21 1 n (nI s)) 22 1 n (x + 1) 20 1 2 = nI n := by rw [fw_up_c (by decide), u1]
          have u3 : fw_up w4 47 0 (4 * 1 + n) (nI s) 37 0 1 = nI n := by rw [fw_up_c (by decide)]; exact en
          rw [u1, nI_clamp (by omega), u2, u3, i4_1 (show n < 4 by omega), nI_1]
          exact ⟨De_push_1 hB4 s4 (by omega) en (vp_in_nI (by omega) (by decide)), rfl⟩
    · rw [if_neg h3, if_neg h3]; exact ⟨hB, rfl⟩

theorem Rl_cgk {r : Nat} {v v' w w' : fw_V} (h : Rl r v w) (hv : ∀ c k, 13 ≤ c → c ≤ 18 → v' c r k = v c r k) (hw : ∀ c, 12 ≤ c → c ≤ 23 → w' c 0 r = w c 0 r) (h3 : ∀ c s, c = 24 ∨ c = 25 → s < 3 → w' c 0 (3 * r + s) = w c 0 (3 * r + s)) (h6 : ∀ c i, c = 26 ∨ c = 27 → i < 6 → w' c 0 (6 * r + i) = w c 0 (6 * r + i)) : Rl r v' w' := by
  have a12 := hw 12 (by decide) (by decide)
  refine ⟨?_, ?_, ?_, ?_, ?_, ?_, ?_, ?_, ?_, ?_, ?_, ?_, ?_, fun s hs => ?_, fun s hs => ?_, fun i hi => ?_, fun i hi => ?_⟩
  · rw [hv 13 _ (by decide) (by decide)]; exact h.ix
  · rw [hv 13 _ (by decide) (by decide), hw 14 (by decide) (by decide)]; exact h.nm
  · rw [hv 13 _ (by decide) (by decide), a12]; exact h.st
  · rw [hv 13 _ (by decide) (by decide), hw 13 (by decide) (by decide)]; exact h.se
  · rw [hv 13 _ (by decide) (by decide), hw 15 (by decide) (by decide)]; exact h.fo
  · rw [hv 13 _ (by decide) (by decide), hw 16 (by decide) (by decide), a12]; exact h.di
  · rw [hv 13 _ (by decide) (by decide), hw 17 (by decide) (by decide)]; exact h.go
  · rw [hv 13 _ (by decide) (by decide), hw 18 (by decide) (by decide)]; exact h.ti
  · rw [hv 13 _ (by decide) (by decide), hw 19 (by decide) (by decide)]; exact h.ag
  · rw [hv 13 _ (by decide) (by decide), hw 20 (by decide) (by decide), a12]; exact h.sl
  · rw [hv 14 _ (by decide) (by decide), hw 21 (by decide) (by decide), a12]; exact h.ne
  · rw [hv 14 _ (by decide) (by decide), hw 22 (by decide) (by decide), a12]; exact h.ta
  · rw [hv 13 _ (by decide) (by decide), hw 23 (by decide) (by decide)]; exact h.to
  · rw [hv 15 _ (by decide) (by decide), h3 24 s (by decide) hs]; exact h.ex s hs
  · rw [hv 16 _ (by decide) (by decide), h3 25 s (by decide) hs]; exact h.pa s hs
  · rw [hv 17 _ (by decide) (by decide), h6 26 i (by decide) hi]; exact h.gi i hi
  · rw [hv 18 _ (by decide) (by decide), h6 27 i (by decide) hi]; exact h.gt i hi
theorem Ri_cgk {r : Nat} {w w' : fw_V} (h : Ri r w) (hw : ∀ c, 12 ≤ c → c ≤ 23 → w' c 0 r = w c 0 r) (h6 : ∀ i, i < 6 → w' 27 0 (6 * r + i) = w 27 0 (6 * r + i)) : Ri r w' := by
  have a12 := hw 12 (by decide) (by decide)
  refine ⟨?_, fun q => ?_, ?_, ?_, ?_, ?_, ?_, ?_, ?_⟩
  · rw [a12]; exact h.s7
  · rw [a12] at q
    rw [hw 13 (by decide) (by decide), hw 15 (by decide) (by decide), hw 16 (by decide) (by decide), hw 18 (by decide) (by decide), hw 19 (by decide) (by decide)]
    obtain ⟨c1, c2, c3, c4, c5, c6⟩ := h.c0 q
    exact ⟨c1, c2, c3, c4, c5, fun i hi => by rw [h6 i hi]; exact c6 i hi⟩
  · rw [a12, hw 17 (by decide) (by decide)]; exact h.g6
  · rw [a12, hw 18 (by decide) (by decide)]; exact h.t6
  · rw [a12, hw 18 (by decide) (by decide)]; exact h.t5
  · rw [a12, hw 18 (by decide) (by decide), hw 19 (by decide) (by decide)]; exact h.t4
  · rw [a12, hw 21 (by decide) (by decide)]; exact h.n6
  · rw [a12, hw 22 (by decide) (by decide)]; exact h.l6
  · rw [a12, hw 20 (by decide) (by decide)]; exact h.w3
theorem Dv_cgk {d : Nat} {v v' w w' : fw_V} (h : Dv d v w) (hv : ∀ c k, 19 ≤ c → c ≤ 27 → v' c d k = v c d k) (h14 : ∀ k, v' 14 (d + 2) k = v 14 (d + 2) k) (hw : ∀ c, 28 ≤ c → c ≤ 41 → w' c 0 d = w c 0 d) (h3 : ∀ c s, 42 ≤ c → c ≤ 44 → s < 3 → w' c 0 (3 * d + s) = w c 0 (3 * d + s)) (h4 : ∀ c j, c = 47 ∨ c = 48 → j < 4 → w' c 0 (4 * d + j) = w c 0 (4 * d + j)) (h6 : ∀ c i, c = 45 ∨ c = 46 → i < 6 → w' c 0 (6 * d + i) = w c 0 (6 * d + i)) : Dv d v' w' := by
  have a28 := hw 28 (by decide) (by decide)
  refine ⟨?_, ?_, ?_, ?_, ?_, ?_, ?_, ?_, ?_, ?_, ?_, ?_, ?_, ?_, ?_, fun j hj => ?_, fun j hj => ?_, fun s hs => ?_, fun q s hs => ?_, fun s hs => ?_, fun i hi => ?_, fun i hi => ?_⟩
  · rw [hv 19 _ (by decide) (by decide)]; exact h.ix
  · rw [hv 19 _ (by decide) (by decide), hw 30 (by decide) (by decide)]; exact h.nm
  · rw [hv 19 _ (by decide) (by decide), hw 40 (by decide) (by decide)]; exact h.fb
  · rw [hv 19 _ (by decide) (by decide), hw 41 (by decide) (by decide)]; exact h.oc
  · rw [hv 19 _ (by decide) (by decide), a28]; exact h.st
  · rw [hv 19 _ (by decide) (by decide), hw 29 (by decide) (by decide)]; exact h.se
  · rw [hv 19 _ (by decide) (by decide), hw 31 (by decide) (by decide)]; exact h.di
  · rw [hv 19 _ (by decide) (by decide), hw 32 (by decide) (by decide)]; exact h.ti
  · rw [hv 19 _ (by decide) (by decide), hw 33 (by decide) (by decide), a28]; exact h.ag
  · rw [h14, hw 34 (by decide) (by decide), a28]; exact h.ne
  · rw [h14, hw 35 (by decide) (by decide), a28]; exact h.ta
  · rw [hv 20 _ (by decide) (by decide), hw 37 (by decide) (by decide)]; exact h.qs
  · rw [hv 20 _ (by decide) (by decide), hw 36 (by decide) (by decide)]; exact h.qw
  · rw [hv 20 _ (by decide) (by decide), hw 39 (by decide) (by decide), a28]; exact h.qn
  · rw [hv 20 _ (by decide) (by decide), hw 38 (by decide) (by decide), hw 36 (by decide) (by decide), a28]; exact h.qt
  · rw [hv 21 _ (by decide) (by decide), h4 47 j (by decide) hj]; exact h.sl j hj
  · rw [hv 22 _ (by decide) (by decide), h4 48 j (by decide) hj]; exact h.sk j hj
  · rw [hv 23 _ (by decide) (by decide), h3 42 s (by decide) (by decide) hs]; exact h.mo s hs
  · rw [a28] at q
    rw [hv 26 _ (by decide) (by decide), h3 43 s (by decide) (by decide) hs]; exact h.wa q s hs
  · rw [hv 27 _ (by decide) (by decide), h3 44 s (by decide) (by decide) hs]; exact h.wr s hs
  · rw [hv 24 _ (by decide) (by decide), h6 45 i (by decide) hi]; exact h.sn i hi
  · rw [hv 25 _ (by decide) (by decide), h6 46 i (by decide) hi]; exact h.sh i hi
theorem Di_cgk {d : Nat} {v v' w w' : fw_V} (h : Di d v w) (hv : v' 20 d 4 = v 20 d 4) (hw : ∀ c, 28 ≤ c → c ≤ 41 → w' c 0 d = w c 0 d) (h3 : ∀ c s, 42 ≤ c → c ≤ 44 → s < 3 → w' c 0 (3 * d + s) = w c 0 (3 * d + s)) (h4 : ∀ c j, c = 47 ∨ c = 48 → j < 4 → w' c 0 (4 * d + j) = w c 0 (4 * d + j)) : Di d v' w' := by
  have a28 := hw 28 (by decide) (by decide)
  refine ⟨?_, fun q => ?_, ?_, ?_, ?_, ?_, ?_, ?_, ?_, ?_, ?_, ?_, fun s hs => ?_, ?_, fun s hs => ?_, fun q s hs => ?_, fun j hj => ?_⟩
  · rw [a28]; exact h.s4
  · rw [a28] at q
    rw [hw 29 (by decide) (by decide), hw 31 (by decide) (by decide), hw 32 (by decide) (by decide)]
    obtain ⟨c1, c2, c3, c4⟩ := h.c0 q
    exact ⟨c1, c2, c3, fun s hs => by rw [h3 44 s (by decide) (by decide) hs]; exact c4 s hs⟩
  · rw [a28, hw 37 (by decide) (by decide), hw 36 (by decide) (by decide), hv]; exact h.nq
  · rw [a28, hw 32 (by decide) (by decide)]; exact h.t1
  · rw [a28, hw 32 (by decide) (by decide), hw 33 (by decide) (by decide)]; exact h.t2
  · rw [a28, hw 32 (by decide) (by decide)]; exact h.t3
  · rw [a28, hw 34 (by decide) (by decide)]; exact h.n3
  · rw [a28, hw 35 (by decide) (by decide)]; exact h.l3
  · rw [hw 37 (by decide) (by decide)]; exact h.q5
  · rw [a28, hw 39 (by decide) (by decide)]; exact h.nn
  · rw [a28, hw 36 (by decide) (by decide)]; exact h.wn
  · rw [a28, hw 37 (by decide) (by decide), hw 36 (by decide) (by decide)]; exact h.wp
  · rw [h3 44 s (by decide) (by decide) hs]; exact h.wt s hs
  · rw [hw 40 (by decide) (by decide)]; exact h.sb
  · rw [h3 42 s (by decide) (by decide) hs]; exact h.m8 s hs
  · rw [a28] at q
    rw [h3 43 s (by decide) (by decide) hs]; exact h.w8 q s hs
  · rw [h4 47 j (by decide) hj]; exact h.a3 j hj
/-- the states of both, but for the frames' own promises -/
def GB (B : Nat) (v w : fw_V) : Prop := (Rl 0 v w) ∧ (Ri 0 w) ∧ (Rl 1 v w) ∧ (Ri 1 w) ∧ (Dv 0 v w) ∧ (Di 0 v w) ∧ (Dv 1 v w) ∧ (Di 1 v w) ∧ (Wr v w) ∧ (At w) ∧ (Lg B v w) ∧ (Kd v w) ∧ (∀ k, k < 6 → vp_in (w 24 0 k + 1) 9) ∧ (v 0 0 5 = w 0 0 54) ∧ (v 0 0 6 = w 0 0 49) ∧ (v 0 0 7 = w 0 0 52) ∧ (v 0 0 8 = w 0 0 53) ∧ (v 13 0 19 + v 13 1 19 + v 19 0 18 + v 19 1 18 = w 0 0 56)
theorem GB.r0 {B : Nat} {v w : fw_V} (h : GB B v w) : Rl 0 v w := h.1
theorem GB.i0 {B : Nat} {v w : fw_V} (h : GB B v w) : Ri 0 w := h.2.1
theorem GB.r1 {B : Nat} {v w : fw_V} (h : GB B v w) : Rl 1 v w := h.2.2.1
theorem GB.i1 {B : Nat} {v w : fw_V} (h : GB B v w) : Ri 1 w := h.2.2.2.1
theorem GB.d0 {B : Nat} {v w : fw_V} (h : GB B v w) : Dv 0 v w := h.2.2.2.2.1
theorem GB.e0 {B : Nat} {v w : fw_V} (h : GB B v w) : Di 0 v w := h.2.2.2.2.2.1
theorem GB.d1 {B : Nat} {v w : fw_V} (h : GB B v w) : Dv 1 v w := h.2.2.2.2.2.2.1
theorem GB.e1 {B : Nat} {v w : fw_V} (h : GB B v w) : Di 1 v w := h.2.2.2.2.2.2.2.1
theorem GB.wr {B : Nat} {v w : fw_V} (h : GB B v w) : Wr v w := h.2.2.2.2.2.2.2.2.1
theorem GB.at {B : Nat} {v w : fw_V} (h : GB B v w) : At w := h.2.2.2.2.2.2.2.2.2.1
theorem GB.lg {B : Nat} {v w : fw_V} (h : GB B v w) : Lg B v w := h.2.2.2.2.2.2.2.2.2.2.1
theorem GB.kd {B : Nat} {v w : fw_V} (h : GB B v w) : Kd v w := h.2.2.2.2.2.2.2.2.2.2.2.1
theorem GB.ex {B : Nat} {v w : fw_V} (h : GB B v w) : ∀ k, k < 6 → vp_in (w 24 0 k + 1) 9 := h.2.2.2.2.2.2.2.2.2.2.2.2.1
theorem GB.c5 {B : Nat} {v w : fw_V} (h : GB B v w) : v 0 0 5 = w 0 0 54 := h.2.2.2.2.2.2.2.2.2.2.2.2.2.1
theorem GB.c6 {B : Nat} {v w : fw_V} (h : GB B v w) : v 0 0 6 = w 0 0 49 := h.2.2.2.2.2.2.2.2.2.2.2.2.2.2.1
theorem GB.c7 {B : Nat} {v w : fw_V} (h : GB B v w) : v 0 0 7 = w 0 0 52 := h.2.2.2.2.2.2.2.2.2.2.2.2.2.2.2.1
theorem GB.c8 {B : Nat} {v w : fw_V} (h : GB B v w) : v 0 0 8 = w 0 0 53 := h.2.2.2.2.2.2.2.2.2.2.2.2.2.2.2.2.1
theorem GB.wt {B : Nat} {v w : fw_V} (h : GB B v w) : v 13 0 19 + v 13 1 19 + v 19 0 18 + v 19 1 18 = w 0 0 56 := h.2.2.2.2.2.2.2.2.2.2.2.2.2.2.2.2.2

theorem GB_RB_0 {B : Nat} {v w : fw_V} (h : GB B v w) : RB_0 B v w := ⟨h.r0, h.i0, h.wr, h.at, h.lg⟩
theorem GB_DB_0 {B : Nat} {v w : fw_V} (h : GB B v w) : DB_0 v w := ⟨h.d0, h.e0, h.wr, h.at⟩
theorem GB_E_0 {B : Nat} {v w : fw_V} (h : GB B v w) : ∀ s, s < 3 → vp_in (w 24 0 (3 * 0 + s) + 1) 9 := fun s hs => h.ex _ (by omega)
/-- RELATION r has done something -/
theorem GB_re_0 {B B' : Nat} {v w v' w' : fw_V} (h : GB B v w) (h' : RB_0 B' v' w') (hv : ∀ c i k, (c ≠ 5 ∧ c ≠ 7 ∧ c ≠ 8 ∧ c ≠ 9 ∧ c ≠ 10) → ¬ (i = 0 ∧ 13 ≤ c ∧ c ≤ 18) → v' c i k = v c i k) (hw : ∀ c k, (c ≠ 0 ∧ c ≠ 4 ∧ c ≠ 5 ∧ c ≠ 6 ∧ c ≠ 7 ∧ c ≠ 8 ∧ c ≠ 9 ∧ c ≠ 49) → ¬ (k = 0 ∧ 12 ≤ c ∧ c ≤ 23) → ¬ ((c = 26 ∨ c = 27) ∧ 0 ≤ k ∧ k < 0 + 6 ∨ (c = 24 ∨ c = 25) ∧ 0 ≤ k ∧ k < 0 + 3) → w' c 0 k = w c 0 k) (hex : ∀ k, k < 6 → vp_in (w' 24 0 k + 1) 9) (hz : ∀ k, (k ≠ 10 ∧ k ≠ 50 ∧ k ≠ 51 ∧ k ≠ 55 ∧ k ≠ 56) → w' 0 0 k = w 0 0 k) (hx : (v' 13 0 19 = v 13 0 19 ∧ w' 0 0 56 = w 0 0 56) ∨ (v' 13 0 19 = v 13 0 19 + 1 ∧ w' 0 0 56 = w 0 0 56 + 1)) : GB B' v' w' := by
  have o13 : v' 13 1 19 = v 13 1 19 := hv 13 1 19 (by decide) (by decide)
  have o190 : v' 19 0 18 = v 19 0 18 := hv 19 0 18 (by decide) (by decide)
  have o191 : v' 19 1 18 = v 19 1 18 := hv 19 1 18 (by decide) (by decide)
  have dd : ∀ d, d < 2 → Dv d v w → Di d v w → Dv d v' w' ∧ Di d v' w' := fun d hd a b =>
    ⟨Dv_cgk a (fun c k q1 q2 => hv c d k (by omega) (by omega)) (fun k => hv 14 _ k (by decide) (by omega)) (fun c q1 q2 => hw c d (by omega) (by omega) (by omega)) (fun c s q1 q2 q3 => hw c _ (by omega) (by omega) (by omega)) (fun c j q1 q2 => hw c _ (by omega) (by omega) (by omega)) (fun c i q1 q2 => hw c _ (by omega) (by omega) (by omega)),
     Di_cgk b (hv 20 d 4 (by decide) (by omega)) (fun c q1 q2 => hw c d (by omega) (by omega) (by omega)) (fun c s q1 q2 q3 => hw c _ (by omega) (by omega) (by omega)) (fun c j q1 q2 => hw c _ (by omega) (by omega) (by omega))⟩
  have rq : Rl 1 v' w' := Rl_cgk h.r1 (fun c k q1 q2 => hv c 1 k (by omega) (by omega)) (fun c q1 q2 => hw c 1 (by omega) (by omega) (by omega)) (fun c s q1 q2 => hw c _ (by omega) (by omega) (by omega)) (fun c i q1 q2 => hw c _ (by omega) (by omega) (by omega))
  have iq : Ri 1 w' := Ri_cgk h.i1 (fun c q1 q2 => hw c 1 (by omega) (by omega) (by omega)) (fun i q1 => hw 27 _ (by omega) (by omega) (by omega))
  have hk : Kd v' w' := ⟨fun k hk => by rw [hv 2 0 k (by decide) (by omega), hw 1 k (by decide) (by omega) (by omega)]; exact h.kd.ki k hk, fun k hk => by rw [hv 3 0 k (by decide) (by omega), hw 2 k (by decide) (by omega) (by omega)]; exact h.kd.ko k hk, fun k hk => by rw [hv 4 0 k (by decide) (by omega), hw 3 k (by decide) (by omega) (by omega)]; exact h.kd.kn k hk⟩
  have hwt : v' 13 0 19 + v' 13 1 19 + v' 19 0 18 + v' 19 1 18 = w' 0 0 56 := by
    rw [o13, o190, o191]
    rcases hx with ⟨a, b⟩ | ⟨a, b⟩
    · rw [a, b]; exact h.wt
    · rw [a, b, ← h.wt]; ac_rfl
  refine ⟨h'.rl, h'.ri, rq, iq, (dd 0 (by decide) h.d0 h.e0).1, (dd 0 (by decide) h.d0 h.e0).2, (dd 1 (by decide) h.d1 h.e1).1, (dd 1 (by decide) h.d1 h.e1).2, h'.wr, h'.at, h'.lg, hk, hex, ?_, ?_, ?_, ?_, hwt⟩
  · rw [hv 0 0 5 (by decide) (by omega), hz 54 (by decide)]; exact h.c5
  · rw [hv 0 0 6 (by decide) (by omega), hz 49 (by decide)]; exact h.c6
  · rw [hv 0 0 7 (by decide) (by omega), hz 52 (by decide)]; exact h.c7
  · rw [hv 0 0 8 (by decide) (by omega), hz 53 (by decide)]; exact h.c8
/-- DEVICE d has done something -/
theorem GB_de_0 {B : Nat} {v w v' w' : fw_V} (h : GB B v w) (h' : DB_0 v' w') (hv : ∀ c i k, (c ≠ 5 ∧ c ≠ 7 ∧ c ≠ 8) → ¬ ((i = 0 ∧ 19 ≤ c) ∨ (i = 0 + 2 ∧ c = 14)) → v' c i k = v c i k) (hw : ∀ c k, (c ≠ 0 ∧ c ≠ 4 ∧ c ≠ 5 ∧ c ≠ 6 ∧ c ≠ 7 ∧ c ≠ 8 ∧ c ≠ 9 ∧ c ≠ 44) → ¬ ((28 ≤ c ∧ c ≤ 41 ∧ k = 0) ∨ (c = 43 ∧ 0 ≤ k ∧ k < 0 + 3) ∨ ((c = 45 ∨ c = 46) ∧ 0 ≤ k ∧ k < 0 + 6) ∨ ((c = 47 ∨ c = 48) ∧ 0 ≤ k ∧ k < 0 + 4) ∨ (c = 42 ∧ 0 ≤ k ∧ k < 0 + 3)) → w' c 0 k = w c 0 k) (h44 : ∀ s, s < 3 → w' 44 0 (3 * 1 + s) = w 44 0 (3 * 1 + s)) (hz : ∀ k, (k ≠ 10 ∧ k ≠ 50 ∧ k ≠ 51 ∧ k ≠ 56) → w' 0 0 k = w 0 0 k) (hx : (v' 19 0 18 = v 19 0 18 ∧ w' 0 0 56 = w 0 0 56) ∨ (v' 19 0 18 = v 19 0 18 + 1 ∧ w' 0 0 56 = w 0 0 56 + 1)) : GB B v' w' := by
  have o19 : v' 19 1 18 = v 19 1 18 := hv 19 1 18 (by decide) (by decide)
  have o130 : v' 13 0 19 = v 13 0 19 := hv 13 0 19 (by decide) (by decide)
  have o131 : v' 13 1 19 = v 13 1 19 := hv 13 1 19 (by decide) (by decide)
  have rr : ∀ r, r < 2 → Rl r v w → Ri r w → Rl r v' w' ∧ Ri r w' := fun r hr a b =>
    ⟨Rl_cgk a (fun c k q1 q2 => hv c r k (by omega) (by omega)) (fun c q1 q2 => hw c r (by omega) (by omega)) (fun c s q1 q2 => hw c _ (by omega) (by omega)) (fun c i q1 q2 => hw c _ (by omega) (by omega)),
     Ri_cgk b (fun c q1 q2 => hw c r (by omega) (by omega)) (fun i q1 => hw 27 _ (by omega) (by omega))⟩
  have h3 : ∀ c s, 42 ≤ c → c ≤ 44 → s < 3 → w' c 0 (3 * 1 + s) = w c 0 (3 * 1 + s) := fun c s q1 q2 q3 => by
    by_cases z : c = 44
    · rw [z]; exact h44 s q3
    · exact hw c _ (by omega) (by omega)
  have dq : Dv 1 v' w' := Dv_cgk h.d1 (fun c k q1 q2 => hv c 1 k (by omega) (by omega)) (fun k => hv 14 _ k (by decide) (by omega)) (fun c q1 q2 => hw c 1 (by omega) (by omega)) h3 (fun c j q1 q2 => hw c _ (by omega) (by omega)) (fun c i q1 q2 => hw c _ (by omega) (by omega))
  have eq' : Di 1 v' w' := Di_cgk h.e1 (hv 20 1 4 (by decide) (by omega)) (fun c q1 q2 => hw c 1 (by omega) (by omega)) h3 (fun c j q1 q2 => hw c _ (by omega) (by omega))
  have hk : Kd v' w' := ⟨fun k hk => by rw [hv 2 0 k (by decide) (by omega), hw 1 k (by decide) (by omega)]; exact h.kd.ki k hk, fun k hk => by rw [hv 3 0 k (by decide) (by omega), hw 2 k (by decide) (by omega)]; exact h.kd.ko k hk, fun k hk => by rw [hv 4 0 k (by decide) (by omega), hw 3 k (by decide) (by omega)]; exact h.kd.kn k hk⟩
  have hwt : v' 13 0 19 + v' 13 1 19 + v' 19 0 18 + v' 19 1 18 = w' 0 0 56 := by
    rw [o19, o130, o131]
    rcases hx with ⟨a, b⟩ | ⟨a, b⟩
    · rw [a, b]; exact h.wt
    · rw [a, b, ← h.wt]; ac_rfl
  refine ⟨(rr 0 (by decide) h.r0 h.i0).1, (rr 0 (by decide) h.r0 h.i0).2, (rr 1 (by decide) h.r1 h.i1).1, (rr 1 (by decide) h.r1 h.i1).2, h'.dv, h'.di, dq, eq', h'.wr, h'.at, Lg_cg h.lg (fun c k hc => hv c 0 k (by omega) (by omega)) (hz 55 (by decide)) (fun k => hw 49 k (by decide) (by omega)), hk, fun k hk => ?_, ?_, ?_, ?_, ?_, hwt⟩
  · rw [hw 24 k (by decide) (by omega)]; exact h.ex k hk
  · rw [hv 0 0 5 (by decide) (by omega), hz 54 (by decide)]; exact h.c5
  · rw [hv 0 0 6 (by decide) (by omega), hz 49 (by decide)]; exact h.c6
  · rw [hv 0 0 7 (by decide) (by omega), hz 52 (by decide)]; exact h.c7
  · rw [hv 0 0 8 (by decide) (by omega), hz 53 (by decide)]; exact h.c8

theorem GB_RB_1 {B : Nat} {v w : fw_V} (h : GB B v w) : RB_1 B v w := ⟨h.r1, h.i1, h.wr, h.at, h.lg⟩
theorem GB_DB_1 {B : Nat} {v w : fw_V} (h : GB B v w) : DB_1 v w := ⟨h.d1, h.e1, h.wr, h.at⟩
theorem GB_E_1 {B : Nat} {v w : fw_V} (h : GB B v w) : ∀ s, s < 3 → vp_in (w 24 0 (3 * 1 + s) + 1) 9 := fun s hs => h.ex _ (by omega)
/-- RELATION r has done something -/
theorem GB_re_1 {B B' : Nat} {v w v' w' : fw_V} (h : GB B v w) (h' : RB_1 B' v' w') (hv : ∀ c i k, (c ≠ 5 ∧ c ≠ 7 ∧ c ≠ 8 ∧ c ≠ 9 ∧ c ≠ 10) → ¬ (i = 1 ∧ 13 ≤ c ∧ c ≤ 18) → v' c i k = v c i k) (hw : ∀ c k, (c ≠ 0 ∧ c ≠ 4 ∧ c ≠ 5 ∧ c ≠ 6 ∧ c ≠ 7 ∧ c ≠ 8 ∧ c ≠ 9 ∧ c ≠ 49) → ¬ (k = 1 ∧ 12 ≤ c ∧ c ≤ 23) → ¬ ((c = 26 ∨ c = 27) ∧ 6 ≤ k ∧ k < 6 + 6 ∨ (c = 24 ∨ c = 25) ∧ 3 ≤ k ∧ k < 3 + 3) → w' c 0 k = w c 0 k) (hex : ∀ k, k < 6 → vp_in (w' 24 0 k + 1) 9) (hz : ∀ k, (k ≠ 10 ∧ k ≠ 50 ∧ k ≠ 51 ∧ k ≠ 55 ∧ k ≠ 56) → w' 0 0 k = w 0 0 k) (hx : (v' 13 1 19 = v 13 1 19 ∧ w' 0 0 56 = w 0 0 56) ∨ (v' 13 1 19 = v 13 1 19 + 1 ∧ w' 0 0 56 = w 0 0 56 + 1)) : GB B' v' w' := by
  have o13 : v' 13 0 19 = v 13 0 19 := hv 13 0 19 (by decide) (by decide)
  have o190 : v' 19 0 18 = v 19 0 18 := hv 19 0 18 (by decide) (by decide)
  have o191 : v' 19 1 18 = v 19 1 18 := hv 19 1 18 (by decide) (by decide)
  have dd : ∀ d, d < 2 → Dv d v w → Di d v w → Dv d v' w' ∧ Di d v' w' := fun d hd a b =>
    ⟨Dv_cgk a (fun c k q1 q2 => hv c d k (by omega) (by omega)) (fun k => hv 14 _ k (by decide) (by omega)) (fun c q1 q2 => hw c d (by omega) (by omega) (by omega)) (fun c s q1 q2 q3 => hw c _ (by omega) (by omega) (by omega)) (fun c j q1 q2 => hw c _ (by omega) (by omega) (by omega)) (fun c i q1 q2 => hw c _ (by omega) (by omega) (by omega)),
     Di_cgk b (hv 20 d 4 (by decide) (by omega)) (fun c q1 q2 => hw c d (by omega) (by omega) (by omega)) (fun c s q1 q2 q3 => hw c _ (by omega) (by omega) (by omega)) (fun c j q1 q2 => hw c _ (by omega) (by omega) (by omega))⟩
  have rq : Rl 0 v' w' := Rl_cgk h.r0 (fun c k q1 q2 => hv c 0 k (by omega) (by omega)) (fun c q1 q2 => hw c 0 (by omega) (by omega) (by omega)) (fun c s q1 q2 => hw c _ (by omega) (by omega) (by omega)) (fun c i q1 q2 => hw c _ (by omega) (by omega) (by omega))
  have iq : Ri 0 w' := Ri_cgk h.i0 (fun c q1 q2 => hw c 0 (by omega) (by omega) (by omega)) (fun i q1 => hw 27 _ (by omega) (by omega) (by omega))
  have hk : Kd v' w' := ⟨fun k hk => by rw [hv 2 0 k (by decide) (by omega), hw 1 k (by decide) (by omega) (by omega)]; exact h.kd.ki k hk, fun k hk => by rw [hv 3 0 k (by decide) (by omega), hw 2 k (by decide) (by omega) (by omega)]; exact h.kd.ko k hk, fun k hk => by rw [hv 4 0 k (by decide) (by omega), hw 3 k (by decide) (by omega) (by omega)]; exact h.kd.kn k hk⟩
  have hwt : v' 13 0 19 + v' 13 1 19 + v' 19 0 18 + v' 19 1 18 = w' 0 0 56 := by
    rw [o13, o190, o191]
    rcases hx with ⟨a, b⟩ | ⟨a, b⟩
    · rw [a, b]; exact h.wt
    · rw [a, b, ← h.wt]; ac_rfl
  refine ⟨rq, iq, h'.rl, h'.ri, (dd 0 (by decide) h.d0 h.e0).1, (dd 0 (by decide) h.d0 h.e0).2, (dd 1 (by decide) h.d1 h.e1).1, (dd 1 (by decide) h.d1 h.e1).2, h'.wr, h'.at, h'.lg, hk, hex, ?_, ?_, ?_, ?_, hwt⟩
  · rw [hv 0 0 5 (by decide) (by omega), hz 54 (by decide)]; exact h.c5
  · rw [hv 0 0 6 (by decide) (by omega), hz 49 (by decide)]; exact h.c6
  · rw [hv 0 0 7 (by decide) (by omega), hz 52 (by decide)]; exact h.c7
  · rw [hv 0 0 8 (by decide) (by omega), hz 53 (by decide)]; exact h.c8
/-- DEVICE d has done something -/
theorem GB_de_1 {B : Nat} {v w v' w' : fw_V} (h : GB B v w) (h' : DB_1 v' w') (hv : ∀ c i k, (c ≠ 5 ∧ c ≠ 7 ∧ c ≠ 8) → ¬ ((i = 1 ∧ 19 ≤ c) ∨ (i = 1 + 2 ∧ c = 14)) → v' c i k = v c i k) (hw : ∀ c k, (c ≠ 0 ∧ c ≠ 4 ∧ c ≠ 5 ∧ c ≠ 6 ∧ c ≠ 7 ∧ c ≠ 8 ∧ c ≠ 9 ∧ c ≠ 44) → ¬ ((28 ≤ c ∧ c ≤ 41 ∧ k = 1) ∨ (c = 43 ∧ 3 ≤ k ∧ k < 3 + 3) ∨ ((c = 45 ∨ c = 46) ∧ 6 ≤ k ∧ k < 6 + 6) ∨ ((c = 47 ∨ c = 48) ∧ 4 ≤ k ∧ k < 4 + 4) ∨ (c = 42 ∧ 3 ≤ k ∧ k < 3 + 3)) → w' c 0 k = w c 0 k) (h44 : ∀ s, s < 3 → w' 44 0 (3 * 0 + s) = w 44 0 (3 * 0 + s)) (hz : ∀ k, (k ≠ 10 ∧ k ≠ 50 ∧ k ≠ 51 ∧ k ≠ 56) → w' 0 0 k = w 0 0 k) (hx : (v' 19 1 18 = v 19 1 18 ∧ w' 0 0 56 = w 0 0 56) ∨ (v' 19 1 18 = v 19 1 18 + 1 ∧ w' 0 0 56 = w 0 0 56 + 1)) : GB B v' w' := by
  have o19 : v' 19 0 18 = v 19 0 18 := hv 19 0 18 (by decide) (by decide)
  have o130 : v' 13 0 19 = v 13 0 19 := hv 13 0 19 (by decide) (by decide)
  have o131 : v' 13 1 19 = v 13 1 19 := hv 13 1 19 (by decide) (by decide)
  have rr : ∀ r, r < 2 → Rl r v w → Ri r w → Rl r v' w' ∧ Ri r w' := fun r hr a b =>
    ⟨Rl_cgk a (fun c k q1 q2 => hv c r k (by omega) (by omega)) (fun c q1 q2 => hw c r (by omega) (by omega)) (fun c s q1 q2 => hw c _ (by omega) (by omega)) (fun c i q1 q2 => hw c _ (by omega) (by omega)),
     Ri_cgk b (fun c q1 q2 => hw c r (by omega) (by omega)) (fun i q1 => hw 27 _ (by omega) (by omega))⟩
  have h3 : ∀ c s, 42 ≤ c → c ≤ 44 → s < 3 → w' c 0 (3 * 0 + s) = w c 0 (3 * 0 + s) := fun c s q1 q2 q3 => by
    by_cases z : c = 44
    · rw [z]; exact h44 s q3
    · exact hw c _ (by omega) (by omega)
  have dq : Dv 0 v' w' := Dv_cgk h.d0 (fun c k q1 q2 => hv c 0 k (by omega) (by omega)) (fun k => hv 14 _ k (by decide) (by omega)) (fun c q1 q2 => hw c 0 (by omega) (by omega)) h3 (fun c j q1 q2 => hw c _ (by omega) (by omega)) (fun c i q1 q2 => hw c _ (by omega) (by omega))
  have eq' : Di 0 v' w' := Di_cgk h.e0 (hv 20 0 4 (by decide) (by omega)) (fun c q1 q2 => hw c 0 (by omega) (by omega)) h3 (fun c j q1 q2 => hw c _ (by omega) (by omega))
  have hk : Kd v' w' := ⟨fun k hk => by rw [hv 2 0 k (by decide) (by omega), hw 1 k (by decide) (by omega)]; exact h.kd.ki k hk, fun k hk => by rw [hv 3 0 k (by decide) (by omega), hw 2 k (by decide) (by omega)]; exact h.kd.ko k hk, fun k hk => by rw [hv 4 0 k (by decide) (by omega), hw 3 k (by decide) (by omega)]; exact h.kd.kn k hk⟩
  have hwt : v' 13 0 19 + v' 13 1 19 + v' 19 0 18 + v' 19 1 18 = w' 0 0 56 := by
    rw [o19, o130, o131]
    rcases hx with ⟨a, b⟩ | ⟨a, b⟩
    · rw [a, b]; exact h.wt
    · rw [a, b, ← h.wt]; ac_rfl
  refine ⟨(rr 0 (by decide) h.r0 h.i0).1, (rr 0 (by decide) h.r0 h.i0).2, (rr 1 (by decide) h.r1 h.i1).1, (rr 1 (by decide) h.r1 h.i1).2, dq, eq', h'.dv, h'.di, h'.wr, h'.at, Lg_cg h.lg (fun c k hc => hv c 0 k (by omega) (by omega)) (hz 55 (by decide)) (fun k => hw 49 k (by decide) (by omega)), hk, fun k hk => ?_, ?_, ?_, ?_, ?_, hwt⟩
  · rw [hw 24 k (by decide) (by omega)]; exact h.ex k hk
  · rw [hv 0 0 5 (by decide) (by omega), hz 54 (by decide)]; exact h.c5
  · rw [hv 0 0 6 (by decide) (by omega), hz 49 (by decide)]; exact h.c6
  · rw [hv 0 0 7 (by decide) (by omega), hz 52 (by decide)]; exact h.c7
  · rw [hv 0 0 8 (by decide) (by omega), hz 53 (by decide)]; exact h.c8

theorem GB_beat_0 {B : Nat} {v w : fw_V} (h : GB B v w) : GB B (xf_Re_passTick v 0) (mf_Mo_beat_0 w) := by
  obtain ⟨a, b⟩ := Re_tick_0 (GB_RB_0 h) h.kd (GB_E_0 h)
  exact GB_re_0 h a (fun c i k q1 q2 => ro_Re_passTick q1 (by omega) v) (fun c k q1 q2 q3 => mr0_Mo_beat_0 q1 q2 (by omega) w) (fun k hk => by rw [mr0_Mo_beat_0 (by decide) (by omega) (by omega) w]; exact h.ex k hk) (fun k q => mz_Mo_beat_0 q w) b
theorem GB_pulse_0 {B : Nat} {v w : fw_V} (h : GB B v w) : GB B (xf_De_passTick v 0) (mf_Mo_pulse_0 w) := by
  obtain ⟨a, b⟩ := De_tick_0 (GB_DB_0 h) h.kd
  refine GB_de_0 h a (fun c i k q1 q2 => do_De_passTick q1 q2 v) (fun c k q1 q2 => md0_Mo_pulse_0 q1 (by omega) w) (fun s hs => mq0_Mo_pulse_0 (by omega) w) (fun k q => ?_) b
  by_cases z : k = 55
  · exact mz55_Mo_pulse_0 z w
  · exact mz_Mo_pulse_0 (by omega) w

theorem GB_beat_1 {B : Nat} {v w : fw_V} (h : GB B v w) : GB B (xf_Re_passTick v 1) (mf_Mo_beat_1 w) := by
  obtain ⟨a, b⟩ := Re_tick_1 (GB_RB_1 h) h.kd (GB_E_1 h)
  exact GB_re_1 h a (fun c i k q1 q2 => ro_Re_passTick q1 (by omega) v) (fun c k q1 q2 q3 => mr1_Mo_beat_1 q1 q2 (by omega) w) (fun k hk => by rw [mr1_Mo_beat_1 (by decide) (by omega) (by omega) w]; exact h.ex k hk) (fun k q => mz_Mo_beat_1 q w) b
theorem GB_pulse_1 {B : Nat} {v w : fw_V} (h : GB B v w) : GB B (xf_De_passTick v 1) (mf_Mo_pulse_1 w) := by
  obtain ⟨a, b⟩ := De_tick_1 (GB_DB_1 h) h.kd
  refine GB_de_1 h a (fun c i k q1 q2 => do_De_passTick q1 q2 v) (fun c k q1 q2 => md1_Mo_pulse_1 q1 (by omega) w) (fun s hs => mq1_Mo_pulse_1 (by omega) w) (fun k q => ?_) b
  by_cases z : k = 55
  · exact mz55_Mo_pulse_1 z w
  · exact mz_Mo_pulse_1 (by omega) w

/-- the counters of ticks -/
theorem GB_c6 {B : Nat} {v w : fw_V} (h : GB B v w) : GB B (fw_up v 0 0 6 (v 0 0 6 + 1)) (fw_up w 0 0 49 (w 0 0 49 + 1)) := by
  have v0 : ∀ c i k, c ≠ 0 → fw_up v 0 0 6 (v 0 0 6 + 1) c i k = v c i k := fun c i k q => fw_up_c q
  have w0 : ∀ c k, c ≠ 0 → fw_up w 0 0 49 (w 0 0 49 + 1) c 0 k = w c 0 k := fun c k q => fw_up_c q
  refine ⟨Rl_cg h.r0 (fun c k q1 q2 => v0 c 0 k (by omega)) (fun c k q1 q2 => w0 c k (by omega)), Ri_cg h.i0 (fun c k q1 q2 => w0 c k (by omega)), Rl_cg h.r1 (fun c k q1 q2 => v0 c 1 k (by omega)) (fun c k q1 q2 => w0 c k (by omega)), Ri_cg h.i1 (fun c k q1 q2 => w0 c k (by omega)), Dv_cg h.d0 (fun c k q1 q2 => v0 c 0 k (by omega)) (fun k => v0 14 _ k (by decide)) (fun c k q1 q2 => w0 c k (by omega)), Di_cg h.e0 (v0 20 0 4 (by decide)) (fun c k q1 q2 => w0 c k (by omega)), Dv_cg h.d1 (fun c k q1 q2 => v0 c 1 k (by omega)) (fun k => v0 14 _ k (by decide)) (fun c k q1 q2 => w0 c k (by omega)), Di_cg h.e1 (v0 20 1 4 (by decide)) (fun c k q1 q2 => w0 c k (by omega)), Wr_cg h.wr (fun c i k q1 q2 => v0 c i k (by omega)) ⟨fw_up_k (by decide), fw_up_k (by decide), fw_up_k (by decide)⟩ (fun c k q1 q2 => w0 c k (by omega)), fun t ht => by rw [w0 9 t (by decide)]; exact h.at t ht, Lg_cg h.lg (fun c k hc => v0 c 0 k (by omega)) (fw_up_k (by decide)) (fun k => w0 49 k (by decide)), ⟨fun k hk => by rw [v0 2 0 k (by decide), w0 1 k (by decide)]; exact h.kd.ki k hk, fun k hk => by rw [v0 3 0 k (by decide), w0 2 k (by decide)]; exact h.kd.ko k hk, fun k hk => by rw [v0 4 0 k (by decide), w0 3 k (by decide)]; exact h.kd.kn k hk⟩, fun k hk => by rw [w0 24 k (by decide)]; exact h.ex k hk, ?_, ?_, ?_, ?_, ?_⟩
  · rw [fw_up_k (by decide), fw_up_k (by decide)]; exact h.c5
  · rw [fw_up_s, fw_up_s, h.c6]
  · rw [fw_up_k (by decide), fw_up_k (by decide)]; exact h.c7
  · rw [fw_up_k (by decide), fw_up_k (by decide)]; exact h.c8
  · rw [v0 13 0 19 (by decide), v0 13 1 19 (by decide), v0 19 0 18 (by decide), v0 19 1 18 (by decide), fw_up_k (by decide)]; exact h.wt
theorem GB_tk {B : Nat} : ∀ (n : Nat) (v w : fw_V) (a x : Int32), GB B v w → GB B (xf_FR_tick_j1 n v a x).2 (mf_Mo_tick_j1 n w a x).2 ∧ (xf_FR_tick_j1 n v a x).1 = (mf_Mo_tick_j1 n w a x).1 := by
  intro n
  induction n with
  | zero => intro v w a x h; exact ⟨h, rfl⟩
  | succ n ih =>
    intro v w a x h
    unfold xf_FR_tick_j1 mf_Mo_tick_j1
    by_cases hx : a ≤ x
    · rw [if_pos hx, if_pos hx]; exact ⟨h, h.wr.sz⟩
    · rw [if_neg hx, if_neg hx]
      exact ih _ _ _ _ (GB_pulse_1 (GB_pulse_0 (GB_beat_1 (GB_beat_0 (GB_c6 h)))))
/-- tick -/
theorem GB_tick {B : Nat} {v w : fw_V} (a : Int32) (h : GB B v w) : GB B (xf_FR_tick v a).2 (mf_Mo_tick w a).2 ∧ (xf_FR_tick v a).1 = (mf_Mo_tick w a).1 := by
  unfold xf_FR_tick mf_Mo_tick
  (try dsimp only)
  rw [xw_is]
  by_cases hx : mf_Mo_is a 1 8 = 0
  · rw [if_pos hx, if_pos hx]; exact ⟨h, rfl⟩
  · rw [if_neg hx, if_neg hx]
    exact GB_tk 10 v w a 0 h

/-- the wire alone has changed, and a counter -/
theorem GB_o {B : Nat} {v w v' w' : fw_V} (h : GB B v w) (hv : ∀ c i k, c ≠ 0 → ¬ (5 ≤ c ∧ c ≤ 8) → v' c i k = v c i k) (hw : ∀ c k, c ≠ 0 → ¬ (4 ≤ c ∧ c ≤ 8) → c ≠ 10 → w' c 0 k = w c 0 k) (wr : Wr v' w') (c5 : v' 0 0 5 = w' 0 0 54) (c6 : v' 0 0 6 = w' 0 0 49) (c7 : v' 0 0 7 = w' 0 0 52) (c8 : v' 0 0 8 = w' 0 0 53) (h55 : w' 0 0 55 = w 0 0 55) (h56 : w' 0 0 56 = w 0 0 56) : GB B v' w' := by
  refine ⟨Rl_cg h.r0 (fun c k q1 q2 => hv c 0 k (by omega) (by omega)) (fun c k q1 q2 => hw c k (by omega) (by omega) (by omega)), Ri_cg h.i0 (fun c k q1 q2 => hw c k (by omega) (by omega) (by omega)), Rl_cg h.r1 (fun c k q1 q2 => hv c 1 k (by omega) (by omega)) (fun c k q1 q2 => hw c k (by omega) (by omega) (by omega)), Ri_cg h.i1 (fun c k q1 q2 => hw c k (by omega) (by omega) (by omega)), Dv_cg h.d0 (fun c k q1 q2 => hv c 0 k (by omega) (by omega)) (fun k => hv 14 _ k (by decide) (by decide)) (fun c k q1 q2 => hw c k (by omega) (by omega) (by omega)), Di_cg h.e0 (hv 20 0 4 (by decide) (by decide)) (fun c k q1 q2 => hw c k (by omega) (by omega) (by omega)), Dv_cg h.d1 (fun c k q1 q2 => hv c 1 k (by omega) (by omega)) (fun k => hv 14 _ k (by decide) (by decide)) (fun c k q1 q2 => hw c k (by omega) (by omega) (by omega)), Di_cg h.e1 (hv 20 1 4 (by decide) (by decide)) (fun c k q1 q2 => hw c k (by omega) (by omega) (by omega)), wr, fun t ht => by rw [hw 9 t (by decide) (by decide) (by decide)]; exact h.at t ht, Lg_cg h.lg (fun c k hc => hv c 0 k (by omega) (by omega)) h55 (fun k => hw 49 k (by decide) (by decide) (by decide)), ⟨fun k hk => by rw [hv 2 0 k (by decide) (by decide), hw 1 k (by decide) (by decide) (by decide)]; exact h.kd.ki k hk, fun k hk => by rw [hv 3 0 k (by decide) (by decide), hw 2 k (by decide) (by decide) (by decide)]; exact h.kd.ko k hk, fun k hk => by rw [hv 4 0 k (by decide) (by decide), hw 3 k (by decide) (by decide) (by decide)]; exact h.kd.kn k hk⟩, fun k hk => by rw [hw 24 k (by decide) (by decide) (by decide)]; exact h.ex k hk, c5, c6, c7, c8, ?_⟩
  rw [hv 13 0 19 (by decide) (by decide), hv 13 1 19 (by decide) (by decide), hv 19 0 18 (by decide) (by decide), hv 19 1 18 (by decide) (by decide), h56]; exact h.wt
theorem is_has {a : Int32} {n : Nat} (hn : n ≤ 16) (h : ¬ mf_Mo_is a 0 (nI n - 1) = 0) : ∃ k, k < n ∧ a = nI k := by
  unfold mf_Mo_is at h
  have h1 : ¬ a < 0 := fun q => h (by simp [q])
  have h2 : ¬ nI n - 1 < a := fun q => h (by simp [q])
  by_cases z : n = 0
  · subst z
    exfalso
    apply h2
    rw [Int32.lt_iff_toInt_lt]
    rw [Int32.lt_iff_toInt_lt] at h1
    have e : (nI 0 - 1).toInt = -1 := by decide
    have e0 : (0 : Int32).toInt = 0 := by decide
    omega
  · rw [nI_p (by omega)] at h2
    rw [Int32.lt_iff_toInt_lt] at h1 h2
    have e0 : (0 : Int32).toInt = 0 := by decide
    have e1 : (nI (n - 1)).toInt = ((n - 1 : Nat) : Int) := nI_toInt (by omega)
    refine ⟨a.toNatClampNeg, ?_, ?_⟩
    · show a.toInt.toNat < n
      omega
    · refine (nI_tn (n := n) ?_ (by omega)).symm
      rw [vp_in_iff]
      omega
theorem Wr_c5 {v w v' w' : fw_V} (h : Wr v w) (hv : ∀ c i k, 5 ≤ c → c ≤ 8 → v' c i k = v c i k) (h0 : w' 0 0 10 = w 0 0 10 ∧ w' 0 0 50 = w 0 0 50 ∧ w' 0 0 51 = w 0 0 51) (hw : ∀ c k, 4 ≤ c → c ≤ 8 → w' c 0 k = w c 0 k) : Wr v' w' := Wr_cg h hv h0 hw
/-- lose -/
theorem GB_lose {B : Nat} {v w : fw_V} (a : Int32) (h : GB B v w) (h6 : ∀ k, vp_in (v 6 0 k) 18) : GB B (xf_FR_lose v a).2 (mf_Mo_lose w a).2 ∧ (xf_FR_lose v a).1 = (mf_Mo_lose w a).1 := by
  unfold xf_FR_lose mf_Mo_lose xf_Wi_has
  (try dsimp only)
  rw [xw_is, h.wr.sz]
  by_cases hx : mf_Mo_is a 0 (w 0 0 10 - 1) = 0
  · rw [if_pos hx, if_pos hx]; exact ⟨h, rfl⟩
  · rw [if_neg hx, if_neg hx]
    obtain ⟨n, hn, en⟩ := vp_in_of h.wr.ok (by decide)
    have ew : w 0 0 10 = nI n := by rw [← h.wr.sz]; exact en
    rw [ew] at hx
    obtain ⟨k, hk, rfl⟩ := is_has (by omega) hx
    obtain ⟨t1, t2, t3, t4, t5⟩ := Wr_take (k := k) h.wr h6 (by rw [en, nI_clamp (by omega)]; exact hk)
    obtain ⟨q0, q1, q2, q3⟩ := mrem_ex (w := w) (k := k) (n := n) hk (by omega) ew
    (try dsimp only)
    refine ⟨GB_o h (fun c i k q1 q2 => t3 c i k (by omega) (by omega)) (fun c k q2 q3 q4 => q1 c 0 k (by omega) (by omega) (by omega) (by omega) (by omega) (by omega)) t2 ?_ ?_ ?_ ?_ ?_ ?_, t2.sz⟩
    · rw [t3 0 0 5 (by decide) (by decide), q1 0 0 54 (by decide) (by decide) (by decide) (by decide) (by decide) (by decide)]; exact h.c5
    · rw [t3 0 0 6 (by decide) (by decide), q1 0 0 49 (by decide) (by decide) (by decide) (by decide) (by decide) (by decide)]; exact h.c6
    · rw [t3 0 0 7 (by decide) (by decide), q1 0 0 52 (by decide) (by decide) (by decide) (by decide) (by decide) (by decide)]; exact h.c7
    · rw [t3 0 0 8 (by decide) (by decide), q1 0 0 53 (by decide) (by decide) (by decide) (by decide) (by decide) (by decide)]; exact h.c8
    · rw [q1 0 0 55 (by decide) (by decide) (by decide) (by decide) (by decide) (by decide)]
    · rw [q1 0 0 56 (by decide) (by decide) (by decide) (by decide) (by decide) (by decide)]
/-- repeat -/
theorem GB_repeat {B : Nat} {v w : fw_V} (a : Int32) (h : GB B v w) : GB B (xf_FR_repeat v a).2 (mf_Mo_repeat w a).2 ∧ (xf_FR_repeat v a).1 = (mf_Mo_repeat w a).1 := by
  unfold xf_FR_repeat mf_Mo_repeat xf_Wi_has
  (try dsimp only)
  rw [xw_is, h.wr.sz]
  by_cases hx : mf_Mo_is a 0 (w 0 0 10 - 1) = 0
  · rw [if_pos hx, if_pos hx]; exact ⟨h, rfl⟩
  · rw [if_neg hx, if_neg hx]
    obtain ⟨n, hn, en⟩ := vp_in_of h.wr.ok (by decide)
    have ew : w 0 0 10 = nI n := by rw [← h.wr.sz]; exact en
    rw [ew] at hx
    obtain ⟨k, hk, rfl⟩ := is_has (by omega) hx
    unfold xf_Wi_isFull
    (try dsimp only)
    rw [en]
    by_cases h16 : n = 16
    · subst h16
      rw [if_neg (show ¬ nI 16 < (16 : Int32) by decide), if_neg (show ¬ (1 : Int32) = 0 by decide), if_pos (show w 0 0 10 = (16 : Int32) by rw [ew]; rfl)]; exact ⟨h, rfl⟩
    · have hlt : nI n < (16 : Int32) := (nI_ltI (a := n) (b := 16) (by omega) (by omega)).mpr (by omega)
      have hne : ¬ w 0 0 10 = (16 : Int32) := fun q => by
        rw [ew] at q
        exact h16 ((nI_eq (a := n) (b := 16) (by omega) (by omega)).mp q)
      rw [if_pos hlt, if_pos rfl, if_neg hne]
      obtain ⟨t1, t2, t3⟩ := Wr_copy h.wr en (show n < 16 by omega) hk
      have m0 : ∀ c k', ¬ (4 ≤ c ∧ c ≤ 8) → mf_Mo_move w (nI k) (w 0 0 10) c 0 k' = w c 0 k' := fun c k' q => mmove_c (by omega) (by omega) (by omega) (by omega) (by omega)
      (try dsimp only)
      refine ⟨GB_o h (fun c i k q1 q2 => t2 c i k (by omega) (by omega) (by omega)) (fun c k q2 q3 q4 => by rw [fw_up_c q2]; exact m0 c k q3) t1 ?_ ?_ ?_ ?_ ?_ ?_, ?_⟩
      · rw [t2 0 0 5 (by decide) (by decide) (by decide), fw_up_k (by decide), m0 0 54 (by decide)]; exact h.c5
      · rw [t2 0 0 6 (by decide) (by decide) (by decide), fw_up_k (by decide), m0 0 49 (by decide)]; exact h.c6
      · rw [t2 0 0 7 (by decide) (by decide) (by decide), fw_up_k (by decide), m0 0 52 (by decide)]; exact h.c7
      · rw [t2 0 0 8 (by decide) (by decide) (by decide), fw_up_k (by decide), m0 0 53 (by decide)]; exact h.c8
      · rw [fw_up_k (by decide), m0 0 55 (by decide)]
      · rw [fw_up_k (by decide), m0 0 56 (by decide)]
      · show xf_Wi_copyToEnd v (nI k) 5 0 2 = mf_Mo_move w (nI k) (w 0 0 10) 0 0 10 + 1
        rw [t3, m0 0 10 (by decide), ew, nI_1]

theorem ctl_c_0 {w : fw_V} {a b n : Int32} {c k : Nat} (hc : c ≠ 0 ∧ c ≠ 4 ∧ c ≠ 5 ∧ c ≠ 6 ∧ c ≠ 7 ∧ c ≠ 8 ∧ c ≠ 9 ∧ c ≠ 49) (hi : ¬ (k = 0 ∧ 12 ≤ c ∧ c ≤ 23)) (hg : ¬ (c = 27 ∧ 0 ≤ k ∧ k < 0 + 6)) : ctl_0 w a b n c 0 k = w c 0 k := by
  have hg' : ¬ (c = 27 ∧ 0 ≤ k ∧ k < 6 * 0 + 6) := by omega
  unfold ctl_0
  (repeat' split) <;> (first | rfl | (rw [mr0_Mo_ask_0 hc hi hg', fw_up_ne (by omega), mr0_Mo_enter_0 hc hi hg']) | (rw [mr0_Mo_hears_0 hc hi hg']))
theorem ctl_z_0 {w : fw_V} {a b n : Int32} {k : Nat} (hc : k ≠ 10 ∧ k ≠ 50 ∧ k ≠ 51 ∧ k ≠ 55 ∧ k ≠ 56) : ctl_0 w a b n 0 0 k = w 0 0 k := by
  unfold ctl_0
  (repeat' split) <;> (first | rfl | (rw [mz_Mo_ask_0 hc, fw_up_c (by decide), mz_Mo_enter_0 hc]) | (rw [mz_Mo_hears_0 hc]))
theorem ctl_56_0 {w : fw_V} {a b n : Int32} : ctl_0 w a b n 0 0 56 = w 0 0 56 := by
  unfold ctl_0
  (repeat' split) <;> (first | rfl | (rw [mz56_Mo_ask_0 rfl, fw_up_c (by decide), mz56_Mo_enter_0 rfl]) | (rw [mz56_Mo_hears_0 rfl]))
/-- the CONTROLLER's turn, RELATION r -/
theorem GB_ctl_0 {B : Nat} {v w : fw_V} {q : Nat} {what who n : Int32} (h : GB B v w) (hB : B < 2 ^ 30) (f0 : v 7 q 0 = what) (f1 : v 7 q 1 = who) (f2 : v 7 q 2 = n) (f8 : ∀ t, t < 7 → v 8 q t = w 10 0 t) (hF : Fx v q) (h13 : what = 13 → vp_in n 256) (h14 : what = 14 → vp_in (w 10 0 0) 3) (hA : what = 14 → w 12 0 0 = 6 → w 13 0 0 = who → ¬ w 24 0 (3 * 0 + (w 10 0 0).toNatClampNeg) < 0) : GB (B + 1) (xf_Re_receive v 0 q) (ctl_0 w what who n) := by
  have a := Re_recv_0 (GB_RB_0 h) hB h.kd (GB_E_0 h) f0 f1 f2 f8 hF h13 h14 hA
  exact GB_re_0 h a (fun c i k q1 q2 => ro_Re_receive q1 (by omega) v q) (fun c k q1 q2 q3 => ctl_c_0 q1 q2 (by omega)) (fun k hk => by rw [ctl_c_0 (by decide) (by omega) (by omega)]; exact h.ex k hk) (fun k z => ctl_z_0 z) (Or.inl ⟨xq_Re_receive ⟨rfl, rfl⟩ v 0 q, ctl_56_0⟩)
theorem ob44_0 {w : fw_V} {a n : Int32} {s : Nat} (hs : s < 3) (h6 : a = 6 → vp_in n 3) : mf_Mo_obeys_0 w a n 44 0 (3 * 1 + s) = w 44 0 (3 * 1 + s) := by
  have hc : (44 : Nat) = 44 ∧ ¬ (0 ≤ 3 * 1 + s ∧ 3 * 1 + s < 3 * 0 + 3) := ⟨rfl, by omega⟩
  have ms : ∀ (u : fw_V) (a b c d : Int32), mf_Mo_send u a b c d 44 0 (3 * 1 + s) = u 44 0 (3 * 1 + s) := fun u a b c d => msend_c (by decide) (by decide) (by decide) (by decide) (by decide) (by decide) (by decide)
  by_cases e6 : a = 6
  · subst e6
    rw [ob6_0]
    split
    · obtain ⟨z, hz, ez⟩ := vp_in_of (h6 rfl) (by decide)
      have ie : ((0 : Int32) + n).toNatClampNeg = 3 * 0 + z := by
        rw [ez]
        show (nI 0 + nI z).toNatClampNeg = _
        rw [nI_add, nI_clamp (by omega)]
      rw [ms, fw_up_c (by decide), ie, fw_up_k (by omega)]
    · rfl
  · by_cases e8 : a = 8
    · subst e8
      rw [ob8_0]
      (repeat' split) <;> (first | rfl | (rw [mq0_Mo_obeys_0_j35 (by omega)]) | (rw [ms]))
    · by_cases e11 : a = 11
      · subst e11
        rw [ob11_0]
        split
        · rw [fw_up_c (by decide), fw_up_c (by decide), fw_up_c (by decide), fw_up_c (by decide), fw_up_c (by decide), fw_up_c (by decide), fw_up_c (by decide)]
        · rfl
      · by_cases e12 : a = 12
        · subst e12
          rw [ob12_0]
          (repeat' split) <;> (first | rfl | (rw [mq0_Mo_obeys_0_j10 (by omega), fw_up_c (by decide), fw_up_c (by decide)]))
        · by_cases e15 : a = 15
          · subst e15
            rw [ob15_0]
            (repeat' split) <;> (first | rfl | (rw [mq0_Mo_obeys_0_j6 (by omega), fw_up_c (by decide), fw_up_c (by decide)]))
          · by_cases e16 : a = 16
            · subst e16
              rw [ob16_0, mq0_Mo_rest_0 (by omega)]
            · rw [ob_no_0 e6 e8 e11 e12 e15 e16]
theorem ar44_0 {w : fw_V} {a b n : Int32} {s : Nat} (hs : s < 3) (h6 : a = 6 → vp_in n 3) : mf_Mo_arrives_0 w a b n 44 0 (3 * 1 + s) = w 44 0 (3 * 1 + s) := by
  unfold mf_Mo_arrives_0
  (try dsimp only)
  (repeat' split) <;> (first | rfl | (rw [msend_c (by decide) (by decide) (by decide) (by decide) (by decide) (by decide) (by decide), fw_up_c (by decide)]) | (rw [mq0_Mo_connect_0 (by omega)]) | (rw [ob44_0 hs h6]))
/-- DEVICE d's turn -/
theorem GB_arr_0 {B : Nat} {v w : fw_V} {q : Nat} {what who n : Int32} (h : GB B v w) (f0 : v 7 q 0 = what) (f1 : v 7 q 1 = who) (f2 : v 7 q 2 = n) (f8 : ∀ t, t < 7 → v 8 q t = w 10 0 t) (h12 : what = 12 → vp_in n 256) (h6 : what = 6 → vp_in n 3) (hp : what = 6 → ¬ w 10 0 0 < 0) (h3 : what = 3 → ∀ s, s < 3 → vp_in (w 10 0 s) 9) : GB B (xf_De_receive v 0 q) (mf_Mo_arrives_0 w what who n) := by
  have a := De_recv_0 (GB_DB_0 h) h.kd f0 f1 f2 f8 h12 h6 hp h3
  refine GB_de_0 h a (fun c i k q1 q2 => do_De_receive q1 q2 v q) (fun c k q1 q2 => md0_Mo_arrives_0 q1 (by omega) w _ _ _) (fun s hs => ar44_0 hs h6) (fun k z => ?_) (Or.inl ⟨xv_De_receive ⟨rfl, rfl⟩ v 0 q, mz56_Mo_arrives_0 rfl w _ _ _⟩)
  by_cases z55 : k = 55
  · exact mz55_Mo_arrives_0 z55 w _ _ _
  · exact mz_Mo_arrives_0 (by omega) w _ _ _

theorem ctl_c_1 {w : fw_V} {a b n : Int32} {c k : Nat} (hc : c ≠ 0 ∧ c ≠ 4 ∧ c ≠ 5 ∧ c ≠ 6 ∧ c ≠ 7 ∧ c ≠ 8 ∧ c ≠ 9 ∧ c ≠ 49) (hi : ¬ (k = 1 ∧ 12 ≤ c ∧ c ≤ 23)) (hg : ¬ (c = 27 ∧ 6 ≤ k ∧ k < 6 + 6)) : ctl_1 w a b n c 0 k = w c 0 k := by
  have hg' : ¬ (c = 27 ∧ 6 ≤ k ∧ k < 6 * 1 + 6) := by omega
  unfold ctl_1
  (repeat' split) <;> (first | rfl | (rw [mr1_Mo_ask_1 hc hi hg', fw_up_ne (by omega), mr1_Mo_enter_1 hc hi hg']) | (rw [mr1_Mo_hears_1 hc hi hg']))
theorem ctl_z_1 {w : fw_V} {a b n : Int32} {k : Nat} (hc : k ≠ 10 ∧ k ≠ 50 ∧ k ≠ 51 ∧ k ≠ 55 ∧ k ≠ 56) : ctl_1 w a b n 0 0 k = w 0 0 k := by
  unfold ctl_1
  (repeat' split) <;> (first | rfl | (rw [mz_Mo_ask_1 hc, fw_up_c (by decide), mz_Mo_enter_1 hc]) | (rw [mz_Mo_hears_1 hc]))
theorem ctl_56_1 {w : fw_V} {a b n : Int32} : ctl_1 w a b n 0 0 56 = w 0 0 56 := by
  unfold ctl_1
  (repeat' split) <;> (first | rfl | (rw [mz56_Mo_ask_1 rfl, fw_up_c (by decide), mz56_Mo_enter_1 rfl]) | (rw [mz56_Mo_hears_1 rfl]))
/-- the CONTROLLER's turn, RELATION r -/
theorem GB_ctl_1 {B : Nat} {v w : fw_V} {q : Nat} {what who n : Int32} (h : GB B v w) (hB : B < 2 ^ 30) (f0 : v 7 q 0 = what) (f1 : v 7 q 1 = who) (f2 : v 7 q 2 = n) (f8 : ∀ t, t < 7 → v 8 q t = w 10 0 t) (hF : Fx v q) (h13 : what = 13 → vp_in n 256) (h14 : what = 14 → vp_in (w 10 0 0) 3) (hA : what = 14 → w 12 0 1 = 6 → w 13 0 1 = who → ¬ w 24 0 (3 * 1 + (w 10 0 0).toNatClampNeg) < 0) : GB (B + 1) (xf_Re_receive v 1 q) (ctl_1 w what who n) := by
  have a := Re_recv_1 (GB_RB_1 h) hB h.kd (GB_E_1 h) f0 f1 f2 f8 hF h13 h14 hA
  exact GB_re_1 h a (fun c i k q1 q2 => ro_Re_receive q1 (by omega) v q) (fun c k q1 q2 q3 => ctl_c_1 q1 q2 (by omega)) (fun k hk => by rw [ctl_c_1 (by decide) (by omega) (by omega)]; exact h.ex k hk) (fun k z => ctl_z_1 z) (Or.inl ⟨xq_Re_receive ⟨rfl, rfl⟩ v 1 q, ctl_56_1⟩)
theorem ob44_1 {w : fw_V} {a n : Int32} {s : Nat} (hs : s < 3) (h6 : a = 6 → vp_in n 3) : mf_Mo_obeys_1 w a n 44 0 (3 * 0 + s) = w 44 0 (3 * 0 + s) := by
  have hc : (44 : Nat) = 44 ∧ ¬ (3 ≤ 3 * 0 + s ∧ 3 * 0 + s < 3 * 1 + 3) := ⟨rfl, by omega⟩
  have ms : ∀ (u : fw_V) (a b c d : Int32), mf_Mo_send u a b c d 44 0 (3 * 0 + s) = u 44 0 (3 * 0 + s) := fun u a b c d => msend_c (by decide) (by decide) (by decide) (by decide) (by decide) (by decide) (by decide)
  by_cases e6 : a = 6
  · subst e6
    rw [ob6_1]
    split
    · obtain ⟨z, hz, ez⟩ := vp_in_of (h6 rfl) (by decide)
      have ie : ((3 : Int32) + n).toNatClampNeg = 3 * 1 + z := by
        rw [ez]
        show (nI 3 + nI z).toNatClampNeg = _
        rw [nI_add, nI_clamp (by omega)]
      rw [ms, fw_up_c (by decide), ie, fw_up_k (by omega)]
    · rfl
  · by_cases e8 : a = 8
    · subst e8
      rw [ob8_1]
      (repeat' split) <;> (first | rfl | (rw [mq1_Mo_obeys_1_j35 (by omega)]) | (rw [ms]))
    · by_cases e11 : a = 11
      · subst e11
        rw [ob11_1]
        split
        · rw [fw_up_c (by decide), fw_up_c (by decide), fw_up_c (by decide), fw_up_c (by decide), fw_up_c (by decide), fw_up_c (by decide), fw_up_c (by decide)]
        · rfl
      · by_cases e12 : a = 12
        · subst e12
          rw [ob12_1]
          (repeat' split) <;> (first | rfl | (rw [mq1_Mo_obeys_1_j10 (by omega), fw_up_c (by decide), fw_up_c (by decide)]))
        · by_cases e15 : a = 15
          · subst e15
            rw [ob15_1]
            (repeat' split) <;> (first | rfl | (rw [mq1_Mo_obeys_1_j6 (by omega), fw_up_c (by decide), fw_up_c (by decide)]))
          · by_cases e16 : a = 16
            · subst e16
              rw [ob16_1, mq1_Mo_rest_1 (by omega)]
            · rw [ob_no_1 e6 e8 e11 e12 e15 e16]
theorem ar44_1 {w : fw_V} {a b n : Int32} {s : Nat} (hs : s < 3) (h6 : a = 6 → vp_in n 3) : mf_Mo_arrives_1 w a b n 44 0 (3 * 0 + s) = w 44 0 (3 * 0 + s) := by
  unfold mf_Mo_arrives_1
  (try dsimp only)
  (repeat' split) <;> (first | rfl | (rw [msend_c (by decide) (by decide) (by decide) (by decide) (by decide) (by decide) (by decide), fw_up_c (by decide)]) | (rw [mq1_Mo_connect_1 (by omega)]) | (rw [ob44_1 hs h6]))
/-- DEVICE d's turn -/
theorem GB_arr_1 {B : Nat} {v w : fw_V} {q : Nat} {what who n : Int32} (h : GB B v w) (f0 : v 7 q 0 = what) (f1 : v 7 q 1 = who) (f2 : v 7 q 2 = n) (f8 : ∀ t, t < 7 → v 8 q t = w 10 0 t) (h12 : what = 12 → vp_in n 256) (h6 : what = 6 → vp_in n 3) (hp : what = 6 → ¬ w 10 0 0 < 0) (h3 : what = 3 → ∀ s, s < 3 → vp_in (w 10 0 s) 9) : GB B (xf_De_receive v 1 q) (mf_Mo_arrives_1 w what who n) := by
  have a := De_recv_1 (GB_DB_1 h) h.kd f0 f1 f2 f8 h12 h6 hp h3
  refine GB_de_1 h a (fun c i k q1 q2 => do_De_receive q1 q2 v q) (fun c k q1 q2 => md1_Mo_arrives_1 q1 (by omega) w _ _ _) (fun s hs => ar44_1 hs h6) (fun k z => ?_) (Or.inl ⟨xv_De_receive ⟨rfl, rfl⟩ v 1 q, mz56_Mo_arrives_1 rfl w _ _ _⟩)
  by_cases z55 : k = 55
  · exact mz55_Mo_arrives_1 z55 w _ _ _
  · exact mz_Mo_arrives_1 (by omega) w _ _ _


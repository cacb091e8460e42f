/-- DEVICE d, as both hold it -/
def Dv (d : Nat) (v w : fw_V) : Prop := (v 19 d 0 = nI d) ∧ (v 19 d 5 = w 30 0 d) ∧ (v 19 d 6 = w 40 0 d) ∧ (v 19 d 7 = w 41 0 d) ∧ (v 19 d 11 = w 28 0 d) ∧ (v 19 d 12 = w 29 0 d) ∧ (v 19 d 15 = w 31 0 d) ∧ (v 19 d 16 = w 32 0 d) ∧ (w 28 0 d = 2 → v 19 d 17 = w 33 0 d) ∧ (w 28 0 d = 3 → v 14 (d + 2) 0 = w 34 0 d) ∧ (w 28 0 d = 3 → v 14 (d + 2) 1 = w 35 0 d) ∧ (v 20 d 2 = w 37 0 d) ∧ (v 20 d 3 = w 36 0 d) ∧ (w 28 0 d = 3 → v 20 d 4 = w 39 0 d) ∧ (w 28 0 d = 3 → w 36 0 d ≠ 0 → v 20 d 5 = w 38 0 d) ∧ (∀ j, j < 4 → v 21 d j = w 47 0 (4 * d + j)) ∧ (∀ j, j < 4 → v 22 d j = w 48 0 (4 * d + j)) ∧ (∀ s, s < 3 → v 23 d s = w 42 0 (3 * d + s)) ∧ (w 28 0 d ≠ 0 → ∀ s, s < 3 → v 26 d s = w 43 0 (3 * d + s)) ∧ (∀ s, s < 3 → v 27 d s = w 44 0 (3 * d + s)) ∧ (∀ i, i < 6 → v 24 d i = w 45 0 (6 * d + i)) ∧ (∀ i, i < 6 → v 25 d i = w 46 0 (6 * d + i))
theorem Dv.ix {d : Nat} {v w : fw_V} (h : Dv d v w) : v 19 d 0 = nI d := h.1
theorem Dv.nm {d : Nat} {v w : fw_V} (h : Dv d v w) : v 19 d 5 = w 30 0 d := h.2.1
theorem Dv.fb {d : Nat} {v w : fw_V} (h : Dv d v w) : v 19 d 6 = w 40 0 d := h.2.2.1
theorem Dv.oc {d : Nat} {v w : fw_V} (h : Dv d v w) : v 19 d 7 = w 41 0 d := h.2.2.2.1
theorem Dv.st {d : Nat} {v w : fw_V} (h : Dv d v w) : v 19 d 11 = w 28 0 d := h.2.2.2.2.1
theorem Dv.se {d : Nat} {v w : fw_V} (h : Dv d v w) : v 19 d 12 = w 29 0 d := h.2.2.2.2.2.1
theorem Dv.di {d : Nat} {v w : fw_V} (h : Dv d v w) : v 19 d 15 = w 31 0 d := h.2.2.2.2.2.2.1
theorem Dv.ti {d : Nat} {v w : fw_V} (h : Dv d v w) : v 19 d 16 = w 32 0 d := h.2.2.2.2.2.2.2.1
theorem Dv.ag {d : Nat} {v w : fw_V} (h : Dv d v w) : w 28 0 d = 2 → v 19 d 17 = w 33 0 d := h.2.2.2.2.2.2.2.2.1
theorem Dv.ne {d : Nat} {v w : fw_V} (h : Dv d v w) : w 28 0 d = 3 → v 14 (d + 2) 0 = w 34 0 d := h.2.2.2.2.2.2.2.2.2.1
theorem Dv.ta {d : Nat} {v w : fw_V} (h : Dv d v w) : w 28 0 d = 3 → v 14 (d + 2) 1 = w 35 0 d := h.2.2.2.2.2.2.2.2.2.2.1
theorem Dv.qs {d : Nat} {v w : fw_V} (h : Dv d v w) : v 20 d 2 = w 37 0 d := h.2.2.2.2.2.2.2.2.2.2.2.1
theorem Dv.qw {d : Nat} {v w : fw_V} (h : Dv d v w) : v 20 d 3 = w 36 0 d := h.2.2.2.2.2.2.2.2.2.2.2.2.1
theorem Dv.qn {d : Nat} {v w : fw_V} (h : Dv d v w) : w 28 0 d = 3 → v 20 d 4 = w 39 0 d := h.2.2.2.2.2.2.2.2.2.2.2.2.2.1
theorem Dv.qt {d : Nat} {v w : fw_V} (h : Dv d v w) : w 28 0 d = 3 → w 36 0 d ≠ 0 → v 20 d 5 = w 38 0 d := h.2.2.2.2.2.2.2.2.2.2.2.2.2.2.1
theorem Dv.sl {d : Nat} {v w : fw_V} (h : Dv d v w) : ∀ j, j < 4 → v 21 d j = w 47 0 (4 * d + j) := h.2.2.2.2.2.2.2.2.2.2.2.2.2.2.2.1
theorem Dv.sk {d : Nat} {v w : fw_V} (h : Dv d v w) : ∀ j, j < 4 → v 22 d j = w 48 0 (4 * d + j) := h.2.2.2.2.2.2.2.2.2.2.2.2.2.2.2.2.1
theorem Dv.mo {d : Nat} {v w : fw_V} (h : Dv d v w) : ∀ s, s < 3 → v 23 d s = w 42 0 (3 * d + s) := h.2.2.2.2.2.2.2.2.2.2.2.2.2.2.2.2.2.1
theorem Dv.wa {d : Nat} {v w : fw_V} (h : Dv d v w) : w 28 0 d ≠ 0 → ∀ s, s < 3 → v 26 d s = w 43 0 (3 * d + s) := h.2.2.2.2.2.2.2.2.2.2.2.2.2.2.2.2.2.2.1
theorem Dv.wr {d : Nat} {v w : fw_V} (h : Dv d v w) : ∀ s, s < 3 → v 27 d s = w 44 0 (3 * d + s) := h.2.2.2.2.2.2.2.2.2.2.2.2.2.2.2.2.2.2.2.1
theorem Dv.sn {d : Nat} {v w : fw_V} (h : Dv d v w) : ∀ i, i < 6 → v 24 d i = w 45 0 (6 * d + i) := h.2.2.2.2.2.2.2.2.2.2.2.2.2.2.2.2.2.2.2.2.1
theorem Dv.sh {d : Nat} {v w : fw_V} (h : Dv d v w) : ∀ i, i < 6 → v 25 d i = w 46 0 (6 * d + i) := h.2.2.2.2.2.2.2.2.2.2.2.2.2.2.2.2.2.2.2.2.2
/-- what DEVICE d keeps to -/
def Di (d : Nat) (v w : fw_V) : Prop := (vp_in (w 28 0 d) 4) ∧ (w 28 0 d = 0 → w 29 0 d = 0 ∧ w 31 0 d = 0 ∧ w 32 0 d = 0 ∧ ∀ s, s < 3 → w 44 0 (3 * d + s) = -1) ∧ (w 28 0 d ≠ 3 → w 37 0 d = 0 ∧ w 36 0 d = 0 ∧ v 20 d 4 = 0) ∧ (w 28 0 d = 1 → vp_in (w 32 0 d) 16) ∧ (w 28 0 d = 2 → vp_in (w 32 0 d) 3 ∧ vp_in (w 33 0 d) 4) ∧ (w 28 0 d = 3 → vp_in (w 32 0 d) 4) ∧ (w 28 0 d = 3 → vp_in (w 34 0 d) 256) ∧ (w 28 0 d = 3 → (w 35 0 d = -1 ∨ vp_in (w 35 0 d) 256)) ∧ (vp_in (w 37 0 d) 5) ∧ (w 28 0 d = 3 → vp_in (w 39 0 d) 256) ∧ (w 28 0 d = 3 → vp_in (w 36 0 d) 256) ∧ (w 28 0 d = 3 → w 37 0 d = 0 → w 36 0 d = 0) ∧ (∀ s, s < 3 → w 44 0 (3 * d + s) = -1 ∨ ¬ w 44 0 (3 * d + s) < 0) ∧ (vp_in (w 40 0 d) 3) ∧ (∀ s, s < 3 → vp_in (w 42 0 (3 * d + s) + 1) 9) ∧ (w 28 0 d ≠ 0 → ∀ s, s < 3 → vp_in (w 43 0 (3 * d + s) + 1) 9) ∧ (∀ j, j < 4 → vp_in (w 47 0 (4 * d + j)) 3)
theorem Di.s4 {d : Nat} {v w : fw_V} (h : Di d v w) : vp_in (w 28 0 d) 4 := h.1
theorem Di.c0 {d : Nat} {v w : fw_V} (h : Di d v w) : w 28 0 d = 0 → w 29 0 d = 0 ∧ w 31 0 d = 0 ∧ w 32 0 d = 0 ∧ ∀ s, s < 3 → w 44 0 (3 * d + s) = -1 := h.2.1
theorem Di.nq {d : Nat} {v w : fw_V} (h : Di d v w) : w 28 0 d ≠ 3 → w 37 0 d = 0 ∧ w 36 0 d = 0 ∧ v 20 d 4 = 0 := h.2.2.1
theorem Di.t1 {d : Nat} {v w : fw_V} (h : Di d v w) : w 28 0 d = 1 → vp_in (w 32 0 d) 16 := h.2.2.2.1
theorem Di.t2 {d : Nat} {v w : fw_V} (h : Di d v w) : w 28 0 d = 2 → vp_in (w 32 0 d) 3 ∧ vp_in (w 33 0 d) 4 := h.2.2.2.2.1
theorem Di.t3 {d : Nat} {v w : fw_V} (h : Di d v w) : w 28 0 d = 3 → vp_in (w 32 0 d) 4 := h.2.2.2.2.2.1
theorem Di.n3 {d : Nat} {v w : fw_V} (h : Di d v w) : w 28 0 d = 3 → vp_in (w 34 0 d) 256 := h.2.2.2.2.2.2.1
theorem Di.l3 {d : Nat} {v w : fw_V} (h : Di d v w) : w 28 0 d = 3 → (w 35 0 d = -1 ∨ vp_in (w 35 0 d) 256) := h.2.2.2.2.2.2.2.1
theorem Di.q5 {d : Nat} {v w : fw_V} (h : Di d v w) : vp_in (w 37 0 d) 5 := h.2.2.2.2.2.2.2.2.1
theorem Di.nn {d : Nat} {v w : fw_V} (h : Di d v w) : w 28 0 d = 3 → vp_in (w 39 0 d) 256 := h.2.2.2.2.2.2.2.2.2.1
theorem Di.wn {d : Nat} {v w : fw_V} (h : Di d v w) : w 28 0 d = 3 → vp_in (w 36 0 d) 256 := h.2.2.2.2.2.2.2.2.2.2.1
theorem Di.wp {d : Nat} {v w : fw_V} (h : Di d v w) : w 28 0 d = 3 → w 37 0 d = 0 → w 36 0 d = 0 := h.2.2.2.2.2.2.2.2.2.2.2.1
theorem Di.wt {d : Nat} {v w : fw_V} (h : Di d v w) : ∀ s, s < 3 → w 44 0 (3 * d + s) = -1 ∨ ¬ w 44 0 (3 * d + s) < 0 := h.2.2.2.2.2.2.2.2.2.2.2.2.1
theorem Di.sb {d : Nat} {v w : fw_V} (h : Di d v w) : vp_in (w 40 0 d) 3 := h.2.2.2.2.2.2.2.2.2.2.2.2.2.1
theorem Di.m8 {d : Nat} {v w : fw_V} (h : Di d v w) : ∀ s, s < 3 → vp_in (w 42 0 (3 * d + s) + 1) 9 := h.2.2.2.2.2.2.2.2.2.2.2.2.2.2.1
theorem Di.w8 {d : Nat} {v w : fw_V} (h : Di d v w) : w 28 0 d ≠ 0 → ∀ s, s < 3 → vp_in (w 43 0 (3 * d + s) + 1) 9 := h.2.2.2.2.2.2.2.2.2.2.2.2.2.2.2.1
theorem Di.a3 {d : Nat} {v w : fw_V} (h : Di d v w) : ∀ j, j < 4 → vp_in (w 47 0 (4 * d + j)) 3 := h.2.2.2.2.2.2.2.2.2.2.2.2.2.2.2.2
theorem Dv_cg {d : Nat} {v v' w w' : fw_V} (h : Dv d v w) (hv : ∀ c k, 19 ≤ c → c ≤ 27 → v' c d k = v c d k) (h14 : ∀ k, v' 14 (d + 2) k = v 14 (d + 2) k) (hw : ∀ c k, 28 ≤ c → c ≤ 48 → w' c 0 k = w c 0 k) : Dv d v' w' := by
  unfold Dv at h ⊢
  simp only [hv 19 _ (by decide) (by decide), hv 20 _ (by decide) (by decide), hv 21 _ (by decide) (by decide), hv 22 _ (by decide) (by decide), hv 23 _ (by decide) (by decide), hv 24 _ (by decide) (by decide), hv 25 _ (by decide) (by decide), hv 26 _ (by decide) (by decide), hv 27 _ (by decide) (by decide), h14, hw 28 _ (by decide) (by decide), hw 29 _ (by decide) (by decide), hw 30 _ (by decide) (by decide), hw 31 _ (by decide) (by decide), hw 32 _ (by decide) (by decide), hw 33 _ (by decide) (by decide), hw 34 _ (by decide) (by decide), hw 35 _ (by decide) (by decide), hw 36 _ (by decide) (by decide), hw 37 _ (by decide) (by decide), hw 38 _ (by decide) (by decide), hw 39 _ (by decide) (by decide), hw 40 _ (by decide) (by decide), hw 41 _ (by decide) (by decide), hw 42 _ (by decide) (by decide), hw 43 _ (by decide) (by decide), hw 44 _ (by decide) (by decide), hw 45 _ (by decide) (by decide), hw 46 _ (by decide) (by decide), hw 47 _ (by decide) (by decide), hw 48 _ (by decide) (by decide)]
  exact h
theorem Di_cg {d : Nat} {v v' w w' : fw_V} (h : Di d v w) (hv : v' 20 d 4 = v 20 d 4) (hw : ∀ c k, 28 ≤ c → c ≤ 48 → w' c 0 k = w c 0 k) : Di d v' w' := by
  unfold Di at h ⊢
  simp only [hv, hw 28 _ (by decide) (by decide), hw 29 _ (by decide) (by decide), hw 31 _ (by decide) (by decide), hw 32 _ (by decide) (by decide), hw 33 _ (by decide) (by decide), hw 34 _ (by decide) (by decide), hw 35 _ (by decide) (by decide), hw 36 _ (by decide) (by decide), hw 37 _ (by decide) (by decide), hw 39 _ (by decide) (by decide), hw 40 _ (by decide) (by decide), hw 42 _ (by decide) (by decide), hw 43 _ (by decide) (by decide), hw 44 _ (by decide) (by decide), hw 47 _ (by decide) (by decide)]
  exact h
/-- what the class shows behind a SUBSTITUTE -/
def FX (v : fw_V) (r s j : Nat) : Int32 := if xf_KT_outsOf v (v 23 r s) ≤ nI j then 0 else if v 19 r 6 = 0 then 0 else if v 19 r 6 = 1 then v 25 r (2 * s + j) else v 19 r 7
theorem pl0 {s : Nat} (hs : s < 3) : (xf_FR_place (nI s) 0).toNatClampNeg = 2 * s := by
  rcases (show s = 0 ∨ s = 1 ∨ s = 2 by omega) with rfl | rfl | rfl <;> decide
theorem pl1 {s : Nat} (hs : s < 3) : (xf_FR_place (nI s) 1).toNatClampNeg = 2 * s + 1 := by
  rcases (show s = 0 ∨ s = 1 ∨ s = 2 by omega) with rfl | rfl | rfl <;> decide
theorem sf4 {v : fw_V} {r s : Nat} {o : Int32} (hs : s < 3) : xf_De_showFallback_j4 v r (nI s) o = fw_up v 25 r (2 * s + 1) (if o ≤ 1 then 0 else if v 19 r 6 = 0 then 0 else if v 19 r 6 = 1 then v 25 r (2 * s + 1) else v 19 r 7) := by
  unfold xf_De_showFallback_j4 xf_De_showFallback_j5 xf_De_showFallback_j6 xf_De_showFallback_j7
  (try dsimp only)
  rw [pl1 hs]
  by_cases h1 : o ≤ 1
  · rw [if_pos h1, if_pos h1]
  · rw [if_neg h1, if_neg h1]
    by_cases h2 : v 19 r 6 = 0
    · rw [if_pos h2, if_pos h2]
    · rw [if_neg h2, if_neg h2]
      by_cases h3 : v 19 r 6 = 1
      · rw [if_pos h3, if_pos h3, fw_up_id]
      · rw [if_neg h3, if_neg h3]
theorem sf1 {v : fw_V} {r s : Nat} {o : Int32} (hs : s < 3) : xf_De_showFallback_j1 v r (nI s) o = xf_De_showFallback_j4 (fw_up v 25 r (2 * s) (if o ≤ 0 then 0 else if v 19 r 6 = 0 then 0 else if v 19 r 6 = 1 then v 25 r (2 * s) else v 19 r 7)) r (nI s) o := by
  unfold xf_De_showFallback_j1 xf_De_showFallback_j2 xf_De_showFallback_j3
  (try dsimp only)
  rw [pl0 hs]
  by_cases h1 : o ≤ 0
  · rw [if_pos h1, if_pos h1]
  · rw [if_neg h1, if_neg h1]
    by_cases h2 : v 19 r 6 = 0
    · rw [if_pos h2, if_pos h2]
    · rw [if_neg h2, if_neg h2]
      by_cases h3 : v 19 r 6 = 1
      · rw [if_pos h3, if_pos h3, fw_up_id]
      · rw [if_neg h3, if_neg h3]
theorem sf_ex {v : fw_V} {r s : Nat} (hs : s < 3) : xf_De_showFallback v r (nI s) = fw_up (fw_up v 25 r (2 * s) (FX v r s 0)) 25 r (2 * s + 1) (FX v r s 1) := by
  unfold xf_De_showFallback
  (try dsimp only)
  rw [nI_clamp (by omega), sf1 hs, sf4 hs]
  rw [fw_up_c (show (19 : Nat) ≠ 25 by decide), fw_up_c (show (19 : Nat) ≠ 25 by decide), fw_up_k (show 2 * s + 1 ≠ 2 * s by omega)]
  rfl
theorem sf_v {v : fw_V} {r s j : Nat} (hs : s < 3) (hj : j < 2) : xf_De_showFallback v r (nI s) 25 r (2 * s + j) = FX v r s j := by
  rw [sf_ex hs]
  rcases (show j = 0 ∨ j = 1 by omega) with rfl | rfl
  · rw [fw_up_k (by omega), Nat.add_zero, fw_up_s]
  · rw [fw_up_s]
theorem sf_o {v : fw_V} {r s c i k : Nat} (hs : s < 3) (h : ¬ (c = 25 ∧ i = r ∧ (k = 2 * s ∨ k = 2 * s + 1))) : xf_De_showFallback v r (nI s) c i k = v c i k := by
  rw [sf_ex hs, fw_up_ne (fun q => h ⟨q.1, q.2.1, Or.inr q.2.2⟩), fw_up_ne (fun q => h ⟨q.1, q.2.1, Or.inl q.2.2⟩)]
theorem FX_cg {v v' : fw_V} {r s j : Nat} (h : ∀ c i k, ¬ (c = 25 ∧ i = r ∧ k ≠ 2 * s + j) → v' c i k = v c i k) : FX v' r s j = FX v r s j := by
  unfold FX xf_KT_outsOf
  simp only [h 23 _ _ (fun q => absurd q.1 (by decide)), h 3 _ _ (fun q => absurd q.1 (by decide)), h 19 _ _ (fun q => absurd q.1 (by decide)), h 25 r (2 * s + j) (fun q => q.2.2 rfl)]
/-- all three slots -/
theorem sf_3 {v : fw_V} {r : Nat} : (∀ s j, s < 3 → j < 2 → xf_De_showFallback (xf_De_showFallback (xf_De_showFallback v r 0) r 1) r 2 25 r (2 * s + j) = FX v r s j) ∧ ∀ c i k, ¬ (c = 25 ∧ i = r) → xf_De_showFallback (xf_De_showFallback (xf_De_showFallback v r 0) r 1) r 2 c i k = v c i k := by
  have e0 : (0 : Int32) = nI 0 := rfl
  have e1 : (1 : Int32) = nI 1 := rfl
  have e2 : (2 : Int32) = nI 2 := rfl
  rw [e0, e1, e2]
  refine ⟨fun s j hs hj => ?_, fun c i k h => ?_⟩
  · rcases (show s = 0 ∨ s = 1 ∨ s = 2 by omega) with rfl | rfl | rfl
    · rw [sf_o (by decide) (by omega), sf_o (by decide) (by omega)]
      exact sf_v (by decide) hj
    · rw [sf_o (by decide) (by omega), sf_v (by decide) hj]
      exact FX_cg (fun c i k h => sf_o (by decide) (fun q => h ⟨q.1, q.2.1, by omega⟩))
    · rw [sf_v (by decide) hj]
      refine FX_cg (fun c i k h => ?_)
      rw [sf_o (by decide) (fun q => h ⟨q.1, q.2.1, by omega⟩), sf_o (by decide) (fun q => h ⟨q.1, q.2.1, by omega⟩)]
  · rw [sf_o (by decide) (fun q => h ⟨q.1, q.2.1⟩), sf_o (by decide) (fun q => h ⟨q.1, q.2.1⟩), sf_o (by decide) (fun q => h ⟨q.1, q.2.1⟩)]

theorem Dv_send_0 {v w : fw_V} {a b c d a' b' c' d' : Int32} (h : Dv 0 v w) : Dv 0 (xf_Wi_send v a b c d).2 (mf_Mo_send w a' b' c' d') := Dv_cg h (fun c k h1 h2 => xsend_c (by omega) (by omega) (by omega)) (fun k => xsend_c (by decide) (by decide) (by decide)) (fun c k h1 h2 => msend_c (by omega) (by omega) (by omega) (by omega) (by omega) (by omega) (by omega))
theorem Di_send_0 {v w : fw_V} {a b c d a' b' c' d' : Int32} (h : Di 0 v w) : Di 0 (xf_Wi_send v a b c d).2 (mf_Mo_send w a' b' c' d') := Di_cg h (xsend_c (by decide) (by decide) (by decide)) (fun c k h1 h2 => msend_c (by omega) (by omega) (by omega) (by omega) (by omega) (by omega) (by omega))
/-- what the reference shows behind a SUBSTITUTE -/
def FM_0 (w : fw_V) (s j : Nat) : Int32 := if (if w 42 0 (0 + s) < 0 then 0 else w 2 0 (w 42 0 (0 + s)).toNatClampNeg) ≤ nI j then 0 else if w 40 0 0 = 0 then 0 else if w 40 0 0 = 2 then w 41 0 0 else w 46 0 (0 + 2 * s + j)
theorem rp_ex_0 {w : fw_V} {s : Nat} (hs : s < 3) : mf_Mo_replace_0 w (nI s) = fw_up (fw_up w 46 0 (0 + 2 * s) (FM_0 w s 0)) 46 0 (0 + 2 * s + 1) (FM_0 w s 1) := by
  have i0 : ((((0 : Int32) + ((2 : Int32) * nI s)) + (0 : Int32)).toNatClampNeg) = 0 + 2 * s := by
    rcases (show s = 0 ∨ s = 1 ∨ s = 2 by omega) with rfl | rfl | rfl <;> decide
  have i1 : ((((0 : Int32) + ((2 : Int32) * nI s)) + (1 : Int32)).toNatClampNeg) = 0 + 2 * s + 1 := by
    rcases (show s = 0 ∨ s = 1 ∨ s = 2 by omega) with rfl | rfl | rfl <;> decide
  have im : ((0 : Int32) + nI s).toNatClampNeg = 0 + s := by
    rcases (show s = 0 ∨ s = 1 ∨ s = 2 by omega) with rfl | rfl | rfl <;> decide
  obtain ⟨o, eo⟩ : ∃ o : Int32, o = (if w 42 0 (0 + s) < 0 then 0 else w 2 0 (w 42 0 (0 + s)).toNatClampNeg) := ⟨_, rfl⟩
  have F0 : FM_0 w s 0 = if o ≤ 0 then 0 else if w 40 0 0 = 0 then 0 else if w 40 0 0 = 2 then w 41 0 0 else w 46 0 (0 + 2 * s) := by
    rw [eo]; rfl
  have F1 : FM_0 w s 1 = if o ≤ 1 then 0 else if w 40 0 0 = 0 then 0 else if w 40 0 0 = 2 then w 41 0 0 else w 46 0 (0 + 2 * s + 1) := by
    rw [eo]; rfl
  have k46 : ∀ (u : fw_V) (k : Nat) (x : Int32) (c k' : Nat), c ≠ 46 → fw_up u 46 0 k x c 0 k' = u c 0 k' := fun u k x c k' hc => fw_up_c hc
  unfold mf_Mo_replace_0
  rw [im]
  by_cases hm : (0 : Int32) ≤ w 42 0 (0 + s)
  · rw [if_pos hm]
    have eo2 : o = w 2 0 (w 42 0 (0 + s)).toNatClampNeg := by rw [eo, if_neg (Int32.not_lt.mpr hm)]
    have j4 : ∀ u : fw_V, (∀ c k, c ≠ 46 → u c 0 k = w c 0 k) → u 46 0 (0 + 2 * s + 1) = w 46 0 (0 + 2 * s + 1) → mf_Mo_replace_0_j4 u (nI s) o = fw_up u 46 0 (0 + 2 * s + 1) (FM_0 w s 1) := by
      intro u hu h46
      unfold mf_Mo_replace_0_j4 mf_Mo_replace_0_j5 mf_Mo_replace_0_j6 mf_Mo_replace_0_j7 mf_Mo_replace_0_j8
      (try dsimp only)
      rw [F1, i1, hu 40 _ (by decide), hu 41 _ (by decide)]
      by_cases h1 : o ≤ 1
      · rw [if_pos h1, if_pos h1]
      · rw [if_neg h1, if_neg h1]
        by_cases h2 : w 40 0 0 = 0
        · rw [if_pos h2, if_pos h2]
        · rw [if_neg h2, if_neg h2]
          by_cases h3 : w 40 0 0 = 2
          · rw [if_pos h3, if_pos h3]
          · rw [if_neg h3, if_neg h3, ← h46, fw_up_id]
    unfold mf_Mo_replace_0_j1 mf_Mo_replace_0_j2 mf_Mo_replace_0_j3
    (try dsimp only)
    rw [im, ← eo2, i0, F0]
    by_cases h1 : o ≤ 0
    · rw [if_pos h1, if_pos h1, j4 _ (fun c k hc => fw_up_c hc) (fw_up_k (by omega))]
    · rw [if_neg h1, if_neg h1]
      by_cases h2 : w 40 0 0 = 0
      · rw [if_pos h2, if_pos h2, j4 _ (fun c k hc => fw_up_c hc) (fw_up_k (by omega))]
      · rw [if_neg h2, if_neg h2]
        by_cases h3 : w 40 0 0 = 2
        · rw [if_pos h3, if_pos h3, j4 _ (fun c k hc => fw_up_c hc) (fw_up_k (by omega))]
        · rw [if_neg h3, if_neg h3, fw_up_id]
          unfold mf_Mo_replace_0_j9 mf_Mo_replace_0_j10 mf_Mo_replace_0_j11 mf_Mo_replace_0_j12 mf_Mo_replace_0_j13 mf_Mo_replace_0_j7 mf_Mo_replace_0_j8
          (try dsimp only)
          rw [im, ← eo2, i1, F1]
          by_cases h4 : o ≤ 1
          · rw [if_pos h4, if_pos h4]
          · rw [if_neg h4, if_neg h4, if_neg h2, if_neg h2, if_neg h3, if_neg h3, fw_up_id]
  · rw [if_neg hm]
    have eo2 : o = 0 := by rw [eo, if_pos (Int32.not_le.mp hm)]
    unfold mf_Mo_replace_0_j14 mf_Mo_replace_0_j15 mf_Mo_replace_0_j16 mf_Mo_replace_0_j17 mf_Mo_replace_0_j18 mf_Mo_replace_0_j19 mf_Mo_replace_0_j20 mf_Mo_replace_0_j21
    (try dsimp only)
    rw [i0, i1, F0, F1, eo2, if_pos (show (0 : Int32) ≤ 0 by decide), if_pos (show (0 : Int32) ≤ 1 by decide)]
theorem rp_v_0 {w : fw_V} {s j : Nat} (hs : s < 3) (hj : j < 2) : mf_Mo_replace_0 w (nI s) 46 0 (0 + 2 * s + j) = FM_0 w s j := by
  rw [rp_ex_0 hs]
  rcases (show j = 0 ∨ j = 1 by omega) with rfl | rfl
  · rw [fw_up_k (by omega), Nat.add_zero, fw_up_s]
  · rw [fw_up_s]
theorem rp_o_0 {w : fw_V} {s c i k : Nat} (hs : s < 3) (h : ¬ (c = 46 ∧ i = 0 ∧ (k = 0 + 2 * s ∨ k = 0 + 2 * s + 1))) : mf_Mo_replace_0 w (nI s) c i k = w c i k := by
  rw [rp_ex_0 hs, fw_up_ne (fun q => h ⟨q.1, q.2.1, Or.inr q.2.2⟩), fw_up_ne (fun q => h ⟨q.1, q.2.1, Or.inl q.2.2⟩)]
theorem FM_cg_0 {w w' : fw_V} {s j : Nat} (h : ∀ c k, c = 42 ∨ c = 2 ∨ c = 40 ∨ c = 41 ∨ (c = 46 ∧ k = 0 + 2 * s + j) → w' c 0 k = w c 0 k) : FM_0 w' s j = FM_0 w s j := by
  have h42 : ∀ k, w' 42 0 k = w 42 0 k := fun k => h 42 k (by omega)
  have h2 : ∀ k, w' 2 0 k = w 2 0 k := fun k => h 2 k (by omega)
  have h40 : ∀ k, w' 40 0 k = w 40 0 k := fun k => h 40 k (by omega)
  have h41 : ∀ k, w' 41 0 k = w 41 0 k := fun k => h 41 k (by omega)
  unfold FM_0
  simp only [h42, h2, h40, h41, h 46 (0 + 2 * s + j) (by omega)]
theorem rp_3_0 {w : fw_V} : (∀ s j, s < 3 → j < 2 → mf_Mo_replace_0 (mf_Mo_replace_0 (mf_Mo_replace_0 w 0) 1) 2 46 0 (0 + 2 * s + j) = FM_0 w s j) ∧ ∀ c i k, ¬ (c = 46 ∧ i = 0 ∧ 0 ≤ k ∧ k < 0 + 6) → mf_Mo_replace_0 (mf_Mo_replace_0 (mf_Mo_replace_0 w 0) 1) 2 c i k = w c i k := by
  have e0 : (0 : Int32) = nI 0 := rfl
  have e1 : (1 : Int32) = nI 1 := rfl
  have e2 : (2 : Int32) = nI 2 := rfl
  rw [e0, e1, e2]
  refine ⟨fun s j hs hj => ?_, fun c i k h => ?_⟩
  · rcases (show s = 0 ∨ s = 1 ∨ s = 2 by omega) with rfl | rfl | rfl
    · rw [rp_o_0 (by decide) (by omega), rp_o_0 (by decide) (by omega)]
      exact rp_v_0 (by decide) hj
    · rw [rp_o_0 (by decide) (by omega), rp_v_0 (by decide) hj]
      exact FM_cg_0 (fun c k h => rp_o_0 (by decide) (by omega))
    · rw [rp_v_0 (by decide) hj]
      refine FM_cg_0 (fun c k h => ?_)
      rw [rp_o_0 (by decide) (by omega), rp_o_0 (by decide) (by omega)]
  · rw [rp_o_0 (by decide) (by omega), rp_o_0 (by decide) (by omega), rp_o_0 (by decide) (by omega)]
/-- both show the same -/
theorem FXM_0 {v w : fw_V} {s j : Nat} (hK : Kd v w) (hs : s < 3) (hj : j < 2) (hm : v 23 0 s = w 42 0 (0 + s)) (h8 : vp_in (w 42 0 (0 + s) + 1) 9) (hf : v 19 0 6 = w 40 0 0) (ho : v 19 0 7 = w 41 0 0) (hb : vp_in (w 40 0 0) 3) (hsh : v 25 0 (2 * s + j) = w 46 0 (0 + 2 * s + j)) : FX v 0 s j = FM_0 w s j := by
  unfold FX FM_0
  rw [hm, KT_outs hK h8, hf, ho, hsh]
  obtain ⟨b, h3, eb⟩ := vp_in_of hb (by decide)
  rw [eb]
  generalize (if w 42 0 (0 + s) < 0 then (0 : Int32) else w 2 0 (w 42 0 (0 + s)).toNatClampNeg) = o
  by_cases h1 : o ≤ nI j
  · rw [if_pos h1, if_pos h1]
  · rw [if_neg h1, if_neg h1]
    rcases (show b = 0 ∨ b = 1 ∨ b = 2 by omega) with rfl | rfl | rfl
    · rfl
    · rw [if_neg (show ¬ nI 1 = 0 by decide), if_neg (show ¬ nI 1 = 0 by decide), if_pos (show nI 1 = 1 by decide), if_neg (show ¬ nI 1 = 2 by decide)]
    · rw [if_neg (show ¬ nI 2 = 0 by decide), if_neg (show ¬ nI 2 = 0 by decide), if_neg (show ¬ nI 2 = 1 by decide), if_pos (show nI 2 = 2 by decide)]

theorem Dv_send_1 {v w : fw_V} {a b c d a' b' c' d' : Int32} (h : Dv 1 v w) : Dv 1 (xf_Wi_send v a b c d).2 (mf_Mo_send w a' b' c' d') := Dv_cg h (fun c k h1 h2 => xsend_c (by omega) (by omega) (by omega)) (fun k => xsend_c (by decide) (by decide) (by decide)) (fun c k h1 h2 => msend_c (by omega) (by omega) (by omega) (by omega) (by omega) (by omega) (by omega))
theorem Di_send_1 {v w : fw_V} {a b c d a' b' c' d' : Int32} (h : Di 1 v w) : Di 1 (xf_Wi_send v a b c d).2 (mf_Mo_send w a' b' c' d') := Di_cg h (xsend_c (by decide) (by decide) (by decide)) (fun c k h1 h2 => msend_c (by omega) (by omega) (by omega) (by omega) (by omega) (by omega) (by omega))
/-- what the reference shows behind a SUBSTITUTE -/
def FM_1 (w : fw_V) (s j : Nat) : Int32 := if (if w 42 0 (3 + s) < 0 then 0 else w 2 0 (w 42 0 (3 + s)).toNatClampNeg) ≤ nI j then 0 else if w 40 0 1 = 0 then 0 else if w 40 0 1 = 2 then w 41 0 1 else w 46 0 (6 + 2 * s + j)
theorem rp_ex_1 {w : fw_V} {s : Nat} (hs : s < 3) : mf_Mo_replace_1 w (nI s) = fw_up (fw_up w 46 0 (6 + 2 * s) (FM_1 w s 0)) 46 0 (6 + 2 * s + 1) (FM_1 w s 1) := by
  have i0 : ((((6 : Int32) + ((2 : Int32) * nI s)) + (0 : Int32)).toNatClampNeg) = 6 + 2 * s := by
    rcases (show s = 0 ∨ s = 1 ∨ s = 2 by omega) with rfl | rfl | rfl <;> decide
  have i1 : ((((6 : Int32) + ((2 : Int32) * nI s)) + (1 : Int32)).toNatClampNeg) = 6 + 2 * s + 1 := by
    rcases (show s = 0 ∨ s = 1 ∨ s = 2 by omega) with rfl | rfl | rfl <;> decide
  have im : ((3 : Int32) + nI s).toNatClampNeg = 3 + s := by
    rcases (show s = 0 ∨ s = 1 ∨ s = 2 by omega) with rfl | rfl | rfl <;> decide
  obtain ⟨o, eo⟩ : ∃ o : Int32, o = (if w 42 0 (3 + s) < 0 then 0 else w 2 0 (w 42 0 (3 + s)).toNatClampNeg) := ⟨_, rfl⟩
  have F0 : FM_1 w s 0 = if o ≤ 0 then 0 else if w 40 0 1 = 0 then 0 else if w 40 0 1 = 2 then w 41 0 1 else w 46 0 (6 + 2 * s) := by
    rw [eo]; rfl
  have F1 : FM_1 w s 1 = if o ≤ 1 then 0 else if w 40 0 1 = 0 then 0 else if w 40 0 1 = 2 then w 41 0 1 else w 46 0 (6 + 2 * s + 1) := by
    rw [eo]; rfl
  have k46 : ∀ (u : fw_V) (k : Nat) (x : Int32) (c k' : Nat), c ≠ 46 → fw_up u 46 0 k x c 0 k' = u c 0 k' := fun u k x c k' hc => fw_up_c hc
  unfold mf_Mo_replace_1
  rw [im]
  by_cases hm : (0 : Int32) ≤ w 42 0 (3 + s)
  · rw [if_pos hm]
    have eo2 : o = w 2 0 (w 42 0 (3 + s)).toNatClampNeg := by rw [eo, if_neg (Int32.not_lt.mpr hm)]
    have j4 : ∀ u : fw_V, (∀ c k, c ≠ 46 → u c 0 k = w c 0 k) → u 46 0 (6 + 2 * s + 1) = w 46 0 (6 + 2 * s + 1) → mf_Mo_replace_1_j4 u (nI s) o = fw_up u 46 0 (6 + 2 * s + 1) (FM_1 w s 1) := by
      intro u hu h46
      unfold mf_Mo_replace_1_j4 mf_Mo_replace_1_j5 mf_Mo_replace_1_j6 mf_Mo_replace_1_j7 mf_Mo_replace_1_j8
      (try dsimp only)
      rw [F1, i1, hu 40 _ (by decide), hu 41 _ (by decide)]
      by_cases h1 : o ≤ 1
      · rw [if_pos h1, if_pos h1]
      · rw [if_neg h1, if_neg h1]
        by_cases h2 : w 40 0 1 = 0
        · rw [if_pos h2, if_pos h2]
        · rw [if_neg h2, if_neg h2]
          by_cases h3 : w 40 0 1 = 2
          · rw [if_pos h3, if_pos h3]
          · rw [if_neg h3, if_neg h3, ← h46, fw_up_id]
    unfold mf_Mo_replace_1_j1 mf_Mo_replace_1_j2 mf_Mo_replace_1_j3
    (try dsimp only)
    rw [im, ← eo2, i0, F0]
    by_cases h1 : o ≤ 0
    · rw [if_pos h1, if_pos h1, j4 _ (fun c k hc => fw_up_c hc) (fw_up_k (by omega))]
    · rw [if_neg h1, if_neg h1]
      by_cases h2 : w 40 0 1 = 0
      · rw [if_pos h2, if_pos h2, j4 _ (fun c k hc => fw_up_c hc) (fw_up_k (by omega))]
      · rw [if_neg h2, if_neg h2]
        by_cases h3 : w 40 0 1 = 2
        · rw [if_pos h3, if_pos h3, j4 _ (fun c k hc => fw_up_c hc) (fw_up_k (by omega))]
        · rw [if_neg h3, if_neg h3, fw_up_id]
          unfold mf_Mo_replace_1_j9 mf_Mo_replace_1_j10 mf_Mo_replace_1_j11 mf_Mo_replace_1_j12 mf_Mo_replace_1_j13 mf_Mo_replace_1_j7 mf_Mo_replace_1_j8
          (try dsimp only)
          rw [im, ← eo2, i1, F1]
          by_cases h4 : o ≤ 1
          · rw [if_pos h4, if_pos h4]
          · rw [if_neg h4, if_neg h4, if_neg h2, if_neg h2, if_neg h3, if_neg h3, fw_up_id]
  · rw [if_neg hm]
    have eo2 : o = 0 := by rw [eo, if_pos (Int32.not_le.mp hm)]
    unfold mf_Mo_replace_1_j14 mf_Mo_replace_1_j15 mf_Mo_replace_1_j16 mf_Mo_replace_1_j17 mf_Mo_replace_1_j18 mf_Mo_replace_1_j19 mf_Mo_replace_1_j20 mf_Mo_replace_1_j21
    (try dsimp only)
    rw [i0, i1, F0, F1, eo2, if_pos (show (0 : Int32) ≤ 0 by decide), if_pos (show (0 : Int32) ≤ 1 by decide)]
theorem rp_v_1 {w : fw_V} {s j : Nat} (hs : s < 3) (hj : j < 2) : mf_Mo_replace_1 w (nI s) 46 0 (6 + 2 * s + j) = FM_1 w s j := by
  rw [rp_ex_1 hs]
  rcases (show j = 0 ∨ j = 1 by omega) with rfl | rfl
  · rw [fw_up_k (by omega), Nat.add_zero, fw_up_s]
  · rw [fw_up_s]
theorem rp_o_1 {w : fw_V} {s c i k : Nat} (hs : s < 3) (h : ¬ (c = 46 ∧ i = 0 ∧ (k = 6 + 2 * s ∨ k = 6 + 2 * s + 1))) : mf_Mo_replace_1 w (nI s) c i k = w c i k := by
  rw [rp_ex_1 hs, fw_up_ne (fun q => h ⟨q.1, q.2.1, Or.inr q.2.2⟩), fw_up_ne (fun q => h ⟨q.1, q.2.1, Or.inl q.2.2⟩)]
theorem FM_cg_1 {w w' : fw_V} {s j : Nat} (h : ∀ c k, c = 42 ∨ c = 2 ∨ c = 40 ∨ c = 41 ∨ (c = 46 ∧ k = 6 + 2 * s + j) → w' c 0 k = w c 0 k) : FM_1 w' s j = FM_1 w s j := by
  have h42 : ∀ k, w' 42 0 k = w 42 0 k := fun k => h 42 k (by omega)
  have h2 : ∀ k, w' 2 0 k = w 2 0 k := fun k => h 2 k (by omega)
  have h40 : ∀ k, w' 40 0 k = w 40 0 k := fun k => h 40 k (by omega)
  have h41 : ∀ k, w' 41 0 k = w 41 0 k := fun k => h 41 k (by omega)
  unfold FM_1
  simp only [h42, h2, h40, h41, h 46 (6 + 2 * s + j) (by omega)]
theorem rp_3_1 {w : fw_V} : (∀ s j, s < 3 → j < 2 → mf_Mo_replace_1 (mf_Mo_replace_1 (mf_Mo_replace_1 w 0) 1) 2 46 0 (6 + 2 * s + j) = FM_1 w s j) ∧ ∀ c i k, ¬ (c = 46 ∧ i = 0 ∧ 6 ≤ k ∧ k < 6 + 6) → mf_Mo_replace_1 (mf_Mo_replace_1 (mf_Mo_replace_1 w 0) 1) 2 c i k = w c i k := by
  have e0 : (0 : Int32) = nI 0 := rfl
  have e1 : (1 : Int32) = nI 1 := rfl
  have e2 : (2 : Int32) = nI 2 := rfl
  rw [e0, e1, e2]
  refine ⟨fun s j hs hj => ?_, fun c i k h => ?_⟩
  · rcases (show s = 0 ∨ s = 1 ∨ s = 2 by omega) with rfl | rfl | rfl
    · rw [rp_o_1 (by decide) (by omega), rp_o_1 (by decide) (by omega)]
      exact rp_v_1 (by decide) hj
    · rw [rp_o_1 (by decide) (by omega), rp_v_1 (by decide) hj]
      exact FM_cg_1 (fun c k h => rp_o_1 (by decide) (by omega))
    · rw [rp_v_1 (by decide) hj]
      refine FM_cg_1 (fun c k h => ?_)
      rw [rp_o_1 (by decide) (by omega), rp_o_1 (by decide) (by omega)]
  · rw [rp_o_1 (by decide) (by omega), rp_o_1 (by decide) (by omega), rp_o_1 (by decide) (by omega)]
/-- both show the same -/
theorem FXM_1 {v w : fw_V} {s j : Nat} (hK : Kd v w) (hs : s < 3) (hj : j < 2) (hm : v 23 1 s = w 42 0 (3 + s)) (h8 : vp_in (w 42 0 (3 + s) + 1) 9) (hf : v 19 1 6 = w 40 0 1) (ho : v 19 1 7 = w 41 0 1) (hb : vp_in (w 40 0 1) 3) (hsh : v 25 1 (2 * s + j) = w 46 0 (6 + 2 * s + j)) : FX v 1 s j = FM_1 w s j := by
  unfold FX FM_1
  rw [hm, KT_outs hK h8, hf, ho, hsh]
  obtain ⟨b, h3, eb⟩ := vp_in_of hb (by decide)
  rw [eb]
  generalize (if w 42 0 (3 + s) < 0 then (0 : Int32) else w 2 0 (w 42 0 (3 + s)).toNatClampNeg) = o
  by_cases h1 : o ≤ nI j
  · rw [if_pos h1, if_pos h1]
  · rw [if_neg h1, if_neg h1]
    rcases (show b = 0 ∨ b = 1 ∨ b = 2 by omega) with rfl | rfl | rfl
    · rfl
    · rw [if_neg (show ¬ nI 1 = 0 by decide), if_neg (show ¬ nI 1 = 0 by decide), if_pos (show nI 1 = 1 by decide), if_neg (show ¬ nI 1 = 2 by decide)]
    · rw [if_neg (show ¬ nI 2 = 0 by decide), if_neg (show ¬ nI 2 = 0 by decide), if_neg (show ¬ nI 2 = 1 by decide), if_pos (show nI 2 = 2 by decide)]

def DB_0 (v w : fw_V) : Prop := (Dv 0 v w) ∧ (Di 0 v w) ∧ (Wr v w) ∧ (At w)
theorem DB_0.dv {v w : fw_V} (h : DB_0 v w) : Dv 0 v w := h.1
theorem DB_0.di {v w : fw_V} (h : DB_0 v w) : Di 0 v w := h.2.1
theorem DB_0.wr {v w : fw_V} (h : DB_0 v w) : Wr v w := h.2.2.1
theorem DB_0.at {v w : fw_V} (h : DB_0 v w) : At w := h.2.2.2
theorem Dv_sh_0 {v w v' w' : fw_V} (h : Dv 0 v w) (hv : ∀ c k, 19 ≤ c → c ≤ 27 → c ≠ 25 → v' c 0 k = v c 0 k) (h14 : ∀ k, v' 14 (0 + 2) k = v 14 (0 + 2) k) (hw : ∀ c k, 28 ≤ c → c ≤ 48 → c ≠ 46 → w' c 0 k = w c 0 k) (hs : ∀ i, i < 6 → v' 25 0 i = w' 46 0 (6 * 0 + i)) : Dv 0 v' w' := by
  unfold Dv at h ⊢
  simp only [hv 19 _ (by decide) (by decide) (by decide), hv 20 _ (by decide) (by decide) (by decide), hv 21 _ (by decide) (by decide) (by decide), hv 22 _ (by decide) (by decide) (by decide), hv 23 _ (by decide) (by decide) (by decide), hv 24 _ (by decide) (by decide) (by decide), hv 26 _ (by decide) (by decide) (by decide), hv 27 _ (by decide) (by decide) (by decide), h14, hw 28 _ (by decide) (by decide) (by decide), hw 29 _ (by decide) (by decide) (by decide), hw 30 _ (by decide) (by decide) (by decide), hw 31 _ (by decide) (by decide) (by decide), hw 32 _ (by decide) (by decide) (by decide), hw 33 _ (by decide) (by decide) (by decide), hw 34 _ (by decide) (by decide) (by decide), hw 35 _ (by decide) (by decide) (by decide), hw 36 _ (by decide) (by decide) (by decide), hw 37 _ (by decide) (by decide) (by decide), hw 38 _ (by decide) (by decide) (by decide), hw 39 _ (by decide) (by decide) (by decide), hw 40 _ (by decide) (by decide) (by decide), hw 41 _ (by decide) (by decide) (by decide), hw 42 _ (by decide) (by decide) (by decide), hw 43 _ (by decide) (by decide) (by decide), hw 44 _ (by decide) (by decide) (by decide), hw 45 _ (by decide) (by decide) (by decide), hw 47 _ (by decide) (by decide) (by decide), hw 48 _ (by decide) (by decide) (by decide)]
  obtain ⟨a1, a2, a3, a4, a5, a6, a7, a8, a9, a10, a11, a12, a13, a14, a15, a16, a17, a18, a19, a20, a21, a22⟩ := h
  exact ⟨a1, a2, a3, a4, a5, a6, a7, a8, a9, a10, a11, a12, a13, a14, a15, a16, a17, a18, a19, a20, a21, hs⟩
theorem Di_sh_0 {v w v' w' : fw_V} (h : Di 0 v w) (hv : v' 20 0 4 = v 20 0 4) (hw : ∀ c k, 28 ≤ c → c ≤ 48 → c ≠ 46 → w' c 0 k = w c 0 k) : Di 0 v' w' := by
  unfold Di at h ⊢
  simp only [hv, hw 28 _ (by decide) (by decide) (by decide), hw 29 _ (by decide) (by decide) (by decide), hw 31 _ (by decide) (by decide) (by decide), hw 32 _ (by decide) (by decide) (by decide), hw 33 _ (by decide) (by decide) (by decide), hw 34 _ (by decide) (by decide) (by decide), hw 35 _ (by decide) (by decide) (by decide), hw 36 _ (by decide) (by decide) (by decide), hw 37 _ (by decide) (by decide) (by decide), hw 39 _ (by decide) (by decide) (by decide), hw 40 _ (by decide) (by decide) (by decide), hw 42 _ (by decide) (by decide) (by decide), hw 43 _ (by decide) (by decide) (by decide), hw 44 _ (by decide) (by decide) (by decide), hw 47 _ (by decide) (by decide) (by decide)]
  exact h
/-- what rest sets -/
def RS_0 (w : fw_V) : fw_V := mf_Mo_rest_0_j1 w
theorem rest_eq_0 (w : fw_V) : mf_Mo_rest_0 w = if w 28 0 0 = 3 then mf_Mo_replace_0 (mf_Mo_replace_0 (mf_Mo_replace_0 (RS_0 w) 0) 1) 2 else RS_0 w := rfl
theorem idle_eq_0 (v : fw_V) : xf_De_becomeIdle v 0 = if v 19 0 11 = 3 then xf_De_becomeIdle_j1 (xf_De_showFallback (xf_De_showFallback (xf_De_showFallback v 0 0) 0 1) 0 2) 0 else xf_De_becomeIdle_j1 v 0 := rfl
theorem RS_c_0 {w : fw_V} {c k : Nat} (h : ¬ ((c = 28 ∨ c = 29 ∨ c = 31 ∨ c = 32 ∨ c = 37 ∨ c = 36 ∨ c = 43 ∨ c = 44))) : RS_0 w c 0 k = w c 0 k := by
  unfold RS_0 mf_Mo_rest_0_j1 mf_Mo_rest_0_j2
  (try dsimp only)
  rw [fw_up_c (by omega), fw_up_c (by omega), fw_up_c (by omega), fw_up_c (by omega), fw_up_c (by omega), fw_up_c (by omega), fw_up_c (by omega), fw_up_c (by omega), fw_up_c (by omega), fw_up_c (by omega), fw_up_c (by omega), fw_up_c (by omega)]
theorem J1_pt_0 {u v : fw_V} {c i k : Nat} (h : u c i k = v c i k) : xf_De_becomeIdle_j1 u 0 c i k = xf_De_becomeIdle_j1 v 0 c i k := by
  unfold xf_De_becomeIdle_j1 xf_AQ_clear
  simp only [fw_up, fw_row, h]
theorem J1_c_0 {v : fw_V} {c i k : Nat} (h : c ≠ 19 ∧ c ≠ 20 ∧ c ≠ 27) : xf_De_becomeIdle_j1 v 0 c i k = v c i k := by
  unfold xf_De_becomeIdle_j1 xf_AQ_clear
  simp [fw_up, fw_row, h]
/-- IDLE again -/
theorem De_reset_0 {v w : fw_V} (h : Dv 0 v w) (hsb : vp_in (w 40 0 0) 3) (hm : ∀ s, s < 3 → vp_in (w 42 0 (3 * 0 + s) + 1) 9) (ha : ∀ j, j < 4 → vp_in (w 47 0 (4 * 0 + j)) 3) : Dv 0 (xf_De_becomeIdle_j1 v 0) (RS_0 w) ∧ Di 0 (xf_De_becomeIdle_j1 v 0) (RS_0 w) := by
  unfold RS_0 mf_Mo_rest_0_j1 mf_Mo_rest_0_j2 xf_De_becomeIdle_j1 xf_AQ_clear
  constructor
  · refine ⟨?_, ?_, ?_, ?_, ?_, ?_, ?_, ?_, ?_, ?_, ?_, ?_, ?_, ?_, ?_, ?_, ?_, ?_, ?_, fun s hs => ?_, ?_, ?_⟩
    · simp [fw_up, fw_row]; exact h.ix
    · simp [fw_up, fw_row]; exact h.nm
    · simp [fw_up, fw_row]; exact h.fb
    · simp [fw_up, fw_row]; exact h.oc
    · simp [fw_up, fw_row]
    · simp [fw_up, fw_row]
    · simp [fw_up, fw_row]
    · simp [fw_up, fw_row]
    · simp [fw_up, fw_row]
    · simp [fw_up, fw_row]
    · simp [fw_up, fw_row]
    · simp [fw_up, fw_row]
    · simp [fw_up, fw_row]
    · simp [fw_up, fw_row]
    · simp [fw_up, fw_row]
    · simp [fw_up, fw_row]; simpa using h.sl
    · simp [fw_up, fw_row]; simpa using h.sk
    · simp [fw_up, fw_row]; simpa using h.mo
    · simp [fw_up, fw_row]
    · rcases (show s = 0 ∨ s = 1 ∨ s = 2 by omega) with rfl | rfl | rfl <;> simp [fw_up, fw_row]
    · simp [fw_up, fw_row]; simpa using h.sn
    · simp [fw_up, fw_row]; simpa using h.sh
  · refine ⟨?_, fun _ => ⟨?_, ?_, ?_, fun s hs => ?_⟩, fun _ => ⟨?_, ?_, ?_⟩, ?_, ?_, ?_, ?_, ?_, ?_, ?_, ?_, ?_, fun s hs => ?_, ?_, ?_, ?_, ?_⟩
    · simp [fw_up]; exact fw_inc (by decide)
    · simp [fw_up]
    · simp [fw_up]
    · simp [fw_up]
    · rcases (show s = 0 ∨ s = 1 ∨ s = 2 by omega) with rfl | rfl | rfl <;> simp [fw_up]
    · simp [fw_up]
    · simp [fw_up]
    · simp [fw_up, fw_row]
    · simp [fw_up]
    · simp [fw_up]
    · simp [fw_up]
    · simp [fw_up]
    · simp [fw_up]
    · simp [fw_up]; exact fw_inc (by decide)
    · simp [fw_up]
    · simp [fw_up]
    · simp [fw_up]
    · left
      rcases (show s = 0 ∨ s = 1 ∨ s = 2 by omega) with rfl | rfl | rfl <;> simp [fw_up]
    · simp [fw_up]; exact hsb
    · simp [fw_up]; simpa using hm
    · simp [fw_up]
    · simp [fw_up]; simpa using ha
theorem De_rest_0 {v w : fw_V} (h : Dv 0 v w) (hsb : vp_in (w 40 0 0) 3) (hm : ∀ s, s < 3 → vp_in (w 42 0 (3 * 0 + s) + 1) 9) (ha : ∀ j, j < 4 → vp_in (w 47 0 (4 * 0 + j)) 3) (hK : Kd v w) (hW : Wr v w) (h9 : At w) : DB_0 (xf_De_becomeIdle v 0) (mf_Mo_rest_0 w) := by
  obtain ⟨d1, d2⟩ := De_reset_0 h hsb hm ha
  have wr1 : Wr (xf_De_becomeIdle_j1 v 0) (RS_0 w) := Wr_cg hW (fun c i k q1 q2 => J1_c_0 (by omega)) ⟨RS_c_0 (by omega), RS_c_0 (by omega), RS_c_0 (by omega)⟩ (fun c k q1 q2 => RS_c_0 (by omega))
  have at1 : At (RS_0 w) := fun t ht => by rw [RS_c_0 (by omega)]; exact h9 t ht
  rw [rest_eq_0, idle_eq_0, h.st]
  by_cases h3 : w 28 0 0 = 3
  · rw [if_pos h3, if_pos h3]
    obtain ⟨s1, s2⟩ := sf_3 (v := v) (r := 0)
    obtain ⟨p1, p2⟩ := rp_3_0 (w := RS_0 w)
    refine ⟨?_, ?_, ?_, ?_⟩
    · refine Dv_sh_0 d1 (fun c k q1 q2 q3 => J1_pt_0 (s2 c 0 k (by omega))) (fun k => J1_pt_0 (s2 14 _ k (by omega))) (fun c k q1 q2 q3 => p2 c 0 k (by omega)) (fun i hi => ?_)
      obtain ⟨s, j, hs, hj, rfl⟩ : ∃ s j, s < 3 ∧ j < 2 ∧ i = 2 * s + j := ⟨i / 2, i % 2, by omega, by omega, by omega⟩
      rw [J1_c_0 (by decide), s1 s j hs hj, show 6 * 0 + (2 * s + j) = 0 + 2 * s + j by omega, p1 s j hs hj, FM_cg_0 (w := w) (fun c k hc => RS_c_0 (by omega))]
      exact FXM_0 hK hs hj (by rw [show 0 + s = 3 * 0 + s by omega]; exact h.mo s hs) (by rw [show 0 + s = 3 * 0 + s by omega]; exact hm s hs) h.fb h.oc hsb (by rw [show 0 + 2 * s + j = 6 * 0 + (2 * s + j) by omega]; exact h.sh _ (by omega))
    · exact Di_sh_0 d2 (J1_pt_0 (s2 20 0 4 (by omega))) (fun c k q1 q2 q3 => p2 c 0 k (by omega))
    · exact Wr_cg wr1 (fun c i k q1 q2 => J1_pt_0 (s2 c i k (by omega))) ⟨p2 0 0 10 (by omega), p2 0 0 50 (by omega), p2 0 0 51 (by omega)⟩ (fun c k q1 q2 => p2 c 0 k (by omega))
    · exact fun t ht => by rw [p2 9 0 t (by omega)]; exact at1 t ht
  · rw [if_neg h3, if_neg h3]
    exact ⟨d1, d2, wr1, at1⟩
theorem Kd_send_0 {v w : fw_V} {a b c d a' b' c' d' : Int32} (h : Kd v w) : Kd (xf_Wi_send v a b c d).2 (mf_Mo_send w a' b' c' d') := ⟨fun k hk => by rw [xsend_c (by decide) (by decide) (by decide), msend_c (by decide) (by decide) (by decide) (by decide) (by decide) (by decide) (by decide)]; exact h.ki k hk, fun k hk => by rw [xsend_c (by decide) (by decide) (by decide), msend_c (by decide) (by decide) (by decide) (by decide) (by decide) (by decide) (by decide)]; exact h.ko k hk, fun k hk => by rw [xsend_c (by decide) (by decide) (by decide), msend_c (by decide) (by decide) (by decide) (by decide) (by decide) (by decide) (by decide)]; exact h.kn k hk⟩
/-- ABORT is sent, it is IDLE -/
theorem De_quit_0 {v w : fw_V} (h : Dv 0 v w) (hsb : vp_in (w 40 0 0) 3) (hm : ∀ s, s < 3 → vp_in (w 42 0 (3 * 0 + s) + 1) 9) (ha : ∀ j, j < 4 → vp_in (w 47 0 (4 * 0 + j)) 3) (hK : Kd v w) (hW : Wr v w) (h9 : At w) : DB_0 (xf_De_abort v 0) (mf_Mo_quit_0 w) := by
  unfold xf_De_abort mf_Mo_quit_0 mf_Mo_reply_0
  have ms : ∀ c k, 10 ≤ c → mf_Mo_send w 16 (w 29 0 0) 0 2 c 0 k = w c 0 k := fun c k hc => msend_c (by omega) (by omega) (by omega) (by omega) (by omega) (by omega) (by omega)
  exact De_rest_0 (Dv_send_0 h) (by rw [ms 40 _ (by decide)]; exact hsb) (fun s hs => by rw [ms 42 _ (by decide)]; exact hm s hs) (fun j hj => by rw [ms 47 _ (by decide)]; exact ha j hj) (Kd_send_0 hK) (Wr_s0 hW h9 rfl h.se.symm rfl rfl) At_send

def DB_1 (v w : fw_V) : Prop := (Dv 1 v w) ∧ (Di 1 v w) ∧ (Wr v w) ∧ (At w)
theorem DB_1.dv {v w : fw_V} (h : DB_1 v w) : Dv 1 v w := h.1
theorem DB_1.di {v w : fw_V} (h : DB_1 v w) : Di 1 v w := h.2.1
theorem DB_1.wr {v w : fw_V} (h : DB_1 v w) : Wr v w := h.2.2.1
theorem DB_1.at {v w : fw_V} (h : DB_1 v w) : At w := h.2.2.2
theorem Dv_sh_1 {v w v' w' : fw_V} (h : Dv 1 v w) (hv : ∀ c k, 19 ≤ c → c ≤ 27 → c ≠ 25 → v' c 1 k = v c 1 k) (h14 : ∀ k, v' 14 (1 + 2) k = v 14 (1 + 2) k) (hw : ∀ c k, 28 ≤ c → c ≤ 48 → c ≠ 46 → w' c 0 k = w c 0 k) (hs : ∀ i, i < 6 → v' 25 1 i = w' 46 0 (6 * 1 + i)) : Dv 1 v' w' := by
  unfold Dv at h ⊢
  simp only [hv 19 _ (by decide) (by decide) (by decide), hv 20 _ (by decide) (by decide) (by decide), hv 21 _ (by decide) (by decide) (by decide), hv 22 _ (by decide) (by decide) (by decide), hv 23 _ (by decide) (by decide) (by decide), hv 24 _ (by decide) (by decide) (by decide), hv 26 _ (by decide) (by decide) (by decide), hv 27 _ (by decide) (by decide) (by decide), h14, hw 28 _ (by decide) (by decide) (by decide), hw 29 _ (by decide) (by decide) (by decide), hw 30 _ (by decide) (by decide) (by decide), hw 31 _ (by decide) (by decide) (by decide), hw 32 _ (by decide) (by decide) (by decide), hw 33 _ (by decide) (by decide) (by decide), hw 34 _ (by decide) (by decide) (by decide), hw 35 _ (by decide) (by decide) (by decide), hw 36 _ (by decide) (by decide) (by decide), hw 37 _ (by decide) (by decide) (by decide), hw 38 _ (by decide) (by decide) (by decide), hw 39 _ (by decide) (by decide) (by decide), hw 40 _ (by decide) (by decide) (by decide), hw 41 _ (by decide) (by decide) (by decide), hw 42 _ (by decide) (by decide) (by decide), hw 43 _ (by decide) (by decide) (by decide), hw 44 _ (by decide) (by decide) (by decide), hw 45 _ (by decide) (by decide) (by decide), hw 47 _ (by decide) (by decide) (by decide), hw 48 _ (by decide) (by decide) (by decide)]
  obtain ⟨a1, a2, a3, a4, a5, a6, a7, a8, a9, a10, a11, a12, a13, a14, a15, a16, a17, a18, a19, a20, a21, a22⟩ := h
  exact ⟨a1, a2, a3, a4, a5, a6, a7, a8, a9, a10, a11, a12, a13, a14, a15, a16, a17, a18, a19, a20, a21, hs⟩
theorem Di_sh_1 {v w v' w' : fw_V} (h : Di 1 v w) (hv : v' 20 1 4 = v 20 1 4) (hw : ∀ c k, 28 ≤ c → c ≤ 48 → c ≠ 46 → w' c 0 k = w c 0 k) : Di 1 v' w' := by
  unfold Di at h ⊢
  simp only [hv, hw 28 _ (by decide) (by decide) (by decide), hw 29 _ (by decide) (by decide) (by decide), hw 31 _ (by decide) (by decide) (by decide), hw 32 _ (by decide) (by decide) (by decide), hw 33 _ (by decide) (by decide) (by decide), hw 34 _ (by decide) (by decide) (by decide), hw 35 _ (by decide) (by decide) (by decide), hw 36 _ (by decide) (by decide) (by decide), hw 37 _ (by decide) (by decide) (by decide), hw 39 _ (by decide) (by decide) (by decide), hw 40 _ (by decide) (by decide) (by decide), hw 42 _ (by decide) (by decide) (by decide), hw 43 _ (by decide) (by decide) (by decide), hw 44 _ (by decide) (by decide) (by decide), hw 47 _ (by decide) (by decide) (by decide)]
  exact h
/-- what rest sets -/
def RS_1 (w : fw_V) : fw_V := mf_Mo_rest_1_j1 w
theorem rest_eq_1 (w : fw_V) : mf_Mo_rest_1 w = if w 28 0 1 = 3 then mf_Mo_replace_1 (mf_Mo_replace_1 (mf_Mo_replace_1 (RS_1 w) 0) 1) 2 else RS_1 w := rfl
theorem idle_eq_1 (v : fw_V) : xf_De_becomeIdle v 1 = if v 19 1 11 = 3 then xf_De_becomeIdle_j1 (xf_De_showFallback (xf_De_showFallback (xf_De_showFallback v 1 0) 1 1) 1 2) 1 else xf_De_becomeIdle_j1 v 1 := rfl
theorem RS_c_1 {w : fw_V} {c k : Nat} (h : ¬ ((c = 28 ∨ c = 29 ∨ c = 31 ∨ c = 32 ∨ c = 37 ∨ c = 36 ∨ c = 43 ∨ c = 44))) : RS_1 w c 0 k = w c 0 k := by
  unfold RS_1 mf_Mo_rest_1_j1 mf_Mo_rest_1_j2
  (try dsimp only)
  rw [fw_up_c (by omega), fw_up_c (by omega), fw_up_c (by omega), fw_up_c (by omega), fw_up_c (by omega), fw_up_c (by omega), fw_up_c (by omega), fw_up_c (by omega), fw_up_c (by omega), fw_up_c (by omega), fw_up_c (by omega), fw_up_c (by omega)]
theorem J1_pt_1 {u v : fw_V} {c i k : Nat} (h : u c i k = v c i k) : xf_De_becomeIdle_j1 u 1 c i k = xf_De_becomeIdle_j1 v 1 c i k := by
  unfold xf_De_becomeIdle_j1 xf_AQ_clear
  simp only [fw_up, fw_row, h]
theorem J1_c_1 {v : fw_V} {c i k : Nat} (h : c ≠ 19 ∧ c ≠ 20 ∧ c ≠ 27) : xf_De_becomeIdle_j1 v 1 c i k = v c i k := by
  unfold xf_De_becomeIdle_j1 xf_AQ_clear
  simp [fw_up, fw_row, h]
/-- IDLE again -/
theorem De_reset_1 {v w : fw_V} (h : Dv 1 v w) (hsb : vp_in (w 40 0 1) 3) (hm : ∀ s, s < 3 → vp_in (w 42 0 (3 * 1 + s) + 1) 9) (ha : ∀ j, j < 4 → vp_in (w 47 0 (4 * 1 + j)) 3) : Dv 1 (xf_De_becomeIdle_j1 v 1) (RS_1 w) ∧ Di 1 (xf_De_becomeIdle_j1 v 1) (RS_1 w) := by
  unfold RS_1 mf_Mo_rest_1_j1 mf_Mo_rest_1_j2 xf_De_becomeIdle_j1 xf_AQ_clear
  constructor
  · refine ⟨?_, ?_, ?_, ?_, ?_, ?_, ?_, ?_, ?_, ?_, ?_, ?_, ?_, ?_, ?_, ?_, ?_, ?_, ?_, fun s hs => ?_, ?_, ?_⟩
    · simp [fw_up, fw_row]; exact h.ix
    · simp [fw_up, fw_row]; exact h.nm
    · simp [fw_up, fw_row]; exact h.fb
    · simp [fw_up, fw_row]; exact h.oc
    · simp [fw_up, fw_row]
    · simp [fw_up, fw_row]
    · simp [fw_up, fw_row]
    · simp [fw_up, fw_row]
    · simp [fw_up, fw_row]
    · simp [fw_up, fw_row]
    · simp [fw_up, fw_row]
    · simp [fw_up, fw_row]
    · simp [fw_up, fw_row]
    · simp [fw_up, fw_row]
    · simp [fw_up, fw_row]
    · simp [fw_up, fw_row]; simpa using h.sl
    · simp [fw_up, fw_row]; simpa using h.sk
    · simp [fw_up, fw_row]; simpa using h.mo
    · simp [fw_up, fw_row]
    · rcases (show s = 0 ∨ s = 1 ∨ s = 2 by omega) with rfl | rfl | rfl <;> simp [fw_up, fw_row]
    · simp [fw_up, fw_row]; simpa using h.sn
    · simp [fw_up, fw_row]; simpa using h.sh
  · refine ⟨?_, fun _ => ⟨?_, ?_, ?_, fun s hs => ?_⟩, fun _ => ⟨?_, ?_, ?_⟩, ?_, ?_, ?_, ?_, ?_, ?_, ?_, ?_, ?_, fun s hs => ?_, ?_, ?_, ?_, ?_⟩
    · simp [fw_up]; exact fw_inc (by decide)
    · simp [fw_up]
    · simp [fw_up]
    · simp [fw_up]
    · rcases (show s = 0 ∨ s = 1 ∨ s = 2 by omega) with rfl | rfl | rfl <;> simp [fw_up]
    · simp [fw_up]
    · simp [fw_up]
    · simp [fw_up, fw_row]
    · simp [fw_up]
    · simp [fw_up]
    · simp [fw_up]
    · simp [fw_up]
    · simp [fw_up]
    · simp [fw_up]; exact fw_inc (by decide)
    · simp [fw_up]
    · simp [fw_up]
    · simp [fw_up]
    · left
      rcases (show s = 0 ∨ s = 1 ∨ s = 2 by omega) with rfl | rfl | rfl <;> simp [fw_up]
    · simp [fw_up]; exact hsb
    · simp [fw_up]; simpa using hm
    · simp [fw_up]
    · simp [fw_up]; simpa using ha
theorem De_rest_1 {v w : fw_V} (h : Dv 1 v w) (hsb : vp_in (w 40 0 1) 3) (hm : ∀ s, s < 3 → vp_in (w 42 0 (3 * 1 + s) + 1) 9) (ha : ∀ j, j < 4 → vp_in (w 47 0 (4 * 1 + j)) 3) (hK : Kd v w) (hW : Wr v w) (h9 : At w) : DB_1 (xf_De_becomeIdle v 1) (mf_Mo_rest_1 w) := by
  obtain ⟨d1, d2⟩ := De_reset_1 h hsb hm ha
  have wr1 : Wr (xf_De_becomeIdle_j1 v 1) (RS_1 w) := Wr_cg hW (fun c i k q1 q2 => J1_c_1 (by omega)) ⟨RS_c_1 (by omega), RS_c_1 (by omega), RS_c_1 (by omega)⟩ (fun c k q1 q2 => RS_c_1 (by omega))
  have at1 : At (RS_1 w) := fun t ht => by rw [RS_c_1 (by omega)]; exact h9 t ht
  rw [rest_eq_1, idle_eq_1, h.st]
  by_cases h3 : w 28 0 1 = 3
  · rw [if_pos h3, if_pos h3]
    obtain ⟨s1, s2⟩ := sf_3 (v := v) (r := 1)
    obtain ⟨p1, p2⟩ := rp_3_1 (w := RS_1 w)
    refine ⟨?_, ?_, ?_, ?_⟩
    · refine Dv_sh_1 d1 (fun c k q1 q2 q3 => J1_pt_1 (s2 c 1 k (by omega))) (fun k => J1_pt_1 (s2 14 _ k (by omega))) (fun c k q1 q2 q3 => p2 c 0 k (by omega)) (fun i hi => ?_)
      obtain ⟨s, j, hs, hj, rfl⟩ : ∃ s j, s < 3 ∧ j < 2 ∧ i = 2 * s + j := ⟨i / 2, i % 2, by omega, by omega, by omega⟩
      rw [J1_c_1 (by decide), s1 s j hs hj, show 6 * 1 + (2 * s + j) = 6 + 2 * s + j by omega, p1 s j hs hj, FM_cg_1 (w := w) (fun c k hc => RS_c_1 (by omega))]
      exact FXM_1 hK hs hj (by rw [show 3 + s = 3 * 1 + s by omega]; exact h.mo s hs) (by rw [show 3 + s = 3 * 1 + s by omega]; exact hm s hs) h.fb h.oc hsb (by rw [show 6 + 2 * s + j = 6 * 1 + (2 * s + j) by omega]; exact h.sh _ (by omega))
    · exact Di_sh_1 d2 (J1_pt_1 (s2 20 1 4 (by omega))) (fun c k q1 q2 q3 => p2 c 0 k (by omega))
    · exact Wr_cg wr1 (fun c i k q1 q2 => J1_pt_1 (s2 c i k (by omega))) ⟨p2 0 0 10 (by omega), p2 0 0 50 (by omega), p2 0 0 51 (by omega)⟩ (fun c k q1 q2 => p2 c 0 k (by omega))
    · exact fun t ht => by rw [p2 9 0 t (by omega)]; exact at1 t ht
  · rw [if_neg h3, if_neg h3]
    exact ⟨d1, d2, wr1, at1⟩
theorem Kd_send_1 {v w : fw_V} {a b c d a' b' c' d' : Int32} (h : Kd v w) : Kd (xf_Wi_send v a b c d).2 (mf_Mo_send w a' b' c' d') := ⟨fun k hk => by rw [xsend_c (by decide) (by decide) (by decide), msend_c (by decide) (by decide) (by decide) (by decide) (by decide) (by decide) (by decide)]; exact h.ki k hk, fun k hk => by rw [xsend_c (by decide) (by decide) (by decide), msend_c (by decide) (by decide) (by decide) (by decide) (by decide) (by decide) (by decide)]; exact h.ko k hk, fun k hk => by rw [xsend_c (by decide) (by decide) (by decide), msend_c (by decide) (by decide) (by decide) (by decide) (by decide) (by decide) (by decide)]; exact h.kn k hk⟩
/-- ABORT is sent, it is IDLE -/
theorem De_quit_1 {v w : fw_V} (h : Dv 1 v w) (hsb : vp_in (w 40 0 1) 3) (hm : ∀ s, s < 3 → vp_in (w 42 0 (3 * 1 + s) + 1) 9) (ha : ∀ j, j < 4 → vp_in (w 47 0 (4 * 1 + j)) 3) (hK : Kd v w) (hW : Wr v w) (h9 : At w) : DB_1 (xf_De_abort v 1) (mf_Mo_quit_1 w) := by
  unfold xf_De_abort mf_Mo_quit_1 mf_Mo_reply_1
  have ms : ∀ c k, 10 ≤ c → mf_Mo_send w 16 (w 29 0 1) 0 2 c 0 k = w c 0 k := fun c k hc => msend_c (by omega) (by omega) (by omega) (by omega) (by omega) (by omega) (by omega)
  exact De_rest_1 (Dv_send_1 h) (by rw [ms 40 _ (by decide)]; exact hsb) (fun s hs => by rw [ms 42 _ (by decide)]; exact hm s hs) (fun j hj => by rw [ms 47 _ (by decide)]; exact ha j hj) (Kd_send_1 hK) (Wr_s0 hW h9 rfl h.se.symm rfl rfl) At_send

theorem ob6_0 {w : fw_V} {n : Int32} : mf_Mo_obeys_0 w 6 n = if w 28 0 0 = 1 then mf_Mo_send (fw_up (fw_up w 44 0 (((0 : Int32) + n).toNatClampNeg) (w 10 0 0)) 32 0 0 0) 7 (w 29 0 0) n 2 else w := by
  unfold mf_Mo_obeys_0 mf_Mo_obeys_0_j57 mf_Mo_obeys_0_j58 mf_Mo_obeys_0_j59 mf_Mo_obeys_0_j60 mf_Mo_obeys_0_j61 mf_Mo_reply_0
  simp [fw_up]
theorem ob8_0 {w : fw_V} {n : Int32} : mf_Mo_obeys_0 w 8 n = if w 28 0 0 = 1 then mf_Mo_obeys_0_j35 w 8 n else if w 28 0 0 = 2 then mf_Mo_send w 9 (w 29 0 0) 0 2 else w := by
  unfold mf_Mo_obeys_0 mf_Mo_obeys_0_j1 mf_Mo_obeys_0_j2 mf_Mo_obeys_0_j3 mf_Mo_obeys_0_j4 mf_Mo_obeys_0_j5 mf_Mo_reply_0
  simp
theorem ob11_0 {w : fw_V} {n : Int32} : mf_Mo_obeys_0 w 11 n = if w 28 0 0 = 2 then fw_up (fw_up (fw_up (fw_up (fw_up (fw_up (fw_up w 28 0 0 3) 32 0 0 0) 34 0 0 0) 35 0 0 (-1)) 37 0 0 0) 36 0 0 0) 39 0 0 0 else w := by
  unfold mf_Mo_obeys_0 mf_Mo_obeys_0_j1 mf_Mo_obeys_0_j2 mf_Mo_obeys_0_j3 mf_Mo_obeys_0_j4 mf_Mo_obeys_0_j5
  simp
theorem ob12_0 {w : fw_V} {n : Int32} : mf_Mo_obeys_0 w 12 n = if w 28 0 0 = 3 then (if mf_Mo_isNewer n (w 35 0 0) = 0 then w else mf_Mo_obeys_0_j10 (fw_up (fw_up w 35 0 0 n) 32 0 0 0) 12 n) else w := by
  unfold mf_Mo_obeys_0 mf_Mo_obeys_0_j1 mf_Mo_obeys_0_j2 mf_Mo_obeys_0_j3 mf_Mo_obeys_0_j4 mf_Mo_obeys_0_j5
  simp
theorem ob15_0 {w : fw_V} {n : Int32} : mf_Mo_obeys_0 w 15 n = if w 28 0 0 = 3 then (if w 36 0 0 ≤ 0 then w else if w 36 0 0 = n then mf_Mo_obeys_0_j6 (fw_up (fw_up w 36 0 0 0) 37 0 0 (w 37 0 0 - 1)) 15 n else w) else w := by
  unfold mf_Mo_obeys_0 mf_Mo_obeys_0_j1 mf_Mo_obeys_0_j2 mf_Mo_obeys_0_j3 mf_Mo_obeys_0_j4 mf_Mo_obeys_0_j5
  simp [fw_up]
theorem ob16_0 {w : fw_V} {n : Int32} : mf_Mo_obeys_0 w 16 n = mf_Mo_rest_0 w := by
  unfold mf_Mo_obeys_0 mf_Mo_obeys_0_j1 mf_Mo_obeys_0_j2 mf_Mo_obeys_0_j3 mf_Mo_obeys_0_j4 mf_Mo_obeys_0_j5
  simp
theorem ob_no_0 {w : fw_V} {a n : Int32} (h6 : ¬ a = 6) (h8 : ¬ a = 8) (h11 : ¬ a = 11) (h12 : ¬ a = 12) (h15 : ¬ a = 15) (h16 : ¬ a = 16) : mf_Mo_obeys_0 w a n = w := by
  unfold mf_Mo_obeys_0 mf_Mo_obeys_0_j1 mf_Mo_obeys_0_j2 mf_Mo_obeys_0_j3 mf_Mo_obeys_0_j4 mf_Mo_obeys_0_j5
  simp [h6, h8, h11, h12, h15, h16]
/-- SEEK -/
theorem De_seek_0 {v w : fw_V} {n : Int32} (h : DB_0 v w) : DB_0 (xf_De_answerSeek v 0 n) (if w 30 0 0 = 0 then w else if w 30 0 0 = n then mf_Mo_send (fw_up w 9 0 0 n) 2 0 (0 : Int32) 2 else w) := by
  unfold xf_De_answerSeek
  rw [h.dv.nm]
  by_cases h0 : w 30 0 0 = 0
  · rw [if_pos h0, if_pos h0]; exact h
  · rw [if_neg h0, if_neg h0]
    by_cases hn : w 30 0 0 = n
    · rw [if_pos hn, if_pos hn.symm]
      (try dsimp only)
      obtain ⟨f, ef⟩ : ∃ f, f = (xf_Wi_send v 2 0 (v 19 0 0) 2).1 := ⟨_, rfl⟩
      obtain ⟨u, eu⟩ : ∃ u, u = (xf_Wi_send v 2 0 (v 19 0 0) 2).2 := ⟨_, rfl⟩
      rw [← ef, ← eu]
      have uc : ∀ c i k, c ≠ 5 → c ≠ 7 → c ≠ 8 → u c i k = v c i k := fun c i k a1 a2 a3 => by rw [eu]; exact xsend_c a1 a2 a3
      have u5 : u 19 0 5 = n := by rw [uc 19 0 5 (by decide) (by decide) (by decide), h.dv.nm]; exact hn
      rw [u5]
      have ms : ∀ c k, 10 ≤ c → mf_Mo_send (fw_up w 9 0 0 n) 2 0 (0 : Int32) 2 c 0 k = w c 0 k := fun c k hc => by rw [msend_c (by omega) (by omega) (by omega) (by omega) (by omega) (by omega) (by omega), fw_up_c (by omega)]
      refine ⟨Dv_cg h.dv (fun c k q1 q2 => by rw [fw_up_c (by omega), uc c 0 k (by omega) (by omega) (by omega)]) (fun k => by rw [fw_up_c (by decide), uc 14 _ k (by decide) (by decide) (by decide)]) (fun c k q1 q2 => ms c k (by omega)), Di_cg h.di (by rw [fw_up_c (by decide), uc 20 0 4 (by decide) (by decide) (by decide)]) (fun c k q1 q2 => ms c k (by omega)), ?_, At_send⟩
      refine Wr_sr_0 (w := w) h.wr (fun c k q1 q2 => fw_up_c q1) rfl rfl h.dv.ix.symm rfl (fun c' i k q => ?_) (fun t ht => ?_)
      · rw [← ef] at q
        rw [fw_up_ne (fun z => q ⟨z.1, z.2.1⟩), eu]
      · rw [← ef]
        by_cases z : t = 0
        · subst z; rw [fw_up_s, fw_up_s]
        · rw [fw_up_k z, fw_up_k z, h.at t ht, eu, ef]; exact xsend_8
    · rw [if_neg hn, if_neg (fun q => hn q.symm)]; exact h
/-- WRITE -/
theorem De_write_0 {v w : fw_V} {q : Nat} {n : Int32} (h : DB_0 v w) (f2 : v 7 q 2 = n) (f8 : v 8 q 0 = w 10 0 0) (h6 : vp_in n 3) (hp : ¬ w 10 0 0 < 0) : DB_0 (xf_De_keepParameter v 0 q) (mf_Mo_obeys_0 w 6 n) := by
  have hD := h.dv
  have hI := h.di
  unfold xf_De_keepParameter
  rw [ob6_0, h.dv.st, f2, f8]
  by_cases h1 : w 28 0 0 = 1
  · rw [if_pos h1, if_pos h1]
    obtain ⟨s, hs, es⟩ := vp_in_of h6 (by decide)
    have hsl : ¬ xf_FR_isSlot n = 0 := by
      rw [es]
      rcases (show s = 0 ∨ s = 1 ∨ s = 2 by omega) with rfl | rfl | rfl <;> decide
    have ie : ((0 : Int32) + n).toNatClampNeg = 3 * 0 + s := by
      rw [es]
      show (nI 0 + nI s).toNatClampNeg = _
      rw [nI_add, nI_clamp (by omega)]
    have ic : n.toNatClampNeg = s := by rw [es]; exact nI_clamp (by omega)
    (try dsimp only)
    rw [if_neg hsl, ie, ic]
    obtain ⟨v6, e6⟩ : ∃ v6, v6 = fw_up (fw_up v 27 0 s (w 10 0 0)) 19 0 16 0 := ⟨_, rfl⟩
    obtain ⟨w6, g6⟩ : ∃ w6, w6 = fw_up (fw_up w 44 0 (3 * 0 + s) (w 10 0 0)) 32 0 0 0 := ⟨_, rfl⟩
    rw [← e6, ← g6]
    have s6 : v6 19 0 12 = w 29 0 0 := by rw [e6, fw_up_k (by decide), fw_up_c (by decide)]; exact hD.se
    have n6 : v6 7 q 2 = n := by rw [e6, fw_up_c (by decide), fw_up_c (by decide)]; exact f2
    rw [s6, n6]
    have d6 : Dv 0 v6 w6 := by
      rw [e6, g6]
      refine ⟨?_, ?_, ?_, ?_, ?_, ?_, ?_, ?_, ?_, ?_, ?_, ?_, ?_, ?_, ?_, ?_, ?_, ?_, ?_, fun s' hs' => ?_, ?_, ?_⟩
      · simp [fw_up]; exact hD.ix
      · simp [fw_up]; exact hD.nm
      · simp [fw_up]; exact hD.fb
      · simp [fw_up]; exact hD.oc
      · simp [fw_up]; exact hD.st
      · simp [fw_up]; exact hD.se
      · simp [fw_up]; exact hD.di
      · simp [fw_up]
      · simp [fw_up]; exact hD.ag
      · simp [fw_up]; exact hD.ne
      · simp [fw_up]; exact hD.ta
      · simp [fw_up]; exact hD.qs
      · simp [fw_up]; exact hD.qw
      · simp [fw_up]; exact hD.qn
      · simp [fw_up]; exact hD.qt
      · simp [fw_up]; simpa using hD.sl
      · simp [fw_up]; simpa using hD.sk
      · simp [fw_up]; simpa using hD.mo
      · simp [fw_up]; simpa using hD.wa
      · by_cases z : s' = s
        · subst z; rw [fw_up_c (by decide), fw_up_s, fw_up_c (by decide), fw_up_s]
        · rw [fw_up_c (by decide), fw_up_k z, fw_up_c (by decide), fw_up_k (by omega)]; exact hD.wr s' hs'
      · simp [fw_up]; simpa using hD.sn
      · simp [fw_up]; simpa using hD.sh
    have i6 : Di 0 v6 w6 := by
      rw [e6, g6]
      have nq := hI.nq (by rw [h1]; decide)
      refine ⟨?_, ?_, ?_, ?_, ?_, ?_, ?_, ?_, ?_, ?_, ?_, ?_, fun s' hs' => ?_, ?_, ?_, ?_, ?_⟩
      · simp [fw_up]; exact hI.s4
      · simp [fw_up, h1]
      · simp [fw_up, h1]; exact nq
      · simp [fw_up]; intro; exact fw_inc (by decide)
      · simp [fw_up, h1]
      · simp [fw_up, h1]
      · simp [fw_up, h1]
      · simp [fw_up, h1]
      · simp [fw_up]; exact hI.q5
      · simp [fw_up, h1]
      · simp [fw_up, h1]
      · simp [fw_up, h1]
      · by_cases z : s' = s
        · subst z; rw [fw_up_c (by decide), fw_up_s]; exact Or.inr hp
        · rw [fw_up_c (by decide), fw_up_k (by omega)]; exact hI.wt s' hs'
      · simp [fw_up]; exact hI.sb
      · simp [fw_up]; simpa using hI.m8
      · simp [fw_up]; simpa using hI.w8
      · simp [fw_up]; simpa using hI.a3
    have wr6 : Wr v6 w6 := by
      rw [e6, g6]
      exact Wr_cg h.wr (fun c i k q1 q2 => by rw [fw_up_c (by omega), fw_up_c (by omega)]) ⟨by rw [fw_up_c (by decide), fw_up_c (by decide)], by rw [fw_up_c (by decide), fw_up_c (by decide)], by rw [fw_up_c (by decide), fw_up_c (by decide)]⟩ (fun c k q1 q2 => by rw [fw_up_c (by omega), fw_up_c (by omega)])
    have at6 : At w6 := fun t ht => by rw [g6, fw_up_c (by decide), fw_up_c (by decide)]; exact h.at t ht
    exact ⟨Dv_send_0 d6, Di_send_0 i6, Wr_s0 wr6 at6 rfl rfl rfl rfl, At_send⟩
  · rw [if_neg h1, if_neg h1]; exact h
/-- GO -/
theorem De_go_0 {v w : fw_V} {n : Int32} (h : DB_0 v w) : DB_0 (xf_De_beginData v 0) (mf_Mo_obeys_0 w 11 n) := by
  have hD := h.dv
  have hI := h.di
  unfold xf_De_beginData xf_Cy_restart
  rw [ob11_0, h.dv.st]
  by_cases h2 : w 28 0 0 = 2
  · rw [if_pos h2, if_pos h2]
    obtain ⟨q1, q2, q3⟩ := hI.nq (by rw [h2]; decide)
    (try dsimp only)
    refine ⟨?_, ?_, ?_, ?_⟩
    · refine ⟨?_, ?_, ?_, ?_, ?_, ?_, ?_, ?_, ?_, ?_, ?_, ?_, ?_, ?_, ?_, ?_, ?_, ?_, ?_, ?_, ?_, ?_⟩
      · simp [fw_up]; exact hD.ix
      · simp [fw_up]; exact hD.nm
      · simp [fw_up]; exact hD.fb
      · simp [fw_up]; exact hD.oc
      · simp [fw_up]
      · simp [fw_up]; exact hD.se
      · simp [fw_up]; exact hD.di
      · simp [fw_up]
      · simp [fw_up]
      · simp [fw_up]
      · simp [fw_up]
      · simp [fw_up]; rw [hD.qs]; exact q1
      · simp [fw_up]; rw [hD.qw]; exact q2
      · simp [fw_up]; exact q3
      · simp [fw_up]
      · simp [fw_up]; simpa using hD.sl
      · simp [fw_up]; simpa using hD.sk
      · simp [fw_up]; simpa using hD.mo
      · simp [fw_up]; simpa using hD.wa (by rw [h2]; decide)
      · simp [fw_up]; simpa using hD.wr
      · simp [fw_up]; simpa using hD.sn
      · simp [fw_up]; simpa using hD.sh
    · refine ⟨?_, ?_, ?_, ?_, ?_, ?_, ?_, ?_, ?_, ?_, ?_, ?_, ?_, ?_, ?_, ?_, ?_⟩
      · simp [fw_up]; exact fw_inc (by decide)
      · simp [fw_up]
      · simp [fw_up]
      · simp [fw_up]
      · simp [fw_up]
      · simp [fw_up]; exact fw_inc (by decide)
      · simp [fw_up]; exact fw_inc (by decide)
      · simp [fw_up]
      · simp [fw_up]; exact fw_inc (by decide)
      · simp [fw_up]; exact fw_inc (by decide)
      · simp [fw_up]; exact fw_inc (by decide)
      · simp [fw_up]
      · simp [fw_up]; simpa using hI.wt
      · simp [fw_up]; exact hI.sb
      · simp [fw_up]; simpa using hI.m8
      · simp [fw_up]; simpa using hI.w8 (by rw [h2]; decide)
      · simp [fw_up]; simpa using hI.a3
    · refine Wr_cg h.wr (fun c i k q1 q2 => ?_) ⟨?_, ?_, ?_⟩ (fun c k q1 q2 => ?_)
      · rw [fw_up_c (by omega), fw_up_c (by omega), fw_up_c (by omega), fw_up_c (by omega)]
      · simp [fw_up]
      · simp [fw_up]
      · simp [fw_up]
      · rw [fw_up_c (by omega), fw_up_c (by omega), fw_up_c (by omega), fw_up_c (by omega), fw_up_c (by omega), fw_up_c (by omega), fw_up_c (by omega)]
    · intro t ht
      simp [fw_up]
      exact h.at t ht
  · rw [if_neg h2, if_neg h2]; exact h

theorem ob6_1 {w : fw_V} {n : Int32} : mf_Mo_obeys_1 w 6 n = if w 28 0 1 = 1 then mf_Mo_send (fw_up (fw_up w 44 0 (((3 : Int32) + n).toNatClampNeg) (w 10 0 0)) 32 0 1 0) 7 (w 29 0 1) n 2 else w := by
  unfold mf_Mo_obeys_1 mf_Mo_obeys_1_j57 mf_Mo_obeys_1_j58 mf_Mo_obeys_1_j59 mf_Mo_obeys_1_j60 mf_Mo_obeys_1_j61 mf_Mo_reply_1
  simp [fw_up]
theorem ob8_1 {w : fw_V} {n : Int32} : mf_Mo_obeys_1 w 8 n = if w 28 0 1 = 1 then mf_Mo_obeys_1_j35 w 8 n else if w 28 0 1 = 2 then mf_Mo_send w 9 (w 29 0 1) 0 2 else w := by
  unfold mf_Mo_obeys_1 mf_Mo_obeys_1_j1 mf_Mo_obeys_1_j2 mf_Mo_obeys_1_j3 mf_Mo_obeys_1_j4 mf_Mo_obeys_1_j5 mf_Mo_reply_1
  simp
theorem ob11_1 {w : fw_V} {n : Int32} : mf_Mo_obeys_1 w 11 n = if w 28 0 1 = 2 then fw_up (fw_up (fw_up (fw_up (fw_up (fw_up (fw_up w 28 0 1 3) 32 0 1 0) 34 0 1 0) 35 0 1 (-1)) 37 0 1 0) 36 0 1 0) 39 0 1 0 else w := by
  unfold mf_Mo_obeys_1 mf_Mo_obeys_1_j1 mf_Mo_obeys_1_j2 mf_Mo_obeys_1_j3 mf_Mo_obeys_1_j4 mf_Mo_obeys_1_j5
  simp
theorem ob12_1 {w : fw_V} {n : Int32} : mf_Mo_obeys_1 w 12 n = if w 28 0 1 = 3 then (if mf_Mo_isNewer n (w 35 0 1) = 0 then w else mf_Mo_obeys_1_j10 (fw_up (fw_up w 35 0 1 n) 32 0 1 0) 12 n) else w := by
  unfold mf_Mo_obeys_1 mf_Mo_obeys_1_j1 mf_Mo_obeys_1_j2 mf_Mo_obeys_1_j3 mf_Mo_obeys_1_j4 mf_Mo_obeys_1_j5
  simp
theorem ob15_1 {w : fw_V} {n : Int32} : mf_Mo_obeys_1 w 15 n = if w 28 0 1 = 3 then (if w 36 0 1 ≤ 0 then w else if w 36 0 1 = n then mf_Mo_obeys_1_j6 (fw_up (fw_up w 36 0 1 0) 37 0 1 (w 37 0 1 - 1)) 15 n else w) else w := by
  unfold mf_Mo_obeys_1 mf_Mo_obeys_1_j1 mf_Mo_obeys_1_j2 mf_Mo_obeys_1_j3 mf_Mo_obeys_1_j4 mf_Mo_obeys_1_j5
  simp [fw_up]
theorem ob16_1 {w : fw_V} {n : Int32} : mf_Mo_obeys_1 w 16 n = mf_Mo_rest_1 w := by
  unfold mf_Mo_obeys_1 mf_Mo_obeys_1_j1 mf_Mo_obeys_1_j2 mf_Mo_obeys_1_j3 mf_Mo_obeys_1_j4 mf_Mo_obeys_1_j5
  simp
theorem ob_no_1 {w : fw_V} {a n : Int32} (h6 : ¬ a = 6) (h8 : ¬ a = 8) (h11 : ¬ a = 11) (h12 : ¬ a = 12) (h15 : ¬ a = 15) (h16 : ¬ a = 16) : mf_Mo_obeys_1 w a n = w := by
  unfold mf_Mo_obeys_1 mf_Mo_obeys_1_j1 mf_Mo_obeys_1_j2 mf_Mo_obeys_1_j3 mf_Mo_obeys_1_j4 mf_Mo_obeys_1_j5
  simp [h6, h8, h11, h12, h15, h16]
/-- SEEK -/
theorem De_seek_1 {v w : fw_V} {n : Int32} (h : DB_1 v w) : DB_1 (xf_De_answerSeek v 1 n) (if w 30 0 1 = 0 then w else if w 30 0 1 = n then mf_Mo_send (fw_up w 9 0 0 n) 2 0 (1 : Int32) 2 else w) := by
  unfold xf_De_answerSeek
  rw [h.dv.nm]
  by_cases h0 : w 30 0 1 = 0
  · rw [if_pos h0, if_pos h0]; exact h
  · rw [if_neg h0, if_neg h0]
    by_cases hn : w 30 0 1 = n
    · rw [if_pos hn, if_pos hn.symm]
      (try dsimp only)
      obtain ⟨f, ef⟩ : ∃ f, f = (xf_Wi_send v 2 0 (v 19 1 0) 2).1 := ⟨_, rfl⟩
      obtain ⟨u, eu⟩ : ∃ u, u = (xf_Wi_send v 2 0 (v 19 1 0) 2).2 := ⟨_, rfl⟩
      rw [← ef, ← eu]
      have uc : ∀ c i k, c ≠ 5 → c ≠ 7 → c ≠ 8 → u c i k = v c i k := fun c i k a1 a2 a3 => by rw [eu]; exact xsend_c a1 a2 a3
      have u5 : u 19 1 5 = n := by rw [uc 19 1 5 (by decide) (by decide) (by decide), h.dv.nm]; exact hn
      rw [u5]
      have ms : ∀ c k, 10 ≤ c → mf_Mo_send (fw_up w 9 0 0 n) 2 0 (1 : Int32) 2 c 0 k = w c 0 k := fun c k hc => by rw [msend_c (by omega) (by omega) (by omega) (by omega) (by omega) (by omega) (by omega), fw_up_c (by omega)]
      refine ⟨Dv_cg h.dv (fun c k q1 q2 => by rw [fw_up_c (by omega), uc c 1 k (by omega) (by omega) (by omega)]) (fun k => by rw [fw_up_c (by decide), uc 14 _ k (by decide) (by decide) (by decide)]) (fun c k q1 q2 => ms c k (by omega)), Di_cg h.di (by rw [fw_up_c (by decide), uc 20 1 4 (by decide) (by decide) (by decide)]) (fun c k q1 q2 => ms c k (by omega)), ?_, At_send⟩
      refine Wr_sr_1 (w := w) h.wr (fun c k q1 q2 => fw_up_c q1) rfl rfl h.dv.ix.symm rfl (fun c' i k q => ?_) (fun t ht => ?_)
      · rw [← ef] at q
        rw [fw_up_ne (fun z => q ⟨z.1, z.2.1⟩), eu]
      · rw [← ef]
        by_cases z : t = 0
        · subst z; rw [fw_up_s, fw_up_s]
        · rw [fw_up_k z, fw_up_k z, h.at t ht, eu, ef]; exact xsend_8
    · rw [if_neg hn, if_neg (fun q => hn q.symm)]; exact h
/-- WRITE -/
theorem De_write_1 {v w : fw_V} {q : Nat} {n : Int32} (h : DB_1 v w) (f2 : v 7 q 2 = n) (f8 : v 8 q 0 = w 10 0 0) (h6 : vp_in n 3) (hp : ¬ w 10 0 0 < 0) : DB_1 (xf_De_keepParameter v 1 q) (mf_Mo_obeys_1 w 6 n) := by
  have hD := h.dv
  have hI := h.di
  unfold xf_De_keepParameter
  rw [ob6_1, h.dv.st, f2, f8]
  by_cases h1 : w 28 0 1 = 1
  · rw [if_pos h1, if_pos h1]
    obtain ⟨s, hs, es⟩ := vp_in_of h6 (by decide)
    have hsl : ¬ xf_FR_isSlot n = 0 := by
      rw [es]
      rcases (show s = 0 ∨ s = 1 ∨ s = 2 by omega) with rfl | rfl | rfl <;> decide
    have ie : ((3 : Int32) + n).toNatClampNeg = 3 * 1 + s := by
      rw [es]
      show (nI 3 + nI s).toNatClampNeg = _
      rw [nI_add, nI_clamp (by omega)]
    have ic : n.toNatClampNeg = s := by rw [es]; exact nI_clamp (by omega)
    (try dsimp only)
    rw [if_neg hsl, ie, ic]
    obtain ⟨v6, e6⟩ : ∃ v6, v6 = fw_up (fw_up v 27 1 s (w 10 0 0)) 19 1 16 0 := ⟨_, rfl⟩
    obtain ⟨w6, g6⟩ : ∃ w6, w6 = fw_up (fw_up w 44 0 (3 * 1 + s) (w 10 0 0)) 32 0 1 0 := ⟨_, rfl⟩
    rw [← e6, ← g6]
    have s6 : v6 19 1 12 = w 29 0 1 := by rw [e6, fw_up_k (by decide), fw_up_c (by decide)]; exact hD.se
    have n6 : v6 7 q 2 = n := by rw [e6, fw_up_c (by decide), fw_up_c (by decide)]; exact f2
    rw [s6, n6]
    have d6 : Dv 1 v6 w6 := by
      rw [e6, g6]
      refine ⟨?_, ?_, ?_, ?_, ?_, ?_, ?_, ?_, ?_, ?_, ?_, ?_, ?_, ?_, ?_, ?_, ?_, ?_, ?_, fun s' hs' => ?_, ?_, ?_⟩
      · simp [fw_up]; exact hD.ix
      · simp [fw_up]; exact hD.nm
      · simp [fw_up]; exact hD.fb
      · simp [fw_up]; exact hD.oc
      · simp [fw_up]; exact hD.st
      · simp [fw_up]; exact hD.se
      · simp [fw_up]; exact hD.di
      · simp [fw_up]
      · simp [fw_up]; exact hD.ag
      · simp [fw_up]; exact hD.ne
      · simp [fw_up]; exact hD.ta
      · simp [fw_up]; exact hD.qs
      · simp [fw_up]; exact hD.qw
      · simp [fw_up]; exact hD.qn
      · simp [fw_up]; exact hD.qt
      · simp [fw_up]; simpa using hD.sl
      · simp [fw_up]; simpa using hD.sk
      · simp [fw_up]; simpa using hD.mo
      · simp [fw_up]; simpa using hD.wa
      · by_cases z : s' = s
        · subst z; rw [fw_up_c (by decide), fw_up_s, fw_up_c (by decide), fw_up_s]
        · rw [fw_up_c (by decide), fw_up_k z, fw_up_c (by decide), fw_up_k (by omega)]; exact hD.wr s' hs'
      · simp [fw_up]; simpa using hD.sn
      · simp [fw_up]; simpa using hD.sh
    have i6 : Di 1 v6 w6 := by
      rw [e6, g6]
      have nq := hI.nq (by rw [h1]; decide)
      refine ⟨?_, ?_, ?_, ?_, ?_, ?_, ?_, ?_, ?_, ?_, ?_, ?_, fun s' hs' => ?_, ?_, ?_, ?_, ?_⟩
      · simp [fw_up]; exact hI.s4
      · simp [fw_up, h1]
      · simp [fw_up, h1]; exact nq
      · simp [fw_up]; intro; exact fw_inc (by decide)
      · simp [fw_up, h1]
      · simp [fw_up, h1]
      · simp [fw_up, h1]
      · simp [fw_up, h1]
      · simp [fw_up]; exact hI.q5
      · simp [fw_up, h1]
      · simp [fw_up, h1]
      · simp [fw_up, h1]
      · by_cases z : s' = s
        · subst z; rw [fw_up_c (by decide), fw_up_s]; exact Or.inr hp
        · rw [fw_up_c (by decide), fw_up_k (by omega)]; exact hI.wt s' hs'
      · simp [fw_up]; exact hI.sb
      · simp [fw_up]; simpa using hI.m8
      · simp [fw_up]; simpa using hI.w8
      · simp [fw_up]; simpa using hI.a3
    have wr6 : Wr v6 w6 := by
      rw [e6, g6]
      exact Wr_cg h.wr (fun c i k q1 q2 => by rw [fw_up_c (by omega), fw_up_c (by omega)]) ⟨by rw [fw_up_c (by decide), fw_up_c (by decide)], by rw [fw_up_c (by decide), fw_up_c (by decide)], by rw [fw_up_c (by decide), fw_up_c (by decide)]⟩ (fun c k q1 q2 => by rw [fw_up_c (by omega), fw_up_c (by omega)])
    have at6 : At w6 := fun t ht => by rw [g6, fw_up_c (by decide), fw_up_c (by decide)]; exact h.at t ht
    exact ⟨Dv_send_1 d6, Di_send_1 i6, Wr_s0 wr6 at6 rfl rfl rfl rfl, At_send⟩
  · rw [if_neg h1, if_neg h1]; exact h
/-- GO -/
theorem De_go_1 {v w : fw_V} {n : Int32} (h : DB_1 v w) : DB_1 (xf_De_beginData v 1) (mf_Mo_obeys_1 w 11 n) := by
  have hD := h.dv
  have hI := h.di
  unfold xf_De_beginData xf_Cy_restart
  rw [ob11_1, h.dv.st]
  by_cases h2 : w 28 0 1 = 2
  · rw [if_pos h2, if_pos h2]
    obtain ⟨q1, q2, q3⟩ := hI.nq (by rw [h2]; decide)
    (try dsimp only)
    refine ⟨?_, ?_, ?_, ?_⟩
    · refine ⟨?_, ?_, ?_, ?_, ?_, ?_, ?_, ?_, ?_, ?_, ?_, ?_, ?_, ?_, ?_, ?_, ?_, ?_, ?_, ?_, ?_, ?_⟩
      · simp [fw_up]; exact hD.ix
      · simp [fw_up]; exact hD.nm
      · simp [fw_up]; exact hD.fb
      · simp [fw_up]; exact hD.oc
      · simp [fw_up]
      · simp [fw_up]; exact hD.se
      · simp [fw_up]; exact hD.di
      · simp [fw_up]
      · simp [fw_up]
      · simp [fw_up]
      · simp [fw_up]
      · simp [fw_up]; rw [hD.qs]; exact q1
      · simp [fw_up]; rw [hD.qw]; exact q2
      · simp [fw_up]; exact q3
      · simp [fw_up]
      · simp [fw_up]; simpa using hD.sl
      · simp [fw_up]; simpa using hD.sk
      · simp [fw_up]; simpa using hD.mo
      · simp [fw_up]; simpa using hD.wa (by rw [h2]; decide)
      · simp [fw_up]; simpa using hD.wr
      · simp [fw_up]; simpa using hD.sn
      · simp [fw_up]; simpa using hD.sh
    · refine ⟨?_, ?_, ?_, ?_, ?_, ?_, ?_, ?_, ?_, ?_, ?_, ?_, ?_, ?_, ?_, ?_, ?_⟩
      · simp [fw_up]; exact fw_inc (by decide)
      · simp [fw_up]
      · simp [fw_up]
      · simp [fw_up]
      · simp [fw_up]
      · simp [fw_up]; exact fw_inc (by decide)
      · simp [fw_up]; exact fw_inc (by decide)
      · simp [fw_up]
      · simp [fw_up]; exact fw_inc (by decide)
      · simp [fw_up]; exact fw_inc (by decide)
      · simp [fw_up]; exact fw_inc (by decide)
      · simp [fw_up]
      · simp [fw_up]; simpa using hI.wt
      · simp [fw_up]; exact hI.sb
      · simp [fw_up]; simpa using hI.m8
      · simp [fw_up]; simpa using hI.w8 (by rw [h2]; decide)
      · simp [fw_up]; simpa using hI.a3
    · refine Wr_cg h.wr (fun c i k q1 q2 => ?_) ⟨?_, ?_, ?_⟩ (fun c k q1 q2 => ?_)
      · rw [fw_up_c (by omega), fw_up_c (by omega), fw_up_c (by omega), fw_up_c (by omega)]
      · simp [fw_up]
      · simp [fw_up]
      · simp [fw_up]
      · rw [fw_up_c (by omega), fw_up_c (by omega), fw_up_c (by omega), fw_up_c (by omega), fw_up_c (by omega), fw_up_c (by omega), fw_up_c (by omega)]
    · intro t ht
      simp [fw_up]
      exact h.at t ht
  · rw [if_neg h2, if_neg h2]; exact h

/-- what is good, for both -/
theorem good_0 {v w : fw_V} {s : Nat} (hs : s < 3) (hd : v 19 0 15 = w 31 0 0) (hw : v 26 0 s = w 43 0 (3 * 0 + s)) (h8 : vp_in (w 43 0 (3 * 0 + s) + 1) 9) : xf_De_isGood v 0 (nI s) = mf_Mo_isGood_0 w (nI s) := by
  have ie : ((0 : Int32) + nI s).toNatClampNeg = 3 * 0 + s := by
    show (nI 0 + nI s).toNatClampNeg = _
    rw [nI_add, nI_clamp (by omega)]
  unfold xf_De_isGood mf_Mo_isGood_0 xf_FR_hasSlot
  rw [ie, nI_clamp (by omega), hw, hd]
  rcases m8_cases h8 with e | ⟨k, hk, e⟩
  · rw [e, if_pos rfl, if_pos (by decide)]
  · rw [e, if_neg (fun q => by
      have h1 : (nI k).toInt = (-1 : Int32).toInt := by rw [q]
      rw [nI_toInt (by omega), show (-1 : Int32).toInt = -1 from by decide] at h1
      omega), if_neg (nI_nn (by omega))]
    rcases and1 (w 31 0 0 >>> (nI s &&& 31)) with b | b
    · rw [if_pos b, if_pos b]; rfl
    · rw [b, if_neg (show ¬ (1 : Int32) = 0 by decide), if_neg (show ¬ (1 : Int32) = 0 by decide)]
def LX_0 (v : fw_V) (r s : Nat) : Prop := ¬ xf_De_isGood v r (nI s) = 0 ∧ ¬ xf_KT_needsParameter v (v 26 r s) = 0 ∧ v 27 r s = -1
theorem lacks_x_0 (v : fw_V) (r : Nat) : xf_De_lacksParameter v r = 0 ↔ (¬ LX_0 v r 0 ∧ ¬ LX_0 v r 1 ∧ ¬ LX_0 v r 2) := by
  unfold xf_De_lacksParameter xf_De_lacksParameter_j1 xf_De_lacksParameter_j2 xf_De_lacksParameter_j3 xf_De_lacksParameter_j4 xf_De_lacksParameter_j5 xf_De_lacksParameter_j6 xf_De_lacksParameter_j7 LX_0
  have e0 : nI 0 = (0 : Int32) := rfl
  have e1 : nI 1 = (1 : Int32) := rfl
  have e2 : nI 2 = (2 : Int32) := rfl
  rw [e0, e1, e2]
  by_cases a0 : xf_De_isGood v r 0 = 0 <;> by_cases b0 : xf_KT_needsParameter v (v 26 r 0) = 0 <;> by_cases c0 : v 27 r 0 = -1 <;> by_cases a1 : xf_De_isGood v r 1 = 0 <;> by_cases b1 : xf_KT_needsParameter v (v 26 r 1) = 0 <;> by_cases c1 : v 27 r 1 = -1 <;> by_cases a2 : xf_De_isGood v r 2 = 0 <;> by_cases b2 : xf_KT_needsParameter v (v 26 r 2) = 0 <;> by_cases c2 : v 27 r 2 = -1 <;> simp [a0, b0, c0, a1, b1, c1, a2, b2, c2]
def LM_0 (w : fw_V) (s : Nat) : Prop := ¬ mf_Mo_isGood_0 w (nI s) = 0 ∧ ¬ w 3 0 (w 43 0 (3 * 0 + s)).toNatClampNeg = 0 ∧ ¬ (0 : Int32) ≤ w 44 0 (3 * 0 + s)
theorem lacks_m_0 (w : fw_V) (a b : Int32) : ((¬ LM_0 w 0 ∧ ¬ LM_0 w 1 ∧ ¬ LM_0 w 2) → mf_Mo_obeys_0_j35 w a b = mf_Mo_obeys_0_j44 w a b) ∧ (¬ (¬ LM_0 w 0 ∧ ¬ LM_0 w 1 ∧ ¬ LM_0 w 2) → mf_Mo_obeys_0_j35 w a b = mf_Mo_quit_0 w) := by
  unfold mf_Mo_obeys_0_j35 mf_Mo_obeys_0_j36 mf_Mo_obeys_0_j37 mf_Mo_obeys_0_j38 mf_Mo_obeys_0_j39 mf_Mo_obeys_0_j40 mf_Mo_obeys_0_j41 mf_Mo_obeys_0_j42 mf_Mo_obeys_0_j43 mf_Mo_obeys_0_j52 mf_Mo_obeys_0_j53 mf_Mo_obeys_0_j54 mf_Mo_obeys_0_j55 mf_Mo_obeys_0_j56 mf_Mo_obeys_0_j47 mf_Mo_obeys_0_j48 mf_Mo_obeys_0_j49 mf_Mo_obeys_0_j50 mf_Mo_obeys_0_j51 mf_Mo_obeys_0_j45 mf_Mo_obeys_0_j46 LM_0
  have e0 : nI 0 = (0 : Int32) := rfl
  have e1 : nI 1 = (1 : Int32) := rfl
  have e2 : nI 2 = (2 : Int32) := rfl
  rw [e0, e1, e2]
  simp only [Nat.reduceMul, Nat.reduceAdd]
  by_cases a0 : mf_Mo_isGood_0 w 0 = 0 <;> by_cases b0 : w 3 0 (w 43 0 0).toNatClampNeg = 0 <;> by_cases c0 : (0 : Int32) ≤ w 44 0 0 <;> by_cases a1 : mf_Mo_isGood_0 w 1 = 0 <;> by_cases b1 : w 3 0 (w 43 0 1).toNatClampNeg = 0 <;> by_cases c1 : (0 : Int32) ≤ w 44 0 1 <;> by_cases a2 : mf_Mo_isGood_0 w 2 = 0 <;> by_cases b2 : w 3 0 (w 43 0 2).toNatClampNeg = 0 <;> by_cases c2 : (0 : Int32) ≤ w 44 0 2 <;> simp [a0, b0, c0, a1, b1, c1, a2, b2, c2]
theorem LXM_0 {v w : fw_V} {s : Nat} (hs : s < 3) (hK : Kd v w) (hd : v 19 0 15 = w 31 0 0) (hw : v 26 0 s = w 43 0 (3 * 0 + s)) (h8 : vp_in (w 43 0 (3 * 0 + s) + 1) 9) (hr : v 27 0 s = w 44 0 (3 * 0 + s)) (ht : w 44 0 (3 * 0 + s) = -1 ∨ ¬ w 44 0 (3 * 0 + s) < 0) : LX_0 v 0 s ↔ LM_0 w s := by
  unfold LX_0 LM_0
  rw [good_0 hs hd hw h8, hw, KT_need hK h8, hr]
  have hgd : ¬ mf_Mo_isGood_0 w (nI s) = 0 → ¬ w 43 0 (3 * 0 + s) < 0 := by
    intro q z
    apply q
    have ie : ((0 : Int32) + nI s).toNatClampNeg = 3 * 0 + s := by
      show (nI 0 + nI s).toNatClampNeg = _
      rw [nI_add, nI_clamp (by omega)]
    unfold mf_Mo_isGood_0
    rw [ie, if_pos z]
  have hneg : w 44 0 (3 * 0 + s) = -1 ↔ ¬ (0 : Int32) ≤ w 44 0 (3 * 0 + s) := by
    constructor
    · intro q; rw [q]; decide
    · intro q
      rcases ht with z | z
      · exact z
      · exact absurd (Int32.not_lt.mp z) q
  rw [hneg]
  constructor
  · rintro ⟨p1, p2, p3⟩
    exact ⟨p1, fun z => p2 (Or.inr z), p3⟩
  · rintro ⟨p1, p2, p3⟩
    exact ⟨p1, fun z => z.elim (hgd p1) p2, p3⟩
/-- END -/
theorem De_end_0 {v w : fw_V} {n : Int32} (h : DB_0 v w) (hK : Kd v w) : DB_0 (xf_De_answerEnd v 0) (mf_Mo_obeys_0 w 8 n) := by
  have hD := h.dv
  have hI := h.di
  have e0 : ∀ {x : fw_V}, Dv 0 x w → True := fun _ => trivial
  unfold xf_De_answerEnd
  rw [ob8_0, h.dv.st]
  by_cases h1 : w 28 0 0 = 1
  · rw [if_pos h1, if_pos h1]
    (try dsimp only)
    have hwa := hD.wa (by rw [h1]; decide)
    have hw8 := hI.w8 (by rw [h1]; decide)
    have lx : ∀ s, s < 3 → (LX_0 v 0 s ↔ LM_0 w s) := fun s hs => LXM_0 hs hK hD.di (hwa s hs) (hw8 s hs) (hD.wr s hs) (hI.wt s hs)
    have iff : xf_De_lacksParameter v 0 = 0 ↔ (¬ LM_0 w 0 ∧ ¬ LM_0 w 1 ∧ ¬ LM_0 w 2) := by
      rw [lacks_x_0, lx 0 (by decide), lx 1 (by decide), lx 2 (by decide)]
    obtain ⟨m1, m2⟩ := lacks_m_0 w 8 n
    by_cases hl : xf_De_lacksParameter v 0 = 0
    · rw [if_pos hl, m1 (iff.mp hl)]
      unfold xf_De_answerEnd_j1 mf_Mo_obeys_0_j44 mf_Mo_reply_0
      rw [h.dv.st, if_pos h1]
      (try dsimp only)
      obtain ⟨v9, e9⟩ : ∃ v9, v9 = fw_up (fw_up (fw_up v 19 0 11 2) 19 0 16 0) 19 0 17 0 := ⟨_, rfl⟩
      obtain ⟨w9, g9⟩ : ∃ w9, w9 = fw_up (fw_up (fw_up w 28 0 0 2) 32 0 0 0) 33 0 0 0 := ⟨_, rfl⟩
      rw [← e9, ← g9]
      have d9 : Dv 0 v9 w9 := by
        rw [e9, g9]
        refine ⟨?_, ?_, ?_, ?_, ?_, ?_, ?_, ?_, ?_, ?_, ?_, ?_, ?_, ?_, ?_, ?_, ?_, ?_, ?_, ?_, ?_, ?_⟩
        · simp [fw_up]; exact hD.ix
        · simp [fw_up]; exact hD.nm
        · simp [fw_up]; exact hD.fb
        · simp [fw_up]; exact hD.oc
        · simp [fw_up]
        · simp [fw_up]; exact hD.se
        · simp [fw_up]; exact hD.di
        · simp [fw_up]
        · simp [fw_up]
        · simp [fw_up]
        · simp [fw_up]
        · simp [fw_up]; exact hD.qs
        · simp [fw_up]; exact hD.qw
        · simp [fw_up]
        · simp [fw_up]
        · simp [fw_up]; simpa using hD.sl
        · simp [fw_up]; simpa using hD.sk
        · simp [fw_up]; simpa using hD.mo
        · simp [fw_up]; simpa using hwa
        · simp [fw_up]; simpa using hD.wr
        · simp [fw_up]; simpa using hD.sn
        · simp [fw_up]; simpa using hD.sh
      have i9 : Di 0 v9 w9 := by
        rw [e9, g9]
        have nq := hI.nq (by rw [h1]; decide)
        refine ⟨?_, ?_, ?_, ?_, ?_, ?_, ?_, ?_, ?_, ?_, ?_, ?_, ?_, ?_, ?_, ?_, ?_⟩
        · simp [fw_up]; exact fw_inc (by decide)
        · simp [fw_up]
        · simp [fw_up]; exact nq
        · simp [fw_up]
        · simp [fw_up]; exact ⟨fw_inc (by decide), fw_inc (by decide)⟩
        · simp [fw_up]
        · simp [fw_up]
        · simp [fw_up]
        · simp [fw_up]; exact hI.q5
        · simp [fw_up]
        · simp [fw_up]
        · simp [fw_up]
        · simp [fw_up]; simpa using hI.wt
        · simp [fw_up]; exact hI.sb
        · simp [fw_up]; simpa using hI.m8
        · simp [fw_up]; simpa using hw8
        · simp [fw_up]; simpa using hI.a3
      have wr9 : Wr v9 w9 := by
        rw [e9, g9]
        exact Wr_cg h.wr (fun c i k q1 q2 => by rw [fw_up_c (by omega), fw_up_c (by omega), fw_up_c (by omega)]) ⟨by simp [fw_up], by simp [fw_up], by simp [fw_up]⟩ (fun c k q1 q2 => by rw [fw_up_c (by omega), fw_up_c (by omega), fw_up_c (by omega)])
      have at9 : At w9 := fun t ht => by rw [g9]; simp [fw_up]; exact h.at t ht
      have sA := Wr_s0 (a := 9) (b := v9 19 0 12) (c := 0) (d := 2) (a' := 9) (b' := w9 29 0 0) (c' := 0) (d' := 2) wr9 at9 rfl d9.se.symm rfl rfl
      have dA := Dv_send_0 (a := 9) (b := v9 19 0 12) (c := 0) (d := 2) (a' := 9) (b' := w9 29 0 0) (c' := 0) (d' := 2) d9
      have iA := Di_send_0 (a := 9) (b := v9 19 0 12) (c := 0) (d := 2) (a' := 9) (b' := w9 29 0 0) (c' := 0) (d' := 2) i9
      exact ⟨Dv_send_0 dA, Di_send_0 iA, Wr_s0 sA At_send rfl dA.se.symm rfl rfl, At_send⟩
    · rw [if_neg hl, m2 (fun q => hl (iff.mpr q))]
      exact De_quit_0 hD hI.sb hI.m8 hI.a3 hK h.wr h.at
  · rw [if_neg h1, if_neg h1]
    unfold xf_De_answerEnd_j1
    rw [h.dv.st, if_neg h1]
    by_cases h2 : w 28 0 0 = 2
    · rw [if_pos h2, if_pos h2]
      exact ⟨Dv_send_0 hD, Di_send_0 hI, Wr_s0 h.wr h.at rfl hD.se.symm rfl rfl, At_send⟩
    · rw [if_neg h2, if_neg h2]; exact h

/-- what is good, for both -/
theorem good_1 {v w : fw_V} {s : Nat} (hs : s < 3) (hd : v 19 1 15 = w 31 0 1) (hw : v 26 1 s = w 43 0 (3 * 1 + s)) (h8 : vp_in (w 43 0 (3 * 1 + s) + 1) 9) : xf_De_isGood v 1 (nI s) = mf_Mo_isGood_1 w (nI s) := by
  have ie : ((3 : Int32) + nI s).toNatClampNeg = 3 * 1 + s := by
    show (nI 3 + nI s).toNatClampNeg = _
    rw [nI_add, nI_clamp (by omega)]
  unfold xf_De_isGood mf_Mo_isGood_1 xf_FR_hasSlot
  rw [ie, nI_clamp (by omega), hw, hd]
  rcases m8_cases h8 with e | ⟨k, hk, e⟩
  · rw [e, if_pos rfl, if_pos (by decide)]
  · rw [e, if_neg (fun q => by
      have h1 : (nI k).toInt = (-1 : Int32).toInt := by rw [q]
      rw [nI_toInt (by omega), show (-1 : Int32).toInt = -1 from by decide] at h1
      omega), if_neg (nI_nn (by omega))]
    rcases and1 (w 31 0 1 >>> (nI s &&& 31)) with b | b
    · rw [if_pos b, if_pos b]; rfl
    · rw [b, if_neg (show ¬ (1 : Int32) = 0 by decide), if_neg (show ¬ (1 : Int32) = 0 by decide)]
def LX_1 (v : fw_V) (r s : Nat) : Prop := ¬ xf_De_isGood v r (nI s) = 0 ∧ ¬ xf_KT_needsParameter v (v 26 r s) = 0 ∧ v 27 r s = -1
theorem lacks_x_1 (v : fw_V) (r : Nat) : xf_De_lacksParameter v r = 0 ↔ (¬ LX_1 v r 0 ∧ ¬ LX_1 v r 1 ∧ ¬ LX_1 v r 2) := by
  unfold xf_De_lacksParameter xf_De_lacksParameter_j1 xf_De_lacksParameter_j2 xf_De_lacksParameter_j3 xf_De_lacksParameter_j4 xf_De_lacksParameter_j5 xf_De_lacksParameter_j6 xf_De_lacksParameter_j7 LX_1
  have e0 : nI 0 = (0 : Int32) := rfl
  have e1 : nI 1 = (1 : Int32) := rfl
  have e2 : nI 2 = (2 : Int32) := rfl
  rw [e0, e1, e2]
  by_cases a0 : xf_De_isGood v r 0 = 0 <;> by_cases b0 : xf_KT_needsParameter v (v 26 r 0) = 0 <;> by_cases c0 : v 27 r 0 = -1 <;> by_cases a1 : xf_De_isGood v r 1 = 0 <;> by_cases b1 : xf_KT_needsParameter v (v 26 r 1) = 0 <;> by_cases c1 : v 27 r 1 = -1 <;> by_cases a2 : xf_De_isGood v r 2 = 0 <;> by_cases b2 : xf_KT_needsParameter v (v 26 r 2) = 0 <;> by_cases c2 : v 27 r 2 = -1 <;> simp [a0, b0, c0, a1, b1, c1, a2, b2, c2]
def LM_1 (w : fw_V) (s : Nat) : Prop := ¬ mf_Mo_isGood_1 w (nI s) = 0 ∧ ¬ w 3 0 (w 43 0 (3 * 1 + s)).toNatClampNeg = 0 ∧ ¬ (0 : Int32) ≤ w 44 0 (3 * 1 + s)
theorem lacks_m_1 (w : fw_V) (a b : Int32) : ((¬ LM_1 w 0 ∧ ¬ LM_1 w 1 ∧ ¬ LM_1 w 2) → mf_Mo_obeys_1_j35 w a b = mf_Mo_obeys_1_j44 w a b) ∧ (¬ (¬ LM_1 w 0 ∧ ¬ LM_1 w 1 ∧ ¬ LM_1 w 2) → mf_Mo_obeys_1_j35 w a b = mf_Mo_quit_1 w) := by
  unfold mf_Mo_obeys_1_j35 mf_Mo_obeys_1_j36 mf_Mo_obeys_1_j37 mf_Mo_obeys_1_j38 mf_Mo_obeys_1_j39 mf_Mo_obeys_1_j40 mf_Mo_obeys_1_j41 mf_Mo_obeys_1_j42 mf_Mo_obeys_1_j43 mf_Mo_obeys_1_j52 mf_Mo_obeys_1_j53 mf_Mo_obeys_1_j54 mf_Mo_obeys_1_j55 mf_Mo_obeys_1_j56 mf_Mo_obeys_1_j47 mf_Mo_obeys_1_j48 mf_Mo_obeys_1_j49 mf_Mo_obeys_1_j50 mf_Mo_obeys_1_j51 mf_Mo_obeys_1_j45 mf_Mo_obeys_1_j46 LM_1
  have e0 : nI 0 = (0 : Int32) := rfl
  have e1 : nI 1 = (1 : Int32) := rfl
  have e2 : nI 2 = (2 : Int32) := rfl
  rw [e0, e1, e2]
  simp only [Nat.reduceMul, Nat.reduceAdd]
  by_cases a0 : mf_Mo_isGood_1 w 0 = 0 <;> by_cases b0 : w 3 0 (w 43 0 3).toNatClampNeg = 0 <;> by_cases c0 : (0 : Int32) ≤ w 44 0 3 <;> by_cases a1 : mf_Mo_isGood_1 w 1 = 0 <;> by_cases b1 : w 3 0 (w 43 0 4).toNatClampNeg = 0 <;> by_cases c1 : (0 : Int32) ≤ w 44 0 4 <;> by_cases a2 : mf_Mo_isGood_1 w 2 = 0 <;> by_cases b2 : w 3 0 (w 43 0 5).toNatClampNeg = 0 <;> by_cases c2 : (0 : Int32) ≤ w 44 0 5 <;> simp [a0, b0, c0, a1, b1, c1, a2, b2, c2]
theorem LXM_1 {v w : fw_V} {s : Nat} (hs : s < 3) (hK : Kd v w) (hd : v 19 1 15 = w 31 0 1) (hw : v 26 1 s = w 43 0 (3 * 1 + s)) (h8 : vp_in (w 43 0 (3 * 1 + s) + 1) 9) (hr : v 27 1 s = w 44 0 (3 * 1 + s)) (ht : w 44 0 (3 * 1 + s) = -1 ∨ ¬ w 44 0 (3 * 1 + s) < 0) : LX_1 v 1 s ↔ LM_1 w s := by
  unfold LX_1 LM_1
  rw [good_1 hs hd hw h8, hw, KT_need hK h8, hr]
  have hgd : ¬ mf_Mo_isGood_1 w (nI s) = 0 → ¬ w 43 0 (3 * 1 + s) < 0 := by
    intro q z
    apply q
    have ie : ((3 : Int32) + nI s).toNatClampNeg = 3 * 1 + s := by
      show (nI 3 + nI s).toNatClampNeg = _
      rw [nI_add, nI_clamp (by omega)]
    unfold mf_Mo_isGood_1
    rw [ie, if_pos z]
  have hneg : w 44 0 (3 * 1 + s) = -1 ↔ ¬ (0 : Int32) ≤ w 44 0 (3 * 1 + s) := by
    constructor
    · intro q; rw [q]; decide
    · intro q
      rcases ht with z | z
      · exact z
      · exact absurd (Int32.not_lt.mp z) q
  rw [hneg]
  constructor
  · rintro ⟨p1, p2, p3⟩
    exact ⟨p1, fun z => p2 (Or.inr z), p3⟩
  · rintro ⟨p1, p2, p3⟩
    exact ⟨p1, fun z => z.elim (hgd p1) p2, p3⟩
/-- END -/
theorem De_end_1 {v w : fw_V} {n : Int32} (h : DB_1 v w) (hK : Kd v w) : DB_1 (xf_De_answerEnd v 1) (mf_Mo_obeys_1 w 8 n) := by
  have hD := h.dv
  have hI := h.di
  have e0 : ∀ {x : fw_V}, Dv 1 x w → True := fun _ => trivial
  unfold xf_De_answerEnd
  rw [ob8_1, h.dv.st]
  by_cases h1 : w 28 0 1 = 1
  · rw [if_pos h1, if_pos h1]
    (try dsimp only)
    have hwa := hD.wa (by rw [h1]; decide)
    have hw8 := hI.w8 (by rw [h1]; decide)
    have lx : ∀ s, s < 3 → (LX_1 v 1 s ↔ LM_1 w s) := fun s hs => LXM_1 hs hK hD.di (hwa s hs) (hw8 s hs) (hD.wr s hs) (hI.wt s hs)
    have iff : xf_De_lacksParameter v 1 = 0 ↔ (¬ LM_1 w 0 ∧ ¬ LM_1 w 1 ∧ ¬ LM_1 w 2) := by
      rw [lacks_x_1, lx 0 (by decide), lx 1 (by decide), lx 2 (by decide)]
    obtain ⟨m1, m2⟩ := lacks_m_1 w 8 n
    by_cases hl : xf_De_lacksParameter v 1 = 0
    · rw [if_pos hl, m1 (iff.mp hl)]
      unfold xf_De_answerEnd_j1 mf_Mo_obeys_1_j44 mf_Mo_reply_1
      rw [h.dv.st, if_pos h1]
      (try dsimp only)
      obtain ⟨v9, e9⟩ : ∃ v9, v9 = fw_up (fw_up (fw_up v 19 1 11 2) 19 1 16 0) 19 1 17 0 := ⟨_, rfl⟩
      obtain ⟨w9, g9⟩ : ∃ w9, w9 = fw_up (fw_up (fw_up w 28 0 1 2) 32 0 1 0) 33 0 1 0 := ⟨_, rfl⟩
      rw [← e9, ← g9]
      have d9 : Dv 1 v9 w9 := by
        rw [e9, g9]
        refine ⟨?_, ?_, ?_, ?_, ?_, ?_, ?_, ?_, ?_, ?_, ?_, ?_, ?_, ?_, ?_, ?_, ?_, ?_, ?_, ?_, ?_, ?_⟩
        · simp [fw_up]; exact hD.ix
        · simp [fw_up]; exact hD.nm
        · simp [fw_up]; exact hD.fb
        · simp [fw_up]; exact hD.oc
        · simp [fw_up]
        · simp [fw_up]; exact hD.se
        · simp [fw_up]; exact hD.di
        · simp [fw_up]
        · simp [fw_up]
        · simp [fw_up]
        · simp [fw_up]
        · simp [fw_up]; exact hD.qs
        · simp [fw_up]; exact hD.qw
        · simp [fw_up]
        · simp [fw_up]
        · simp [fw_up]; simpa using hD.sl
        · simp [fw_up]; simpa using hD.sk
        · simp [fw_up]; simpa using hD.mo
        · simp [fw_up]; simpa using hwa
        · simp [fw_up]; simpa using hD.wr
        · simp [fw_up]; simpa using hD.sn
        · simp [fw_up]; simpa using hD.sh
      have i9 : Di 1 v9 w9 := by
        rw [e9, g9]
        have nq := hI.nq (by rw [h1]; decide)
        refine ⟨?_, ?_, ?_, ?_, ?_, ?_, ?_, ?_, ?_, ?_, ?_, ?_, ?_, ?_, ?_, ?_, ?_⟩
        · simp [fw_up]; exact fw_inc (by decide)
        · simp [fw_up]
        · simp [fw_up]; exact nq
        · simp [fw_up]
        · simp [fw_up]; exact ⟨fw_inc (by decide), fw_inc (by decide)⟩
        · simp [fw_up]
        · simp [fw_up]
        · simp [fw_up]
        · simp [fw_up]; exact hI.q5
        · simp [fw_up]
        · simp [fw_up]
        · simp [fw_up]
        · simp [fw_up]; simpa using hI.wt
        · simp [fw_up]; exact hI.sb
        · simp [fw_up]; simpa using hI.m8
        · simp [fw_up]; simpa using hw8
        · simp [fw_up]; simpa using hI.a3
      have wr9 : Wr v9 w9 := by
        rw [e9, g9]
        exact Wr_cg h.wr (fun c i k q1 q2 => by rw [fw_up_c (by omega), fw_up_c (by omega), fw_up_c (by omega)]) ⟨by simp [fw_up], by simp [fw_up], by simp [fw_up]⟩ (fun c k q1 q2 => by rw [fw_up_c (by omega), fw_up_c (by omega), fw_up_c (by omega)])
      have at9 : At w9 := fun t ht => by rw [g9]; simp [fw_up]; exact h.at t ht
      have sA := Wr_s0 (a := 9) (b := v9 19 1 12) (c := 0) (d := 2) (a' := 9) (b' := w9 29 0 1) (c' := 0) (d' := 2) wr9 at9 rfl d9.se.symm rfl rfl
      have dA := Dv_send_1 (a := 9) (b := v9 19 1 12) (c := 0) (d := 2) (a' := 9) (b' := w9 29 0 1) (c' := 0) (d' := 2) d9
      have iA := Di_send_1 (a := 9) (b := v9 19 1 12) (c := 0) (d := 2) (a' := 9) (b' := w9 29 0 1) (c' := 0) (d' := 2) i9
      exact ⟨Dv_send_1 dA, Di_send_1 iA, Wr_s0 sA At_send rfl dA.se.symm rfl rfl, At_send⟩
    · rw [if_neg hl, m2 (fun q => hl (iff.mpr q))]
      exact De_quit_1 hD hI.sb hI.m8 hI.a3 hK h.wr h.at
  · rw [if_neg h1, if_neg h1]
    unfold xf_De_answerEnd_j1
    rw [h.dv.st, if_neg h1]
    by_cases h2 : w 28 0 1 = 2
    · rw [if_pos h2, if_pos h2]
      exact ⟨Dv_send_1 hD, Di_send_1 hI, Wr_s0 h.wr h.at rfl hD.se.symm rfl rfl, At_send⟩
    · rw [if_neg h2, if_neg h2]; exact h

/-- OUTPUT's row, slot s, as the class shows it -/
def RX (v : fw_V) (r k s j : Nat) : Int32 := if xf_KT_outsOf v (v 23 r s) ≤ nI j then 0 else v 8 k (2 * s + j)
theorem sr_ex {v : fw_V} {r k s : Nat} (hs : s < 3) : xf_De_showRow v r k (nI s) = fw_up (fw_up v 25 r (2 * s) (RX v r k s 0)) 25 r (2 * s + 1) (RX v r k s 1) := by
  have j3 : ∀ u : fw_V, (∀ t, u 8 k t = v 8 k t) → xf_De_showRow_j3 u r k (nI s) (xf_KT_outsOf v (v 23 r s)) = fw_up u 25 r (2 * s + 1) (RX v r k s 1) := by
    intro u hu
    unfold xf_De_showRow_j3 xf_De_showRow_j4 xf_De_showRow_j6 xf_De_showRow_j5 RX
    (try dsimp only)
    rw [pl1 hs, hu]
    by_cases h : xf_KT_outsOf v (v 23 r s) ≤ 1
    · rw [if_pos h]
      exact congrArg _ (if_pos h).symm
    · rw [if_neg h]
      exact congrArg _ (if_neg h).symm
  unfold xf_De_showRow xf_De_showRow_j1 xf_De_showRow_j2 xf_De_showRow_j7
  (try dsimp only)
  rw [nI_clamp (by omega), pl0 hs]
  by_cases h : xf_KT_outsOf v (v 23 r s) ≤ 0
  · rw [if_pos h, j3 _ (fun t => fw_up_c (by decide)), show RX v r k s 0 = 0 from if_pos h]
  · rw [if_neg h, j3 _ (fun t => fw_up_c (by decide)), show RX v r k s 0 = v 8 k (2 * s) from if_neg h]
def TO (v : fw_V) (r k s : Nat) : fw_V := if xf_De_isGood v r (nI s) = 0 then v else xf_De_showRow v r k (nI s)
theorem to_eq (v : fw_V) (r k : Nat) : xf_De_takeOutput_j1 v r k = TO (TO (TO v r k 0) r k 1) r k 2 := by
  have h5 : ∀ u : fw_V, xf_De_takeOutput_j5 u r k = TO u r k 2 := by
    intro u
    unfold xf_De_takeOutput_j5 xf_De_takeOutput_j6 xf_De_takeOutput_j7
    rfl
  have h3 : ∀ u : fw_V, xf_De_takeOutput_j3 u r k = TO (TO u r k 1) r k 2 := by
    intro u
    unfold xf_De_takeOutput_j3 xf_De_takeOutput_j4
    simp only [h5]
    show (if xf_De_isGood u r (nI 1) = 0 then TO u r k 2 else TO (xf_De_showRow u r k (nI 1)) r k 2) = TO (if xf_De_isGood u r (nI 1) = 0 then u else xf_De_showRow u r k (nI 1)) r k 2
    split <;> rfl
  unfold xf_De_takeOutput_j1 xf_De_takeOutput_j2
  simp only [h3]
  show (if xf_De_isGood v r (nI 0) = 0 then TO (TO v r k 1) r k 2 else TO (TO (xf_De_showRow v r k (nI 0)) r k 1) r k 2) = TO (TO (if xf_De_isGood v r (nI 0) = 0 then v else xf_De_showRow v r k (nI 0)) r k 1) r k 2
  split <;> rfl
theorem TO_o {v : fw_V} {r k s c i t : Nat} (hs : s < 3) (h : ¬ (c = 25 ∧ i = r ∧ (t = 2 * s ∨ t = 2 * s + 1))) : TO v r k s c i t = v c i t := by
  unfold TO
  split
  · rfl
  · rw [sr_ex hs, fw_up_ne (fun q => h ⟨q.1, q.2.1, Or.inr q.2.2⟩), fw_up_ne (fun q => h ⟨q.1, q.2.1, Or.inl q.2.2⟩)]
def TV (v : fw_V) (r k s j : Nat) : Int32 := if xf_De_isGood v r (nI s) = 0 then v 25 r (2 * s + j) else RX v r k s j
theorem TO_v {v : fw_V} {r k s j : Nat} (hs : s < 3) (hj : j < 2) : TO v r k s 25 r (2 * s + j) = TV v r k s j := by
  unfold TO TV
  split
  · rfl
  · rw [sr_ex hs]
    rcases (show j = 0 ∨ j = 1 by omega) with rfl | rfl
    · rw [fw_up_k (by omega), Nat.add_zero, fw_up_s]
    · rw [fw_up_s]
theorem TV_cg {v v' : fw_V} {r k s j : Nat} (h : ∀ c i t, ¬ (c = 25 ∧ i = r ∧ t ≠ 2 * s + j) → v' c i t = v c i t) : TV v' r k s j = TV v r k s j := by
  unfold TV xf_De_isGood RX xf_KT_outsOf
  simp only [h 26 _ _ (fun q => absurd q.1 (by decide)), h 19 _ _ (fun q => absurd q.1 (by decide)), h 23 _ _ (fun q => absurd q.1 (by decide)), h 3 _ _ (fun q => absurd q.1 (by decide)), h 8 _ _ (fun q => absurd q.1 (by decide)), h 25 r (2 * s + j) (fun q => q.2.2 rfl)]
theorem to_3 {v : fw_V} {r k : Nat} : (∀ s j, s < 3 → j < 2 → xf_De_takeOutput_j1 v r k 25 r (2 * s + j) = TV v r k s j) ∧ ∀ c i t, ¬ (c = 25 ∧ i = r) → xf_De_takeOutput_j1 v r k c i t = v c i t := by
  rw [to_eq]
  refine ⟨fun s j hs hj => ?_, fun c i t h => ?_⟩
  · rcases (show s = 0 ∨ s = 1 ∨ s = 2 by omega) with rfl | rfl | rfl
    · rw [TO_o (by decide) (by omega), TO_o (by decide) (by omega)]
      exact TO_v (by decide) hj
    · rw [TO_o (by decide) (by omega), TO_v (by decide) hj]
      exact TV_cg (fun c i t h => TO_o (by decide) (fun q => h ⟨q.1, q.2.1, by omega⟩))
    · rw [TO_v (by decide) hj]
      refine TV_cg (fun c i t h => ?_)
      rw [TO_o (by decide) (fun q => h ⟨q.1, q.2.1, by omega⟩), TO_o (by decide) (fun q => h ⟨q.1, q.2.1, by omega⟩)]
  · rw [TO_o (by decide) (fun q => h ⟨q.1, q.2.1⟩), TO_o (by decide) (fun q => h ⟨q.1, q.2.1⟩), TO_o (by decide) (fun q => h ⟨q.1, q.2.1⟩)]

/-- octet i of OUTPUT, as the reference shows it -/
def MT_0 (w : fw_V) (s j : Nat) : fw_V := if mf_Mo_isGood_0 w (nI s) = 0 then w else fw_up w 46 0 (0 + 2 * s + j) (if mf_Mo_outsAt w (nI (0 + s)) ≤ nI j then 0 else w 10 0 (2 * s + j))
theorem mt_eq_0 (w : fw_V) (a b : Int32) : mf_Mo_obeys_0_j10 w a b = MT_0 (MT_0 (MT_0 (MT_0 (MT_0 (MT_0 w 0 0) 0 1) 1 0) 1 1) 2 0) 2 1 := by
  have h20 : ∀ u : fw_V, mf_Mo_obeys_0_j20 u a b = MT_0 u 2 1 := by
    intro u
    unfold mf_Mo_obeys_0_j20 mf_Mo_obeys_0_j21 mf_Mo_obeys_0_j22 mf_Mo_obeys_0_j23 mf_Mo_obeys_0_j24
    show (if mf_Mo_isGood_0 u (nI 2) = 0 then u else if mf_Mo_outsAt u (nI (0 + 2)) ≤ nI 1 then fw_up u 46 0 (0 + 2 * 2 + 1) 0 else fw_up u 46 0 (0 + 2 * 2 + 1) (u 10 0 (2 * 2 + 1))) = (if mf_Mo_isGood_0 u (nI 2) = 0 then u else fw_up u 46 0 (0 + 2 * 2 + 1) (if mf_Mo_outsAt u (nI (0 + 2)) ≤ nI 1 then 0 else u 10 0 (2 * 2 + 1)))
    split
    · rfl
    · split <;> rfl
  have h18 : ∀ u : fw_V, mf_Mo_obeys_0_j18 u a b = MT_0 (MT_0 u 2 0) 2 1 := by
    intro u
    unfold mf_Mo_obeys_0_j18 mf_Mo_obeys_0_j25 mf_Mo_obeys_0_j26 mf_Mo_obeys_0_j19
    simp only [h20]
    show (if mf_Mo_isGood_0 u (nI 2) = 0 then MT_0 u 2 1 else if mf_Mo_outsAt u (nI (0 + 2)) ≤ nI 0 then MT_0 (fw_up u 46 0 (0 + 2 * 2 + 0) 0) 2 1 else MT_0 (fw_up u 46 0 (0 + 2 * 2 + 0) (u 10 0 (2 * 2 + 0))) 2 1) = MT_0 (if mf_Mo_isGood_0 u (nI 2) = 0 then u else fw_up u 46 0 (0 + 2 * 2 + 0) (if mf_Mo_outsAt u (nI (0 + 2)) ≤ nI 0 then 0 else u 10 0 (2 * 2 + 0))) 2 1
    split
    · rfl
    · split <;> rfl
  have h16 : ∀ u : fw_V, mf_Mo_obeys_0_j16 u a b = MT_0 (MT_0 (MT_0 u 1 1) 2 0) 2 1 := by
    intro u
    unfold mf_Mo_obeys_0_j16 mf_Mo_obeys_0_j27 mf_Mo_obeys_0_j28 mf_Mo_obeys_0_j17
    simp only [h18]
    show (if mf_Mo_isGood_0 u (nI 1) = 0 then MT_0 (MT_0 u 2 0) 2 1 else if mf_Mo_outsAt u (nI (0 + 1)) ≤ nI 1 then MT_0 (MT_0 (fw_up u 46 0 (0 + 2 * 1 + 1) 0) 2 0) 2 1 else MT_0 (MT_0 (fw_up u 46 0 (0 + 2 * 1 + 1) (u 10 0 (2 * 1 + 1))) 2 0) 2 1) = MT_0 (MT_0 (if mf_Mo_isGood_0 u (nI 1) = 0 then u else fw_up u 46 0 (0 + 2 * 1 + 1) (if mf_Mo_outsAt u (nI (0 + 1)) ≤ nI 1 then 0 else u 10 0 (2 * 1 + 1))) 2 0) 2 1
    split
    · rfl
    · split <;> rfl
  have h14 : ∀ u : fw_V, mf_Mo_obeys_0_j14 u a b = MT_0 (MT_0 (MT_0 (MT_0 u 1 0) 1 1) 2 0) 2 1 := by
    intro u
    unfold mf_Mo_obeys_0_j14 mf_Mo_obeys_0_j29 mf_Mo_obeys_0_j30 mf_Mo_obeys_0_j15
    simp only [h16]
    show (if mf_Mo_isGood_0 u (nI 1) = 0 then MT_0 (MT_0 (MT_0 u 1 1) 2 0) 2 1 else if mf_Mo_outsAt u (nI (0 + 1)) ≤ nI 0 then MT_0 (MT_0 (MT_0 (fw_up u 46 0 (0 + 2 * 1 + 0) 0) 1 1) 2 0) 2 1 else MT_0 (MT_0 (MT_0 (fw_up u 46 0 (0 + 2 * 1 + 0) (u 10 0 (2 * 1 + 0))) 1 1) 2 0) 2 1) = MT_0 (MT_0 (MT_0 (if mf_Mo_isGood_0 u (nI 1) = 0 then u else fw_up u 46 0 (0 + 2 * 1 + 0) (if mf_Mo_outsAt u (nI (0 + 1)) ≤ nI 0 then 0 else u 10 0 (2 * 1 + 0))) 1 1) 2 0) 2 1
    split
    · rfl
    · split <;> rfl
  have h12 : ∀ u : fw_V, mf_Mo_obeys_0_j12 u a b = MT_0 (MT_0 (MT_0 (MT_0 (MT_0 u 0 1) 1 0) 1 1) 2 0) 2 1 := by
    intro u
    unfold mf_Mo_obeys_0_j12 mf_Mo_obeys_0_j31 mf_Mo_obeys_0_j32 mf_Mo_obeys_0_j13
    simp only [h14]
    show (if mf_Mo_isGood_0 u (nI 0) = 0 then MT_0 (MT_0 (MT_0 (MT_0 u 1 0) 1 1) 2 0) 2 1 else if mf_Mo_outsAt u (nI (0 + 0)) ≤ nI 1 then MT_0 (MT_0 (MT_0 (MT_0 (fw_up u 46 0 (0 + 2 * 0 + 1) 0) 1 0) 1 1) 2 0) 2 1 else MT_0 (MT_0 (MT_0 (MT_0 (fw_up u 46 0 (0 + 2 * 0 + 1) (u 10 0 (2 * 0 + 1))) 1 0) 1 1) 2 0) 2 1) = MT_0 (MT_0 (MT_0 (MT_0 (if mf_Mo_isGood_0 u (nI 0) = 0 then u else fw_up u 46 0 (0 + 2 * 0 + 1) (if mf_Mo_outsAt u (nI (0 + 0)) ≤ nI 1 then 0 else u 10 0 (2 * 0 + 1))) 1 0) 1 1) 2 0) 2 1
    split
    · rfl
    · split <;> rfl
  unfold mf_Mo_obeys_0_j10 mf_Mo_obeys_0_j33 mf_Mo_obeys_0_j34 mf_Mo_obeys_0_j11
  simp only [h12]
  show (if mf_Mo_isGood_0 w (nI 0) = 0 then MT_0 (MT_0 (MT_0 (MT_0 (MT_0 w 0 1) 1 0) 1 1) 2 0) 2 1 else if mf_Mo_outsAt w (nI (0 + 0)) ≤ nI 0 then MT_0 (MT_0 (MT_0 (MT_0 (MT_0 (fw_up w 46 0 (0 + 2 * 0 + 0) 0) 0 1) 1 0) 1 1) 2 0) 2 1 else MT_0 (MT_0 (MT_0 (MT_0 (MT_0 (fw_up w 46 0 (0 + 2 * 0 + 0) (w 10 0 (2 * 0 + 0))) 0 1) 1 0) 1 1) 2 0) 2 1) = MT_0 (MT_0 (MT_0 (MT_0 (MT_0 (if mf_Mo_isGood_0 w (nI 0) = 0 then w else fw_up w 46 0 (0 + 2 * 0 + 0) (if mf_Mo_outsAt w (nI (0 + 0)) ≤ nI 0 then 0 else w 10 0 (2 * 0 + 0))) 0 1) 1 0) 1 1) 2 0) 2 1
  split
  · rfl
  · split <;> rfl
theorem MT_o_0 {w : fw_V} {s j c i k : Nat} (h : ¬ (c = 46 ∧ i = 0 ∧ k = 0 + 2 * s + j)) : MT_0 w s j c i k = w c i k := by
  unfold MT_0
  split
  · rfl
  · rw [fw_up_ne h]
def MV_0 (w : fw_V) (s j : Nat) : Int32 := if mf_Mo_isGood_0 w (nI s) = 0 then w 46 0 (0 + 2 * s + j) else if mf_Mo_outsAt w (nI (0 + s)) ≤ nI j then 0 else w 10 0 (2 * s + j)
theorem MT_v_0 {w : fw_V} {s j : Nat} : MT_0 w s j 46 0 (0 + 2 * s + j) = MV_0 w s j := by
  unfold MT_0 MV_0
  split
  · rfl
  · rw [fw_up_s]
theorem MV_cg_0 {w w' : fw_V} {s j : Nat} (h : ∀ c k, ¬ (c = 46 ∧ k ≠ 0 + 2 * s + j) → w' c 0 k = w c 0 k) : MV_0 w' s j = MV_0 w s j := by
  have hc : ∀ c, c ≠ 46 → ∀ k, w' c 0 k = w c 0 k := fun c hc k => h c k (fun q => hc q.1)
  unfold MV_0 mf_Mo_isGood_0 mf_Mo_outsAt
  simp only [hc 43 (by decide), hc 31 (by decide), hc 42 (by decide), hc 2 (by decide), hc 10 (by decide), h 46 (0 + 2 * s + j) (fun q => q.2 rfl)]
theorem mt_3_0 {w : fw_V} {a b : Int32} : (∀ s j, s < 3 → j < 2 → mf_Mo_obeys_0_j10 w a b 46 0 (0 + 2 * s + j) = MV_0 w s j) ∧ ∀ c i k, ¬ (c = 46 ∧ i = 0 ∧ 0 ≤ k ∧ k < 0 + 6) → mf_Mo_obeys_0_j10 w a b c i k = w c i k := by
  rw [mt_eq_0]
  refine ⟨fun s j hs hj => ?_, fun c i k h => ?_⟩
  · rcases (show s = 0 ∨ s = 1 ∨ s = 2 by omega) with rfl | rfl | rfl <;> rcases (show j = 0 ∨ j = 1 by omega) with rfl | rfl
    · rw [MT_o_0 (by omega), MT_o_0 (by omega), MT_o_0 (by omega), MT_o_0 (by omega), MT_o_0 (by omega)]
      exact MT_v_0
    · rw [MT_o_0 (by omega), MT_o_0 (by omega), MT_o_0 (by omega), MT_o_0 (by omega), MT_v_0]
      exact MV_cg_0 (fun c k h => MT_o_0 (by omega))
    · rw [MT_o_0 (by omega), MT_o_0 (by omega), MT_o_0 (by omega), MT_v_0]
      exact MV_cg_0 (fun c k h => by rw [MT_o_0 (by omega), MT_o_0 (by omega)])
    · rw [MT_o_0 (by omega), MT_o_0 (by omega), MT_v_0]
      exact MV_cg_0 (fun c k h => by rw [MT_o_0 (by omega), MT_o_0 (by omega), MT_o_0 (by omega)])
    · rw [MT_o_0 (by omega), MT_v_0]
      exact MV_cg_0 (fun c k h => by rw [MT_o_0 (by omega), MT_o_0 (by omega), MT_o_0 (by omega), MT_o_0 (by omega)])
    · rw [MT_v_0]
      exact MV_cg_0 (fun c k h => by rw [MT_o_0 (by omega), MT_o_0 (by omega), MT_o_0 (by omega), MT_o_0 (by omega), MT_o_0 (by omega)])
  · rw [MT_o_0 (by omega), MT_o_0 (by omega), MT_o_0 (by omega), MT_o_0 (by omega), MT_o_0 (by omega), MT_o_0 (by omega)]
theorem outsAt_0 {w : fw_V} {s : Nat} (hs : s < 3) : mf_Mo_outsAt w (nI (0 + s)) = if w 42 0 (3 * 0 + s) < 0 then 0 else w 2 0 (w 42 0 (3 * 0 + s)).toNatClampNeg := by
  unfold mf_Mo_outsAt
  rw [nI_clamp (by omega), show 0 + s = 3 * 0 + s by omega]
  by_cases h : w 42 0 (3 * 0 + s) < 0
  · rw [if_pos h, if_neg (Int32.not_le.mpr h)]
  · rw [if_neg h, if_pos (Int32.not_lt.mp h)]
/-- OUTPUT -/
theorem De_out_0 {v w : fw_V} {q : Nat} {n : Int32} (h : DB_0 v w) (hK : Kd v w) (f2 : v 7 q 2 = n) (f8 : ∀ t, t < 7 → v 8 q t = w 10 0 t) (h12 : vp_in n 256) : DB_0 (xf_De_takeOutput v 0 q) (mf_Mo_obeys_0 w 12 n) := by
  have hD := h.dv
  have hI := h.di
  unfold xf_De_takeOutput
  rw [ob12_0, h.dv.st, f2]
  by_cases h3 : w 28 0 0 = 3
  · rw [if_pos h3, if_pos h3]
    (try dsimp only)
    rw [newer_0 (hI.l3 h3) (hD.ta h3)]
    by_cases hn : mf_Mo_isNewer n (w 35 0 0) = 0
    · rw [if_pos hn, if_pos hn]
      (try dsimp only)
      rw [if_pos rfl]; exact h
    · rw [if_neg hn, if_neg hn]
      (try dsimp only)
      rw [if_neg (show ¬ (1 : Int32) = 0 by decide)]
      obtain ⟨v6, e6⟩ : ∃ v6, v6 = fw_up (fw_up v 14 (0 + 2) 1 n) 19 0 16 0 := ⟨_, rfl⟩
      obtain ⟨w6, g6⟩ : ∃ w6, w6 = fw_up (fw_up w 35 0 0 n) 32 0 0 0 := ⟨_, rfl⟩
      rw [← e6, ← g6]
      have d6 : Dv 0 v6 w6 := by
        rw [e6, g6]
        refine ⟨?_, ?_, ?_, ?_, ?_, ?_, ?_, ?_, ?_, ?_, ?_, ?_, ?_, ?_, ?_, ?_, ?_, ?_, ?_, ?_, ?_, ?_⟩
        · simp [fw_up]; exact hD.ix
        · simp [fw_up]; exact hD.nm
        · simp [fw_up]; exact hD.fb
        · simp [fw_up]; exact hD.oc
        · simp [fw_up]; exact hD.st
        · simp [fw_up]; exact hD.se
        · simp [fw_up]; exact hD.di
        · simp [fw_up]
        · simp [fw_up]; exact hD.ag
        · simp [fw_up]; exact hD.ne
        · simp [fw_up]
        · simp [fw_up]; exact hD.qs
        · simp [fw_up]; exact hD.qw
        · simp [fw_up]; exact hD.qn
        · simp [fw_up]; exact hD.qt
        · simp [fw_up]; simpa using hD.sl
        · simp [fw_up]; simpa using hD.sk
        · simp [fw_up]; simpa using hD.mo
        · simp [fw_up]; simpa using hD.wa
        · simp [fw_up]; simpa using hD.wr
        · simp [fw_up]; simpa using hD.sn
        · simp [fw_up]; simpa using hD.sh
      have i6 : Di 0 v6 w6 := by
        rw [e6, g6]
        refine ⟨?_, ?_, ?_, ?_, ?_, ?_, ?_, ?_, ?_, ?_, ?_, ?_, ?_, ?_, ?_, ?_, ?_⟩
        · simp [fw_up]; exact hI.s4
        · simp [fw_up, h3]
        · simp [fw_up, h3]
        · simp [fw_up, h3]
        · simp [fw_up, h3]
        · simp [fw_up]; intro; exact fw_inc (by decide)
        · simp [fw_up]; exact hI.n3
        · simp [fw_up]; intro; exact Or.inr h12
        · simp [fw_up]; exact hI.q5
        · simp [fw_up]; exact hI.nn
        · simp [fw_up]; exact hI.wn
        · simp [fw_up]; exact hI.wp
        · simp [fw_up]; simpa using hI.wt
        · simp [fw_up]; exact hI.sb
        · simp [fw_up]; simpa using hI.m8
        · simp [fw_up]; simpa using hI.w8
        · simp [fw_up]; simpa using hI.a3
      have v6c : ∀ c i k, c ≠ 14 → c ≠ 19 → v6 c i k = v c i k := fun c i k a b => by rw [e6, fw_up_c b, fw_up_c a]
      have w6c : ∀ c k, c ≠ 35 → c ≠ 32 → w6 c 0 k = w c 0 k := fun c k a b => by rw [g6, fw_up_c b, fw_up_c a]
      have hK6 : Kd v6 w6 := ⟨fun k hk => by rw [v6c 2 0 k (by decide) (by decide), w6c 1 k (by decide) (by decide)]; exact hK.ki k hk, fun k hk => by rw [v6c 3 0 k (by decide) (by decide), w6c 2 k (by decide) (by decide)]; exact hK.ko k hk, fun k hk => by rw [v6c 4 0 k (by decide) (by decide), w6c 3 k (by decide) (by decide)]; exact hK.kn k hk⟩
      have s6 : w6 28 0 0 ≠ 0 := by rw [w6c 28 _ (by decide) (by decide), h3]; decide
      obtain ⟨x1, x2⟩ := to_3 (v := v6) (r := 0) (k := q)
      obtain ⟨m1, m2⟩ := mt_3_0 (w := w6) (a := 12) (b := n)
      refine ⟨Dv_sh_0 d6 (fun c k q1 q2 q3 => x2 c 0 k (by omega)) (fun k => x2 14 _ k (by omega)) (fun c k q1 q2 q3 => m2 c 0 k (by omega)) (fun i hi => ?_), Di_sh_0 i6 (x2 20 0 4 (by omega)) (fun c k q1 q2 q3 => m2 c 0 k (by omega)), ?_, ?_⟩
      · obtain ⟨s, j, hs, hj, rfl⟩ : ∃ s j, s < 3 ∧ j < 2 ∧ i = 2 * s + j := ⟨i / 2, i % 2, by omega, by omega, by omega⟩
        rw [x1 s j hs hj, show 6 * 0 + (2 * s + j) = 0 + 2 * s + j by omega, m1 s j hs hj]
        unfold TV MV_0 RX
        rw [good_0 hs d6.di (d6.wa s6 s hs) (i6.w8 s6 s hs), d6.mo s hs, KT_outs hK6 (i6.m8 s hs), outsAt_0 hs, d6.sh _ (by omega), show 6 * 0 + (2 * s + j) = 0 + 2 * s + j by omega, v6c 8 q _ (by decide) (by decide), f8 _ (by omega), w6c 10 _ (by decide) (by decide)]
      · exact Wr_cg h.wr (fun c i k q1 q2 => by rw [x2 c i k (by omega), v6c c i k (by omega) (by omega)]) ⟨by rw [m2 0 0 10 (by omega), w6c 0 10 (by decide) (by decide)], by rw [m2 0 0 50 (by omega), w6c 0 50 (by decide) (by decide)], by rw [m2 0 0 51 (by omega), w6c 0 51 (by decide) (by decide)]⟩ (fun c k q1 q2 => by rw [m2 c 0 k (by omega), w6c c k (by omega) (by omega)])
      · exact fun t ht => by rw [m2 9 0 t (by omega), w6c 9 t (by decide) (by decide)]; exact h.at t ht
  · rw [if_neg h3, if_neg h3]; exact h

/-- octet i of OUTPUT, as the reference shows it -/
def MT_1 (w : fw_V) (s j : Nat) : fw_V := if mf_Mo_isGood_1 w (nI s) = 0 then w else fw_up w 46 0 (6 + 2 * s + j) (if mf_Mo_outsAt w (nI (3 + s)) ≤ nI j then 0 else w 10 0 (2 * s + j))
theorem mt_eq_1 (w : fw_V) (a b : Int32) : mf_Mo_obeys_1_j10 w a b = MT_1 (MT_1 (MT_1 (MT_1 (MT_1 (MT_1 w 0 0) 0 1) 1 0) 1 1) 2 0) 2 1 := by
  have h20 : ∀ u : fw_V, mf_Mo_obeys_1_j20 u a b = MT_1 u 2 1 := by
    intro u
    unfold mf_Mo_obeys_1_j20 mf_Mo_obeys_1_j21 mf_Mo_obeys_1_j22 mf_Mo_obeys_1_j23 mf_Mo_obeys_1_j24
    show (if mf_Mo_isGood_1 u (nI 2) = 0 then u else if mf_Mo_outsAt u (nI (3 + 2)) ≤ nI 1 then fw_up u 46 0 (6 + 2 * 2 + 1) 0 else fw_up u 46 0 (6 + 2 * 2 + 1) (u 10 0 (2 * 2 + 1))) = (if mf_Mo_isGood_1 u (nI 2) = 0 then u else fw_up u 46 0 (6 + 2 * 2 + 1) (if mf_Mo_outsAt u (nI (3 + 2)) ≤ nI 1 then 0 else u 10 0 (2 * 2 + 1)))
    split
    · rfl
    · split <;> rfl
  have h18 : ∀ u : fw_V, mf_Mo_obeys_1_j18 u a b = MT_1 (MT_1 u 2 0) 2 1 := by
    intro u
    unfold mf_Mo_obeys_1_j18 mf_Mo_obeys_1_j25 mf_Mo_obeys_1_j26 mf_Mo_obeys_1_j19
    simp only [h20]
    show (if mf_Mo_isGood_1 u (nI 2) = 0 then MT_1 u 2 1 else if mf_Mo_outsAt u (nI (3 + 2)) ≤ nI 0 then MT_1 (fw_up u 46 0 (6 + 2 * 2 + 0) 0) 2 1 else MT_1 (fw_up u 46 0 (6 + 2 * 2 + 0) (u 10 0 (2 * 2 + 0))) 2 1) = MT_1 (if mf_Mo_isGood_1 u (nI 2) = 0 then u else fw_up u 46 0 (6 + 2 * 2 + 0) (if mf_Mo_outsAt u (nI (3 + 2)) ≤ nI 0 then 0 else u 10 0 (2 * 2 + 0))) 2 1
    split
    · rfl
    · split <;> rfl
  have h16 : ∀ u : fw_V, mf_Mo_obeys_1_j16 u a b = MT_1 (MT_1 (MT_1 u 1 1) 2 0) 2 1 := by
    intro u
    unfold mf_Mo_obeys_1_j16 mf_Mo_obeys_1_j27 mf_Mo_obeys_1_j28 mf_Mo_obeys_1_j17
    simp only [h18]
    show (if mf_Mo_isGood_1 u (nI 1) = 0 then MT_1 (MT_1 u 2 0) 2 1 else if mf_Mo_outsAt u (nI (3 + 1)) ≤ nI 1 then MT_1 (MT_1 (fw_up u 46 0 (6 + 2 * 1 + 1) 0) 2 0) 2 1 else MT_1 (MT_1 (fw_up u 46 0 (6 + 2 * 1 + 1) (u 10 0 (2 * 1 + 1))) 2 0) 2 1) = MT_1 (MT_1 (if mf_Mo_isGood_1 u (nI 1) = 0 then u else fw_up u 46 0 (6 + 2 * 1 + 1) (if mf_Mo_outsAt u (nI (3 + 1)) ≤ nI 1 then 0 else u 10 0 (2 * 1 + 1))) 2 0) 2 1
    split
    · rfl
    · split <;> rfl
  have h14 : ∀ u : fw_V, mf_Mo_obeys_1_j14 u a b = MT_1 (MT_1 (MT_1 (MT_1 u 1 0) 1 1) 2 0) 2 1 := by
    intro u
    unfold mf_Mo_obeys_1_j14 mf_Mo_obeys_1_j29 mf_Mo_obeys_1_j30 mf_Mo_obeys_1_j15
    simp only [h16]
    show (if mf_Mo_isGood_1 u (nI 1) = 0 then MT_1 (MT_1 (MT_1 u 1 1) 2 0) 2 1 else if mf_Mo_outsAt u (nI (3 + 1)) ≤ nI 0 then MT_1 (MT_1 (MT_1 (fw_up u 46 0 (6 + 2 * 1 + 0) 0) 1 1) 2 0) 2 1 else MT_1 (MT_1 (MT_1 (fw_up u 46 0 (6 + 2 * 1 + 0) (u 10 0 (2 * 1 + 0))) 1 1) 2 0) 2 1) = MT_1 (MT_1 (MT_1 (if mf_Mo_isGood_1 u (nI 1) = 0 then u else fw_up u 46 0 (6 + 2 * 1 + 0) (if mf_Mo_outsAt u (nI (3 + 1)) ≤ nI 0 then 0 else u 10 0 (2 * 1 + 0))) 1 1) 2 0) 2 1
    split
    · rfl
    · split <;> rfl
  have h12 : ∀ u : fw_V, mf_Mo_obeys_1_j12 u a b = MT_1 (MT_1 (MT_1 (MT_1 (MT_1 u 0 1) 1 0) 1 1) 2 0) 2 1 := by
    intro u
    unfold mf_Mo_obeys_1_j12 mf_Mo_obeys_1_j31 mf_Mo_obeys_1_j32 mf_Mo_obeys_1_j13
    simp only [h14]
    show (if mf_Mo_isGood_1 u (nI 0) = 0 then MT_1 (MT_1 (MT_1 (MT_1 u 1 0) 1 1) 2 0) 2 1 else if mf_Mo_outsAt u (nI (3 + 0)) ≤ nI 1 then MT_1 (MT_1 (MT_1 (MT_1 (fw_up u 46 0 (6 + 2 * 0 + 1) 0) 1 0) 1 1) 2 0) 2 1 else MT_1 (MT_1 (MT_1 (MT_1 (fw_up u 46 0 (6 + 2 * 0 + 1) (u 10 0 (2 * 0 + 1))) 1 0) 1 1) 2 0) 2 1) = MT_1 (MT_1 (MT_1 (MT_1 (if mf_Mo_isGood_1 u (nI 0) = 0 then u else fw_up u 46 0 (6 + 2 * 0 + 1) (if mf_Mo_outsAt u (nI (3 + 0)) ≤ nI 1 then 0 else u 10 0 (2 * 0 + 1))) 1 0) 1 1) 2 0) 2 1
    split
    · rfl
    · split <;> rfl
  unfold mf_Mo_obeys_1_j10 mf_Mo_obeys_1_j33 mf_Mo_obeys_1_j34 mf_Mo_obeys_1_j11
  simp only [h12]
  show (if mf_Mo_isGood_1 w (nI 0) = 0 then MT_1 (MT_1 (MT_1 (MT_1 (MT_1 w 0 1) 1 0) 1 1) 2 0) 2 1 else if mf_Mo_outsAt w (nI (3 + 0)) ≤ nI 0 then MT_1 (MT_1 (MT_1 (MT_1 (MT_1 (fw_up w 46 0 (6 + 2 * 0 + 0) 0) 0 1) 1 0) 1 1) 2 0) 2 1 else MT_1 (MT_1 (MT_1 (MT_1 (MT_1 (fw_up w 46 0 (6 + 2 * 0 + 0) (w 10 0 (2 * 0 + 0))) 0 1) 1 0) 1 1) 2 0) 2 1) = MT_1 (MT_1 (MT_1 (MT_1 (MT_1 (if mf_Mo_isGood_1 w (nI 0) = 0 then w else fw_up w 46 0 (6 + 2 * 0 + 0) (if mf_Mo_outsAt w (nI (3 + 0)) ≤ nI 0 then 0 else w 10 0 (2 * 0 + 0))) 0 1) 1 0) 1 1) 2 0) 2 1
  split
  · rfl
  · split <;> rfl
theorem MT_o_1 {w : fw_V} {s j c i k : Nat} (h : ¬ (c = 46 ∧ i = 0 ∧ k = 6 + 2 * s + j)) : MT_1 w s j c i k = w c i k := by
  unfold MT_1
  split
  · rfl
  · rw [fw_up_ne h]
def MV_1 (w : fw_V) (s j : Nat) : Int32 := if mf_Mo_isGood_1 w (nI s) = 0 then w 46 0 (6 + 2 * s + j) else if mf_Mo_outsAt w (nI (3 + s)) ≤ nI j then 0 else w 10 0 (2 * s + j)
theorem MT_v_1 {w : fw_V} {s j : Nat} : MT_1 w s j 46 0 (6 + 2 * s + j) = MV_1 w s j := by
  unfold MT_1 MV_1
  split
  · rfl
  · rw [fw_up_s]
theorem MV_cg_1 {w w' : fw_V} {s j : Nat} (h : ∀ c k, ¬ (c = 46 ∧ k ≠ 6 + 2 * s + j) → w' c 0 k = w c 0 k) : MV_1 w' s j = MV_1 w s j := by
  have hc : ∀ c, c ≠ 46 → ∀ k, w' c 0 k = w c 0 k := fun c hc k => h c k (fun q => hc q.1)
  unfold MV_1 mf_Mo_isGood_1 mf_Mo_outsAt
  simp only [hc 43 (by decide), hc 31 (by decide), hc 42 (by decide), hc 2 (by decide), hc 10 (by decide), h 46 (6 + 2 * s + j) (fun q => q.2 rfl)]
theorem mt_3_1 {w : fw_V} {a b : Int32} : (∀ s j, s < 3 → j < 2 → mf_Mo_obeys_1_j10 w a b 46 0 (6 + 2 * s + j) = MV_1 w s j) ∧ ∀ c i k, ¬ (c = 46 ∧ i = 0 ∧ 6 ≤ k ∧ k < 6 + 6) → mf_Mo_obeys_1_j10 w a b c i k = w c i k := by
  rw [mt_eq_1]
  refine ⟨fun s j hs hj => ?_, fun c i k h => ?_⟩
  · rcases (show s = 0 ∨ s = 1 ∨ s = 2 by omega) with rfl | rfl | rfl <;> rcases (show j = 0 ∨ j = 1 by omega) with rfl | rfl
    · rw [MT_o_1 (by omega), MT_o_1 (by omega), MT_o_1 (by omega), MT_o_1 (by omega), MT_o_1 (by omega)]
      exact MT_v_1
    · rw [MT_o_1 (by omega), MT_o_1 (by omega), MT_o_1 (by omega), MT_o_1 (by omega), MT_v_1]
      exact MV_cg_1 (fun c k h => MT_o_1 (by omega))
    · rw [MT_o_1 (by omega), MT_o_1 (by omega), MT_o_1 (by omega), MT_v_1]
      exact MV_cg_1 (fun c k h => by rw [MT_o_1 (by omega), MT_o_1 (by omega)])
    · rw [MT_o_1 (by omega), MT_o_1 (by omega), MT_v_1]
      exact MV_cg_1 (fun c k h => by rw [MT_o_1 (by omega), MT_o_1 (by omega), MT_o_1 (by omega)])
    · rw [MT_o_1 (by omega), MT_v_1]
      exact MV_cg_1 (fun c k h => by rw [MT_o_1 (by omega), MT_o_1 (by omega), MT_o_1 (by omega), MT_o_1 (by omega)])
    · rw [MT_v_1]
      exact MV_cg_1 (fun c k h => by rw [MT_o_1 (by omega), MT_o_1 (by omega), MT_o_1 (by omega), MT_o_1 (by omega), MT_o_1 (by omega)])
  · rw [MT_o_1 (by omega), MT_o_1 (by omega), MT_o_1 (by omega), MT_o_1 (by omega), MT_o_1 (by omega), MT_o_1 (by omega)]
theorem outsAt_1 {w : fw_V} {s : Nat} (hs : s < 3) : mf_Mo_outsAt w (nI (3 + s)) = if w 42 0 (3 * 1 + s) < 0 then 0 else w 2 0 (w 42 0 (3 * 1 + s)).toNatClampNeg := by
  unfold mf_Mo_outsAt
  rw [nI_clamp (by omega), show 3 + s = 3 * 1 + s by omega]
  by_cases h : w 42 0 (3 * 1 + s) < 0
  · rw [if_pos h, if_neg (Int32.not_le.mpr h)]
  · rw [if_neg h, if_pos (Int32.not_lt.mp h)]
/-- OUTPUT -/
theorem De_out_1 {v w : fw_V} {q : Nat} {n : Int32} (h : DB_1 v w) (hK : Kd v w) (f2 : v 7 q 2 = n) (f8 : ∀ t, t < 7 → v 8 q t = w 10 0 t) (h12 : vp_in n 256) : DB_1 (xf_De_takeOutput v 1 q) (mf_Mo_obeys_1 w 12 n) := by
  have hD := h.dv
  have hI := h.di
  unfold xf_De_takeOutput
  rw [ob12_1, h.dv.st, f2]
  by_cases h3 : w 28 0 1 = 3
  · rw [if_pos h3, if_pos h3]
    (try dsimp only)
    rw [newer_1 (hI.l3 h3) (hD.ta h3)]
    by_cases hn : mf_Mo_isNewer n (w 35 0 1) = 0
    · rw [if_pos hn, if_pos hn]
      (try dsimp only)
      rw [if_pos rfl]; exact h
    · rw [if_neg hn, if_neg hn]
      (try dsimp only)
      rw [if_neg (show ¬ (1 : Int32) = 0 by decide)]
      obtain ⟨v6, e6⟩ : ∃ v6, v6 = fw_up (fw_up v 14 (1 + 2) 1 n) 19 1 16 0 := ⟨_, rfl⟩
      obtain ⟨w6, g6⟩ : ∃ w6, w6 = fw_up (fw_up w 35 0 1 n) 32 0 1 0 := ⟨_, rfl⟩
      rw [← e6, ← g6]
      have d6 : Dv 1 v6 w6 := by
        rw [e6, g6]
        refine ⟨?_, ?_, ?_, ?_, ?_, ?_, ?_, ?_, ?_, ?_, ?_, ?_, ?_, ?_, ?_, ?_, ?_, ?_, ?_, ?_, ?_, ?_⟩
        · simp [fw_up]; exact hD.ix
        · simp [fw_up]; exact hD.nm
        · simp [fw_up]; exact hD.fb
        · simp [fw_up]; exact hD.oc
        · simp [fw_up]; exact hD.st
        · simp [fw_up]; exact hD.se
        · simp [fw_up]; exact hD.di
        · simp [fw_up]
        · simp [fw_up]; exact hD.ag
        · simp [fw_up]; exact hD.ne
        · simp [fw_up]
        · simp [fw_up]; exact hD.qs
        · simp [fw_up]; exact hD.qw
        · simp [fw_up]; exact hD.qn
        · simp [fw_up]; exact hD.qt
        · simp [fw_up]; simpa using hD.sl
        · simp [fw_up]; simpa using hD.sk
        · simp [fw_up]; simpa using hD.mo
        · simp [fw_up]; simpa using hD.wa
        · simp [fw_up]; simpa using hD.wr
        · simp [fw_up]; simpa using hD.sn
        · simp [fw_up]; simpa using hD.sh
      have i6 : Di 1 v6 w6 := by
        rw [e6, g6]
        refine ⟨?_, ?_, ?_, ?_, ?_, ?_, ?_, ?_, ?_, ?_, ?_, ?_, ?_, ?_, ?_, ?_, ?_⟩
        · simp [fw_up]; exact hI.s4
        · simp [fw_up, h3]
        · simp [fw_up, h3]
        · simp [fw_up, h3]
        · simp [fw_up, h3]
        · simp [fw_up]; intro; exact fw_inc (by decide)
        · simp [fw_up]; exact hI.n3
        · simp [fw_up]; intro; exact Or.inr h12
        · simp [fw_up]; exact hI.q5
        · simp [fw_up]; exact hI.nn
        · simp [fw_up]; exact hI.wn
        · simp [fw_up]; exact hI.wp
        · simp [fw_up]; simpa using hI.wt
        · simp [fw_up]; exact hI.sb
        · simp [fw_up]; simpa using hI.m8
        · simp [fw_up]; simpa using hI.w8
        · simp [fw_up]; simpa using hI.a3
      have v6c : ∀ c i k, c ≠ 14 → c ≠ 19 → v6 c i k = v c i k := fun c i k a b => by rw [e6, fw_up_c b, fw_up_c a]
      have w6c : ∀ c k, c ≠ 35 → c ≠ 32 → w6 c 0 k = w c 0 k := fun c k a b => by rw [g6, fw_up_c b, fw_up_c a]
      have hK6 : Kd v6 w6 := ⟨fun k hk => by rw [v6c 2 0 k (by decide) (by decide), w6c 1 k (by decide) (by decide)]; exact hK.ki k hk, fun k hk => by rw [v6c 3 0 k (by decide) (by decide), w6c 2 k (by decide) (by decide)]; exact hK.ko k hk, fun k hk => by rw [v6c 4 0 k (by decide) (by decide), w6c 3 k (by decide) (by decide)]; exact hK.kn k hk⟩
      have s6 : w6 28 0 1 ≠ 0 := by rw [w6c 28 _ (by decide) (by decide), h3]; decide
      obtain ⟨x1, x2⟩ := to_3 (v := v6) (r := 1) (k := q)
      obtain ⟨m1, m2⟩ := mt_3_1 (w := w6) (a := 12) (b := n)
      refine ⟨Dv_sh_1 d6 (fun c k q1 q2 q3 => x2 c 1 k (by omega)) (fun k => x2 14 _ k (by omega)) (fun c k q1 q2 q3 => m2 c 0 k (by omega)) (fun i hi => ?_), Di_sh_1 i6 (x2 20 1 4 (by omega)) (fun c k q1 q2 q3 => m2 c 0 k (by omega)), ?_, ?_⟩
      · obtain ⟨s, j, hs, hj, rfl⟩ : ∃ s j, s < 3 ∧ j < 2 ∧ i = 2 * s + j := ⟨i / 2, i % 2, by omega, by omega, by omega⟩
        rw [x1 s j hs hj, show 6 * 1 + (2 * s + j) = 6 + 2 * s + j by omega, m1 s j hs hj]
        unfold TV MV_1 RX
        rw [good_1 hs d6.di (d6.wa s6 s hs) (i6.w8 s6 s hs), d6.mo s hs, KT_outs hK6 (i6.m8 s hs), outsAt_1 hs, d6.sh _ (by omega), show 6 * 1 + (2 * s + j) = 6 + 2 * s + j by omega, v6c 8 q _ (by decide) (by decide), f8 _ (by omega), w6c 10 _ (by decide) (by decide)]
      · exact Wr_cg h.wr (fun c i k q1 q2 => by rw [x2 c i k (by omega), v6c c i k (by omega) (by omega)]) ⟨by rw [m2 0 0 10 (by omega), w6c 0 10 (by decide) (by decide)], by rw [m2 0 0 50 (by omega), w6c 0 50 (by decide) (by decide)], by rw [m2 0 0 51 (by omega), w6c 0 51 (by decide) (by decide)]⟩ (fun c k q1 q2 => by rw [m2 c 0 k (by omega), w6c c k (by omega) (by omega)])
      · exact fun t ht => by rw [m2 9 0 t (by omega), w6c 9 t (by decide) (by decide)]; exact h.at t ht
  · rw [if_neg h3, if_neg h3]; exact h

/-- one ALARM goes a place forward -/
theorem De_sh1_0 {v w : fw_V} {j : Nat} (hj : j < 3) (h : DB_0 v w) : DB_0 (fw_up (fw_up v 21 0 j (v 21 0 (j + 1))) 22 0 j (v 22 0 (j + 1))) (fw_up (fw_up w 47 0 (4 * 0 + j) (w 47 0 (4 * 0 + j + 1))) 48 0 (4 * 0 + j) (w 48 0 (4 * 0 + j + 1))) := by
  have hD := h.dv
  have hI := h.di
  refine ⟨?_, ?_, ?_, ?_⟩
  · refine ⟨?_, ?_, ?_, ?_, ?_, ?_, ?_, ?_, ?_, ?_, ?_, ?_, ?_, ?_, ?_, fun z hz => ?_, fun z hz => ?_, ?_, ?_, ?_, ?_, ?_⟩
    · simp [fw_up]; exact hD.ix
    · simp [fw_up]; exact hD.nm
    · simp [fw_up]; exact hD.fb
    · simp [fw_up]; exact hD.oc
    · simp [fw_up]; exact hD.st
    · simp [fw_up]; exact hD.se
    · simp [fw_up]; exact hD.di
    · simp [fw_up]; exact hD.ti
    · simp [fw_up]; exact hD.ag
    · simp [fw_up]; exact hD.ne
    · simp [fw_up]; exact hD.ta
    · simp [fw_up]; exact hD.qs
    · simp [fw_up]; exact hD.qw
    · simp [fw_up]; exact hD.qn
    · simp [fw_up]; exact hD.qt
    · by_cases e : z = j
      · subst e
        rw [fw_up_c (c := 22) (c' := 21) (by decide), fw_up_s, fw_up_c (c := 48) (c' := 47) (by decide), fw_up_s]; exact hD.sl (z + 1) (by omega)
      · rw [fw_up_k e, fw_up_k e, fw_up_k (show 4 * 0 + z ≠ 4 * 0 + j by omega), fw_up_k (show 4 * 0 + z ≠ 4 * 0 + j by omega)]; exact hD.sl z hz
    · by_cases e : z = j
      · subst e; rw [fw_up_s, fw_up_s]; exact hD.sk (z + 1) (by omega)
      · rw [fw_up_k e, fw_up_k e, fw_up_k (show 4 * 0 + z ≠ 4 * 0 + j by omega), fw_up_k (show 4 * 0 + z ≠ 4 * 0 + j by omega)]; exact hD.sk z hz
    · simp [fw_up]; simpa using hD.mo
    · simp [fw_up]; simpa using hD.wa
    · simp [fw_up]; simpa using hD.wr
    · simp [fw_up]; simpa using hD.sn
    · simp [fw_up]; simpa using hD.sh
  · refine ⟨?_, ?_, ?_, ?_, ?_, ?_, ?_, ?_, ?_, ?_, ?_, ?_, ?_, ?_, ?_, ?_, fun z hz => ?_⟩
    · simp [fw_up]; exact hI.s4
    · simp [fw_up]; simpa using hI.c0
    · simp [fw_up]; exact hI.nq
    · simp [fw_up]; exact hI.t1
    · simp [fw_up]; exact hI.t2
    · simp [fw_up]; exact hI.t3
    · simp [fw_up]; exact hI.n3
    · simp [fw_up]; exact hI.l3
    · simp [fw_up]; exact hI.q5
    · simp [fw_up]; exact hI.nn
    · simp [fw_up]; exact hI.wn
    · simp [fw_up]; exact hI.wp
    · simp [fw_up]; simpa using hI.wt
    · simp [fw_up]; exact hI.sb
    · simp [fw_up]; simpa using hI.m8
    · simp [fw_up]; simpa using hI.w8
    · by_cases e : z = j
      · subst e; rw [fw_up_c (c := 48) (c' := 47) (by decide), fw_up_s]; exact hI.a3 (z + 1) (by omega)
      · rw [fw_up_k (show 4 * 0 + z ≠ 4 * 0 + j by omega), fw_up_k (show 4 * 0 + z ≠ 4 * 0 + j by omega)]; exact hI.a3 z hz
  · exact Wr_cg h.wr (fun c i k q1 q2 => by rw [fw_up_c (by omega), fw_up_c (by omega)]) ⟨by rw [fw_up_c (by decide), fw_up_c (by decide)], by rw [fw_up_c (by decide), fw_up_c (by decide)], by rw [fw_up_c (by decide), fw_up_c (by decide)]⟩ (fun c k q1 q2 => by rw [fw_up_c (by omega), fw_up_c (by omega)])
  · exact fun t ht => by rw [fw_up_c (by decide), fw_up_c (by decide)]; exact h.at t ht
def SX_0 (v : fw_V) (j : Nat) : fw_V := fw_up (fw_up v 21 0 j (v 21 0 (j + 1))) 22 0 j (v 22 0 (j + 1))
def SM_0 (w : fw_V) (j : Nat) : fw_V := fw_up (fw_up w 47 0 (4 * 0 + j) (w 47 0 (4 * 0 + j + 1))) 48 0 (4 * 0 + j) (w 48 0 (4 * 0 + j + 1))
theorem SX_2_0 {v : fw_V} {j : Nat} : SX_0 v j 20 0 2 = v 20 0 2 := by unfold SX_0; rw [fw_up_c (by decide), fw_up_c (by decide)]
theorem SM_37_0 {w : fw_V} {j : Nat} : SM_0 w j 37 0 0 = w 37 0 0 := by unfold SM_0; rw [fw_up_c (by decide), fw_up_c (by decide)]
theorem sx3_0 {v : fw_V} {p : Nat} {n : Int32} (hp : p < 4) (q : v 20 0 2 = nI p) : xf_AQ_taken_j3 v 0 n = if p ≤ 2 then v else SX_0 v 2 := by
  unfold xf_AQ_taken_j3 xf_AQ_taken_j4
  (try dsimp only)
  rw [q, fw_up_c (show (22 : Nat) ≠ 21 by decide)]
  by_cases z : p ≤ 2
  · rw [if_pos z]; exact if_pos ((nI_leI (a := p) (b := 2) (by omega) (by omega)).mpr z)
  · rw [if_neg z]; exact if_neg (fun y => z ((nI_leI (a := p) (b := 2) (by omega) (by omega)).mp y))
theorem sx2_0 {v : fw_V} {p : Nat} {n : Int32} (hp : p < 4) (q : v 20 0 2 = nI p) : xf_AQ_taken_j2 v 0 n = if p ≤ 1 then v else xf_AQ_taken_j3 (SX_0 v 1) 0 n := by
  unfold xf_AQ_taken_j2
  (try dsimp only)
  rw [q, fw_up_c (show (22 : Nat) ≠ 21 by decide)]
  by_cases z : p ≤ 1
  · rw [if_pos z]; exact if_pos ((nI_leI (a := p) (b := 1) (by omega) (by omega)).mpr z)
  · rw [if_neg z]; exact if_neg (fun y => z ((nI_leI (a := p) (b := 1) (by omega) (by omega)).mp y))
theorem sx1_0 {v : fw_V} {p : Nat} {n : Int32} (hp : p < 4) (q : v 20 0 2 = nI p) : xf_AQ_taken_j1 v 0 n = if p ≤ 0 then v else xf_AQ_taken_j2 (SX_0 v 0) 0 n := by
  unfold xf_AQ_taken_j1
  (try dsimp only)
  rw [q, fw_up_c (show (22 : Nat) ≠ 21 by decide)]
  by_cases z : p ≤ 0
  · rw [if_pos z]; exact if_pos ((nI_leI (a := p) (b := 0) (by omega) (by omega)).mpr z)
  · rw [if_neg z]; exact if_neg (fun y => z ((nI_leI (a := p) (b := 0) (by omega) (by omega)).mp y))
theorem cm4_0 {p z : Nat} (hp : p < 4) (hz : z < 3) : ((0 : Int32) + nI p ≤ nI (0 + z)) ↔ p ≤ z := by
  show (nI 0 + nI p ≤ nI (0 + z)) ↔ p ≤ z
  rw [nI_add, nI_leI (by omega) (by omega)]
  omega
theorem sm3_0 {w : fw_V} {p : Nat} {a b : Int32} (hp : p < 4) (q : w 37 0 0 = nI p) : mf_Mo_obeys_0_j8 w a b = if p ≤ 2 then w else SM_0 w 2 := by
  unfold mf_Mo_obeys_0_j8 mf_Mo_obeys_0_j9
  (try dsimp only)
  rw [q, fw_up_c (show (48 : Nat) ≠ 47 by decide)]
  by_cases z : p ≤ 2
  · rw [if_pos z]; exact if_pos ((cm4_0 hp (z := 2) (by decide)).mpr z)
  · rw [if_neg z]; exact if_neg (fun y => z ((cm4_0 hp (z := 2) (by decide)).mp y))
theorem sm2_0 {w : fw_V} {p : Nat} {a b : Int32} (hp : p < 4) (q : w 37 0 0 = nI p) : mf_Mo_obeys_0_j7 w a b = if p ≤ 1 then w else mf_Mo_obeys_0_j8 (SM_0 w 1) a b := by
  unfold mf_Mo_obeys_0_j7
  (try dsimp only)
  rw [q, fw_up_c (show (48 : Nat) ≠ 47 by decide)]
  by_cases z : p ≤ 1
  · rw [if_pos z]; exact if_pos ((cm4_0 hp (z := 1) (by decide)).mpr z)
  · rw [if_neg z]; exact if_neg (fun y => z ((cm4_0 hp (z := 1) (by decide)).mp y))
theorem sm1_0 {w : fw_V} {p : Nat} {a b : Int32} (hp : p < 4) (q : w 37 0 0 = nI p) : mf_Mo_obeys_0_j6 w a b = if p ≤ 0 then w else mf_Mo_obeys_0_j7 (SM_0 w 0) a b := by
  unfold mf_Mo_obeys_0_j6
  (try dsimp only)
  rw [q, fw_up_c (show (48 : Nat) ≠ 47 by decide)]
  by_cases z : p ≤ 0
  · rw [if_pos z]; exact if_pos ((cm4_0 hp (z := 0) (by decide)).mpr z)
  · rw [if_neg z]; exact if_neg (fun y => z ((cm4_0 hp (z := 0) (by decide)).mp y))
theorem De_shift_0 {v w : fw_V} {p : Nat} {n a b : Int32} (h : DB_0 v w) (hp : p < 4) (q : v 20 0 2 = nI p) (q' : w 37 0 0 = nI p) : DB_0 (xf_AQ_taken_j1 v 0 n) (mf_Mo_obeys_0_j6 w a b) := by
  have h1 : DB_0 (SX_0 v 0) (SM_0 w 0) := De_sh1_0 (j := 0) (by decide) h
  have h2 : DB_0 (SX_0 (SX_0 v 0) 1) (SM_0 (SM_0 w 0) 1) := De_sh1_0 (j := 1) (by decide) h1
  have h3 : DB_0 (SX_0 (SX_0 (SX_0 v 0) 1) 2) (SM_0 (SM_0 (SM_0 w 0) 1) 2) := De_sh1_0 (j := 2) (by decide) h2
  have q1 : SX_0 v 0 20 0 2 = nI p := SX_2_0.trans q
  have q2 : SX_0 (SX_0 v 0) 1 20 0 2 = nI p := SX_2_0.trans q1
  have p1 : SM_0 w 0 37 0 0 = nI p := SM_37_0.trans q'
  have p2 : SM_0 (SM_0 w 0) 1 37 0 0 = nI p := SM_37_0.trans p1
  rw [sx1_0 hp q, sm1_0 hp q']
  by_cases z0 : p ≤ 0
  · rw [if_pos z0, if_pos z0]; exact h
  · rw [if_neg z0, if_neg z0, sx2_0 hp q1, sm2_0 hp p1]
    by_cases z1 : p ≤ 1
    · rw [if_pos z1, if_pos z1]; exact h1
    · rw [if_neg z1, if_neg z1, sx3_0 hp q2, sm3_0 hp p2]
      by_cases z2 : p ≤ 2
      · rw [if_pos z2, if_pos z2]; exact h2
      · rw [if_neg z2, if_neg z2]; exact h3

/-- one ALARM goes a place forward -/
theorem De_sh1_1 {v w : fw_V} {j : Nat} (hj : j < 3) (h : DB_1 v w) : DB_1 (fw_up (fw_up v 21 1 j (v 21 1 (j + 1))) 22 1 j (v 22 1 (j + 1))) (fw_up (fw_up w 47 0 (4 * 1 + j) (w 47 0 (4 * 1 + j + 1))) 48 0 (4 * 1 + j) (w 48 0 (4 * 1 + j + 1))) := by
  have hD := h.dv
  have hI := h.di
  refine ⟨?_, ?_, ?_, ?_⟩
  · refine ⟨?_, ?_, ?_, ?_, ?_, ?_, ?_, ?_, ?_, ?_, ?_, ?_, ?_, ?_, ?_, fun z hz => ?_, fun z hz => ?_, ?_, ?_, ?_, ?_, ?_⟩
    · simp [fw_up]; exact hD.ix
    · simp [fw_up]; exact hD.nm
    · simp [fw_up]; exact hD.fb
    · simp [fw_up]; exact hD.oc
    · simp [fw_up]; exact hD.st
    · simp [fw_up]; exact hD.se
    · simp [fw_up]; exact hD.di
    · simp [fw_up]; exact hD.ti
    · simp [fw_up]; exact hD.ag
    · simp [fw_up]; exact hD.ne
    · simp [fw_up]; exact hD.ta
    · simp [fw_up]; exact hD.qs
    · simp [fw_up]; exact hD.qw
    · simp [fw_up]; exact hD.qn
    · simp [fw_up]; exact hD.qt
    · by_cases e : z = j
      · subst e
        rw [fw_up_c (c := 22) (c' := 21) (by decide), fw_up_s, fw_up_c (c := 48) (c' := 47) (by decide), fw_up_s]; exact hD.sl (z + 1) (by omega)
      · rw [fw_up_k e, fw_up_k e, fw_up_k (show 4 * 1 + z ≠ 4 * 1 + j by omega), fw_up_k (show 4 * 1 + z ≠ 4 * 1 + j by omega)]; exact hD.sl z hz
    · by_cases e : z = j
      · subst e; rw [fw_up_s, fw_up_s]; exact hD.sk (z + 1) (by omega)
      · rw [fw_up_k e, fw_up_k e, fw_up_k (show 4 * 1 + z ≠ 4 * 1 + j by omega), fw_up_k (show 4 * 1 + z ≠ 4 * 1 + j by omega)]; exact hD.sk z hz
    · simp [fw_up]; simpa using hD.mo
    · simp [fw_up]; simpa using hD.wa
    · simp [fw_up]; simpa using hD.wr
    · simp [fw_up]; simpa using hD.sn
    · simp [fw_up]; simpa using hD.sh
  · refine ⟨?_, ?_, ?_, ?_, ?_, ?_, ?_, ?_, ?_, ?_, ?_, ?_, ?_, ?_, ?_, ?_, fun z hz => ?_⟩
    · simp [fw_up]; exact hI.s4
    · simp [fw_up]; simpa using hI.c0
    · simp [fw_up]; exact hI.nq
    · simp [fw_up]; exact hI.t1
    · simp [fw_up]; exact hI.t2
    · simp [fw_up]; exact hI.t3
    · simp [fw_up]; exact hI.n3
    · simp [fw_up]; exact hI.l3
    · simp [fw_up]; exact hI.q5
    · simp [fw_up]; exact hI.nn
    · simp [fw_up]; exact hI.wn
    · simp [fw_up]; exact hI.wp
    · simp [fw_up]; simpa using hI.wt
    · simp [fw_up]; exact hI.sb
    · simp [fw_up]; simpa using hI.m8
    · simp [fw_up]; simpa using hI.w8
    · by_cases e : z = j
      · subst e; rw [fw_up_c (c := 48) (c' := 47) (by decide), fw_up_s]; exact hI.a3 (z + 1) (by omega)
      · rw [fw_up_k (show 4 * 1 + z ≠ 4 * 1 + j by omega), fw_up_k (show 4 * 1 + z ≠ 4 * 1 + j by omega)]; exact hI.a3 z hz
  · exact Wr_cg h.wr (fun c i k q1 q2 => by rw [fw_up_c (by omega), fw_up_c (by omega)]) ⟨by rw [fw_up_c (by decide), fw_up_c (by decide)], by rw [fw_up_c (by decide), fw_up_c (by decide)], by rw [fw_up_c (by decide), fw_up_c (by decide)]⟩ (fun c k q1 q2 => by rw [fw_up_c (by omega), fw_up_c (by omega)])
  · exact fun t ht => by rw [fw_up_c (by decide), fw_up_c (by decide)]; exact h.at t ht
def SX_1 (v : fw_V) (j : Nat) : fw_V := fw_up (fw_up v 21 1 j (v 21 1 (j + 1))) 22 1 j (v 22 1 (j + 1))
def SM_1 (w : fw_V) (j : Nat) : fw_V := fw_up (fw_up w 47 0 (4 * 1 + j) (w 47 0 (4 * 1 + j + 1))) 48 0 (4 * 1 + j) (w 48 0 (4 * 1 + j + 1))
theorem SX_2_1 {v : fw_V} {j : Nat} : SX_1 v j 20 1 2 = v 20 1 2 := by unfold SX_1; rw [fw_up_c (by decide), fw_up_c (by decide)]
theorem SM_37_1 {w : fw_V} {j : Nat} : SM_1 w j 37 0 1 = w 37 0 1 := by unfold SM_1; rw [fw_up_c (by decide), fw_up_c (by decide)]
theorem sx3_1 {v : fw_V} {p : Nat} {n : Int32} (hp : p < 4) (q : v 20 1 2 = nI p) : xf_AQ_taken_j3 v 1 n = if p ≤ 2 then v else SX_1 v 2 := by
  unfold xf_AQ_taken_j3 xf_AQ_taken_j4
  (try dsimp only)
  rw [q, fw_up_c (show (22 : Nat) ≠ 21 by decide)]
  by_cases z : p ≤ 2
  · rw [if_pos z]; exact if_pos ((nI_leI (a := p) (b := 2) (by omega) (by omega)).mpr z)
  · rw [if_neg z]; exact if_neg (fun y => z ((nI_leI (a := p) (b := 2) (by omega) (by omega)).mp y))
theorem sx2_1 {v : fw_V} {p : Nat} {n : Int32} (hp : p < 4) (q : v 20 1 2 = nI p) : xf_AQ_taken_j2 v 1 n = if p ≤ 1 then v else xf_AQ_taken_j3 (SX_1 v 1) 1 n := by
  unfold xf_AQ_taken_j2
  (try dsimp only)
  rw [q, fw_up_c (show (22 : Nat) ≠ 21 by decide)]
  by_cases z : p ≤ 1
  · rw [if_pos z]; exact if_pos ((nI_leI (a := p) (b := 1) (by omega) (by omega)).mpr z)
  · rw [if_neg z]; exact if_neg (fun y => z ((nI_leI (a := p) (b := 1) (by omega) (by omega)).mp y))
theorem sx1_1 {v : fw_V} {p : Nat} {n : Int32} (hp : p < 4) (q : v 20 1 2 = nI p) : xf_AQ_taken_j1 v 1 n = if p ≤ 0 then v else xf_AQ_taken_j2 (SX_1 v 0) 1 n := by
  unfold xf_AQ_taken_j1
  (try dsimp only)
  rw [q, fw_up_c (show (22 : Nat) ≠ 21 by decide)]
  by_cases z : p ≤ 0
  · rw [if_pos z]; exact if_pos ((nI_leI (a := p) (b := 0) (by omega) (by omega)).mpr z)
  · rw [if_neg z]; exact if_neg (fun y => z ((nI_leI (a := p) (b := 0) (by omega) (by omega)).mp y))
theorem cm4_1 {p z : Nat} (hp : p < 4) (hz : z < 3) : ((4 : Int32) + nI p ≤ nI (4 + z)) ↔ p ≤ z := by
  show (nI 4 + nI p ≤ nI (4 + z)) ↔ p ≤ z
  rw [nI_add, nI_leI (by omega) (by omega)]
  omega
theorem sm3_1 {w : fw_V} {p : Nat} {a b : Int32} (hp : p < 4) (q : w 37 0 1 = nI p) : mf_Mo_obeys_1_j8 w a b = if p ≤ 2 then w else SM_1 w 2 := by
  unfold mf_Mo_obeys_1_j8 mf_Mo_obeys_1_j9
  (try dsimp only)
  rw [q, fw_up_c (show (48 : Nat) ≠ 47 by decide)]
  by_cases z : p ≤ 2
  · rw [if_pos z]; exact if_pos ((cm4_1 hp (z := 2) (by decide)).mpr z)
  · rw [if_neg z]; exact if_neg (fun y => z ((cm4_1 hp (z := 2) (by decide)).mp y))
theorem sm2_1 {w : fw_V} {p : Nat} {a b : Int32} (hp : p < 4) (q : w 37 0 1 = nI p) : mf_Mo_obeys_1_j7 w a b = if p ≤ 1 then w else mf_Mo_obeys_1_j8 (SM_1 w 1) a b := by
  unfold mf_Mo_obeys_1_j7
  (try dsimp only)
  rw [q, fw_up_c (show (48 : Nat) ≠ 47 by decide)]
  by_cases z : p ≤ 1
  · rw [if_pos z]; exact if_pos ((cm4_1 hp (z := 1) (by decide)).mpr z)
  · rw [if_neg z]; exact if_neg (fun y => z ((cm4_1 hp (z := 1) (by decide)).mp y))
theorem sm1_1 {w : fw_V} {p : Nat} {a b : Int32} (hp : p < 4) (q : w 37 0 1 = nI p) : mf_Mo_obeys_1_j6 w a b = if p ≤ 0 then w else mf_Mo_obeys_1_j7 (SM_1 w 0) a b := by
  unfold mf_Mo_obeys_1_j6
  (try dsimp only)
  rw [q, fw_up_c (show (48 : Nat) ≠ 47 by decide)]
  by_cases z : p ≤ 0
  · rw [if_pos z]; exact if_pos ((cm4_1 hp (z := 0) (by decide)).mpr z)
  · rw [if_neg z]; exact if_neg (fun y => z ((cm4_1 hp (z := 0) (by decide)).mp y))
theorem De_shift_1 {v w : fw_V} {p : Nat} {n a b : Int32} (h : DB_1 v w) (hp : p < 4) (q : v 20 1 2 = nI p) (q' : w 37 0 1 = nI p) : DB_1 (xf_AQ_taken_j1 v 1 n) (mf_Mo_obeys_1_j6 w a b) := by
  have h1 : DB_1 (SX_1 v 0) (SM_1 w 0) := De_sh1_1 (j := 0) (by decide) h
  have h2 : DB_1 (SX_1 (SX_1 v 0) 1) (SM_1 (SM_1 w 0) 1) := De_sh1_1 (j := 1) (by decide) h1
  have h3 : DB_1 (SX_1 (SX_1 (SX_1 v 0) 1) 2) (SM_1 (SM_1 (SM_1 w 0) 1) 2) := De_sh1_1 (j := 2) (by decide) h2
  have q1 : SX_1 v 0 20 1 2 = nI p := SX_2_1.trans q
  have q2 : SX_1 (SX_1 v 0) 1 20 1 2 = nI p := SX_2_1.trans q1
  have p1 : SM_1 w 0 37 0 1 = nI p := SM_37_1.trans q'
  have p2 : SM_1 (SM_1 w 0) 1 37 0 1 = nI p := SM_37_1.trans p1
  rw [sx1_1 hp q, sm1_1 hp q']
  by_cases z0 : p ≤ 0
  · rw [if_pos z0, if_pos z0]; exact h
  · rw [if_neg z0, if_neg z0, sx2_1 hp q1, sm2_1 hp p1]
    by_cases z1 : p ≤ 1
    · rw [if_pos z1, if_pos z1]; exact h1
    · rw [if_neg z1, if_neg z1, sx3_1 hp q2, sm3_1 hp p2]
      by_cases z2 : p ≤ 2
      · rw [if_pos z2, if_pos z2]; exact h2
      · rw [if_neg z2, if_neg z2]; exact h3

/-- TAKEN -/
theorem De_taken_0 {v w : fw_V} {n : Int32} (h : DB_0 v w) : DB_0 (xf_AQ_taken v 0 n) (mf_Mo_obeys_0 w 15 n) := by
  have hD := h.dv
  have hI := h.di
  unfold xf_AQ_taken
  rw [ob15_0, h.dv.qw]
  by_cases h3 : w 28 0 0 = 3
  · rw [if_pos h3]
    obtain ⟨y, hy, ey⟩ := vp_in_of (hI.wn h3) (by decide)
    by_cases h0 : w 36 0 0 = 0
    · rw [if_pos h0, if_pos (by rw [h0]; decide)]; exact h
    · have hy0 : y ≠ 0 := fun z => h0 (by rw [ey, z]; rfl)
      rw [if_neg h0, if_neg (show ¬ w 36 0 0 ≤ 0 from fun z => by
        rw [ey] at z
        have := (nI_leI (a := y) (b := 0) (by omega) (by omega)).mp z
        omega)]
      by_cases hn : w 36 0 0 = n
      · rw [if_pos hn, if_pos hn.symm]
        (try dsimp only)
        obtain ⟨m, hm, em⟩ := vp_in_of hI.q5 (by decide)
        have hm0 : m ≠ 0 := fun z => h0 (hI.wp h3 (by rw [em, z]; rfl))
        obtain ⟨p, rfl⟩ : ∃ p, m = p + 1 := ⟨m - 1, by omega⟩
        have ep : w 37 0 0 - 1 = nI p := by rw [em]; exact nI_pred p
        have evp : fw_up v 20 0 3 0 20 0 2 - 1 = nI p := by rw [fw_up_k (by decide), hD.qs]; exact ep
        rw [ep, evp]
        obtain ⟨v6, e6⟩ : ∃ v6, v6 = fw_up (fw_up v 20 0 3 0) 20 0 2 (nI p) := ⟨_, rfl⟩
        obtain ⟨w6, g6⟩ : ∃ w6, w6 = fw_up (fw_up w 36 0 0 0) 37 0 0 (nI p) := ⟨_, rfl⟩
        rw [← e6, ← g6]
        have d6 : Dv 0 v6 w6 := by
          rw [e6, g6]
          refine ⟨?_, ?_, ?_, ?_, ?_, ?_, ?_, ?_, ?_, ?_, ?_, ?_, ?_, ?_, ?_, ?_, ?_, ?_, ?_, ?_, ?_, ?_⟩
          · simp [fw_up]; exact hD.ix
          · simp [fw_up]; exact hD.nm
          · simp [fw_up]; exact hD.fb
          · simp [fw_up]; exact hD.oc
          · simp [fw_up]; exact hD.st
          · simp [fw_up]; exact hD.se
          · simp [fw_up]; exact hD.di
          · simp [fw_up]; exact hD.ti
          · simp [fw_up]; exact hD.ag
          · simp [fw_up]; exact hD.ne
          · simp [fw_up]; exact hD.ta
          · simp [fw_up]
          · simp [fw_up]
          · simp [fw_up]; exact hD.qn
          · simp [fw_up]
          · simp [fw_up]; simpa using hD.sl
          · simp [fw_up]; simpa using hD.sk
          · simp [fw_up]; simpa using hD.mo
          · simp [fw_up]; simpa using hD.wa
          · simp [fw_up]; simpa using hD.wr
          · simp [fw_up]; simpa using hD.sn
          · simp [fw_up]; simpa using hD.sh
        have i6 : Di 0 v6 w6 := by
          rw [e6, g6]
          refine ⟨?_, ?_, ?_, ?_, ?_, ?_, ?_, ?_, ?_, ?_, ?_, ?_, ?_, ?_, ?_, ?_, ?_⟩
          · simp [fw_up]; exact hI.s4
          · simp [fw_up, h3]
          · simp [fw_up, h3]
          · simp [fw_up, h3]
          · simp [fw_up, h3]
          · simp [fw_up]; exact hI.t3
          · simp [fw_up]; exact hI.n3
          · simp [fw_up]; exact hI.l3
          · simp [fw_up]; exact vp_in_nI (by omega) (by decide)
          · simp [fw_up]; exact hI.nn
          · simp [fw_up]; intro; exact fw_inc (by decide)
          · simp [fw_up]
          · simp [fw_up]; simpa using hI.wt
          · simp [fw_up]; exact hI.sb
          · simp [fw_up]; simpa using hI.m8
          · simp [fw_up]; simpa using hI.w8
          · simp [fw_up]; simpa using hI.a3
        have wr6 : Wr v6 w6 := by
          rw [e6, g6]
          exact Wr_cg h.wr (fun c i k q1 q2 => by rw [fw_up_c (by omega), fw_up_c (by omega)]) ⟨by simp [fw_up], by simp [fw_up], by simp [fw_up]⟩ (fun c k q1 q2 => by rw [fw_up_c (by omega), fw_up_c (by omega)])
        have at6 : At w6 := fun t ht => by rw [g6]; simp [fw_up]; exact h.at t ht
        have q6 : v6 20 0 2 = nI p := by rw [e6]; exact fw_up_s
        have p6 : w6 37 0 0 = nI p := by rw [g6]; exact fw_up_s
        exact De_shift_0 ⟨d6, i6, wr6, at6⟩ (by omega) q6 p6
      · rw [if_neg hn, if_neg (fun q => hn q.symm)]; exact h
  · rw [if_neg h3]
    obtain ⟨q1, q2, q3⟩ := hI.nq h3
    rw [if_pos q2]; exact h

/-- TAKEN -/
theorem De_taken_1 {v w : fw_V} {n : Int32} (h : DB_1 v w) : DB_1 (xf_AQ_taken v 1 n) (mf_Mo_obeys_1 w 15 n) := by
  have hD := h.dv
  have hI := h.di
  unfold xf_AQ_taken
  rw [ob15_1, h.dv.qw]
  by_cases h3 : w 28 0 1 = 3
  · rw [if_pos h3]
    obtain ⟨y, hy, ey⟩ := vp_in_of (hI.wn h3) (by decide)
    by_cases h0 : w 36 0 1 = 0
    · rw [if_pos h0, if_pos (by rw [h0]; decide)]; exact h
    · have hy0 : y ≠ 0 := fun z => h0 (by rw [ey, z]; rfl)
      rw [if_neg h0, if_neg (show ¬ w 36 0 1 ≤ 0 from fun z => by
        rw [ey] at z
        have := (nI_leI (a := y) (b := 0) (by omega) (by omega)).mp z
        omega)]
      by_cases hn : w 36 0 1 = n
      · rw [if_pos hn, if_pos hn.symm]
        (try dsimp only)
        obtain ⟨m, hm, em⟩ := vp_in_of hI.q5 (by decide)
        have hm0 : m ≠ 0 := fun z => h0 (hI.wp h3 (by rw [em, z]; rfl))
        obtain ⟨p, rfl⟩ : ∃ p, m = p + 1 := ⟨m - 1, by omega⟩
        have ep : w 37 0 1 - 1 = nI p := by rw [em]; exact nI_pred p
        have evp : fw_up v 20 1 3 0 20 1 2 - 1 = nI p := by rw [fw_up_k (by decide), hD.qs]; exact ep
        rw [ep, evp]
        obtain ⟨v6, e6⟩ : ∃ v6, v6 = fw_up (fw_up v 20 1 3 0) 20 1 2 (nI p) := ⟨_, rfl⟩
        obtain ⟨w6, g6⟩ : ∃ w6, w6 = fw_up (fw_up w 36 0 1 0) 37 0 1 (nI p) := ⟨_, rfl⟩
        rw [← e6, ← g6]
        have d6 : Dv 1 v6 w6 := by
          rw [e6, g6]
          refine ⟨?_, ?_, ?_, ?_, ?_, ?_, ?_, ?_, ?_, ?_, ?_, ?_, ?_, ?_, ?_, ?_, ?_, ?_, ?_, ?_, ?_, ?_⟩
          · simp [fw_up]; exact hD.ix
          · simp [fw_up]; exact hD.nm
          · simp [fw_up]; exact hD.fb
          · simp [fw_up]; exact hD.oc
          · simp [fw_up]; exact hD.st
          · simp [fw_up]; exact hD.se
          · simp [fw_up]; exact hD.di
          · simp [fw_up]; exact hD.ti
          · simp [fw_up]; exact hD.ag
          · simp [fw_up]; exact hD.ne
          · simp [fw_up]; exact hD.ta
          · simp [fw_up]
          · simp [fw_up]
          · simp [fw_up]; exact hD.qn
          · simp [fw_up]
          · simp [fw_up]; simpa using hD.sl
          · simp [fw_up]; simpa using hD.sk
          · simp [fw_up]; simpa using hD.mo
          · simp [fw_up]; simpa using hD.wa
          · simp [fw_up]; simpa using hD.wr
          · simp [fw_up]; simpa using hD.sn
          · simp [fw_up]; simpa using hD.sh
        have i6 : Di 1 v6 w6 := by
          rw [e6, g6]
          refine ⟨?_, ?_, ?_, ?_, ?_, ?_, ?_, ?_, ?_, ?_, ?_, ?_, ?_, ?_, ?_, ?_, ?_⟩
          · simp [fw_up]; exact hI.s4
          · simp [fw_up, h3]
          · simp [fw_up, h3]
          · simp [fw_up, h3]
          · simp [fw_up, h3]
          · simp [fw_up]; exact hI.t3
          · simp [fw_up]; exact hI.n3
          · simp [fw_up]; exact hI.l3
          · simp [fw_up]; exact vp_in_nI (by omega) (by decide)
          · simp [fw_up]; exact hI.nn
          · simp [fw_up]; intro; exact fw_inc (by decide)
          · simp [fw_up]
          · simp [fw_up]; simpa using hI.wt
          · simp [fw_up]; exact hI.sb
          · simp [fw_up]; simpa using hI.m8
          · simp [fw_up]; simpa using hI.w8
          · simp [fw_up]; simpa using hI.a3
        have wr6 : Wr v6 w6 := by
          rw [e6, g6]
          exact Wr_cg h.wr (fun c i k q1 q2 => by rw [fw_up_c (by omega), fw_up_c (by omega)]) ⟨by simp [fw_up], by simp [fw_up], by simp [fw_up]⟩ (fun c k q1 q2 => by rw [fw_up_c (by omega), fw_up_c (by omega)])
        have at6 : At w6 := fun t ht => by rw [g6]; simp [fw_up]; exact h.at t ht
        have q6 : v6 20 1 2 = nI p := by rw [e6]; exact fw_up_s
        have p6 : w6 37 0 1 = nI p := by rw [g6]; exact fw_up_s
        exact De_shift_1 ⟨d6, i6, wr6, at6⟩ (by omega) q6 p6
      · rw [if_neg hn, if_neg (fun q => hn q.symm)]; exact h
  · rw [if_neg h3]
    obtain ⟨q1, q2, q3⟩ := hI.nq h3
    rw [if_pos q2]; exact h

/-- CONNECT, slot s, in the class -/
def CW (D e m : Int32) (s : Nat) : Int32 := if e = -1 then xf_FR_withSlot D (nI s) 0 else if e = m then xf_FR_withSlot D (nI s) 0 else xf_FR_withSlot D (nI s) 1
def CX (u : fw_V) (r q s : Nat) : fw_V := fw_up (fw_up u 26 r s (u 8 q s - 1)) 19 r 15 (CW (u 19 r 15) (u 8 q s - 1) (u 23 r s) s)
theorem cx_eq (u : fw_V) (r q : Nat) : xf_De_connect_j1 u r q = CX (CX (CX u r q 0) r q 1) r q 2 := by
  have h7 : ∀ x : fw_V, xf_De_connect_j7 x r q = CX x r q 2 := by
    intro x
    unfold xf_De_connect_j7 xf_De_connect_j8 xf_De_connect_j9 xf_De_connect_j11 xf_De_connect_j10 CX CW
    (try dsimp only)
    rw [fw_up_s, fw_up_c (c := 26) (c' := 23) (by decide), fw_up_c (c := 26) (c' := 19) (by decide)]
    by_cases a : x 8 q 2 - 1 = -1
    · rw [if_pos a, if_pos a]; rfl
    · rw [if_neg a, if_neg a]
      by_cases b : x 8 q 2 - 1 = x 23 r 2
      · rw [if_pos b, if_pos b]; rfl
      · rw [if_neg b, if_neg b]; rfl
  have h4 : ∀ x : fw_V, xf_De_connect_j4 x r q = CX (CX x r q 1) r q 2 := by
    intro x
    unfold xf_De_connect_j4 xf_De_connect_j5 xf_De_connect_j6 xf_De_connect_j12
    simp only [h7]
    rw [fw_up_s, fw_up_c (c := 26) (c' := 23) (by decide), fw_up_c (c := 26) (c' := 19) (by decide)]
    conv => rhs; arg 1; unfold CX CW
    by_cases a : x 8 q 1 - 1 = -1
    · rw [if_pos a, if_pos a]; rfl
    · rw [if_neg a, if_neg a]
      by_cases b : x 8 q 1 - 1 = x 23 r 1
      · rw [if_pos b, if_pos b]; rfl
      · rw [if_neg b, if_neg b]; rfl
  unfold xf_De_connect_j1 xf_De_connect_j2 xf_De_connect_j3 xf_De_connect_j13
  simp only [h4]
  rw [fw_up_s, fw_up_c (c := 26) (c' := 23) (by decide), fw_up_c (c := 26) (c' := 19) (by decide)]
  conv => rhs; arg 1; arg 1; unfold CX CW
  by_cases a : u 8 q 0 - 1 = -1
  · rw [if_pos a, if_pos a]; rfl
  · rw [if_neg a, if_neg a]
    by_cases b : u 8 q 0 - 1 = u 23 r 0
    · rw [if_pos b, if_pos b]; rfl
    · rw [if_neg b, if_neg b]; rfl
theorem CX_o {u : fw_V} {r q s c i k : Nat} (h : ¬ (c = 26 ∧ i = r ∧ k = s)) (h' : ¬ (c = 19 ∧ i = r ∧ k = 15)) : CX u r q s c i k = u c i k := by
  unfold CX
  rw [fw_up_ne h', fw_up_ne h]
theorem CX_e {u : fw_V} {r q s : Nat} : CX u r q s 26 r s = u 8 q s - 1 := by
  unfold CX
  rw [fw_up_c (by decide), fw_up_s]
theorem CX_d {u : fw_V} {r q s : Nat} : CX u r q s 19 r 15 = CW (u 19 r 15) (u 8 q s - 1) (u 23 r s) s := by
  unfold CX
  rw [fw_up_s]
theorem cx_fin (u : fw_V) (r q : Nat) : (∀ s, s < 3 → xf_De_connect_j1 u r q 26 r s = u 8 q s - 1) ∧ xf_De_connect_j1 u r q 19 r 15 = CW (CW (CW (u 19 r 15) (u 8 q 0 - 1) (u 23 r 0) 0) (u 8 q 1 - 1) (u 23 r 1) 1) (u 8 q 2 - 1) (u 23 r 2) 2 ∧ ∀ c i k, ¬ (c = 26 ∧ i = r) → ¬ (c = 19 ∧ i = r ∧ k = 15) → xf_De_connect_j1 u r q c i k = u c i k := by
  rw [cx_eq]
  have c8 : ∀ (x : fw_V) (s t : Nat), CX x r q s 8 q t = x 8 q t := fun x s t => CX_o (by omega) (by omega)
  have c23 : ∀ (x : fw_V) (s t : Nat), CX x r q s 23 r t = x 23 r t := fun x s t => CX_o (by omega) (by omega)
  refine ⟨fun s hs => ?_, ?_, fun c i k h h' => ?_⟩
  · rcases (show s = 0 ∨ s = 1 ∨ s = 2 by omega) with rfl | rfl | rfl
    · rw [CX_o (by omega) (by omega), CX_o (by omega) (by omega), CX_e]
    · rw [CX_o (by omega) (by omega), CX_e, c8]
    · rw [CX_e, c8, c8]
  · rw [CX_d, c8, c8, c23, c23, CX_d, c8, c23, CX_d]
  · rw [CX_o (fun z => h ⟨z.1, z.2.1⟩) h', CX_o (fun z => h ⟨z.1, z.2.1⟩) h', CX_o (fun z => h ⟨z.1, z.2.1⟩) h']

def MW_0 (D e m : Int32) (s : Nat) : Int32 := if e < 0 then (D &&& (((1 : Int32) <<< (nI s &&& 31)) ^^^ (-1 : Int32))) else if m = e then (D &&& (((1 : Int32) <<< (nI s &&& 31)) ^^^ (-1 : Int32))) else (D ||| ((1 : Int32) <<< (nI s &&& 31)))
theorem mark_0 {w : fw_V} {s : Nat} (hs : s < 3) : mf_Mo_mark_0 w (nI s) = fw_up w 31 0 0 (MW_0 (w 31 0 0) (w 43 0 (3 * 0 + s)) (w 42 0 (3 * 0 + s)) s) := by
  have ie : ((0 : Int32) + nI s).toNatClampNeg = 3 * 0 + s := by
    show (nI 0 + nI s).toNatClampNeg = _
    rw [nI_add, nI_clamp (by omega)]
  unfold mf_Mo_mark_0 mf_Mo_mark_0_j1 mf_Mo_mark_0_j2 mf_Mo_mark_0_j3 MW_0
  rw [ie]
  (try dsimp only)
  by_cases a : w 43 0 (3 * 0 + s) < 0
  · rw [if_pos a, if_pos a]
  · rw [if_neg a, if_neg a]
    by_cases b : w 42 0 (3 * 0 + s) = w 43 0 (3 * 0 + s)
    · rw [if_pos b, if_pos b]
    · rw [if_neg b, if_neg b]
theorem CWM_0 {D e m : Int32} {s : Nat} (h8 : vp_in (e + 1) 9) : CW D e m s = MW_0 D e m s := by
  unfold CW MW_0 xf_FR_withSlot
  rcases m8_cases h8 with rfl | ⟨k, hk, rfl⟩
  · rw [if_pos rfl, if_pos rfl, if_pos (by decide)]
  · rw [if_neg (fun q => by
      have h1 : (nI k).toInt = (-1 : Int32).toInt := by rw [q]
      rw [nI_toInt (by omega), show (-1 : Int32).toInt = -1 from by decide] at h1
      omega), if_neg (nI_nn (by omega))]
    by_cases b : nI k = m
    · rw [if_pos b, if_pos b.symm, if_pos rfl]
    · rw [if_neg b, if_neg (show ¬ (1 : Int32) = 0 by decide), if_neg (fun q => b q.symm)]
/-- CONNECT, slot s, in the reference -/
def MX_0 (w : fw_V) (s : Nat) : fw_V := mf_Mo_mark_0 (fw_up (fw_up w 43 0 (3 * 0 + s) (w 10 0 s - 1)) 44 0 (3 * 0 + s) (-1)) (nI s)
theorem MX_o_0 {w : fw_V} {s c i k : Nat} (hs : s < 3) (h : ¬ ((c = 43 ∨ c = 44) ∧ i = 0 ∧ k = 3 * 0 + s)) (h' : ¬ (c = 31 ∧ i = 0 ∧ k = 0)) : MX_0 w s c i k = w c i k := by
  unfold MX_0
  rw [mark_0 hs, fw_up_ne h', fw_up_ne (fun q => h ⟨Or.inr q.1, q.2⟩), fw_up_ne (fun q => h ⟨Or.inl q.1, q.2⟩)]
theorem MX_w_0 {w : fw_V} {s : Nat} (hs : s < 3) : MX_0 w s 43 0 (3 * 0 + s) = w 10 0 s - 1 := by
  unfold MX_0
  rw [mark_0 hs, fw_up_c (by decide), fw_up_c (by decide), fw_up_s]
theorem MX_p_0 {w : fw_V} {s : Nat} (hs : s < 3) : MX_0 w s 44 0 (3 * 0 + s) = -1 := by
  unfold MX_0
  rw [mark_0 hs, fw_up_c (by decide), fw_up_s]
theorem MX_d_0 {w : fw_V} {s : Nat} (hs : s < 3) : MX_0 w s 31 0 0 = MW_0 (w 31 0 0) (w 10 0 s - 1) (w 42 0 (3 * 0 + s)) s := by
  unfold MX_0
  rw [mark_0 hs, fw_up_s, fw_up_c (c := 44) (c' := 31) (by decide), fw_up_c (c := 43) (c' := 31) (by decide), fw_up_c (c := 44) (c' := 43) (by decide), fw_up_s, fw_up_c (c := 44) (c' := 42) (by decide), fw_up_c (c := 43) (c' := 42) (by decide)]
theorem conn_eq_0 (w : fw_V) (a : Int32) : mf_Mo_connect_0_j1 w a = if w 28 0 0 ≤ 1 then mf_Mo_reply_0 (MX_0 (MX_0 (MX_0 (fw_up (fw_up (fw_up w 28 0 0 1) 29 0 0 a) 32 0 0 0) 0) 1) 2) 4 (MX_0 (MX_0 (MX_0 (fw_up (fw_up (fw_up w 28 0 0 1) 29 0 0 a) 32 0 0 0) 0) 1) 2 31 0 0) else w := rfl
theorem mx_fin_0 (w : fw_V) : (∀ s, s < 3 → MX_0 (MX_0 (MX_0 w 0) 1) 2 43 0 (3 * 0 + s) = w 10 0 s - 1) ∧ (∀ s, s < 3 → MX_0 (MX_0 (MX_0 w 0) 1) 2 44 0 (3 * 0 + s) = -1) ∧ MX_0 (MX_0 (MX_0 w 0) 1) 2 31 0 0 = MW_0 (MW_0 (MW_0 (w 31 0 0) (w 10 0 0 - 1) (w 42 0 (3 * 0 + 0)) 0) (w 10 0 1 - 1) (w 42 0 (3 * 0 + 1)) 1) (w 10 0 2 - 1) (w 42 0 (3 * 0 + 2)) 2 ∧ ∀ c i k, ¬ ((c = 43 ∨ c = 44) ∧ i = 0 ∧ 0 ≤ k ∧ k < 0 + 3) → ¬ (c = 31 ∧ i = 0 ∧ k = 0) → MX_0 (MX_0 (MX_0 w 0) 1) 2 c i k = w c i k := by
  have c10 : ∀ (x : fw_V) (s t : Nat), s < 3 → MX_0 x s 10 0 t = x 10 0 t := fun x s t hs => MX_o_0 hs (by omega) (by omega)
  have c42 : ∀ (x : fw_V) (s t : Nat), s < 3 → MX_0 x s 42 0 t = x 42 0 t := fun x s t hs => MX_o_0 hs (by omega) (by omega)
  refine ⟨fun s hs => ?_, fun s hs => ?_, ?_, fun c i k h h' => ?_⟩
  · rcases (show s = 0 ∨ s = 1 ∨ s = 2 by omega) with rfl | rfl | rfl
    · rw [MX_o_0 (by decide) (by omega) (by omega), MX_o_0 (by decide) (by omega) (by omega), MX_w_0 (by decide)]
    · rw [MX_o_0 (by decide) (by omega) (by omega), MX_w_0 (by decide), c10 _ _ _ (by decide)]
    · rw [MX_w_0 (by decide), c10 _ _ _ (by decide), c10 _ _ _ (by decide)]
  · rcases (show s = 0 ∨ s = 1 ∨ s = 2 by omega) with rfl | rfl | rfl
    · rw [MX_o_0 (by decide) (by omega) (by omega), MX_o_0 (by decide) (by omega) (by omega), MX_p_0 (by decide)]
    · rw [MX_o_0 (by decide) (by omega) (by omega), MX_p_0 (by decide)]
    · rw [MX_p_0 (by decide)]
  · rw [MX_d_0 (by decide), c10 _ _ _ (by decide), c10 _ _ _ (by decide), c42 _ _ _ (by decide), c42 _ _ _ (by decide), MX_d_0 (by decide), c10 _ _ _ (by decide), c42 _ _ _ (by decide), MX_d_0 (by decide)]
  · rw [MX_o_0 (by decide) (by omega) h', MX_o_0 (by decide) (by omega) h', MX_o_0 (by decide) (by omega) h']
/-- CONNECT -/
theorem De_conn_0 {v w : fw_V} {q : Nat} {who : Int32} (h : DB_0 v w) (f1 : v 7 q 1 = who) (f8 : ∀ t, t < 7 → v 8 q t = w 10 0 t) (hr : ∀ s, s < 3 → vp_in (w 10 0 s) 9) : DB_0 (xf_De_answerConnect v 0 q) (mf_Mo_connect_0 w who) := by
  have hD := h.dv
  have hI := h.di
  have core : (w 28 0 0 = 0 ∨ w 28 0 0 = 1) → DB_0 (xf_De_answerConnect_j2 v 0 q) (mf_Mo_reply_0 (MX_0 (MX_0 (MX_0 (fw_up (fw_up (fw_up w 28 0 0 1) 29 0 0 who) 32 0 0 0) 0) 1) 2) 4 (MX_0 (MX_0 (MX_0 (fw_up (fw_up (fw_up w 28 0 0 1) 29 0 0 who) 32 0 0 0) 0) 1) 2 31 0 0)) := by
    intro h01
    have hn3 : w 28 0 0 ≠ 3 := by rcases h01 with z | z <;> rw [z] <;> decide
    obtain ⟨n1, n2, n3⟩ := hI.nq hn3
    unfold xf_De_answerConnect_j2 xf_De_connect mf_Mo_reply_0
    (try dsimp only)
    obtain ⟨v4, e4⟩ : ∃ v4, v4 = fw_row (fw_up (fw_up (fw_up v 19 0 11 1) 19 0 12 who) 19 0 16 0) 27 0 (fun _ => (-1 : Int32)) := ⟨_, rfl⟩
    obtain ⟨w3, g3⟩ : ∃ w3, w3 = fw_up (fw_up (fw_up w 28 0 0 1) 29 0 0 who) 32 0 0 0 := ⟨_, rfl⟩
    rw [fw_up_c (show (7 : Nat) ≠ 19 by decide), f1, ← e4, ← g3]
    obtain ⟨x1, x2, x3⟩ := cx_fin v4 0 q
    obtain ⟨y1, y2, y3, y4⟩ := mx_fin_0 w3
    obtain ⟨X, eX⟩ : ∃ X, X = xf_De_connect_j1 v4 0 q := ⟨_, rfl⟩
    obtain ⟨Y, eY⟩ : ∃ Y, Y = MX_0 (MX_0 (MX_0 w3 0) 1) 2 := ⟨_, rfl⟩
    rw [← eX] at x1 x2 x3 ⊢
    rw [← eY] at y1 y2 y3 y4 ⊢
    have v4c : ∀ c i k, c ≠ 19 → c ≠ 27 → v4 c i k = v c i k := fun c i k a b => by rw [e4, fw_row_c b, fw_up_c a, fw_up_c a, fw_up_c a]
    have v19 : ∀ k, k ≠ 11 → k ≠ 12 → k ≠ 16 → v4 19 0 k = v 19 0 k := fun k a b c => by rw [e4, fw_row_c (by decide), fw_up_k c, fw_up_k b, fw_up_k a]
    have w3c : ∀ c k, c ≠ 28 → c ≠ 29 → c ≠ 32 → w3 c 0 k = w c 0 k := fun c k a b d => by rw [g3, fw_up_c d, fw_up_c b, fw_up_c a]
    have w3k : ∀ c k, k ≠ 0 → w3 c 0 k = w c 0 k := fun c k a => by rw [g3, fw_up_k a, fw_up_k a, fw_up_k a]
    have xs : ∀ c k, 20 ≤ c → c ≤ 25 → X c 0 k = v c 0 k := fun c k a b => by rw [x3 c 0 k (by omega) (by omega), v4c c 0 k (by omega) (by omega)]
    have x19 : ∀ k, k ≠ 11 → k ≠ 12 → k ≠ 16 → k ≠ 15 → X 19 0 k = v 19 0 k := fun k a b c d => by rw [x3 19 0 k (by omega) (by omega), v19 k a b c]
    have x11 : X 19 0 11 = 1 := by rw [x3 19 0 11 (by omega) (by omega), e4]; simp [fw_up, fw_row]
    have x12 : X 19 0 12 = who := by rw [x3 19 0 12 (by omega) (by omega), e4]; simp [fw_up, fw_row]
    have x16 : X 19 0 16 = 0 := by rw [x3 19 0 16 (by omega) (by omega), e4]; simp [fw_up, fw_row]
    have x27 : ∀ k, X 27 0 k = -1 := fun k => by rw [x3 27 0 k (by omega) (by omega), e4, fw_row_s]
    have x14 : ∀ k, X 14 (0 + 2) k = v 14 (0 + 2) k := fun k => by rw [x3 14 _ k (by omega) (by omega), v4c 14 _ k (by decide) (by decide)]
    have yc : ∀ c k, 28 ≤ c → c ≤ 48 → c ≠ 28 → c ≠ 29 → c ≠ 31 → c ≠ 32 → c ≠ 43 → c ≠ 44 → Y c 0 k = w c 0 k := fun c k a b d1 d2 d3 d4 d5 d6 => by rw [y4 c 0 k (by omega) (by omega), w3c c k d1 d2 d4]
    have y28 : Y 28 0 0 = 1 := by rw [y4 28 0 0 (by omega) (by omega), g3]; simp [fw_up]
    have y29 : Y 29 0 0 = who := by rw [y4 29 0 0 (by omega) (by omega), g3]; simp [fw_up]
    have y32 : Y 32 0 0 = 0 := by rw [y4 32 0 0 (by omega) (by omega), g3]; simp [fw_up]
    have row : ∀ s, s < 3 → v4 8 q s - 1 = w3 10 0 s - 1 := fun s hs => by rw [v4c 8 q s (by decide) (by decide), f8 s (by omega), w3c 10 s (by decide) (by decide) (by decide)]
    have m8s : ∀ s, s < 3 → vp_in (w3 10 0 s - 1 + 1) 9 := fun s hs => by rw [w3c 10 s (by decide) (by decide) (by decide)]; exact fw_m8s (hr s hs)
    have mod : ∀ s, s < 3 → v4 23 0 s = w3 42 0 (3 * 0 + s) := fun s hs => by rw [v4c 23 0 s (by decide) (by decide), hD.mo s hs, w3c 42 _ (by decide) (by decide) (by decide)]
    have dif : X 19 0 15 = Y 31 0 0 := by
      rw [x2, y3, row 0 (by decide), row 1 (by decide), row 2 (by decide), mod 0 (by decide), mod 1 (by decide), mod 2 (by decide), v19 15 (by decide) (by decide) (by decide), hD.di, w3c 31 _ (by decide) (by decide) (by decide), CWM_0 (m8s 0 (by decide)), CWM_0 (m8s 1 (by decide)), CWM_0 (m8s 2 (by decide))]
    have dX : Dv 0 X Y := by
      refine ⟨?_, ?_, ?_, ?_, ?_, ?_, dif, ?_, ?_, ?_, ?_, ?_, ?_, ?_, ?_, fun j hj => ?_, fun j hj => ?_, fun s hs => ?_, fun _ s hs => ?_, fun s hs => ?_, fun i hi => ?_, fun i hi => ?_⟩
      · rw [x19 0 (by decide) (by decide) (by decide) (by decide)]; exact hD.ix
      · rw [x19 5 (by decide) (by decide) (by decide) (by decide), yc 30 _ (by decide) (by decide) (by decide) (by decide) (by decide) (by decide) (by decide) (by decide)]; exact hD.nm
      · rw [x19 6 (by decide) (by decide) (by decide) (by decide), yc 40 _ (by decide) (by decide) (by decide) (by decide) (by decide) (by decide) (by decide) (by decide)]; exact hD.fb
      · rw [x19 7 (by decide) (by decide) (by decide) (by decide), yc 41 _ (by decide) (by decide) (by decide) (by decide) (by decide) (by decide) (by decide) (by decide)]; exact hD.oc
      · rw [x11, y28]
      · rw [x12, y29]
      · rw [x16, y32]
      · rw [y28]; intro z; exact absurd z (by decide)
      · rw [y28]; intro z; exact absurd z (by decide)
      · rw [y28]; intro z; exact absurd z (by decide)
      · rw [xs 20 2 (by decide) (by decide), yc 37 _ (by decide) (by decide) (by decide) (by decide) (by decide) (by decide) (by decide) (by decide)]; exact hD.qs
      · rw [xs 20 3 (by decide) (by decide), yc 36 _ (by decide) (by decide) (by decide) (by decide) (by decide) (by decide) (by decide) (by decide)]; exact hD.qw
      · rw [y28]; intro z; exact absurd z (by decide)
      · rw [y28]; intro z; exact absurd z (by decide)
      · rw [xs 21 j (by decide) (by decide), yc 47 _ (by decide) (by decide) (by decide) (by decide) (by decide) (by decide) (by decide) (by decide)]; exact hD.sl j hj
      · rw [xs 22 j (by decide) (by decide), yc 48 _ (by decide) (by decide) (by decide) (by decide) (by decide) (by decide) (by decide) (by decide)]; exact hD.sk j hj
      · rw [xs 23 s (by decide) (by decide), yc 42 _ (by decide) (by decide) (by decide) (by decide) (by decide) (by decide) (by decide) (by decide)]; exact hD.mo s hs
      · rw [x1 s hs, y1 s hs, row s hs]
      · rw [x27, y2 s hs]
      · rw [xs 24 i (by decide) (by decide), yc 45 _ (by decide) (by decide) (by decide) (by decide) (by decide) (by decide) (by decide) (by decide)]; exact hD.sn i hi
      · rw [xs 25 i (by decide) (by decide), yc 46 _ (by decide) (by decide) (by decide) (by decide) (by decide) (by decide) (by decide) (by decide)]; exact hD.sh i hi
    have iX : Di 0 X Y := by
      refine ⟨?_, ?_, ?_, ?_, ?_, ?_, ?_, ?_, ?_, ?_, ?_, ?_, fun s hs => Or.inl (y2 s hs), ?_, fun s hs => ?_, fun _ s hs => ?_, fun j hj => ?_⟩
      · rw [y28]; exact fw_inc (by decide)
      · rw [y28]; intro z; exact absurd z (by decide)
      · intro _
        rw [yc 37 _ (by decide) (by decide) (by decide) (by decide) (by decide) (by decide) (by decide) (by decide), yc 36 _ (by decide) (by decide) (by decide) (by decide) (by decide) (by decide) (by decide) (by decide), xs 20 4 (by decide) (by decide)]
        exact ⟨n1, n2, n3⟩
      · rw [y32]; intro _; exact fw_inc (by decide)
      · rw [y28]; intro z; exact absurd z (by decide)
      · rw [y28]; intro z; exact absurd z (by decide)
      · rw [y28]; intro z; exact absurd z (by decide)
      · rw [y28]; intro z; exact absurd z (by decide)
      · rw [yc 37 _ (by decide) (by decide) (by decide) (by decide) (by decide) (by decide) (by decide) (by decide)]; exact hI.q5
      · rw [y28]; intro z; exact absurd z (by decide)
      · rw [y28]; intro z; exact absurd z (by decide)
      · rw [y28]; intro z; exact absurd z (by decide)
      · rw [yc 40 _ (by decide) (by decide) (by decide) (by decide) (by decide) (by decide) (by decide) (by decide)]; exact hI.sb
      · rw [yc 42 _ (by decide) (by decide) (by decide) (by decide) (by decide) (by decide) (by decide) (by decide)]; exact hI.m8 s hs
      · rw [y1 s hs]; exact m8s s hs
      · rw [yc 47 _ (by decide) (by decide) (by decide) (by decide) (by decide) (by decide) (by decide) (by decide)]; exact hI.a3 j hj
    have wX : Wr X Y := Wr_cg h.wr (fun c i k a b => by rw [x3 c i k (by omega) (by omega), v4c c i k (by omega) (by omega)]) ⟨by rw [y4 0 0 10 (by omega) (by omega), w3c 0 10 (by decide) (by decide) (by decide)], by rw [y4 0 0 50 (by omega) (by omega), w3c 0 50 (by decide) (by decide) (by decide)], by rw [y4 0 0 51 (by omega) (by omega), w3c 0 51 (by decide) (by decide) (by decide)]⟩ (fun c k a b => by rw [y4 c 0 k (by omega) (by omega), w3c c k (by omega) (by omega) (by omega)])
    have aX : At Y := fun t ht => by rw [y4 9 0 t (by omega) (by omega), w3c 9 t (by decide) (by decide) (by decide)]; exact h.at t ht
    exact ⟨Dv_send_0 dX, Di_send_0 iX, Wr_s0 wX aX rfl dX.se.symm dif.symm rfl, At_send⟩
  unfold xf_De_answerConnect mf_Mo_connect_0
  rw [hD.st, f1, hD.se, conn_eq_0]
  unfold xf_De_answerConnect_j1
  rw [hD.st]
  by_cases h0 : w 28 0 0 = 0
  · rw [if_pos h0, if_pos h0, if_pos h0, if_pos (by rw [h0]; decide)]
    exact core (Or.inl h0)
  · rw [if_neg h0, if_neg h0, if_neg h0]
    by_cases hw : w 29 0 0 = who
    · rw [if_pos hw, if_pos hw.symm]
      by_cases h1 : w 28 0 0 = 1
      · rw [if_pos h1, if_pos (by rw [h1]; decide)]
        exact core (Or.inr h1)
      · rw [if_neg h1, if_neg]
        · exact h
        · obtain ⟨z, hz, ez⟩ := vp_in_of hI.s4 (by decide)
          rw [ez] at h0 h1 ⊢
          intro y
          have := (nI_leI (a := z) (b := 1) (by omega) (by omega)).mp y
          rcases (show z = 0 ∨ z = 1 by omega) with rfl | rfl
          · exact h0 rfl
          · exact h1 rfl
    · rw [if_neg hw, if_neg (fun z => hw z.symm)]
      exact ⟨Dv_send_0 hD, Di_send_0 hI, Wr_s0 h.wr h.at rfl rfl rfl rfl, At_send⟩

def MW_1 (D e m : Int32) (s : Nat) : Int32 := if e < 0 then (D &&& (((1 : Int32) <<< (nI s &&& 31)) ^^^ (-1 : Int32))) else if m = e then (D &&& (((1 : Int32) <<< (nI s &&& 31)) ^^^ (-1 : Int32))) else (D ||| ((1 : Int32) <<< (nI s &&& 31)))
theorem mark_1 {w : fw_V} {s : Nat} (hs : s < 3) : mf_Mo_mark_1 w (nI s) = fw_up w 31 0 1 (MW_1 (w 31 0 1) (w 43 0 (3 * 1 + s)) (w 42 0 (3 * 1 + s)) s) := by
  have ie : ((3 : Int32) + nI s).toNatClampNeg = 3 * 1 + s := by
    show (nI 3 + nI s).toNatClampNeg = _
    rw [nI_add, nI_clamp (by omega)]
  unfold mf_Mo_mark_1 mf_Mo_mark_1_j1 mf_Mo_mark_1_j2 mf_Mo_mark_1_j3 MW_1
  rw [ie]
  (try dsimp only)
  by_cases a : w 43 0 (3 * 1 + s) < 0
  · rw [if_pos a, if_pos a]
  · rw [if_neg a, if_neg a]
    by_cases b : w 42 0 (3 * 1 + s) = w 43 0 (3 * 1 + s)
    · rw [if_pos b, if_pos b]
    · rw [if_neg b, if_neg b]
theorem CWM_1 {D e m : Int32} {s : Nat} (h8 : vp_in (e + 1) 9) : CW D e m s = MW_1 D e m s := by
  unfold CW MW_1 xf_FR_withSlot
  rcases m8_cases h8 with rfl | ⟨k, hk, rfl⟩
  · rw [if_pos rfl, if_pos rfl, if_pos (by decide)]
  · rw [if_neg (fun q => by
      have h1 : (nI k).toInt = (-1 : Int32).toInt := by rw [q]
      rw [nI_toInt (by omega), show (-1 : Int32).toInt = -1 from by decide] at h1
      omega), if_neg (nI_nn (by omega))]
    by_cases b : nI k = m
    · rw [if_pos b, if_pos b.symm, if_pos rfl]
    · rw [if_neg b, if_neg (show ¬ (1 : Int32) = 0 by decide), if_neg (fun q => b q.symm)]
/-- CONNECT, slot s, in the reference -/
def MX_1 (w : fw_V) (s : Nat) : fw_V := mf_Mo_mark_1 (fw_up (fw_up w 43 0 (3 * 1 + s) (w 10 0 s - 1)) 44 0 (3 * 1 + s) (-1)) (nI s)
theorem MX_o_1 {w : fw_V} {s c i k : Nat} (hs : s < 3) (h : ¬ ((c = 43 ∨ c = 44) ∧ i = 0 ∧ k = 3 * 1 + s)) (h' : ¬ (c = 31 ∧ i = 0 ∧ k = 1)) : MX_1 w s c i k = w c i k := by
  unfold MX_1
  rw [mark_1 hs, fw_up_ne h', fw_up_ne (fun q => h ⟨Or.inr q.1, q.2⟩), fw_up_ne (fun q => h ⟨Or.inl q.1, q.2⟩)]
theorem MX_w_1 {w : fw_V} {s : Nat} (hs : s < 3) : MX_1 w s 43 0 (3 * 1 + s) = w 10 0 s - 1 := by
  unfold MX_1
  rw [mark_1 hs, fw_up_c (by decide), fw_up_c (by decide), fw_up_s]
theorem MX_p_1 {w : fw_V} {s : Nat} (hs : s < 3) : MX_1 w s 44 0 (3 * 1 + s) = -1 := by
  unfold MX_1
  rw [mark_1 hs, fw_up_c (by decide), fw_up_s]
theorem MX_d_1 {w : fw_V} {s : Nat} (hs : s < 3) : MX_1 w s 31 0 1 = MW_1 (w 31 0 1) (w 10 0 s - 1) (w 42 0 (3 * 1 + s)) s := by
  unfold MX_1
  rw [mark_1 hs, fw_up_s, fw_up_c (c := 44) (c' := 31) (by decide), fw_up_c (c := 43) (c' := 31) (by decide), fw_up_c (c := 44) (c' := 43) (by decide), fw_up_s, fw_up_c (c := 44) (c' := 42) (by decide), fw_up_c (c := 43) (c' := 42) (by decide)]
theorem conn_eq_1 (w : fw_V) (a : Int32) : mf_Mo_connect_1_j1 w a = if w 28 0 1 ≤ 1 then mf_Mo_reply_1 (MX_1 (MX_1 (MX_1 (fw_up (fw_up (fw_up w 28 0 1 1) 29 0 1 a) 32 0 1 0) 0) 1) 2) 4 (MX_1 (MX_1 (MX_1 (fw_up (fw_up (fw_up w 28 0 1 1) 29 0 1 a) 32 0 1 0) 0) 1) 2 31 0 1) else w := rfl
theorem mx_fin_1 (w : fw_V) : (∀ s, s < 3 → MX_1 (MX_1 (MX_1 w 0) 1) 2 43 0 (3 * 1 + s) = w 10 0 s - 1) ∧ (∀ s, s < 3 → MX_1 (MX_1 (MX_1 w 0) 1) 2 44 0 (3 * 1 + s) = -1) ∧ MX_1 (MX_1 (MX_1 w 0) 1) 2 31 0 1 = MW_1 (MW_1 (MW_1 (w 31 0 1) (w 10 0 0 - 1) (w 42 0 (3 * 1 + 0)) 0) (w 10 0 1 - 1) (w 42 0 (3 * 1 + 1)) 1) (w 10 0 2 - 1) (w 42 0 (3 * 1 + 2)) 2 ∧ ∀ c i k, ¬ ((c = 43 ∨ c = 44) ∧ i = 0 ∧ 3 ≤ k ∧ k < 3 + 3) → ¬ (c = 31 ∧ i = 0 ∧ k = 1) → MX_1 (MX_1 (MX_1 w 0) 1) 2 c i k = w c i k := by
  have c10 : ∀ (x : fw_V) (s t : Nat), s < 3 → MX_1 x s 10 0 t = x 10 0 t := fun x s t hs => MX_o_1 hs (by omega) (by omega)
  have c42 : ∀ (x : fw_V) (s t : Nat), s < 3 → MX_1 x s 42 0 t = x 42 0 t := fun x s t hs => MX_o_1 hs (by omega) (by omega)
  refine ⟨fun s hs => ?_, fun s hs => ?_, ?_, fun c i k h h' => ?_⟩
  · rcases (show s = 0 ∨ s = 1 ∨ s = 2 by omega) with rfl | rfl | rfl
    · rw [MX_o_1 (by decide) (by omega) (by omega), MX_o_1 (by decide) (by omega) (by omega), MX_w_1 (by decide)]
    · rw [MX_o_1 (by decide) (by omega) (by omega), MX_w_1 (by decide), c10 _ _ _ (by decide)]
    · rw [MX_w_1 (by decide), c10 _ _ _ (by decide), c10 _ _ _ (by decide)]
  · rcases (show s = 0 ∨ s = 1 ∨ s = 2 by omega) with rfl | rfl | rfl
    · rw [MX_o_1 (by decide) (by omega) (by omega), MX_o_1 (by decide) (by omega) (by omega), MX_p_1 (by decide)]
    · rw [MX_o_1 (by decide) (by omega) (by omega), MX_p_1 (by decide)]
    · rw [MX_p_1 (by decide)]
  · rw [MX_d_1 (by decide), c10 _ _ _ (by decide), c10 _ _ _ (by decide), c42 _ _ _ (by decide), c42 _ _ _ (by decide), MX_d_1 (by decide), c10 _ _ _ (by decide), c42 _ _ _ (by decide), MX_d_1 (by decide)]
  · rw [MX_o_1 (by decide) (by omega) h', MX_o_1 (by decide) (by omega) h', MX_o_1 (by decide) (by omega) h']
/-- CONNECT -/
theorem De_conn_1 {v w : fw_V} {q : Nat} {who : Int32} (h : DB_1 v w) (f1 : v 7 q 1 = who) (f8 : ∀ t, t < 7 → v 8 q t = w 10 0 t) (hr : ∀ s, s < 3 → vp_in (w 10 0 s) 9) : DB_1 (xf_De_answerConnect v 1 q) (mf_Mo_connect_1 w who) := by
  have hD := h.dv
  have hI := h.di
  have core : (w 28 0 1 = 0 ∨ w 28 0 1 = 1) → DB_1 (xf_De_answerConnect_j2 v 1 q) (mf_Mo_reply_1 (MX_1 (MX_1 (MX_1 (fw_up (fw_up (fw_up w 28 0 1 1) 29 0 1 who) 32 0 1 0) 0) 1) 2) 4 (MX_1 (MX_1 (MX_1 (fw_up (fw_up (fw_up w 28 0 1 1) 29 0 1 who) 32 0 1 0) 0) 1) 2 31 0 1)) := by
    intro h01
    have hn3 : w 28 0 1 ≠ 3 := by rcases h01 with z | z <;> rw [z] <;> decide
    obtain ⟨n1, n2, n3⟩ := hI.nq hn3
    unfold xf_De_answerConnect_j2 xf_De_connect mf_Mo_reply_1
    (try dsimp only)
    obtain ⟨v4, e4⟩ : ∃ v4, v4 = fw_row (fw_up (fw_up (fw_up v 19 1 11 1) 19 1 12 who) 19 1 16 0) 27 1 (fun _ => (-1 : Int32)) := ⟨_, rfl⟩
    obtain ⟨w3, g3⟩ : ∃ w3, w3 = fw_up (fw_up (fw_up w 28 0 1 1) 29 0 1 who) 32 0 1 0 := ⟨_, rfl⟩
    rw [fw_up_c (show (7 : Nat) ≠ 19 by decide), f1, ← e4, ← g3]
    obtain ⟨x1, x2, x3⟩ := cx_fin v4 1 q
    obtain ⟨y1, y2, y3, y4⟩ := mx_fin_1 w3
    obtain ⟨X, eX⟩ : ∃ X, X = xf_De_connect_j1 v4 1 q := ⟨_, rfl⟩
    obtain ⟨Y, eY⟩ : ∃ Y, Y = MX_1 (MX_1 (MX_1 w3 0) 1) 2 := ⟨_, rfl⟩
    rw [← eX] at x1 x2 x3 ⊢
    rw [← eY] at y1 y2 y3 y4 ⊢
    have v4c : ∀ c i k, c ≠ 19 → c ≠ 27 → v4 c i k = v c i k := fun c i k a b => by rw [e4, fw_row_c b, fw_up_c a, fw_up_c a, fw_up_c a]
    have v19 : ∀ k, k ≠ 11 → k ≠ 12 → k ≠ 16 → v4 19 1 k = v 19 1 k := fun k a b c => by rw [e4, fw_row_c (by decide), fw_up_k c, fw_up_k b, fw_up_k a]
    have w3c : ∀ c k, c ≠ 28 → c ≠ 29 → c ≠ 32 → w3 c 0 k = w c 0 k := fun c k a b d => by rw [g3, fw_up_c d, fw_up_c b, fw_up_c a]
    have w3k : ∀ c k, k ≠ 1 → w3 c 0 k = w c 0 k := fun c k a => by rw [g3, fw_up_k a, fw_up_k a, fw_up_k a]
    have xs : ∀ c k, 20 ≤ c → c ≤ 25 → X c 1 k = v c 1 k := fun c k a b => by rw [x3 c 1 k (by omega) (by omega), v4c c 1 k (by omega) (by omega)]
    have x19 : ∀ k, k ≠ 11 → k ≠ 12 → k ≠ 16 → k ≠ 15 → X 19 1 k = v 19 1 k := fun k a b c d => by rw [x3 19 1 k (by omega) (by omega), v19 k a b c]
    have x11 : X 19 1 11 = 1 := by rw [x3 19 1 11 (by omega) (by omega), e4]; simp [fw_up, fw_row]
    have x12 : X 19 1 12 = who := by rw [x3 19 1 12 (by omega) (by omega), e4]; simp [fw_up, fw_row]
    have x16 : X 19 1 16 = 0 := by rw [x3 19 1 16 (by omega) (by omega), e4]; simp [fw_up, fw_row]
    have x27 : ∀ k, X 27 1 k = -1 := fun k => by rw [x3 27 1 k (by omega) (by omega), e4, fw_row_s]
    have x14 : ∀ k, X 14 (1 + 2) k = v 14 (1 + 2) k := fun k => by rw [x3 14 _ k (by omega) (by omega), v4c 14 _ k (by decide) (by decide)]
    have yc : ∀ c k, 28 ≤ c → c ≤ 48 → c ≠ 28 → c ≠ 29 → c ≠ 31 → c ≠ 32 → c ≠ 43 → c ≠ 44 → Y c 0 k = w c 0 k := fun c k a b d1 d2 d3 d4 d5 d6 => by rw [y4 c 0 k (by omega) (by omega), w3c c k d1 d2 d4]
    have y28 : Y 28 0 1 = 1 := by rw [y4 28 0 1 (by omega) (by omega), g3]; simp [fw_up]
    have y29 : Y 29 0 1 = who := by rw [y4 29 0 1 (by omega) (by omega), g3]; simp [fw_up]
    have y32 : Y 32 0 1 = 0 := by rw [y4 32 0 1 (by omega) (by omega), g3]; simp [fw_up]
    have row : ∀ s, s < 3 → v4 8 q s - 1 = w3 10 0 s - 1 := fun s hs => by rw [v4c 8 q s (by decide) (by decide), f8 s (by omega), w3c 10 s (by decide) (by decide) (by decide)]
    have m8s : ∀ s, s < 3 → vp_in (w3 10 0 s - 1 + 1) 9 := fun s hs => by rw [w3c 10 s (by decide) (by decide) (by decide)]; exact fw_m8s (hr s hs)
    have mod : ∀ s, s < 3 → v4 23 1 s = w3 42 0 (3 * 1 + s) := fun s hs => by rw [v4c 23 1 s (by decide) (by decide), hD.mo s hs, w3c 42 _ (by decide) (by decide) (by decide)]
    have dif : X 19 1 15 = Y 31 0 1 := by
      rw [x2, y3, row 0 (by decide), row 1 (by decide), row 2 (by decide), mod 0 (by decide), mod 1 (by decide), mod 2 (by decide), v19 15 (by decide) (by decide) (by decide), hD.di, w3c 31 _ (by decide) (by decide) (by decide), CWM_1 (m8s 0 (by decide)), CWM_1 (m8s 1 (by decide)), CWM_1 (m8s 2 (by decide))]
    have dX : Dv 1 X Y := by
      refine ⟨?_, ?_, ?_, ?_, ?_, ?_, dif, ?_, ?_, ?_, ?_, ?_, ?_, ?_, ?_, fun j hj => ?_, fun j hj => ?_, fun s hs => ?_, fun _ s hs => ?_, fun s hs => ?_, fun i hi => ?_, fun i hi => ?_⟩
      · rw [x19 0 (by decide) (by decide) (by decide) (by decide)]; exact hD.ix
      · rw [x19 5 (by decide) (by decide) (by decide) (by decide), yc 30 _ (by decide) (by decide) (by decide) (by decide) (by decide) (by decide) (by decide) (by decide)]; exact hD.nm
      · rw [x19 6 (by decide) (by decide) (by decide) (by decide), yc 40 _ (by decide) (by decide) (by decide) (by decide) (by decide) (by decide) (by decide) (by decide)]; exact hD.fb
      · rw [x19 7 (by decide) (by decide) (by decide) (by decide), yc 41 _ (by decide) (by decide) (by decide) (by decide) (by decide) (by decide) (by decide) (by decide)]; exact hD.oc
      · rw [x11, y28]
      · rw [x12, y29]
      · rw [x16, y32]
      · rw [y28]; intro z; exact absurd z (by decide)
      · rw [y28]; intro z; exact absurd z (by decide)
      · rw [y28]; intro z; exact absurd z (by decide)
      · rw [xs 20 2 (by decide) (by decide), yc 37 _ (by decide) (by decide) (by decide) (by decide) (by decide) (by decide) (by decide) (by decide)]; exact hD.qs
      · rw [xs 20 3 (by decide) (by decide), yc 36 _ (by decide) (by decide) (by decide) (by decide) (by decide) (by decide) (by decide) (by decide)]; exact hD.qw
      · rw [y28]; intro z; exact absurd z (by decide)
      · rw [y28]; intro z; exact absurd z (by decide)
      · rw [xs 21 j (by decide) (by decide), yc 47 _ (by decide) (by decide) (by decide) (by decide) (by decide) (by decide) (by decide) (by decide)]; exact hD.sl j hj
      · rw [xs 22 j (by decide) (by decide), yc 48 _ (by decide) (by decide) (by decide) (by decide) (by decide) (by decide) (by decide) (by decide)]; exact hD.sk j hj
      · rw [xs 23 s (by decide) (by decide), yc 42 _ (by decide) (by decide) (by decide) (by decide) (by decide) (by decide) (by decide) (by decide)]; exact hD.mo s hs
      · rw [x1 s hs, y1 s hs, row s hs]
      · rw [x27, y2 s hs]
      · rw [xs 24 i (by decide) (by decide), yc 45 _ (by decide) (by decide) (by decide) (by decide) (by decide) (by decide) (by decide) (by decide)]; exact hD.sn i hi
      · rw [xs 25 i (by decide) (by decide), yc 46 _ (by decide) (by decide) (by decide) (by decide) (by decide) (by decide) (by decide) (by decide)]; exact hD.sh i hi
    have iX : Di 1 X Y := by
      refine ⟨?_, ?_, ?_, ?_, ?_, ?_, ?_, ?_, ?_, ?_, ?_, ?_, fun s hs => Or.inl (y2 s hs), ?_, fun s hs => ?_, fun _ s hs => ?_, fun j hj => ?_⟩
      · rw [y28]; exact fw_inc (by decide)
      · rw [y28]; intro z; exact absurd z (by decide)
      · intro _
        rw [yc 37 _ (by decide) (by decide) (by decide) (by decide) (by decide) (by decide) (by decide) (by decide), yc 36 _ (by decide) (by decide) (by decide) (by decide) (by decide) (by decide) (by decide) (by decide), xs 20 4 (by decide) (by decide)]
        exact ⟨n1, n2, n3⟩
      · rw [y32]; intro _; exact fw_inc (by decide)
      · rw [y28]; intro z; exact absurd z (by decide)
      · rw [y28]; intro z; exact absurd z (by decide)
      · rw [y28]; intro z; exact absurd z (by decide)
      · rw [y28]; intro z; exact absurd z (by decide)
      · rw [yc 37 _ (by decide) (by decide) (by decide) (by decide) (by decide) (by decide) (by decide) (by decide)]; exact hI.q5
      · rw [y28]; intro z; exact absurd z (by decide)
      · rw [y28]; intro z; exact absurd z (by decide)
      · rw [y28]; intro z; exact absurd z (by decide)
      · rw [yc 40 _ (by decide) (by decide) (by decide) (by decide) (by decide) (by decide) (by decide) (by decide)]; exact hI.sb
      · rw [yc 42 _ (by decide) (by decide) (by decide) (by decide) (by decide) (by decide) (by decide) (by decide)]; exact hI.m8 s hs
      · rw [y1 s hs]; exact m8s s hs
      · rw [yc 47 _ (by decide) (by decide) (by decide) (by decide) (by decide) (by decide) (by decide) (by decide)]; exact hI.a3 j hj
    have wX : Wr X Y := Wr_cg h.wr (fun c i k a b => by rw [x3 c i k (by omega) (by omega), v4c c i k (by omega) (by omega)]) ⟨by rw [y4 0 0 10 (by omega) (by omega), w3c 0 10 (by decide) (by decide) (by decide)], by rw [y4 0 0 50 (by omega) (by omega), w3c 0 50 (by decide) (by decide) (by decide)], by rw [y4 0 0 51 (by omega) (by omega), w3c 0 51 (by decide) (by decide) (by decide)]⟩ (fun c k a b => by rw [y4 c 0 k (by omega) (by omega), w3c c k (by omega) (by omega) (by omega)])
    have aX : At Y := fun t ht => by rw [y4 9 0 t (by omega) (by omega), w3c 9 t (by decide) (by decide) (by decide)]; exact h.at t ht
    exact ⟨Dv_send_1 dX, Di_send_1 iX, Wr_s0 wX aX rfl dX.se.symm dif.symm rfl, At_send⟩
  unfold xf_De_answerConnect mf_Mo_connect_1
  rw [hD.st, f1, hD.se, conn_eq_1]
  unfold xf_De_answerConnect_j1
  rw [hD.st]
  by_cases h0 : w 28 0 1 = 0
  · rw [if_pos h0, if_pos h0, if_pos h0, if_pos (by rw [h0]; decide)]
    exact core (Or.inl h0)
  · rw [if_neg h0, if_neg h0, if_neg h0]
    by_cases hw : w 29 0 1 = who
    · rw [if_pos hw, if_pos hw.symm]
      by_cases h1 : w 28 0 1 = 1
      · rw [if_pos h1, if_pos (by rw [h1]; decide)]
        exact core (Or.inr h1)
      · rw [if_neg h1, if_neg]
        · exact h
        · obtain ⟨z, hz, ez⟩ := vp_in_of hI.s4 (by decide)
          rw [ez] at h0 h1 ⊢
          intro y
          have := (nI_leI (a := z) (b := 1) (by omega) (by omega)).mp y
          rcases (show z = 0 ∨ z = 1 by omega) with rfl | rfl
          · exact h0 rfl
          · exact h1 rfl
    · rw [if_neg hw, if_neg (fun z => hw z.symm)]
      exact ⟨Dv_send_1 hD, Di_send_1 hI, Wr_s0 h.wr h.at rfl rfl rfl rfl, At_send⟩

/-- the turn of one DEVICE: a FRAME comes -/
theorem De_recv_0 {v w : fw_V} {q : Nat} {what who n : Int32} (h : DB_0 v w) (hK : Kd v w) (f0 : v 7 q 0 = what) (f1 : v 7 q 1 = who) (f2 : v 7 q 2 = n) (f8 : ∀ t, t < 7 → v 8 q t = w 10 0 t) (h12 : what = 12 → vp_in n 256) (h6 : what = 6 → vp_in n 3) (hp : what = 6 → ¬ w 10 0 0 < 0) (h3 : what = 3 → ∀ s, s < 3 → vp_in (w 10 0 s) 9) : DB_0 (xf_De_receive v 0 q) (mf_Mo_arrives_0 w what who n) := by
  unfold xf_De_receive mf_Mo_arrives_0
  rw [f0, f2]
  (try dsimp only)
  by_cases e1 : what = 1
  · rw [if_pos e1, if_pos e1]
    exact De_seek_0 h
  · rw [if_neg e1, if_neg e1]
    by_cases e3 : what = 3
    · rw [if_pos e3, if_pos e3]
      exact De_conn_0 h f1 f8 (h3 e3)
    · rw [if_neg e3, if_neg e3, h.dv.st, f1, h.dv.se]
      by_cases h0 : w 28 0 0 = 0
      · rw [if_pos h0, if_pos h0]; exact h
      · rw [if_neg h0, if_neg h0]
        by_cases hw : w 29 0 0 = who
        · rw [if_pos hw, if_pos hw.symm]
          by_cases e6 : what = 6
          · rw [if_pos e6, e6]; exact De_write_0 h f2 (f8 0 (by decide)) (h6 e6) (hp e6)
          · rw [if_neg e6]
            by_cases e8 : what = 8
            · rw [if_pos e8, e8]; exact De_end_0 h hK
            · rw [if_neg e8]
              by_cases e11 : what = 11
              · rw [if_pos e11, e11]; exact De_go_0 h
              · rw [if_neg e11]
                by_cases e12 : what = 12
                · rw [if_pos e12, e12]; exact De_out_0 h hK f2 f8 (h12 e12)
                · rw [if_neg e12]
                  by_cases e15 : what = 15
                  · rw [if_pos e15, e15]; exact De_taken_0 h
                  · rw [if_neg e15]
                    by_cases e16 : what = 16
                    · rw [if_pos e16, e16, ob16_0]; exact De_rest_0 h.dv h.di.sb h.di.m8 h.di.a3 hK h.wr h.at
                    · rw [if_neg e16, ob_no_0 e6 e8 e11 e12 e15 e16]; exact h
        · rw [if_neg hw, if_neg (fun z => hw z.symm)]; exact h

/-- the turn of one DEVICE: a FRAME comes -/
theorem De_recv_1 {v w : fw_V} {q : Nat} {what who n : Int32} (h : DB_1 v w) (hK : Kd v w) (f0 : v 7 q 0 = what) (f1 : v 7 q 1 = who) (f2 : v 7 q 2 = n) (f8 : ∀ t, t < 7 → v 8 q t = w 10 0 t) (h12 : what = 12 → vp_in n 256) (h6 : what = 6 → vp_in n 3) (hp : what = 6 → ¬ w 10 0 0 < 0) (h3 : what = 3 → ∀ s, s < 3 → vp_in (w 10 0 s) 9) : DB_1 (xf_De_receive v 1 q) (mf_Mo_arrives_1 w what who n) := by
  unfold xf_De_receive mf_Mo_arrives_1
  rw [f0, f2]
  (try dsimp only)
  by_cases e1 : what = 1
  · rw [if_pos e1, if_pos e1]
    exact De_seek_1 h
  · rw [if_neg e1, if_neg e1]
    by_cases e3 : what = 3
    · rw [if_pos e3, if_pos e3]
      exact De_conn_1 h f1 f8 (h3 e3)
    · rw [if_neg e3, if_neg e3, h.dv.st, f1, h.dv.se]
      by_cases h0 : w 28 0 1 = 0
      · rw [if_pos h0, if_pos h0]; exact h
      · rw [if_neg h0, if_neg h0]
        by_cases hw : w 29 0 1 = who
        · rw [if_pos hw, if_pos hw.symm]
          by_cases e6 : what = 6
          · rw [if_pos e6, e6]; exact De_write_1 h f2 (f8 0 (by decide)) (h6 e6) (hp e6)
          · rw [if_neg e6]
            by_cases e8 : what = 8
            · rw [if_pos e8, e8]; exact De_end_1 h hK
            · rw [if_neg e8]
              by_cases e11 : what = 11
              · rw [if_pos e11, e11]; exact De_go_1 h
              · rw [if_neg e11]
                by_cases e12 : what = 12
                · rw [if_pos e12, e12]; exact De_out_1 h hK f2 f8 (h12 e12)
                · rw [if_neg e12]
                  by_cases e15 : what = 15
                  · rw [if_pos e15, e15]; exact De_taken_1 h
                  · rw [if_neg e15]
                    by_cases e16 : what = 16
                    · rw [if_pos e16, e16, ob16_1]; exact De_rest_1 h.dv h.di.sb h.di.m8 h.di.a3 hK h.wr h.at
                    · rw [if_neg e16, ob_no_1 e6 e8 e11 e12 e15 e16]; exact h
        · rw [if_neg hw, if_neg (fun z => hw z.symm)]; exact h


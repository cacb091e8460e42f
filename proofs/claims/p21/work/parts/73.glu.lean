/-- what a frame on the wire keeps to -/
def FW (w : fw_V) (k : Nat) : Prop := (w 4 0 k = 13 → vp_in (w 6 0 k) 256) ∧ (w 4 0 k = 12 → vp_in (w 6 0 k) 256) ∧ (w 4 0 k = 14 → vp_in (w 8 0 (7 * k)) 3) ∧ (w 4 0 k = 6 → vp_in (w 6 0 k) 3) ∧ (w 4 0 k = 6 → ¬ w 8 0 (7 * k) < 0) ∧ (w 4 0 k = 3 → ∀ s, s < 3 → vp_in (w 8 0 (7 * k + s)) 9) ∧ (w 4 0 k = 14 → ∀ r, r < 2 → w 12 0 r = 6 → w 13 0 r = w 5 0 k → ¬ w 24 0 (3 * r + (w 8 0 (7 * k)).toNatClampNeg) < 0)
theorem GB_mono {B B' : Nat} {v w : fw_V} (h : GB B v w) (hb : B ≤ B') : GB B' v w := ⟨h.r0, h.i0, h.r1, h.i1, h.d0, h.e0, h.d1, h.e1, h.wr, h.at, Lg_mono h.lg hb, h.kd, h.ex, h.c5, h.c6, h.c7, h.c8, h.wt⟩
/-- the row that came -/
def CM (w : fw_V) (k : Nat) : fw_V := fw_up (fw_up (fw_up (fw_up (fw_up (fw_up (fw_up w 10 0 0 (w 8 0 (7 * k + 0))) 10 0 1 (w 8 0 (7 * k + 1))) 10 0 2 (w 8 0 (7 * k + 2))) 10 0 3 (w 8 0 (7 * k + 3))) 10 0 4 (w 8 0 (7 * k + 4))) 10 0 5 (w 8 0 (7 * k + 5))) 10 0 6 (w 8 0 (7 * k + 6))
theorem CM_c {w : fw_V} {k c i t : Nat} (h : c ≠ 10) : CM w k c i t = w c i t := by
  unfold CM
  rw [fw_up_c h, fw_up_c h, fw_up_c h, fw_up_c h, fw_up_c h, fw_up_c h, fw_up_c h]
theorem CM_t {w : fw_V} {k t : Nat} (h : t < 7) : CM w k 10 0 t = w 8 0 (7 * k + t) := by
  unfold CM
  rcases (show t = 0 ∨ t = 1 ∨ t = 2 ∨ t = 3 ∨ t = 4 ∨ t = 5 ∨ t = 6 by omega) with rfl | rfl | rfl | rfl | rfl | rfl | rfl <;> simp [fw_up]
theorem dl_ref {w : fw_V} {k n : Nat} (hk : k < n) (hn : n ≤ 16) (e : w 0 0 10 = nI n) : mf_Mo_deliver w (nI k) = (if w 7 0 k = 2 then ((mf_Mo_controller (fw_up (mf_Mo_remove (CM w k) (nI k)) 0 0 52 (mf_Mo_remove (CM w k) (nI k) 0 0 52 + 1)) (w 4 0 k) (w 5 0 k) (w 6 0 k)) 0 0 10, mf_Mo_controller (fw_up (mf_Mo_remove (CM w k) (nI k)) 0 0 52 (mf_Mo_remove (CM w k) (nI k) 0 0 52 + 1)) (w 4 0 k) (w 5 0 k) (w 6 0 k)) else mf_Mo_deliver_j1 (fw_up (mf_Mo_remove (CM w k) (nI k)) 0 0 52 (mf_Mo_remove (CM w k) (nI k) 0 0 52 + 1)) (nI k) (w 4 0 k) (w 5 0 k) (w 6 0 k) (w 7 0 k)) := by
  have hx : ¬ mf_Mo_is (nI k) 0 (w 0 0 10 - 1) = 0 := by
    rw [e, nI_p (by omega)]
    unfold mf_Mo_is
    have a1 : ¬ nI k < 0 := fun q => by
      have := (nI_ltI (a := k) (b := 0) (by omega) (by omega)).mp q
      omega
    have a2 : ¬ nI (n - 1) < nI k := fun q => by
      have := (nI_ltI (a := n - 1) (b := k) (by omega) (by omega)).mp q
      omega
    simp [a1, a2]
  have j : ∀ t, t < 7 → (((7 : Int32) * nI k) + nI t).toNatClampNeg = 7 * k + t := fun t ht => i7 (by omega) ht
  have j0 : (((7 : Int32) * nI k) + (0 : Int32)).toNatClampNeg = 7 * k + 0 := j 0 (by decide)
  have j1 : (((7 : Int32) * nI k) + (1 : Int32)).toNatClampNeg = 7 * k + 1 := j 1 (by decide)
  have j2 : (((7 : Int32) * nI k) + (2 : Int32)).toNatClampNeg = 7 * k + 2 := j 2 (by decide)
  have j3 : (((7 : Int32) * nI k) + (3 : Int32)).toNatClampNeg = 7 * k + 3 := j 3 (by decide)
  have j4 : (((7 : Int32) * nI k) + (4 : Int32)).toNatClampNeg = 7 * k + 4 := j 4 (by decide)
  have j5 : (((7 : Int32) * nI k) + (5 : Int32)).toNatClampNeg = 7 * k + 5 := j 5 (by decide)
  have j6 : (((7 : Int32) * nI k) + (6 : Int32)).toNatClampNeg = 7 * k + 6 := j 6 (by decide)
  unfold mf_Mo_deliver
  (try dsimp only)
  rw [if_neg hx, j0, j1, j2, j3, j4, j5, j6, nI_clamp (by omega)]
  simp only [fw_up_c (show (8 : Nat) ≠ 10 by decide)]
  rfl
/-- deliver -/
theorem GB_deliver {B : Nat} {v w : fw_V} (a : Int32) (h : GB B v w) (hB : B + 1 < 2 ^ 30) (h6 : ∀ k, vp_in (v 6 0 k) 18) (hW : ∀ k, k < (w 0 0 10).toNatClampNeg → FW w k) : GB (B + 2) (xf_FR_deliver v a).2 (mf_Mo_deliver w a).2 ∧ (xf_FR_deliver v a).1 = (mf_Mo_deliver w a).1 := by
  by_cases hx : mf_Mo_is a 0 (w 0 0 10 - 1) = 0
  · unfold xf_FR_deliver mf_Mo_deliver xf_Wi_has
    (try dsimp only)
    rw [xw_is, h.wr.sz, if_pos hx, if_pos hx]; exact ⟨GB_mono h (by omega), rfl⟩
  · obtain ⟨n, hn, en⟩ := vp_in_of h.wr.ok (by decide)
    have ew : w 0 0 10 = nI n := by rw [← h.wr.sz]; exact en
    have hx' := hx
    rw [ew] at hx'
    obtain ⟨k, hk, rfl⟩ := is_has (by omega) hx'
    have hsz : k < (v 5 0 2).toNatClampNeg := by rw [en, nI_clamp (by omega)]; exact hk
    obtain ⟨F13, F12, F14, F6, F6p, F3, FA⟩ := hW k (by rw [ew, nI_clamp (by omega)]; exact hk)
    rw [dl_ref hk (by omega) ew]
    unfold xf_FR_deliver xf_Wi_has
    (try dsimp only)
    rw [xw_is, h.wr.sz, if_neg hx]
    have wrc : Wr v (CM w k) := Wr_cg h.wr (fun _ _ _ _ _ => rfl) ⟨CM_c (by decide), CM_c (by decide), CM_c (by decide)⟩ (fun c k q1 q2 => CM_c (by omega))
    obtain ⟨t1, t2, t3, t4, t5⟩ := Wr_take (k := k) wrc h6 hsz
    obtain ⟨q0, q1, -, -⟩ := mrem_ex (w := CM w k) (k := k) (n := n) hk (by omega) (by rw [CM_c (by decide)]; exact ew)
    obtain ⟨v6, e6⟩ : ∃ v6, v6 = (xf_Wi_take v (nI k)).2 := ⟨_, rfl⟩
    obtain ⟨w6, g6⟩ : ∃ w6, w6 = mf_Mo_remove (CM w k) (nI k) := ⟨_, rfl⟩
    obtain ⟨q, eq'⟩ : ∃ q, q = (v 6 0 k).toNatClampNeg := ⟨_, rfl⟩
    rw [← e6] at t2 t3 t4 t5
    rw [← g6] at t2 q0 q1
    rw [t1, ← e6, ← g6, ← eq']
    rw [← eq'] at t4
    have hq17 : q < 17 := by rw [eq']; exact h.wr.lt k (by omega)
    obtain ⟨v8, e8⟩ : ∃ v8, v8 = fw_up v6 0 0 7 (v6 0 0 7 + 1) := ⟨_, rfl⟩
    obtain ⟨w8, g8⟩ : ∃ w8, w8 = fw_up w6 0 0 52 (w6 0 0 52 + 1) := ⟨_, rfl⟩
    rw [← e8, ← g8]
    have v8c : ∀ c i k, c ≠ 0 → v8 c i k = v6 c i k := fun c i k z => by rw [e8, fw_up_c z]
    have w8c : ∀ c k, c ≠ 0 → w8 c 0 k = w6 c 0 k := fun c k z => by rw [g8, fw_up_c z]
    have wr8 : Wr v8 w8 := Wr_cg t2 (fun c i k z1 z2 => v8c c i k (by omega)) ⟨by rw [g8]; exact fw_up_k (by decide), by rw [g8]; exact fw_up_k (by decide), by rw [g8]; exact fw_up_k (by decide)⟩ (fun c k z1 z2 => w8c c k (by omega))
    have w6k : ∀ t, t ≠ 10 → w6 0 0 t = w 0 0 t := fun t z => by rw [q1 0 0 t (by decide) (by decide) (by decide) (by decide) (by decide) (by omega)]; exact CM_c (by decide)
    have w6c : ∀ c k', c ≠ 0 → ¬ (4 ≤ c ∧ c ≤ 8) → c ≠ 10 → w6 c 0 k' = w c 0 k' := fun c k' z1 z2 z3 => by rw [q1 c 0 k' (by omega) (by omega) (by omega) (by omega) (by omega) (by omega)]; exact CM_c z3
    have h8 : GB B v8 w8 := by
      refine GB_o h (fun c i k z1 z2 => by rw [v8c c i k z1]; exact t3 c i k (by omega) (by omega)) (fun c k z1 z2 z3 => by rw [w8c c k z1]; exact w6c c k z1 z2 z3) wr8 ?_ ?_ ?_ ?_ ?_ ?_
      · rw [e8, g8, fw_up_k (by decide), fw_up_k (by decide), t3 0 0 5 (by decide) (by decide), w6k 54 (by decide)]; exact h.c5
      · rw [e8, g8, fw_up_k (by decide), fw_up_k (by decide), t3 0 0 6 (by decide) (by decide), w6k 49 (by decide)]; exact h.c6
      · rw [e8, g8, fw_up_s, fw_up_s, t3 0 0 7 (by decide) (by decide), w6k 52 (by decide), h.c7]
      · rw [e8, g8, fw_up_k (by decide), fw_up_k (by decide), t3 0 0 8 (by decide) (by decide), w6k 53 (by decide)]; exact h.c8
      · rw [g8, fw_up_k (by decide), w6k 55 (by decide)]
      · rw [g8, fw_up_k (by decide), w6k 56 (by decide)]
    have came : ∀ t, t < 7 → w8 10 0 t = w 8 0 (7 * k + t) := fun t ht => by rw [w8c 10 t (by decide), q1 10 0 t (by decide) (by decide) (by decide) (by decide) (by decide) (by omega)]; exact CM_t ht
    obtain ⟨x0, x1, x2, x3, x8⟩ := h.wr.fr k hsz
    rw [← eq'] at x0 x1 x2 x3 x8
    have y : ∀ c t, c = 7 ∨ c = 8 → v8 c q t = v c q t := fun c t z => by rw [v8c c q t (by omega)]; exact t3 c q t (by omega) (by omega)
    have f0 : v8 7 q 0 = w 4 0 k := by rw [y 7 0 (by decide)]; exact x0
    have f1 : v8 7 q 1 = w 5 0 k := by rw [y 7 1 (by decide)]; exact x1
    have f2 : v8 7 q 2 = w 6 0 k := by rw [y 7 2 (by decide)]; exact x2
    have f3 : v8 7 q 3 = w 7 0 k := by rw [y 7 3 (by decide)]; exact x3
    have f8 : ∀ t, t < 7 → v8 8 q t = w8 10 0 t := fun t ht => by rw [y 8 t (by decide), came t ht]; exact x8 t ht
    have hF : Fx v8 q := by
      refine ⟨hq17, fun j hj z => ?_⟩
      have z16 : (v8 6 0 16).toNatClampNeg = q := by rw [v8c 6 0 16 (by decide), t4]; exact nI_clamp (by omega)
      have := wr8.inj j 16 (by omega) (by decide) (z.trans z16.symm)
      omega
    have c0 : w8 10 0 0 = w 8 0 (7 * k) := came 0 (by decide)
    have w812 : ∀ c k', c ≠ 0 → ¬ (4 ≤ c ∧ c ≤ 8) → c ≠ 10 → w8 c 0 k' = w c 0 k' := fun c k' z1 z2 z3 => by rw [w8c c k' z1]; exact w6c c k' z1 z2 z3
    unfold xf_FR_deliver_j1
    rw [f3]
    by_cases hg : w 7 0 k = 2
    · rw [if_pos hg, if_pos hg, ctl_eq]
      have a0 := GB_ctl_0 h8 (by omega) f0 f1 f2 f8 hF F13 (fun z => by rw [c0]; exact F14 z) (fun z z1 z2 => by
        rw [w812 12 0 (by decide) (by decide) (by decide)] at z1
        rw [w812 13 0 (by decide) (by decide) (by decide)] at z2
        rw [c0, w812 24 _ (by decide) (by decide) (by decide)]
        exact FA z 0 (by decide) z1 z2)
      (try dsimp only)
      obtain ⟨va, ea⟩ : ∃ va, va = xf_Re_receive v8 0 q := ⟨_, rfl⟩
      obtain ⟨wa, ga⟩ : ∃ wa, wa = ctl_0 w8 (w 4 0 k) (w 5 0 k) (w 6 0 k) := ⟨_, rfl⟩
      rw [← ea, ← ga] at a0
      rw [← ea, ← ga]
      have ya : ∀ c t, c = 7 ∨ c = 8 → va c q t = v8 c q t := fun c t z => by rw [ea]; exact kx_Re_receive z hF
      have wac : ∀ c k', (c = 10 ∨ c = 24 ∨ ((c = 12 ∨ c = 13) ∧ k' = 1)) → wa c 0 k' = w8 c 0 k' := fun c k' z => by rw [ga]; exact ctl_c_0 (by omega) (by omega) (by omega)
      have hFa : Fx va q := by rw [ea]; exact kf_Re_receive.mpr hF
      unfold xf_FR_deliver_j3 xf_FR_deliver_j4
      (try dsimp only)
      rw [if_pos (show va 7 q 3 = 2 by rw [ya 7 3 (by decide), f3]; exact hg)]
      have a1 := GB_ctl_1 a0 (by omega) ((ya 7 0 (by decide)).trans f0) ((ya 7 1 (by decide)).trans f1) ((ya 7 2 (by decide)).trans f2) (fun t ht => by rw [ya 8 t (by decide), wac 10 t (by omega)]; exact f8 t ht) hFa F13 (fun z => by rw [wac 10 0 (by omega), c0]; exact F14 z) (fun z z1 z2 => by
        rw [wac 12 1 (by omega), w812 12 1 (by decide) (by decide) (by decide)] at z1
        rw [wac 13 1 (by omega), w812 13 1 (by decide) (by decide) (by decide)] at z2
        rw [wac 10 0 (by omega), c0, wac 24 _ (by omega), w812 24 _ (by decide) (by decide) (by decide)]
        exact FA z 1 (by decide) z1 z2)
      unfold xf_FR_deliver_j6 xf_FR_deliver_j7
      exact ⟨a1, a1.wr.sz⟩
    · rw [if_neg hg, if_neg hg]
      have hm : ∀ {v' w' : fw_V}, GB B v' w' → GB (B + 2) v' w' := fun z => GB_mono z (by omega)
      have p3 : w 4 0 k = 3 → ∀ s, s < 3 → vp_in (w8 10 0 s) 9 := fun z s hs => by rw [came s (by omega)]; exact F3 z s hs
      have p6 : w 4 0 k = 6 → ¬ w8 10 0 0 < 0 := fun z => by rw [c0]; exact F6p z
      have second : ∀ va wa, GB B va wa → (∀ c t, c = 7 ∨ c = 8 → va c q t = v8 c q t) → (∀ t, wa 10 0 t = w8 10 0 t) → GB (B + 2) (xf_FR_deliver_j3 va (nI k) q).2 (mf_Mo_deliver_j3 wa (nI k) (w 4 0 k) (w 5 0 k) (w 6 0 k) (w 7 0 k)).2 ∧ (xf_FR_deliver_j3 va (nI k) q).1 = (mf_Mo_deliver_j3 wa (nI k) (w 4 0 k) (w 5 0 k) (w 6 0 k) (w 7 0 k)).1 := by
        intro va wa ha ya wac
        unfold xf_FR_deliver_j3 xf_FR_deliver_j4 mf_Mo_deliver_j3 mf_Mo_deliver_j4
        have g3 : va 7 q 3 = w 7 0 k := by rw [ya 7 3 (by decide)]; exact f3
        rw [g3, if_neg hg]
        have last : GB (B + 2) (xf_FR_deliver_j5 va (nI k) q).2 (mf_Mo_deliver_j5 wa (nI k) (w 4 0 k) (w 5 0 k) (w 6 0 k) (w 7 0 k)).2 ∧ (xf_FR_deliver_j5 va (nI k) q).1 = (mf_Mo_deliver_j5 wa (nI k) (w 4 0 k) (w 5 0 k) (w 6 0 k) (w 7 0 k)).1 := by
          have a1 := GB_arr_1 ha ((ya 7 0 (by decide)).trans f0) ((ya 7 1 (by decide)).trans f1) ((ya 7 2 (by decide)).trans f2) (fun t ht => by rw [ya 8 t (by decide), wac t]; exact f8 t ht) F12 F6 (fun z => by rw [wac 0]; exact p6 z) (fun z s hs => by rw [wac s]; exact p3 z s hs)
          unfold xf_FR_deliver_j5 mf_Mo_deliver_j5 xf_FR_deliver_j6 mf_Mo_deliver_j6 xf_FR_deliver_j7 mf_Mo_deliver_j7
          exact ⟨hm a1, a1.wr.sz⟩
        have none' : GB (B + 2) (xf_FR_deliver_j6 va (nI k) q).2 (mf_Mo_deliver_j6 wa (nI k) (w 4 0 k) (w 5 0 k) (w 6 0 k) (w 7 0 k)).2 ∧ (xf_FR_deliver_j6 va (nI k) q).1 = (mf_Mo_deliver_j6 wa (nI k) (w 4 0 k) (w 5 0 k) (w 6 0 k) (w 7 0 k)).1 := by
          unfold xf_FR_deliver_j6 mf_Mo_deliver_j6 xf_FR_deliver_j7 mf_Mo_deliver_j7
          exact ⟨hm ha, ha.wr.sz⟩
        by_cases g1 : w 7 0 k = 1
        · rw [if_neg (show ¬ w 7 0 k = 3 by rw [g1]; decide), if_pos g1, if_pos g1]; exact last
        · by_cases g33 : w 7 0 k = 3
          · rw [if_pos g33, if_neg g1, if_pos g33]; exact last
          · rw [if_neg g33, if_neg g1, if_neg g1, if_neg g33]; exact none'
      have first : GB (B + 2) (xf_FR_deliver_j2 v8 (nI k) q).2 (mf_Mo_deliver_j2 w8 (nI k) (w 4 0 k) (w 5 0 k) (w 6 0 k) (w 7 0 k)).2 ∧ (xf_FR_deliver_j2 v8 (nI k) q).1 = (mf_Mo_deliver_j2 w8 (nI k) (w 4 0 k) (w 5 0 k) (w 6 0 k) (w 7 0 k)).1 := by
        have a0 := GB_arr_0 h8 f0 f1 f2 f8 F12 F6 p6 p3
        unfold xf_FR_deliver_j2 mf_Mo_deliver_j2
        exact second _ _ a0 (fun c t z => kx_De_receive z hF) (fun t => md0_Mo_arrives_0 (by decide) (by omega) w8 _ _ _)
      have skip := second v8 w8 h8 (fun _ _ _ => rfl) (fun _ => rfl)
      unfold mf_Mo_deliver_j1
      by_cases g0 : w 7 0 k = 0
      · rw [if_neg (show ¬ w 7 0 k = 3 by rw [g0]; decide), if_pos g0, if_pos g0]; exact first
      · by_cases g33 : w 7 0 k = 3
        · rw [if_pos g33, if_neg g0, if_pos g33]; exact first
        · rw [if_neg g33, if_neg g0, if_neg g0, if_neg g33]; exact skip

/-- calls that set something -/
theorem DB_name_0 {v w : fw_V} {x : Int32} (h : DB_0 v w) : DB_0 (fw_up v 19 0 5 x) (fw_up w 30 0 0 x) := by
  have hD := h.dv
  have g := h.di
  refine ⟨?_, ?_, ?_, ?_⟩
  · refine ⟨?_, ?_, ?_, ?_, ?_, ?_, ?_, ?_, ?_, ?_, ?_, ?_, ?_, ?_, ?_, ?_, ?_, ?_, ?_, ?_, ?_, ?_⟩
    · simp [fw_up]; exact hD.ix
    · simp [fw_up]
    · simp [fw_up]; exact hD.fb
    · simp [fw_up]; exact hD.oc
    · simp [fw_up]; exact hD.st
    · simp [fw_up]; exact hD.se
    · simp [fw_up]; exact hD.di
    · simp [fw_up]; exact hD.ti
    · simp [fw_up]; exact hD.ag
    · simp [fw_up]; exact hD.ne
    · simp [fw_up]; exact hD.ta
    · simp [fw_up]; exact hD.qs
    · simp [fw_up]; exact hD.qw
    · simp [fw_up]; exact hD.qn
    · simp [fw_up]; exact hD.qt
    · simp [fw_up]; simpa using hD.sl
    · simp [fw_up]; simpa using hD.sk
    · simp [fw_up]; simpa using hD.mo
    · simp [fw_up]; simpa using hD.wa
    · simp [fw_up]; simpa using hD.wr
    · simp [fw_up]; simpa using hD.sn
    · simp [fw_up]; simpa using hD.sh
  · have w2d : ∀ c k, c ≠ 30 → fw_up w 30 0 0 x c 0 k = w c 0 k := fun c k q => fw_up_c q
    have v2d : ∀ c i k, c ≠ 19 → fw_up v 19 0 5 x c i k = v c i k := fun c i k q => fw_up_c q
    unfold Di at g ⊢
    simp only [v2d 20 _ _ (by decide), w2d 28 _ (by decide), w2d 29 _ (by decide), w2d 31 _ (by decide), w2d 32 _ (by decide), w2d 33 _ (by decide), w2d 34 _ (by decide), w2d 35 _ (by decide), w2d 36 _ (by decide), w2d 37 _ (by decide), w2d 39 _ (by decide), w2d 40 _ (by decide), w2d 42 _ (by decide), w2d 43 _ (by decide), w2d 44 _ (by decide), w2d 47 _ (by decide)]
    exact g
  · refine Wr_cg h.wr (fun c i k q1 q2 => ?_) ⟨?_, ?_, ?_⟩ (fun c k q1 q2 => ?_)
    · rw [fw_up_c (by omega)]
    · simp [fw_up]
    · simp [fw_up]
    · simp [fw_up]
    · rw [fw_up_c (by omega)]
  · intro t ht
    rw [fw_up_c (by decide)]
    exact h.at t ht
theorem DB_subst_0 {v w : fw_V} {x y : Int32} (h : DB_0 v w) (hx : vp_in x 3) : DB_0 (fw_up (fw_up v 19 0 6 x) 19 0 7 y) (fw_up (fw_up w 40 0 0 x) 41 0 0 y) := by
  have hD := h.dv
  have g := h.di
  refine ⟨?_, ?_, ?_, ?_⟩
  · refine ⟨?_, ?_, ?_, ?_, ?_, ?_, ?_, ?_, ?_, ?_, ?_, ?_, ?_, ?_, ?_, ?_, ?_, ?_, ?_, ?_, ?_, ?_⟩
    · simp [fw_up]; exact hD.ix
    · simp [fw_up]; exact hD.nm
    · simp [fw_up]
    · simp [fw_up]
    · simp [fw_up]; exact hD.st
    · simp [fw_up]; exact hD.se
    · simp [fw_up]; exact hD.di
    · simp [fw_up]; exact hD.ti
    · simp [fw_up]; exact hD.ag
    · simp [fw_up]; exact hD.ne
    · simp [fw_up]; exact hD.ta
    · simp [fw_up]; exact hD.qs
    · simp [fw_up]; exact hD.qw
    · simp [fw_up]; exact hD.qn
    · simp [fw_up]; exact hD.qt
    · simp [fw_up]; simpa using hD.sl
    · simp [fw_up]; simpa using hD.sk
    · simp [fw_up]; simpa using hD.mo
    · simp [fw_up]; simpa using hD.wa
    · simp [fw_up]; simpa using hD.wr
    · simp [fw_up]; simpa using hD.sn
    · simp [fw_up]; simpa using hD.sh
  · have w2d : ∀ c k, c ≠ 40 → c ≠ 41 → fw_up (fw_up w 40 0 0 x) 41 0 0 y c 0 k = w c 0 k := fun c k q1 q2 => by rw [fw_up_c q2, fw_up_c q1]
    have v2d : ∀ c i k, c ≠ 19 → fw_up (fw_up v 19 0 6 x) 19 0 7 y c i k = v c i k := fun c i k q => by rw [fw_up_c q, fw_up_c q]
    have w40 : fw_up (fw_up w 40 0 0 x) 41 0 0 y 40 0 0 = x := by rw [fw_up_c (by decide), fw_up_s]
    unfold Di at g ⊢
    simp only [w40, v2d 20 _ _ (by decide), w2d 28 _ (by decide) (by decide), w2d 29 _ (by decide) (by decide), w2d 31 _ (by decide) (by decide), w2d 32 _ (by decide) (by decide), w2d 33 _ (by decide) (by decide), w2d 34 _ (by decide) (by decide), w2d 35 _ (by decide) (by decide), w2d 36 _ (by decide) (by decide), w2d 37 _ (by decide) (by decide), w2d 39 _ (by decide) (by decide), w2d 42 _ (by decide) (by decide), w2d 43 _ (by decide) (by decide), w2d 44 _ (by decide) (by decide), w2d 47 _ (by decide) (by decide)]
    obtain ⟨a1, a2, a3, a4, a5, a6, a7, a8, a9, a10, a11, a12, a13, a14, a15⟩ := g
    exact ⟨a1, a2, a3, a4, a5, a6, a7, a8, a9, a10, a11, a12, a13, hx, a15⟩
  · refine Wr_cg h.wr (fun c i k q1 q2 => ?_) ⟨?_, ?_, ?_⟩ (fun c k q1 q2 => ?_)
    · rw [fw_up_c (by omega), fw_up_c (by omega)]
    · simp [fw_up]
    · simp [fw_up]
    · simp [fw_up]
    · rw [fw_up_c (by omega), fw_up_c (by omega)]
  · intro t ht
    rw [fw_up_c (by decide), fw_up_c (by decide)]
    exact h.at t ht
theorem DB_sense_0 {v w : fw_V} {i : Nat} {x : Int32} (h : DB_0 v w) : DB_0 (fw_up v 24 0 i x) (fw_up w 45 0 (6 * 0 + i) x) := by
  have hD := h.dv
  have g := h.di
  refine ⟨?_, ?_, ?_, ?_⟩
  · refine ⟨?_, ?_, ?_, ?_, ?_, ?_, ?_, ?_, ?_, ?_, ?_, ?_, ?_, ?_, ?_, ?_, ?_, ?_, ?_, ?_, fun j hj => ?_, ?_⟩
    · simp [fw_up]; exact hD.ix
    · simp [fw_up]; exact hD.nm
    · simp [fw_up]; exact hD.fb
    · simp [fw_up]; exact hD.oc
    · simp [fw_up]; exact hD.st
    · simp [fw_up]; exact hD.se
    · simp [fw_up]; exact hD.di
    · simp [fw_up]; exact hD.ti
    · simp [fw_up]; exact hD.ag
    · simp [fw_up]; exact hD.ne
    · simp [fw_up]; exact hD.ta
    · simp [fw_up]; exact hD.qs
    · simp [fw_up]; exact hD.qw
    · simp [fw_up]; exact hD.qn
    · simp [fw_up]; exact hD.qt
    · simp [fw_up]; simpa using hD.sl
    · simp [fw_up]; simpa using hD.sk
    · simp [fw_up]; simpa using hD.mo
    · simp [fw_up]; simpa using hD.wa
    · simp [fw_up]; simpa using hD.wr
    · by_cases z : j = i
      · subst z; rw [fw_up_s, fw_up_s]
      · rw [fw_up_k z, fw_up_k (by omega)]; exact hD.sn j hj
    · simp [fw_up]; simpa using hD.sh
  · have w2d : ∀ c k, c ≠ 45 → fw_up w 45 0 (6 * 0 + i) x c 0 k = w c 0 k := fun c k q => fw_up_c q
    have v2d : ∀ c i' k, c ≠ 24 → fw_up v 24 0 i x c i' k = v c i' k := fun c i' k q => fw_up_c q
    unfold Di at g ⊢
    simp only [v2d 20 _ _ (by decide), w2d 28 _ (by decide), w2d 29 _ (by decide), w2d 31 _ (by decide), w2d 32 _ (by decide), w2d 33 _ (by decide), w2d 34 _ (by decide), w2d 35 _ (by decide), w2d 36 _ (by decide), w2d 37 _ (by decide), w2d 39 _ (by decide), w2d 40 _ (by decide), w2d 42 _ (by decide), w2d 43 _ (by decide), w2d 44 _ (by decide), w2d 47 _ (by decide)]
    exact g
  · refine Wr_cg h.wr (fun c i k q1 q2 => ?_) ⟨?_, ?_, ?_⟩ (fun c k q1 q2 => ?_)
    · rw [fw_up_c (by omega)]
    · simp [fw_up]
    · simp [fw_up]
    · simp [fw_up]
    · rw [fw_up_c (by omega)]
  · intro t ht
    rw [fw_up_c (by decide)]
    exact h.at t ht
theorem RB_target_0 {B : Nat} {v w : fw_V} {x : Int32} (h : RB_0 B v w) : RB_0 B (fw_up v 13 0 5 x) (fw_up w 14 0 0 x) := by
  have hD := h.rl
  have g := h.ri
  refine ⟨?_, ?_, ?_, ?_, ?_⟩
  · refine ⟨?_, ?_, ?_, ?_, ?_, ?_, ?_, ?_, ?_, ?_, ?_, ?_, ?_, ?_, ?_, ?_, ?_⟩
    · simp [fw_up]; exact hD.ix
    · simp [fw_up]
    · simp [fw_up]; exact hD.st
    · simp [fw_up]; exact hD.se
    · simp [fw_up]; exact hD.fo
    · simp [fw_up]; exact hD.di
    · simp [fw_up]; exact hD.go
    · simp [fw_up]; exact hD.ti
    · simp [fw_up]; exact hD.ag
    · simp [fw_up]; exact hD.sl
    · simp [fw_up]; exact hD.ne
    · simp [fw_up]; exact hD.ta
    · simp [fw_up]; exact hD.to
    · simp [fw_up]; simpa using hD.ex
    · simp [fw_up]; simpa using hD.pa
    · simp [fw_up]; simpa using hD.gi
    · simp [fw_up]; simpa using hD.gt
  · have w2d : ∀ c k, c ≠ 14 → fw_up w 14 0 0 x c 0 k = w c 0 k := fun c k q14 => by rw [fw_up_c q14]
    unfold Ri at g ⊢
    simp only [w2d 12 _ (by decide), w2d 13 _ (by decide), w2d 15 _ (by decide), w2d 16 _ (by decide), w2d 17 _ (by decide), w2d 18 _ (by decide), w2d 19 _ (by decide), w2d 20 _ (by decide), w2d 21 _ (by decide), w2d 22 _ (by decide), w2d 27 _ (by decide)]
    exact g
  · refine Wr_cg h.wr (fun c i k q1 q2 => ?_) ⟨?_, ?_, ?_⟩ (fun c k q1 q2 => ?_)
    · rw [fw_up_c (by omega)]
    · simp [fw_up]
    · simp [fw_up]
    · simp [fw_up]
    · rw [fw_up_c (by omega)]
  · intro t ht
    rw [fw_up_c (by decide)]
    exact h.at t ht
  · refine Lg_cg h.lg (fun c k hc => ?_) ?_ (fun k => ?_)
    · rw [fw_up_c (by omega)]
    · rw [fw_up_c (by decide)]
    · rw [fw_up_c (by decide)]
theorem RB_give_0 {B : Nat} {v w : fw_V} {i : Nat} {x : Int32} (h : RB_0 B v w) : RB_0 B (fw_up v 17 0 i x) (fw_up w 26 0 (6 * 0 + i) x) := by
  have hD := h.rl
  have g := h.ri
  refine ⟨?_, ?_, ?_, ?_, ?_⟩
  · refine ⟨?_, ?_, ?_, ?_, ?_, ?_, ?_, ?_, ?_, ?_, ?_, ?_, ?_, ?_, ?_, fun j hj => ?_, ?_⟩
    · simp [fw_up]; exact hD.ix
    · simp [fw_up]; exact hD.nm
    · simp [fw_up]; exact hD.st
    · simp [fw_up]; exact hD.se
    · simp [fw_up]; exact hD.fo
    · simp [fw_up]; exact hD.di
    · simp [fw_up]; exact hD.go
    · simp [fw_up]; exact hD.ti
    · simp [fw_up]; exact hD.ag
    · simp [fw_up]; exact hD.sl
    · simp [fw_up]; exact hD.ne
    · simp [fw_up]; exact hD.ta
    · simp [fw_up]; exact hD.to
    · simp [fw_up]; simpa using hD.ex
    · simp [fw_up]; simpa using hD.pa
    · by_cases z : j = i
      · subst z; rw [fw_up_s, fw_up_s]
      · rw [fw_up_k z, fw_up_k (by omega)]; exact hD.gi j hj
    · simp [fw_up]; simpa using hD.gt
  · have w2d : ∀ c k, c ≠ 26 → fw_up w 26 0 (6 * 0 + i) x c 0 k = w c 0 k := fun c k q26 => by rw [fw_up_c q26]
    unfold Ri at g ⊢
    simp only [w2d 12 _ (by decide), w2d 13 _ (by decide), w2d 15 _ (by decide), w2d 16 _ (by decide), w2d 17 _ (by decide), w2d 18 _ (by decide), w2d 19 _ (by decide), w2d 20 _ (by decide), w2d 21 _ (by decide), w2d 22 _ (by decide), w2d 27 _ (by decide)]
    exact g
  · refine Wr_cg h.wr (fun c i k q1 q2 => ?_) ⟨?_, ?_, ?_⟩ (fun c k q1 q2 => ?_)
    · rw [fw_up_c (by omega)]
    · simp [fw_up]
    · simp [fw_up]
    · simp [fw_up]
    · rw [fw_up_c (by omega)]
  · intro t ht
    rw [fw_up_c (by decide)]
    exact h.at t ht
  · refine Lg_cg h.lg (fun c k hc => ?_) ?_ (fun k => ?_)
    · rw [fw_up_c (by omega)]
    · rw [fw_up_c (by decide)]
    · rw [fw_up_c (by decide)]
theorem RB_expect_0 {B : Nat} {v w : fw_V} {s : Nat} {x y : Int32} (h : RB_0 B v w) : RB_0 B (fw_up (fw_up v 15 0 s x) 16 0 s y) (fw_up (fw_up w 24 0 (3 * 0 + s) x) 25 0 (3 * 0 + s) y) := by
  have hD := h.rl
  have g := h.ri
  refine ⟨?_, ?_, ?_, ?_, ?_⟩
  · refine ⟨?_, ?_, ?_, ?_, ?_, ?_, ?_, ?_, ?_, ?_, ?_, ?_, ?_, fun j hj => ?_, fun j hj => ?_, ?_, ?_⟩
    · simp [fw_up]; exact hD.ix
    · simp [fw_up]; exact hD.nm
    · simp [fw_up]; exact hD.st
    · simp [fw_up]; exact hD.se
    · simp [fw_up]; exact hD.fo
    · simp [fw_up]; exact hD.di
    · simp [fw_up]; exact hD.go
    · simp [fw_up]; exact hD.ti
    · simp [fw_up]; exact hD.ag
    · simp [fw_up]; exact hD.sl
    · simp [fw_up]; exact hD.ne
    · simp [fw_up]; exact hD.ta
    · simp [fw_up]; exact hD.to
    · rw [fw_up_c (show (15 : Nat) ≠ 16 by decide), fw_up_c (show (24 : Nat) ≠ 25 by decide)]
      by_cases z : j = s
      · subst z; rw [fw_up_s, fw_up_s]
      · rw [fw_up_k z, fw_up_k (show 3 * 0 + j ≠ 3 * 0 + s by omega)]; exact hD.ex j hj
    · by_cases z : j = s
      · subst z; rw [fw_up_s, fw_up_s]
      · rw [fw_up_k z, fw_up_k (show 3 * 0 + j ≠ 3 * 0 + s by omega), fw_up_c (show (16 : Nat) ≠ 15 by decide), fw_up_c (show (25 : Nat) ≠ 24 by decide)]; exact hD.pa j hj
    · simp [fw_up]; simpa using hD.gi
    · simp [fw_up]; simpa using hD.gt
  · have w2d : ∀ c k, c ≠ 24 → c ≠ 25 → fw_up (fw_up w 24 0 (3 * 0 + s) x) 25 0 (3 * 0 + s) y c 0 k = w c 0 k := fun c k q24 q25 => by rw [fw_up_c q25, fw_up_c q24]
    unfold Ri at g ⊢
    simp only [w2d 12 _ (by decide) (by decide), w2d 13 _ (by decide) (by decide), w2d 15 _ (by decide) (by decide), w2d 16 _ (by decide) (by decide), w2d 17 _ (by decide) (by decide), w2d 18 _ (by decide) (by decide), w2d 19 _ (by decide) (by decide), w2d 20 _ (by decide) (by decide), w2d 21 _ (by decide) (by decide), w2d 22 _ (by decide) (by decide), w2d 27 _ (by decide) (by decide)]
    exact g
  · refine Wr_cg h.wr (fun c i k q1 q2 => ?_) ⟨?_, ?_, ?_⟩ (fun c k q1 q2 => ?_)
    · rw [fw_up_c (by omega), fw_up_c (by omega)]
    · simp [fw_up]
    · simp [fw_up]
    · simp [fw_up]
    · rw [fw_up_c (by omega), fw_up_c (by omega)]
  · intro t ht
    rw [fw_up_c (by decide), fw_up_c (by decide)]
    exact h.at t ht
  · refine Lg_cg h.lg (fun c k hc => ?_) ?_ (fun k => ?_)
    · rw [fw_up_c (by omega), fw_up_c (by omega)]
    · rw [fw_up_c (by decide), fw_up_c (by decide)]
    · rw [fw_up_c (by decide), fw_up_c (by decide)]

/-- calls that set something -/
theorem DB_name_1 {v w : fw_V} {x : Int32} (h : DB_1 v w) : DB_1 (fw_up v 19 1 5 x) (fw_up w 30 0 1 x) := by
  have hD := h.dv
  have g := h.di
  refine ⟨?_, ?_, ?_, ?_⟩
  · refine ⟨?_, ?_, ?_, ?_, ?_, ?_, ?_, ?_, ?_, ?_, ?_, ?_, ?_, ?_, ?_, ?_, ?_, ?_, ?_, ?_, ?_, ?_⟩
    · simp [fw_up]; exact hD.ix
    · simp [fw_up]
    · simp [fw_up]; exact hD.fb
    · simp [fw_up]; exact hD.oc
    · simp [fw_up]; exact hD.st
    · simp [fw_up]; exact hD.se
    · simp [fw_up]; exact hD.di
    · simp [fw_up]; exact hD.ti
    · simp [fw_up]; exact hD.ag
    · simp [fw_up]; exact hD.ne
    · simp [fw_up]; exact hD.ta
    · simp [fw_up]; exact hD.qs
    · simp [fw_up]; exact hD.qw
    · simp [fw_up]; exact hD.qn
    · simp [fw_up]; exact hD.qt
    · simp [fw_up]; simpa using hD.sl
    · simp [fw_up]; simpa using hD.sk
    · simp [fw_up]; simpa using hD.mo
    · simp [fw_up]; simpa using hD.wa
    · simp [fw_up]; simpa using hD.wr
    · simp [fw_up]; simpa using hD.sn
    · simp [fw_up]; simpa using hD.sh
  · have w2d : ∀ c k, c ≠ 30 → fw_up w 30 0 1 x c 0 k = w c 0 k := fun c k q => fw_up_c q
    have v2d : ∀ c i k, c ≠ 19 → fw_up v 19 1 5 x c i k = v c i k := fun c i k q => fw_up_c q
    unfold Di at g ⊢
    simp only [v2d 20 _ _ (by decide), w2d 28 _ (by decide), w2d 29 _ (by decide), w2d 31 _ (by decide), w2d 32 _ (by decide), w2d 33 _ (by decide), w2d 34 _ (by decide), w2d 35 _ (by decide), w2d 36 _ (by decide), w2d 37 _ (by decide), w2d 39 _ (by decide), w2d 40 _ (by decide), w2d 42 _ (by decide), w2d 43 _ (by decide), w2d 44 _ (by decide), w2d 47 _ (by decide)]
    exact g
  · refine Wr_cg h.wr (fun c i k q1 q2 => ?_) ⟨?_, ?_, ?_⟩ (fun c k q1 q2 => ?_)
    · rw [fw_up_c (by omega)]
    · simp [fw_up]
    · simp [fw_up]
    · simp [fw_up]
    · rw [fw_up_c (by omega)]
  · intro t ht
    rw [fw_up_c (by decide)]
    exact h.at t ht
theorem DB_subst_1 {v w : fw_V} {x y : Int32} (h : DB_1 v w) (hx : vp_in x 3) : DB_1 (fw_up (fw_up v 19 1 6 x) 19 1 7 y) (fw_up (fw_up w 40 0 1 x) 41 0 1 y) := by
  have hD := h.dv
  have g := h.di
  refine ⟨?_, ?_, ?_, ?_⟩
  · refine ⟨?_, ?_, ?_, ?_, ?_, ?_, ?_, ?_, ?_, ?_, ?_, ?_, ?_, ?_, ?_, ?_, ?_, ?_, ?_, ?_, ?_, ?_⟩
    · simp [fw_up]; exact hD.ix
    · simp [fw_up]; exact hD.nm
    · simp [fw_up]
    · simp [fw_up]
    · simp [fw_up]; exact hD.st
    · simp [fw_up]; exact hD.se
    · simp [fw_up]; exact hD.di
    · simp [fw_up]; exact hD.ti
    · simp [fw_up]; exact hD.ag
    · simp [fw_up]; exact hD.ne
    · simp [fw_up]; exact hD.ta
    · simp [fw_up]; exact hD.qs
    · simp [fw_up]; exact hD.qw
    · simp [fw_up]; exact hD.qn
    · simp [fw_up]; exact hD.qt
    · simp [fw_up]; simpa using hD.sl
    · simp [fw_up]; simpa using hD.sk
    · simp [fw_up]; simpa using hD.mo
    · simp [fw_up]; simpa using hD.wa
    · simp [fw_up]; simpa using hD.wr
    · simp [fw_up]; simpa using hD.sn
    · simp [fw_up]; simpa using hD.sh
  · have w2d : ∀ c k, c ≠ 40 → c ≠ 41 → fw_up (fw_up w 40 0 1 x) 41 0 1 y c 0 k = w c 0 k := fun c k q1 q2 => by rw [fw_up_c q2, fw_up_c q1]
    have v2d : ∀ c i k, c ≠ 19 → fw_up (fw_up v 19 1 6 x) 19 1 7 y c i k = v c i k := fun c i k q => by rw [fw_up_c q, fw_up_c q]
    have w40 : fw_up (fw_up w 40 0 1 x) 41 0 1 y 40 0 1 = x := by rw [fw_up_c (by decide), fw_up_s]
    unfold Di at g ⊢
    simp only [w40, v2d 20 _ _ (by decide), w2d 28 _ (by decide) (by decide), w2d 29 _ (by decide) (by decide), w2d 31 _ (by decide) (by decide), w2d 32 _ (by decide) (by decide), w2d 33 _ (by decide) (by decide), w2d 34 _ (by decide) (by decide), w2d 35 _ (by decide) (by decide), w2d 36 _ (by decide) (by decide), w2d 37 _ (by decide) (by decide), w2d 39 _ (by decide) (by decide), w2d 42 _ (by decide) (by decide), w2d 43 _ (by decide) (by decide), w2d 44 _ (by decide) (by decide), w2d 47 _ (by decide) (by decide)]
    obtain ⟨a1, a2, a3, a4, a5, a6, a7, a8, a9, a10, a11, a12, a13, a14, a15⟩ := g
    exact ⟨a1, a2, a3, a4, a5, a6, a7, a8, a9, a10, a11, a12, a13, hx, a15⟩
  · refine Wr_cg h.wr (fun c i k q1 q2 => ?_) ⟨?_, ?_, ?_⟩ (fun c k q1 q2 => ?_)
    · rw [fw_up_c (by omega), fw_up_c (by omega)]
    · simp [fw_up]
    · simp [fw_up]
    · simp [fw_up]
    · rw [fw_up_c (by omega), fw_up_c (by omega)]
  · intro t ht
    rw [fw_up_c (by decide), fw_up_c (by decide)]
    exact h.at t ht
theorem DB_sense_1 {v w : fw_V} {i : Nat} {x : Int32} (h : DB_1 v w) : DB_1 (fw_up v 24 1 i x) (fw_up w 45 0 (6 * 1 + i) x) := by
  have hD := h.dv
  have g := h.di
  refine ⟨?_, ?_, ?_, ?_⟩
  · refine ⟨?_, ?_, ?_, ?_, ?_, ?_, ?_, ?_, ?_, ?_, ?_, ?_, ?_, ?_, ?_, ?_, ?_, ?_, ?_, ?_, fun j hj => ?_, ?_⟩
    · simp [fw_up]; exact hD.ix
    · simp [fw_up]; exact hD.nm
    · simp [fw_up]; exact hD.fb
    · simp [fw_up]; exact hD.oc
    · simp [fw_up]; exact hD.st
    · simp [fw_up]; exact hD.se
    · simp [fw_up]; exact hD.di
    · simp [fw_up]; exact hD.ti
    · simp [fw_up]; exact hD.ag
    · simp [fw_up]; exact hD.ne
    · simp [fw_up]; exact hD.ta
    · simp [fw_up]; exact hD.qs
    · simp [fw_up]; exact hD.qw
    · simp [fw_up]; exact hD.qn
    · simp [fw_up]; exact hD.qt
    · simp [fw_up]; simpa using hD.sl
    · simp [fw_up]; simpa using hD.sk
    · simp [fw_up]; simpa using hD.mo
    · simp [fw_up]; simpa using hD.wa
    · simp [fw_up]; simpa using hD.wr
    · by_cases z : j = i
      · subst z; rw [fw_up_s, fw_up_s]
      · rw [fw_up_k z, fw_up_k (by omega)]; exact hD.sn j hj
    · simp [fw_up]; simpa using hD.sh
  · have w2d : ∀ c k, c ≠ 45 → fw_up w 45 0 (6 * 1 + i) x c 0 k = w c 0 k := fun c k q => fw_up_c q
    have v2d : ∀ c i' k, c ≠ 24 → fw_up v 24 1 i x c i' k = v c i' k := fun c i' k q => fw_up_c q
    unfold Di at g ⊢
    simp only [v2d 20 _ _ (by decide), w2d 28 _ (by decide), w2d 29 _ (by decide), w2d 31 _ (by decide), w2d 32 _ (by decide), w2d 33 _ (by decide), w2d 34 _ (by decide), w2d 35 _ (by decide), w2d 36 _ (by decide), w2d 37 _ (by decide), w2d 39 _ (by decide), w2d 40 _ (by decide), w2d 42 _ (by decide), w2d 43 _ (by decide), w2d 44 _ (by decide), w2d 47 _ (by decide)]
    exact g
  · refine Wr_cg h.wr (fun c i k q1 q2 => ?_) ⟨?_, ?_, ?_⟩ (fun c k q1 q2 => ?_)
    · rw [fw_up_c (by omega)]
    · simp [fw_up]
    · simp [fw_up]
    · simp [fw_up]
    · rw [fw_up_c (by omega)]
  · intro t ht
    rw [fw_up_c (by decide)]
    exact h.at t ht
theorem RB_target_1 {B : Nat} {v w : fw_V} {x : Int32} (h : RB_1 B v w) : RB_1 B (fw_up v 13 1 5 x) (fw_up w 14 0 1 x) := by
  have hD := h.rl
  have g := h.ri
  refine ⟨?_, ?_, ?_, ?_, ?_⟩
  · refine ⟨?_, ?_, ?_, ?_, ?_, ?_, ?_, ?_, ?_, ?_, ?_, ?_, ?_, ?_, ?_, ?_, ?_⟩
    · simp [fw_up]; exact hD.ix
    · simp [fw_up]
    · simp [fw_up]; exact hD.st
    · simp [fw_up]; exact hD.se
    · simp [fw_up]; exact hD.fo
    · simp [fw_up]; exact hD.di
    · simp [fw_up]; exact hD.go
    · simp [fw_up]; exact hD.ti
    · simp [fw_up]; exact hD.ag
    · simp [fw_up]; exact hD.sl
    · simp [fw_up]; exact hD.ne
    · simp [fw_up]; exact hD.ta
    · simp [fw_up]; exact hD.to
    · simp [fw_up]; simpa using hD.ex
    · simp [fw_up]; simpa using hD.pa
    · simp [fw_up]; simpa using hD.gi
    · simp [fw_up]; simpa using hD.gt
  · have w2d : ∀ c k, c ≠ 14 → fw_up w 14 0 1 x c 0 k = w c 0 k := fun c k q14 => by rw [fw_up_c q14]
    unfold Ri at g ⊢
    simp only [w2d 12 _ (by decide), w2d 13 _ (by decide), w2d 15 _ (by decide), w2d 16 _ (by decide), w2d 17 _ (by decide), w2d 18 _ (by decide), w2d 19 _ (by decide), w2d 20 _ (by decide), w2d 21 _ (by decide), w2d 22 _ (by decide), w2d 27 _ (by decide)]
    exact g
  · refine Wr_cg h.wr (fun c i k q1 q2 => ?_) ⟨?_, ?_, ?_⟩ (fun c k q1 q2 => ?_)
    · rw [fw_up_c (by omega)]
    · simp [fw_up]
    · simp [fw_up]
    · simp [fw_up]
    · rw [fw_up_c (by omega)]
  · intro t ht
    rw [fw_up_c (by decide)]
    exact h.at t ht
  · refine Lg_cg h.lg (fun c k hc => ?_) ?_ (fun k => ?_)
    · rw [fw_up_c (by omega)]
    · rw [fw_up_c (by decide)]
    · rw [fw_up_c (by decide)]
theorem RB_give_1 {B : Nat} {v w : fw_V} {i : Nat} {x : Int32} (h : RB_1 B v w) : RB_1 B (fw_up v 17 1 i x) (fw_up w 26 0 (6 * 1 + i) x) := by
  have hD := h.rl
  have g := h.ri
  refine ⟨?_, ?_, ?_, ?_, ?_⟩
  · refine ⟨?_, ?_, ?_, ?_, ?_, ?_, ?_, ?_, ?_, ?_, ?_, ?_, ?_, ?_, ?_, fun j hj => ?_, ?_⟩
    · simp [fw_up]; exact hD.ix
    · simp [fw_up]; exact hD.nm
    · simp [fw_up]; exact hD.st
    · simp [fw_up]; exact hD.se
    · simp [fw_up]; exact hD.fo
    · simp [fw_up]; exact hD.di
    · simp [fw_up]; exact hD.go
    · simp [fw_up]; exact hD.ti
    · simp [fw_up]; exact hD.ag
    · simp [fw_up]; exact hD.sl
    · simp [fw_up]; exact hD.ne
    · simp [fw_up]; exact hD.ta
    · simp [fw_up]; exact hD.to
    · simp [fw_up]; simpa using hD.ex
    · simp [fw_up]; simpa using hD.pa
    · by_cases z : j = i
      · subst z; rw [fw_up_s, fw_up_s]
      · rw [fw_up_k z, fw_up_k (by omega)]; exact hD.gi j hj
    · simp [fw_up]; simpa using hD.gt
  · have w2d : ∀ c k, c ≠ 26 → fw_up w 26 0 (6 * 1 + i) x c 0 k = w c 0 k := fun c k q26 => by rw [fw_up_c q26]
    unfold Ri at g ⊢
    simp only [w2d 12 _ (by decide), w2d 13 _ (by decide), w2d 15 _ (by decide), w2d 16 _ (by decide), w2d 17 _ (by decide), w2d 18 _ (by decide), w2d 19 _ (by decide), w2d 20 _ (by decide), w2d 21 _ (by decide), w2d 22 _ (by decide), w2d 27 _ (by decide)]
    exact g
  · refine Wr_cg h.wr (fun c i k q1 q2 => ?_) ⟨?_, ?_, ?_⟩ (fun c k q1 q2 => ?_)
    · rw [fw_up_c (by omega)]
    · simp [fw_up]
    · simp [fw_up]
    · simp [fw_up]
    · rw [fw_up_c (by omega)]
  · intro t ht
    rw [fw_up_c (by decide)]
    exact h.at t ht
  · refine Lg_cg h.lg (fun c k hc => ?_) ?_ (fun k => ?_)
    · rw [fw_up_c (by omega)]
    · rw [fw_up_c (by decide)]
    · rw [fw_up_c (by decide)]
theorem RB_expect_1 {B : Nat} {v w : fw_V} {s : Nat} {x y : Int32} (h : RB_1 B v w) : RB_1 B (fw_up (fw_up v 15 1 s x) 16 1 s y) (fw_up (fw_up w 24 0 (3 * 1 + s) x) 25 0 (3 * 1 + s) y) := by
  have hD := h.rl
  have g := h.ri
  refine ⟨?_, ?_, ?_, ?_, ?_⟩
  · refine ⟨?_, ?_, ?_, ?_, ?_, ?_, ?_, ?_, ?_, ?_, ?_, ?_, ?_, fun j hj => ?_, fun j hj => ?_, ?_, ?_⟩
    · simp [fw_up]; exact hD.ix
    · simp [fw_up]; exact hD.nm
    · simp [fw_up]; exact hD.st
    · simp [fw_up]; exact hD.se
    · simp [fw_up]; exact hD.fo
    · simp [fw_up]; exact hD.di
    · simp [fw_up]; exact hD.go
    · simp [fw_up]; exact hD.ti
    · simp [fw_up]; exact hD.ag
    · simp [fw_up]; exact hD.sl
    · simp [fw_up]; exact hD.ne
    · simp [fw_up]; exact hD.ta
    · simp [fw_up]; exact hD.to
    · rw [fw_up_c (show (15 : Nat) ≠ 16 by decide), fw_up_c (show (24 : Nat) ≠ 25 by decide)]
      by_cases z : j = s
      · subst z; rw [fw_up_s, fw_up_s]
      · rw [fw_up_k z, fw_up_k (show 3 * 1 + j ≠ 3 * 1 + s by omega)]; exact hD.ex j hj
    · by_cases z : j = s
      · subst z; rw [fw_up_s, fw_up_s]
      · rw [fw_up_k z, fw_up_k (show 3 * 1 + j ≠ 3 * 1 + s by omega), fw_up_c (show (16 : Nat) ≠ 15 by decide), fw_up_c (show (25 : Nat) ≠ 24 by decide)]; exact hD.pa j hj
    · simp [fw_up]; simpa using hD.gi
    · simp [fw_up]; simpa using hD.gt
  · have w2d : ∀ c k, c ≠ 24 → c ≠ 25 → fw_up (fw_up w 24 0 (3 * 1 + s) x) 25 0 (3 * 1 + s) y c 0 k = w c 0 k := fun c k q24 q25 => by rw [fw_up_c q25, fw_up_c q24]
    unfold Ri at g ⊢
    simp only [w2d 12 _ (by decide) (by decide), w2d 13 _ (by decide) (by decide), w2d 15 _ (by decide) (by decide), w2d 16 _ (by decide) (by decide), w2d 17 _ (by decide) (by decide), w2d 18 _ (by decide) (by decide), w2d 19 _ (by decide) (by decide), w2d 20 _ (by decide) (by decide), w2d 21 _ (by decide) (by decide), w2d 22 _ (by decide) (by decide), w2d 27 _ (by decide) (by decide)]
    exact g
  · refine Wr_cg h.wr (fun c i k q1 q2 => ?_) ⟨?_, ?_, ?_⟩ (fun c k q1 q2 => ?_)
    · rw [fw_up_c (by omega), fw_up_c (by omega)]
    · simp [fw_up]
    · simp [fw_up]
    · simp [fw_up]
    · rw [fw_up_c (by omega), fw_up_c (by omega)]
  · intro t ht
    rw [fw_up_c (by decide), fw_up_c (by decide)]
    exact h.at t ht
  · refine Lg_cg h.lg (fun c k hc => ?_) ?_ (fun k => ?_)
    · rw [fw_up_c (by omega), fw_up_c (by omega)]
    · rw [fw_up_c (by decide), fw_up_c (by decide)]
    · rw [fw_up_c (by decide), fw_up_c (by decide)]

theorem dev01 {a : Int32} (h : ¬ mf_Mo_is a 0 1 = 0) : a = 0 ∨ a = 1 := by
  obtain ⟨k, hk, e⟩ := is_has (n := 2) (by decide) h
  rcases (show k = 0 ∨ k = 1 by omega) with rfl | rfl
  · exact Or.inl e
  · exact Or.inr e
theorem slot3 {a : Int32} (h : ¬ mf_Mo_is a 0 2 = 0) : ∃ s, s < 3 ∧ a = nI s := is_has (n := 3) (by decide) h
theorem kind8 {a : Int32} (h : ¬ mf_Mo_is a 0 7 = 0) : ∃ s, s < 8 ∧ a = nI s := is_has (n := 8) (by decide) h
theorem kon9 {a : Int32} (h : ¬ mf_Mo_is a (-1) 7 = 0) : vp_in (a + 1) 9 := by
  unfold mf_Mo_is at h
  have h1 : ¬ a < -1 := fun q => h (by simp [q])
  have h2 : ¬ (7 : Int32) < a := fun q => h (by simp [q])
  rw [Int32.lt_iff_toInt_lt] at h1 h2
  have e0 : (-1 : Int32).toInt = -1 := by decide
  have e1 : (7 : Int32).toInt = 7 := by decide
  by_cases z : a = -1
  · subst z; exact fw_inc (by decide)
  · have ez : a.toInt ≠ -1 := fun q => z (Int32.toInt_inj.mp (by rw [q]; decide))
    have hb : vp_in a 8 := by rw [vp_in_iff]; omega
    obtain ⟨n, hn, en⟩ := vp_in_of hb (by decide)
    rw [en, nI_1]; exact vp_in_nI (by omega) (by decide)
theorem z0 : (0 : Int32).toNatClampNeg = 0 := by decide
theorem z1 : (1 : Int32).toNatClampNeg = 1 := by decide

theorem GB_name_0 {B : Nat} {v w : fw_V} {x : Int32} (h : GB B v w) : GB B (fw_up v 19 0 5 x) (fw_up w 30 0 0 x) :=
  GB_de_0 h (DB_name_0 (GB_DB_0 h)) (fun c i k q1 q2 => fw_up_ne (by omega)) (fun c k q1 q2 => fw_up_ne (by omega)) (fun s hs => fw_up_c (by decide)) (fun k q => fw_up_c (by decide)) (Or.inl ⟨fw_up_k (by decide), fw_up_c (by decide)⟩)
theorem GB_subst_0 {B : Nat} {v w : fw_V} {x y : Int32} (h : GB B v w) (hx : vp_in x 3) : GB B (fw_up (fw_up v 19 0 6 x) 19 0 7 y) (fw_up (fw_up w 40 0 0 x) 41 0 0 y) :=
  GB_de_0 h (DB_subst_0 (GB_DB_0 h) hx) (fun c i k q1 q2 => by rw [fw_up_ne (by omega), fw_up_ne (by omega)]) (fun c k q1 q2 => by rw [fw_up_ne (by omega), fw_up_ne (by omega)]) (fun s hs => by rw [fw_up_c (by decide), fw_up_c (by decide)]) (fun k q => by rw [fw_up_c (by decide), fw_up_c (by decide)]) (Or.inl ⟨by rw [fw_up_k (by decide), fw_up_k (by decide)], by rw [fw_up_c (by decide), fw_up_c (by decide)]⟩)
theorem GB_sense_0 {B : Nat} {v w : fw_V} {i : Nat} {x : Int32} (h : GB B v w) (hi : i < 6) : GB B (fw_up v 24 0 i x) (fw_up w 45 0 (6 * 0 + i) x) :=
  GB_de_0 h (DB_sense_0 (GB_DB_0 h)) (fun c i k q1 q2 => fw_up_ne (by omega)) (fun c k q1 q2 => fw_up_ne (by omega)) (fun s hs => fw_up_c (by decide)) (fun k q => fw_up_c (by decide)) (Or.inl ⟨fw_up_c (by decide), fw_up_c (by decide)⟩)
theorem GB_target_0 {B : Nat} {v w : fw_V} {x : Int32} (h : GB B v w) : GB B (fw_up v 13 0 5 x) (fw_up w 14 0 0 x) :=
  GB_re_0 h (RB_target_0 (GB_RB_0 h)) (fun c i k q1 q2 => fw_up_ne (by omega)) (fun c k q1 q2 q3 => fw_up_ne (by omega)) (fun k hk => by rw [fw_up_c (by decide)]; exact h.ex k hk) (fun k q => fw_up_c (by decide)) (Or.inl ⟨fw_up_k (by decide), fw_up_c (by decide)⟩)
theorem GB_give_0 {B : Nat} {v w : fw_V} {i : Nat} {x : Int32} (h : GB B v w) (hi : i < 6) : GB B (fw_up v 17 0 i x) (fw_up w 26 0 (6 * 0 + i) x) :=
  GB_re_0 h (RB_give_0 (GB_RB_0 h)) (fun c i k q1 q2 => fw_up_ne (by omega)) (fun c k q1 q2 q3 => fw_up_ne (by omega)) (fun k hk => by rw [fw_up_c (by decide)]; exact h.ex k hk) (fun k q => fw_up_c (by decide)) (Or.inl ⟨fw_up_c (by decide), fw_up_c (by decide)⟩)
theorem GB_expect_0 {B : Nat} {v w : fw_V} {s : Nat} {x y : Int32} (h : GB B v w) (hs : s < 3) (hx : vp_in (x + 1) 9) : GB B (fw_up (fw_up v 15 0 s x) 16 0 s y) (fw_up (fw_up w 24 0 (3 * 0 + s) x) 25 0 (3 * 0 + s) y) := by
  refine GB_re_0 h (RB_expect_0 (GB_RB_0 h)) (fun c i k q1 q2 => by rw [fw_up_ne (by omega), fw_up_ne (by omega)]) (fun c k q1 q2 q3 => by rw [fw_up_ne (by omega), fw_up_ne (by omega)]) (fun k hk => ?_) (fun k q => by rw [fw_up_c (by decide), fw_up_c (by decide)]) (Or.inl ⟨by rw [fw_up_c (by decide), fw_up_c (by decide)], by rw [fw_up_c (by decide), fw_up_c (by decide)]⟩)
  rw [fw_up_c (show (24 : Nat) ≠ 25 by decide)]
  by_cases z : k = 3 * 0 + s
  · rw [z, fw_up_s]; exact hx
  · rw [fw_up_k z]; exact h.ex k hk
theorem i6_0 {s j : Nat} (hs : s < 3) (hj : j < 2) : ((((6 : Int32) * (0 : Int32)) + ((2 : Int32) * nI s)) + nI j).toNatClampNeg = 6 * 0 + (2 * s + j) := by
  rcases (show s = 0 ∨ s = 1 ∨ s = 2 by omega) with rfl | rfl | rfl <;> rcases (show j = 0 ∨ j = 1 by omega) with rfl | rfl <;> decide

theorem GB_name_1 {B : Nat} {v w : fw_V} {x : Int32} (h : GB B v w) : GB B (fw_up v 19 1 5 x) (fw_up w 30 0 1 x) :=
  GB_de_1 h (DB_name_1 (GB_DB_1 h)) (fun c i k q1 q2 => fw_up_ne (by omega)) (fun c k q1 q2 => fw_up_ne (by omega)) (fun s hs => fw_up_c (by decide)) (fun k q => fw_up_c (by decide)) (Or.inl ⟨fw_up_k (by decide), fw_up_c (by decide)⟩)
theorem GB_subst_1 {B : Nat} {v w : fw_V} {x y : Int32} (h : GB B v w) (hx : vp_in x 3) : GB B (fw_up (fw_up v 19 1 6 x) 19 1 7 y) (fw_up (fw_up w 40 0 1 x) 41 0 1 y) :=
  GB_de_1 h (DB_subst_1 (GB_DB_1 h) hx) (fun c i k q1 q2 => by rw [fw_up_ne (by omega), fw_up_ne (by omega)]) (fun c k q1 q2 => by rw [fw_up_ne (by omega), fw_up_ne (by omega)]) (fun s hs => by rw [fw_up_c (by decide), fw_up_c (by decide)]) (fun k q => by rw [fw_up_c (by decide), fw_up_c (by decide)]) (Or.inl ⟨by rw [fw_up_k (by decide), fw_up_k (by decide)], by rw [fw_up_c (by decide), fw_up_c (by decide)]⟩)
theorem GB_sense_1 {B : Nat} {v w : fw_V} {i : Nat} {x : Int32} (h : GB B v w) (hi : i < 6) : GB B (fw_up v 24 1 i x) (fw_up w 45 0 (6 * 1 + i) x) :=
  GB_de_1 h (DB_sense_1 (GB_DB_1 h)) (fun c i k q1 q2 => fw_up_ne (by omega)) (fun c k q1 q2 => fw_up_ne (by omega)) (fun s hs => fw_up_c (by decide)) (fun k q => fw_up_c (by decide)) (Or.inl ⟨fw_up_c (by decide), fw_up_c (by decide)⟩)
theorem GB_target_1 {B : Nat} {v w : fw_V} {x : Int32} (h : GB B v w) : GB B (fw_up v 13 1 5 x) (fw_up w 14 0 1 x) :=
  GB_re_1 h (RB_target_1 (GB_RB_1 h)) (fun c i k q1 q2 => fw_up_ne (by omega)) (fun c k q1 q2 q3 => fw_up_ne (by omega)) (fun k hk => by rw [fw_up_c (by decide)]; exact h.ex k hk) (fun k q => fw_up_c (by decide)) (Or.inl ⟨fw_up_k (by decide), fw_up_c (by decide)⟩)
theorem GB_give_1 {B : Nat} {v w : fw_V} {i : Nat} {x : Int32} (h : GB B v w) (hi : i < 6) : GB B (fw_up v 17 1 i x) (fw_up w 26 0 (6 * 1 + i) x) :=
  GB_re_1 h (RB_give_1 (GB_RB_1 h)) (fun c i k q1 q2 => fw_up_ne (by omega)) (fun c k q1 q2 q3 => fw_up_ne (by omega)) (fun k hk => by rw [fw_up_c (by decide)]; exact h.ex k hk) (fun k q => fw_up_c (by decide)) (Or.inl ⟨fw_up_c (by decide), fw_up_c (by decide)⟩)
theorem GB_expect_1 {B : Nat} {v w : fw_V} {s : Nat} {x y : Int32} (h : GB B v w) (hs : s < 3) (hx : vp_in (x + 1) 9) : GB B (fw_up (fw_up v 15 1 s x) 16 1 s y) (fw_up (fw_up w 24 0 (3 * 1 + s) x) 25 0 (3 * 1 + s) y) := by
  refine GB_re_1 h (RB_expect_1 (GB_RB_1 h)) (fun c i k q1 q2 => by rw [fw_up_ne (by omega), fw_up_ne (by omega)]) (fun c k q1 q2 q3 => by rw [fw_up_ne (by omega), fw_up_ne (by omega)]) (fun k hk => ?_) (fun k q => by rw [fw_up_c (by decide), fw_up_c (by decide)]) (Or.inl ⟨by rw [fw_up_c (by decide), fw_up_c (by decide)], by rw [fw_up_c (by decide), fw_up_c (by decide)]⟩)
  rw [fw_up_c (show (24 : Nat) ≠ 25 by decide)]
  by_cases z : k = 3 * 1 + s
  · rw [z, fw_up_s]; exact hx
  · rw [fw_up_k z]; exact h.ex k hk
theorem i6_1 {s j : Nat} (hs : s < 3) (hj : j < 2) : ((((6 : Int32) * (1 : Int32)) + ((2 : Int32) * nI s)) + nI j).toNatClampNeg = 6 * 1 + (2 * s + j) := by
  rcases (show s = 0 ∨ s = 1 ∨ s = 2 by omega) with rfl | rfl | rfl <;> rcases (show j = 0 ∨ j = 1 by omega) with rfl | rfl <;> decide

theorem plj {s j : Nat} (hs : s < 3) (hj : j < 2) : (xf_FR_place (nI s) (nI j)).toNatClampNeg = 2 * s + j := by
  rcases (show j = 0 ∨ j = 1 by omega) with rfl | rfl
  · exact pl0 hs
  · exact pl1 hs
theorem dev2 {a : Int32} (h : ¬ mf_Mo_is a 0 1 = 0) : ∃ s, s < 2 ∧ a = nI s := is_has (n := 2) (by decide) h
theorem GB_name {B : Nat} {v w : fw_V} (a1 a2 : Int32) (h : GB B v w) : GB B (xf_FR_name v a1 a2).2 (mf_Mo_name w a1 a2).2 := by
  unfold xf_FR_name mf_Mo_name xf_FR_isDevice
  simp only [xw_is]
  by_cases h1 : mf_Mo_is a1 0 1 = 0
  · simp only [h1, if_true]; exact h
  · simp only [h1, if_false]
    by_cases h2 : mf_Mo_is a2 0 15 = 0
    · simp only [h2, if_true]; exact h
    · simp only [h2, if_false]
      rcases dev01 h1 with rfl | rfl
      · rw [z0]; exact GB_name_0 h
      · rw [z1]; exact GB_name_1 h
theorem GB_subst {B : Nat} {v w : fw_V} (a1 a2 a3 : Int32) (h : GB B v w) : GB B (xf_FR_substitute v a1 a2 a3).2 (mf_Mo_substitute w a1 a2 a3).2 := by
  unfold xf_FR_substitute mf_Mo_substitute xf_FR_substitute_j1 mf_Mo_substitute_j1 mf_Mo_substitute_j2 xf_FR_isDevice xf_FR_isOctet xf_De_setFallback
  simp only [xw_is]
  by_cases h1 : mf_Mo_is a1 0 1 = 0
  · simp only [h1, if_true]; exact h
  · simp only [h1, if_false]
    by_cases h2 : mf_Mo_is a2 0 2 = 0
    · simp only [h2, if_true]; exact h
    · simp only [h2, if_false]
      have key : GB B (fw_up (fw_up v 19 a1.toNatClampNeg 6 a2) 19 a1.toNatClampNeg 7 a3) (fw_up (fw_up w 40 0 a1.toNatClampNeg a2) 41 0 a1.toNatClampNeg a3) := by
        obtain ⟨s, hs, es⟩ := slot3 h2
        have hx : vp_in a2 3 := by rw [es]; exact vp_in_nI hs (by decide)
        rcases dev01 h1 with rfl | rfl
        · rw [z0]; exact GB_subst_0 h hx
        · rw [z1]; exact GB_subst_1 h hx
      by_cases h3 : a2 = 2
      · simp only [h3, if_true]
        by_cases h4 : mf_Mo_is a3 0 255 = 0
        · simp only [h4, if_true]; exact h
        · simp only [h4, if_false]; rw [h3] at key; exact key
      · simp only [h3, if_false]; exact key
theorem GB_sense {B : Nat} {v w : fw_V} (a1 a2 a3 a4 : Int32) (h : GB B v w) : GB B (xf_FR_sense v a1 a2 a3 a4).2 (mf_Mo_sense w a1 a2 a3 a4).2 := by
  unfold xf_FR_sense mf_Mo_sense xf_FR_isDevice xf_FR_isPlace xf_FR_isSlot xf_FR_isOctet
  simp only [xw_is]
  by_cases h1 : mf_Mo_is a1 0 1 = 0
  · simp only [h1, if_true]; exact h
  · by_cases h2 : mf_Mo_is a2 0 2 = 0
    · simp only [h1, h2, if_true, if_false]; exact h
    · by_cases h3 : mf_Mo_is a3 0 1 = 0
      · simp only [h1, h2, h3, if_true, if_false]; exact h
      · by_cases h4 : mf_Mo_is a4 0 255 = 0
        · simp only [h1, h2, h3, h4, if_true, if_false, show ¬ (1 : Int32) = 0 by decide]; exact h
        · simp only [h1, h2, h3, h4, if_false, show ¬ (1 : Int32) = 0 by decide]
          obtain ⟨s, hs, rfl⟩ := slot3 h2
          obtain ⟨j, hj, rfl⟩ := dev2 h3
          rw [plj hs hj]
          rcases dev01 h1 with rfl | rfl
          · rw [z0, i6_0 hs hj]; exact GB_sense_0 h (by omega)
          · rw [z1, i6_1 hs hj]; exact GB_sense_1 h (by omega)
theorem GB_give {B : Nat} {v w : fw_V} (a1 a2 a3 a4 : Int32) (h : GB B v w) : GB B (xf_FR_give v a1 a2 a3 a4).2 (mf_Mo_give w a1 a2 a3 a4).2 := by
  unfold xf_FR_give mf_Mo_give xf_FR_isDevice xf_FR_isPlace xf_FR_isSlot xf_FR_isOctet
  simp only [xw_is]
  by_cases h1 : mf_Mo_is a1 0 1 = 0
  · simp only [h1, if_true]; exact h
  · by_cases h2 : mf_Mo_is a2 0 2 = 0
    · simp only [h1, h2, if_true, if_false]; exact h
    · by_cases h3 : mf_Mo_is a3 0 1 = 0
      · simp only [h1, h2, h3, if_true, if_false]; exact h
      · by_cases h4 : mf_Mo_is a4 0 255 = 0
        · simp only [h1, h2, h3, h4, if_true, if_false, show ¬ (1 : Int32) = 0 by decide]; exact h
        · simp only [h1, h2, h3, h4, if_false, show ¬ (1 : Int32) = 0 by decide]
          obtain ⟨s, hs, rfl⟩ := slot3 h2
          obtain ⟨j, hj, rfl⟩ := dev2 h3
          rw [plj hs hj]
          rcases dev01 h1 with rfl | rfl
          · rw [z0, i6_0 hs hj]; exact GB_give_0 h (by omega)
          · rw [z1, i6_1 hs hj]; exact GB_give_1 h (by omega)
theorem clo {B : Nat} {v w : fw_V} (h : GB B v w) : (xf_Re_isClosed v 0 = 0 ↔ ¬ w 12 0 0 = 0) ∧ (xf_Re_isClosed v 1 = 0 ↔ ¬ w 12 0 1 = 0) := by
  unfold xf_Re_isClosed
  rw [h.r0.st, h.r1.st]
  constructor
  · by_cases q : w 12 0 0 = 0 <;> simp [q]
  · by_cases q : w 12 0 1 = 0 <;> simp [q]
theorem GB_target {B : Nat} {v w : fw_V} (a1 a2 : Int32) (h : GB B v w) : GB B (xf_FR_target v a1 a2).2 (mf_Mo_target w a1 a2).2 ∧ (xf_FR_target v a1 a2).1 = (mf_Mo_target w a1 a2).1 := by
  unfold xf_FR_target mf_Mo_target xf_FR_isDevice
  simp only [xw_is]
  by_cases h1 : mf_Mo_is a1 0 1 = 0
  · simp only [h1, if_true]; exact ⟨h, trivial⟩
  · simp only [h1, if_false]
    by_cases h2 : mf_Mo_is a2 1 15 = 0
    · simp only [h2, if_true]; exact ⟨h, trivial⟩
    · simp only [h2, if_false]
      obtain ⟨k0, k1⟩ := clo h
      rcases dev01 h1 with rfl | rfl
      · rw [z0]
        by_cases q : w 12 0 0 = 0
        · rw [if_pos q, if_neg (fun z => k0.mp z q)]; exact ⟨GB_target_0 h, rfl⟩
        · rw [if_neg q, if_pos (k0.mpr q)]; exact ⟨h, rfl⟩
      · rw [z1]
        by_cases q : w 12 0 1 = 0
        · rw [if_pos q, if_neg (fun z => k1.mp z q)]; exact ⟨GB_target_1 h, rfl⟩
        · rw [if_neg q, if_pos (k1.mpr q)]; exact ⟨h, rfl⟩
theorem GB_expect {B : Nat} {v w : fw_V} (a1 a2 a3 a4 : Int32) (h : GB B v w) : GB B (xf_FR_expect v a1 a2 a3 a4).2 (mf_Mo_expect w a1 a2 a3 a4).2 ∧ (xf_FR_expect v a1 a2 a3 a4).1 = (mf_Mo_expect w a1 a2 a3 a4).1 := by
  unfold xf_FR_expect mf_Mo_expect xf_FR_isDevice xf_FR_isSlot xf_FR_isOctet xf_Re_setExpected
  simp only [xw_is, is_kon]
  by_cases h1 : mf_Mo_is a1 0 1 = 0
  · simp only [h1, if_true]; exact ⟨h, trivial⟩
  · simp only [h1, if_false]
    by_cases h2 : mf_Mo_is a2 0 2 = 0
    · simp only [h2, if_true]; exact ⟨h, trivial⟩
    · simp only [h2, if_false]
      by_cases h3 : mf_Mo_is a3 (-1) 7 = 0
      · simp only [h3, if_true]; exact ⟨h, trivial⟩
      · simp only [h3, if_false]
        by_cases h4 : mf_Mo_is a4 0 255 = 0
        · simp only [h4, if_true]; exact ⟨h, trivial⟩
        · simp only [h4, if_false]
          obtain ⟨k0, k1⟩ := clo h
          obtain ⟨s, hs, rfl⟩ := slot3 h2
          have hx := kon9 h3
          have cs : (nI s).toNatClampNeg = s := nI_clamp (by omega)
          rcases dev01 h1 with rfl | rfl
          · rw [z0, cs, i3_0 hs]
            by_cases q : w 12 0 0 = 0
            · rw [if_pos q, if_neg (fun z => k0.mp z q)]; exact ⟨GB_expect_0 h hs hx, rfl⟩
            · rw [if_neg q, if_pos (k0.mpr q)]; exact ⟨h, rfl⟩
          · rw [z1, cs, i3_1 hs]
            by_cases q : w 12 0 1 = 0
            · rw [if_pos q, if_neg (fun z => k1.mp z q)]; exact ⟨GB_expect_1 h hs hx, rfl⟩
            · rw [if_neg q, if_pos (k1.mpr q)]; exact ⟨h, rfl⟩

/-- plug -/
theorem GB_plugr_0 {B : Nat} {v w : fw_V} {s : Nat} {x : Int32} (h : GB B v w) (hs : s < 3) (hx : vp_in (x + 1) 9) : GB B (xf_De_changeModule v 0 (nI s) x) (mf_Mo_plug w (0 : Int32) (nI s) x).2 := by
  obtain ⟨a, -⟩ := De_plug_0 (GB_DB_0 h) h.kd hs hx
  have r1 : ¬ mf_Mo_is (0 : Int32) 0 1 = 0 := by decide
  have r2 : ¬ mf_Mo_is (nI s) 0 2 = 0 := by
    rcases (show s = 0 ∨ s = 1 ∨ s = 2 by omega) with rfl | rfl | rfl <;> decide
  have r3 : ¬ mf_Mo_is x (-1) 7 = 0 := plx hx
  have ci : (0 : Int32).toNatClampNeg = 0 := by decide
  have fr : ∀ c k, ¬ ((c = 31 ∨ c = 37) ∧ k = 0) → ¬ ((c = 47 ∨ c = 48) ∧ 4 * 0 ≤ k ∧ k < 4 * 0 + 4) → ¬ (c = 42 ∧ k = 3 * 0 + s) → ¬ (c = 46 ∧ 6 * 0 ≤ k ∧ k < 6 * 0 + 6) → (mf_Mo_plug w (0 : Int32) (nI s) x).2 c 0 k = w c 0 k := by
    intro c k q1 q2 q3 q4
    have rp : mf_Mo_replace_0 (fw_up w 42 0 (3 * 0 + s) x) (nI s) c 0 k = w c 0 k := by rw [rp_o_0 hs (by omega), fw_up_ne (by omega)]
    have st : ∀ u : fw_V, (mf_Mo_mark_0 u (nI s)) c 0 k = u c 0 k := fun u => by rw [mark_0 hs, fw_up_ne (by omega)]
    unfold mf_Mo_plug
    (try dsimp only)
    rw [if_neg r1, if_neg r2, if_neg r3, i3_0 hs, ci]
    by_cases hm : w 42 0 (3 * 0 + s) = x
    · rw [if_pos hm]
    · rw [if_neg hm]
      rw [if_pos rfl]
      (repeat' split) <;> (try dsimp only) <;> (first | exact rp | (rw [st]; exact rp) | skip)
      · rename_i p1 p2 p3
        obtain ⟨n, hn, en⟩ := vp_in_of (x := mf_Mo_mark_0 (mf_Mo_replace_0 (fw_up w 42 0 (3 * 0 + s) x) (nI s)) (nI s) 37 0 0) (n := 5) (by rw [mark_0 hs, fw_up_c (by decide), rp_o_0 hs (by omega), fw_up_c (by decide)]; exact h.e0.q5) (by decide)
        have n4 : n < 4 := by
          rw [en] at p3
          by_cases z : n < 4
          · exact z
          · exact absurd ((nI_leI (a := 4) (b := n) (by omega) (by omega)).mpr (by omega)) p3
        rw [fw_up_c (show (37 : Nat) ≠ 47 by decide), en, i4_0 n4]
        rw [fw_up_ne (by omega), fw_up_ne (by omega), fw_up_ne (by omega), st]; exact rp
  refine GB_de_0 h a (fun c i k q1 q2 => do_De_changeModule q1 q2 v (nI s) x) (fun c k q1 q2 => fr c k (by omega) (by omega) (by omega) (by omega)) (fun s' hs' => fr 44 _ (by omega) (by omega) (by omega) (by omega)) (fun k q => fr 0 k (by omega) (by omega) (by omega) (by omega)) (Or.inl ⟨xv_De_changeModule ⟨rfl, rfl⟩ v 0 (nI s) x, fr 0 56 (by omega) (by omega) (by omega) (by omega)⟩)
/-- close -/
theorem GB_closer_0 {B : Nat} {v w : fw_V} (h : GB B v w) : (xf_Re_end v 0).1 = w 12 0 0 ∧ GB B (xf_Re_end v 0).2 (if w 12 0 0 = 0 then w else mf_Mo_breakOff_0 w) := by
  obtain ⟨a, b⟩ := Re_close_0 (GB_RB_0 h)
  refine ⟨a, ?_⟩
  have fr : ∀ c k, (c ≠ 0 ∧ c ≠ 4 ∧ c ≠ 5 ∧ c ≠ 6 ∧ c ≠ 7 ∧ c ≠ 8 ∧ c ≠ 9 ∧ c ≠ 49) → ¬ (k = 0 ∧ 12 ≤ c ∧ c ≤ 23) → ¬ (c = 27 ∧ 0 ≤ k ∧ k < 0 + 6) → (if w 12 0 0 = 0 then w else mf_Mo_breakOff_0 w) c 0 k = w c 0 k := fun c k q1 q2 q3 => by
    split
    · rfl
    · exact mr0_Mo_breakOff_0 q1 q2 (by omega) w
  refine GB_re_0 h b (fun c i k q1 q2 => ro_Re_end q1 (by omega) v) (fun c k q1 q2 q3 => fr c k q1 q2 (by omega)) (fun k hk => by rw [fr 24 k (by decide) (by omega) (by omega)]; exact h.ex k hk) (fun k q => ?_) (Or.inl ⟨xq_Re_end ⟨rfl, rfl⟩ v 0, ?_⟩)
  · split
    · rfl
    · exact mz_Mo_breakOff_0 q w
  · split
    · rfl
    · exact mz56_Mo_breakOff_0 rfl w
/-- open -/
theorem GB_openr_0 {B : Nat} {v w : fw_V} {x : Int32} (h : GB B v w) (h0 : w 12 0 0 = 0) : GB B (xf_Re_begin (fw_up (fw_up v 0 0 5 x) 0 0 8 (v 0 0 8 + 1)) 0 x) (mf_Mo_ask_0 (fw_up (fw_up (mf_Mo_enter_0 (fw_up (fw_up w 0 0 54 x) 0 0 53 (w 0 0 53 + 1)) 1) 13 0 0 x) 23 0 0 0)) := by
  obtain ⟨v1, e1⟩ : ∃ v1, v1 = fw_up (fw_up v 0 0 5 x) 0 0 8 (v 0 0 8 + 1) := ⟨_, rfl⟩
  obtain ⟨w1, f1⟩ : ∃ w1, w1 = fw_up (fw_up w 0 0 54 x) 0 0 53 (w 0 0 53 + 1) := ⟨_, rfl⟩
  rw [← e1, ← f1]
  have v1c : ∀ c i k, c ≠ 0 → v1 c i k = v c i k := fun c i k q => by rw [e1, fw_up_c q, fw_up_c q]
  have w1c : ∀ c k, c ≠ 0 → w1 c 0 k = w c 0 k := fun c k q => by rw [f1, fw_up_c q, fw_up_c q]
  have h1 : GB B v1 w1 := by
    refine GB_o h (fun c i k q1 q2 => v1c c i k q1) (fun c k q1 q2 q3 => w1c c k q1) (Wr_cg h.wr (fun c i k q1 q2 => v1c c i k (by omega)) ⟨?_, ?_, ?_⟩ (fun c k q1 q2 => w1c c k (by omega))) ?_ ?_ ?_ ?_ ?_ ?_
    · rw [f1, fw_up_k (by decide), fw_up_k (by decide)]
    · rw [f1, fw_up_k (by decide), fw_up_k (by decide)]
    · rw [f1, fw_up_k (by decide), fw_up_k (by decide)]
    · rw [e1, f1, fw_up_k (by decide), fw_up_s, fw_up_k (by decide), fw_up_s]
    · rw [e1, f1, fw_up_k (by decide), fw_up_k (by decide), fw_up_k (by decide), fw_up_k (by decide)]; exact h.c6
    · rw [e1, f1, fw_up_k (by decide), fw_up_k (by decide), fw_up_k (by decide), fw_up_k (by decide)]; exact h.c7
    · rw [e1, f1, fw_up_s, fw_up_s, h.c8]
    · rw [f1, fw_up_k (by decide), fw_up_k (by decide)]
    · rw [f1, fw_up_k (by decide), fw_up_k (by decide)]
  have a := Re_open_0 (x := x) (GB_RB_0 h1) (by rw [w1c 12 _ (by decide)]; exact h0)
  have fr : ∀ c k, (c ≠ 0 ∧ c ≠ 4 ∧ c ≠ 5 ∧ c ≠ 6 ∧ c ≠ 7 ∧ c ≠ 8 ∧ c ≠ 9 ∧ c ≠ 49) → ¬ (k = 0 ∧ 12 ≤ c ∧ c ≤ 23) → ¬ (c = 27 ∧ 0 ≤ k ∧ k < 0 + 6) → mf_Mo_ask_0 (fw_up (fw_up (mf_Mo_enter_0 w1 1) 13 0 0 x) 23 0 0 0) c 0 k = w1 c 0 k := fun c k q1 q2 q3 => by
    rw [mr0_Mo_ask_0 q1 q2 (by omega), fw_up_ne (by omega), fw_up_ne (by omega), mr0_Mo_enter_0 q1 q2 (by omega)]
  refine GB_re_0 h1 a (fun c i k q1 q2 => ro_Re_begin q1 (by omega) v1 x) (fun c k q1 q2 q3 => fr c k q1 q2 (by omega)) (fun k hk => by rw [fr 24 k (by decide) (by omega) (by omega)]; exact h1.ex k hk) (fun k q => ?_) (Or.inl ⟨xq_Re_begin ⟨rfl, rfl⟩ v1 0 x, ?_⟩)
  · rw [mz_Mo_ask_0 q, fw_up_c (by decide), fw_up_c (by decide), mz_Mo_enter_0 q]
  · rw [mz56_Mo_ask_0 rfl, fw_up_c (by decide), fw_up_c (by decide), mz56_Mo_enter_0 rfl]

/-- plug -/
theorem GB_plugr_1 {B : Nat} {v w : fw_V} {s : Nat} {x : Int32} (h : GB B v w) (hs : s < 3) (hx : vp_in (x + 1) 9) : GB B (xf_De_changeModule v 1 (nI s) x) (mf_Mo_plug w (1 : Int32) (nI s) x).2 := by
  obtain ⟨a, -⟩ := De_plug_1 (GB_DB_1 h) h.kd hs hx
  have r1 : ¬ mf_Mo_is (1 : Int32) 0 1 = 0 := by decide
  have r2 : ¬ mf_Mo_is (nI s) 0 2 = 0 := by
    rcases (show s = 0 ∨ s = 1 ∨ s = 2 by omega) with rfl | rfl | rfl <;> decide
  have r3 : ¬ mf_Mo_is x (-1) 7 = 0 := plx hx
  have ci : (1 : Int32).toNatClampNeg = 1 := by decide
  have fr : ∀ c k, ¬ ((c = 31 ∨ c = 37) ∧ k = 1) → ¬ ((c = 47 ∨ c = 48) ∧ 4 * 1 ≤ k ∧ k < 4 * 1 + 4) → ¬ (c = 42 ∧ k = 3 * 1 + s) → ¬ (c = 46 ∧ 6 * 1 ≤ k ∧ k < 6 * 1 + 6) → (mf_Mo_plug w (1 : Int32) (nI s) x).2 c 0 k = w c 0 k := by
    intro c k q1 q2 q3 q4
    have rp : mf_Mo_replace_1 (fw_up w 42 0 (3 * 1 + s) x) (nI s) c 0 k = w c 0 k := by rw [rp_o_1 hs (by omega), fw_up_ne (by omega)]
    have st : ∀ u : fw_V, (mf_Mo_mark_1 u (nI s)) c 0 k = u c 0 k := fun u => by rw [mark_1 hs, fw_up_ne (by omega)]
    unfold mf_Mo_plug
    (try dsimp only)
    rw [if_neg r1, if_neg r2, if_neg r3, i3_1 hs, ci]
    by_cases hm : w 42 0 (3 * 1 + s) = x
    · rw [if_pos hm]
    · rw [if_neg hm]
      rw [if_neg (show ¬ (1 : Int32) = 0 by decide)]
      (repeat' split) <;> (try dsimp only) <;> (first | exact rp | (rw [st]; exact rp) | skip)
      · rename_i p1 p2 p3
        obtain ⟨n, hn, en⟩ := vp_in_of (x := mf_Mo_mark_1 (mf_Mo_replace_1 (fw_up w 42 0 (3 * 1 + s) x) (nI s)) (nI s) 37 0 1) (n := 5) (by rw [mark_1 hs, fw_up_c (by decide), rp_o_1 hs (by omega), fw_up_c (by decide)]; exact h.e1.q5) (by decide)
        have n4 : n < 4 := by
          rw [en] at p3
          by_cases z : n < 4
          · exact z
          · exact absurd ((nI_leI (a := 4) (b := n) (by omega) (by omega)).mpr (by omega)) p3
        rw [fw_up_c (show (37 : Nat) ≠ 47 by decide), en, i4_1 n4]
        rw [fw_up_ne (by omega), fw_up_ne (by omega), fw_up_ne (by omega), st]; exact rp
  refine GB_de_1 h a (fun c i k q1 q2 => do_De_changeModule q1 q2 v (nI s) x) (fun c k q1 q2 => fr c k (by omega) (by omega) (by omega) (by omega)) (fun s' hs' => fr 44 _ (by omega) (by omega) (by omega) (by omega)) (fun k q => fr 0 k (by omega) (by omega) (by omega) (by omega)) (Or.inl ⟨xv_De_changeModule ⟨rfl, rfl⟩ v 1 (nI s) x, fr 0 56 (by omega) (by omega) (by omega) (by omega)⟩)
/-- close -/
theorem GB_closer_1 {B : Nat} {v w : fw_V} (h : GB B v w) : (xf_Re_end v 1).1 = w 12 0 1 ∧ GB B (xf_Re_end v 1).2 (if w 12 0 1 = 0 then w else mf_Mo_breakOff_1 w) := by
  obtain ⟨a, b⟩ := Re_close_1 (GB_RB_1 h)
  refine ⟨a, ?_⟩
  have fr : ∀ c k, (c ≠ 0 ∧ c ≠ 4 ∧ c ≠ 5 ∧ c ≠ 6 ∧ c ≠ 7 ∧ c ≠ 8 ∧ c ≠ 9 ∧ c ≠ 49) → ¬ (k = 1 ∧ 12 ≤ c ∧ c ≤ 23) → ¬ (c = 27 ∧ 6 ≤ k ∧ k < 6 + 6) → (if w 12 0 1 = 0 then w else mf_Mo_breakOff_1 w) c 0 k = w c 0 k := fun c k q1 q2 q3 => by
    split
    · rfl
    · exact mr1_Mo_breakOff_1 q1 q2 (by omega) w
  refine GB_re_1 h b (fun c i k q1 q2 => ro_Re_end q1 (by omega) v) (fun c k q1 q2 q3 => fr c k q1 q2 (by omega)) (fun k hk => by rw [fr 24 k (by decide) (by omega) (by omega)]; exact h.ex k hk) (fun k q => ?_) (Or.inl ⟨xq_Re_end ⟨rfl, rfl⟩ v 1, ?_⟩)
  · split
    · rfl
    · exact mz_Mo_breakOff_1 q w
  · split
    · rfl
    · exact mz56_Mo_breakOff_1 rfl w
/-- open -/
theorem GB_openr_1 {B : Nat} {v w : fw_V} {x : Int32} (h : GB B v w) (h0 : w 12 0 1 = 0) : GB B (xf_Re_begin (fw_up (fw_up v 0 0 5 x) 0 0 8 (v 0 0 8 + 1)) 1 x) (mf_Mo_ask_1 (fw_up (fw_up (mf_Mo_enter_1 (fw_up (fw_up w 0 0 54 x) 0 0 53 (w 0 0 53 + 1)) 1) 13 0 1 x) 23 0 1 0)) := by
  obtain ⟨v1, e1⟩ : ∃ v1, v1 = fw_up (fw_up v 0 0 5 x) 0 0 8 (v 0 0 8 + 1) := ⟨_, rfl⟩
  obtain ⟨w1, f1⟩ : ∃ w1, w1 = fw_up (fw_up w 0 0 54 x) 0 0 53 (w 0 0 53 + 1) := ⟨_, rfl⟩
  rw [← e1, ← f1]
  have v1c : ∀ c i k, c ≠ 0 → v1 c i k = v c i k := fun c i k q => by rw [e1, fw_up_c q, fw_up_c q]
  have w1c : ∀ c k, c ≠ 0 → w1 c 0 k = w c 0 k := fun c k q => by rw [f1, fw_up_c q, fw_up_c q]
  have h1 : GB B v1 w1 := by
    refine GB_o h (fun c i k q1 q2 => v1c c i k q1) (fun c k q1 q2 q3 => w1c c k q1) (Wr_cg h.wr (fun c i k q1 q2 => v1c c i k (by omega)) ⟨?_, ?_, ?_⟩ (fun c k q1 q2 => w1c c k (by omega))) ?_ ?_ ?_ ?_ ?_ ?_
    · rw [f1, fw_up_k (by decide), fw_up_k (by decide)]
    · rw [f1, fw_up_k (by decide), fw_up_k (by decide)]
    · rw [f1, fw_up_k (by decide), fw_up_k (by decide)]
    · rw [e1, f1, fw_up_k (by decide), fw_up_s, fw_up_k (by decide), fw_up_s]
    · rw [e1, f1, fw_up_k (by decide), fw_up_k (by decide), fw_up_k (by decide), fw_up_k (by decide)]; exact h.c6
    · rw [e1, f1, fw_up_k (by decide), fw_up_k (by decide), fw_up_k (by decide), fw_up_k (by decide)]; exact h.c7
    · rw [e1, f1, fw_up_s, fw_up_s, h.c8]
    · rw [f1, fw_up_k (by decide), fw_up_k (by decide)]
    · rw [f1, fw_up_k (by decide), fw_up_k (by decide)]
  have a := Re_open_1 (x := x) (GB_RB_1 h1) (by rw [w1c 12 _ (by decide)]; exact h0)
  have fr : ∀ c k, (c ≠ 0 ∧ c ≠ 4 ∧ c ≠ 5 ∧ c ≠ 6 ∧ c ≠ 7 ∧ c ≠ 8 ∧ c ≠ 9 ∧ c ≠ 49) → ¬ (k = 1 ∧ 12 ≤ c ∧ c ≤ 23) → ¬ (c = 27 ∧ 6 ≤ k ∧ k < 6 + 6) → mf_Mo_ask_1 (fw_up (fw_up (mf_Mo_enter_1 w1 1) 13 0 1 x) 23 0 1 0) c 0 k = w1 c 0 k := fun c k q1 q2 q3 => by
    rw [mr1_Mo_ask_1 q1 q2 (by omega), fw_up_ne (by omega), fw_up_ne (by omega), mr1_Mo_enter_1 q1 q2 (by omega)]
  refine GB_re_1 h1 a (fun c i k q1 q2 => ro_Re_begin q1 (by omega) v1 x) (fun c k q1 q2 q3 => fr c k q1 q2 (by omega)) (fun k hk => by rw [fr 24 k (by decide) (by omega) (by omega)]; exact h1.ex k hk) (fun k q => ?_) (Or.inl ⟨xq_Re_begin ⟨rfl, rfl⟩ v1 1 x, ?_⟩)
  · rw [mz_Mo_ask_1 q, fw_up_c (by decide), fw_up_c (by decide), mz_Mo_enter_1 q]
  · rw [mz56_Mo_ask_1 rfl, fw_up_c (by decide), fw_up_c (by decide), mz56_Mo_enter_1 rfl]

theorem GB_plug {B : Nat} {v w : fw_V} (a1 a2 a3 : Int32) (h : GB B v w) : GB B (xf_FR_plug v a1 a2 a3).2 (mf_Mo_plug w a1 a2 a3).2 := by
  by_cases h1 : mf_Mo_is a1 0 1 = 0
  · unfold xf_FR_plug mf_Mo_plug xf_FR_isDevice
    simp only [xw_is, h1, if_true]; exact h
  · by_cases h2 : mf_Mo_is a2 0 2 = 0
    · unfold xf_FR_plug mf_Mo_plug xf_FR_isDevice xf_FR_isSlot
      simp only [xw_is, h1, h2, if_true, if_false]; exact h
    · by_cases h3 : mf_Mo_is a3 (-1) 7 = 0
      · unfold xf_FR_plug mf_Mo_plug xf_FR_isDevice xf_FR_isSlot
        simp only [xw_is, is_kon, h1, h2, h3, if_true, if_false]; exact h
      · have hx : (xf_FR_plug v a1 a2 a3).2 = xf_De_changeModule v a1.toNatClampNeg a2 a3 := by
          unfold xf_FR_plug xf_FR_isDevice xf_FR_isSlot
          simp only [xw_is, is_kon, h1, h2, h3, if_false]
        rw [hx]
        obtain ⟨s, hs, rfl⟩ := slot3 h2
        rcases dev01 h1 with rfl | rfl
        · rw [z0]; exact GB_plugr_0 h hs (kon9 h3)
        · rw [z1]; exact GB_plugr_1 h hs (kon9 h3)
theorem GB_close {B : Nat} {v w : fw_V} (a1 : Int32) (h : GB B v w) : GB B (xf_FR_close v a1).2 (mf_Mo_close w a1).2 ∧ (xf_FR_close v a1).1 = (mf_Mo_close w a1).1 := by
  unfold xf_FR_close mf_Mo_close xf_FR_isDevice
  simp only [xw_is]
  by_cases h1 : mf_Mo_is a1 0 1 = 0
  · simp only [h1, if_true]; exact ⟨h, trivial⟩
  · simp only [h1, if_false]
    rcases dev01 h1 with rfl | rfl
    · rw [z0]
      obtain ⟨a, b⟩ := GB_closer_0 h
      by_cases q : w 12 0 0 = 0
      · rw [if_pos q] at b ⊢; exact ⟨b, a⟩
      · rw [if_neg q] at b ⊢; rw [if_pos rfl]; exact ⟨b, a⟩
    · rw [z1]
      obtain ⟨a, b⟩ := GB_closer_1 h
      by_cases q : w 12 0 1 = 0
      · rw [if_pos q] at b ⊢; exact ⟨b, a⟩
      · rw [if_neg q] at b ⊢; rw [if_neg (show ¬ (1 : Int32) = 0 by decide)]; exact ⟨b, a⟩
theorem GB_kind {B : Nat} {v w : fw_V} (a1 a2 a3 a4 : Int32) (h : GB B v w) : GB B (xf_FR_kind v a1 a2 a3 a4).2 (mf_Mo_kind w a1 a2 a3 a4).2 ∧ (xf_FR_kind v a1 a2 a3 a4).1 = (mf_Mo_kind w a1 a2 a3 a4).1 := by
  unfold xf_FR_kind mf_Mo_kind xf_FR_isKind
  simp only [xw_is]
  by_cases h1 : mf_Mo_is a1 0 7 = 0
  · simp only [h1, if_true]; exact ⟨h, trivial⟩
  · simp only [h1, if_false]
    by_cases h2 : mf_Mo_is a2 0 2 = 0
    · simp only [h2, if_true]; exact ⟨h, trivial⟩
    · simp only [h2, if_false]
      by_cases h3 : mf_Mo_is a3 0 2 = 0
      · simp only [h3, if_true]; exact ⟨h, trivial⟩
      · simp only [h3, if_false]
        unfold xf_FR_allAtRest xf_FR_allAtRest_j1 xf_FR_allAtRest_j2 xf_FR_allAtRest_j3 mf_Mo_kind_j1 mf_Mo_kind_j2 mf_Mo_kind_j3 xf_Re_isClosed xf_De_isIdle xf_KT_define
        (try dsimp only)
        rw [h.r0.st, h.r1.st, h.d0.st, h.d1.st]
        by_cases q0 : w 12 0 0 = 0
        · by_cases q1 : w 28 0 0 = 0
          · by_cases q2 : w 12 0 1 = 0
            · by_cases q3 : w 28 0 1 = 0
              · simp only [q0, q1, q2, q3, if_true, if_false, show ¬ (1 : Int32) = 0 by decide]
                obtain ⟨j, hj, rfl⟩ := kind8 h1
                rw [nI_clamp (by omega)]
                refine ⟨?_, trivial⟩
                obtain ⟨v', ev⟩ : ∃ v', v' = fw_up (fw_up (fw_up v 2 0 j a2) 3 0 j a3) 4 0 j (vp_nar .boolean a4) := ⟨_, rfl⟩
                obtain ⟨w', ew⟩ : ∃ w', w' = fw_up (fw_up (fw_up w 1 0 j a2) 2 0 j a3) 3 0 j (vp_nar .boolean a4) := ⟨_, rfl⟩
                rw [← ev, ← ew]
                have v0 : ∀ c i k, c ≠ 2 → c ≠ 3 → c ≠ 4 → v' c i k = v c i k := fun c i k z1 z2 z3 => by rw [ev, fw_up_c z3, fw_up_c z2, fw_up_c z1]
                have w0 : ∀ c k, c ≠ 1 → c ≠ 2 → c ≠ 3 → w' c 0 k = w c 0 k := fun c k z1 z2 z3 => by rw [ew, fw_up_c z3, fw_up_c z2, fw_up_c z1]
                refine ⟨Rl_cg h.r0 (fun c k q1 q2 => v0 c 0 k (by omega) (by omega) (by omega)) (fun c k q1 q2 => w0 c k (by omega) (by omega) (by omega)), Ri_cg h.i0 (fun c k q1 q2 => w0 c k (by omega) (by omega) (by omega)), Rl_cg h.r1 (fun c k q1 q2 => v0 c 1 k (by omega) (by omega) (by omega)) (fun c k q1 q2 => w0 c k (by omega) (by omega) (by omega)), Ri_cg h.i1 (fun c k q1 q2 => w0 c k (by omega) (by omega) (by omega)), Dv_cg h.d0 (fun c k q1 q2 => v0 c 0 k (by omega) (by omega) (by omega)) (fun k => v0 14 _ k (by decide) (by decide) (by decide)) (fun c k q1 q2 => w0 c k (by omega) (by omega) (by omega)), Di_cg h.e0 (v0 20 0 4 (by decide) (by decide) (by decide)) (fun c k q1 q2 => w0 c k (by omega) (by omega) (by omega)), Dv_cg h.d1 (fun c k q1 q2 => v0 c 1 k (by omega) (by omega) (by omega)) (fun k => v0 14 _ k (by decide) (by decide) (by decide)) (fun c k q1 q2 => w0 c k (by omega) (by omega) (by omega)), Di_cg h.e1 (v0 20 1 4 (by decide) (by decide) (by decide)) (fun c k q1 q2 => w0 c k (by omega) (by omega) (by omega)), Wr_cg h.wr (fun c i k q1 q2 => v0 c i k (by omega) (by omega) (by omega)) ⟨w0 0 10 (by decide) (by decide) (by decide), w0 0 50 (by decide) (by decide) (by decide), w0 0 51 (by decide) (by decide) (by decide)⟩ (fun c k q1 q2 => w0 c k (by omega) (by omega) (by omega)), fun t ht => by rw [w0 9 t (by decide) (by decide) (by decide)]; exact h.at t ht, Lg_cg h.lg (fun c k hc => v0 c 0 k (by omega) (by omega) (by omega)) (w0 0 55 (by decide) (by decide) (by decide)) (fun k => w0 49 k (by decide) (by decide) (by decide)), ⟨fun k hk => ?_, fun k hk => ?_, fun k hk => ?_⟩, fun k hk => by rw [w0 24 k (by decide) (by decide) (by decide)]; exact h.ex k hk, ?_, ?_, ?_, ?_, ?_⟩
                · rw [ev, ew, fw_up_c (show (2 : Nat) ≠ 4 by decide), fw_up_c (show (2 : Nat) ≠ 3 by decide), fw_up_c (show (1 : Nat) ≠ 3 by decide), fw_up_c (show (1 : Nat) ≠ 2 by decide)]
                  by_cases z : k = j
                  · subst z; rw [fw_up_s, fw_up_s]
                  · rw [fw_up_k z, fw_up_k z]; exact h.kd.ki k hk
                · rw [ev, ew, fw_up_c (show (3 : Nat) ≠ 4 by decide), fw_up_c (show (2 : Nat) ≠ 3 by decide)]
                  by_cases z : k = j
                  · subst z; rw [fw_up_s, fw_up_s]
                  · simp [fw_up, z]; exact h.kd.ko k hk
                · rw [ev, ew]
                  by_cases z : k = j
                  · subst z; rw [fw_up_s, fw_up_s]
                  · simp [fw_up, z]; exact h.kd.kn k hk
                · rw [v0 0 0 5 (by decide) (by decide) (by decide), w0 0 54 (by decide) (by decide) (by decide)]; exact h.c5
                · rw [v0 0 0 6 (by decide) (by decide) (by decide), w0 0 49 (by decide) (by decide) (by decide)]; exact h.c6
                · rw [v0 0 0 7 (by decide) (by decide) (by decide), w0 0 52 (by decide) (by decide) (by decide)]; exact h.c7
                · rw [v0 0 0 8 (by decide) (by decide) (by decide), w0 0 53 (by decide) (by decide) (by decide)]; exact h.c8
                · rw [v0 13 0 19 (by decide) (by decide) (by decide), v0 13 1 19 (by decide) (by decide) (by decide), v0 19 0 18 (by decide) (by decide) (by decide), v0 19 1 18 (by decide) (by decide) (by decide), w0 0 56 (by decide) (by decide) (by decide)]; exact h.wt
              · simp only [q0, q1, q2, q3, if_true, if_false, show ¬ (1 : Int32) = 0 by decide]; exact ⟨h, trivial⟩
            · simp only [q0, q1, q2, if_true, if_false, show ¬ (1 : Int32) = 0 by decide]; exact ⟨h, trivial⟩
          · simp only [q0, q1, if_true, if_false, show ¬ (1 : Int32) = 0 by decide]; exact ⟨h, trivial⟩
        · simp only [q0, if_true, if_false, show ¬ (1 : Int32) = 0 by decide]; exact ⟨h, trivial⟩
/-- open -/
theorem GB_open {B : Nat} {v w : fw_V} (a1 : Int32) (h : GB B v w) (hL : vp_in (w 0 0 54) 65536) : GB B (xf_FR_open v a1).2 (mf_Mo_open w a1).2 ∧ (xf_FR_open v a1).1 = (mf_Mo_open w a1).1 := by
  obtain ⟨n, hn, en⟩ := vp_in_of hL (by decide)
  have e5 : v 0 0 5 = nI n := by rw [h.c5]; exact en
  obtain ⟨k0, k1⟩ := clo h
  unfold xf_FR_open mf_Mo_open xf_FR_isDevice
  simp only [xw_is]
  by_cases h1 : mf_Mo_is a1 0 1 = 0
  · simp only [h1, if_true]; exact ⟨h, trivial⟩
  · simp only [h1, if_false]
    have key : ∀ x : Int32, w 12 0 a1.toNatClampNeg = 0 → ((fw_up (fw_up v 0 0 5 x) 0 0 8 (v 0 0 8 + 1)) 0 0 5 = x) := fun x _ => by rw [fw_up_k (by decide), fw_up_s]
    rcases dev01 h1 with rfl | rfl
    · rw [z0]
      by_cases q : w 12 0 0 = 0
      · rw [if_neg (fun z => k0.mp z q), if_pos q, h.r0.nm]
        by_cases q2 : w 14 0 0 = 0
        · rw [if_pos q2, if_pos q2]; exact ⟨h, rfl⟩
        · rw [if_neg q2, if_neg q2, e5, en]
          have fin := fun x => GB_openr_0 (x := x) h q
          by_cases z : n = 65535
          · subst z
            rw [if_neg (show ¬ nI 65535 < 65535 by decide), if_pos (show nI 65535 = (65535 : Int32) by decide)]
            unfold xf_FR_open_j2 mf_Mo_open_j2
            (try dsimp only)
            rw [if_pos rfl]
            rw [z0, fw_up_k (show (5 : Nat) ≠ 8 by decide), fw_up_s, fw_up_k (show (8 : Nat) ≠ 5 by decide), fw_up_k (show (53 : Nat) ≠ 54 by decide), mz_Mo_enter_0 (k := 54) (by decide), fw_up_k (show (54 : Nat) ≠ 53 by decide), fw_up_s]
            exact ⟨fin 1, (fin 1).c5⟩
          · have zl : nI n < (65535 : Int32) := (nI_ltI (a := n) (b := 65535) (by omega) (by omega)).mpr (by omega)
            have zn : ¬ nI n = (65535 : Int32) := fun y => z ((nI_eq (a := n) (b := 65535) (by omega) (by omega)).mp y)
            rw [if_pos zl, if_neg zn]
            unfold xf_FR_open_j1 mf_Mo_open_j1
            (try dsimp only)
            rw [if_pos rfl]
            rw [z0, fw_up_k (show (5 : Nat) ≠ 8 by decide), fw_up_s, fw_up_k (show (8 : Nat) ≠ 5 by decide), fw_up_k (show (53 : Nat) ≠ 54 by decide), mz_Mo_enter_0 (k := 54) (by decide), fw_up_k (show (54 : Nat) ≠ 53 by decide), fw_up_s, en]
            exact ⟨fin _, (fin _).c5⟩
      · rw [if_pos (k0.mpr q), if_neg q]; exact ⟨h, rfl⟩
    · rw [z1]
      by_cases q : w 12 0 1 = 0
      · rw [if_neg (fun z => k1.mp z q), if_pos q, h.r1.nm]
        by_cases q2 : w 14 0 1 = 0
        · rw [if_pos q2, if_pos q2]; exact ⟨h, rfl⟩
        · rw [if_neg q2, if_neg q2, e5, en]
          have fin := fun x => GB_openr_1 (x := x) h q
          by_cases z : n = 65535
          · subst z
            rw [if_neg (show ¬ nI 65535 < 65535 by decide), if_pos (show nI 65535 = (65535 : Int32) by decide)]
            unfold xf_FR_open_j2 mf_Mo_open_j2
            (try dsimp only)
            rw [if_neg (show ¬ (1 : Int32) = 0 by decide)]
            rw [z1, fw_up_k (show (5 : Nat) ≠ 8 by decide), fw_up_s, fw_up_k (show (8 : Nat) ≠ 5 by decide), fw_up_k (show (53 : Nat) ≠ 54 by decide), mz_Mo_enter_1 (k := 54) (by decide), fw_up_k (show (54 : Nat) ≠ 53 by decide), fw_up_s]
            exact ⟨fin 1, (fin 1).c5⟩
          · have zl : nI n < (65535 : Int32) := (nI_ltI (a := n) (b := 65535) (by omega) (by omega)).mpr (by omega)
            have zn : ¬ nI n = (65535 : Int32) := fun y => z ((nI_eq (a := n) (b := 65535) (by omega) (by omega)).mp y)
            rw [if_pos zl, if_neg zn]
            unfold xf_FR_open_j1 mf_Mo_open_j1
            (try dsimp only)
            rw [if_neg (show ¬ (1 : Int32) = 0 by decide)]
            rw [z1, fw_up_k (show (5 : Nat) ≠ 8 by decide), fw_up_s, fw_up_k (show (8 : Nat) ≠ 5 by decide), fw_up_k (show (53 : Nat) ≠ 54 by decide), mz_Mo_enter_1 (k := 54) (by decide), fw_up_k (show (54 : Nat) ≠ 53 by decide), fw_up_s, en]
            exact ⟨fin _, (fin _).c5⟩
      · rw [if_pos (k1.mpr q), if_neg q]; exact ⟨h, rfl⟩

theorem GB_count {B : Nat} {v w : fw_V} (a : Int32) (h : GB B v w) : xf_FR_count v a = mf_Mo_count w a := by
  have hl : v 9 0 1 = w 0 0 55 := by
    obtain ⟨t, -, h2, h3, -⟩ := h.lg
    rw [h2, h3]
  have hw : xf_FR_watchEnds v = w 0 0 56 := by
    unfold xf_FR_watchEnds
    rw [← h.wt, Int32.zero_add]; ac_rfl
  unfold xf_FR_count mf_Mo_count
  (try dsimp only)
  rw [h.c6, h.c7, h.c8, h.wr.sz, h.wr.st, h.wr.ls, hl, hw]
theorem GB_alarms {B : Nat} {v w : fw_V} (a : Int32) (h : GB B v w) (hB : B < 2 ^ 30) : xf_FR_alarms v a = mf_Mo_alarms w a := by
  obtain ⟨t, h1, h2, h3, h4⟩ := h.lg
  unfold xf_FR_alarms xf_AL_latest mf_Mo_alarms
  (try dsimp only)
  rw [xw_is, h2, h3]
  have e8 : (if (8 : Int32) < nI t then (8 : Int32) else nI t) = nI (if 8 < t then 8 else t) := by
    by_cases z : 8 < t
    · rw [if_pos z, if_pos (show (8 : Int32) < nI t from (nI_ltI (a := 8) (b := t) (by omega) (by omega)).mpr z)]; rfl
    · rw [if_neg z, if_neg (show ¬ (8 : Int32) < nI t from fun q => z ((nI_ltI (a := 8) (b := t) (by omega) (by omega)).mp q))]
  rw [e8]
  obtain ⟨m, em⟩ : ∃ m, m = (if 8 < t then 8 else t) := ⟨_, rfl⟩
  rw [← em]
  have hm : m ≤ 8 ∧ m ≤ t ∧ (m = 8 ∨ m = t) := by
    rw [em]
    by_cases z : 8 < t
    · rw [if_pos z]; omega
    · rw [if_neg z]; omega
  by_cases hx : mf_Mo_is a 0 (nI m - 1) = 0
  · rw [if_pos hx]
    by_cases l0 : a < 0
    · rw [if_pos l0]
    · rw [if_neg l0]
      by_cases l8 : (8 : Int32) ≤ a
      · rw [if_pos l8]
      · rw [if_neg l8, if_pos]
        have l0' : ¬ a.toInt < 0 := fun q => l0 (by rw [Int32.lt_iff_toInt_lt]; exact q)
        have l8' : a.toInt < 8 := by
          have := Int32.not_le.mp l8
          rw [Int32.lt_iff_toInt_lt] at this
          exact this
        obtain ⟨k, hk, ek⟩ := vp_in_of (x := a) (n := 8) (by rw [vp_in_iff]; omega) (by decide)
        rw [ek]
        by_cases z : t ≤ k
        · exact (nI_leI (by omega) (by omega)).mpr z
        · exfalso
          have km : k < m := by omega
          apply (show ¬ mf_Mo_is a 0 (nI m - 1) = 0 from ?_) hx
          rw [ek, nI_p (by omega)]
          unfold mf_Mo_is
          have a1 : ¬ nI k < 0 := fun q => by
            have := (nI_ltI (a := k) (b := 0) (by omega) (by omega)).mp q
            omega
          have a2 : ¬ nI (m - 1) < nI k := fun q => by
            have := (nI_ltI (a := m - 1) (b := k) (by omega) (by omega)).mp q
            omega
          simp [a1, a2]
  · rw [if_neg hx]
    obtain ⟨k, hk, rfl⟩ := is_has (by omega) hx
    rw [if_neg (fun q => by
      have := (nI_ltI (a := k) (b := 0) (by omega) (by omega)).mp q
      omega), if_neg (fun q => by
      have := (nI_leI (a := 8) (b := k) (by omega) (by omega)).mp q
      omega), if_neg (fun q => by
      have := (nI_leI (a := t) (b := k) (by omega) (by omega)).mp q
      omega), nI_clamp (by omega), h4 k (by omega) (by omega)]
    have e1 : nI t - 1 - nI k = nI (t - 1 - k) := by
      rw [nI_p (by omega)]
      have : nI (t - 1) = nI (t - 1 - k) + nI k := by rw [nI_add]; congr 1; omega
      rw [this]; simp
    rw [e1, rem8 (by omega)]
theorem GB_data {B : Nat} {v w : fw_V} (a1 a2 a3 a4 : Int32) (h : GB B v w) : xf_FR_data v a1 a2 a3 a4 = mf_Mo_data w a1 a2 a3 a4 := by
  unfold xf_FR_data mf_Mo_data xf_FR_isDevice xf_FR_isPlace xf_FR_isSlot
  simp only [xw_is]
  by_cases h1 : mf_Mo_is a1 0 1 = 0
  · simp only [h1, if_true]
  · by_cases h2 : mf_Mo_is a2 0 1 = 0
    · simp only [h1, h2, if_true, if_false]
    · by_cases h3 : mf_Mo_is a3 0 2 = 0
      · simp only [h1, h2, h3, if_true, if_false]
      · by_cases h4 : mf_Mo_is a4 0 1 = 0
        · simp only [h1, h2, h3, h4, if_true, if_false]
        · simp only [h1, h2, h3, h4, if_false, show ¬ (1 : Int32) = 0 by decide]
          obtain ⟨s, hs, rfl⟩ := slot3 h3
          obtain ⟨j, hj, rfl⟩ := dev2 h4
          rw [plj hs hj]
          rcases dev01 h2 with rfl | rfl
          · rw [z0, i6_0 hs hj, h.d0.sh _ (by omega), h.r0.gt _ (by omega)]
          · rw [z1, i6_1 hs hj, h.d1.sh _ (by omega), h.r1.gt _ (by omega)]

theorem dt_0 {B : Nat} {v w : fw_V} (a2 : Int32) (h : GB B v w) : xf_De_tell v 0 a2 = (if mf_Mo_is a2 0 8 = 0 then -1 else if a2 = 0 then w 28 0 0 else if a2 = 1 then w 29 0 0 else if a2 = 2 then w 31 0 0 else if a2 = 3 then w 37 0 0 else if a2 = 4 then w 36 0 0 else if a2 = 8 then w 32 0 0 else w 44 0 ((((3 : Int32) * (0 : Int32)) + a2) - (5 : Int32)).toNatClampNeg) := by
  have hD := h.d0
  unfold xf_De_tell
  rw [hD.st, hD.se, hD.di, hD.ti, hD.qs, hD.qw, hD.wr 0 (by decide), hD.wr 1 (by decide), hD.wr 2 (by decide)]
  by_cases hx : mf_Mo_is a2 0 8 = 0
  · rw [if_pos hx]
    have n : ∀ y : Int32, ¬ mf_Mo_is y 0 8 = 0 → ¬ a2 = y := fun y hy e => hy (by rw [← e]; exact hx)
    rw [if_neg (n 0 (by decide)), if_neg (n 1 (by decide)), if_neg (n 2 (by decide)), if_neg (n 3 (by decide)), if_neg (n 4 (by decide)), if_neg (n 5 (by decide)), if_neg (n 6 (by decide)), if_neg (n 7 (by decide)), if_neg (n 8 (by decide))]
  · rw [if_neg hx]
    obtain ⟨k, hk, rfl⟩ := is_has (n := 9) (by decide) hx
    rcases (show k = 0 ∨ k = 1 ∨ k = 2 ∨ k = 3 ∨ k = 4 ∨ k = 5 ∨ k = 6 ∨ k = 7 ∨ k = 8 by omega) with rfl | rfl | rfl | rfl | rfl | rfl | rfl | rfl | rfl <;> rfl

theorem dt_1 {B : Nat} {v w : fw_V} (a2 : Int32) (h : GB B v w) : xf_De_tell v 1 a2 = (if mf_Mo_is a2 0 8 = 0 then -1 else if a2 = 0 then w 28 0 1 else if a2 = 1 then w 29 0 1 else if a2 = 2 then w 31 0 1 else if a2 = 3 then w 37 0 1 else if a2 = 4 then w 36 0 1 else if a2 = 8 then w 32 0 1 else w 44 0 ((((3 : Int32) * (1 : Int32)) + a2) - (5 : Int32)).toNatClampNeg) := by
  have hD := h.d1
  unfold xf_De_tell
  rw [hD.st, hD.se, hD.di, hD.ti, hD.qs, hD.qw, hD.wr 0 (by decide), hD.wr 1 (by decide), hD.wr 2 (by decide)]
  by_cases hx : mf_Mo_is a2 0 8 = 0
  · rw [if_pos hx]
    have n : ∀ y : Int32, ¬ mf_Mo_is y 0 8 = 0 → ¬ a2 = y := fun y hy e => hy (by rw [← e]; exact hx)
    rw [if_neg (n 0 (by decide)), if_neg (n 1 (by decide)), if_neg (n 2 (by decide)), if_neg (n 3 (by decide)), if_neg (n 4 (by decide)), if_neg (n 5 (by decide)), if_neg (n 6 (by decide)), if_neg (n 7 (by decide)), if_neg (n 8 (by decide))]
  · rw [if_neg hx]
    obtain ⟨k, hk, rfl⟩ := is_has (n := 9) (by decide) hx
    rcases (show k = 0 ∨ k = 1 ∨ k = 2 ∨ k = 3 ∨ k = 4 ∨ k = 5 ∨ k = 6 ∨ k = 7 ∨ k = 8 by omega) with rfl | rfl | rfl | rfl | rfl | rfl | rfl | rfl | rfl <;> rfl

theorem GB_device {B : Nat} {v w : fw_V} (a1 a2 : Int32) (h : GB B v w) : xf_FR_device v a1 a2 = mf_Mo_device w a1 a2 := by
  unfold xf_FR_device mf_Mo_device xf_FR_isDevice
  simp only [xw_is]
  by_cases h1 : mf_Mo_is a1 0 1 = 0
  · simp only [h1, if_true]
  · simp only [h1, if_false]
    rcases dev01 h1 with rfl | rfl
    · rw [z0, dt_0 a2 h]
    · rw [z1, dt_1 a2 h]
theorem GB_frame {B : Nat} {v w : fw_V} (a1 a2 : Int32) (h : GB B v w) : xf_FR_frame v a1 a2 = mf_Mo_frame w a1 a2 := by
  unfold xf_FR_frame mf_Mo_frame xf_Wi_has
  (try dsimp only)
  rw [xw_is, h.wr.sz]
  by_cases hx : mf_Mo_is a1 0 (w 0 0 10 - 1) = 0
  · rw [if_pos hx, if_pos hx]
  · rw [if_neg hx, if_neg hx]
    obtain ⟨n, hn, en⟩ := vp_in_of h.wr.ok (by decide)
    have ew : w 0 0 10 = nI n := by rw [← h.wr.sz]; exact en
    rw [ew] at hx
    obtain ⟨k, hk, rfl⟩ := is_has (by omega) hx
    obtain ⟨x0, x1, x2, x3, x8⟩ := h.wr.fr k (by rw [en, nI_clamp (by omega)]; exact hk)
    unfold xf_Fm_tell
    (try dsimp only)
    rw [nI_clamp (by omega), x0, x1, x2, x3, xw_is]
    by_cases h2 : mf_Mo_is a2 0 10 = 0
    · rw [if_pos h2]
      have n : ∀ y : Int32, ¬ mf_Mo_is y 0 10 = 0 → ¬ a2 = y := fun y hy e => hy (by rw [← e]; exact h2)
      have h4 : mf_Mo_is a2 4 10 = 0 := by
        rcases mis_01 a2 4 10 with z | z
        · exact z
        · exfalso
          unfold mf_Mo_is at h2 z
          have b1 : ¬ a2 < 4 := fun q => by simp [q] at z
          have b2 : ¬ (10 : Int32) < a2 := fun q => by simp [q] at z
          have b0 : ¬ a2 < 0 := fun q => b1 (by
            rw [Int32.lt_iff_toInt_lt] at q ⊢
            have e4 : (4 : Int32).toInt = 4 := by decide
            have e0 : (0 : Int32).toInt = 0 := by decide
            omega)
          simp [b0, b2] at h2
      rw [if_neg (n 0 (by decide)), if_neg (n 1 (by decide)), if_neg (n 2 (by decide)), if_neg (n 3 (by decide)), if_pos h4]
    · rw [if_neg h2]
      obtain ⟨t, ht, rfl⟩ := is_has (n := 11) (by decide) h2
      by_cases t4 : t < 4
      · rcases (show t = 0 ∨ t = 1 ∨ t = 2 ∨ t = 3 by omega) with rfl | rfl | rfl | rfl <;> rfl
      · have nn : ∀ y, y < 4 → ¬ nI t = nI y := fun y hy e => by
          have := (nI_eq (a := t) (b := y) (by omega) (by omega)).mp e
          omega
        have e4 : ¬ mf_Mo_is (nI t) 4 10 = 0 := by
          rcases (show t = 4 ∨ t = 5 ∨ t = 6 ∨ t = 7 ∨ t = 8 ∨ t = 9 ∨ t = 10 by omega) with rfl | rfl | rfl | rfl | rfl | rfl | rfl <;> decide
        have m0 : ¬ nI t = (0 : Int32) := nn 0 (by decide)
        have m1 : ¬ nI t = (1 : Int32) := nn 1 (by decide)
        have m2 : ¬ nI t = (2 : Int32) := nn 2 (by decide)
        have m3 : ¬ nI t = (3 : Int32) := nn 3 (by decide)
        rw [if_neg m0, if_neg m1, if_neg m2, if_neg m3, if_neg e4, if_neg m0, if_neg m1, if_neg m2, if_neg m3]
        have et : nI t = nI (t - 4) + 4 := by
          show nI t = nI (t - 4) + nI 4
          rw [nI_add]; congr 1; omega
        have c1 : (nI t - 4).toNatClampNeg = t - 4 := by
          rw [et]
          have : nI (t - 4) + 4 - 4 = nI (t - 4) := by simp
          rw [this, nI_clamp (by omega)]
        have c2 : (((7 : Int32) * nI k) + nI t - 4).toNatClampNeg = 7 * k + (t - 4) := by
          rw [et, ← Int32.add_assoc]
          have : (7 : Int32) * nI k + nI (t - 4) + 4 - 4 = 7 * nI k + nI (t - 4) := by simp
          rw [this]
          exact i7 (by omega) (by omega)
        rw [c1, c2]
        exact x8 _ (by omega)


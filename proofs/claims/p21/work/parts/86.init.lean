theorem xI_x0 : xI (2 * 0) x0 := by
  refine ⟨fun c i k => ?_, fun i => Or.inl rfl⟩
  unfold xok1
  split
  · show vp_in (1 : Int32) 3
    exact fw_inc (by decide)
  · show vp_in (1 : Int32) 3
    exact fw_inc (by decide)
  · split
    · show vp_in (0 : Int32) 17
      exact fw_inc (by decide)
    · trivial
  · show vp_in (nI (k % 17)) 18
    exact vp_in_nI (by omega) (by decide)
  · split
    · show 0 ≤ (0 : Int32).toInt ∧ (0 : Int32).toInt ≤ ((2 * 0 : Nat) : Int)
      decide
    · trivial
  · split
    · show vp_in (0 : Int32) 3
      exact fw_inc (by decide)
    · trivial
  · split
    · show vp_in (0 : Int32) 5
      exact fw_inc (by decide)
    · trivial
  · trivial
theorem mI_z : mI 0 (fun _ _ _ => 0) := by
  refine ⟨fun c i k => ?_, fun k => Or.inl (show ¬ 0 < (0 : Int32).toInt by decide), fun k h => absurd (show (0 : Int32) = 3 from h) (by decide), fun j hj => ⟨fun h => absurd (show (0 : Int32) = 14 from h) (by decide), fun h => absurd (show (0 : Int32) = 6 from h) (by decide), fun h => absurd (show (0 : Int32) = 3 from h) (by decide)⟩⟩
  unfold mok1
  split
  · split
    · show vp_in (0 : Int32) 17
      exact fw_inc (by decide)
    · trivial
  · show vp_in (0 : Int32) 4
    exact fw_inc (by decide)
  · show vp_in ((0 : Int32) + 1) 9
    exact fw_inc (by decide)
  · show vp_in (0 : Int32) 5
    exact fw_inc (by decide)
  · show vp_in ((0 : Int32) + 1) 9
    exact fw_inc (by decide)
  · show vp_in ((0 : Int32) + 1) 9
    exact fw_inc (by decide)
  · show vp_in (0 : Int32) 3
    exact fw_inc (by decide)
  · trivial
theorem mI_neg : vp_in ((-1 : Int32) + 1) 9 := fw_inc (by decide)
theorem mI_m0 : mI 0 (mf_Mo_init (fun _ _ _ => 0)) := by
  unfold mf_Mo_init
  dsimp only
  refine mI_up ?_ trivial trivial
  refine mI_up ?_ trivial trivial
  refine mI_up ?_ trivial trivial
  refine mI_up ?_ mI_neg trivial
  refine mI_up ?_ mI_neg trivial
  refine mI_up ?_ mI_neg trivial
  refine mI_up ?_ trivial trivial
  refine mI_up ?_ mI_neg trivial
  refine mI_up ?_ mI_neg trivial
  refine mI_up ?_ mI_neg trivial
  refine mI_up ?_ trivial trivial
  refine mI_up ?_ mI_neg trivial
  refine mI_up ?_ mI_neg trivial
  refine mI_up ?_ mI_neg trivial
  refine mI_up ?_ trivial trivial
  refine mI_up ?_ mI_neg trivial
  refine mI_up ?_ mI_neg trivial
  refine mI_up ?_ mI_neg trivial
  refine mI_up ?_ trivial trivial
  refine mI_up ?_ mI_neg trivial
  refine mI_up ?_ mI_neg trivial
  refine mI_up ?_ mI_neg trivial
  refine mI_up ?_ trivial trivial
  refine mI_up ?_ mI_neg trivial
  refine mI_up ?_ mI_neg trivial
  refine mI_up ?_ mI_neg trivial
  refine mI_up ?_ trivial trivial
  refine mI_up ?_ trivial trivial
  refine mI_up ?_ trivial trivial
  refine mI_up ?_ trivial trivial
  refine mI_up ?_ trivial trivial
  refine mI_up ?_ trivial trivial
  refine mI_up ?_ trivial trivial
  refine mI_up ?_ trivial trivial
  refine mI_up ?_ trivial trivial
  refine mI_up ?_ trivial trivial
  refine mI_up ?_ trivial trivial
  refine mI_up ?_ trivial trivial
  refine mI_up ?_ trivial trivial
  refine mI_up ?_ trivial trivial
  refine mI_up ?_ trivial trivial
  refine mI_up ?_ trivial trivial
  exact mI_z

def m0 : fw_V := mf_Mo_init (fun _ _ _ => 0)
theorem m0_z (c i k : Nat) (h : c ≠ 1 ∧ c ≠ 2 ∧ c ≠ 15 ∧ c ≠ 24 ∧ c ≠ 42 ∧ c ≠ 43 ∧ c ≠ 44) : m0 c i k = 0 := by
  obtain ⟨h1, h2, h3, h4, h5, h6, h7⟩ := h
  simp [m0, mf_Mo_init, fw_up, h1, h2, h3, h4, h5, h6, h7]
theorem m0_15 (k : Nat) (h : k < 2) : m0 15 0 k = -1 := by
  rcases (show k = 0 ∨ k = 1 by omega) with rfl | rfl <;> simp [m0, mf_Mo_init, fw_up]
theorem m0_m1 {c k : Nat} (hc : c = 24 ∨ c = 42 ∨ c = 43 ∨ c = 44) (hk : k < 6) : m0 c 0 k = -1 := by
  rcases (show k = 0 ∨ k = 1 ∨ k = 2 ∨ k = 3 ∨ k = 4 ∨ k = 5 by omega) with rfl | rfl | rfl | rfl | rfl | rfl <;> rcases hc with rfl | rfl | rfl | rfl <;> simp [m0, mf_Mo_init, fw_up]
theorem m0_k1 {c k : Nat} (hc : c = 1 ∨ c = 2) (hk : k < 8) : m0 c 0 k = 1 := by
  rcases (show k = 0 ∨ k = 1 ∨ k = 2 ∨ k = 3 ∨ k = 4 ∨ k = 5 ∨ k = 6 ∨ k = 7 by omega) with rfl | rfl | rfl | rfl | rfl | rfl | rfl | rfl <;> rcases hc with rfl | rfl <;> simp [m0, mf_Mo_init, fw_up]
theorem Rl_0 {r : Nat} (hr : r < 2) : Rl r x0 m0 := by
  have z : ∀ c k, c ≠ 1 ∧ c ≠ 2 ∧ c ≠ 15 ∧ c ≠ 24 ∧ c ≠ 42 ∧ c ≠ 43 ∧ c ≠ 44 → m0 c 0 k = 0 := fun c k h => m0_z c 0 k h
  have e12 := z 12 r (by decide)
  refine ⟨?_, ?_, ?_, ?_, ?_, fun q => absurd e12 q, ?_, ?_, ?_, fun q => absurd (e12.symm.trans q) (by decide), fun q => absurd (e12.symm.trans q) (by decide), fun q => absurd (e12.symm.trans q) (by decide), ?_, fun s hs => ?_, fun s hs => ?_, fun s hs => ?_, fun s hs => ?_⟩
  · rcases (show r = 0 ∨ r = 1 by omega) with rfl | rfl <;> rfl
  · rw [z 14 _ (by decide)]; rfl
  · rw [e12]; rfl
  · rw [z 13 _ (by decide)]; rfl
  · rw [m0_15 r hr]; rfl
  · rw [z 17 _ (by decide)]; rfl
  · rw [z 18 _ (by decide)]; rfl
  · rw [z 19 _ (by decide)]; rfl
  · rw [z 23 _ (by decide)]; rfl
  · rw [m0_m1 (by decide) (by omega)]; rfl
  · rw [z 25 _ (by decide)]; rfl
  · rw [z 26 _ (by decide)]; rfl
  · rw [z 27 _ (by decide)]; rfl
theorem Ri_0 {r : Nat} (hr : r < 2) : Ri r m0 := by
  have z : ∀ c k, c ≠ 1 ∧ c ≠ 2 ∧ c ≠ 15 ∧ c ≠ 24 ∧ c ≠ 42 ∧ c ≠ 43 ∧ c ≠ 44 → m0 c 0 k = 0 := fun c k h => m0_z c 0 k h
  have e12 := z 12 r (by decide)
  refine ⟨by rw [e12]; exact fw_inc (by decide), fun _ => ⟨z 13 _ (by decide), m0_15 r hr, z 16 _ (by decide), z 18 _ (by decide), z 19 _ (by decide), fun i hi => z 27 _ (by decide)⟩, fun _ => z 17 _ (by decide), fun q => absurd (e12.symm.trans q) (by decide), fun q => absurd (e12.symm.trans q) (by decide), fun q => absurd e12 q, fun q => absurd (e12.symm.trans q) (by decide), fun q => absurd (e12.symm.trans q) (by decide), fun q => absurd (e12.symm.trans q) (by decide)⟩
theorem Dv_0 {d : Nat} (hd : d < 2) : Dv d x0 m0 := by
  have z : ∀ c k, c ≠ 1 ∧ c ≠ 2 ∧ c ≠ 15 ∧ c ≠ 24 ∧ c ≠ 42 ∧ c ≠ 43 ∧ c ≠ 44 → m0 c 0 k = 0 := fun c k h => m0_z c 0 k h
  have e28 := z 28 d (by decide)
  refine ⟨?_, ?_, ?_, ?_, ?_, ?_, ?_, ?_, fun q => absurd (e28.symm.trans q) (by decide), fun q => absurd (e28.symm.trans q) (by decide), fun q => absurd (e28.symm.trans q) (by decide), ?_, ?_, fun q => absurd (e28.symm.trans q) (by decide), fun q => absurd (e28.symm.trans q) (by decide), fun j hj => ?_, fun j hj => ?_, fun s hs => ?_, fun q => absurd e28 q, fun s hs => ?_, fun i hi => ?_, fun i hi => ?_⟩
  · rcases (show d = 0 ∨ d = 1 by omega) with rfl | rfl <;> rfl
  · rw [z 30 _ (by decide)]; rfl
  · rw [z 40 _ (by decide)]; rfl
  · rw [z 41 _ (by decide)]; rfl
  · rw [e28]; rfl
  · rw [z 29 _ (by decide)]; rfl
  · rw [z 31 _ (by decide)]; rfl
  · rw [z 32 _ (by decide)]; rfl
  · rw [z 37 _ (by decide)]; rfl
  · rw [z 36 _ (by decide)]; rfl
  · rw [z 47 _ (by decide)]; rfl
  · rw [z 48 _ (by decide)]; rfl
  · rw [m0_m1 (by decide) (by omega)]; rfl
  · rw [m0_m1 (by decide) (by omega)]; rfl
  · rw [z 45 _ (by decide)]; rfl
  · rw [z 46 _ (by decide)]; rfl
theorem Di_0 {d : Nat} (hd : d < 2) : Di d x0 m0 := by
  have z : ∀ c k, c ≠ 1 ∧ c ≠ 2 ∧ c ≠ 15 ∧ c ≠ 24 ∧ c ≠ 42 ∧ c ≠ 43 ∧ c ≠ 44 → m0 c 0 k = 0 := fun c k h => m0_z c 0 k h
  have e28 := z 28 d (by decide)
  have n3 : ¬ m0 28 0 d = 3 := fun q => absurd (e28.symm.trans q) (by decide)
  refine ⟨by rw [e28]; exact fw_inc (by decide), fun _ => ⟨z 29 _ (by decide), z 31 _ (by decide), z 32 _ (by decide), fun s hs => m0_m1 (by decide) (by omega)⟩, fun _ => ⟨z 37 _ (by decide), z 36 _ (by decide), rfl⟩, fun q => absurd (e28.symm.trans q) (by decide), fun q => absurd (e28.symm.trans q) (by decide), fun q => absurd q n3, fun q => absurd q n3, fun q => absurd q n3, by rw [z 37 _ (by decide)]; exact fw_inc (by decide), fun q => absurd q n3, fun q => absurd q n3, fun q => absurd q n3, fun s hs => Or.inl (m0_m1 (by decide) (by omega)), by rw [z 40 _ (by decide)]; exact fw_inc (by decide), fun s hs => ?_, fun q => absurd e28 q, fun j hj => ?_⟩
  · rw [m0_m1 (by decide) (by omega)]; exact fw_inc (by decide)
  · rw [z 47 _ (by decide)]; exact fw_inc (by decide)
theorem GB_0 : GB 0 x0 m0 := by
  have z : ∀ c k, c ≠ 1 ∧ c ≠ 2 ∧ c ≠ 15 ∧ c ≠ 24 ∧ c ≠ 42 ∧ c ≠ 43 ∧ c ≠ 44 → m0 c 0 k = 0 := fun c k h => m0_z c 0 k h
  have xn : ∀ j, j < 17 → (x0 6 0 j).toNatClampNeg = j := fun j hj => by
    show (nI (j % 17)).toNatClampNeg = j
    rw [nI_clamp (by omega)]; omega
  refine ⟨Rl_0 (by decide), Ri_0 (by decide), Rl_0 (by decide), Ri_0 (by decide), Dv_0 (by decide), Di_0 (by decide), Dv_0 (by decide), Di_0 (by decide), ⟨?_, fw_inc (by decide), ?_, ?_, fun j hj => ?_, fun j hj => ?_, fun i j hi hj e => ?_⟩, fun t ht => z 9 t (by decide), ⟨0, Nat.le_refl _, rfl, z 0 55 (by decide), fun k _ hk => by omega⟩, ⟨fun k hk => ?_, fun k hk => ?_, fun k hk => ?_⟩, fun k hk => ?_, ?_, ?_, ?_, ?_, ?_⟩
  · rw [z 0 10 (by decide)]; rfl
  · rw [z 0 50 (by decide)]; rfl
  · rw [z 0 51 (by decide)]; rfl
  · exact absurd hj (Nat.not_lt_zero _)
  · rw [xn j hj]; exact hj
  · rw [xn i hi, xn j hj] at e; exact e
  · rw [m0_k1 (by decide) hk]; rfl
  · rw [m0_k1 (by decide) hk]; rfl
  · rw [z 3 k (by decide)]; rfl
  · rw [m0_m1 (by decide) hk]; exact fw_inc (by decide)
  · rw [z 0 54 (by decide)]; rfl
  · rw [z 0 49 (by decide)]; rfl
  · rw [z 0 52 (by decide)]; rfl
  · rw [z 0 53 (by decide)]; rfl
  · rw [z 0 56 (by decide)]; rfl
theorem J_0 : J 0 m0 := by
  have z : ∀ c k, c ≠ 1 ∧ c ≠ 2 ∧ c ≠ 15 ∧ c ≠ 24 ∧ c ≠ 42 ∧ c ≠ 43 ∧ c ≠ 44 → m0 c 0 k = 0 := fun c k h => m0_z c 0 k h
  refine ⟨z 0 54 (by decide), fun r hr o => absurd (z 12 r (by decide)) o, fun r hr r' hr' o => absurd (z 12 r (by decide)) o, ⟨by rw [z 0 10 (by decide)]; exact fw_inc (by decide), fun k hk => ?_⟩, fun k => ⟨by rw [z 21 k (by decide)]; exact fw_inc (by decide), by rw [z 34 k (by decide)]; exact fw_inc (by decide), by rw [z 25 k (by decide)]; exact fw_inc (by decide)⟩, fun q => absurd (z 28 0 (by decide)) q, fun q => absurd (z 28 1 (by decide)) q, fun q => absurd ((z 28 0 (by decide)).symm.trans q) (by decide), fun q => absurd ((z 28 1 (by decide)).symm.trans q) (by decide)⟩
  rw [z 0 10 (by decide)] at hk
  exact absurd hk (Nat.not_lt_zero _)


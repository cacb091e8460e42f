theorem xI_x0 : xI (2 * 0) x0 := by
  refine ⟨fun c i k => ?_, fun i => Or.inl rfl⟩
  unfold xok1
  split
  · show vp_in (1 : Int32) 3
    exact fw_inc (by decide)
  · show vp_in (1 : Int32) 3
    exact fw_inc (by decide)
  · split
    · show vp_in (0 : Int32) 17
      exact fw_inc (by decide)
    · trivial
  · show vp_in (nI (k % 17)) 18
    exact vp_in_nI (by omega) (by decide)
  · split
    · show 0 ≤ (0 : Int32).toInt ∧ (0 : Int32).toInt ≤ ((2 * 0 : Nat) : Int)
      decide
    · trivial
  · split
    · show vp_in (0 : Int32) 3
      exact fw_inc (by decide)
    · trivial
  · split
    · show vp_in (0 : Int32) 5
      exact fw_inc (by decide)
    · trivial
  · trivial
theorem mI_z : mI 0 (fun _ _ _ => 0) := by
  refine ⟨fun c i k => ?_, fun k => Or.inl (show ¬ 0 < (0 : Int32).toInt by decide), fun k h => absurd (show (0 : Int32) = 3 from h) (by decide), fun j hj => ⟨fun h => absurd (show (0 : Int32) = 14 from h) (by decide), fun h => absurd (show (0 : Int32) = 6 from h) (by decide), fun h => absurd (show (0 : Int32) = 3 from h) (by decide)⟩⟩
  unfold mok1
  split
  · split
    · show vp_in (0 : Int32) 17
      exact fw_inc (by decide)
    · trivial
  · show vp_in (0 : Int32) 4
    exact fw_inc (by decide)
  · show vp_in ((0 : Int32) + 1) 9
    exact fw_inc (by decide)
  · show vp_in (0 : Int32) 5
    exact fw_inc (by decide)
  · show vp_in ((0 : Int32) + 1) 9
    exact fw_inc (by decide)
  · show vp_in ((0 : Int32) + 1) 9
    exact fw_inc (by decide)
  · show vp_in (0 : Int32) 3
    exact fw_inc (by decide)
  · trivial
theorem mI_neg : vp_in ((-1 : Int32) + 1) 9 := fw_inc (by decide)
theorem mI_m0 : mI 0 (mf_Mo_init (fun _ _ _ => 0)) := by
  unfold mf_Mo_init
  dsimp only
  refine mI_up ?_ trivial trivial
  refine mI_up ?_ trivial trivial
  refine mI_up ?_ trivial trivial
  refine mI_up ?_ mI_neg trivial
  refine mI_up ?_ mI_neg trivial
  refine mI_up ?_ mI_neg trivial
  refine mI_up ?_ trivial trivial
  refine mI_up ?_ mI_neg trivial
  refine mI_up ?_ mI_neg trivial
  refine mI_up ?_ mI_neg trivial
  refine mI_up ?_ trivial trivial
  refine mI_up ?_ mI_neg trivial
  refine mI_up ?_ mI_neg trivial
  refine mI_up ?_ mI_neg trivial
  refine mI_up ?_ trivial trivial
  refine mI_up ?_ mI_neg trivial
  refine mI_up ?_ mI_neg trivial
  refine mI_up ?_ mI_neg trivial
  refine mI_up ?_ trivial trivial
  refine mI_up ?_ mI_neg trivial
  refine mI_up ?_ mI_neg trivial
  refine mI_up ?_ mI_neg trivial
  refine mI_up ?_ trivial trivial
  refine mI_up ?_ mI_neg trivial
  refine mI_up ?_ mI_neg trivial
  refine mI_up ?_ mI_neg trivial
  refine mI_up ?_ trivial trivial
  refine mI_up ?_ trivial trivial
  refine mI_up ?_ trivial trivial
  refine mI_up ?_ trivial trivial
  refine mI_up ?_ trivial trivial
  refine mI_up ?_ trivial trivial
  refine mI_up ?_ trivial trivial
  refine mI_up ?_ trivial trivial
  refine mI_up ?_ trivial trivial
  refine mI_up ?_ trivial trivial
  refine mI_up ?_ trivial trivial
  refine mI_up ?_ trivial trivial
  refine mI_up ?_ trivial trivial
  refine mI_up ?_ trivial trivial
  refine mI_up ?_ trivial trivial
  refine mI_up ?_ trivial trivial
  exact mI_z


def mcnt : List (Nat × Nat) := [(0, 1), (1, 1), (2, 1), (3, 1), (4, 1), (5, 1), (6, 1), (7, 1), (8, 1), (9, 1), (10, 1), (12, 1), (13, 1), (14, 1), (15, 1), (16, 1), (17, 1), (18, 1), (19, 1), (20, 1), (21, 1), (22, 1), (23, 1), (24, 1), (25, 1), (26, 1), (27, 1), (28, 1), (29, 1), (30, 1), (31, 1), (32, 1), (33, 1), (34, 1), (35, 1), (36, 1), (37, 1), (38, 1), (39, 1), (40, 1), (41, 1), (42, 1), (43, 1), (44, 1), (45, 1), (46, 1), (47, 1), (48, 1), (49, 1)]
def mCL : List (Nat × Nat) := fw_cl mcnt
def mkd : fw_K := fun c _ => match c with
  | 0 => .inr (9, [some (1, 0), some (2, 0), some (3, 0), some (4, 0), some (5, 0), some (6, 0), some (7, 0), some (8, 0), some (9, 0), some (10, 0), none, some (12, 0), some (13, 0), some (14, 0), some (15, 0), some (16, 0), some (17, 0), some (18, 0), some (19, 0), some (20, 0), some (21, 0), some (22, 0), some (23, 0), some (24, 0), some (25, 0), some (26, 0), some (27, 0), some (28, 0), some (29, 0), some (30, 0), some (31, 0), some (32, 0), some (33, 0), some (34, 0), some (35, 0), some (36, 0), some (37, 0), some (38, 0), some (39, 0), some (40, 0), some (41, 0), some (42, 0), some (43, 0), some (44, 0), some (45, 0), some (46, 0), some (47, 0), some (48, 0), some (49, 0), none, none, none, none, none, none, none, none])
  | 1 => .inl (0, 8, none)
  | 2 => .inl (0, 8, none)
  | 3 => .inl (1, 8, none)
  | 4 => .inl (0, 16, none)
  | 5 => .inl (0, 16, none)
  | 6 => .inl (0, 16, none)
  | 7 => .inl (0, 16, none)
  | 8 => .inl (0, 112, none)
  | 9 => .inl (0, 7, none)
  | 10 => .inl (0, 7, none)
  | 12 => .inl (0, 2, none)
  | 13 => .inl (0, 2, none)
  | 14 => .inl (0, 2, none)
  | 15 => .inl (0, 2, none)
  | 16 => .inl (0, 2, none)
  | 17 => .inl (0, 2, none)
  | 18 => .inl (0, 2, none)
  | 19 => .inl (0, 2, none)
  | 20 => .inl (0, 2, none)
  | 21 => .inl (0, 2, none)
  | 22 => .inl (0, 2, none)
  | 23 => .inl (0, 2, none)
  | 24 => .inl (0, 6, none)
  | 25 => .inl (0, 6, none)
  | 26 => .inl (0, 12, none)
  | 27 => .inl (0, 12, none)
  | 28 => .inl (0, 2, none)
  | 29 => .inl (0, 2, none)
  | 30 => .inl (0, 2, none)
  | 31 => .inl (0, 2, none)
  | 32 => .inl (0, 2, none)
  | 33 => .inl (0, 2, none)
  | 34 => .inl (0, 2, none)
  | 35 => .inl (0, 2, none)
  | 36 => .inl (0, 2, none)
  | 37 => .inl (0, 2, none)
  | 38 => .inl (0, 2, none)
  | 39 => .inl (0, 2, none)
  | 40 => .inl (0, 2, none)
  | 41 => .inl (0, 2, none)
  | 42 => .inl (0, 6, none)
  | 43 => .inl (0, 6, none)
  | 44 => .inl (0, 6, none)
  | 45 => .inl (0, 12, none)
  | 46 => .inl (0, 12, none)
  | 47 => .inl (0, 8, none)
  | 48 => .inl (0, 8, none)
  | 49 => .inl (0, 8, none)
  | _ => .inr (0, [])
theorem mk_0 (i : Nat) : mkd 0 i = .inr (9, [some (1, 0), some (2, 0), some (3, 0), some (4, 0), some (5, 0), some (6, 0), some (7, 0), some (8, 0), some (9, 0), some (10, 0), none, some (12, 0), some (13, 0), some (14, 0), some (15, 0), some (16, 0), some (17, 0), some (18, 0), some (19, 0), some (20, 0), some (21, 0), some (22, 0), some (23, 0), some (24, 0), some (25, 0), some (26, 0), some (27, 0), some (28, 0), some (29, 0), some (30, 0), some (31, 0), some (32, 0), some (33, 0), some (34, 0), some (35, 0), some (36, 0), some (37, 0), some (38, 0), some (39, 0), some (40, 0), some (41, 0), some (42, 0), some (43, 0), some (44, 0), some (45, 0), some (46, 0), some (47, 0), some (48, 0), some (49, 0), none, none, none, none, none, none, none, none]) := rfl
theorem mk_1 (i : Nat) : mkd 1 i = .inl (0, 8, none) := rfl
theorem mk_2 (i : Nat) : mkd 2 i = .inl (0, 8, none) := rfl
theorem mk_3 (i : Nat) : mkd 3 i = .inl (1, 8, none) := rfl
theorem mk_4 (i : Nat) : mkd 4 i = .inl (0, 16, none) := rfl
theorem mk_5 (i : Nat) : mkd 5 i = .inl (0, 16, none) := rfl
theorem mk_6 (i : Nat) : mkd 6 i = .inl (0, 16, none) := rfl
theorem mk_7 (i : Nat) : mkd 7 i = .inl (0, 16, none) := rfl
theorem mk_8 (i : Nat) : mkd 8 i = .inl (0, 112, none) := rfl
theorem mk_9 (i : Nat) : mkd 9 i = .inl (0, 7, none) := rfl
theorem mk_10 (i : Nat) : mkd 10 i = .inl (0, 7, none) := rfl
theorem mk_12 (i : Nat) : mkd 12 i = .inl (0, 2, none) := rfl
theorem mk_13 (i : Nat) : mkd 13 i = .inl (0, 2, none) := rfl
theorem mk_14 (i : Nat) : mkd 14 i = .inl (0, 2, none) := rfl
theorem mk_15 (i : Nat) : mkd 15 i = .inl (0, 2, none) := rfl
theorem mk_16 (i : Nat) : mkd 16 i = .inl (0, 2, none) := rfl
theorem mk_17 (i : Nat) : mkd 17 i = .inl (0, 2, none) := rfl
theorem mk_18 (i : Nat) : mkd 18 i = .inl (0, 2, none) := rfl
theorem mk_19 (i : Nat) : mkd 19 i = .inl (0, 2, none) := rfl
theorem mk_20 (i : Nat) : mkd 20 i = .inl (0, 2, none) := rfl
theorem mk_21 (i : Nat) : mkd 21 i = .inl (0, 2, none) := rfl
theorem mk_22 (i : Nat) : mkd 22 i = .inl (0, 2, none) := rfl
theorem mk_23 (i : Nat) : mkd 23 i = .inl (0, 2, none) := rfl
theorem mk_24 (i : Nat) : mkd 24 i = .inl (0, 6, none) := rfl
theorem mk_25 (i : Nat) : mkd 25 i = .inl (0, 6, none) := rfl
theorem mk_26 (i : Nat) : mkd 26 i = .inl (0, 12, none) := rfl
theorem mk_27 (i : Nat) : mkd 27 i = .inl (0, 12, none) := rfl
theorem mk_28 (i : Nat) : mkd 28 i = .inl (0, 2, none) := rfl
theorem mk_29 (i : Nat) : mkd 29 i = .inl (0, 2, none) := rfl
theorem mk_30 (i : Nat) : mkd 30 i = .inl (0, 2, none) := rfl
theorem mk_31 (i : Nat) : mkd 31 i = .inl (0, 2, none) := rfl
theorem mk_32 (i : Nat) : mkd 32 i = .inl (0, 2, none) := rfl
theorem mk_33 (i : Nat) : mkd 33 i = .inl (0, 2, none) := rfl
theorem mk_34 (i : Nat) : mkd 34 i = .inl (0, 2, none) := rfl
theorem mk_35 (i : Nat) : mkd 35 i = .inl (0, 2, none) := rfl
theorem mk_36 (i : Nat) : mkd 36 i = .inl (0, 2, none) := rfl
theorem mk_37 (i : Nat) : mkd 37 i = .inl (0, 2, none) := rfl
theorem mk_38 (i : Nat) : mkd 38 i = .inl (0, 2, none) := rfl
theorem mk_39 (i : Nat) : mkd 39 i = .inl (0, 2, none) := rfl
theorem mk_40 (i : Nat) : mkd 40 i = .inl (0, 2, none) := rfl
theorem mk_41 (i : Nat) : mkd 41 i = .inl (0, 2, none) := rfl
theorem mk_42 (i : Nat) : mkd 42 i = .inl (0, 6, none) := rfl
theorem mk_43 (i : Nat) : mkd 43 i = .inl (0, 6, none) := rfl
theorem mk_44 (i : Nat) : mkd 44 i = .inl (0, 6, none) := rfl
theorem mk_45 (i : Nat) : mkd 45 i = .inl (0, 12, none) := rfl
theorem mk_46 (i : Nat) : mkd 46 i = .inl (0, 12, none) := rfl
theorem mk_47 (i : Nat) : mkd 47 i = .inl (0, 8, none) := rfl
theorem mk_48 (i : Nat) : mkd 48 i = .inl (0, 8, none) := rfl
theorem mk_49 (i : Nat) : mkd 49 i = .inl (0, 8, none) := rfl
theorem mm_0 {i : Nat} (h : i < 1) : (0, i) ∈ mCL := fw_mem (L := mcnt) (n := 1) (by decide) h
theorem mm_1 {i : Nat} (h : i < 1) : (1, i) ∈ mCL := fw_mem (L := mcnt) (n := 1) (by decide) h
theorem mm_2 {i : Nat} (h : i < 1) : (2, i) ∈ mCL := fw_mem (L := mcnt) (n := 1) (by decide) h
theorem mm_3 {i : Nat} (h : i < 1) : (3, i) ∈ mCL := fw_mem (L := mcnt) (n := 1) (by decide) h
theorem mm_4 {i : Nat} (h : i < 1) : (4, i) ∈ mCL := fw_mem (L := mcnt) (n := 1) (by decide) h
theorem mm_5 {i : Nat} (h : i < 1) : (5, i) ∈ mCL := fw_mem (L := mcnt) (n := 1) (by decide) h
theorem mm_6 {i : Nat} (h : i < 1) : (6, i) ∈ mCL := fw_mem (L := mcnt) (n := 1) (by decide) h
theorem mm_7 {i : Nat} (h : i < 1) : (7, i) ∈ mCL := fw_mem (L := mcnt) (n := 1) (by decide) h
theorem mm_8 {i : Nat} (h : i < 1) : (8, i) ∈ mCL := fw_mem (L := mcnt) (n := 1) (by decide) h
theorem mm_9 {i : Nat} (h : i < 1) : (9, i) ∈ mCL := fw_mem (L := mcnt) (n := 1) (by decide) h
theorem mm_10 {i : Nat} (h : i < 1) : (10, i) ∈ mCL := fw_mem (L := mcnt) (n := 1) (by decide) h
theorem mm_12 {i : Nat} (h : i < 1) : (12, i) ∈ mCL := fw_mem (L := mcnt) (n := 1) (by decide) h
theorem mm_13 {i : Nat} (h : i < 1) : (13, i) ∈ mCL := fw_mem (L := mcnt) (n := 1) (by decide) h
theorem mm_14 {i : Nat} (h : i < 1) : (14, i) ∈ mCL := fw_mem (L := mcnt) (n := 1) (by decide) h
theorem mm_15 {i : Nat} (h : i < 1) : (15, i) ∈ mCL := fw_mem (L := mcnt) (n := 1) (by decide) h
theorem mm_16 {i : Nat} (h : i < 1) : (16, i) ∈ mCL := fw_mem (L := mcnt) (n := 1) (by decide) h
theorem mm_17 {i : Nat} (h : i < 1) : (17, i) ∈ mCL := fw_mem (L := mcnt) (n := 1) (by decide) h
theorem mm_18 {i : Nat} (h : i < 1) : (18, i) ∈ mCL := fw_mem (L := mcnt) (n := 1) (by decide) h
theorem mm_19 {i : Nat} (h : i < 1) : (19, i) ∈ mCL := fw_mem (L := mcnt) (n := 1) (by decide) h
theorem mm_20 {i : Nat} (h : i < 1) : (20, i) ∈ mCL := fw_mem (L := mcnt) (n := 1) (by decide) h
theorem mm_21 {i : Nat} (h : i < 1) : (21, i) ∈ mCL := fw_mem (L := mcnt) (n := 1) (by decide) h
theorem mm_22 {i : Nat} (h : i < 1) : (22, i) ∈ mCL := fw_mem (L := mcnt) (n := 1) (by decide) h
theorem mm_23 {i : Nat} (h : i < 1) : (23, i) ∈ mCL := fw_mem (L := mcnt) (n := 1) (by decide) h
theorem mm_24 {i : Nat} (h : i < 1) : (24, i) ∈ mCL := fw_mem (L := mcnt) (n := 1) (by decide) h
theorem mm_25 {i : Nat} (h : i < 1) : (25, i) ∈ mCL := fw_mem (L := mcnt) (n := 1) (by decide) h
theorem mm_26 {i : Nat} (h : i < 1) : (26, i) ∈ mCL := fw_mem (L := mcnt) (n := 1) (by decide) h
theorem mm_27 {i : Nat} (h : i < 1) : (27, i) ∈ mCL := fw_mem (L := mcnt) (n := 1) (by decide) h
theorem mm_28 {i : Nat} (h : i < 1) : (28, i) ∈ mCL := fw_mem (L := mcnt) (n := 1) (by decide) h
theorem mm_29 {i : Nat} (h : i < 1) : (29, i) ∈ mCL := fw_mem (L := mcnt) (n := 1) (by decide) h
theorem mm_30 {i : Nat} (h : i < 1) : (30, i) ∈ mCL := fw_mem (L := mcnt) (n := 1) (by decide) h
theorem mm_31 {i : Nat} (h : i < 1) : (31, i) ∈ mCL := fw_mem (L := mcnt) (n := 1) (by decide) h
theorem mm_32 {i : Nat} (h : i < 1) : (32, i) ∈ mCL := fw_mem (L := mcnt) (n := 1) (by decide) h
theorem mm_33 {i : Nat} (h : i < 1) : (33, i) ∈ mCL := fw_mem (L := mcnt) (n := 1) (by decide) h
theorem mm_34 {i : Nat} (h : i < 1) : (34, i) ∈ mCL := fw_mem (L := mcnt) (n := 1) (by decide) h
theorem mm_35 {i : Nat} (h : i < 1) : (35, i) ∈ mCL := fw_mem (L := mcnt) (n := 1) (by decide) h
theorem mm_36 {i : Nat} (h : i < 1) : (36, i) ∈ mCL := fw_mem (L := mcnt) (n := 1) (by decide) h
theorem mm_37 {i : Nat} (h : i < 1) : (37, i) ∈ mCL := fw_mem (L := mcnt) (n := 1) (by decide) h
theorem mm_38 {i : Nat} (h : i < 1) : (38, i) ∈ mCL := fw_mem (L := mcnt) (n := 1) (by decide) h
theorem mm_39 {i : Nat} (h : i < 1) : (39, i) ∈ mCL := fw_mem (L := mcnt) (n := 1) (by decide) h
theorem mm_40 {i : Nat} (h : i < 1) : (40, i) ∈ mCL := fw_mem (L := mcnt) (n := 1) (by decide) h
theorem mm_41 {i : Nat} (h : i < 1) : (41, i) ∈ mCL := fw_mem (L := mcnt) (n := 1) (by decide) h
theorem mm_42 {i : Nat} (h : i < 1) : (42, i) ∈ mCL := fw_mem (L := mcnt) (n := 1) (by decide) h
theorem mm_43 {i : Nat} (h : i < 1) : (43, i) ∈ mCL := fw_mem (L := mcnt) (n := 1) (by decide) h
theorem mm_44 {i : Nat} (h : i < 1) : (44, i) ∈ mCL := fw_mem (L := mcnt) (n := 1) (by decide) h
theorem mm_45 {i : Nat} (h : i < 1) : (45, i) ∈ mCL := fw_mem (L := mcnt) (n := 1) (by decide) h
theorem mm_46 {i : Nat} (h : i < 1) : (46, i) ∈ mCL := fw_mem (L := mcnt) (n := 1) (by decide) h
theorem mm_47 {i : Nat} (h : i < 1) : (47, i) ∈ mCL := fw_mem (L := mcnt) (n := 1) (by decide) h
theorem mm_48 {i : Nat} (h : i < 1) : (48, i) ∈ mCL := fw_mem (L := mcnt) (n := 1) (by decide) h
theorem mm_49 {i : Nat} (h : i < 1) : (49, i) ∈ mCL := fw_mem (L := mcnt) (n := 1) (by decide) h
theorem mCL_nd : mCL.Nodup := by decide +kernel
theorem fw_inadd2 {x y : Int32} {n m t : Nat} (hx : vp_in x n) (hy : vp_in y m) (h : n + m = t + 1 ∧ n + m < 2147483648) : vp_in (x + y) t := by
  obtain ⟨i, hi, ei⟩ := vp_in_of hx (by omega)
  obtain ⟨j, hj, ej⟩ := vp_in_of hy (by omega)
  rw [ei, ej, nI_add]
  exact vp_in_nI (by omega) (by omega)
/-- what each int of the reference's cells keeps to -/
def mok1 (c k : Nat) (x : Int32) : Prop := match c with
  | 0 => (match k with
    | 10 => vp_in x 17
    | _ => True)
  | 20 => vp_in x 4
  | 24 => vp_in (x + 1) 9
  | 37 => vp_in x 5
  | 42 => vp_in (x + 1) 9
  | 43 => vp_in (x + 1) 9
  | 47 => vp_in x 3
  | _ => True
def mok2 (v : fw_V) (c k : Nat) (x : Int32) : Prop := match c with
  | 4 => False
  | 6 => False
  | 8 => False
  | 12 => x = 3 → vp_in (v 20 0 k) 3
  | 20 => v 12 0 k = 3 → vp_in x 3
  | 36 => ¬ 0 < x.toInt ∨ 0 < (v 37 0 k).toInt
  | 37 => ¬ 0 < (v 36 0 k).toInt ∨ 0 < x.toInt
  | _ => True
/-- a frame on the wire keeps to its type -/
def mFr (v : fw_V) (j : Nat) : Prop := (v 4 0 j = 14 → vp_in (v 8 0 (7 * j)) 3) ∧ (v 4 0 j = 6 → vp_in (v 6 0 j) 3) ∧ (v 4 0 j = 3 → vp_in (v 8 0 (7 * j)) 9 ∧ vp_in (v 8 0 (7 * j + 1)) 9 ∧ vp_in (v 8 0 (7 * j + 2)) 9)
theorem mFr_up {v : fw_V} {c i k j : Nat} {x : Int32} (h : mFr v j) (h4 : c ≠ 4) (h6 : c ≠ 6) (h8 : c ≠ 8) : mFr (fw_up v c i k x) j := by
  unfold mFr
  rw [fw_up_c (Ne.symm h4), fw_up_c (Ne.symm h6), fw_up_c (Ne.symm h8), fw_up_c (Ne.symm h8), fw_up_c (Ne.symm h8)]
  exact h
def mok20 (v : fw_V) (c k : Nat) (x : Int32) : Prop := match c with
  | 12 => x = 3 → vp_in (v 20 0 k) 3
  | 20 => v 12 0 k = 3 → vp_in x 3
  | 36 => ¬ 0 < x.toInt ∨ 0 < (v 37 0 k).toInt
  | 37 => ¬ 0 < (v 36 0 k).toInt ∨ 0 < x.toInt
  | _ => True
def mI0 (_ : Nat) (v : fw_V) : Prop := (∀ c i k, mok1 c k (v c i k)) ∧ (∀ k, ¬ 0 < (v 36 0 k).toInt ∨ 0 < (v 37 0 k).toInt) ∧ ∀ k, v 12 0 k = 3 → vp_in (v 20 0 k) 3
theorem mI0_up {b : Nat} {v : fw_V} {c k : Nat} {x : Int32} (h : mI0 b v) (ok1 : mok1 c k x) (ok2 : mok20 v c k x) : mI0 b (fw_up v c 0 k x) := by
  refine ⟨fun c' i' k' => ?_, fun k' => ?_, fun k' => ?_⟩
  · by_cases hh : c' = c ∧ i' = 0 ∧ k' = k
    · obtain ⟨rfl, rfl, rfl⟩ := hh
      rw [fw_up_s]; exact ok1
    · rw [fw_up_ne hh]; exact h.1 c' i' k'
  · by_cases h2 : 36 = c ∧ 0 = 0 ∧ k' = k
    · obtain ⟨rfl, -, rfl⟩ := h2
      rw [fw_up_s, fw_up_c (by decide)]; exact ok2
    · rw [fw_up_ne h2]
      by_cases h3 : 37 = c ∧ 0 = 0 ∧ k' = k
      · obtain ⟨rfl, -, rfl⟩ := h3
        rw [fw_up_s]; exact ok2
      · rw [fw_up_ne h3]; exact h.2.1 k'
  · by_cases h2 : 12 = c ∧ 0 = 0 ∧ k' = k
    · obtain ⟨rfl, -, rfl⟩ := h2
      rw [fw_up_s, fw_up_c (by decide)]; exact ok2
    · rw [fw_up_ne h2]
      by_cases h3 : 20 = c ∧ 0 = 0 ∧ k' = k
      · obtain ⟨rfl, -, rfl⟩ := h3
        rw [fw_up_s]; exact ok2
      · rw [fw_up_ne h3]; exact h.2.2 k'
def mI (b : Nat) (v : fw_V) : Prop := (∀ c i k, mok1 c k (v c i k)) ∧ (∀ k, ¬ 0 < (v 36 0 k).toInt ∨ 0 < (v 37 0 k).toInt) ∧ (∀ k, v 12 0 k = 3 → vp_in (v 20 0 k) 3) ∧ ∀ j, j < 16 → mFr v j
theorem mI.to0 {b : Nat} {v : fw_V} (h : mI b v) : mI0 b v := ⟨h.1, h.2.1, h.2.2.1⟩
theorem mI0.to {b : Nat} {v : fw_V} (h : mI0 b v) (hF : ∀ j, j < 16 → mFr v j) : mI b v := ⟨h.1, h.2.1, h.2.2, hF⟩
theorem mok2_0 {v : fw_V} {c k : Nat} {x : Int32} (h : mok2 v c k x) : mok20 v c k x ∧ c ≠ 4 ∧ c ≠ 6 ∧ c ≠ 8 := by
  by_cases h4 : c = 4
  · subst h4; exact absurd h id
  · by_cases h6 : c = 6
    · subst h6; exact absurd h id
    · by_cases h8 : c = 8
      · subst h8; exact absurd h id
      · refine ⟨?_, h4, h6, h8⟩
        by_cases h12 : c = 12
        · subst h12; exact h
        · by_cases h20 : c = 20
          · subst h20; exact h
          · by_cases h36 : c = 36
            · subst h36; exact h
            · by_cases h37 : c = 37
              · subst h37; exact h
              · unfold mok20
                split
                · exact absurd rfl h12
                · exact absurd rfl h20
                · exact absurd rfl h36
                · exact absurd rfl h37
                · exact trivial
theorem mI_up {b : Nat} {v : fw_V} {c k : Nat} {x : Int32} (h : mI b v) (ok1 : mok1 c k x) (ok2 : mok2 v c k x) : mI b (fw_up v c 0 k x) := by
  obtain ⟨o2, h4, h6, h8⟩ := mok2_0 ok2
  exact (mI0_up h.to0 ok1 o2).to (fun j hj => mFr_up (h.2.2.2 j hj) h4 h6 h8)
theorem mI0_clear {b : Nat} {v : fw_V} {k : Nat} (h : mI0 b v) : mI0 b (fw_up (fw_up v 37 0 k 0) 36 0 k 0) := by
  refine ⟨fun c' i' k' => ?_, fun k' => ?_, fun k' => ?_⟩
  · by_cases h3 : c' = 36 ∧ i' = 0 ∧ k' = k
    · obtain ⟨rfl, rfl, rfl⟩ := h3
      exact trivial
    · rw [fw_up_ne h3]
      by_cases h2 : c' = 37 ∧ i' = 0 ∧ k' = k
      · obtain ⟨rfl, rfl, rfl⟩ := h2
        rw [fw_up_s]
        exact fw_inc (by decide)
      · rw [fw_up_ne h2]; exact h.1 c' i' k'
  · by_cases hk : k' = k
    · subst hk
      rw [fw_up_s]; exact Or.inl (by decide)
    · rw [fw_up_k hk, fw_up_k hk, fw_up_k hk, fw_up_k hk]; exact h.2.1 k'
  · rw [fw_up_c (by decide), fw_up_c (by decide), fw_up_c (by decide), fw_up_c (by decide)]; exact h.2.2 k'
theorem mI_clear {b : Nat} {v : fw_V} {k : Nat} (h : mI b v) : mI b (fw_up (fw_up v 37 0 k 0) 36 0 k 0) := (mI0_clear h.to0).to (fun j hj => mFr_up (mFr_up (h.2.2.2 j hj) (by decide) (by decide) (by decide)) (by decide) (by decide) (by decide))
theorem mx7 {a : Int32} (h : vp_in a 16) {i : Nat} (hi : i < 7) : (((7 : Int32) * a) + nI i).toNatClampNeg = 7 * a.toNatClampNeg + i := by
  obtain ⟨j, hj, ej⟩ := vp_in_of h (by decide)
  rw [ej]
  show ((nI 7 * nI j) + nI i).toNatClampNeg = 7 * (nI j).toNatClampNeg + i
  rw [pk_mul, nI_add, nI_clamp (by omega), nI_clamp (by omega)]
theorem mF_14 {b : Nat} {v : fw_V} {a : Int32} (h : mI b v) (ha : vp_in a 16) (q : v 4 0 a.toNatClampNeg = 14) : vp_in (v 8 0 (((7 : Int32) * a) + (0 : Int32)).toNatClampNeg) 3 := by
  have e : (((7 : Int32) * a) + (0 : Int32)).toNatClampNeg = 7 * a.toNatClampNeg + 0 := mx7 ha (i := 0) (by decide)
  rw [e]
  exact (h.2.2.2 _ (fw_inlt ha)).1 q
theorem mF_6 {b : Nat} {v : fw_V} {a : Int32} (h : mI b v) (ha : vp_in a 16) (q : v 4 0 a.toNatClampNeg = 6) : vp_in (v 6 0 a.toNatClampNeg) 3 := (h.2.2.2 _ (fw_inlt ha)).2.1 q
theorem mF_3 {b : Nat} {v : fw_V} {a : Int32} (h : mI b v) (ha : vp_in a 16) (q : v 4 0 a.toNatClampNeg = 3) : vp_in (v 8 0 (((7 : Int32) * a) + (0 : Int32)).toNatClampNeg) 9 ∧ vp_in (v 8 0 (((7 : Int32) * a) + (1 : Int32)).toNatClampNeg) 9 ∧ vp_in (v 8 0 (((7 : Int32) * a) + (2 : Int32)).toNatClampNeg) 9 := by
  have e0 : (((7 : Int32) * a) + (0 : Int32)).toNatClampNeg = 7 * a.toNatClampNeg + 0 := mx7 ha (i := 0) (by decide)
  have e1 : (((7 : Int32) * a) + (1 : Int32)).toNatClampNeg = 7 * a.toNatClampNeg + 1 := mx7 ha (i := 1) (by decide)
  have e2 : (((7 : Int32) * a) + (2 : Int32)).toNatClampNeg = 7 * a.toNatClampNeg + 2 := mx7 ha (i := 2) (by decide)
  rw [e0, e1, e2]
  exact (h.2.2.2 _ (fw_inlt ha)).2.2 q

theorem L_Mo_7 : (Jvm.Cond.fieldLink "FieldRelayModel" (7 : Nat) "FieldRelayModel" "ins" "[I") ∈ vTB := vTB_in 763 (by decide +kernel) rfl
theorem L_Mo_13 : (Jvm.Cond.fieldLink "FieldRelayModel" (13 : Nat) "FieldRelayModel" "outs" "[I") ∈ vTB := vTB_in 764 (by decide +kernel) rfl
theorem L_Mo_16 : (Jvm.Cond.fieldLink "FieldRelayModel" (16 : Nat) "FieldRelayModel" "needs" "[Z") ∈ vTB := vTB_in 765 (by decide +kernel) rfl
theorem L_Mo_20 : (Jvm.Cond.fieldLink "FieldRelayModel" (20 : Nat) "FieldRelayModel" "type" "[I") ∈ vTB := vTB_in 766 (by decide +kernel) rfl
theorem L_Mo_23 : (Jvm.Cond.fieldLink "FieldRelayModel" (23 : Nat) "FieldRelayModel" "session" "[I") ∈ vTB := vTB_in 767 (by decide +kernel) rfl
theorem L_Mo_26 : (Jvm.Cond.fieldLink "FieldRelayModel" (26 : Nat) "FieldRelayModel" "number" "[I") ∈ vTB := vTB_in 768 (by decide +kernel) rfl
theorem L_Mo_29 : (Jvm.Cond.fieldLink "FieldRelayModel" (29 : Nat) "FieldRelayModel" "goal" "[I") ∈ vTB := vTB_in 769 (by decide +kernel) rfl
theorem L_Mo_32 : (Jvm.Cond.fieldLink "FieldRelayModel" (32 : Nat) "FieldRelayModel" "row" "[I") ∈ vTB := vTB_in 770 (by decide +kernel) rfl
theorem L_Mo_35 : (Jvm.Cond.fieldLink "FieldRelayModel" (35 : Nat) "FieldRelayModel" "at" "[I") ∈ vTB := vTB_in 771 (by decide +kernel) rfl
theorem L_Mo_38 : (Jvm.Cond.fieldLink "FieldRelayModel" (38 : Nat) "FieldRelayModel" "came" "[I") ∈ vTB := vTB_in 772 (by decide +kernel) rfl
theorem L_Mo_41 : (Jvm.Cond.fieldLink "FieldRelayModel" (41 : Nat) "FieldRelayModel" "rState" "[I") ∈ vTB := vTB_in 774 (by decide +kernel) rfl
theorem L_Mo_44 : (Jvm.Cond.fieldLink "FieldRelayModel" (44 : Nat) "FieldRelayModel" "rSession" "[I") ∈ vTB := vTB_in 775 (by decide +kernel) rfl
theorem L_Mo_47 : (Jvm.Cond.fieldLink "FieldRelayModel" (47 : Nat) "FieldRelayModel" "rName" "[I") ∈ vTB := vTB_in 776 (by decide +kernel) rfl
theorem L_Mo_50 : (Jvm.Cond.fieldLink "FieldRelayModel" (50 : Nat) "FieldRelayModel" "rDevice" "[I") ∈ vTB := vTB_in 777 (by decide +kernel) rfl
theorem L_Mo_53 : (Jvm.Cond.fieldLink "FieldRelayModel" (53 : Nat) "FieldRelayModel" "rDiffer" "[I") ∈ vTB := vTB_in 778 (by decide +kernel) rfl
theorem L_Mo_56 : (Jvm.Cond.fieldLink "FieldRelayModel" (56 : Nat) "FieldRelayModel" "rGood" "[I") ∈ vTB := vTB_in 779 (by decide +kernel) rfl
theorem L_Mo_59 : (Jvm.Cond.fieldLink "FieldRelayModel" (59 : Nat) "FieldRelayModel" "rTicks" "[I") ∈ vTB := vTB_in 780 (by decide +kernel) rfl
theorem L_Mo_62 : (Jvm.Cond.fieldLink "FieldRelayModel" (62 : Nat) "FieldRelayModel" "rAgain" "[I") ∈ vTB := vTB_in 781 (by decide +kernel) rfl
theorem L_Mo_65 : (Jvm.Cond.fieldLink "FieldRelayModel" (65 : Nat) "FieldRelayModel" "rSlot" "[I") ∈ vTB := vTB_in 782 (by decide +kernel) rfl
theorem L_Mo_68 : (Jvm.Cond.fieldLink "FieldRelayModel" (68 : Nat) "FieldRelayModel" "rCount" "[I") ∈ vTB := vTB_in 783 (by decide +kernel) rfl
theorem L_Mo_71 : (Jvm.Cond.fieldLink "FieldRelayModel" (71 : Nat) "FieldRelayModel" "rLast" "[I") ∈ vTB := vTB_in 784 (by decide +kernel) rfl
theorem L_Mo_74 : (Jvm.Cond.fieldLink "FieldRelayModel" (74 : Nat) "FieldRelayModel" "rTold" "[I") ∈ vTB := vTB_in 785 (by decide +kernel) rfl
theorem L_Mo_77 : (Jvm.Cond.fieldLink "FieldRelayModel" (77 : Nat) "FieldRelayModel" "expected" "[I") ∈ vTB := vTB_in 786 (by decide +kernel) rfl
theorem L_Mo_80 : (Jvm.Cond.fieldLink "FieldRelayModel" (80 : Nat) "FieldRelayModel" "given" "[I") ∈ vTB := vTB_in 787 (by decide +kernel) rfl
theorem L_Mo_83 : (Jvm.Cond.fieldLink "FieldRelayModel" (83 : Nat) "FieldRelayModel" "gives" "[I") ∈ vTB := vTB_in 788 (by decide +kernel) rfl
theorem L_Mo_86 : (Jvm.Cond.fieldLink "FieldRelayModel" (86 : Nat) "FieldRelayModel" "got" "[I") ∈ vTB := vTB_in 789 (by decide +kernel) rfl
theorem L_Mo_89 : (Jvm.Cond.fieldLink "FieldRelayModel" (89 : Nat) "FieldRelayModel" "dState" "[I") ∈ vTB := vTB_in 790 (by decide +kernel) rfl
theorem L_Mo_92 : (Jvm.Cond.fieldLink "FieldRelayModel" (92 : Nat) "FieldRelayModel" "dSession" "[I") ∈ vTB := vTB_in 791 (by decide +kernel) rfl
theorem L_Mo_95 : (Jvm.Cond.fieldLink "FieldRelayModel" (95 : Nat) "FieldRelayModel" "dName" "[I") ∈ vTB := vTB_in 792 (by decide +kernel) rfl
theorem L_Mo_98 : (Jvm.Cond.fieldLink "FieldRelayModel" (98 : Nat) "FieldRelayModel" "dDiffer" "[I") ∈ vTB := vTB_in 793 (by decide +kernel) rfl
theorem L_Mo_101 : (Jvm.Cond.fieldLink "FieldRelayModel" (101 : Nat) "FieldRelayModel" "dTicks" "[I") ∈ vTB := vTB_in 794 (by decide +kernel) rfl
theorem L_Mo_104 : (Jvm.Cond.fieldLink "FieldRelayModel" (104 : Nat) "FieldRelayModel" "dAgain" "[I") ∈ vTB := vTB_in 795 (by decide +kernel) rfl
theorem L_Mo_107 : (Jvm.Cond.fieldLink "FieldRelayModel" (107 : Nat) "FieldRelayModel" "dCount" "[I") ∈ vTB := vTB_in 796 (by decide +kernel) rfl
theorem L_Mo_110 : (Jvm.Cond.fieldLink "FieldRelayModel" (110 : Nat) "FieldRelayModel" "dLast" "[I") ∈ vTB := vTB_in 797 (by decide +kernel) rfl
theorem L_Mo_113 : (Jvm.Cond.fieldLink "FieldRelayModel" (113 : Nat) "FieldRelayModel" "dWay" "[I") ∈ vTB := vTB_in 798 (by decide +kernel) rfl
theorem L_Mo_116 : (Jvm.Cond.fieldLink "FieldRelayModel" (116 : Nat) "FieldRelayModel" "dAlarms" "[I") ∈ vTB := vTB_in 799 (by decide +kernel) rfl
theorem L_Mo_119 : (Jvm.Cond.fieldLink "FieldRelayModel" (119 : Nat) "FieldRelayModel" "dAlarmTicks" "[I") ∈ vTB := vTB_in 800 (by decide +kernel) rfl
theorem L_Mo_122 : (Jvm.Cond.fieldLink "FieldRelayModel" (122 : Nat) "FieldRelayModel" "dNumber" "[I") ∈ vTB := vTB_in 801 (by decide +kernel) rfl
theorem L_Mo_125 : (Jvm.Cond.fieldLink "FieldRelayModel" (125 : Nat) "FieldRelayModel" "substitute" "[I") ∈ vTB := vTB_in 802 (by decide +kernel) rfl
theorem L_Mo_128 : (Jvm.Cond.fieldLink "FieldRelayModel" (128 : Nat) "FieldRelayModel" "octet" "[I") ∈ vTB := vTB_in 803 (by decide +kernel) rfl
theorem L_Mo_131 : (Jvm.Cond.fieldLink "FieldRelayModel" (131 : Nat) "FieldRelayModel" "module" "[I") ∈ vTB := vTB_in 804 (by decide +kernel) rfl
theorem L_Mo_134 : (Jvm.Cond.fieldLink "FieldRelayModel" (134 : Nat) "FieldRelayModel" "wanted" "[I") ∈ vTB := vTB_in 805 (by decide +kernel) rfl
theorem L_Mo_137 : (Jvm.Cond.fieldLink "FieldRelayModel" (137 : Nat) "FieldRelayModel" "written" "[I") ∈ vTB := vTB_in 806 (by decide +kernel) rfl
theorem L_Mo_140 : (Jvm.Cond.fieldLink "FieldRelayModel" (140 : Nat) "FieldRelayModel" "senses" "[I") ∈ vTB := vTB_in 807 (by decide +kernel) rfl
theorem L_Mo_143 : (Jvm.Cond.fieldLink "FieldRelayModel" (143 : Nat) "FieldRelayModel" "shows" "[I") ∈ vTB := vTB_in 808 (by decide +kernel) rfl
theorem L_Mo_146 : (Jvm.Cond.fieldLink "FieldRelayModel" (146 : Nat) "FieldRelayModel" "aSlot" "[I") ∈ vTB := vTB_in 809 (by decide +kernel) rfl
theorem L_Mo_149 : (Jvm.Cond.fieldLink "FieldRelayModel" (149 : Nat) "FieldRelayModel" "aKind" "[I") ∈ vTB := vTB_in 810 (by decide +kernel) rfl
theorem L_Mo_152 : (Jvm.Cond.fieldLink "FieldRelayModel" (152 : Nat) "FieldRelayModel" "told" "[I") ∈ vTB := vTB_in 811 (by decide +kernel) rfl
theorem L_Mo_155 : (Jvm.Cond.methodLink "FieldRelayModel" (155 : Nat) ({ cls := "FieldRelayModel", name := "is", desc := "(III)Z" } : Jvm.MethodName)) ∈ vTB := vTB_in 939 (by decide +kernel) rfl
theorem L_Mo_159 : (Jvm.Cond.methodLink "FieldRelayModel" (159 : Nat) ({ cls := "FieldRelayModel", name := "replace", desc := "(II)V" } : Jvm.MethodName)) ∈ vTB := vTB_in 970 (by decide +kernel) rfl
theorem L_Mo_163 : (Jvm.Cond.methodLink "FieldRelayModel" (163 : Nat) ({ cls := "FieldRelayModel", name := "mark", desc := "(II)V" } : Jvm.MethodName)) ∈ vTB := vTB_in 974 (by decide +kernel) rfl
theorem L_Mo_166 : (Jvm.Cond.fieldLink "FieldRelayModel" (166 : Nat) "FieldRelayModel" "sent" "I") ∈ vTB := vTB_in 813 (by decide +kernel) rfl
theorem L_Mo_170 : (Jvm.Cond.fieldLink "FieldRelayModel" (170 : Nat) "FieldRelayModel" "wire" "I") ∈ vTB := vTB_in 773 (by decide +kernel) rfl
theorem L_Mo_173 : (Jvm.Cond.fieldLink "FieldRelayModel" (173 : Nat) "FieldRelayModel" "lost" "I") ∈ vTB := vTB_in 814 (by decide +kernel) rfl
theorem L_Mo_176 : (Jvm.Cond.methodLink "FieldRelayModel" (176 : Nat) ({ cls := "FieldRelayModel", name := "clear", desc := "()V" } : Jvm.MethodName)) ∈ vTB := vTB_in 1014 (by decide +kernel) rfl
theorem L_Mo_179 : (Jvm.Cond.methodLink "FieldRelayModel" (179 : Nat) ({ cls := "FieldRelayModel", name := "move", desc := "(II)V" } : Jvm.MethodName)) ∈ vTB := vTB_in 986 (by decide +kernel) rfl
theorem L_Mo_182 : (Jvm.Cond.methodLink "FieldRelayModel" (182 : Nat) ({ cls := "FieldRelayModel", name := "remove", desc := "(I)V" } : Jvm.MethodName)) ∈ vTB := vTB_in 982 (by decide +kernel) rfl
theorem L_Mo_186 : (Jvm.Cond.fieldLink "FieldRelayModel" (186 : Nat) "FieldRelayModel" "delivered" "I") ∈ vTB := vTB_in 815 (by decide +kernel) rfl
theorem L_Mo_189 : (Jvm.Cond.methodLink "FieldRelayModel" (189 : Nat) ({ cls := "FieldRelayModel", name := "controller", desc := "(III)V" } : Jvm.MethodName)) ∈ vTB := vTB_in 998 (by decide +kernel) rfl
theorem L_Mo_193 : (Jvm.Cond.methodLink "FieldRelayModel" (193 : Nat) ({ cls := "FieldRelayModel", name := "arrives", desc := "(IIII)V" } : Jvm.MethodName)) ∈ vTB := vTB_in 1037 (by decide +kernel) rfl
theorem L_Mo_197 : (Jvm.Cond.methodLink "FieldRelayModel" (197 : Nat) ({ cls := "FieldRelayModel", name := "send", desc := "(IIII)V" } : Jvm.MethodName)) ∈ vTB := vTB_in 1010 (by decide +kernel) rfl
theorem L_Mo_200 : (Jvm.Cond.methodLink "FieldRelayModel" (200 : Nat) ({ cls := "FieldRelayModel", name := "enter", desc := "(II)V" } : Jvm.MethodName)) ∈ vTB := vTB_in 1002 (by decide +kernel) rfl
theorem L_Mo_203 : (Jvm.Cond.methodLink "FieldRelayModel" (203 : Nat) ({ cls := "FieldRelayModel", name := "shut", desc := "(I)V" } : Jvm.MethodName)) ∈ vTB := vTB_in 1026 (by decide +kernel) rfl
theorem L_Mo_206 : (Jvm.Cond.fieldLink "FieldRelayModel" (206 : Nat) "FieldRelayModel" "latest" "I") ∈ vTB := vTB_in 817 (by decide +kernel) rfl
theorem L_Mo_209 : (Jvm.Cond.constant "FieldRelayModel" (209 : Nat) (65535 : Int32)) ∈ vTB := vTB_in 1073 (by decide +kernel) rfl
theorem L_Mo_210 : (Jvm.Cond.fieldLink "FieldRelayModel" (210 : Nat) "FieldRelayModel" "sessions" "I") ∈ vTB := vTB_in 816 (by decide +kernel) rfl
theorem L_Mo_213 : (Jvm.Cond.methodLink "FieldRelayModel" (213 : Nat) ({ cls := "FieldRelayModel", name := "ask", desc := "(I)V" } : Jvm.MethodName)) ∈ vTB := vTB_in 1006 (by decide +kernel) rfl
theorem L_Mo_216 : (Jvm.Cond.methodLink "FieldRelayModel" (216 : Nat) ({ cls := "FieldRelayModel", name := "breakOff", desc := "(I)V" } : Jvm.MethodName)) ∈ vTB := vTB_in 1078 (by decide +kernel) rfl
theorem L_Mo_219 : (Jvm.Cond.methodLink "FieldRelayModel" (219 : Nat) ({ cls := "FieldRelayModel", name := "hears", desc := "(III)V" } : Jvm.MethodName)) ∈ vTB := vTB_in 1018 (by decide +kernel) rfl
theorem L_Mo_222 : (Jvm.Cond.methodLink "FieldRelayModel" (222 : Nat) ({ cls := "FieldRelayModel", name := "write", desc := "(II)V" } : Jvm.MethodName)) ∈ vTB := vTB_in 1022 (by decide +kernel) rfl
theorem L_Mo_225 : (Jvm.Cond.methodLink "FieldRelayModel" (225 : Nat) ({ cls := "FieldRelayModel", name := "isNewer", desc := "(II)Z" } : Jvm.MethodName)) ∈ vTB := vTB_in 1030 (by decide +kernel) rfl
theorem L_Mo_229 : (Jvm.Cond.methodLink "FieldRelayModel" (229 : Nat) ({ cls := "FieldRelayModel", name := "tell", desc := "(II)V" } : Jvm.MethodName)) ∈ vTB := vTB_in 1033 (by decide +kernel) rfl
theorem L_Mo_232 : (Jvm.Cond.fieldLink "FieldRelayModel" (232 : Nat) "FieldRelayModel" "tellings" "I") ∈ vTB := vTB_in 818 (by decide +kernel) rfl
theorem L_Mo_235 : (Jvm.Cond.fieldLink "FieldRelayModel" (235 : Nat) "FieldRelayModel" "watched" "I") ∈ vTB := vTB_in 819 (by decide +kernel) rfl
theorem L_Mo_238 : (Jvm.Cond.methodLink "FieldRelayModel" (238 : Nat) ({ cls := "FieldRelayModel", name := "reply", desc := "(III)V" } : Jvm.MethodName)) ∈ vTB := vTB_in 1045 (by decide +kernel) rfl
theorem L_Mo_241 : (Jvm.Cond.methodLink "FieldRelayModel" (241 : Nat) ({ cls := "FieldRelayModel", name := "rest", desc := "(I)V" } : Jvm.MethodName)) ∈ vTB := vTB_in 1061 (by decide +kernel) rfl
theorem L_Mo_244 : (Jvm.Cond.methodLink "FieldRelayModel" (244 : Nat) ({ cls := "FieldRelayModel", name := "connect", desc := "(II)V" } : Jvm.MethodName)) ∈ vTB := vTB_in 1041 (by decide +kernel) rfl
theorem L_Mo_247 : (Jvm.Cond.methodLink "FieldRelayModel" (247 : Nat) ({ cls := "FieldRelayModel", name := "obeys", desc := "(III)V" } : Jvm.MethodName)) ∈ vTB := vTB_in 1049 (by decide +kernel) rfl
theorem L_Mo_250 : (Jvm.Cond.methodLink "FieldRelayModel" (250 : Nat) ({ cls := "FieldRelayModel", name := "isGood", desc := "(II)Z" } : Jvm.MethodName)) ∈ vTB := vTB_in 1053 (by decide +kernel) rfl
theorem L_Mo_253 : (Jvm.Cond.methodLink "FieldRelayModel" (253 : Nat) ({ cls := "FieldRelayModel", name := "quit", desc := "(I)V" } : Jvm.MethodName)) ∈ vTB := vTB_in 1057 (by decide +kernel) rfl
theorem L_Mo_256 : (Jvm.Cond.methodLink "FieldRelayModel" (256 : Nat) ({ cls := "FieldRelayModel", name := "outsAt", desc := "(I)I" } : Jvm.MethodName)) ∈ vTB := vTB_in 1065 (by decide +kernel) rfl
theorem L_Mo_260 : (Jvm.Cond.methodLink "FieldRelayModel" (260 : Nat) ({ cls := "FieldRelayModel", name := "alarm", desc := "(I)V" } : Jvm.MethodName)) ∈ vTB := vTB_in 1094 (by decide +kernel) rfl
theorem L_Mo_263 : (Jvm.Cond.methodLink "FieldRelayModel" (263 : Nat) ({ cls := "FieldRelayModel", name := "insAt", desc := "(I)I" } : Jvm.MethodName)) ∈ vTB := vTB_in 1098 (by decide +kernel) rfl
theorem L_Mo_266 : (Jvm.Cond.fieldLink "FieldRelayModel" (266 : Nat) "FieldRelayModel" "ticks" "I") ∈ vTB := vTB_in 812 (by decide +kernel) rfl
theorem L_Mo_269 : (Jvm.Cond.methodLink "FieldRelayModel" (269 : Nat) ({ cls := "FieldRelayModel", name := "beat", desc := "(I)V" } : Jvm.MethodName)) ∈ vTB := vTB_in 1086 (by decide +kernel) rfl
theorem L_Mo_272 : (Jvm.Cond.methodLink "FieldRelayModel" (272 : Nat) ({ cls := "FieldRelayModel", name := "pulse", desc := "(I)V" } : Jvm.MethodName)) ∈ vTB := vTB_in 1090 (by decide +kernel) rfl

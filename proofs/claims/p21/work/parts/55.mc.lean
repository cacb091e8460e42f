def mf_Mo_isGood_0 (v0 : fw_V) (a2 : Int32) : Int32 :=
  if (v0 43 0 ((0 : Int32) + a2).toNatClampNeg) < (0 : Int32) then
    (0 : Int32)
  else
    if (((v0 31 0 0) >>> (a2 &&& 31)) &&& (1 : Int32)) = (0 : Int32) then
      (1 : Int32)
    else
      (0 : Int32)

theorem mp_isGood_0_0 {r : Int32} {v : fw_V} (er : r = mf_Mo_isGood_0 v (0 : Int32)) (c : ¬ r = 0) (h : vp_in (v 43 0 0 + 1) 9) : vp_in (v 43 0 0) 8 := by
  by_cases h1 : (v 43 0 0) < (0 : Int32)
  · exact absurd (er.trans (if_pos h1)) c
  · exact fw_m8 h h1
theorem mp_isGood_0_1 {r : Int32} {v : fw_V} (er : r = mf_Mo_isGood_0 v (1 : Int32)) (c : ¬ r = 0) (h : vp_in (v 43 0 1 + 1) 9) : vp_in (v 43 0 1) 8 := by
  by_cases h1 : (v 43 0 1) < (0 : Int32)
  · exact absurd (er.trans (if_pos h1)) c
  · exact fw_m8 h h1
theorem mp_isGood_0_2 {r : Int32} {v : fw_V} (er : r = mf_Mo_isGood_0 v (2 : Int32)) (c : ¬ r = 0) (h : vp_in (v 43 0 2 + 1) 9) : vp_in (v 43 0 2) 8 := by
  by_cases h1 : (v 43 0 2) < (0 : Int32)
  · exact absurd (er.trans (if_pos h1)) c
  · exact fw_m8 h h1
set_option maxHeartbeats 4000000 in
set_option maxRecDepth 100000 in
theorem mc_Mo_isGood_0 (l : Launch) {D : va_G} {cA : Nat → ClassId} {ad : Nat → Nat → Nat} (hD : fw_D mCL ad) {b : Nat} (v0 : fw_V) (hI : mI b v0) (a2 : Int32) (hq0 : vp_in a2 3) : Met l my_Mo_isGood (Cond.code my_Mo_isGood mb_Mo_isGood 3 (some .boolean) :: vTB) mrm_Mo_isGood (fw_Pc vNL D vcls (vtys cA) mCL cA mkd ad v0 [.ref (ad 0 0), .int (0 : Int32), .int a2]) (fw_Qb D vcls mCL cA mkd ad v0 (mf_Mo_isGood_0 v0 a2)) 0 0 (fw_A mCL ad) := by
  refine Met.ofW (cc := mb_Mo_isGood) (maxL := 3) (ret := (some .boolean)) (by decide) rfl ?_
  intro p e s m args below meth c s₁ B hml hv
  obtain ⟨rfl, hP, hK, hN⟩ := hv
  have hx := B.exec
  have hb := B.bytes
  have hr := B.returns
  have hts : ∀ w ∈ vTB, w.before ([.ref (ad 0 0), .int (0 : Int32), .int a2] : List Value).toArray s = true := fun w h => atoms_spec (ws := (Cond.code my_Mo_isGood mb_Mo_isGood 3 (some .boolean) :: vTB)) B.pre w (List.mem_cons_of_mem _ h)
  have hown : s.vm.findClass R_Mo = some m.cls := findClass_of_methodNamed B.named
  have hlocks := B.notSynchronized
  have hS : va_S (fw_A mCL ad) s.heap s.heap [] := va_S.rf
  skip
  have hl := lv_entry ([.ref (ad 0 0), .int (0 : Int32), .int a2]) (n := 3) (Nat.le_of_ble_eq_true rfl)
  rw [lg_entry_eq]
  generalize (lg_sl ([.ref (ad 0 0), .int (0 : Int32), .int a2]) ++ List.replicate (3 - (lg_sl ([.ref (ad 0 0), .int (0 : Int32), .int a2])).length) Slot.unset).toArray = ls at hl ⊢
  have hl : lv_has ls 3 [(0, .ref (ad 0 0)), (1, .int (0 : Int32)), (2, .int a2)] := hl
  refine lv_aload_n hx hb md_Mo_isGood_0 rfl (lv_at hl 0 rfl) ?_
  refine fw_getr hx hb hts i_Mo hown hK hP (mm_0 (by decide)) (mk_0 0) rfl 42 (by decide) (hts _ L_Mo_134) (fun _ h9 => h9) rfl md_Mo_isGood_1 ?_
  refine lv_iconst (v := (3 : Int32)) hx hb md_Mo_isGood_4 (by decide) ?_
  refine lv_iload_n hx hb md_Mo_isGood_5 rfl (lv_at hl 1 rfl) ?_
  refine lv_imul hx hb md_Mo_isGood_6 ?_
  refine fw_top (y := (0 : Int32)) (by decide) ?_
  refine lv_iload_n hx hb md_Mo_isGood_7 rfl (lv_at hl 2 rfl) ?_
  refine lv_iadd hx hb md_Mo_isGood_8 ?_
  refine fw_iald hx hb hK hP (mm_43 (by decide)) (mk_43 0) 0 rfl (j := ((0 : Int32) + a2).toNatClampNeg) rfl (fw_inm (fw_inadd2 (n := 1) (m := 3) (t := 3) (fw_inc (by decide)) hq0 (by decide)) (by decide)) md_Mo_isGood_9 ?_
  have h_1 : vp_in ((v0 43 0 ((0 : Int32) + a2).toNatClampNeg) + 1) 9 := hI.1 43 0 (((0 : Int32) + a2).toNatClampNeg)
  refine lv_if_lt (tgt := 30) hx hb md_Mo_isGood_10 (by decide) (fun c_2 => ?_) (fun c_2 => ?_)
  · refine lv_iconst (v := (0 : Int32)) hx hb md_Mo_isGood_30 (by decide) ?_
    exact fw_bret hx hb hr hlocks hS hP md_Mo_isGood_31 (by decide) (by simp only [mf_Mo_isGood_0, if_pos c_2])
  · have h_3 : vp_in (v0 43 0 ((0 : Int32) + a2).toNatClampNeg) 8 := fw_m8 h_1 c_2
    refine lv_aload_n hx hb md_Mo_isGood_13 rfl (lv_at hl 0 rfl) ?_
    refine fw_getr hx hb hts i_Mo hown hK hP (mm_0 (by decide)) (mk_0 0) rfl 30 (by decide) (hts _ L_Mo_98) (fun _ h9 => h9) rfl md_Mo_isGood_14 ?_
    refine lv_iload_n hx hb md_Mo_isGood_17 rfl (lv_at hl 1 rfl) ?_
    refine fw_iald hx hb hK hP (mm_31 (by decide)) (mk_31 0) 0 rfl (j := 0) (by decide) (fw_inc (by decide)) md_Mo_isGood_18 ?_
    refine lv_iload_n hx hb md_Mo_isGood_19 rfl (lv_at hl 2 rfl) ?_
    refine lv_ishr hx hb md_Mo_isGood_20 ?_
    refine lv_iconst (v := (1 : Int32)) hx hb md_Mo_isGood_21 (by decide) ?_
    refine lv_iand hx hb md_Mo_isGood_22 ?_
    refine lv_if_ne (tgt := 30) hx hb md_Mo_isGood_23 (by decide) (fun c_4 => ?_) (fun c_4 => ?_)
    · refine lv_iconst (v := (0 : Int32)) hx hb md_Mo_isGood_30 (by decide) ?_
      exact fw_bret hx hb hr hlocks hS hP md_Mo_isGood_31 (by decide) (by simp only [mf_Mo_isGood_0, if_neg c_2, if_neg c_4])
    · refine lv_iconst (v := (1 : Int32)) hx hb md_Mo_isGood_26 (by decide) ?_
      refine lv_goto (tgt := 31) hx hb md_Mo_isGood_27 (by decide) ?_
      exact fw_bret hx hb hr hlocks hS hP md_Mo_isGood_31 (by decide) (by simp only [mf_Mo_isGood_0, if_neg c_2, if_pos c_4])
def mf_Mo_isGood_1 (v0 : fw_V) (a2 : Int32) : Int32 :=
  if (v0 43 0 ((3 : Int32) + a2).toNatClampNeg) < (0 : Int32) then
    (0 : Int32)
  else
    if (((v0 31 0 1) >>> (a2 &&& 31)) &&& (1 : Int32)) = (0 : Int32) then
      (1 : Int32)
    else
      (0 : Int32)

theorem mp_isGood_1_0 {r : Int32} {v : fw_V} (er : r = mf_Mo_isGood_1 v (0 : Int32)) (c : ¬ r = 0) (h : vp_in (v 43 0 3 + 1) 9) : vp_in (v 43 0 3) 8 := by
  by_cases h1 : (v 43 0 3) < (0 : Int32)
  · exact absurd (er.trans (if_pos h1)) c
  · exact fw_m8 h h1
theorem mp_isGood_1_1 {r : Int32} {v : fw_V} (er : r = mf_Mo_isGood_1 v (1 : Int32)) (c : ¬ r = 0) (h : vp_in (v 43 0 4 + 1) 9) : vp_in (v 43 0 4) 8 := by
  by_cases h1 : (v 43 0 4) < (0 : Int32)
  · exact absurd (er.trans (if_pos h1)) c
  · exact fw_m8 h h1
theorem mp_isGood_1_2 {r : Int32} {v : fw_V} (er : r = mf_Mo_isGood_1 v (2 : Int32)) (c : ¬ r = 0) (h : vp_in (v 43 0 5 + 1) 9) : vp_in (v 43 0 5) 8 := by
  by_cases h1 : (v 43 0 5) < (0 : Int32)
  · exact absurd (er.trans (if_pos h1)) c
  · exact fw_m8 h h1
set_option maxHeartbeats 4000000 in
set_option maxRecDepth 100000 in
theorem mc_Mo_isGood_1 (l : Launch) {D : va_G} {cA : Nat → ClassId} {ad : Nat → Nat → Nat} (hD : fw_D mCL ad) {b : Nat} (v0 : fw_V) (hI : mI b v0) (a2 : Int32) (hq0 : vp_in a2 3) : Met l my_Mo_isGood (Cond.code my_Mo_isGood mb_Mo_isGood 3 (some .boolean) :: vTB) mrm_Mo_isGood (fw_Pc vNL D vcls (vtys cA) mCL cA mkd ad v0 [.ref (ad 0 0), .int (1 : Int32), .int a2]) (fw_Qb D vcls mCL cA mkd ad v0 (mf_Mo_isGood_1 v0 a2)) 0 0 (fw_A mCL ad) := by
  refine Met.ofW (cc := mb_Mo_isGood) (maxL := 3) (ret := (some .boolean)) (by decide) rfl ?_
  intro p e s m args below meth c s₁ B hml hv
  obtain ⟨rfl, hP, hK, hN⟩ := hv
  have hx := B.exec
  have hb := B.bytes
  have hr := B.returns
  have hts : ∀ w ∈ vTB, w.before ([.ref (ad 0 0), .int (1 : Int32), .int a2] : List Value).toArray s = true := fun w h => atoms_spec (ws := (Cond.code my_Mo_isGood mb_Mo_isGood 3 (some .boolean) :: vTB)) B.pre w (List.mem_cons_of_mem _ h)
  have hown : s.vm.findClass R_Mo = some m.cls := findClass_of_methodNamed B.named
  have hlocks := B.notSynchronized
  have hS : va_S (fw_A mCL ad) s.heap s.heap [] := va_S.rf
  skip
  have hl := lv_entry ([.ref (ad 0 0), .int (1 : Int32), .int a2]) (n := 3) (Nat.le_of_ble_eq_true rfl)
  rw [lg_entry_eq]
  generalize (lg_sl ([.ref (ad 0 0), .int (1 : Int32), .int a2]) ++ List.replicate (3 - (lg_sl ([.ref (ad 0 0), .int (1 : Int32), .int a2])).length) Slot.unset).toArray = ls at hl ⊢
  have hl : lv_has ls 3 [(0, .ref (ad 0 0)), (1, .int (1 : Int32)), (2, .int a2)] := hl
  refine lv_aload_n hx hb md_Mo_isGood_0 rfl (lv_at hl 0 rfl) ?_
  refine fw_getr hx hb hts i_Mo hown hK hP (mm_0 (by decide)) (mk_0 0) rfl 42 (by decide) (hts _ L_Mo_134) (fun _ h9 => h9) rfl md_Mo_isGood_1 ?_
  refine lv_iconst (v := (3 : Int32)) hx hb md_Mo_isGood_4 (by decide) ?_
  refine lv_iload_n hx hb md_Mo_isGood_5 rfl (lv_at hl 1 rfl) ?_
  refine lv_imul hx hb md_Mo_isGood_6 ?_
  refine fw_top (y := (3 : Int32)) (by decide) ?_
  refine lv_iload_n hx hb md_Mo_isGood_7 rfl (lv_at hl 2 rfl) ?_
  refine lv_iadd hx hb md_Mo_isGood_8 ?_
  refine fw_iald hx hb hK hP (mm_43 (by decide)) (mk_43 0) 0 rfl (j := ((3 : Int32) + a2).toNatClampNeg) rfl (fw_inadd2 (n := 4) (m := 3) (t := 6) (fw_inc (by decide)) hq0 (by decide)) md_Mo_isGood_9 ?_
  have h_1 : vp_in ((v0 43 0 ((3 : Int32) + a2).toNatClampNeg) + 1) 9 := hI.1 43 0 (((3 : Int32) + a2).toNatClampNeg)
  refine lv_if_lt (tgt := 30) hx hb md_Mo_isGood_10 (by decide) (fun c_2 => ?_) (fun c_2 => ?_)
  · refine lv_iconst (v := (0 : Int32)) hx hb md_Mo_isGood_30 (by decide) ?_
    exact fw_bret hx hb hr hlocks hS hP md_Mo_isGood_31 (by decide) (by simp only [mf_Mo_isGood_1, if_pos c_2])
  · have h_3 : vp_in (v0 43 0 ((3 : Int32) + a2).toNatClampNeg) 8 := fw_m8 h_1 c_2
    refine lv_aload_n hx hb md_Mo_isGood_13 rfl (lv_at hl 0 rfl) ?_
    refine fw_getr hx hb hts i_Mo hown hK hP (mm_0 (by decide)) (mk_0 0) rfl 30 (by decide) (hts _ L_Mo_98) (fun _ h9 => h9) rfl md_Mo_isGood_14 ?_
    refine lv_iload_n hx hb md_Mo_isGood_17 rfl (lv_at hl 1 rfl) ?_
    refine fw_iald hx hb hK hP (mm_31 (by decide)) (mk_31 0) 0 rfl (j := 1) (by decide) (fw_inc (by decide)) md_Mo_isGood_18 ?_
    refine lv_iload_n hx hb md_Mo_isGood_19 rfl (lv_at hl 2 rfl) ?_
    refine lv_ishr hx hb md_Mo_isGood_20 ?_
    refine lv_iconst (v := (1 : Int32)) hx hb md_Mo_isGood_21 (by decide) ?_
    refine lv_iand hx hb md_Mo_isGood_22 ?_
    refine lv_if_ne (tgt := 30) hx hb md_Mo_isGood_23 (by decide) (fun c_4 => ?_) (fun c_4 => ?_)
    · refine lv_iconst (v := (0 : Int32)) hx hb md_Mo_isGood_30 (by decide) ?_
      exact fw_bret hx hb hr hlocks hS hP md_Mo_isGood_31 (by decide) (by simp only [mf_Mo_isGood_1, if_neg c_2, if_neg c_4])
    · refine lv_iconst (v := (1 : Int32)) hx hb md_Mo_isGood_26 (by decide) ?_
      refine lv_goto (tgt := 31) hx hb md_Mo_isGood_27 (by decide) ?_
      exact fw_bret hx hb hr hlocks hS hP md_Mo_isGood_31 (by decide) (by simp only [mf_Mo_isGood_1, if_neg c_2, if_pos c_4])
def mf_Mo_rest_0_j2 (v : fw_V)   : fw_V :=
  v
def mf_Mo_rest_0_j1 (v0 : fw_V)   : fw_V :=
  let v2 := fw_up v0 28 0 (0) (0 : Int32)
  let v3 := fw_up v2 29 0 (0) (0 : Int32)
  let v4 := fw_up v3 31 0 (0) (0 : Int32)
  let v5 := fw_up v4 32 0 (0) (0 : Int32)
  let v6 := fw_up v5 37 0 (0) (0 : Int32)
  let v7 := fw_up v6 36 0 (0) (0 : Int32)
  let v9 := fw_up v7 43 0 (0) (-1 : Int32)
  let v10 := fw_up v9 44 0 (0) (-1 : Int32)
  let v12 := fw_up v10 43 0 (1) (-1 : Int32)
  let v13 := fw_up v12 44 0 (1) (-1 : Int32)
  let v15 := fw_up v13 43 0 (2) (-1 : Int32)
  let v16 := fw_up v15 44 0 (2) (-1 : Int32)
  mf_Mo_rest_0_j2 v16
def mf_Mo_rest_0_j7 (v : fw_V)   : fw_V :=
  v
def mf_Mo_rest_0_j6 (v : fw_V)   : fw_V :=
  let v44 := mf_Mo_replace_0 v (2 : Int32)
  mf_Mo_rest_0_j7 v44
def mf_Mo_rest_0_j5 (v : fw_V)   : fw_V :=
  let v41 := mf_Mo_replace_0 v (1 : Int32)
  mf_Mo_rest_0_j6 v41
def mf_Mo_rest_0_j4 (v : fw_V)   : fw_V :=
  let v38 := mf_Mo_replace_0 v (0 : Int32)
  mf_Mo_rest_0_j5 v38
def mf_Mo_rest_0_j3 (v0 : fw_V)   : fw_V :=
  let v20 := fw_up v0 28 0 (0) (0 : Int32)
  let v21 := fw_up v20 29 0 (0) (0 : Int32)
  let v22 := fw_up v21 31 0 (0) (0 : Int32)
  let v23 := fw_up v22 32 0 (0) (0 : Int32)
  let v24 := fw_up v23 37 0 (0) (0 : Int32)
  let v25 := fw_up v24 36 0 (0) (0 : Int32)
  let v27 := fw_up v25 43 0 (0) (-1 : Int32)
  let v28 := fw_up v27 44 0 (0) (-1 : Int32)
  let v30 := fw_up v28 43 0 (1) (-1 : Int32)
  let v31 := fw_up v30 44 0 (1) (-1 : Int32)
  let v33 := fw_up v31 43 0 (2) (-1 : Int32)
  let v34 := fw_up v33 44 0 (2) (-1 : Int32)
  mf_Mo_rest_0_j4 v34
def mf_Mo_rest_0 (v0 : fw_V) : fw_V :=
  if (v0 28 0 0) = (3 : Int32) then
    mf_Mo_rest_0_j3 v0
  else
    mf_Mo_rest_0_j1 v0

theorem mca_Mo_rest_0_j2 {v : fw_V} {i k : Nat} : mf_Mo_rest_0_j2 v 10 i k = v 10 i k := by
  unfold mf_Mo_rest_0_j2
  try dsimp only
  all_goals ((repeat' split) <;> simp [fw_up, fw_row])
theorem mca_Mo_rest_0_j1 {v0 : fw_V} {i k : Nat} : mf_Mo_rest_0_j1 v0 10 i k = v0 10 i k := by
  unfold mf_Mo_rest_0_j1
  try dsimp only
  all_goals ((repeat' split) <;> simp [fw_up, fw_row, mca_Mo_rest_0_j2])
theorem mca_Mo_rest_0_j7 {v : fw_V} {i k : Nat} : mf_Mo_rest_0_j7 v 10 i k = v 10 i k := by
  unfold mf_Mo_rest_0_j7
  try dsimp only
  all_goals ((repeat' split) <;> simp [fw_up, fw_row])
theorem mca_Mo_rest_0_j6 {v : fw_V} {i k : Nat} : mf_Mo_rest_0_j6 v 10 i k = v 10 i k := by
  unfold mf_Mo_rest_0_j6
  try dsimp only
  all_goals ((repeat' split) <;> simp [fw_up, fw_row, mca_Mo_replace_0, mca_Mo_rest_0_j7])
theorem mca_Mo_rest_0_j5 {v : fw_V} {i k : Nat} : mf_Mo_rest_0_j5 v 10 i k = v 10 i k := by
  unfold mf_Mo_rest_0_j5
  try dsimp only
  all_goals ((repeat' split) <;> simp [fw_up, fw_row, mca_Mo_replace_0, mca_Mo_rest_0_j6])
theorem mca_Mo_rest_0_j4 {v : fw_V} {i k : Nat} : mf_Mo_rest_0_j4 v 10 i k = v 10 i k := by
  unfold mf_Mo_rest_0_j4
  try dsimp only
  all_goals ((repeat' split) <;> simp [fw_up, fw_row, mca_Mo_replace_0, mca_Mo_rest_0_j5])
theorem mca_Mo_rest_0_j3 {v0 : fw_V} {i k : Nat} : mf_Mo_rest_0_j3 v0 10 i k = v0 10 i k := by
  unfold mf_Mo_rest_0_j3
  try dsimp only
  all_goals ((repeat' split) <;> simp [fw_up, fw_row, mca_Mo_rest_0_j4])
theorem mca_Mo_rest_0 {v0 : fw_V} {i k : Nat} : mf_Mo_rest_0 v0 10 i k = v0 10 i k := by
  unfold mf_Mo_rest_0
  try dsimp only
  all_goals ((repeat' split) <;> simp [fw_up, fw_row, mca_Mo_rest_0_j3, mca_Mo_rest_0_j1])
set_option maxHeartbeats 4000000 in
set_option maxRecDepth 100000 in
theorem mc_Mo_rest_0 (l : Launch) {D : va_G} {cA : Nat → ClassId} {ad : Nat → Nat → Nat} (hD : fw_D mCL ad) {b : Nat} (v0 : fw_V) (hI : mI b v0)   : Met l my_Mo_rest (Cond.code my_Mo_rest mb_Mo_rest 4 none :: vTB) mrm_Mo_rest (fw_Pc vNL D vcls (vtys cA) mCL cA mkd ad v0 [.ref (ad 0 0), .int (0 : Int32)]) (fw_Qv D vcls mCL cA mkd ad (mI b) (mf_Mo_rest_0 v0)) 0 0 (fw_A mCL ad) := by
  refine Met.ofW (cc := mb_Mo_rest) (maxL := 4) (ret := none) (by decide) rfl ?_
  intro p e s m args below meth c s₁ B hml hv
  obtain ⟨rfl, hP, hK, hN⟩ := hv
  have hx := B.exec
  have hb := B.bytes
  have hr := B.returns
  have hts : ∀ w ∈ vTB, w.before ([.ref (ad 0 0), .int (0 : Int32)] : List Value).toArray s = true := fun w h => atoms_spec (ws := (Cond.code my_Mo_rest mb_Mo_rest 4 none :: vTB)) B.pre w (List.mem_cons_of_mem _ h)
  have hown : s.vm.findClass R_Mo = some m.cls := findClass_of_methodNamed B.named
  have hlocks := B.notSynchronized
  have hS : va_S (fw_A mCL ad) s.heap s.heap [] := va_S.rf
  have J2 : ∀ (v : fw_V)  (H : Heap) (locs : List Loc) (ls : Array Slot), mf_Mo_rest_0 v0 = mf_Mo_rest_0_j2 v → mI b v → va_P D vcls (fw_w mCL cA mkd ad v) H → va_S (fw_A mCL ad) s.heap H locs → lv_has ls 4 [(0, .ref (ad 0 0)), (1, .int (0 : Int32)), (2, .int (0 : Int32)), (3, .int (0 : Int32))] → W p l e (headSpec (Cond.code my_Mo_rest mb_Mo_rest 4 none :: vTB) mrm_Mo_rest).room s m ([.ref (ad 0 0), .int (0 : Int32)] : List Value).toArray below meth c H locs 0 0 (MQ below (fw_Qv D vcls mCL cA mkd ad (mI b) (mf_Mo_rest_0 v0)) ([.ref (ad 0 0), .int (0 : Int32)] : List Value).toArray s 0 0 (fw_A mCL ad)) (F0 m 93 ls []) := by
    intro v  H locs ls hj  hI hP hS hl
    refine lv_iload_n hx hb md_Mo_rest_93 rfl (lv_at hl 3 rfl) ?_
    refine lv_iconst (v := (3 : Int32)) hx hb md_Mo_rest_94 (by decide) ?_
    refine lv_icmp_ge (tgt := 114) hx hb md_Mo_rest_95 (by decide) (fun c_18 => absurd c_18 (by decide)) (fun _ => ?_)
    refine lv_iload_n hx hb md_Mo_rest_98 rfl (lv_at hl 2 rfl) ?_
    refine lv_if_eq (tgt := 114) hx hb md_Mo_rest_99 (by decide) (fun _ => ?_) (fun c_19 => absurd (by decide) c_19)
    exact fw_vret hx hb hr hlocks hS hP hI md_Mo_rest_114 (by rw [hj]; simp only [mf_Mo_rest_0_j2])
  have J1 : ∀  (H : Heap) (locs : List Loc) (ls : Array Slot), mf_Mo_rest_0 v0 = mf_Mo_rest_0_j1 v0 → mI b v0 → va_P D vcls (fw_w mCL cA mkd ad v0) H → va_S (fw_A mCL ad) s.heap H locs → lv_has ls 4 [(0, .ref (ad 0 0)), (1, .int (0 : Int32))] → W p l e (headSpec (Cond.code my_Mo_rest mb_Mo_rest 4 none :: vTB) mrm_Mo_rest).room s m ([.ref (ad 0 0), .int (0 : Int32)] : List Value).toArray below meth c H locs 0 0 (MQ below (fw_Qv D vcls mCL cA mkd ad (mI b) (mf_Mo_rest_0 v0)) ([.ref (ad 0 0), .int (0 : Int32)] : List Value).toArray s 0 0 (fw_A mCL ad)) (F0 m 15 ls [.int (0 : Int32)]) := by
    intro  H locs ls hj  hI hP hS hl
    refine lv_istore_n (lv' := [(2, .int (0 : Int32)), (0, .ref (ad 0 0)), (1, .int (0 : Int32))]) hx hb md_Mo_rest_15 rfl hl (by decide) rfl (fun ls hl => ?_)
    refine lv_aload_n hx hb md_Mo_rest_16 rfl (lv_at hl 1 rfl) ?_
    refine fw_getr hx hb hts i_Mo hown hK hP (mm_0 (by decide)) (mk_0 0) rfl 27 (by decide) (hts _ L_Mo_89) (fun _ h9 => h9) rfl md_Mo_rest_17 ?_
    refine lv_iload_n hx hb md_Mo_rest_20 rfl (lv_at hl 2 rfl) ?_
    refine lv_iconst (v := (0 : Int32)) hx hb md_Mo_rest_21 (by decide) ?_
    refine fw_iast hx hb hK hD hP hS (mm_28 (by decide)) (mk_28 0) 0 rfl (j := 0) (by decide) (fw_inc (by decide)) md_Mo_rest_22 (fun v2 H locs ev2 hP hS => ?_)
    have hI : mI b v2 := by rw [ev2]; exact mI_up hI trivial trivial
    refine lv_aload_n hx hb md_Mo_rest_23 rfl (lv_at hl 1 rfl) ?_
    refine fw_getr hx hb hts i_Mo hown hK hP (mm_0 (by decide)) (mk_0 0) rfl 28 (by decide) (hts _ L_Mo_92) (fun _ h9 => h9) rfl md_Mo_rest_24 ?_
    refine lv_iload_n hx hb md_Mo_rest_27 rfl (lv_at hl 2 rfl) ?_
    refine lv_iconst (v := (0 : Int32)) hx hb md_Mo_rest_28 (by decide) ?_
    refine fw_iast hx hb hK hD hP hS (mm_29 (by decide)) (mk_29 0) 0 rfl (j := 0) (by decide) (fw_inc (by decide)) md_Mo_rest_29 (fun v3 H locs ev3 hP hS => ?_)
    have hI : mI b v3 := by rw [ev3]; exact mI_up hI trivial trivial
    refine lv_aload_n hx hb md_Mo_rest_30 rfl (lv_at hl 1 rfl) ?_
    refine fw_getr hx hb hts i_Mo hown hK hP (mm_0 (by decide)) (mk_0 0) rfl 30 (by decide) (hts _ L_Mo_98) (fun _ h9 => h9) rfl md_Mo_rest_31 ?_
    refine lv_iload_n hx hb md_Mo_rest_34 rfl (lv_at hl 2 rfl) ?_
    refine lv_iconst (v := (0 : Int32)) hx hb md_Mo_rest_35 (by decide) ?_
    refine fw_iast hx hb hK hD hP hS (mm_31 (by decide)) (mk_31 0) 0 rfl (j := 0) (by decide) (fw_inc (by decide)) md_Mo_rest_36 (fun v4 H locs ev4 hP hS => ?_)
    have hI : mI b v4 := by rw [ev4]; exact mI_up hI trivial trivial
    refine lv_aload_n hx hb md_Mo_rest_37 rfl (lv_at hl 1 rfl) ?_
    refine fw_getr hx hb hts i_Mo hown hK hP (mm_0 (by decide)) (mk_0 0) rfl 31 (by decide) (hts _ L_Mo_101) (fun _ h9 => h9) rfl md_Mo_rest_38 ?_
    refine lv_iload_n hx hb md_Mo_rest_41 rfl (lv_at hl 2 rfl) ?_
    refine lv_iconst (v := (0 : Int32)) hx hb md_Mo_rest_42 (by decide) ?_
    refine fw_iast hx hb hK hD hP hS (mm_32 (by decide)) (mk_32 0) 0 rfl (j := 0) (by decide) (fw_inc (by decide)) md_Mo_rest_43 (fun v5 H locs ev5 hP hS => ?_)
    have hI : mI b v5 := by rw [ev5]; exact mI_up hI trivial trivial
    refine lv_aload_n hx hb md_Mo_rest_44 rfl (lv_at hl 1 rfl) ?_
    refine fw_getr hx hb hts i_Mo hown hK hP (mm_0 (by decide)) (mk_0 0) rfl 36 (by decide) (hts _ L_Mo_116) (fun _ h9 => h9) rfl md_Mo_rest_45 ?_
    refine lv_iload_n hx hb md_Mo_rest_48 rfl (lv_at hl 2 rfl) ?_
    refine lv_iconst (v := (0 : Int32)) hx hb md_Mo_rest_49 (by decide) ?_
    refine fw_iast hx hb hK hD hP hS (mm_37 (by decide)) (mk_37 0) 0 rfl (j := 0) (by decide) (fw_inc (by decide)) md_Mo_rest_50 (fun v6 H locs ev6 hP hS => ?_)
    refine lv_aload_n hx hb md_Mo_rest_51 rfl (lv_at hl 1 rfl) ?_
    refine fw_getr hx hb hts i_Mo hown hK hP (mm_0 (by decide)) (mk_0 0) rfl 35 (by decide) (hts _ L_Mo_113) (fun _ h9 => h9) rfl md_Mo_rest_52 ?_
    refine lv_iload_n hx hb md_Mo_rest_55 rfl (lv_at hl 2 rfl) ?_
    refine lv_iconst (v := (0 : Int32)) hx hb md_Mo_rest_56 (by decide) ?_
    refine fw_iast hx hb hK hD hP hS (mm_36 (by decide)) (mk_36 0) 0 rfl (j := 0) (by decide) (fw_inc (by decide)) md_Mo_rest_57 (fun v7 H locs ev7 hP hS => ?_)
    have hI : mI b v7 := by rw [ev7, ev6]; exact mI_clear (k := 0) hI
    refine lv_iconst (v := (3 : Int32)) hx hb md_Mo_rest_58 (by decide) ?_
    refine lv_iload_n hx hb md_Mo_rest_59 rfl (lv_at hl 2 rfl) ?_
    refine lv_imul hx hb md_Mo_rest_60 ?_
    refine fw_top (y := (0 : Int32)) (by decide) ?_
    refine lv_istore_n (lv' := [(3, .int (0 : Int32)), (2, .int (0 : Int32)), (0, .ref (ad 0 0)), (1, .int (0 : Int32))]) hx hb md_Mo_rest_61 rfl hl (by decide) rfl (fun ls hl => ?_)
    refine lv_iload_n hx hb md_Mo_rest_62 rfl (lv_at hl 0 rfl) ?_
    refine lv_iconst (v := (3 : Int32)) hx hb md_Mo_rest_63 (by decide) ?_
    refine lv_iload_n hx hb md_Mo_rest_64 rfl (lv_at hl 3 rfl) ?_
    refine lv_imul hx hb md_Mo_rest_65 ?_
    refine fw_top (y := (0 : Int32)) (by decide) ?_
    refine lv_iconst (v := (3 : Int32)) hx hb md_Mo_rest_66 (by decide) ?_
    refine lv_iadd hx hb md_Mo_rest_67 ?_
    refine fw_top (y := (3 : Int32)) (by decide) ?_
    refine lv_icmp_ge (tgt := 91) hx hb md_Mo_rest_68 (by decide) (fun c_8 => absurd c_8 (by decide)) (fun _ => ?_)
    refine lv_aload_n hx hb md_Mo_rest_71 rfl (lv_at hl 2 rfl) ?_
    refine fw_getr hx hb hts i_Mo hown hK hP (mm_0 (by decide)) (mk_0 0) rfl 42 (by decide) (hts _ L_Mo_134) (fun _ h9 => h9) rfl md_Mo_rest_72 ?_
    refine lv_iload_n hx hb md_Mo_rest_75 rfl (lv_at hl 0 rfl) ?_
    refine lv_iconst (v := (-1 : Int32)) hx hb md_Mo_rest_76 (by decide) ?_
    refine fw_iast hx hb hK hD hP hS (mm_43 (by decide)) (mk_43 0) 0 rfl (j := 0) (by decide) (fw_inc (by decide)) md_Mo_rest_77 (fun v9 H locs ev9 hP hS => ?_)
    have hI : mI b v9 := by rw [ev9]; exact mI_up hI (fw_inc (by decide)) trivial
    refine lv_aload_n hx hb md_Mo_rest_78 rfl (lv_at hl 2 rfl) ?_
    refine fw_getr hx hb hts i_Mo hown hK hP (mm_0 (by decide)) (mk_0 0) rfl 43 (by decide) (hts _ L_Mo_137) (fun _ h9 => h9) rfl md_Mo_rest_79 ?_
    refine lv_iload_n hx hb md_Mo_rest_82 rfl (lv_at hl 0 rfl) ?_
    refine lv_iconst (v := (-1 : Int32)) hx hb md_Mo_rest_83 (by decide) ?_
    refine fw_iast hx hb hK hD hP hS (mm_44 (by decide)) (mk_44 0) 0 rfl (j := 0) (by decide) (fw_inc (by decide)) md_Mo_rest_84 (fun v10 H locs ev10 hP hS => ?_)
    have hI : mI b v10 := by rw [ev10]; exact mI_up hI trivial trivial
    refine lv_iinc (v := (1 : Int32)) (lv' := [(3, .int (1 : Int32)), (2, .int (0 : Int32)), (0, .ref (ad 0 0)), (1, .int (0 : Int32))]) hx hb md_Mo_rest_85 hl (k := 0) rfl (by decide) (by decide) rfl (fun ls hl => ?_)
    refine lv_goto (tgt := 62) hx hb md_Mo_rest_88 (by decide) ?_
    refine lv_iload_n hx hb md_Mo_rest_62 rfl (lv_at hl 0 rfl) ?_
    refine lv_iconst (v := (3 : Int32)) hx hb md_Mo_rest_63 (by decide) ?_
    refine lv_iload_n hx hb md_Mo_rest_64 rfl (lv_at hl 3 rfl) ?_
    refine lv_imul hx hb md_Mo_rest_65 ?_
    refine fw_top (y := (0 : Int32)) (by decide) ?_
    refine lv_iconst (v := (3 : Int32)) hx hb md_Mo_rest_66 (by decide) ?_
    refine lv_iadd hx hb md_Mo_rest_67 ?_
    refine fw_top (y := (3 : Int32)) (by decide) ?_
    refine lv_icmp_ge (tgt := 91) hx hb md_Mo_rest_68 (by decide) (fun c_11 => absurd c_11 (by decide)) (fun _ => ?_)
    refine lv_aload_n hx hb md_Mo_rest_71 rfl (lv_at hl 2 rfl) ?_
    refine fw_getr hx hb hts i_Mo hown hK hP (mm_0 (by decide)) (mk_0 0) rfl 42 (by decide) (hts _ L_Mo_134) (fun _ h9 => h9) rfl md_Mo_rest_72 ?_
    refine lv_iload_n hx hb md_Mo_rest_75 rfl (lv_at hl 0 rfl) ?_
    refine lv_iconst (v := (-1 : Int32)) hx hb md_Mo_rest_76 (by decide) ?_
    refine fw_iast hx hb hK hD hP hS (mm_43 (by decide)) (mk_43 0) 0 rfl (j := 1) (by decide) (fw_inc (by decide)) md_Mo_rest_77 (fun v12 H locs ev12 hP hS => ?_)
    have hI : mI b v12 := by rw [ev12]; exact mI_up hI (fw_inc (by decide)) trivial
    refine lv_aload_n hx hb md_Mo_rest_78 rfl (lv_at hl 2 rfl) ?_
    refine fw_getr hx hb hts i_Mo hown hK hP (mm_0 (by decide)) (mk_0 0) rfl 43 (by decide) (hts _ L_Mo_137) (fun _ h9 => h9) rfl md_Mo_rest_79 ?_
    refine lv_iload_n hx hb md_Mo_rest_82 rfl (lv_at hl 0 rfl) ?_
    refine lv_iconst (v := (-1 : Int32)) hx hb md_Mo_rest_83 (by decide) ?_
    refine fw_iast hx hb hK hD hP hS (mm_44 (by decide)) (mk_44 0) 0 rfl (j := 1) (by decide) (fw_inc (by decide)) md_Mo_rest_84 (fun v13 H locs ev13 hP hS => ?_)
    have hI : mI b v13 := by rw [ev13]; exact mI_up hI trivial trivial
    refine lv_iinc (v := (2 : Int32)) (lv' := [(3, .int (2 : Int32)), (2, .int (0 : Int32)), (0, .ref (ad 0 0)), (1, .int (0 : Int32))]) hx hb md_Mo_rest_85 hl (k := 0) rfl (by decide) (by decide) rfl (fun ls hl => ?_)
    refine lv_goto (tgt := 62) hx hb md_Mo_rest_88 (by decide) ?_
    refine lv_iload_n hx hb md_Mo_rest_62 rfl (lv_at hl 0 rfl) ?_
    refine lv_iconst (v := (3 : Int32)) hx hb md_Mo_rest_63 (by decide) ?_
    refine lv_iload_n hx hb md_Mo_rest_64 rfl (lv_at hl 3 rfl) ?_
    refine lv_imul hx hb md_Mo_rest_65 ?_
    refine fw_top (y := (0 : Int32)) (by decide) ?_
    refine lv_iconst (v := (3 : Int32)) hx hb md_Mo_rest_66 (by decide) ?_
    refine lv_iadd hx hb md_Mo_rest_67 ?_
    refine fw_top (y := (3 : Int32)) (by decide) ?_
    refine lv_icmp_ge (tgt := 91) hx hb md_Mo_rest_68 (by decide) (fun c_14 => absurd c_14 (by decide)) (fun _ => ?_)
    refine lv_aload_n hx hb md_Mo_rest_71 rfl (lv_at hl 2 rfl) ?_
    refine fw_getr hx hb hts i_Mo hown hK hP (mm_0 (by decide)) (mk_0 0) rfl 42 (by decide) (hts _ L_Mo_134) (fun _ h9 => h9) rfl md_Mo_rest_72 ?_
    refine lv_iload_n hx hb md_Mo_rest_75 rfl (lv_at hl 0 rfl) ?_
    refine lv_iconst (v := (-1 : Int32)) hx hb md_Mo_rest_76 (by decide) ?_
    refine fw_iast hx hb hK hD hP hS (mm_43 (by decide)) (mk_43 0) 0 rfl (j := 2) (by decide) (fw_inc (by decide)) md_Mo_rest_77 (fun v15 H locs ev15 hP hS => ?_)
    have hI : mI b v15 := by rw [ev15]; exact mI_up hI (fw_inc (by decide)) trivial
    refine lv_aload_n hx hb md_Mo_rest_78 rfl (lv_at hl 2 rfl) ?_
    refine fw_getr hx hb hts i_Mo hown hK hP (mm_0 (by decide)) (mk_0 0) rfl 43 (by decide) (hts _ L_Mo_137) (fun _ h9 => h9) rfl md_Mo_rest_79 ?_
    refine lv_iload_n hx hb md_Mo_rest_82 rfl (lv_at hl 0 rfl) ?_
    refine lv_iconst (v := (-1 : Int32)) hx hb md_Mo_rest_83 (by decide) ?_
    refine fw_iast hx hb hK hD hP hS (mm_44 (by decide)) (mk_44 0) 0 rfl (j := 2) (by decide) (fw_inc (by decide)) md_Mo_rest_84 (fun v16 H locs ev16 hP hS => ?_)
    have hI : mI b v16 := by rw [ev16]; exact mI_up hI trivial trivial
    refine lv_iinc (v := (3 : Int32)) (lv' := [(3, .int (3 : Int32)), (2, .int (0 : Int32)), (0, .ref (ad 0 0)), (1, .int (0 : Int32))]) hx hb md_Mo_rest_85 hl (k := 0) rfl (by decide) (by decide) rfl (fun ls hl => ?_)
    refine lv_goto (tgt := 62) hx hb md_Mo_rest_88 (by decide) ?_
    refine lv_iload_n hx hb md_Mo_rest_62 rfl (lv_at hl 0 rfl) ?_
    refine lv_iconst (v := (3 : Int32)) hx hb md_Mo_rest_63 (by decide) ?_
    refine lv_iload_n hx hb md_Mo_rest_64 rfl (lv_at hl 3 rfl) ?_
    refine lv_imul hx hb md_Mo_rest_65 ?_
    refine fw_top (y := (0 : Int32)) (by decide) ?_
    refine lv_iconst (v := (3 : Int32)) hx hb md_Mo_rest_66 (by decide) ?_
    refine lv_iadd hx hb md_Mo_rest_67 ?_
    refine fw_top (y := (3 : Int32)) (by decide) ?_
    refine lv_icmp_ge (tgt := 91) hx hb md_Mo_rest_68 (by decide) (fun _ => ?_) (fun c_17 => absurd (by decide) c_17)
    refine lv_iconst (v := (0 : Int32)) hx hb md_Mo_rest_91 (by decide) ?_
    refine lv_istore_n (lv' := [(3, .int (0 : Int32)), (2, .int (0 : Int32)), (0, .ref (ad 0 0)), (1, .int (0 : Int32))]) hx hb md_Mo_rest_92 rfl hl (by decide) rfl (fun ls hl => ?_)
    exact J2 v16  _ _ _ (by rw [hj]; subst ev2 ev3 ev4 ev5 ev6 ev7 ev9 ev10 ev12 ev13 ev15 ev16; simp only [mf_Mo_rest_0_j1])   hI hP hS (lv_sub hl [2, 3, 1, 0] rfl)
  have J7 : ∀ (v : fw_V)  (H : Heap) (locs : List Loc) (ls : Array Slot), mf_Mo_rest_0 v0 = mf_Mo_rest_0_j7 v → mI b v → va_P D vcls (fw_w mCL cA mkd ad v) H → va_S (fw_A mCL ad) s.heap H locs → lv_has ls 4 [(0, .ref (ad 0 0)), (1, .int (0 : Int32)), (2, .int (1 : Int32)), (3, .int (3 : Int32))] → W p l e (headSpec (Cond.code my_Mo_rest mb_Mo_rest 4 none :: vTB) mrm_Mo_rest).room s m ([.ref (ad 0 0), .int (0 : Int32)] : List Value).toArray below meth c H locs 0 0 (MQ below (fw_Qv D vcls mCL cA mkd ad (mI b) (mf_Mo_rest_0 v0)) ([.ref (ad 0 0), .int (0 : Int32)] : List Value).toArray s 0 0 (fw_A mCL ad)) (F0 m 93 ls []) := by
    intro v  H locs ls hj  hI hP hS hl
    clear J2 J1
    refine lv_iload_n hx hb md_Mo_rest_93 rfl (lv_at hl 3 rfl) ?_
    refine lv_iconst (v := (3 : Int32)) hx hb md_Mo_rest_94 (by decide) ?_
    refine lv_icmp_ge (tgt := 114) hx hb md_Mo_rest_95 (by decide) (fun _ => ?_) (fun c_45 => absurd (by decide) c_45)
    exact fw_vret hx hb hr hlocks hS hP hI md_Mo_rest_114 (by rw [hj]; simp only [mf_Mo_rest_0_j7])
  have J6 : ∀ (v : fw_V)  (H : Heap) (locs : List Loc) (ls : Array Slot), mf_Mo_rest_0 v0 = mf_Mo_rest_0_j6 v → mI b v → va_P D vcls (fw_w mCL cA mkd ad v) H → va_S (fw_A mCL ad) s.heap H locs → lv_has ls 4 [(0, .ref (ad 0 0)), (1, .int (0 : Int32)), (2, .int (1 : Int32)), (3, .int (2 : Int32))] → W p l e (headSpec (Cond.code my_Mo_rest mb_Mo_rest 4 none :: vTB) mrm_Mo_rest).room s m ([.ref (ad 0 0), .int (0 : Int32)] : List Value).toArray below meth c H locs 0 0 (MQ below (fw_Qv D vcls mCL cA mkd ad (mI b) (mf_Mo_rest_0 v0)) ([.ref (ad 0 0), .int (0 : Int32)] : List Value).toArray s 0 0 (fw_A mCL ad)) (F0 m 93 ls []) := by
    intro v  H locs ls hj  hI hP hS hl
    clear J2 J1
    refine lv_iload_n hx hb md_Mo_rest_93 rfl (lv_at hl 3 rfl) ?_
    refine lv_iconst (v := (3 : Int32)) hx hb md_Mo_rest_94 (by decide) ?_
    refine lv_icmp_ge (tgt := 114) hx hb md_Mo_rest_95 (by decide) (fun c_42 => absurd c_42 (by decide)) (fun _ => ?_)
    refine lv_iload_n hx hb md_Mo_rest_98 rfl (lv_at hl 2 rfl) ?_
    refine lv_if_eq (tgt := 114) hx hb md_Mo_rest_99 (by decide) (fun c_43 => absurd c_43 (by decide)) (fun _ => ?_)
    refine lv_aload_n hx hb md_Mo_rest_102 rfl (lv_at hl 0 rfl) ?_
    refine lv_iload_n hx hb md_Mo_rest_103 rfl (lv_at hl 1 rfl) ?_
    refine lv_iload_n hx hb md_Mo_rest_104 rfl (lv_at hl 3 rfl) ?_
    refine fw_cv (va_runV (As := [.int (0 : Int32), .int (2 : Int32)]) (rest := []) ⟨hx, hb, hml, hown, hts⟩ (mc_Mo_replace_0 l hD v hI (2 : Int32) (fw_inc (by decide))) (mw_Mo_replace hts L_Mo_159 ⟨Nat.le_of_ble_eq_true rfl, Nat.le_of_ble_eq_true rfl⟩) (fw_preV hN hK hP (mm_0 (by decide)) (mk_0 0) rfl) rfl rfl hl.1 rfl (lv_room (Nat.le_of_ble_eq_true rfl)) md_Mo_rest_105 ⟨Nat.le_of_ble_eq_true rfl, Nat.le_of_ble_eq_true rfl⟩) hS (fun v44 H locs ev44 hI hP hS => ?_)
    refine lv_iinc (v := (3 : Int32)) (lv' := [(3, .int (3 : Int32)), (0, .ref (ad 0 0)), (1, .int (0 : Int32)), (2, .int (1 : Int32))]) hx hb md_Mo_rest_108 hl (k := 3) rfl (by decide) (by decide) rfl (fun ls hl => ?_)
    refine lv_goto (tgt := 93) hx hb md_Mo_rest_111 (by decide) ?_
    exact J7 v44  _ _ _ (by rw [hj]; subst ev44; simp only [mf_Mo_rest_0_j6])   hI hP hS (lv_sub hl [1, 2, 3, 0] rfl)
  have J5 : ∀ (v : fw_V)  (H : Heap) (locs : List Loc) (ls : Array Slot), mf_Mo_rest_0 v0 = mf_Mo_rest_0_j5 v → mI b v → va_P D vcls (fw_w mCL cA mkd ad v) H → va_S (fw_A mCL ad) s.heap H locs → lv_has ls 4 [(0, .ref (ad 0 0)), (1, .int (0 : Int32)), (2, .int (1 : Int32)), (3, .int (1 : Int32))] → W p l e (headSpec (Cond.code my_Mo_rest mb_Mo_rest 4 none :: vTB) mrm_Mo_rest).room s m ([.ref (ad 0 0), .int (0 : Int32)] : List Value).toArray below meth c H locs 0 0 (MQ below (fw_Qv D vcls mCL cA mkd ad (mI b) (mf_Mo_rest_0 v0)) ([.ref (ad 0 0), .int (0 : Int32)] : List Value).toArray s 0 0 (fw_A mCL ad)) (F0 m 93 ls []) := by
    intro v  H locs ls hj  hI hP hS hl
    clear J2 J1 J7
    refine lv_iload_n hx hb md_Mo_rest_93 rfl (lv_at hl 3 rfl) ?_
    refine lv_iconst (v := (3 : Int32)) hx hb md_Mo_rest_94 (by decide) ?_
    refine lv_icmp_ge (tgt := 114) hx hb md_Mo_rest_95 (by decide) (fun c_39 => absurd c_39 (by decide)) (fun _ => ?_)
    refine lv_iload_n hx hb md_Mo_rest_98 rfl (lv_at hl 2 rfl) ?_
    refine lv_if_eq (tgt := 114) hx hb md_Mo_rest_99 (by decide) (fun c_40 => absurd c_40 (by decide)) (fun _ => ?_)
    refine lv_aload_n hx hb md_Mo_rest_102 rfl (lv_at hl 0 rfl) ?_
    refine lv_iload_n hx hb md_Mo_rest_103 rfl (lv_at hl 1 rfl) ?_
    refine lv_iload_n hx hb md_Mo_rest_104 rfl (lv_at hl 3 rfl) ?_
    refine fw_cv (va_runV (As := [.int (0 : Int32), .int (1 : Int32)]) (rest := []) ⟨hx, hb, hml, hown, hts⟩ (mc_Mo_replace_0 l hD v hI (1 : Int32) (fw_inc (by decide))) (mw_Mo_replace hts L_Mo_159 ⟨Nat.le_of_ble_eq_true rfl, Nat.le_of_ble_eq_true rfl⟩) (fw_preV hN hK hP (mm_0 (by decide)) (mk_0 0) rfl) rfl rfl hl.1 rfl (lv_room (Nat.le_of_ble_eq_true rfl)) md_Mo_rest_105 ⟨Nat.le_of_ble_eq_true rfl, Nat.le_of_ble_eq_true rfl⟩) hS (fun v41 H locs ev41 hI hP hS => ?_)
    refine lv_iinc (v := (2 : Int32)) (lv' := [(3, .int (2 : Int32)), (0, .ref (ad 0 0)), (1, .int (0 : Int32)), (2, .int (1 : Int32))]) hx hb md_Mo_rest_108 hl (k := 3) rfl (by decide) (by decide) rfl (fun ls hl => ?_)
    refine lv_goto (tgt := 93) hx hb md_Mo_rest_111 (by decide) ?_
    exact J6 v41  _ _ _ (by rw [hj]; subst ev41; simp only [mf_Mo_rest_0_j5])   hI hP hS (lv_sub hl [1, 2, 3, 0] rfl)
  have J4 : ∀ (v : fw_V)  (H : Heap) (locs : List Loc) (ls : Array Slot), mf_Mo_rest_0 v0 = mf_Mo_rest_0_j4 v → mI b v → va_P D vcls (fw_w mCL cA mkd ad v) H → va_S (fw_A mCL ad) s.heap H locs → lv_has ls 4 [(0, .ref (ad 0 0)), (1, .int (0 : Int32)), (2, .int (1 : Int32)), (3, .int (0 : Int32))] → W p l e (headSpec (Cond.code my_Mo_rest mb_Mo_rest 4 none :: vTB) mrm_Mo_rest).room s m ([.ref (ad 0 0), .int (0 : Int32)] : List Value).toArray below meth c H locs 0 0 (MQ below (fw_Qv D vcls mCL cA mkd ad (mI b) (mf_Mo_rest_0 v0)) ([.ref (ad 0 0), .int (0 : Int32)] : List Value).toArray s 0 0 (fw_A mCL ad)) (F0 m 93 ls []) := by
    intro v  H locs ls hj  hI hP hS hl
    clear J2 J1 J7 J6
    refine lv_iload_n hx hb md_Mo_rest_93 rfl (lv_at hl 3 rfl) ?_
    refine lv_iconst (v := (3 : Int32)) hx hb md_Mo_rest_94 (by decide) ?_
    refine lv_icmp_ge (tgt := 114) hx hb md_Mo_rest_95 (by decide) (fun c_36 => absurd c_36 (by decide)) (fun _ => ?_)
    refine lv_iload_n hx hb md_Mo_rest_98 rfl (lv_at hl 2 rfl) ?_
    refine lv_if_eq (tgt := 114) hx hb md_Mo_rest_99 (by decide) (fun c_37 => absurd c_37 (by decide)) (fun _ => ?_)
    refine lv_aload_n hx hb md_Mo_rest_102 rfl (lv_at hl 0 rfl) ?_
    refine lv_iload_n hx hb md_Mo_rest_103 rfl (lv_at hl 1 rfl) ?_
    refine lv_iload_n hx hb md_Mo_rest_104 rfl (lv_at hl 3 rfl) ?_
    refine fw_cv (va_runV (As := [.int (0 : Int32), .int (0 : Int32)]) (rest := []) ⟨hx, hb, hml, hown, hts⟩ (mc_Mo_replace_0 l hD v hI (0 : Int32) (fw_inc (by decide))) (mw_Mo_replace hts L_Mo_159 ⟨Nat.le_of_ble_eq_true rfl, Nat.le_of_ble_eq_true rfl⟩) (fw_preV hN hK hP (mm_0 (by decide)) (mk_0 0) rfl) rfl rfl hl.1 rfl (lv_room (Nat.le_of_ble_eq_true rfl)) md_Mo_rest_105 ⟨Nat.le_of_ble_eq_true rfl, Nat.le_of_ble_eq_true rfl⟩) hS (fun v38 H locs ev38 hI hP hS => ?_)
    refine lv_iinc (v := (1 : Int32)) (lv' := [(3, .int (1 : Int32)), (0, .ref (ad 0 0)), (1, .int (0 : Int32)), (2, .int (1 : Int32))]) hx hb md_Mo_rest_108 hl (k := 3) rfl (by decide) (by decide) rfl (fun ls hl => ?_)
    refine lv_goto (tgt := 93) hx hb md_Mo_rest_111 (by decide) ?_
    exact J5 v38  _ _ _ (by rw [hj]; subst ev38; simp only [mf_Mo_rest_0_j4])   hI hP hS (lv_sub hl [1, 2, 3, 0] rfl)
  have J3 : ∀  (H : Heap) (locs : List Loc) (ls : Array Slot), mf_Mo_rest_0 v0 = mf_Mo_rest_0_j3 v0 → mI b v0 → va_P D vcls (fw_w mCL cA mkd ad v0) H → va_S (fw_A mCL ad) s.heap H locs → lv_has ls 4 [(0, .ref (ad 0 0)), (1, .int (0 : Int32))] → W p l e (headSpec (Cond.code my_Mo_rest mb_Mo_rest 4 none :: vTB) mrm_Mo_rest).room s m ([.ref (ad 0 0), .int (0 : Int32)] : List Value).toArray below meth c H locs 0 0 (MQ below (fw_Qv D vcls mCL cA mkd ad (mI b) (mf_Mo_rest_0 v0)) ([.ref (ad 0 0), .int (0 : Int32)] : List Value).toArray s 0 0 (fw_A mCL ad)) (F0 m 15 ls [.int (1 : Int32)]) := by
    intro  H locs ls hj  hI hP hS hl
    clear J2 J1 J7 J6 J5
    refine lv_istore_n (lv' := [(2, .int (1 : Int32)), (0, .ref (ad 0 0)), (1, .int (0 : Int32))]) hx hb md_Mo_rest_15 rfl hl (by decide) rfl (fun ls hl => ?_)
    refine lv_aload_n hx hb md_Mo_rest_16 rfl (lv_at hl 1 rfl) ?_
    refine fw_getr hx hb hts i_Mo hown hK hP (mm_0 (by decide)) (mk_0 0) rfl 27 (by decide) (hts _ L_Mo_89) (fun _ h9 => h9) rfl md_Mo_rest_17 ?_
    refine lv_iload_n hx hb md_Mo_rest_20 rfl (lv_at hl 2 rfl) ?_
    refine lv_iconst (v := (0 : Int32)) hx hb md_Mo_rest_21 (by decide) ?_
    refine fw_iast hx hb hK hD hP hS (mm_28 (by decide)) (mk_28 0) 0 rfl (j := 0) (by decide) (fw_inc (by decide)) md_Mo_rest_22 (fun v20 H locs ev20 hP hS => ?_)
    have hI : mI b v20 := by rw [ev20]; exact mI_up hI trivial trivial
    refine lv_aload_n hx hb md_Mo_rest_23 rfl (lv_at hl 1 rfl) ?_
    refine fw_getr hx hb hts i_Mo hown hK hP (mm_0 (by decide)) (mk_0 0) rfl 28 (by decide) (hts _ L_Mo_92) (fun _ h9 => h9) rfl md_Mo_rest_24 ?_
    refine lv_iload_n hx hb md_Mo_rest_27 rfl (lv_at hl 2 rfl) ?_
    refine lv_iconst (v := (0 : Int32)) hx hb md_Mo_rest_28 (by decide) ?_
    refine fw_iast hx hb hK hD hP hS (mm_29 (by decide)) (mk_29 0) 0 rfl (j := 0) (by decide) (fw_inc (by decide)) md_Mo_rest_29 (fun v21 H locs ev21 hP hS => ?_)
    have hI : mI b v21 := by rw [ev21]; exact mI_up hI trivial trivial
    refine lv_aload_n hx hb md_Mo_rest_30 rfl (lv_at hl 1 rfl) ?_
    refine fw_getr hx hb hts i_Mo hown hK hP (mm_0 (by decide)) (mk_0 0) rfl 30 (by decide) (hts _ L_Mo_98) (fun _ h9 => h9) rfl md_Mo_rest_31 ?_
    refine lv_iload_n hx hb md_Mo_rest_34 rfl (lv_at hl 2 rfl) ?_
    refine lv_iconst (v := (0 : Int32)) hx hb md_Mo_rest_35 (by decide) ?_
    refine fw_iast hx hb hK hD hP hS (mm_31 (by decide)) (mk_31 0) 0 rfl (j := 0) (by decide) (fw_inc (by decide)) md_Mo_rest_36 (fun v22 H locs ev22 hP hS => ?_)
    have hI : mI b v22 := by rw [ev22]; exact mI_up hI trivial trivial
    refine lv_aload_n hx hb md_Mo_rest_37 rfl (lv_at hl 1 rfl) ?_
    refine fw_getr hx hb hts i_Mo hown hK hP (mm_0 (by decide)) (mk_0 0) rfl 31 (by decide) (hts _ L_Mo_101) (fun _ h9 => h9) rfl md_Mo_rest_38 ?_
    refine lv_iload_n hx hb md_Mo_rest_41 rfl (lv_at hl 2 rfl) ?_
    refine lv_iconst (v := (0 : Int32)) hx hb md_Mo_rest_42 (by decide) ?_
    refine fw_iast hx hb hK hD hP hS (mm_32 (by decide)) (mk_32 0) 0 rfl (j := 0) (by decide) (fw_inc (by decide)) md_Mo_rest_43 (fun v23 H locs ev23 hP hS => ?_)
    have hI : mI b v23 := by rw [ev23]; exact mI_up hI trivial trivial
    refine lv_aload_n hx hb md_Mo_rest_44 rfl (lv_at hl 1 rfl) ?_
    refine fw_getr hx hb hts i_Mo hown hK hP (mm_0 (by decide)) (mk_0 0) rfl 36 (by decide) (hts _ L_Mo_116) (fun _ h9 => h9) rfl md_Mo_rest_45 ?_
    refine lv_iload_n hx hb md_Mo_rest_48 rfl (lv_at hl 2 rfl) ?_
    refine lv_iconst (v := (0 : Int32)) hx hb md_Mo_rest_49 (by decide) ?_
    refine fw_iast hx hb hK hD hP hS (mm_37 (by decide)) (mk_37 0) 0 rfl (j := 0) (by decide) (fw_inc (by decide)) md_Mo_rest_50 (fun v24 H locs ev24 hP hS => ?_)
    refine lv_aload_n hx hb md_Mo_rest_51 rfl (lv_at hl 1 rfl) ?_
    refine fw_getr hx hb hts i_Mo hown hK hP (mm_0 (by decide)) (mk_0 0) rfl 35 (by decide) (hts _ L_Mo_113) (fun _ h9 => h9) rfl md_Mo_rest_52 ?_
    refine lv_iload_n hx hb md_Mo_rest_55 rfl (lv_at hl 2 rfl) ?_
    refine lv_iconst (v := (0 : Int32)) hx hb md_Mo_rest_56 (by decide) ?_
    refine fw_iast hx hb hK hD hP hS (mm_36 (by decide)) (mk_36 0) 0 rfl (j := 0) (by decide) (fw_inc (by decide)) md_Mo_rest_57 (fun v25 H locs ev25 hP hS => ?_)
    have hI : mI b v25 := by rw [ev25, ev24]; exact mI_clear (k := 0) hI
    refine lv_iconst (v := (3 : Int32)) hx hb md_Mo_rest_58 (by decide) ?_
    refine lv_iload_n hx hb md_Mo_rest_59 rfl (lv_at hl 2 rfl) ?_
    refine lv_imul hx hb md_Mo_rest_60 ?_
    refine fw_top (y := (0 : Int32)) (by decide) ?_
    refine lv_istore_n (lv' := [(3, .int (0 : Int32)), (2, .int (1 : Int32)), (0, .ref (ad 0 0)), (1, .int (0 : Int32))]) hx hb md_Mo_rest_61 rfl hl (by decide) rfl (fun ls hl => ?_)
    refine lv_iload_n hx hb md_Mo_rest_62 rfl (lv_at hl 0 rfl) ?_
    refine lv_iconst (v := (3 : Int32)) hx hb md_Mo_rest_63 (by decide) ?_
    refine lv_iload_n hx hb md_Mo_rest_64 rfl (lv_at hl 3 rfl) ?_
    refine lv_imul hx hb md_Mo_rest_65 ?_
    refine fw_top (y := (0 : Int32)) (by decide) ?_
    refine lv_iconst (v := (3 : Int32)) hx hb md_Mo_rest_66 (by decide) ?_
    refine lv_iadd hx hb md_Mo_rest_67 ?_
    refine fw_top (y := (3 : Int32)) (by decide) ?_
    refine lv_icmp_ge (tgt := 91) hx hb md_Mo_rest_68 (by decide) (fun c_26 => absurd c_26 (by decide)) (fun _ => ?_)
    refine lv_aload_n hx hb md_Mo_rest_71 rfl (lv_at hl 2 rfl) ?_
    refine fw_getr hx hb hts i_Mo hown hK hP (mm_0 (by decide)) (mk_0 0) rfl 42 (by decide) (hts _ L_Mo_134) (fun _ h9 => h9) rfl md_Mo_rest_72 ?_
    refine lv_iload_n hx hb md_Mo_rest_75 rfl (lv_at hl 0 rfl) ?_
    refine lv_iconst (v := (-1 : Int32)) hx hb md_Mo_rest_76 (by decide) ?_
    refine fw_iast hx hb hK hD hP hS (mm_43 (by decide)) (mk_43 0) 0 rfl (j := 0) (by decide) (fw_inc (by decide)) md_Mo_rest_77 (fun v27 H locs ev27 hP hS => ?_)
    have hI : mI b v27 := by rw [ev27]; exact mI_up hI (fw_inc (by decide)) trivial
    refine lv_aload_n hx hb md_Mo_rest_78 rfl (lv_at hl 2 rfl) ?_
    refine fw_getr hx hb hts i_Mo hown hK hP (mm_0 (by decide)) (mk_0 0) rfl 43 (by decide) (hts _ L_Mo_137) (fun _ h9 => h9) rfl md_Mo_rest_79 ?_
    refine lv_iload_n hx hb md_Mo_rest_82 rfl (lv_at hl 0 rfl) ?_
    refine lv_iconst (v := (-1 : Int32)) hx hb md_Mo_rest_83 (by decide) ?_
    refine fw_iast hx hb hK hD hP hS (mm_44 (by decide)) (mk_44 0) 0 rfl (j := 0) (by decide) (fw_inc (by decide)) md_Mo_rest_84 (fun v28 H locs ev28 hP hS => ?_)
    have hI : mI b v28 := by rw [ev28]; exact mI_up hI trivial trivial
    refine lv_iinc (v := (1 : Int32)) (lv' := [(3, .int (1 : Int32)), (2, .int (1 : Int32)), (0, .ref (ad 0 0)), (1, .int (0 : Int32))]) hx hb md_Mo_rest_85 hl (k := 0) rfl (by decide) (by decide) rfl (fun ls hl => ?_)
    refine lv_goto (tgt := 62) hx hb md_Mo_rest_88 (by decide) ?_
    refine lv_iload_n hx hb md_Mo_rest_62 rfl (lv_at hl 0 rfl) ?_
    refine lv_iconst (v := (3 : Int32)) hx hb md_Mo_rest_63 (by decide) ?_
    refine lv_iload_n hx hb md_Mo_rest_64 rfl (lv_at hl 3 rfl) ?_
    refine lv_imul hx hb md_Mo_rest_65 ?_
    refine fw_top (y := (0 : Int32)) (by decide) ?_
    refine lv_iconst (v := (3 : Int32)) hx hb md_Mo_rest_66 (by decide) ?_
    refine lv_iadd hx hb md_Mo_rest_67 ?_
    refine fw_top (y := (3 : Int32)) (by decide) ?_
    refine lv_icmp_ge (tgt := 91) hx hb md_Mo_rest_68 (by decide) (fun c_29 => absurd c_29 (by decide)) (fun _ => ?_)
    refine lv_aload_n hx hb md_Mo_rest_71 rfl (lv_at hl 2 rfl) ?_
    refine fw_getr hx hb hts i_Mo hown hK hP (mm_0 (by decide)) (mk_0 0) rfl 42 (by decide) (hts _ L_Mo_134) (fun _ h9 => h9) rfl md_Mo_rest_72 ?_
    refine lv_iload_n hx hb md_Mo_rest_75 rfl (lv_at hl 0 rfl) ?_
    refine lv_iconst (v := (-1 : Int32)) hx hb md_Mo_rest_76 (by decide) ?_
    refine fw_iast hx hb hK hD hP hS (mm_43 (by decide)) (mk_43 0) 0 rfl (j := 1) (by decide) (fw_inc (by decide)) md_Mo_rest_77 (fun v30 H locs ev30 hP hS => ?_)
    have hI : mI b v30 := by rw [ev30]; exact mI_up hI (fw_inc (by decide)) trivial
    refine lv_aload_n hx hb md_Mo_rest_78 rfl (lv_at hl 2 rfl) ?_
    refine fw_getr hx hb hts i_Mo hown hK hP (mm_0 (by decide)) (mk_0 0) rfl 43 (by decide) (hts _ L_Mo_137) (fun _ h9 => h9) rfl md_Mo_rest_79 ?_
    refine lv_iload_n hx hb md_Mo_rest_82 rfl (lv_at hl 0 rfl) ?_
    refine lv_iconst (v := (-1 : Int32)) hx hb md_Mo_rest_83 (by decide) ?_
    refine fw_iast hx hb hK hD hP hS (mm_44 (by decide)) (mk_44 0) 0 rfl (j := 1) (by decide) (fw_inc (by decide)) md_Mo_rest_84 (fun v31 H locs ev31 hP hS => ?_)
    have hI : mI b v31 := by rw [ev31]; exact mI_up hI trivial trivial
    refine lv_iinc (v := (2 : Int32)) (lv' := [(3, .int (2 : Int32)), (2, .int (1 : Int32)), (0, .ref (ad 0 0)), (1, .int (0 : Int32))]) hx hb md_Mo_rest_85 hl (k := 0) rfl (by decide) (by decide) rfl (fun ls hl => ?_)
    refine lv_goto (tgt := 62) hx hb md_Mo_rest_88 (by decide) ?_
    refine lv_iload_n hx hb md_Mo_rest_62 rfl (lv_at hl 0 rfl) ?_
    refine lv_iconst (v := (3 : Int32)) hx hb md_Mo_rest_63 (by decide) ?_
    refine lv_iload_n hx hb md_Mo_rest_64 rfl (lv_at hl 3 rfl) ?_
    refine lv_imul hx hb md_Mo_rest_65 ?_
    refine fw_top (y := (0 : Int32)) (by decide) ?_
    refine lv_iconst (v := (3 : Int32)) hx hb md_Mo_rest_66 (by decide) ?_
    refine lv_iadd hx hb md_Mo_rest_67 ?_
    refine fw_top (y := (3 : Int32)) (by decide) ?_
    refine lv_icmp_ge (tgt := 91) hx hb md_Mo_rest_68 (by decide) (fun c_32 => absurd c_32 (by decide)) (fun _ => ?_)
    refine lv_aload_n hx hb md_Mo_rest_71 rfl (lv_at hl 2 rfl) ?_
    refine fw_getr hx hb hts i_Mo hown hK hP (mm_0 (by decide)) (mk_0 0) rfl 42 (by decide) (hts _ L_Mo_134) (fun _ h9 => h9) rfl md_Mo_rest_72 ?_
    refine lv_iload_n hx hb md_Mo_rest_75 rfl (lv_at hl 0 rfl) ?_
    refine lv_iconst (v := (-1 : Int32)) hx hb md_Mo_rest_76 (by decide) ?_
    refine fw_iast hx hb hK hD hP hS (mm_43 (by decide)) (mk_43 0) 0 rfl (j := 2) (by decide) (fw_inc (by decide)) md_Mo_rest_77 (fun v33 H locs ev33 hP hS => ?_)
    have hI : mI b v33 := by rw [ev33]; exact mI_up hI (fw_inc (by decide)) trivial
    refine lv_aload_n hx hb md_Mo_rest_78 rfl (lv_at hl 2 rfl) ?_
    refine fw_getr hx hb hts i_Mo hown hK hP (mm_0 (by decide)) (mk_0 0) rfl 43 (by decide) (hts _ L_Mo_137) (fun _ h9 => h9) rfl md_Mo_rest_79 ?_
    refine lv_iload_n hx hb md_Mo_rest_82 rfl (lv_at hl 0 rfl) ?_
    refine lv_iconst (v := (-1 : Int32)) hx hb md_Mo_rest_83 (by decide) ?_
    refine fw_iast hx hb hK hD hP hS (mm_44 (by decide)) (mk_44 0) 0 rfl (j := 2) (by decide) (fw_inc (by decide)) md_Mo_rest_84 (fun v34 H locs ev34 hP hS => ?_)
    have hI : mI b v34 := by rw [ev34]; exact mI_up hI trivial trivial
    refine lv_iinc (v := (3 : Int32)) (lv' := [(3, .int (3 : Int32)), (2, .int (1 : Int32)), (0, .ref (ad 0 0)), (1, .int (0 : Int32))]) hx hb md_Mo_rest_85 hl (k := 0) rfl (by decide) (by decide) rfl (fun ls hl => ?_)
    refine lv_goto (tgt := 62) hx hb md_Mo_rest_88 (by decide) ?_
    refine lv_iload_n hx hb md_Mo_rest_62 rfl (lv_at hl 0 rfl) ?_
    refine lv_iconst (v := (3 : Int32)) hx hb md_Mo_rest_63 (by decide) ?_
    refine lv_iload_n hx hb md_Mo_rest_64 rfl (lv_at hl 3 rfl) ?_
    refine lv_imul hx hb md_Mo_rest_65 ?_
    refine fw_top (y := (0 : Int32)) (by decide) ?_
    refine lv_iconst (v := (3 : Int32)) hx hb md_Mo_rest_66 (by decide) ?_
    refine lv_iadd hx hb md_Mo_rest_67 ?_
    refine fw_top (y := (3 : Int32)) (by decide) ?_
    refine lv_icmp_ge (tgt := 91) hx hb md_Mo_rest_68 (by decide) (fun _ => ?_) (fun c_35 => absurd (by decide) c_35)
    refine lv_iconst (v := (0 : Int32)) hx hb md_Mo_rest_91 (by decide) ?_
    refine lv_istore_n (lv' := [(3, .int (0 : Int32)), (2, .int (1 : Int32)), (0, .ref (ad 0 0)), (1, .int (0 : Int32))]) hx hb md_Mo_rest_92 rfl hl (by decide) rfl (fun ls hl => ?_)
    exact J4 v34  _ _ _ (by rw [hj]; subst ev20 ev21 ev22 ev23 ev24 ev25 ev27 ev28 ev30 ev31 ev33 ev34; simp only [mf_Mo_rest_0_j3])   hI hP hS (lv_sub hl [2, 3, 1, 0] rfl)
  clear J2 J7 J6 J5 J4
  have hl := lv_entry ([.ref (ad 0 0), .int (0 : Int32)]) (n := 4) (Nat.le_of_ble_eq_true rfl)
  rw [lg_entry_eq]
  generalize (lg_sl ([.ref (ad 0 0), .int (0 : Int32)]) ++ List.replicate (4 - (lg_sl ([.ref (ad 0 0), .int (0 : Int32)])).length) Slot.unset).toArray = ls at hl ⊢
  have hl : lv_has ls 4 [(0, .ref (ad 0 0)), (1, .int (0 : Int32))] := hl
  refine lv_aload_n hx hb md_Mo_rest_0 rfl (lv_at hl 0 rfl) ?_
  refine fw_getr hx hb hts i_Mo hown hK hP (mm_0 (by decide)) (mk_0 0) rfl 27 (by decide) (hts _ L_Mo_89) (fun _ h9 => h9) rfl md_Mo_rest_1 ?_
  refine lv_iload_n hx hb md_Mo_rest_4 rfl (lv_at hl 1 rfl) ?_
  refine fw_iald hx hb hK hP (mm_28 (by decide)) (mk_28 0) 0 rfl (j := 0) (by decide) (fw_inc (by decide)) md_Mo_rest_5 ?_
  refine lv_iconst (v := (3 : Int32)) hx hb md_Mo_rest_6 (by decide) ?_
  refine lv_icmp_ne (tgt := 14) hx hb md_Mo_rest_7 (by decide) (fun c_1 => ?_) (fun c_1 => ?_)
  · refine lv_iconst (v := (0 : Int32)) hx hb md_Mo_rest_14 (by decide) ?_
    exact J1  _ _ _ (by simp only [mf_Mo_rest_0, if_neg c_1])   hI hP hS (lv_sub hl [0, 1] rfl)
  · refine lv_iconst (v := (1 : Int32)) hx hb md_Mo_rest_10 (by decide) ?_
    refine lv_goto (tgt := 15) hx hb md_Mo_rest_11 (by decide) ?_
    exact J3  _ _ _ (by simp only [mf_Mo_rest_0, if_pos c_1])   hI hP hS (lv_sub hl [0, 1] rfl)
def mf_Mo_rest_1_j2 (v : fw_V)   : fw_V :=
  v
def mf_Mo_rest_1_j1 (v0 : fw_V)   : fw_V :=
  let v2 := fw_up v0 28 0 (1) (0 : Int32)
  let v3 := fw_up v2 29 0 (1) (0 : Int32)
  let v4 := fw_up v3 31 0 (1) (0 : Int32)
  let v5 := fw_up v4 32 0 (1) (0 : Int32)
  let v6 := fw_up v5 37 0 (1) (0 : Int32)
  let v7 := fw_up v6 36 0 (1) (0 : Int32)
  let v9 := fw_up v7 43 0 (3) (-1 : Int32)
  let v10 := fw_up v9 44 0 (3) (-1 : Int32)
  let v12 := fw_up v10 43 0 (4) (-1 : Int32)
  let v13 := fw_up v12 44 0 (4) (-1 : Int32)
  let v15 := fw_up v13 43 0 (5) (-1 : Int32)
  let v16 := fw_up v15 44 0 (5) (-1 : Int32)
  mf_Mo_rest_1_j2 v16
def mf_Mo_rest_1_j7 (v : fw_V)   : fw_V :=
  v
def mf_Mo_rest_1_j6 (v : fw_V)   : fw_V :=
  let v44 := mf_Mo_replace_1 v (2 : Int32)
  mf_Mo_rest_1_j7 v44
def mf_Mo_rest_1_j5 (v : fw_V)   : fw_V :=
  let v41 := mf_Mo_replace_1 v (1 : Int32)
  mf_Mo_rest_1_j6 v41
def mf_Mo_rest_1_j4 (v : fw_V)   : fw_V :=
  let v38 := mf_Mo_replace_1 v (0 : Int32)
  mf_Mo_rest_1_j5 v38
def mf_Mo_rest_1_j3 (v0 : fw_V)   : fw_V :=
  let v20 := fw_up v0 28 0 (1) (0 : Int32)
  let v21 := fw_up v20 29 0 (1) (0 : Int32)
  let v22 := fw_up v21 31 0 (1) (0 : Int32)
  let v23 := fw_up v22 32 0 (1) (0 : Int32)
  let v24 := fw_up v23 37 0 (1) (0 : Int32)
  let v25 := fw_up v24 36 0 (1) (0 : Int32)
  let v27 := fw_up v25 43 0 (3) (-1 : Int32)
  let v28 := fw_up v27 44 0 (3) (-1 : Int32)
  let v30 := fw_up v28 43 0 (4) (-1 : Int32)
  let v31 := fw_up v30 44 0 (4) (-1 : Int32)
  let v33 := fw_up v31 43 0 (5) (-1 : Int32)
  let v34 := fw_up v33 44 0 (5) (-1 : Int32)
  mf_Mo_rest_1_j4 v34
def mf_Mo_rest_1 (v0 : fw_V) : fw_V :=
  if (v0 28 0 1) = (3 : Int32) then
    mf_Mo_rest_1_j3 v0
  else
    mf_Mo_rest_1_j1 v0

theorem mca_Mo_rest_1_j2 {v : fw_V} {i k : Nat} : mf_Mo_rest_1_j2 v 10 i k = v 10 i k := by
  unfold mf_Mo_rest_1_j2
  try dsimp only
  all_goals ((repeat' split) <;> simp [fw_up, fw_row])
theorem mca_Mo_rest_1_j1 {v0 : fw_V} {i k : Nat} : mf_Mo_rest_1_j1 v0 10 i k = v0 10 i k := by
  unfold mf_Mo_rest_1_j1
  try dsimp only
  all_goals ((repeat' split) <;> simp [fw_up, fw_row, mca_Mo_rest_1_j2])
theorem mca_Mo_rest_1_j7 {v : fw_V} {i k : Nat} : mf_Mo_rest_1_j7 v 10 i k = v 10 i k := by
  unfold mf_Mo_rest_1_j7
  try dsimp only
  all_goals ((repeat' split) <;> simp [fw_up, fw_row])
theorem mca_Mo_rest_1_j6 {v : fw_V} {i k : Nat} : mf_Mo_rest_1_j6 v 10 i k = v 10 i k := by
  unfold mf_Mo_rest_1_j6
  try dsimp only
  all_goals ((repeat' split) <;> simp [fw_up, fw_row, mca_Mo_replace_1, mca_Mo_rest_1_j7])
theorem mca_Mo_rest_1_j5 {v : fw_V} {i k : Nat} : mf_Mo_rest_1_j5 v 10 i k = v 10 i k := by
  unfold mf_Mo_rest_1_j5
  try dsimp only
  all_goals ((repeat' split) <;> simp [fw_up, fw_row, mca_Mo_replace_1, mca_Mo_rest_1_j6])
theorem mca_Mo_rest_1_j4 {v : fw_V} {i k : Nat} : mf_Mo_rest_1_j4 v 10 i k = v 10 i k := by
  unfold mf_Mo_rest_1_j4
  try dsimp only
  all_goals ((repeat' split) <;> simp [fw_up, fw_row, mca_Mo_replace_1, mca_Mo_rest_1_j5])
theorem mca_Mo_rest_1_j3 {v0 : fw_V} {i k : Nat} : mf_Mo_rest_1_j3 v0 10 i k = v0 10 i k := by
  unfold mf_Mo_rest_1_j3
  try dsimp only
  all_goals ((repeat' split) <;> simp [fw_up, fw_row, mca_Mo_rest_1_j4])
theorem mca_Mo_rest_1 {v0 : fw_V} {i k : Nat} : mf_Mo_rest_1 v0 10 i k = v0 10 i k := by
  unfold mf_Mo_rest_1
  try dsimp only
  all_goals ((repeat' split) <;> simp [fw_up, fw_row, mca_Mo_rest_1_j3, mca_Mo_rest_1_j1])
set_option maxHeartbeats 4000000 in
set_option maxRecDepth 100000 in
theorem mc_Mo_rest_1 (l : Launch) {D : va_G} {cA : Nat → ClassId} {ad : Nat → Nat → Nat} (hD : fw_D mCL ad) {b : Nat} (v0 : fw_V) (hI : mI b v0)   : Met l my_Mo_rest (Cond.code my_Mo_rest mb_Mo_rest 4 none :: vTB) mrm_Mo_rest (fw_Pc vNL D vcls (vtys cA) mCL cA mkd ad v0 [.ref (ad 0 0), .int (1 : Int32)]) (fw_Qv D vcls mCL cA mkd ad (mI b) (mf_Mo_rest_1 v0)) 0 0 (fw_A mCL ad) := by
  refine Met.ofW (cc := mb_Mo_rest) (maxL := 4) (ret := none) (by decide) rfl ?_
  intro p e s m args below meth c s₁ B hml hv
  obtain ⟨rfl, hP, hK, hN⟩ := hv
  have hx := B.exec
  have hb := B.bytes
  have hr := B.returns
  have hts : ∀ w ∈ vTB, w.before ([.ref (ad 0 0), .int (1 : Int32)] : List Value).toArray s = true := fun w h => atoms_spec (ws := (Cond.code my_Mo_rest mb_Mo_rest 4 none :: vTB)) B.pre w (List.mem_cons_of_mem _ h)
  have hown : s.vm.findClass R_Mo = some m.cls := findClass_of_methodNamed B.named
  have hlocks := B.notSynchronized
  have hS : va_S (fw_A mCL ad) s.heap s.heap [] := va_S.rf
  have J2 : ∀ (v : fw_V)  (H : Heap) (locs : List Loc) (ls : Array Slot), mf_Mo_rest_1 v0 = mf_Mo_rest_1_j2 v → mI b v → va_P D vcls (fw_w mCL cA mkd ad v) H → va_S (fw_A mCL ad) s.heap H locs → lv_has ls 4 [(0, .ref (ad 0 0)), (1, .int (1 : Int32)), (2, .int (0 : Int32)), (3, .int (0 : Int32))] → W p l e (headSpec (Cond.code my_Mo_rest mb_Mo_rest 4 none :: vTB) mrm_Mo_rest).room s m ([.ref (ad 0 0), .int (1 : Int32)] : List Value).toArray below meth c H locs 0 0 (MQ below (fw_Qv D vcls mCL cA mkd ad (mI b) (mf_Mo_rest_1 v0)) ([.ref (ad 0 0), .int (1 : Int32)] : List Value).toArray s 0 0 (fw_A mCL ad)) (F0 m 93 ls []) := by
    intro v  H locs ls hj  hI hP hS hl
    refine lv_iload_n hx hb md_Mo_rest_93 rfl (lv_at hl 3 rfl) ?_
    refine lv_iconst (v := (3 : Int32)) hx hb md_Mo_rest_94 (by decide) ?_
    refine lv_icmp_ge (tgt := 114) hx hb md_Mo_rest_95 (by decide) (fun c_18 => absurd c_18 (by decide)) (fun _ => ?_)
    refine lv_iload_n hx hb md_Mo_rest_98 rfl (lv_at hl 2 rfl) ?_
    refine lv_if_eq (tgt := 114) hx hb md_Mo_rest_99 (by decide) (fun _ => ?_) (fun c_19 => absurd (by decide) c_19)
    exact fw_vret hx hb hr hlocks hS hP hI md_Mo_rest_114 (by rw [hj]; simp only [mf_Mo_rest_1_j2])
  have J1 : ∀  (H : Heap) (locs : List Loc) (ls : Array Slot), mf_Mo_rest_1 v0 = mf_Mo_rest_1_j1 v0 → mI b v0 → va_P D vcls (fw_w mCL cA mkd ad v0) H → va_S (fw_A mCL ad) s.heap H locs → lv_has ls 4 [(0, .ref (ad 0 0)), (1, .int (1 : Int32))] → W p l e (headSpec (Cond.code my_Mo_rest mb_Mo_rest 4 none :: vTB) mrm_Mo_rest).room s m ([.ref (ad 0 0), .int (1 : Int32)] : List Value).toArray below meth c H locs 0 0 (MQ below (fw_Qv D vcls mCL cA mkd ad (mI b) (mf_Mo_rest_1 v0)) ([.ref (ad 0 0), .int (1 : Int32)] : List Value).toArray s 0 0 (fw_A mCL ad)) (F0 m 15 ls [.int (0 : Int32)]) := by
    intro  H locs ls hj  hI hP hS hl
    refine lv_istore_n (lv' := [(2, .int (0 : Int32)), (0, .ref (ad 0 0)), (1, .int (1 : Int32))]) hx hb md_Mo_rest_15 rfl hl (by decide) rfl (fun ls hl => ?_)
    refine lv_aload_n hx hb md_Mo_rest_16 rfl (lv_at hl 1 rfl) ?_
    refine fw_getr hx hb hts i_Mo hown hK hP (mm_0 (by decide)) (mk_0 0) rfl 27 (by decide) (hts _ L_Mo_89) (fun _ h9 => h9) rfl md_Mo_rest_17 ?_
    refine lv_iload_n hx hb md_Mo_rest_20 rfl (lv_at hl 2 rfl) ?_
    refine lv_iconst (v := (0 : Int32)) hx hb md_Mo_rest_21 (by decide) ?_
    refine fw_iast hx hb hK hD hP hS (mm_28 (by decide)) (mk_28 0) 0 rfl (j := 1) (by decide) (fw_inc (by decide)) md_Mo_rest_22 (fun v2 H locs ev2 hP hS => ?_)
    have hI : mI b v2 := by rw [ev2]; exact mI_up hI trivial trivial
    refine lv_aload_n hx hb md_Mo_rest_23 rfl (lv_at hl 1 rfl) ?_
    refine fw_getr hx hb hts i_Mo hown hK hP (mm_0 (by decide)) (mk_0 0) rfl 28 (by decide) (hts _ L_Mo_92) (fun _ h9 => h9) rfl md_Mo_rest_24 ?_
    refine lv_iload_n hx hb md_Mo_rest_27 rfl (lv_at hl 2 rfl) ?_
    refine lv_iconst (v := (0 : Int32)) hx hb md_Mo_rest_28 (by decide) ?_
    refine fw_iast hx hb hK hD hP hS (mm_29 (by decide)) (mk_29 0) 0 rfl (j := 1) (by decide) (fw_inc (by decide)) md_Mo_rest_29 (fun v3 H locs ev3 hP hS => ?_)
    have hI : mI b v3 := by rw [ev3]; exact mI_up hI trivial trivial
    refine lv_aload_n hx hb md_Mo_rest_30 rfl (lv_at hl 1 rfl) ?_
    refine fw_getr hx hb hts i_Mo hown hK hP (mm_0 (by decide)) (mk_0 0) rfl 30 (by decide) (hts _ L_Mo_98) (fun _ h9 => h9) rfl md_Mo_rest_31 ?_
    refine lv_iload_n hx hb md_Mo_rest_34 rfl (lv_at hl 2 rfl) ?_
    refine lv_iconst (v := (0 : Int32)) hx hb md_Mo_rest_35 (by decide) ?_
    refine fw_iast hx hb hK hD hP hS (mm_31 (by decide)) (mk_31 0) 0 rfl (j := 1) (by decide) (fw_inc (by decide)) md_Mo_rest_36 (fun v4 H locs ev4 hP hS => ?_)
    have hI : mI b v4 := by rw [ev4]; exact mI_up hI trivial trivial
    refine lv_aload_n hx hb md_Mo_rest_37 rfl (lv_at hl 1 rfl) ?_
    refine fw_getr hx hb hts i_Mo hown hK hP (mm_0 (by decide)) (mk_0 0) rfl 31 (by decide) (hts _ L_Mo_101) (fun _ h9 => h9) rfl md_Mo_rest_38 ?_
    refine lv_iload_n hx hb md_Mo_rest_41 rfl (lv_at hl 2 rfl) ?_
    refine lv_iconst (v := (0 : Int32)) hx hb md_Mo_rest_42 (by decide) ?_
    refine fw_iast hx hb hK hD hP hS (mm_32 (by decide)) (mk_32 0) 0 rfl (j := 1) (by decide) (fw_inc (by decide)) md_Mo_rest_43 (fun v5 H locs ev5 hP hS => ?_)
    have hI : mI b v5 := by rw [ev5]; exact mI_up hI trivial trivial
    refine lv_aload_n hx hb md_Mo_rest_44 rfl (lv_at hl 1 rfl) ?_
    refine fw_getr hx hb hts i_Mo hown hK hP (mm_0 (by decide)) (mk_0 0) rfl 36 (by decide) (hts _ L_Mo_116) (fun _ h9 => h9) rfl md_Mo_rest_45 ?_
    refine lv_iload_n hx hb md_Mo_rest_48 rfl (lv_at hl 2 rfl) ?_
    refine lv_iconst (v := (0 : Int32)) hx hb md_Mo_rest_49 (by decide) ?_
    refine fw_iast hx hb hK hD hP hS (mm_37 (by decide)) (mk_37 0) 0 rfl (j := 1) (by decide) (fw_inc (by decide)) md_Mo_rest_50 (fun v6 H locs ev6 hP hS => ?_)
    refine lv_aload_n hx hb md_Mo_rest_51 rfl (lv_at hl 1 rfl) ?_
    refine fw_getr hx hb hts i_Mo hown hK hP (mm_0 (by decide)) (mk_0 0) rfl 35 (by decide) (hts _ L_Mo_113) (fun _ h9 => h9) rfl md_Mo_rest_52 ?_
    refine lv_iload_n hx hb md_Mo_rest_55 rfl (lv_at hl 2 rfl) ?_
    refine lv_iconst (v := (0 : Int32)) hx hb md_Mo_rest_56 (by decide) ?_
    refine fw_iast hx hb hK hD hP hS (mm_36 (by decide)) (mk_36 0) 0 rfl (j := 1) (by decide) (fw_inc (by decide)) md_Mo_rest_57 (fun v7 H locs ev7 hP hS => ?_)
    have hI : mI b v7 := by rw [ev7, ev6]; exact mI_clear (k := 1) hI
    refine lv_iconst (v := (3 : Int32)) hx hb md_Mo_rest_58 (by decide) ?_
    refine lv_iload_n hx hb md_Mo_rest_59 rfl (lv_at hl 2 rfl) ?_
    refine lv_imul hx hb md_Mo_rest_60 ?_
    refine fw_top (y := (3 : Int32)) (by decide) ?_
    refine lv_istore_n (lv' := [(3, .int (3 : Int32)), (2, .int (0 : Int32)), (0, .ref (ad 0 0)), (1, .int (1 : Int32))]) hx hb md_Mo_rest_61 rfl hl (by decide) rfl (fun ls hl => ?_)
    refine lv_iload_n hx hb md_Mo_rest_62 rfl (lv_at hl 0 rfl) ?_
    refine lv_iconst (v := (3 : Int32)) hx hb md_Mo_rest_63 (by decide) ?_
    refine lv_iload_n hx hb md_Mo_rest_64 rfl (lv_at hl 3 rfl) ?_
    refine lv_imul hx hb md_Mo_rest_65 ?_
    refine fw_top (y := (3 : Int32)) (by decide) ?_
    refine lv_iconst (v := (3 : Int32)) hx hb md_Mo_rest_66 (by decide) ?_
    refine lv_iadd hx hb md_Mo_rest_67 ?_
    refine fw_top (y := (6 : Int32)) (by decide) ?_
    refine lv_icmp_ge (tgt := 91) hx hb md_Mo_rest_68 (by decide) (fun c_8 => absurd c_8 (by decide)) (fun _ => ?_)
    refine lv_aload_n hx hb md_Mo_rest_71 rfl (lv_at hl 2 rfl) ?_
    refine fw_getr hx hb hts i_Mo hown hK hP (mm_0 (by decide)) (mk_0 0) rfl 42 (by decide) (hts _ L_Mo_134) (fun _ h9 => h9) rfl md_Mo_rest_72 ?_
    refine lv_iload_n hx hb md_Mo_rest_75 rfl (lv_at hl 0 rfl) ?_
    refine lv_iconst (v := (-1 : Int32)) hx hb md_Mo_rest_76 (by decide) ?_
    refine fw_iast hx hb hK hD hP hS (mm_43 (by decide)) (mk_43 0) 0 rfl (j := 3) (by decide) (fw_inc (by decide)) md_Mo_rest_77 (fun v9 H locs ev9 hP hS => ?_)
    have hI : mI b v9 := by rw [ev9]; exact mI_up hI (fw_inc (by decide)) trivial
    refine lv_aload_n hx hb md_Mo_rest_78 rfl (lv_at hl 2 rfl) ?_
    refine fw_getr hx hb hts i_Mo hown hK hP (mm_0 (by decide)) (mk_0 0) rfl 43 (by decide) (hts _ L_Mo_137) (fun _ h9 => h9) rfl md_Mo_rest_79 ?_
    refine lv_iload_n hx hb md_Mo_rest_82 rfl (lv_at hl 0 rfl) ?_
    refine lv_iconst (v := (-1 : Int32)) hx hb md_Mo_rest_83 (by decide) ?_
    refine fw_iast hx hb hK hD hP hS (mm_44 (by decide)) (mk_44 0) 0 rfl (j := 3) (by decide) (fw_inc (by decide)) md_Mo_rest_84 (fun v10 H locs ev10 hP hS => ?_)
    have hI : mI b v10 := by rw [ev10]; exact mI_up hI trivial trivial
    refine lv_iinc (v := (4 : Int32)) (lv' := [(3, .int (4 : Int32)), (2, .int (0 : Int32)), (0, .ref (ad 0 0)), (1, .int (1 : Int32))]) hx hb md_Mo_rest_85 hl (k := 0) rfl (by decide) (by decide) rfl (fun ls hl => ?_)
    refine lv_goto (tgt := 62) hx hb md_Mo_rest_88 (by decide) ?_
    refine lv_iload_n hx hb md_Mo_rest_62 rfl (lv_at hl 0 rfl) ?_
    refine lv_iconst (v := (3 : Int32)) hx hb md_Mo_rest_63 (by decide) ?_
    refine lv_iload_n hx hb md_Mo_rest_64 rfl (lv_at hl 3 rfl) ?_
    refine lv_imul hx hb md_Mo_rest_65 ?_
    refine fw_top (y := (3 : Int32)) (by decide) ?_
    refine lv_iconst (v := (3 : Int32)) hx hb md_Mo_rest_66 (by decide) ?_
    refine lv_iadd hx hb md_Mo_rest_67 ?_
    refine fw_top (y := (6 : Int32)) (by decide) ?_
    refine lv_icmp_ge (tgt := 91) hx hb md_Mo_rest_68 (by decide) (fun c_11 => absurd c_11 (by decide)) (fun _ => ?_)
    refine lv_aload_n hx hb md_Mo_rest_71 rfl (lv_at hl 2 rfl) ?_
    refine fw_getr hx hb hts i_Mo hown hK hP (mm_0 (by decide)) (mk_0 0) rfl 42 (by decide) (hts _ L_Mo_134) (fun _ h9 => h9) rfl md_Mo_rest_72 ?_
    refine lv_iload_n hx hb md_Mo_rest_75 rfl (lv_at hl 0 rfl) ?_
    refine lv_iconst (v := (-1 : Int32)) hx hb md_Mo_rest_76 (by decide) ?_
    refine fw_iast hx hb hK hD hP hS (mm_43 (by decide)) (mk_43 0) 0 rfl (j := 4) (by decide) (fw_inc (by decide)) md_Mo_rest_77 (fun v12 H locs ev12 hP hS => ?_)
    have hI : mI b v12 := by rw [ev12]; exact mI_up hI (fw_inc (by decide)) trivial
    refine lv_aload_n hx hb md_Mo_rest_78 rfl (lv_at hl 2 rfl) ?_
    refine fw_getr hx hb hts i_Mo hown hK hP (mm_0 (by decide)) (mk_0 0) rfl 43 (by decide) (hts _ L_Mo_137) (fun _ h9 => h9) rfl md_Mo_rest_79 ?_
    refine lv_iload_n hx hb md_Mo_rest_82 rfl (lv_at hl 0 rfl) ?_
    refine lv_iconst (v := (-1 : Int32)) hx hb md_Mo_rest_83 (by decide) ?_
    refine fw_iast hx hb hK hD hP hS (mm_44 (by decide)) (mk_44 0) 0 rfl (j := 4) (by decide) (fw_inc (by decide)) md_Mo_rest_84 (fun v13 H locs ev13 hP hS => ?_)
    have hI : mI b v13 := by rw [ev13]; exact mI_up hI trivial trivial
    refine lv_iinc (v := (5 : Int32)) (lv' := [(3, .int (5 : Int32)), (2, .int (0 : Int32)), (0, .ref (ad 0 0)), (1, .int (1 : Int32))]) hx hb md_Mo_rest_85 hl (k := 0) rfl (by decide) (by decide) rfl (fun ls hl => ?_)
    refine lv_goto (tgt := 62) hx hb md_Mo_rest_88 (by decide) ?_
    refine lv_iload_n hx hb md_Mo_rest_62 rfl (lv_at hl 0 rfl) ?_
    refine lv_iconst (v := (3 : Int32)) hx hb md_Mo_rest_63 (by decide) ?_
    refine lv_iload_n hx hb md_Mo_rest_64 rfl (lv_at hl 3 rfl) ?_
    refine lv_imul hx hb md_Mo_rest_65 ?_
    refine fw_top (y := (3 : Int32)) (by decide) ?_
    refine lv_iconst (v := (3 : Int32)) hx hb md_Mo_rest_66 (by decide) ?_
    refine lv_iadd hx hb md_Mo_rest_67 ?_
    refine fw_top (y := (6 : Int32)) (by decide) ?_
    refine lv_icmp_ge (tgt := 91) hx hb md_Mo_rest_68 (by decide) (fun c_14 => absurd c_14 (by decide)) (fun _ => ?_)
    refine lv_aload_n hx hb md_Mo_rest_71 rfl (lv_at hl 2 rfl) ?_
    refine fw_getr hx hb hts i_Mo hown hK hP (mm_0 (by decide)) (mk_0 0) rfl 42 (by decide) (hts _ L_Mo_134) (fun _ h9 => h9) rfl md_Mo_rest_72 ?_
    refine lv_iload_n hx hb md_Mo_rest_75 rfl (lv_at hl 0 rfl) ?_
    refine lv_iconst (v := (-1 : Int32)) hx hb md_Mo_rest_76 (by decide) ?_
    refine fw_iast hx hb hK hD hP hS (mm_43 (by decide)) (mk_43 0) 0 rfl (j := 5) (by decide) (fw_inc (by decide)) md_Mo_rest_77 (fun v15 H locs ev15 hP hS => ?_)
    have hI : mI b v15 := by rw [ev15]; exact mI_up hI (fw_inc (by decide)) trivial
    refine lv_aload_n hx hb md_Mo_rest_78 rfl (lv_at hl 2 rfl) ?_
    refine fw_getr hx hb hts i_Mo hown hK hP (mm_0 (by decide)) (mk_0 0) rfl 43 (by decide) (hts _ L_Mo_137) (fun _ h9 => h9) rfl md_Mo_rest_79 ?_
    refine lv_iload_n hx hb md_Mo_rest_82 rfl (lv_at hl 0 rfl) ?_
    refine lv_iconst (v := (-1 : Int32)) hx hb md_Mo_rest_83 (by decide) ?_
    refine fw_iast hx hb hK hD hP hS (mm_44 (by decide)) (mk_44 0) 0 rfl (j := 5) (by decide) (fw_inc (by decide)) md_Mo_rest_84 (fun v16 H locs ev16 hP hS => ?_)
    have hI : mI b v16 := by rw [ev16]; exact mI_up hI trivial trivial
    refine lv_iinc (v := (6 : Int32)) (lv' := [(3, .int (6 : Int32)), (2, .int (0 : Int32)), (0, .ref (ad 0 0)), (1, .int (1 : Int32))]) hx hb md_Mo_rest_85 hl (k := 0) rfl (by decide) (by decide) rfl (fun ls hl => ?_)
    refine lv_goto (tgt := 62) hx hb md_Mo_rest_88 (by decide) ?_
    refine lv_iload_n hx hb md_Mo_rest_62 rfl (lv_at hl 0 rfl) ?_
    refine lv_iconst (v := (3 : Int32)) hx hb md_Mo_rest_63 (by decide) ?_
    refine lv_iload_n hx hb md_Mo_rest_64 rfl (lv_at hl 3 rfl) ?_
    refine lv_imul hx hb md_Mo_rest_65 ?_
    refine fw_top (y := (3 : Int32)) (by decide) ?_
    refine lv_iconst (v := (3 : Int32)) hx hb md_Mo_rest_66 (by decide) ?_
    refine lv_iadd hx hb md_Mo_rest_67 ?_
    refine fw_top (y := (6 : Int32)) (by decide) ?_
    refine lv_icmp_ge (tgt := 91) hx hb md_Mo_rest_68 (by decide) (fun _ => ?_) (fun c_17 => absurd (by decide) c_17)
    refine lv_iconst (v := (0 : Int32)) hx hb md_Mo_rest_91 (by decide) ?_
    refine lv_istore_n (lv' := [(3, .int (0 : Int32)), (2, .int (0 : Int32)), (0, .ref (ad 0 0)), (1, .int (1 : Int32))]) hx hb md_Mo_rest_92 rfl hl (by decide) rfl (fun ls hl => ?_)
    exact J2 v16  _ _ _ (by rw [hj]; subst ev2 ev3 ev4 ev5 ev6 ev7 ev9 ev10 ev12 ev13 ev15 ev16; simp only [mf_Mo_rest_1_j1])   hI hP hS (lv_sub hl [2, 3, 1, 0] rfl)
  have J7 : ∀ (v : fw_V)  (H : Heap) (locs : List Loc) (ls : Array Slot), mf_Mo_rest_1 v0 = mf_Mo_rest_1_j7 v → mI b v → va_P D vcls (fw_w mCL cA mkd ad v) H → va_S (fw_A mCL ad) s.heap H locs → lv_has ls 4 [(0, .ref (ad 0 0)), (1, .int (1 : Int32)), (2, .int (1 : Int32)), (3, .int (3 : Int32))] → W p l e (headSpec (Cond.code my_Mo_rest mb_Mo_rest 4 none :: vTB) mrm_Mo_rest).room s m ([.ref (ad 0 0), .int (1 : Int32)] : List Value).toArray below meth c H locs 0 0 (MQ below (fw_Qv D vcls mCL cA mkd ad (mI b) (mf_Mo_rest_1 v0)) ([.ref (ad 0 0), .int (1 : Int32)] : List Value).toArray s 0 0 (fw_A mCL ad)) (F0 m 93 ls []) := by
    intro v  H locs ls hj  hI hP hS hl
    clear J2 J1
    refine lv_iload_n hx hb md_Mo_rest_93 rfl (lv_at hl 3 rfl) ?_
    refine lv_iconst (v := (3 : Int32)) hx hb md_Mo_rest_94 (by decide) ?_
    refine lv_icmp_ge (tgt := 114) hx hb md_Mo_rest_95 (by decide) (fun _ => ?_) (fun c_45 => absurd (by decide) c_45)
    exact fw_vret hx hb hr hlocks hS hP hI md_Mo_rest_114 (by rw [hj]; simp only [mf_Mo_rest_1_j7])
  have J6 : ∀ (v : fw_V)  (H : Heap) (locs : List Loc) (ls : Array Slot), mf_Mo_rest_1 v0 = mf_Mo_rest_1_j6 v → mI b v → va_P D vcls (fw_w mCL cA mkd ad v) H → va_S (fw_A mCL ad) s.heap H locs → lv_has ls 4 [(0, .ref (ad 0 0)), (1, .int (1 : Int32)), (2, .int (1 : Int32)), (3, .int (2 : Int32))] → W p l e (headSpec (Cond.code my_Mo_rest mb_Mo_rest 4 none :: vTB) mrm_Mo_rest).room s m ([.ref (ad 0 0), .int (1 : Int32)] : List Value).toArray below meth c H locs 0 0 (MQ below (fw_Qv D vcls mCL cA mkd ad (mI b) (mf_Mo_rest_1 v0)) ([.ref (ad 0 0), .int (1 : Int32)] : List Value).toArray s 0 0 (fw_A mCL ad)) (F0 m 93 ls []) := by
    intro v  H locs ls hj  hI hP hS hl
    clear J2 J1
    refine lv_iload_n hx hb md_Mo_rest_93 rfl (lv_at hl 3 rfl) ?_
    refine lv_iconst (v := (3 : Int32)) hx hb md_Mo_rest_94 (by decide) ?_
    refine lv_icmp_ge (tgt := 114) hx hb md_Mo_rest_95 (by decide) (fun c_42 => absurd c_42 (by decide)) (fun _ => ?_)
    refine lv_iload_n hx hb md_Mo_rest_98 rfl (lv_at hl 2 rfl) ?_
    refine lv_if_eq (tgt := 114) hx hb md_Mo_rest_99 (by decide) (fun c_43 => absurd c_43 (by decide)) (fun _ => ?_)
    refine lv_aload_n hx hb md_Mo_rest_102 rfl (lv_at hl 0 rfl) ?_
    refine lv_iload_n hx hb md_Mo_rest_103 rfl (lv_at hl 1 rfl) ?_
    refine lv_iload_n hx hb md_Mo_rest_104 rfl (lv_at hl 3 rfl) ?_
    refine fw_cv (va_runV (As := [.int (1 : Int32), .int (2 : Int32)]) (rest := []) ⟨hx, hb, hml, hown, hts⟩ (mc_Mo_replace_1 l hD v hI (2 : Int32) (fw_inc (by decide))) (mw_Mo_replace hts L_Mo_159 ⟨Nat.le_of_ble_eq_true rfl, Nat.le_of_ble_eq_true rfl⟩) (fw_preV hN hK hP (mm_0 (by decide)) (mk_0 0) rfl) rfl rfl hl.1 rfl (lv_room (Nat.le_of_ble_eq_true rfl)) md_Mo_rest_105 ⟨Nat.le_of_ble_eq_true rfl, Nat.le_of_ble_eq_true rfl⟩) hS (fun v44 H locs ev44 hI hP hS => ?_)
    refine lv_iinc (v := (3 : Int32)) (lv' := [(3, .int (3 : Int32)), (0, .ref (ad 0 0)), (1, .int (1 : Int32)), (2, .int (1 : Int32))]) hx hb md_Mo_rest_108 hl (k := 3) rfl (by decide) (by decide) rfl (fun ls hl => ?_)
    refine lv_goto (tgt := 93) hx hb md_Mo_rest_111 (by decide) ?_
    exact J7 v44  _ _ _ (by rw [hj]; subst ev44; simp only [mf_Mo_rest_1_j6])   hI hP hS (lv_sub hl [1, 2, 3, 0] rfl)
  have J5 : ∀ (v : fw_V)  (H : Heap) (locs : List Loc) (ls : Array Slot), mf_Mo_rest_1 v0 = mf_Mo_rest_1_j5 v → mI b v → va_P D vcls (fw_w mCL cA mkd ad v) H → va_S (fw_A mCL ad) s.heap H locs → lv_has ls 4 [(0, .ref (ad 0 0)), (1, .int (1 : Int32)), (2, .int (1 : Int32)), (3, .int (1 : Int32))] → W p l e (headSpec (Cond.code my_Mo_rest mb_Mo_rest 4 none :: vTB) mrm_Mo_rest).room s m ([.ref (ad 0 0), .int (1 : Int32)] : List Value).toArray below meth c H locs 0 0 (MQ below (fw_Qv D vcls mCL cA mkd ad (mI b) (mf_Mo_rest_1 v0)) ([.ref (ad 0 0), .int (1 : Int32)] : List Value).toArray s 0 0 (fw_A mCL ad)) (F0 m 93 ls []) := by
    intro v  H locs ls hj  hI hP hS hl
    clear J2 J1 J7
    refine lv_iload_n hx hb md_Mo_rest_93 rfl (lv_at hl 3 rfl) ?_
    refine lv_iconst (v := (3 : Int32)) hx hb md_Mo_rest_94 (by decide) ?_
    refine lv_icmp_ge (tgt := 114) hx hb md_Mo_rest_95 (by decide) (fun c_39 => absurd c_39 (by decide)) (fun _ => ?_)
    refine lv_iload_n hx hb md_Mo_rest_98 rfl (lv_at hl 2 rfl) ?_
    refine lv_if_eq (tgt := 114) hx hb md_Mo_rest_99 (by decide) (fun c_40 => absurd c_40 (by decide)) (fun _ => ?_)
    refine lv_aload_n hx hb md_Mo_rest_102 rfl (lv_at hl 0 rfl) ?_
    refine lv_iload_n hx hb md_Mo_rest_103 rfl (lv_at hl 1 rfl) ?_
    refine lv_iload_n hx hb md_Mo_rest_104 rfl (lv_at hl 3 rfl) ?_
    refine fw_cv (va_runV (As := [.int (1 : Int32), .int (1 : Int32)]) (rest := []) ⟨hx, hb, hml, hown, hts⟩ (mc_Mo_replace_1 l hD v hI (1 : Int32) (fw_inc (by decide))) (mw_Mo_replace hts L_Mo_159 ⟨Nat.le_of_ble_eq_true rfl, Nat.le_of_ble_eq_true rfl⟩) (fw_preV hN hK hP (mm_0 (by decide)) (mk_0 0) rfl) rfl rfl hl.1 rfl (lv_room (Nat.le_of_ble_eq_true rfl)) md_Mo_rest_105 ⟨Nat.le_of_ble_eq_true rfl, Nat.le_of_ble_eq_true rfl⟩) hS (fun v41 H locs ev41 hI hP hS => ?_)
    refine lv_iinc (v := (2 : Int32)) (lv' := [(3, .int (2 : Int32)), (0, .ref (ad 0 0)), (1, .int (1 : Int32)), (2, .int (1 : Int32))]) hx hb md_Mo_rest_108 hl (k := 3) rfl (by decide) (by decide) rfl (fun ls hl => ?_)
    refine lv_goto (tgt := 93) hx hb md_Mo_rest_111 (by decide) ?_
    exact J6 v41  _ _ _ (by rw [hj]; subst ev41; simp only [mf_Mo_rest_1_j5])   hI hP hS (lv_sub hl [1, 2, 3, 0] rfl)
  have J4 : ∀ (v : fw_V)  (H : Heap) (locs : List Loc) (ls : Array Slot), mf_Mo_rest_1 v0 = mf_Mo_rest_1_j4 v → mI b v → va_P D vcls (fw_w mCL cA mkd ad v) H → va_S (fw_A mCL ad) s.heap H locs → lv_has ls 4 [(0, .ref (ad 0 0)), (1, .int (1 : Int32)), (2, .int (1 : Int32)), (3, .int (0 : Int32))] → W p l e (headSpec (Cond.code my_Mo_rest mb_Mo_rest 4 none :: vTB) mrm_Mo_rest).room s m ([.ref (ad 0 0), .int (1 : Int32)] : List Value).toArray below meth c H locs 0 0 (MQ below (fw_Qv D vcls mCL cA mkd ad (mI b) (mf_Mo_rest_1 v0)) ([.ref (ad 0 0), .int (1 : Int32)] : List Value).toArray s 0 0 (fw_A mCL ad)) (F0 m 93 ls []) := by
    intro v  H locs ls hj  hI hP hS hl
    clear J2 J1 J7 J6
    refine lv_iload_n hx hb md_Mo_rest_93 rfl (lv_at hl 3 rfl) ?_
    refine lv_iconst (v := (3 : Int32)) hx hb md_Mo_rest_94 (by decide) ?_
    refine lv_icmp_ge (tgt := 114) hx hb md_Mo_rest_95 (by decide) (fun c_36 => absurd c_36 (by decide)) (fun _ => ?_)
    refine lv_iload_n hx hb md_Mo_rest_98 rfl (lv_at hl 2 rfl) ?_
    refine lv_if_eq (tgt := 114) hx hb md_Mo_rest_99 (by decide) (fun c_37 => absurd c_37 (by decide)) (fun _ => ?_)
    refine lv_aload_n hx hb md_Mo_rest_102 rfl (lv_at hl 0 rfl) ?_
    refine lv_iload_n hx hb md_Mo_rest_103 rfl (lv_at hl 1 rfl) ?_
    refine lv_iload_n hx hb md_Mo_rest_104 rfl (lv_at hl 3 rfl) ?_
    refine fw_cv (va_runV (As := [.int (1 : Int32), .int (0 : Int32)]) (rest := []) ⟨hx, hb, hml, hown, hts⟩ (mc_Mo_replace_1 l hD v hI (0 : Int32) (fw_inc (by decide))) (mw_Mo_replace hts L_Mo_159 ⟨Nat.le_of_ble_eq_true rfl, Nat.le_of_ble_eq_true rfl⟩) (fw_preV hN hK hP (mm_0 (by decide)) (mk_0 0) rfl) rfl rfl hl.1 rfl (lv_room (Nat.le_of_ble_eq_true rfl)) md_Mo_rest_105 ⟨Nat.le_of_ble_eq_true rfl, Nat.le_of_ble_eq_true rfl⟩) hS (fun v38 H locs ev38 hI hP hS => ?_)
    refine lv_iinc (v := (1 : Int32)) (lv' := [(3, .int (1 : Int32)), (0, .ref (ad 0 0)), (1, .int (1 : Int32)), (2, .int (1 : Int32))]) hx hb md_Mo_rest_108 hl (k := 3) rfl (by decide) (by decide) rfl (fun ls hl => ?_)
    refine lv_goto (tgt := 93) hx hb md_Mo_rest_111 (by decide) ?_
    exact J5 v38  _ _ _ (by rw [hj]; subst ev38; simp only [mf_Mo_rest_1_j4])   hI hP hS (lv_sub hl [1, 2, 3, 0] rfl)
  have J3 : ∀  (H : Heap) (locs : List Loc) (ls : Array Slot), mf_Mo_rest_1 v0 = mf_Mo_rest_1_j3 v0 → mI b v0 → va_P D vcls (fw_w mCL cA mkd ad v0) H → va_S (fw_A mCL ad) s.heap H locs → lv_has ls 4 [(0, .ref (ad 0 0)), (1, .int (1 : Int32))] → W p l e (headSpec (Cond.code my_Mo_rest mb_Mo_rest 4 none :: vTB) mrm_Mo_rest).room s m ([.ref (ad 0 0), .int (1 : Int32)] : List Value).toArray below meth c H locs 0 0 (MQ below (fw_Qv D vcls mCL cA mkd ad (mI b) (mf_Mo_rest_1 v0)) ([.ref (ad 0 0), .int (1 : Int32)] : List Value).toArray s 0 0 (fw_A mCL ad)) (F0 m 15 ls [.int (1 : Int32)]) := by
    intro  H locs ls hj  hI hP hS hl
    clear J2 J1 J7 J6 J5
    refine lv_istore_n (lv' := [(2, .int (1 : Int32)), (0, .ref (ad 0 0)), (1, .int (1 : Int32))]) hx hb md_Mo_rest_15 rfl hl (by decide) rfl (fun ls hl => ?_)
    refine lv_aload_n hx hb md_Mo_rest_16 rfl (lv_at hl 1 rfl) ?_
    refine fw_getr hx hb hts i_Mo hown hK hP (mm_0 (by decide)) (mk_0 0) rfl 27 (by decide) (hts _ L_Mo_89) (fun _ h9 => h9) rfl md_Mo_rest_17 ?_
    refine lv_iload_n hx hb md_Mo_rest_20 rfl (lv_at hl 2 rfl) ?_
    refine lv_iconst (v := (0 : Int32)) hx hb md_Mo_rest_21 (by decide) ?_
    refine fw_iast hx hb hK hD hP hS (mm_28 (by decide)) (mk_28 0) 0 rfl (j := 1) (by decide) (fw_inc (by decide)) md_Mo_rest_22 (fun v20 H locs ev20 hP hS => ?_)
    have hI : mI b v20 := by rw [ev20]; exact mI_up hI trivial trivial
    refine lv_aload_n hx hb md_Mo_rest_23 rfl (lv_at hl 1 rfl) ?_
    refine fw_getr hx hb hts i_Mo hown hK hP (mm_0 (by decide)) (mk_0 0) rfl 28 (by decide) (hts _ L_Mo_92) (fun _ h9 => h9) rfl md_Mo_rest_24 ?_
    refine lv_iload_n hx hb md_Mo_rest_27 rfl (lv_at hl 2 rfl) ?_
    refine lv_iconst (v := (0 : Int32)) hx hb md_Mo_rest_28 (by decide) ?_
    refine fw_iast hx hb hK hD hP hS (mm_29 (by decide)) (mk_29 0) 0 rfl (j := 1) (by decide) (fw_inc (by decide)) md_Mo_rest_29 (fun v21 H locs ev21 hP hS => ?_)
    have hI : mI b v21 := by rw [ev21]; exact mI_up hI trivial trivial
    refine lv_aload_n hx hb md_Mo_rest_30 rfl (lv_at hl 1 rfl) ?_
    refine fw_getr hx hb hts i_Mo hown hK hP (mm_0 (by decide)) (mk_0 0) rfl 30 (by decide) (hts _ L_Mo_98) (fun _ h9 => h9) rfl md_Mo_rest_31 ?_
    refine lv_iload_n hx hb md_Mo_rest_34 rfl (lv_at hl 2 rfl) ?_
    refine lv_iconst (v := (0 : Int32)) hx hb md_Mo_rest_35 (by decide) ?_
    refine fw_iast hx hb hK hD hP hS (mm_31 (by decide)) (mk_31 0) 0 rfl (j := 1) (by decide) (fw_inc (by decide)) md_Mo_rest_36 (fun v22 H locs ev22 hP hS => ?_)
    have hI : mI b v22 := by rw [ev22]; exact mI_up hI trivial trivial
    refine lv_aload_n hx hb md_Mo_rest_37 rfl (lv_at hl 1 rfl) ?_
    refine fw_getr hx hb hts i_Mo hown hK hP (mm_0 (by decide)) (mk_0 0) rfl 31 (by decide) (hts _ L_Mo_101) (fun _ h9 => h9) rfl md_Mo_rest_38 ?_
    refine lv_iload_n hx hb md_Mo_rest_41 rfl (lv_at hl 2 rfl) ?_
    refine lv_iconst (v := (0 : Int32)) hx hb md_Mo_rest_42 (by decide) ?_
    refine fw_iast hx hb hK hD hP hS (mm_32 (by decide)) (mk_32 0) 0 rfl (j := 1) (by decide) (fw_inc (by decide)) md_Mo_rest_43 (fun v23 H locs ev23 hP hS => ?_)
    have hI : mI b v23 := by rw [ev23]; exact mI_up hI trivial trivial
    refine lv_aload_n hx hb md_Mo_rest_44 rfl (lv_at hl 1 rfl) ?_
    refine fw_getr hx hb hts i_Mo hown hK hP (mm_0 (by decide)) (mk_0 0) rfl 36 (by decide) (hts _ L_Mo_116) (fun _ h9 => h9) rfl md_Mo_rest_45 ?_
    refine lv_iload_n hx hb md_Mo_rest_48 rfl (lv_at hl 2 rfl) ?_
    refine lv_iconst (v := (0 : Int32)) hx hb md_Mo_rest_49 (by decide) ?_
    refine fw_iast hx hb hK hD hP hS (mm_37 (by decide)) (mk_37 0) 0 rfl (j := 1) (by decide) (fw_inc (by decide)) md_Mo_rest_50 (fun v24 H locs ev24 hP hS => ?_)
    refine lv_aload_n hx hb md_Mo_rest_51 rfl (lv_at hl 1 rfl) ?_
    refine fw_getr hx hb hts i_Mo hown hK hP (mm_0 (by decide)) (mk_0 0) rfl 35 (by decide) (hts _ L_Mo_113) (fun _ h9 => h9) rfl md_Mo_rest_52 ?_
    refine lv_iload_n hx hb md_Mo_rest_55 rfl (lv_at hl 2 rfl) ?_
    refine lv_iconst (v := (0 : Int32)) hx hb md_Mo_rest_56 (by decide) ?_
    refine fw_iast hx hb hK hD hP hS (mm_36 (by decide)) (mk_36 0) 0 rfl (j := 1) (by decide) (fw_inc (by decide)) md_Mo_rest_57 (fun v25 H locs ev25 hP hS => ?_)
    have hI : mI b v25 := by rw [ev25, ev24]; exact mI_clear (k := 1) hI
    refine lv_iconst (v := (3 : Int32)) hx hb md_Mo_rest_58 (by decide) ?_
    refine lv_iload_n hx hb md_Mo_rest_59 rfl (lv_at hl 2 rfl) ?_
    refine lv_imul hx hb md_Mo_rest_60 ?_
    refine fw_top (y := (3 : Int32)) (by decide) ?_
    refine lv_istore_n (lv' := [(3, .int (3 : Int32)), (2, .int (1 : Int32)), (0, .ref (ad 0 0)), (1, .int (1 : Int32))]) hx hb md_Mo_rest_61 rfl hl (by decide) rfl (fun ls hl => ?_)
    refine lv_iload_n hx hb md_Mo_rest_62 rfl (lv_at hl 0 rfl) ?_
    refine lv_iconst (v := (3 : Int32)) hx hb md_Mo_rest_63 (by decide) ?_
    refine lv_iload_n hx hb md_Mo_rest_64 rfl (lv_at hl 3 rfl) ?_
    refine lv_imul hx hb md_Mo_rest_65 ?_
    refine fw_top (y := (3 : Int32)) (by decide) ?_
    refine lv_iconst (v := (3 : Int32)) hx hb md_Mo_rest_66 (by decide) ?_
    refine lv_iadd hx hb md_Mo_rest_67 ?_
    refine fw_top (y := (6 : Int32)) (by decide) ?_
    refine lv_icmp_ge (tgt := 91) hx hb md_Mo_rest_68 (by decide) (fun c_26 => absurd c_26 (by decide)) (fun _ => ?_)
    refine lv_aload_n hx hb md_Mo_rest_71 rfl (lv_at hl 2 rfl) ?_
    refine fw_getr hx hb hts i_Mo hown hK hP (mm_0 (by decide)) (mk_0 0) rfl 42 (by decide) (hts _ L_Mo_134) (fun _ h9 => h9) rfl md_Mo_rest_72 ?_
    refine lv_iload_n hx hb md_Mo_rest_75 rfl (lv_at hl 0 rfl) ?_
    refine lv_iconst (v := (-1 : Int32)) hx hb md_Mo_rest_76 (by decide) ?_
    refine fw_iast hx hb hK hD hP hS (mm_43 (by decide)) (mk_43 0) 0 rfl (j := 3) (by decide) (fw_inc (by decide)) md_Mo_rest_77 (fun v27 H locs ev27 hP hS => ?_)
    have hI : mI b v27 := by rw [ev27]; exact mI_up hI (fw_inc (by decide)) trivial
    refine lv_aload_n hx hb md_Mo_rest_78 rfl (lv_at hl 2 rfl) ?_
    refine fw_getr hx hb hts i_Mo hown hK hP (mm_0 (by decide)) (mk_0 0) rfl 43 (by decide) (hts _ L_Mo_137) (fun _ h9 => h9) rfl md_Mo_rest_79 ?_
    refine lv_iload_n hx hb md_Mo_rest_82 rfl (lv_at hl 0 rfl) ?_
    refine lv_iconst (v := (-1 : Int32)) hx hb md_Mo_rest_83 (by decide) ?_
    refine fw_iast hx hb hK hD hP hS (mm_44 (by decide)) (mk_44 0) 0 rfl (j := 3) (by decide) (fw_inc (by decide)) md_Mo_rest_84 (fun v28 H locs ev28 hP hS => ?_)
    have hI : mI b v28 := by rw [ev28]; exact mI_up hI trivial trivial
    refine lv_iinc (v := (4 : Int32)) (lv' := [(3, .int (4 : Int32)), (2, .int (1 : Int32)), (0, .ref (ad 0 0)), (1, .int (1 : Int32))]) hx hb md_Mo_rest_85 hl (k := 0) rfl (by decide) (by decide) rfl (fun ls hl => ?_)
    refine lv_goto (tgt := 62) hx hb md_Mo_rest_88 (by decide) ?_
    refine lv_iload_n hx hb md_Mo_rest_62 rfl (lv_at hl 0 rfl) ?_
    refine lv_iconst (v := (3 : Int32)) hx hb md_Mo_rest_63 (by decide) ?_
    refine lv_iload_n hx hb md_Mo_rest_64 rfl (lv_at hl 3 rfl) ?_
    refine lv_imul hx hb md_Mo_rest_65 ?_
    refine fw_top (y := (3 : Int32)) (by decide) ?_
    refine lv_iconst (v := (3 : Int32)) hx hb md_Mo_rest_66 (by decide) ?_
    refine lv_iadd hx hb md_Mo_rest_67 ?_
    refine fw_top (y := (6 : Int32)) (by decide) ?_
    refine lv_icmp_ge (tgt := 91) hx hb md_Mo_rest_68 (by decide) (fun c_29 => absurd c_29 (by decide)) (fun _ => ?_)
    refine lv_aload_n hx hb md_Mo_rest_71 rfl (lv_at hl 2 rfl) ?_
    refine fw_getr hx hb hts i_Mo hown hK hP (mm_0 (by decide)) (mk_0 0) rfl 42 (by decide) (hts _ L_Mo_134) (fun _ h9 => h9) rfl md_Mo_rest_72 ?_
    refine lv_iload_n hx hb md_Mo_rest_75 rfl (lv_at hl 0 rfl) ?_
    refine lv_iconst (v := (-1 : Int32)) hx hb md_Mo_rest_76 (by decide) ?_
    refine fw_iast hx hb hK hD hP hS (mm_43 (by decide)) (mk_43 0) 0 rfl (j := 4) (by decide) (fw_inc (by decide)) md_Mo_rest_77 (fun v30 H locs ev30 hP hS => ?_)
    have hI : mI b v30 := by rw [ev30]; exact mI_up hI (fw_inc (by decide)) trivial
    refine lv_aload_n hx hb md_Mo_rest_78 rfl (lv_at hl 2 rfl) ?_
    refine fw_getr hx hb hts i_Mo hown hK hP (mm_0 (by decide)) (mk_0 0) rfl 43 (by decide) (hts _ L_Mo_137) (fun _ h9 => h9) rfl md_Mo_rest_79 ?_
    refine lv_iload_n hx hb md_Mo_rest_82 rfl (lv_at hl 0 rfl) ?_
    refine lv_iconst (v := (-1 : Int32)) hx hb md_Mo_rest_83 (by decide) ?_
    refine fw_iast hx hb hK hD hP hS (mm_44 (by decide)) (mk_44 0) 0 rfl (j := 4) (by decide) (fw_inc (by decide)) md_Mo_rest_84 (fun v31 H locs ev31 hP hS => ?_)
    have hI : mI b v31 := by rw [ev31]; exact mI_up hI trivial trivial
    refine lv_iinc (v := (5 : Int32)) (lv' := [(3, .int (5 : Int32)), (2, .int (1 : Int32)), (0, .ref (ad 0 0)), (1, .int (1 : Int32))]) hx hb md_Mo_rest_85 hl (k := 0) rfl (by decide) (by decide) rfl (fun ls hl => ?_)
    refine lv_goto (tgt := 62) hx hb md_Mo_rest_88 (by decide) ?_
    refine lv_iload_n hx hb md_Mo_rest_62 rfl (lv_at hl 0 rfl) ?_
    refine lv_iconst (v := (3 : Int32)) hx hb md_Mo_rest_63 (by decide) ?_
    refine lv_iload_n hx hb md_Mo_rest_64 rfl (lv_at hl 3 rfl) ?_
    refine lv_imul hx hb md_Mo_rest_65 ?_
    refine fw_top (y := (3 : Int32)) (by decide) ?_
    refine lv_iconst (v := (3 : Int32)) hx hb md_Mo_rest_66 (by decide) ?_
    refine lv_iadd hx hb md_Mo_rest_67 ?_
    refine fw_top (y := (6 : Int32)) (by decide) ?_
    refine lv_icmp_ge (tgt := 91) hx hb md_Mo_rest_68 (by decide) (fun c_32 => absurd c_32 (by decide)) (fun _ => ?_)
    refine lv_aload_n hx hb md_Mo_rest_71 rfl (lv_at hl 2 rfl) ?_
    refine fw_getr hx hb hts i_Mo hown hK hP (mm_0 (by decide)) (mk_0 0) rfl 42 (by decide) (hts _ L_Mo_134) (fun _ h9 => h9) rfl md_Mo_rest_72 ?_
    refine lv_iload_n hx hb md_Mo_rest_75 rfl (lv_at hl 0 rfl) ?_
    refine lv_iconst (v := (-1 : Int32)) hx hb md_Mo_rest_76 (by decide) ?_
    refine fw_iast hx hb hK hD hP hS (mm_43 (by decide)) (mk_43 0) 0 rfl (j := 5) (by decide) (fw_inc (by decide)) md_Mo_rest_77 (fun v33 H locs ev33 hP hS => ?_)
    have hI : mI b v33 := by rw [ev33]; exact mI_up hI (fw_inc (by decide)) trivial
    refine lv_aload_n hx hb md_Mo_rest_78 rfl (lv_at hl 2 rfl) ?_
    refine fw_getr hx hb hts i_Mo hown hK hP (mm_0 (by decide)) (mk_0 0) rfl 43 (by decide) (hts _ L_Mo_137) (fun _ h9 => h9) rfl md_Mo_rest_79 ?_
    refine lv_iload_n hx hb md_Mo_rest_82 rfl (lv_at hl 0 rfl) ?_
    refine lv_iconst (v := (-1 : Int32)) hx hb md_Mo_rest_83 (by decide) ?_
    refine fw_iast hx hb hK hD hP hS (mm_44 (by decide)) (mk_44 0) 0 rfl (j := 5) (by decide) (fw_inc (by decide)) md_Mo_rest_84 (fun v34 H locs ev34 hP hS => ?_)
    have hI : mI b v34 := by rw [ev34]; exact mI_up hI trivial trivial
    refine lv_iinc (v := (6 : Int32)) (lv' := [(3, .int (6 : Int32)), (2, .int (1 : Int32)), (0, .ref (ad 0 0)), (1, .int (1 : Int32))]) hx hb md_Mo_rest_85 hl (k := 0) rfl (by decide) (by decide) rfl (fun ls hl => ?_)
    refine lv_goto (tgt := 62) hx hb md_Mo_rest_88 (by decide) ?_
    refine lv_iload_n hx hb md_Mo_rest_62 rfl (lv_at hl 0 rfl) ?_
    refine lv_iconst (v := (3 : Int32)) hx hb md_Mo_rest_63 (by decide) ?_
    refine lv_iload_n hx hb md_Mo_rest_64 rfl (lv_at hl 3 rfl) ?_
    refine lv_imul hx hb md_Mo_rest_65 ?_
    refine fw_top (y := (3 : Int32)) (by decide) ?_
    refine lv_iconst (v := (3 : Int32)) hx hb md_Mo_rest_66 (by decide) ?_
    refine lv_iadd hx hb md_Mo_rest_67 ?_
    refine fw_top (y := (6 : Int32)) (by decide) ?_
    refine lv_icmp_ge (tgt := 91) hx hb md_Mo_rest_68 (by decide) (fun _ => ?_) (fun c_35 => absurd (by decide) c_35)
    refine lv_iconst (v := (0 : Int32)) hx hb md_Mo_rest_91 (by decide) ?_
    refine lv_istore_n (lv' := [(3, .int (0 : Int32)), (2, .int (1 : Int32)), (0, .ref (ad 0 0)), (1, .int (1 : Int32))]) hx hb md_Mo_rest_92 rfl hl (by decide) rfl (fun ls hl => ?_)
    exact J4 v34  _ _ _ (by rw [hj]; subst ev20 ev21 ev22 ev23 ev24 ev25 ev27 ev28 ev30 ev31 ev33 ev34; simp only [mf_Mo_rest_1_j3])   hI hP hS (lv_sub hl [2, 3, 1, 0] rfl)
  clear J2 J7 J6 J5 J4
  have hl := lv_entry ([.ref (ad 0 0), .int (1 : Int32)]) (n := 4) (Nat.le_of_ble_eq_true rfl)
  rw [lg_entry_eq]
  generalize (lg_sl ([.ref (ad 0 0), .int (1 : Int32)]) ++ List.replicate (4 - (lg_sl ([.ref (ad 0 0), .int (1 : Int32)])).length) Slot.unset).toArray = ls at hl ⊢
  have hl : lv_has ls 4 [(0, .ref (ad 0 0)), (1, .int (1 : Int32))] := hl
  refine lv_aload_n hx hb md_Mo_rest_0 rfl (lv_at hl 0 rfl) ?_
  refine fw_getr hx hb hts i_Mo hown hK hP (mm_0 (by decide)) (mk_0 0) rfl 27 (by decide) (hts _ L_Mo_89) (fun _ h9 => h9) rfl md_Mo_rest_1 ?_
  refine lv_iload_n hx hb md_Mo_rest_4 rfl (lv_at hl 1 rfl) ?_
  refine fw_iald hx hb hK hP (mm_28 (by decide)) (mk_28 0) 0 rfl (j := 1) (by decide) (fw_inc (by decide)) md_Mo_rest_5 ?_
  refine lv_iconst (v := (3 : Int32)) hx hb md_Mo_rest_6 (by decide) ?_
  refine lv_icmp_ne (tgt := 14) hx hb md_Mo_rest_7 (by decide) (fun c_1 => ?_) (fun c_1 => ?_)
  · refine lv_iconst (v := (0 : Int32)) hx hb md_Mo_rest_14 (by decide) ?_
    exact J1  _ _ _ (by simp only [mf_Mo_rest_1, if_neg c_1])   hI hP hS (lv_sub hl [0, 1] rfl)
  · refine lv_iconst (v := (1 : Int32)) hx hb md_Mo_rest_10 (by decide) ?_
    refine lv_goto (tgt := 15) hx hb md_Mo_rest_11 (by decide) ?_
    exact J3  _ _ _ (by simp only [mf_Mo_rest_1, if_pos c_1])   hI hP hS (lv_sub hl [0, 1] rfl)
def mf_Mo_quit_0 (v0 : fw_V) : fw_V :=
  let v1 := mf_Mo_reply_0 v0 (16 : Int32) (0 : Int32)
  let v2 := mf_Mo_rest_0 v1
  v2

theorem mca_Mo_quit_0 {v0 : fw_V} {i k : Nat} : mf_Mo_quit_0 v0 10 i k = v0 10 i k := by
  unfold mf_Mo_quit_0
  try dsimp only
  all_goals ((repeat' split) <;> simp [fw_up, fw_row, mca_Mo_reply_0, mca_Mo_rest_0])
set_option maxHeartbeats 4000000 in
set_option maxRecDepth 100000 in
theorem mc_Mo_quit_0 (l : Launch) {D : va_G} {cA : Nat → ClassId} {ad : Nat → Nat → Nat} (hD : fw_D mCL ad) {b : Nat} (v0 : fw_V) (hI : mI b v0)   : Met l my_Mo_quit (Cond.code my_Mo_quit mb_Mo_quit 2 none :: vTB) mrm_Mo_quit (fw_Pc vNL D vcls (vtys cA) mCL cA mkd ad v0 [.ref (ad 0 0), .int (0 : Int32)]) (fw_Qv D vcls mCL cA mkd ad (mI b) (mf_Mo_quit_0 v0)) 0 0 (fw_A mCL ad) := by
  refine Met.ofW (cc := mb_Mo_quit) (maxL := 2) (ret := none) (by decide) rfl ?_
  intro p e s m args below meth c s₁ B hml hv
  obtain ⟨rfl, hP, hK, hN⟩ := hv
  have hx := B.exec
  have hb := B.bytes
  have hr := B.returns
  have hts : ∀ w ∈ vTB, w.before ([.ref (ad 0 0), .int (0 : Int32)] : List Value).toArray s = true := fun w h => atoms_spec (ws := (Cond.code my_Mo_quit mb_Mo_quit 2 none :: vTB)) B.pre w (List.mem_cons_of_mem _ h)
  have hown : s.vm.findClass R_Mo = some m.cls := findClass_of_methodNamed B.named
  have hlocks := B.notSynchronized
  have hS : va_S (fw_A mCL ad) s.heap s.heap [] := va_S.rf
  skip
  have hl := lv_entry ([.ref (ad 0 0), .int (0 : Int32)]) (n := 2) (Nat.le_of_ble_eq_true rfl)
  rw [lg_entry_eq]
  generalize (lg_sl ([.ref (ad 0 0), .int (0 : Int32)]) ++ List.replicate (2 - (lg_sl ([.ref (ad 0 0), .int (0 : Int32)])).length) Slot.unset).toArray = ls at hl ⊢
  have hl : lv_has ls 2 [(0, .ref (ad 0 0)), (1, .int (0 : Int32))] := hl
  refine lv_aload_n hx hb md_Mo_quit_0 rfl (lv_at hl 0 rfl) ?_
  refine lv_iload_n hx hb md_Mo_quit_1 rfl (lv_at hl 1 rfl) ?_
  refine lv_bipush (v := (16 : Int32)) hx hb md_Mo_quit_2 (by decide) ?_
  refine lv_iconst (v := (0 : Int32)) hx hb md_Mo_quit_4 (by decide) ?_
  refine fw_cv (va_runV (As := [.int (0 : Int32), .int (16 : Int32), .int (0 : Int32)]) (rest := []) ⟨hx, hb, hml, hown, hts⟩ (mc_Mo_reply_0 l hD v0 hI (16 : Int32) (0 : Int32) (fun q => absurd q (by decide)) (by decide) (by decide)) (mw_Mo_reply hts L_Mo_238 ⟨Nat.le_of_ble_eq_true rfl, Nat.le_of_ble_eq_true rfl⟩) (fw_preV hN hK hP (mm_0 (by decide)) (mk_0 0) rfl) rfl rfl hl.1 rfl (lv_room (Nat.le_of_ble_eq_true rfl)) md_Mo_quit_5 ⟨Nat.le_of_ble_eq_true rfl, Nat.le_of_ble_eq_true rfl⟩) hS (fun v1 H locs ev1 hI hP hS => ?_)
  refine lv_aload_n hx hb md_Mo_quit_8 rfl (lv_at hl 0 rfl) ?_
  refine lv_iload_n hx hb md_Mo_quit_9 rfl (lv_at hl 1 rfl) ?_
  refine fw_cv (va_runV (As := [.int (0 : Int32)]) (rest := []) ⟨hx, hb, hml, hown, hts⟩ (mc_Mo_rest_0 l hD v1 hI ) (mw_Mo_rest hts L_Mo_241 ⟨Nat.le_of_ble_eq_true rfl, Nat.le_of_ble_eq_true rfl⟩) (fw_preV hN hK hP (mm_0 (by decide)) (mk_0 0) rfl) rfl rfl hl.1 rfl (lv_room (Nat.le_of_ble_eq_true rfl)) md_Mo_quit_10 ⟨Nat.le_of_ble_eq_true rfl, Nat.le_of_ble_eq_true rfl⟩) hS (fun v2 H locs ev2 hI hP hS => ?_)
  exact fw_vret hx hb hr hlocks hS hP hI md_Mo_quit_13 (by subst ev1 ev2; simp only [mf_Mo_quit_0])
def mf_Mo_quit_1 (v0 : fw_V) : fw_V :=
  let v1 := mf_Mo_reply_1 v0 (16 : Int32) (0 : Int32)
  let v2 := mf_Mo_rest_1 v1
  v2

theorem mca_Mo_quit_1 {v0 : fw_V} {i k : Nat} : mf_Mo_quit_1 v0 10 i k = v0 10 i k := by
  unfold mf_Mo_quit_1
  try dsimp only
  all_goals ((repeat' split) <;> simp [fw_up, fw_row, mca_Mo_reply_1, mca_Mo_rest_1])
set_option maxHeartbeats 4000000 in
set_option maxRecDepth 100000 in
theorem mc_Mo_quit_1 (l : Launch) {D : va_G} {cA : Nat → ClassId} {ad : Nat → Nat → Nat} (hD : fw_D mCL ad) {b : Nat} (v0 : fw_V) (hI : mI b v0)   : Met l my_Mo_quit (Cond.code my_Mo_quit mb_Mo_quit 2 none :: vTB) mrm_Mo_quit (fw_Pc vNL D vcls (vtys cA) mCL cA mkd ad v0 [.ref (ad 0 0), .int (1 : Int32)]) (fw_Qv D vcls mCL cA mkd ad (mI b) (mf_Mo_quit_1 v0)) 0 0 (fw_A mCL ad) := by
  refine Met.ofW (cc := mb_Mo_quit) (maxL := 2) (ret := none) (by decide) rfl ?_
  intro p e s m args below meth c s₁ B hml hv
  obtain ⟨rfl, hP, hK, hN⟩ := hv
  have hx := B.exec
  have hb := B.bytes
  have hr := B.returns
  have hts : ∀ w ∈ vTB, w.before ([.ref (ad 0 0), .int (1 : Int32)] : List Value).toArray s = true := fun w h => atoms_spec (ws := (Cond.code my_Mo_quit mb_Mo_quit 2 none :: vTB)) B.pre w (List.mem_cons_of_mem _ h)
  have hown : s.vm.findClass R_Mo = some m.cls := findClass_of_methodNamed B.named
  have hlocks := B.notSynchronized
  have hS : va_S (fw_A mCL ad) s.heap s.heap [] := va_S.rf
  skip
  have hl := lv_entry ([.ref (ad 0 0), .int (1 : Int32)]) (n := 2) (Nat.le_of_ble_eq_true rfl)
  rw [lg_entry_eq]
  generalize (lg_sl ([.ref (ad 0 0), .int (1 : Int32)]) ++ List.replicate (2 - (lg_sl ([.ref (ad 0 0), .int (1 : Int32)])).length) Slot.unset).toArray = ls at hl ⊢
  have hl : lv_has ls 2 [(0, .ref (ad 0 0)), (1, .int (1 : Int32))] := hl
  refine lv_aload_n hx hb md_Mo_quit_0 rfl (lv_at hl 0 rfl) ?_
  refine lv_iload_n hx hb md_Mo_quit_1 rfl (lv_at hl 1 rfl) ?_
  refine lv_bipush (v := (16 : Int32)) hx hb md_Mo_quit_2 (by decide) ?_
  refine lv_iconst (v := (0 : Int32)) hx hb md_Mo_quit_4 (by decide) ?_
  refine fw_cv (va_runV (As := [.int (1 : Int32), .int (16 : Int32), .int (0 : Int32)]) (rest := []) ⟨hx, hb, hml, hown, hts⟩ (mc_Mo_reply_1 l hD v0 hI (16 : Int32) (0 : Int32) (fun q => absurd q (by decide)) (by decide) (by decide)) (mw_Mo_reply hts L_Mo_238 ⟨Nat.le_of_ble_eq_true rfl, Nat.le_of_ble_eq_true rfl⟩) (fw_preV hN hK hP (mm_0 (by decide)) (mk_0 0) rfl) rfl rfl hl.1 rfl (lv_room (Nat.le_of_ble_eq_true rfl)) md_Mo_quit_5 ⟨Nat.le_of_ble_eq_true rfl, Nat.le_of_ble_eq_true rfl⟩) hS (fun v1 H locs ev1 hI hP hS => ?_)
  refine lv_aload_n hx hb md_Mo_quit_8 rfl (lv_at hl 0 rfl) ?_
  refine lv_iload_n hx hb md_Mo_quit_9 rfl (lv_at hl 1 rfl) ?_
  refine fw_cv (va_runV (As := [.int (1 : Int32)]) (rest := []) ⟨hx, hb, hml, hown, hts⟩ (mc_Mo_rest_1 l hD v1 hI ) (mw_Mo_rest hts L_Mo_241 ⟨Nat.le_of_ble_eq_true rfl, Nat.le_of_ble_eq_true rfl⟩) (fw_preV hN hK hP (mm_0 (by decide)) (mk_0 0) rfl) rfl rfl hl.1 rfl (lv_room (Nat.le_of_ble_eq_true rfl)) md_Mo_quit_10 ⟨Nat.le_of_ble_eq_true rfl, Nat.le_of_ble_eq_true rfl⟩) hS (fun v2 H locs ev2 hI hP hS => ?_)
  exact fw_vret hx hb hr hlocks hS hP hI md_Mo_quit_13 (by subst ev1 ev2; simp only [mf_Mo_quit_1])
def mf_Mo_outsAt (v0 : fw_V) (a1 : Int32) : Int32 :=
  if (0 : Int32) ≤ (v0 42 0 a1.toNatClampNeg) then
    (v0 2 0 (v0 42 0 a1.toNatClampNeg).toNatClampNeg)
  else
    (0 : Int32)

set_option maxHeartbeats 4000000 in
set_option maxRecDepth 100000 in
theorem mc_Mo_outsAt (l : Launch) {D : va_G} {cA : Nat → ClassId} {ad : Nat → Nat → Nat} (hD : fw_D mCL ad) {b : Nat} (v0 : fw_V) (hI : mI b v0) (a1 : Int32) (hq0 : vp_in a1 6) : Met l my_Mo_outsAt (Cond.code my_Mo_outsAt mb_Mo_outsAt 2 (some .int) :: vTB) mrm_Mo_outsAt (fw_Pc vNL D vcls (vtys cA) mCL cA mkd ad v0 [.ref (ad 0 0), .int a1]) (fw_Qo D vcls mCL cA mkd ad v0 (mf_Mo_outsAt v0 a1)) 0 0 (fw_A mCL ad) := by
  refine Met.ofW (cc := mb_Mo_outsAt) (maxL := 2) (ret := (some .int)) (by decide) rfl ?_
  intro p e s m args below meth c s₁ B hml hv
  obtain ⟨rfl, hP, hK, hN⟩ := hv
  have hx := B.exec
  have hb := B.bytes
  have hr := B.returns
  have hts : ∀ w ∈ vTB, w.before ([.ref (ad 0 0), .int a1] : List Value).toArray s = true := fun w h => atoms_spec (ws := (Cond.code my_Mo_outsAt mb_Mo_outsAt 2 (some .int) :: vTB)) B.pre w (List.mem_cons_of_mem _ h)
  have hown : s.vm.findClass R_Mo = some m.cls := findClass_of_methodNamed B.named
  have hlocks := B.notSynchronized
  have hS : va_S (fw_A mCL ad) s.heap s.heap [] := va_S.rf
  skip
  have hl := lv_entry ([.ref (ad 0 0), .int a1]) (n := 2) (Nat.le_of_ble_eq_true rfl)
  rw [lg_entry_eq]
  generalize (lg_sl ([.ref (ad 0 0), .int a1]) ++ List.replicate (2 - (lg_sl ([.ref (ad 0 0), .int a1])).length) Slot.unset).toArray = ls at hl ⊢
  have hl : lv_has ls 2 [(0, .ref (ad 0 0)), (1, .int a1)] := hl
  refine lv_aload_n hx hb md_Mo_outsAt_0 rfl (lv_at hl 0 rfl) ?_
  refine fw_getr hx hb hts i_Mo hown hK hP (mm_0 (by decide)) (mk_0 0) rfl 41 (by decide) (hts _ L_Mo_131) (fun _ h9 => h9) rfl md_Mo_outsAt_1 ?_
  refine lv_iload_n hx hb md_Mo_outsAt_4 rfl (lv_at hl 1 rfl) ?_
  refine fw_iald hx hb hK hP (mm_42 (by decide)) (mk_42 0) 0 rfl (j := a1.toNatClampNeg) rfl hq0 md_Mo_outsAt_5 ?_
  have h_1 : vp_in ((v0 42 0 a1.toNatClampNeg) + 1) 9 := hI.1 42 0 (a1.toNatClampNeg)
  refine lv_if_ge (tgt := 13) hx hb md_Mo_outsAt_6 (by decide) (fun c_2 => ?_) (fun c_2 => ?_)
  · have h_3 : vp_in (v0 42 0 a1.toNatClampNeg) 8 := fw_m8' h_1 c_2
    refine lv_aload_n hx hb md_Mo_outsAt_13 rfl (lv_at hl 0 rfl) ?_
    refine fw_getr hx hb hts i_Mo hown hK hP (mm_0 (by decide)) (mk_0 0) rfl 1 (by decide) (hts _ L_Mo_13) (fun _ h9 => h9) rfl md_Mo_outsAt_14 ?_
    refine lv_aload_n hx hb md_Mo_outsAt_17 rfl (lv_at hl 0 rfl) ?_
    refine fw_getr hx hb hts i_Mo hown hK hP (mm_0 (by decide)) (mk_0 0) rfl 41 (by decide) (hts _ L_Mo_131) (fun _ h9 => h9) rfl md_Mo_outsAt_18 ?_
    refine lv_iload_n hx hb md_Mo_outsAt_21 rfl (lv_at hl 1 rfl) ?_
    refine fw_iald hx hb hK hP (mm_42 (by decide)) (mk_42 0) 0 rfl (j := a1.toNatClampNeg) rfl hq0 md_Mo_outsAt_22 ?_
    refine fw_iald hx hb hK hP (mm_2 (by decide)) (mk_2 0) 0 rfl (j := (v0 42 0 a1.toNatClampNeg).toNatClampNeg) rfl h_3 md_Mo_outsAt_23 ?_
    exact fw_oret hx hb hr hlocks hS hP md_Mo_outsAt_24 (by simp only [mf_Mo_outsAt, if_pos c_2])
  · refine lv_iconst (v := (0 : Int32)) hx hb md_Mo_outsAt_9 (by decide) ?_
    refine lv_goto (tgt := 24) hx hb md_Mo_outsAt_10 (by decide) ?_
    exact fw_oret hx hb hr hlocks hS hP md_Mo_outsAt_24 (by simp only [mf_Mo_outsAt, if_neg c_2])
def mf_Mo_obeys_0_j9 (v : fw_V) (a2 : Int32) (a3 : Int32)  : fw_V :=
  v
def mf_Mo_obeys_0_j8 (v : fw_V) (a2 : Int32) (a3 : Int32)  : fw_V :=
  if ((0 : Int32) + (v 37 0 0)) ≤ (2 : Int32) then
    v
  else
    let v36 := fw_up v 47 0 (2) (v 47 0 3)
    let v37 := fw_up v36 48 0 (2) (v36 48 0 3)
    mf_Mo_obeys_0_j9 v37 a2 a3
def mf_Mo_obeys_0_j7 (v : fw_V) (a2 : Int32) (a3 : Int32)  : fw_V :=
  if ((0 : Int32) + (v 37 0 0)) ≤ (1 : Int32) then
    v
  else
    let v31 := fw_up v 47 0 (1) (v 47 0 2)
    let v32 := fw_up v31 48 0 (1) (v31 48 0 2)
    mf_Mo_obeys_0_j8 v32 a2 a3
def mf_Mo_obeys_0_j6 (v : fw_V) (a2 : Int32) (a3 : Int32)  : fw_V :=
  if ((0 : Int32) + (v 37 0 0)) ≤ (0 : Int32) then
    v
  else
    let v26 := fw_up v 47 0 (0) (v 47 0 1)
    let v27 := fw_up v26 48 0 (0) (v26 48 0 1)
    mf_Mo_obeys_0_j7 v27 a2 a3
def mf_Mo_obeys_0_j5 (v0 : fw_V) (a2 : Int32) (a3 : Int32)  : fw_V :=
  if a2 = (15 : Int32) then
    if (v0 28 0 0) = (3 : Int32) then
      if (v0 36 0 0) ≤ (0 : Int32) then
        if a2 = (16 : Int32) then
          let v14 := mf_Mo_rest_0 v0
          v14
        else
          v0
      else
        if (v0 36 0 0) = a3 then
          let v19 := fw_up v0 36 0 (0) (0 : Int32)
          let v22 := fw_up v19 37 0 (0) ((v19 37 0 0) - (1 : Int32))
          mf_Mo_obeys_0_j6 v22 a2 a3
        else
          if a2 = (16 : Int32) then
            let v18 := mf_Mo_rest_0 v0
            v18
          else
            v0
    else
      if a2 = (16 : Int32) then
        let v11 := mf_Mo_rest_0 v0
        v11
      else
        v0
  else
    if a2 = (16 : Int32) then
      let v8 := mf_Mo_rest_0 v0
      v8
    else
      v0
def mf_Mo_obeys_0_j22 (v : fw_V) (a2 : Int32) (a3 : Int32)  : fw_V :=
  v
def mf_Mo_obeys_0_j21 (v : fw_V) (a2 : Int32) (a3 : Int32)  : fw_V :=
  mf_Mo_obeys_0_j22 v a2 a3
def mf_Mo_obeys_0_j23 (v : fw_V) (a2 : Int32) (a3 : Int32)  : fw_V :=
  let v67 := fw_up v 46 0 (5) (0 : Int32)
  mf_Mo_obeys_0_j21 v67 a2 a3
def mf_Mo_obeys_0_j24 (v : fw_V) (a2 : Int32) (a3 : Int32) (x90 : Int32) : fw_V :=
  let v68 := fw_up v 46 0 (5) x90
  mf_Mo_obeys_0_j21 v68 a2 a3
def mf_Mo_obeys_0_j20 (v : fw_V) (a2 : Int32) (a3 : Int32)  : fw_V :=
  let r61 := mf_Mo_isGood_0 v (2 : Int32)
  if r61 = (0 : Int32) then
    mf_Mo_obeys_0_j21 v a2 a3
  else
    let r65 := mf_Mo_outsAt v (2 : Int32)
    if r65 ≤ (1 : Int32) then
      mf_Mo_obeys_0_j23 v a2 a3
    else
      mf_Mo_obeys_0_j24 v a2 a3 ((v 10 0 5))
def mf_Mo_obeys_0_j19 (v : fw_V) (a2 : Int32) (a3 : Int32)  : fw_V :=
  mf_Mo_obeys_0_j20 v a2 a3
def mf_Mo_obeys_0_j25 (v : fw_V) (a2 : Int32) (a3 : Int32)  : fw_V :=
  let v72 := fw_up v 46 0 (4) (0 : Int32)
  mf_Mo_obeys_0_j19 v72 a2 a3
def mf_Mo_obeys_0_j26 (v : fw_V) (a2 : Int32) (a3 : Int32) (x90 : Int32) : fw_V :=
  let v73 := fw_up v 46 0 (4) x90
  mf_Mo_obeys_0_j19 v73 a2 a3
def mf_Mo_obeys_0_j18 (v : fw_V) (a2 : Int32) (a3 : Int32)  : fw_V :=
  let r58 := mf_Mo_isGood_0 v (2 : Int32)
  if r58 = (0 : Int32) then
    mf_Mo_obeys_0_j19 v a2 a3
  else
    let r70 := mf_Mo_outsAt v (2 : Int32)
    if r70 ≤ (0 : Int32) then
      mf_Mo_obeys_0_j25 v a2 a3
    else
      mf_Mo_obeys_0_j26 v a2 a3 ((v 10 0 4))
def mf_Mo_obeys_0_j17 (v : fw_V) (a2 : Int32) (a3 : Int32)  : fw_V :=
  mf_Mo_obeys_0_j18 v a2 a3
def mf_Mo_obeys_0_j27 (v : fw_V) (a2 : Int32) (a3 : Int32)  : fw_V :=
  let v77 := fw_up v 46 0 (3) (0 : Int32)
  mf_Mo_obeys_0_j17 v77 a2 a3
def mf_Mo_obeys_0_j28 (v : fw_V) (a2 : Int32) (a3 : Int32) (x90 : Int32) : fw_V :=
  let v78 := fw_up v 46 0 (3) x90
  mf_Mo_obeys_0_j17 v78 a2 a3
def mf_Mo_obeys_0_j16 (v : fw_V) (a2 : Int32) (a3 : Int32)  : fw_V :=
  let r55 := mf_Mo_isGood_0 v (1 : Int32)
  if r55 = (0 : Int32) then
    mf_Mo_obeys_0_j17 v a2 a3
  else
    let r75 := mf_Mo_outsAt v (1 : Int32)
    if r75 ≤ (1 : Int32) then
      mf_Mo_obeys_0_j27 v a2 a3
    else
      mf_Mo_obeys_0_j28 v a2 a3 ((v 10 0 3))
def mf_Mo_obeys_0_j15 (v : fw_V) (a2 : Int32) (a3 : Int32)  : fw_V :=
  mf_Mo_obeys_0_j16 v a2 a3
def mf_Mo_obeys_0_j29 (v : fw_V) (a2 : Int32) (a3 : Int32)  : fw_V :=
  let v82 := fw_up v 46 0 (2) (0 : Int32)
  mf_Mo_obeys_0_j15 v82 a2 a3
def mf_Mo_obeys_0_j30 (v : fw_V) (a2 : Int32) (a3 : Int32) (x90 : Int32) : fw_V :=
  let v83 := fw_up v 46 0 (2) x90
  mf_Mo_obeys_0_j15 v83 a2 a3
def mf_Mo_obeys_0_j14 (v : fw_V) (a2 : Int32) (a3 : Int32)  : fw_V :=
  let r52 := mf_Mo_isGood_0 v (1 : Int32)
  if r52 = (0 : Int32) then
    mf_Mo_obeys_0_j15 v a2 a3
  else
    let r80 := mf_Mo_outsAt v (1 : Int32)
    if r80 ≤ (0 : Int32) then
      mf_Mo_obeys_0_j29 v a2 a3
    else
      mf_Mo_obeys_0_j30 v a2 a3 ((v 10 0 2))
def mf_Mo_obeys_0_j13 (v : fw_V) (a2 : Int32) (a3 : Int32)  : fw_V :=
  mf_Mo_obeys_0_j14 v a2 a3
def mf_Mo_obeys_0_j31 (v : fw_V) (a2 : Int32) (a3 : Int32)  : fw_V :=
  let v87 := fw_up v 46 0 (1) (0 : Int32)
  mf_Mo_obeys_0_j13 v87 a2 a3
def mf_Mo_obeys_0_j32 (v : fw_V) (a2 : Int32) (a3 : Int32) (x90 : Int32) : fw_V :=
  let v88 := fw_up v 46 0 (1) x90
  mf_Mo_obeys_0_j13 v88 a2 a3
def mf_Mo_obeys_0_j12 (v : fw_V) (a2 : Int32) (a3 : Int32)  : fw_V :=
  let r49 := mf_Mo_isGood_0 v (0 : Int32)
  if r49 = (0 : Int32) then
    mf_Mo_obeys_0_j13 v a2 a3
  else
    let r85 := mf_Mo_outsAt v (0 : Int32)
    if r85 ≤ (1 : Int32) then
      mf_Mo_obeys_0_j31 v a2 a3
    else
      mf_Mo_obeys_0_j32 v a2 a3 ((v 10 0 1))
def mf_Mo_obeys_0_j11 (v : fw_V) (a2 : Int32) (a3 : Int32)  : fw_V :=
  mf_Mo_obeys_0_j12 v a2 a3
def mf_Mo_obeys_0_j33 (v : fw_V) (a2 : Int32) (a3 : Int32)  : fw_V :=
  let v92 := fw_up v 46 0 (0) (0 : Int32)
  mf_Mo_obeys_0_j11 v92 a2 a3
def mf_Mo_obeys_0_j34 (v : fw_V) (a2 : Int32) (a3 : Int32) (x90 : Int32) : fw_V :=
  let v93 := fw_up v 46 0 (0) x90
  mf_Mo_obeys_0_j11 v93 a2 a3
def mf_Mo_obeys_0_j10 (v : fw_V) (a2 : Int32) (a3 : Int32)  : fw_V :=
  let r46 := mf_Mo_isGood_0 v (0 : Int32)
  if r46 = (0 : Int32) then
    mf_Mo_obeys_0_j11 v a2 a3
  else
    let r90 := mf_Mo_outsAt v (0 : Int32)
    if r90 ≤ (0 : Int32) then
      mf_Mo_obeys_0_j33 v a2 a3
    else
      mf_Mo_obeys_0_j34 v a2 a3 ((v 10 0 0))
def mf_Mo_obeys_0_j4 (v0 : fw_V) (a2 : Int32) (a3 : Int32)  : fw_V :=
  if a2 = (12 : Int32) then
    if (v0 28 0 0) = (3 : Int32) then
      let r41 := mf_Mo_isNewer a3 (v0 35 0 0)
      if r41 = (0 : Int32) then
        mf_Mo_obeys_0_j5 v0 a2 a3
      else
        let v43 := fw_up v0 35 0 (0) a3
        let v44 := fw_up v43 32 0 (0) (0 : Int32)
        mf_Mo_obeys_0_j10 v44 a2 a3
    else
      mf_Mo_obeys_0_j5 v0 a2 a3
  else
    mf_Mo_obeys_0_j5 v0 a2 a3
def mf_Mo_obeys_0_j3 (v0 : fw_V) (a2 : Int32) (a3 : Int32)  : fw_V :=
  if a2 = (11 : Int32) then
    if (v0 28 0 0) = (2 : Int32) then
      let v95 := fw_up v0 28 0 (0) (3 : Int32)
      let v96 := fw_up v95 32 0 (0) (0 : Int32)
      let v97 := fw_up v96 34 0 (0) (0 : Int32)
      let v98 := fw_up v97 35 0 (0) (-1 : Int32)
      let v99 := fw_up v98 37 0 (0) (0 : Int32)
      let v100 := fw_up v99 36 0 (0) (0 : Int32)
      let v101 := fw_up v100 39 0 (0) (0 : Int32)
      v101
    else
      mf_Mo_obeys_0_j4 v0 a2 a3
  else
    mf_Mo_obeys_0_j4 v0 a2 a3
def mf_Mo_obeys_0_j2 (v0 : fw_V) (a2 : Int32) (a3 : Int32)  : fw_V :=
  if a2 = (8 : Int32) then
    if (v0 28 0 0) = (2 : Int32) then
      let v103 := mf_Mo_reply_0 v0 (9 : Int32) (0 : Int32)
      v103
    else
      mf_Mo_obeys_0_j3 v0 a2 a3
  else
    mf_Mo_obeys_0_j3 v0 a2 a3
def mf_Mo_obeys_0_j44 (v0 : fw_V) (a2 : Int32) (a3 : Int32)  : fw_V :=
  let v116 := fw_up v0 28 0 (0) (2 : Int32)
  let v117 := fw_up v116 32 0 (0) (0 : Int32)
  let v118 := fw_up v117 33 0 (0) (0 : Int32)
  let v119 := mf_Mo_reply_0 v118 (9 : Int32) (0 : Int32)
  let v120 := mf_Mo_reply_0 v119 (10 : Int32) (0 : Int32)
  v120
def mf_Mo_obeys_0_j43 (v0 : fw_V) (a2 : Int32) (a3 : Int32)  : fw_V :=
  mf_Mo_obeys_0_j44 v0 a2 a3
def mf_Mo_obeys_0_j42 (v0 : fw_V) (a2 : Int32) (a3 : Int32)  : fw_V :=
  mf_Mo_obeys_0_j43 v0 a2 a3
def mf_Mo_obeys_0_j46 (v0 : fw_V) (a2 : Int32) (a3 : Int32)  : fw_V :=
  let v127 := mf_Mo_quit_0 v0
  v127
def mf_Mo_obeys_0_j45 (v0 : fw_V) (a2 : Int32) (a3 : Int32)  : fw_V :=
  mf_Mo_obeys_0_j46 v0 a2 a3
def mf_Mo_obeys_0_j41 (v0 : fw_V) (a2 : Int32) (a3 : Int32)  : fw_V :=
  let r112 := mf_Mo_isGood_0 v0 (2 : Int32)
  if r112 = (0 : Int32) then
    mf_Mo_obeys_0_j42 v0 a2 a3
  else
    if (v0 3 0 (v0 43 0 2).toNatClampNeg) = (0 : Int32) then
      mf_Mo_obeys_0_j42 v0 a2 a3
    else
      if (0 : Int32) ≤ (v0 44 0 2) then
        mf_Mo_obeys_0_j42 v0 a2 a3
      else
        mf_Mo_obeys_0_j45 v0 a2 a3
def mf_Mo_obeys_0_j40 (v0 : fw_V) (a2 : Int32) (a3 : Int32)  : fw_V :=
  mf_Mo_obeys_0_j41 v0 a2 a3
def mf_Mo_obeys_0_j39 (v0 : fw_V) (a2 : Int32) (a3 : Int32)  : fw_V :=
  mf_Mo_obeys_0_j40 v0 a2 a3
def mf_Mo_obeys_0_j50 (v0 : fw_V) (a2 : Int32) (a3 : Int32)  : fw_V :=
  mf_Mo_obeys_0_j46 v0 a2 a3
def mf_Mo_obeys_0_j49 (v0 : fw_V) (a2 : Int32) (a3 : Int32)  : fw_V :=
  mf_Mo_obeys_0_j50 v0 a2 a3
def mf_Mo_obeys_0_j51 (v0 : fw_V) (a2 : Int32) (a3 : Int32)  : fw_V :=
  mf_Mo_obeys_0_j46 v0 a2 a3
def mf_Mo_obeys_0_j48 (v0 : fw_V) (a2 : Int32) (a3 : Int32)  : fw_V :=
  let r133 := mf_Mo_isGood_0 v0 (2 : Int32)
  if r133 = (0 : Int32) then
    mf_Mo_obeys_0_j49 v0 a2 a3
  else
    if (v0 3 0 (v0 43 0 2).toNatClampNeg) = (0 : Int32) then
      mf_Mo_obeys_0_j49 v0 a2 a3
    else
      if (0 : Int32) ≤ (v0 44 0 2) then
        mf_Mo_obeys_0_j49 v0 a2 a3
      else
        mf_Mo_obeys_0_j51 v0 a2 a3
def mf_Mo_obeys_0_j47 (v0 : fw_V) (a2 : Int32) (a3 : Int32)  : fw_V :=
  mf_Mo_obeys_0_j48 v0 a2 a3
def mf_Mo_obeys_0_j38 (v0 : fw_V) (a2 : Int32) (a3 : Int32)  : fw_V :=
  let r109 := mf_Mo_isGood_0 v0 (1 : Int32)
  if r109 = (0 : Int32) then
    mf_Mo_obeys_0_j39 v0 a2 a3
  else
    if (v0 3 0 (v0 43 0 1).toNatClampNeg) = (0 : Int32) then
      mf_Mo_obeys_0_j39 v0 a2 a3
    else
      if (0 : Int32) ≤ (v0 44 0 1) then
        mf_Mo_obeys_0_j39 v0 a2 a3
      else
        mf_Mo_obeys_0_j47 v0 a2 a3
def mf_Mo_obeys_0_j37 (v0 : fw_V) (a2 : Int32) (a3 : Int32)  : fw_V :=
  mf_Mo_obeys_0_j38 v0 a2 a3
def mf_Mo_obeys_0_j36 (v0 : fw_V) (a2 : Int32) (a3 : Int32)  : fw_V :=
  mf_Mo_obeys_0_j37 v0 a2 a3
def mf_Mo_obeys_0_j55 (v0 : fw_V) (a2 : Int32) (a3 : Int32)  : fw_V :=
  mf_Mo_obeys_0_j48 v0 a2 a3
def mf_Mo_obeys_0_j54 (v0 : fw_V) (a2 : Int32) (a3 : Int32)  : fw_V :=
  mf_Mo_obeys_0_j55 v0 a2 a3
def mf_Mo_obeys_0_j56 (v0 : fw_V) (a2 : Int32) (a3 : Int32)  : fw_V :=
  mf_Mo_obeys_0_j48 v0 a2 a3
def mf_Mo_obeys_0_j53 (v0 : fw_V) (a2 : Int32) (a3 : Int32)  : fw_V :=
  let r144 := mf_Mo_isGood_0 v0 (1 : Int32)
  if r144 = (0 : Int32) then
    mf_Mo_obeys_0_j54 v0 a2 a3
  else
    if (v0 3 0 (v0 43 0 1).toNatClampNeg) = (0 : Int32) then
      mf_Mo_obeys_0_j54 v0 a2 a3
    else
      if (0 : Int32) ≤ (v0 44 0 1) then
        mf_Mo_obeys_0_j54 v0 a2 a3
      else
        mf_Mo_obeys_0_j56 v0 a2 a3
def mf_Mo_obeys_0_j52 (v0 : fw_V) (a2 : Int32) (a3 : Int32)  : fw_V :=
  mf_Mo_obeys_0_j53 v0 a2 a3
def mf_Mo_obeys_0_j35 (v0 : fw_V) (a2 : Int32) (a3 : Int32)  : fw_V :=
  let r106 := mf_Mo_isGood_0 v0 (0 : Int32)
  if r106 = (0 : Int32) then
    mf_Mo_obeys_0_j36 v0 a2 a3
  else
    if (v0 3 0 (v0 43 0 0).toNatClampNeg) = (0 : Int32) then
      mf_Mo_obeys_0_j36 v0 a2 a3
    else
      if (0 : Int32) ≤ (v0 44 0 0) then
        mf_Mo_obeys_0_j36 v0 a2 a3
      else
        mf_Mo_obeys_0_j52 v0 a2 a3
def mf_Mo_obeys_0_j1 (v0 : fw_V) (a2 : Int32) (a3 : Int32)  : fw_V :=
  if a2 = (8 : Int32) then
    if (v0 28 0 0) = (1 : Int32) then
      mf_Mo_obeys_0_j35 v0 a2 a3
    else
      mf_Mo_obeys_0_j2 v0 a2 a3
  else
    mf_Mo_obeys_0_j2 v0 a2 a3
def mf_Mo_obeys_0_j61 (v0 : fw_V) (a2 : Int32) (a3 : Int32)  : fw_V :=
  if a2 = (15 : Int32) then
    if (v0 28 0 0) = (3 : Int32) then
      if (v0 36 0 0) ≤ (0 : Int32) then
        if a2 = (16 : Int32) then
          let v164 := mf_Mo_rest_0 v0
          v164
        else
          v0
      else
        if (v0 36 0 0) = a3 then
          let v170 := fw_up v0 36 0 (0) (0 : Int32)
          let v173 := fw_up v170 37 0 (0) ((v170 37 0 0) - (1 : Int32))
          mf_Mo_obeys_0_j6 v173 a2 a3
        else
          if a2 = (16 : Int32) then
            let v168 := mf_Mo_rest_0 v0
            v168
          else
            v0
    else
      if a2 = (16 : Int32) then
        let v161 := mf_Mo_rest_0 v0
        v161
      else
        v0
  else
    if a2 = (16 : Int32) then
      let v158 := mf_Mo_rest_0 v0
      v158
    else
      v0
def mf_Mo_obeys_0_j60 (v0 : fw_V) (a2 : Int32) (a3 : Int32)  : fw_V :=
  if a2 = (12 : Int32) then
    if (v0 28 0 0) = (3 : Int32) then
      let r175 := mf_Mo_isNewer a3 (v0 35 0 0)
      if r175 = (0 : Int32) then
        mf_Mo_obeys_0_j61 v0 a2 a3
      else
        let v177 := fw_up v0 35 0 (0) a3
        let v178 := fw_up v177 32 0 (0) (0 : Int32)
        mf_Mo_obeys_0_j10 v178 a2 a3
    else
      mf_Mo_obeys_0_j61 v0 a2 a3
  else
    mf_Mo_obeys_0_j61 v0 a2 a3
def mf_Mo_obeys_0_j59 (v0 : fw_V) (a2 : Int32) (a3 : Int32)  : fw_V :=
  if a2 = (11 : Int32) then
    if (v0 28 0 0) = (2 : Int32) then
      let v180 := fw_up v0 28 0 (0) (3 : Int32)
      let v181 := fw_up v180 32 0 (0) (0 : Int32)
      let v182 := fw_up v181 34 0 (0) (0 : Int32)
      let v183 := fw_up v182 35 0 (0) (-1 : Int32)
      let v184 := fw_up v183 37 0 (0) (0 : Int32)
      let v185 := fw_up v184 36 0 (0) (0 : Int32)
      let v186 := fw_up v185 39 0 (0) (0 : Int32)
      v186
    else
      mf_Mo_obeys_0_j60 v0 a2 a3
  else
    mf_Mo_obeys_0_j60 v0 a2 a3
def mf_Mo_obeys_0_j58 (v0 : fw_V) (a2 : Int32) (a3 : Int32)  : fw_V :=
  if a2 = (8 : Int32) then
    if (v0 28 0 0) = (2 : Int32) then
      let v188 := mf_Mo_reply_0 v0 (9 : Int32) (0 : Int32)
      v188
    else
      mf_Mo_obeys_0_j59 v0 a2 a3
  else
    mf_Mo_obeys_0_j59 v0 a2 a3
def mf_Mo_obeys_0_j57 (v0 : fw_V) (a2 : Int32) (a3 : Int32)  : fw_V :=
  if a2 = (8 : Int32) then
    if (v0 28 0 0) = (1 : Int32) then
      mf_Mo_obeys_0_j35 v0 a2 a3
    else
      mf_Mo_obeys_0_j58 v0 a2 a3
  else
    mf_Mo_obeys_0_j58 v0 a2 a3
def mf_Mo_obeys_0 (v0 : fw_V) (a2 : Int32) (a3 : Int32) : fw_V :=
  if a2 = (6 : Int32) then
    if (v0 28 0 0) = (1 : Int32) then
      let v190 := fw_up v0 44 0 (((0 : Int32) + a3).toNatClampNeg) (v0 10 0 0)
      let v191 := fw_up v190 32 0 (0) (0 : Int32)
      let v192 := mf_Mo_reply_0 v191 (7 : Int32) a3
      v192
    else
      mf_Mo_obeys_0_j57 v0 a2 a3
  else
    mf_Mo_obeys_0_j1 v0 a2 a3

theorem mca_Mo_obeys_0_j9 {v : fw_V} {a2 : Int32} {a3 : Int32} {i k : Nat} : mf_Mo_obeys_0_j9 v a2 a3 10 i k = v 10 i k := by
  unfold mf_Mo_obeys_0_j9
  try dsimp only
  all_goals ((repeat' split) <;> simp [fw_up, fw_row])
theorem mca_Mo_obeys_0_j8 {v : fw_V} {a2 : Int32} {a3 : Int32} {i k : Nat} : mf_Mo_obeys_0_j8 v a2 a3 10 i k = v 10 i k := by
  unfold mf_Mo_obeys_0_j8
  try dsimp only
  all_goals ((repeat' split) <;> simp [fw_up, fw_row, mca_Mo_obeys_0_j9])
theorem mca_Mo_obeys_0_j7 {v : fw_V} {a2 : Int32} {a3 : Int32} {i k : Nat} : mf_Mo_obeys_0_j7 v a2 a3 10 i k = v 10 i k := by
  unfold mf_Mo_obeys_0_j7
  try dsimp only
  all_goals ((repeat' split) <;> simp [fw_up, fw_row, mca_Mo_obeys_0_j8])
theorem mca_Mo_obeys_0_j6 {v : fw_V} {a2 : Int32} {a3 : Int32} {i k : Nat} : mf_Mo_obeys_0_j6 v a2 a3 10 i k = v 10 i k := by
  unfold mf_Mo_obeys_0_j6
  try dsimp only
  all_goals ((repeat' split) <;> simp [fw_up, fw_row, mca_Mo_obeys_0_j7])
theorem mca_Mo_obeys_0_j5 {v0 : fw_V} {a2 : Int32} {a3 : Int32} {i k : Nat} : mf_Mo_obeys_0_j5 v0 a2 a3 10 i k = v0 10 i k := by
  unfold mf_Mo_obeys_0_j5
  try dsimp only
  all_goals ((repeat' split) <;> simp [fw_up, fw_row, mca_Mo_rest_0, mca_Mo_obeys_0_j6])
theorem mca_Mo_obeys_0_j22 {v : fw_V} {a2 : Int32} {a3 : Int32} {i k : Nat} : mf_Mo_obeys_0_j22 v a2 a3 10 i k = v 10 i k := by
  unfold mf_Mo_obeys_0_j22
  try dsimp only
  all_goals ((repeat' split) <;> simp [fw_up, fw_row])
theorem mca_Mo_obeys_0_j21 {v : fw_V} {a2 : Int32} {a3 : Int32} {i k : Nat} : mf_Mo_obeys_0_j21 v a2 a3 10 i k = v 10 i k := by
  unfold mf_Mo_obeys_0_j21
  try dsimp only
  all_goals ((repeat' split) <;> simp [fw_up, fw_row, mca_Mo_obeys_0_j22])
theorem mca_Mo_obeys_0_j23 {v : fw_V} {a2 : Int32} {a3 : Int32} {i k : Nat} : mf_Mo_obeys_0_j23 v a2 a3 10 i k = v 10 i k := by
  unfold mf_Mo_obeys_0_j23
  try dsimp only
  all_goals ((repeat' split) <;> simp [fw_up, fw_row, mca_Mo_obeys_0_j21])
theorem mca_Mo_obeys_0_j24 {v : fw_V} {a2 : Int32} {a3 : Int32} {x90 : Int32} {i k : Nat} : mf_Mo_obeys_0_j24 v a2 a3 x90 10 i k = v 10 i k := by
  unfold mf_Mo_obeys_0_j24
  try dsimp only
  all_goals ((repeat' split) <;> simp [fw_up, fw_row, mca_Mo_obeys_0_j21])
theorem mca_Mo_obeys_0_j20 {v : fw_V} {a2 : Int32} {a3 : Int32} {i k : Nat} : mf_Mo_obeys_0_j20 v a2 a3 10 i k = v 10 i k := by
  unfold mf_Mo_obeys_0_j20
  try dsimp only
  all_goals ((repeat' split) <;> simp [fw_up, fw_row, mca_Mo_obeys_0_j21, mca_Mo_obeys_0_j23, mca_Mo_obeys_0_j24])
theorem mca_Mo_obeys_0_j19 {v : fw_V} {a2 : Int32} {a3 : Int32} {i k : Nat} : mf_Mo_obeys_0_j19 v a2 a3 10 i k = v 10 i k := by
  unfold mf_Mo_obeys_0_j19
  try dsimp only
  all_goals ((repeat' split) <;> simp [fw_up, fw_row, mca_Mo_obeys_0_j20])
theorem mca_Mo_obeys_0_j25 {v : fw_V} {a2 : Int32} {a3 : Int32} {i k : Nat} : mf_Mo_obeys_0_j25 v a2 a3 10 i k = v 10 i k := by
  unfold mf_Mo_obeys_0_j25
  try dsimp only
  all_goals ((repeat' split) <;> simp [fw_up, fw_row, mca_Mo_obeys_0_j19])
theorem mca_Mo_obeys_0_j26 {v : fw_V} {a2 : Int32} {a3 : Int32} {x90 : Int32} {i k : Nat} : mf_Mo_obeys_0_j26 v a2 a3 x90 10 i k = v 10 i k := by
  unfold mf_Mo_obeys_0_j26
  try dsimp only
  all_goals ((repeat' split) <;> simp [fw_up, fw_row, mca_Mo_obeys_0_j19])
theorem mca_Mo_obeys_0_j18 {v : fw_V} {a2 : Int32} {a3 : Int32} {i k : Nat} : mf_Mo_obeys_0_j18 v a2 a3 10 i k = v 10 i k := by
  unfold mf_Mo_obeys_0_j18
  try dsimp only
  all_goals ((repeat' split) <;> simp [fw_up, fw_row, mca_Mo_obeys_0_j19, mca_Mo_obeys_0_j25, mca_Mo_obeys_0_j26])
theorem mca_Mo_obeys_0_j17 {v : fw_V} {a2 : Int32} {a3 : Int32} {i k : Nat} : mf_Mo_obeys_0_j17 v a2 a3 10 i k = v 10 i k := by
  unfold mf_Mo_obeys_0_j17
  try dsimp only
  all_goals ((repeat' split) <;> simp [fw_up, fw_row, mca_Mo_obeys_0_j18])
theorem mca_Mo_obeys_0_j27 {v : fw_V} {a2 : Int32} {a3 : Int32} {i k : Nat} : mf_Mo_obeys_0_j27 v a2 a3 10 i k = v 10 i k := by
  unfold mf_Mo_obeys_0_j27
  try dsimp only
  all_goals ((repeat' split) <;> simp [fw_up, fw_row, mca_Mo_obeys_0_j17])
theorem mca_Mo_obeys_0_j28 {v : fw_V} {a2 : Int32} {a3 : Int32} {x90 : Int32} {i k : Nat} : mf_Mo_obeys_0_j28 v a2 a3 x90 10 i k = v 10 i k := by
  unfold mf_Mo_obeys_0_j28
  try dsimp only
  all_goals ((repeat' split) <;> simp [fw_up, fw_row, mca_Mo_obeys_0_j17])
theorem mca_Mo_obeys_0_j16 {v : fw_V} {a2 : Int32} {a3 : Int32} {i k : Nat} : mf_Mo_obeys_0_j16 v a2 a3 10 i k = v 10 i k := by
  unfold mf_Mo_obeys_0_j16
  try dsimp only
  all_goals ((repeat' split) <;> simp [fw_up, fw_row, mca_Mo_obeys_0_j17, mca_Mo_obeys_0_j27, mca_Mo_obeys_0_j28])
theorem mca_Mo_obeys_0_j15 {v : fw_V} {a2 : Int32} {a3 : Int32} {i k : Nat} : mf_Mo_obeys_0_j15 v a2 a3 10 i k = v 10 i k := by
  unfold mf_Mo_obeys_0_j15
  try dsimp only
  all_goals ((repeat' split) <;> simp [fw_up, fw_row, mca_Mo_obeys_0_j16])
theorem mca_Mo_obeys_0_j29 {v : fw_V} {a2 : Int32} {a3 : Int32} {i k : Nat} : mf_Mo_obeys_0_j29 v a2 a3 10 i k = v 10 i k := by
  unfold mf_Mo_obeys_0_j29
  try dsimp only
  all_goals ((repeat' split) <;> simp [fw_up, fw_row, mca_Mo_obeys_0_j15])
theorem mca_Mo_obeys_0_j30 {v : fw_V} {a2 : Int32} {a3 : Int32} {x90 : Int32} {i k : Nat} : mf_Mo_obeys_0_j30 v a2 a3 x90 10 i k = v 10 i k := by
  unfold mf_Mo_obeys_0_j30
  try dsimp only
  all_goals ((repeat' split) <;> simp [fw_up, fw_row, mca_Mo_obeys_0_j15])
theorem mca_Mo_obeys_0_j14 {v : fw_V} {a2 : Int32} {a3 : Int32} {i k : Nat} : mf_Mo_obeys_0_j14 v a2 a3 10 i k = v 10 i k := by
  unfold mf_Mo_obeys_0_j14
  try dsimp only
  all_goals ((repeat' split) <;> simp [fw_up, fw_row, mca_Mo_obeys_0_j15, mca_Mo_obeys_0_j29, mca_Mo_obeys_0_j30])
theorem mca_Mo_obeys_0_j13 {v : fw_V} {a2 : Int32} {a3 : Int32} {i k : Nat} : mf_Mo_obeys_0_j13 v a2 a3 10 i k = v 10 i k := by
  unfold mf_Mo_obeys_0_j13
  try dsimp only
  all_goals ((repeat' split) <;> simp [fw_up, fw_row, mca_Mo_obeys_0_j14])
theorem mca_Mo_obeys_0_j31 {v : fw_V} {a2 : Int32} {a3 : Int32} {i k : Nat} : mf_Mo_obeys_0_j31 v a2 a3 10 i k = v 10 i k := by
  unfold mf_Mo_obeys_0_j31
  try dsimp only
  all_goals ((repeat' split) <;> simp [fw_up, fw_row, mca_Mo_obeys_0_j13])
theorem mca_Mo_obeys_0_j32 {v : fw_V} {a2 : Int32} {a3 : Int32} {x90 : Int32} {i k : Nat} : mf_Mo_obeys_0_j32 v a2 a3 x90 10 i k = v 10 i k := by
  unfold mf_Mo_obeys_0_j32
  try dsimp only
  all_goals ((repeat' split) <;> simp [fw_up, fw_row, mca_Mo_obeys_0_j13])
theorem mca_Mo_obeys_0_j12 {v : fw_V} {a2 : Int32} {a3 : Int32} {i k : Nat} : mf_Mo_obeys_0_j12 v a2 a3 10 i k = v 10 i k := by
  unfold mf_Mo_obeys_0_j12
  try dsimp only
  all_goals ((repeat' split) <;> simp [fw_up, fw_row, mca_Mo_obeys_0_j13, mca_Mo_obeys_0_j31, mca_Mo_obeys_0_j32])
theorem mca_Mo_obeys_0_j11 {v : fw_V} {a2 : Int32} {a3 : Int32} {i k : Nat} : mf_Mo_obeys_0_j11 v a2 a3 10 i k = v 10 i k := by
  unfold mf_Mo_obeys_0_j11
  try dsimp only
  all_goals ((repeat' split) <;> simp [fw_up, fw_row, mca_Mo_obeys_0_j12])
theorem mca_Mo_obeys_0_j33 {v : fw_V} {a2 : Int32} {a3 : Int32} {i k : Nat} : mf_Mo_obeys_0_j33 v a2 a3 10 i k = v 10 i k := by
  unfold mf_Mo_obeys_0_j33
  try dsimp only
  all_goals ((repeat' split) <;> simp [fw_up, fw_row, mca_Mo_obeys_0_j11])
theorem mca_Mo_obeys_0_j34 {v : fw_V} {a2 : Int32} {a3 : Int32} {x90 : Int32} {i k : Nat} : mf_Mo_obeys_0_j34 v a2 a3 x90 10 i k = v 10 i k := by
  unfold mf_Mo_obeys_0_j34
  try dsimp only
  all_goals ((repeat' split) <;> simp [fw_up, fw_row, mca_Mo_obeys_0_j11])
theorem mca_Mo_obeys_0_j10 {v : fw_V} {a2 : Int32} {a3 : Int32} {i k : Nat} : mf_Mo_obeys_0_j10 v a2 a3 10 i k = v 10 i k := by
  unfold mf_Mo_obeys_0_j10
  try dsimp only
  all_goals ((repeat' split) <;> simp [fw_up, fw_row, mca_Mo_obeys_0_j11, mca_Mo_obeys_0_j33, mca_Mo_obeys_0_j34])
theorem mca_Mo_obeys_0_j4 {v0 : fw_V} {a2 : Int32} {a3 : Int32} {i k : Nat} : mf_Mo_obeys_0_j4 v0 a2 a3 10 i k = v0 10 i k := by
  unfold mf_Mo_obeys_0_j4
  try dsimp only
  all_goals ((repeat' split) <;> simp [fw_up, fw_row, mca_Mo_obeys_0_j5, mca_Mo_obeys_0_j10])
theorem mca_Mo_obeys_0_j3 {v0 : fw_V} {a2 : Int32} {a3 : Int32} {i k : Nat} : mf_Mo_obeys_0_j3 v0 a2 a3 10 i k = v0 10 i k := by
  unfold mf_Mo_obeys_0_j3
  try dsimp only
  all_goals ((repeat' split) <;> simp [fw_up, fw_row, mca_Mo_obeys_0_j4])
theorem mca_Mo_obeys_0_j2 {v0 : fw_V} {a2 : Int32} {a3 : Int32} {i k : Nat} : mf_Mo_obeys_0_j2 v0 a2 a3 10 i k = v0 10 i k := by
  unfold mf_Mo_obeys_0_j2
  try dsimp only
  all_goals ((repeat' split) <;> simp [fw_up, fw_row, mca_Mo_reply_0, mca_Mo_obeys_0_j3])
theorem mca_Mo_obeys_0_j44 {v0 : fw_V} {a2 : Int32} {a3 : Int32} {i k : Nat} : mf_Mo_obeys_0_j44 v0 a2 a3 10 i k = v0 10 i k := by
  unfold mf_Mo_obeys_0_j44
  try dsimp only
  all_goals ((repeat' split) <;> simp [fw_up, fw_row, mca_Mo_reply_0])
theorem mca_Mo_obeys_0_j43 {v0 : fw_V} {a2 : Int32} {a3 : Int32} {i k : Nat} : mf_Mo_obeys_0_j43 v0 a2 a3 10 i k = v0 10 i k := by
  unfold mf_Mo_obeys_0_j43
  try dsimp only
  all_goals ((repeat' split) <;> simp [fw_up, fw_row, mca_Mo_obeys_0_j44])
theorem mca_Mo_obeys_0_j42 {v0 : fw_V} {a2 : Int32} {a3 : Int32} {i k : Nat} : mf_Mo_obeys_0_j42 v0 a2 a3 10 i k = v0 10 i k := by
  unfold mf_Mo_obeys_0_j42
  try dsimp only
  all_goals ((repeat' split) <;> simp [fw_up, fw_row, mca_Mo_obeys_0_j43])
theorem mca_Mo_obeys_0_j46 {v0 : fw_V} {a2 : Int32} {a3 : Int32} {i k : Nat} : mf_Mo_obeys_0_j46 v0 a2 a3 10 i k = v0 10 i k := by
  unfold mf_Mo_obeys_0_j46
  try dsimp only
  all_goals ((repeat' split) <;> simp [fw_up, fw_row, mca_Mo_quit_0])
theorem mca_Mo_obeys_0_j45 {v0 : fw_V} {a2 : Int32} {a3 : Int32} {i k : Nat} : mf_Mo_obeys_0_j45 v0 a2 a3 10 i k = v0 10 i k := by
  unfold mf_Mo_obeys_0_j45
  try dsimp only
  all_goals ((repeat' split) <;> simp [fw_up, fw_row, mca_Mo_obeys_0_j46])
theorem mca_Mo_obeys_0_j41 {v0 : fw_V} {a2 : Int32} {a3 : Int32} {i k : Nat} : mf_Mo_obeys_0_j41 v0 a2 a3 10 i k = v0 10 i k := by
  unfold mf_Mo_obeys_0_j41
  try dsimp only
  all_goals ((repeat' split) <;> simp [fw_up, fw_row, mca_Mo_obeys_0_j42, mca_Mo_obeys_0_j45])
theorem mca_Mo_obeys_0_j40 {v0 : fw_V} {a2 : Int32} {a3 : Int32} {i k : Nat} : mf_Mo_obeys_0_j40 v0 a2 a3 10 i k = v0 10 i k := by
  unfold mf_Mo_obeys_0_j40
  try dsimp only
  all_goals ((repeat' split) <;> simp [fw_up, fw_row, mca_Mo_obeys_0_j41])
theorem mca_Mo_obeys_0_j39 {v0 : fw_V} {a2 : Int32} {a3 : Int32} {i k : Nat} : mf_Mo_obeys_0_j39 v0 a2 a3 10 i k = v0 10 i k := by
  unfold mf_Mo_obeys_0_j39
  try dsimp only
  all_goals ((repeat' split) <;> simp [fw_up, fw_row, mca_Mo_obeys_0_j40])
theorem mca_Mo_obeys_0_j50 {v0 : fw_V} {a2 : Int32} {a3 : Int32} {i k : Nat} : mf_Mo_obeys_0_j50 v0 a2 a3 10 i k = v0 10 i k := by
  unfold mf_Mo_obeys_0_j50
  try dsimp only
  all_goals ((repeat' split) <;> simp [fw_up, fw_row, mca_Mo_obeys_0_j46])
theorem mca_Mo_obeys_0_j49 {v0 : fw_V} {a2 : Int32} {a3 : Int32} {i k : Nat} : mf_Mo_obeys_0_j49 v0 a2 a3 10 i k = v0 10 i k := by
  unfold mf_Mo_obeys_0_j49
  try dsimp only
  all_goals ((repeat' split) <;> simp [fw_up, fw_row, mca_Mo_obeys_0_j50])
theorem mca_Mo_obeys_0_j51 {v0 : fw_V} {a2 : Int32} {a3 : Int32} {i k : Nat} : mf_Mo_obeys_0_j51 v0 a2 a3 10 i k = v0 10 i k := by
  unfold mf_Mo_obeys_0_j51
  try dsimp only
  all_goals ((repeat' split) <;> simp [fw_up, fw_row, mca_Mo_obeys_0_j46])
theorem mca_Mo_obeys_0_j48 {v0 : fw_V} {a2 : Int32} {a3 : Int32} {i k : Nat} : mf_Mo_obeys_0_j48 v0 a2 a3 10 i k = v0 10 i k := by
  unfold mf_Mo_obeys_0_j48
  try dsimp only
  all_goals ((repeat' split) <;> simp [fw_up, fw_row, mca_Mo_obeys_0_j49, mca_Mo_obeys_0_j51])
theorem mca_Mo_obeys_0_j47 {v0 : fw_V} {a2 : Int32} {a3 : Int32} {i k : Nat} : mf_Mo_obeys_0_j47 v0 a2 a3 10 i k = v0 10 i k := by
  unfold mf_Mo_obeys_0_j47
  try dsimp only
  all_goals ((repeat' split) <;> simp [fw_up, fw_row, mca_Mo_obeys_0_j48])
theorem mca_Mo_obeys_0_j38 {v0 : fw_V} {a2 : Int32} {a3 : Int32} {i k : Nat} : mf_Mo_obeys_0_j38 v0 a2 a3 10 i k = v0 10 i k := by
  unfold mf_Mo_obeys_0_j38
  try dsimp only
  all_goals ((repeat' split) <;> simp [fw_up, fw_row, mca_Mo_obeys_0_j39, mca_Mo_obeys_0_j47])
theorem mca_Mo_obeys_0_j37 {v0 : fw_V} {a2 : Int32} {a3 : Int32} {i k : Nat} : mf_Mo_obeys_0_j37 v0 a2 a3 10 i k = v0 10 i k := by
  unfold mf_Mo_obeys_0_j37
  try dsimp only
  all_goals ((repeat' split) <;> simp [fw_up, fw_row, mca_Mo_obeys_0_j38])
theorem mca_Mo_obeys_0_j36 {v0 : fw_V} {a2 : Int32} {a3 : Int32} {i k : Nat} : mf_Mo_obeys_0_j36 v0 a2 a3 10 i k = v0 10 i k := by
  unfold mf_Mo_obeys_0_j36
  try dsimp only
  all_goals ((repeat' split) <;> simp [fw_up, fw_row, mca_Mo_obeys_0_j37])
theorem mca_Mo_obeys_0_j55 {v0 : fw_V} {a2 : Int32} {a3 : Int32} {i k : Nat} : mf_Mo_obeys_0_j55 v0 a2 a3 10 i k = v0 10 i k := by
  unfold mf_Mo_obeys_0_j55
  try dsimp only
  all_goals ((repeat' split) <;> simp [fw_up, fw_row, mca_Mo_obeys_0_j48])
theorem mca_Mo_obeys_0_j54 {v0 : fw_V} {a2 : Int32} {a3 : Int32} {i k : Nat} : mf_Mo_obeys_0_j54 v0 a2 a3 10 i k = v0 10 i k := by
  unfold mf_Mo_obeys_0_j54
  try dsimp only
  all_goals ((repeat' split) <;> simp [fw_up, fw_row, mca_Mo_obeys_0_j55])
theorem mca_Mo_obeys_0_j56 {v0 : fw_V} {a2 : Int32} {a3 : Int32} {i k : Nat} : mf_Mo_obeys_0_j56 v0 a2 a3 10 i k = v0 10 i k := by
  unfold mf_Mo_obeys_0_j56
  try dsimp only
  all_goals ((repeat' split) <;> simp [fw_up, fw_row, mca_Mo_obeys_0_j48])
theorem mca_Mo_obeys_0_j53 {v0 : fw_V} {a2 : Int32} {a3 : Int32} {i k : Nat} : mf_Mo_obeys_0_j53 v0 a2 a3 10 i k = v0 10 i k := by
  unfold mf_Mo_obeys_0_j53
  try dsimp only
  all_goals ((repeat' split) <;> simp [fw_up, fw_row, mca_Mo_obeys_0_j54, mca_Mo_obeys_0_j56])
theorem mca_Mo_obeys_0_j52 {v0 : fw_V} {a2 : Int32} {a3 : Int32} {i k : Nat} : mf_Mo_obeys_0_j52 v0 a2 a3 10 i k = v0 10 i k := by
  unfold mf_Mo_obeys_0_j52
  try dsimp only
  all_goals ((repeat' split) <;> simp [fw_up, fw_row, mca_Mo_obeys_0_j53])
theorem mca_Mo_obeys_0_j35 {v0 : fw_V} {a2 : Int32} {a3 : Int32} {i k : Nat} : mf_Mo_obeys_0_j35 v0 a2 a3 10 i k = v0 10 i k := by
  unfold mf_Mo_obeys_0_j35
  try dsimp only
  all_goals ((repeat' split) <;> simp [fw_up, fw_row, mca_Mo_obeys_0_j36, mca_Mo_obeys_0_j52])
theorem mca_Mo_obeys_0_j1 {v0 : fw_V} {a2 : Int32} {a3 : Int32} {i k : Nat} : mf_Mo_obeys_0_j1 v0 a2 a3 10 i k = v0 10 i k := by
  unfold mf_Mo_obeys_0_j1
  try dsimp only
  all_goals ((repeat' split) <;> simp [fw_up, fw_row, mca_Mo_obeys_0_j35, mca_Mo_obeys_0_j2])
theorem mca_Mo_obeys_0_j61 {v0 : fw_V} {a2 : Int32} {a3 : Int32} {i k : Nat} : mf_Mo_obeys_0_j61 v0 a2 a3 10 i k = v0 10 i k := by
  unfold mf_Mo_obeys_0_j61
  try dsimp only
  all_goals ((repeat' split) <;> simp [fw_up, fw_row, mca_Mo_rest_0, mca_Mo_obeys_0_j6])
theorem mca_Mo_obeys_0_j60 {v0 : fw_V} {a2 : Int32} {a3 : Int32} {i k : Nat} : mf_Mo_obeys_0_j60 v0 a2 a3 10 i k = v0 10 i k := by
  unfold mf_Mo_obeys_0_j60
  try dsimp only
  all_goals ((repeat' split) <;> simp [fw_up, fw_row, mca_Mo_obeys_0_j61, mca_Mo_obeys_0_j10])
theorem mca_Mo_obeys_0_j59 {v0 : fw_V} {a2 : Int32} {a3 : Int32} {i k : Nat} : mf_Mo_obeys_0_j59 v0 a2 a3 10 i k = v0 10 i k := by
  unfold mf_Mo_obeys_0_j59
  try dsimp only
  all_goals ((repeat' split) <;> simp [fw_up, fw_row, mca_Mo_obeys_0_j60])
theorem mca_Mo_obeys_0_j58 {v0 : fw_V} {a2 : Int32} {a3 : Int32} {i k : Nat} : mf_Mo_obeys_0_j58 v0 a2 a3 10 i k = v0 10 i k := by
  unfold mf_Mo_obeys_0_j58
  try dsimp only
  all_goals ((repeat' split) <;> simp [fw_up, fw_row, mca_Mo_reply_0, mca_Mo_obeys_0_j59])
theorem mca_Mo_obeys_0_j57 {v0 : fw_V} {a2 : Int32} {a3 : Int32} {i k : Nat} : mf_Mo_obeys_0_j57 v0 a2 a3 10 i k = v0 10 i k := by
  unfold mf_Mo_obeys_0_j57
  try dsimp only
  all_goals ((repeat' split) <;> simp [fw_up, fw_row, mca_Mo_obeys_0_j35, mca_Mo_obeys_0_j58])
theorem mca_Mo_obeys_0 {v0 : fw_V} {a2 : Int32} {a3 : Int32} {i k : Nat} : mf_Mo_obeys_0 v0 a2 a3 10 i k = v0 10 i k := by
  unfold mf_Mo_obeys_0
  try dsimp only
  all_goals ((repeat' split) <;> simp [fw_up, fw_row, mca_Mo_reply_0, mca_Mo_obeys_0_j57, mca_Mo_obeys_0_j1])
set_option maxHeartbeats 4000000 in
set_option maxRecDepth 100000 in
theorem mc_Mo_obeys_0 (l : Launch) {D : va_G} {cA : Nat → ClassId} {ad : Nat → Nat → Nat} (hD : fw_D mCL ad) {b : Nat} (v0 : fw_V) (hI : mI b v0) (a2 : Int32) (a3 : Int32) (hq0 : a2 = (6 : Int32) → vp_in a3 3) : Met l my_Mo_obeys (Cond.code my_Mo_obeys mb_Mo_obeys 7 none :: vTB) mrm_Mo_obeys (fw_Pc vNL D vcls (vtys cA) mCL cA mkd ad v0 [.ref (ad 0 0), .int (0 : Int32), .int a2, .int a3]) (fw_Qv D vcls mCL cA mkd ad (mI b) (mf_Mo_obeys_0 v0 a2 a3)) 0 0 (fw_A mCL ad) := by
  refine Met.ofW (cc := mb_Mo_obeys) (maxL := 7) (ret := none) (by decide) rfl ?_
  intro p e s m args below meth c s₁ B hml hv
  obtain ⟨rfl, hP, hK, hN⟩ := hv
  have hx := B.exec
  have hb := B.bytes
  have hr := B.returns
  have hts : ∀ w ∈ vTB, w.before ([.ref (ad 0 0), .int (0 : Int32), .int a2, .int a3] : List Value).toArray s = true := fun w h => atoms_spec (ws := (Cond.code my_Mo_obeys mb_Mo_obeys 7 none :: vTB)) B.pre w (List.mem_cons_of_mem _ h)
  have hown : s.vm.findClass R_Mo = some m.cls := findClass_of_methodNamed B.named
  have hlocks := B.notSynchronized
  have hS : va_S (fw_A mCL ad) s.heap s.heap [] := va_S.rf
  have J9 : ∀ (v : fw_V)  (H : Heap) (locs : List Loc) (ls : Array Slot), mf_Mo_obeys_0 v0 a2 a3 = mf_Mo_obeys_0_j9 v a2 a3 → vp_in (v 37 0 0) 4 → mI b v → va_P D vcls (fw_w mCL cA mkd ad v) H → va_S (fw_A mCL ad) s.heap H locs → lv_has ls 7 [(0, .ref (ad 0 0)), (1, .int (0 : Int32)), (5, .int (3 : Int32))] → W p l e (headSpec (Cond.code my_Mo_obeys mb_Mo_obeys 7 none :: vTB) mrm_Mo_obeys).room s m ([.ref (ad 0 0), .int (0 : Int32), .int a2, .int a3] : List Value).toArray below meth c H locs 0 0 (MQ below (fw_Qv D vcls mCL cA mkd ad (mI b) (mf_Mo_obeys_0 v0 a2 a3)) ([.ref (ad 0 0), .int (0 : Int32), .int a2, .int a3] : List Value).toArray s 0 0 (fw_A mCL ad)) (F0 m 440 ls []) := by
    intro v  H locs ls hj hkf0 hI hP hS hl
    refine lv_iload hx hb md_Mo_obeys_440 (lv_at hl 2 rfl) ?_
    refine lv_iconst (v := (4 : Int32)) hx hb md_Mo_obeys_442 (by decide) ?_
    refine lv_iload_n hx hb md_Mo_obeys_443 rfl (lv_at hl 1 rfl) ?_
    refine lv_imul hx hb md_Mo_obeys_444 ?_
    refine fw_top (y := (0 : Int32)) (by decide) ?_
    refine lv_aload_n hx hb md_Mo_obeys_445 rfl (lv_at hl 0 rfl) ?_
    refine fw_getr hx hb hts i_Mo hown hK hP (mm_0 (by decide)) (mk_0 0) rfl 36 (by decide) (hts _ L_Mo_116) (fun _ h9 => h9) rfl md_Mo_obeys_446 ?_
    refine lv_iload_n hx hb md_Mo_obeys_449 rfl (lv_at hl 1 rfl) ?_
    refine fw_iald hx hb hK hP (mm_37 (by decide)) (mk_37 0) 0 rfl (j := 0) (by decide) (fw_inc (by decide)) md_Mo_obeys_450 ?_
    have h_38 : vp_in (v 37 0 0) 5 := hI.1 37 0 (0)
    refine lv_iadd hx hb md_Mo_obeys_451 ?_
    refine lv_icmp_ge (tgt := 493) hx hb md_Mo_obeys_452 (by decide) (fun c_39 => ?_) (fun c_39 => absurd (fw_ley (fw_inadd2 (n := 1) (m := 4) (t := 4) (fw_inc (by decide)) hkf0 (by decide)) (by decide)) c_39)
    refine lv_goto (tgt := 507) hx hb md_Mo_obeys_493 (by decide) ?_
    exact fw_vret hx hb hr hlocks hS hP hI md_Mo_obeys_507 (by rw [hj]; simp only [mf_Mo_obeys_0_j9])
  have J8 : ∀ (v : fw_V)  (H : Heap) (locs : List Loc) (ls : Array Slot), mf_Mo_obeys_0 v0 a2 a3 = mf_Mo_obeys_0_j8 v a2 a3 → vp_in (v 37 0 0) 4 → mI b v → va_P D vcls (fw_w mCL cA mkd ad v) H → va_S (fw_A mCL ad) s.heap H locs → lv_has ls 7 [(0, .ref (ad 0 0)), (1, .int (0 : Int32)), (5, .int (2 : Int32))] → W p l e (headSpec (Cond.code my_Mo_obeys mb_Mo_obeys 7 none :: vTB) mrm_Mo_obeys).room s m ([.ref (ad 0 0), .int (0 : Int32), .int a2, .int a3] : List Value).toArray below meth c H locs 0 0 (MQ below (fw_Qv D vcls mCL cA mkd ad (mI b) (mf_Mo_obeys_0 v0 a2 a3)) ([.ref (ad 0 0), .int (0 : Int32), .int a2, .int a3] : List Value).toArray s 0 0 (fw_A mCL ad)) (F0 m 440 ls []) := by
    intro v  H locs ls hj hkf0 hI hP hS hl
    refine lv_iload hx hb md_Mo_obeys_440 (lv_at hl 2 rfl) ?_
    refine lv_iconst (v := (4 : Int32)) hx hb md_Mo_obeys_442 (by decide) ?_
    refine lv_iload_n hx hb md_Mo_obeys_443 rfl (lv_at hl 1 rfl) ?_
    refine lv_imul hx hb md_Mo_obeys_444 ?_
    refine fw_top (y := (0 : Int32)) (by decide) ?_
    refine lv_aload_n hx hb md_Mo_obeys_445 rfl (lv_at hl 0 rfl) ?_
    refine fw_getr hx hb hts i_Mo hown hK hP (mm_0 (by decide)) (mk_0 0) rfl 36 (by decide) (hts _ L_Mo_116) (fun _ h9 => h9) rfl md_Mo_obeys_446 ?_
    refine lv_iload_n hx hb md_Mo_obeys_449 rfl (lv_at hl 1 rfl) ?_
    refine fw_iald hx hb hK hP (mm_37 (by decide)) (mk_37 0) 0 rfl (j := 0) (by decide) (fw_inc (by decide)) md_Mo_obeys_450 ?_
    have h_33 : vp_in (v 37 0 0) 5 := hI.1 37 0 (0)
    refine lv_iadd hx hb md_Mo_obeys_451 ?_
    refine lv_icmp_ge (tgt := 493) hx hb md_Mo_obeys_452 (by decide) (fun c_34 => ?_) (fun c_34 => ?_)
    · refine lv_goto (tgt := 507) hx hb md_Mo_obeys_493 (by decide) ?_
      exact fw_vret hx hb hr hlocks hS hP hI md_Mo_obeys_507 (by rw [hj]; simp only [mf_Mo_obeys_0_j8, if_pos c_34])
    · refine lv_aload_n hx hb md_Mo_obeys_455 rfl (lv_at hl 0 rfl) ?_
      refine fw_getr hx hb hts i_Mo hown hK hP (mm_0 (by decide)) (mk_0 0) rfl 46 (by decide) (hts _ L_Mo_146) (fun _ h9 => h9) rfl md_Mo_obeys_456 ?_
      refine lv_iload hx hb md_Mo_obeys_459 (lv_at hl 2 rfl) ?_
      refine lv_aload_n hx hb md_Mo_obeys_461 rfl (lv_at hl 0 rfl) ?_
      refine fw_getr hx hb hts i_Mo hown hK hP (mm_0 (by decide)) (mk_0 0) rfl 46 (by decide) (hts _ L_Mo_146) (fun _ h9 => h9) rfl md_Mo_obeys_462 ?_
      refine lv_iload hx hb md_Mo_obeys_465 (lv_at hl 2 rfl) ?_
      refine lv_iconst (v := (1 : Int32)) hx hb md_Mo_obeys_467 (by decide) ?_
      refine lv_iadd hx hb md_Mo_obeys_468 ?_
      refine fw_top (y := (3 : Int32)) (by decide) ?_
      refine fw_iald hx hb hK hP (mm_47 (by decide)) (mk_47 0) 0 rfl (j := 3) (by decide) (fw_inc (by decide)) md_Mo_obeys_469 ?_
      have h_35 : vp_in (v 47 0 3) 3 := hI.1 47 0 (3)
      refine fw_iast hx hb hK hD hP hS (mm_47 (by decide)) (mk_47 0) 0 rfl (j := 2) (by decide) (fw_inc (by decide)) md_Mo_obeys_470 (fun v36 H locs ev36 hP hS => ?_)
      have hI : mI b v36 := by rw [ev36]; exact mI_up hI h_35 trivial
      refine lv_aload_n hx hb md_Mo_obeys_471 rfl (lv_at hl 0 rfl) ?_
      refine fw_getr hx hb hts i_Mo hown hK hP (mm_0 (by decide)) (mk_0 0) rfl 47 (by decide) (hts _ L_Mo_149) (fun _ h9 => h9) rfl md_Mo_obeys_472 ?_
      refine lv_iload hx hb md_Mo_obeys_475 (lv_at hl 2 rfl) ?_
      refine lv_aload_n hx hb md_Mo_obeys_477 rfl (lv_at hl 0 rfl) ?_
      refine fw_getr hx hb hts i_Mo hown hK hP (mm_0 (by decide)) (mk_0 0) rfl 47 (by decide) (hts _ L_Mo_149) (fun _ h9 => h9) rfl md_Mo_obeys_478 ?_
      refine lv_iload hx hb md_Mo_obeys_481 (lv_at hl 2 rfl) ?_
      refine lv_iconst (v := (1 : Int32)) hx hb md_Mo_obeys_483 (by decide) ?_
      refine lv_iadd hx hb md_Mo_obeys_484 ?_
      refine fw_top (y := (3 : Int32)) (by decide) ?_
      refine fw_iald hx hb hK hP (mm_48 (by decide)) (mk_48 0) 0 rfl (j := 3) (by decide) (fw_inc (by decide)) md_Mo_obeys_485 ?_
      refine fw_iast hx hb hK hD hP hS (mm_48 (by decide)) (mk_48 0) 0 rfl (j := 2) (by decide) (fw_inc (by decide)) md_Mo_obeys_486 (fun v37 H locs ev37 hP hS => ?_)
      have hI : mI b v37 := by rw [ev37]; exact mI_up hI trivial trivial
      refine lv_iinc (v := (3 : Int32)) (lv' := [(5, .int (3 : Int32)), (0, .ref (ad 0 0)), (1, .int (0 : Int32))]) hx hb md_Mo_obeys_487 hl (k := 2) rfl (by decide) (by decide) rfl (fun ls hl => ?_)
      refine lv_goto (tgt := 440) hx hb md_Mo_obeys_490 (by decide) ?_
      exact J9 v37  _ _ _ (by rw [hj]; subst ev36 ev37; simp only [mf_Mo_obeys_0_j8, if_neg c_34])  (by rw [ev37, fw_up_c (c := 48) (c' := 37) (by decide), ev36, fw_up_c (c := 47) (c' := 37) (by decide)]; exact hkf0) hI hP hS (lv_sub hl [1, 2, 0] rfl)
  have J7 : ∀ (v : fw_V)  (H : Heap) (locs : List Loc) (ls : Array Slot), mf_Mo_obeys_0 v0 a2 a3 = mf_Mo_obeys_0_j7 v a2 a3 → vp_in (v 37 0 0) 4 → mI b v → va_P D vcls (fw_w mCL cA mkd ad v) H → va_S (fw_A mCL ad) s.heap H locs → lv_has ls 7 [(0, .ref (ad 0 0)), (1, .int (0 : Int32)), (5, .int (1 : Int32))] → W p l e (headSpec (Cond.code my_Mo_obeys mb_Mo_obeys 7 none :: vTB) mrm_Mo_obeys).room s m ([.ref (ad 0 0), .int (0 : Int32), .int a2, .int a3] : List Value).toArray below meth c H locs 0 0 (MQ below (fw_Qv D vcls mCL cA mkd ad (mI b) (mf_Mo_obeys_0 v0 a2 a3)) ([.ref (ad 0 0), .int (0 : Int32), .int a2, .int a3] : List Value).toArray s 0 0 (fw_A mCL ad)) (F0 m 440 ls []) := by
    intro v  H locs ls hj hkf0 hI hP hS hl
    clear J9
    refine lv_iload hx hb md_Mo_obeys_440 (lv_at hl 2 rfl) ?_
    refine lv_iconst (v := (4 : Int32)) hx hb md_Mo_obeys_442 (by decide) ?_
    refine lv_iload_n hx hb md_Mo_obeys_443 rfl (lv_at hl 1 rfl) ?_
    refine lv_imul hx hb md_Mo_obeys_444 ?_
    refine fw_top (y := (0 : Int32)) (by decide) ?_
    refine lv_aload_n hx hb md_Mo_obeys_445 rfl (lv_at hl 0 rfl) ?_
    refine fw_getr hx hb hts i_Mo hown hK hP (mm_0 (by decide)) (mk_0 0) rfl 36 (by decide) (hts _ L_Mo_116) (fun _ h9 => h9) rfl md_Mo_obeys_446 ?_
    refine lv_iload_n hx hb md_Mo_obeys_449 rfl (lv_at hl 1 rfl) ?_
    refine fw_iald hx hb hK hP (mm_37 (by decide)) (mk_37 0) 0 rfl (j := 0) (by decide) (fw_inc (by decide)) md_Mo_obeys_450 ?_
    have h_28 : vp_in (v 37 0 0) 5 := hI.1 37 0 (0)
    refine lv_iadd hx hb md_Mo_obeys_451 ?_
    refine lv_icmp_ge (tgt := 493) hx hb md_Mo_obeys_452 (by decide) (fun c_29 => ?_) (fun c_29 => ?_)
    · refine lv_goto (tgt := 507) hx hb md_Mo_obeys_493 (by decide) ?_
      exact fw_vret hx hb hr hlocks hS hP hI md_Mo_obeys_507 (by rw [hj]; simp only [mf_Mo_obeys_0_j7, if_pos c_29])
    · refine lv_aload_n hx hb md_Mo_obeys_455 rfl (lv_at hl 0 rfl) ?_
      refine fw_getr hx hb hts i_Mo hown hK hP (mm_0 (by decide)) (mk_0 0) rfl 46 (by decide) (hts _ L_Mo_146) (fun _ h9 => h9) rfl md_Mo_obeys_456 ?_
      refine lv_iload hx hb md_Mo_obeys_459 (lv_at hl 2 rfl) ?_
      refine lv_aload_n hx hb md_Mo_obeys_461 rfl (lv_at hl 0 rfl) ?_
      refine fw_getr hx hb hts i_Mo hown hK hP (mm_0 (by decide)) (mk_0 0) rfl 46 (by decide) (hts _ L_Mo_146) (fun _ h9 => h9) rfl md_Mo_obeys_462 ?_
      refine lv_iload hx hb md_Mo_obeys_465 (lv_at hl 2 rfl) ?_
      refine lv_iconst (v := (1 : Int32)) hx hb md_Mo_obeys_467 (by decide) ?_
      refine lv_iadd hx hb md_Mo_obeys_468 ?_
      refine fw_top (y := (2 : Int32)) (by decide) ?_
      refine fw_iald hx hb hK hP (mm_47 (by decide)) (mk_47 0) 0 rfl (j := 2) (by decide) (fw_inc (by decide)) md_Mo_obeys_469 ?_
      have h_30 : vp_in (v 47 0 2) 3 := hI.1 47 0 (2)
      refine fw_iast hx hb hK hD hP hS (mm_47 (by decide)) (mk_47 0) 0 rfl (j := 1) (by decide) (fw_inc (by decide)) md_Mo_obeys_470 (fun v31 H locs ev31 hP hS => ?_)
      have hI : mI b v31 := by rw [ev31]; exact mI_up hI h_30 trivial
      refine lv_aload_n hx hb md_Mo_obeys_471 rfl (lv_at hl 0 rfl) ?_
      refine fw_getr hx hb hts i_Mo hown hK hP (mm_0 (by decide)) (mk_0 0) rfl 47 (by decide) (hts _ L_Mo_149) (fun _ h9 => h9) rfl md_Mo_obeys_472 ?_
      refine lv_iload hx hb md_Mo_obeys_475 (lv_at hl 2 rfl) ?_
      refine lv_aload_n hx hb md_Mo_obeys_477 rfl (lv_at hl 0 rfl) ?_
      refine fw_getr hx hb hts i_Mo hown hK hP (mm_0 (by decide)) (mk_0 0) rfl 47 (by decide) (hts _ L_Mo_149) (fun _ h9 => h9) rfl md_Mo_obeys_478 ?_
      refine lv_iload hx hb md_Mo_obeys_481 (lv_at hl 2 rfl) ?_
      refine lv_iconst (v := (1 : Int32)) hx hb md_Mo_obeys_483 (by decide) ?_
      refine lv_iadd hx hb md_Mo_obeys_484 ?_
      refine fw_top (y := (2 : Int32)) (by decide) ?_
      refine fw_iald hx hb hK hP (mm_48 (by decide)) (mk_48 0) 0 rfl (j := 2) (by decide) (fw_inc (by decide)) md_Mo_obeys_485 ?_
      refine fw_iast hx hb hK hD hP hS (mm_48 (by decide)) (mk_48 0) 0 rfl (j := 1) (by decide) (fw_inc (by decide)) md_Mo_obeys_486 (fun v32 H locs ev32 hP hS => ?_)
      have hI : mI b v32 := by rw [ev32]; exact mI_up hI trivial trivial
      refine lv_iinc (v := (2 : Int32)) (lv' := [(5, .int (2 : Int32)), (0, .ref (ad 0 0)), (1, .int (0 : Int32))]) hx hb md_Mo_obeys_487 hl (k := 2) rfl (by decide) (by decide) rfl (fun ls hl => ?_)
      refine lv_goto (tgt := 440) hx hb md_Mo_obeys_490 (by decide) ?_
      exact J8 v32  _ _ _ (by rw [hj]; subst ev31 ev32; simp only [mf_Mo_obeys_0_j7, if_neg c_29])  (by rw [ev32, fw_up_c (c := 48) (c' := 37) (by decide), ev31, fw_up_c (c := 47) (c' := 37) (by decide)]; exact hkf0) hI hP hS (lv_sub hl [1, 2, 0] rfl)
  have J6 : ∀ (v : fw_V)  (H : Heap) (locs : List Loc) (ls : Array Slot), mf_Mo_obeys_0 v0 a2 a3 = mf_Mo_obeys_0_j6 v a2 a3 → vp_in (v 37 0 0) 4 → mI b v → va_P D vcls (fw_w mCL cA mkd ad v) H → va_S (fw_A mCL ad) s.heap H locs → lv_has ls 7 [(0, .ref (ad 0 0)), (1, .int (0 : Int32)), (5, .int (0 : Int32))] → W p l e (headSpec (Cond.code my_Mo_obeys mb_Mo_obeys 7 none :: vTB) mrm_Mo_obeys).room s m ([.ref (ad 0 0), .int (0 : Int32), .int a2, .int a3] : List Value).toArray below meth c H locs 0 0 (MQ below (fw_Qv D vcls mCL cA mkd ad (mI b) (mf_Mo_obeys_0 v0 a2 a3)) ([.ref (ad 0 0), .int (0 : Int32), .int a2, .int a3] : List Value).toArray s 0 0 (fw_A mCL ad)) (F0 m 440 ls []) := by
    intro v  H locs ls hj hkf0 hI hP hS hl
    clear J9 J8
    refine lv_iload hx hb md_Mo_obeys_440 (lv_at hl 2 rfl) ?_
    refine lv_iconst (v := (4 : Int32)) hx hb md_Mo_obeys_442 (by decide) ?_
    refine lv_iload_n hx hb md_Mo_obeys_443 rfl (lv_at hl 1 rfl) ?_
    refine lv_imul hx hb md_Mo_obeys_444 ?_
    refine fw_top (y := (0 : Int32)) (by decide) ?_
    refine lv_aload_n hx hb md_Mo_obeys_445 rfl (lv_at hl 0 rfl) ?_
    refine fw_getr hx hb hts i_Mo hown hK hP (mm_0 (by decide)) (mk_0 0) rfl 36 (by decide) (hts _ L_Mo_116) (fun _ h9 => h9) rfl md_Mo_obeys_446 ?_
    refine lv_iload_n hx hb md_Mo_obeys_449 rfl (lv_at hl 1 rfl) ?_
    refine fw_iald hx hb hK hP (mm_37 (by decide)) (mk_37 0) 0 rfl (j := 0) (by decide) (fw_inc (by decide)) md_Mo_obeys_450 ?_
    have h_23 : vp_in (v 37 0 0) 5 := hI.1 37 0 (0)
    refine lv_iadd hx hb md_Mo_obeys_451 ?_
    refine lv_icmp_ge (tgt := 493) hx hb md_Mo_obeys_452 (by decide) (fun c_24 => ?_) (fun c_24 => ?_)
    · refine lv_goto (tgt := 507) hx hb md_Mo_obeys_493 (by decide) ?_
      exact fw_vret hx hb hr hlocks hS hP hI md_Mo_obeys_507 (by rw [hj]; simp only [mf_Mo_obeys_0_j6, if_pos c_24])
    · refine lv_aload_n hx hb md_Mo_obeys_455 rfl (lv_at hl 0 rfl) ?_
      refine fw_getr hx hb hts i_Mo hown hK hP (mm_0 (by decide)) (mk_0 0) rfl 46 (by decide) (hts _ L_Mo_146) (fun _ h9 => h9) rfl md_Mo_obeys_456 ?_
      refine lv_iload hx hb md_Mo_obeys_459 (lv_at hl 2 rfl) ?_
      refine lv_aload_n hx hb md_Mo_obeys_461 rfl (lv_at hl 0 rfl) ?_
      refine fw_getr hx hb hts i_Mo hown hK hP (mm_0 (by decide)) (mk_0 0) rfl 46 (by decide) (hts _ L_Mo_146) (fun _ h9 => h9) rfl md_Mo_obeys_462 ?_
      refine lv_iload hx hb md_Mo_obeys_465 (lv_at hl 2 rfl) ?_
      refine lv_iconst (v := (1 : Int32)) hx hb md_Mo_obeys_467 (by decide) ?_
      refine lv_iadd hx hb md_Mo_obeys_468 ?_
      refine fw_top (y := (1 : Int32)) (by decide) ?_
      refine fw_iald hx hb hK hP (mm_47 (by decide)) (mk_47 0) 0 rfl (j := 1) (by decide) (fw_inc (by decide)) md_Mo_obeys_469 ?_
      have h_25 : vp_in (v 47 0 1) 3 := hI.1 47 0 (1)
      refine fw_iast hx hb hK hD hP hS (mm_47 (by decide)) (mk_47 0) 0 rfl (j := 0) (by decide) (fw_inc (by decide)) md_Mo_obeys_470 (fun v26 H locs ev26 hP hS => ?_)
      have hI : mI b v26 := by rw [ev26]; exact mI_up hI h_25 trivial
      refine lv_aload_n hx hb md_Mo_obeys_471 rfl (lv_at hl 0 rfl) ?_
      refine fw_getr hx hb hts i_Mo hown hK hP (mm_0 (by decide)) (mk_0 0) rfl 47 (by decide) (hts _ L_Mo_149) (fun _ h9 => h9) rfl md_Mo_obeys_472 ?_
      refine lv_iload hx hb md_Mo_obeys_475 (lv_at hl 2 rfl) ?_
      refine lv_aload_n hx hb md_Mo_obeys_477 rfl (lv_at hl 0 rfl) ?_
      refine fw_getr hx hb hts i_Mo hown hK hP (mm_0 (by decide)) (mk_0 0) rfl 47 (by decide) (hts _ L_Mo_149) (fun _ h9 => h9) rfl md_Mo_obeys_478 ?_
      refine lv_iload hx hb md_Mo_obeys_481 (lv_at hl 2 rfl) ?_
      refine lv_iconst (v := (1 : Int32)) hx hb md_Mo_obeys_483 (by decide) ?_
      refine lv_iadd hx hb md_Mo_obeys_484 ?_
      refine fw_top (y := (1 : Int32)) (by decide) ?_
      refine fw_iald hx hb hK hP (mm_48 (by decide)) (mk_48 0) 0 rfl (j := 1) (by decide) (fw_inc (by decide)) md_Mo_obeys_485 ?_
      refine fw_iast hx hb hK hD hP hS (mm_48 (by decide)) (mk_48 0) 0 rfl (j := 0) (by decide) (fw_inc (by decide)) md_Mo_obeys_486 (fun v27 H locs ev27 hP hS => ?_)
      have hI : mI b v27 := by rw [ev27]; exact mI_up hI trivial trivial
      refine lv_iinc (v := (1 : Int32)) (lv' := [(5, .int (1 : Int32)), (0, .ref (ad 0 0)), (1, .int (0 : Int32))]) hx hb md_Mo_obeys_487 hl (k := 2) rfl (by decide) (by decide) rfl (fun ls hl => ?_)
      refine lv_goto (tgt := 440) hx hb md_Mo_obeys_490 (by decide) ?_
      exact J7 v27  _ _ _ (by rw [hj]; subst ev26 ev27; simp only [mf_Mo_obeys_0_j6, if_neg c_24])  (by rw [ev27, fw_up_c (c := 48) (c' := 37) (by decide), ev26, fw_up_c (c := 47) (c' := 37) (by decide)]; exact hkf0) hI hP hS (lv_sub hl [1, 2, 0] rfl)
  have J5 : ∀  (H : Heap) (locs : List Loc) (ls : Array Slot), mf_Mo_obeys_0 v0 a2 a3 = mf_Mo_obeys_0_j5 v0 a2 a3 → mI b v0 → va_P D vcls (fw_w mCL cA mkd ad v0) H → va_S (fw_A mCL ad) s.heap H locs → lv_has ls 7 [(0, .ref (ad 0 0)), (1, .int (0 : Int32)), (2, .int a2), (3, .int a3), (4, .int (v0 28 0 0))] → W p l e (headSpec (Cond.code my_Mo_obeys mb_Mo_obeys 7 none :: vTB) mrm_Mo_obeys).room s m ([.ref (ad 0 0), .int (0 : Int32), .int a2, .int a3] : List Value).toArray below meth c H locs 0 0 (MQ below (fw_Qv D vcls mCL cA mkd ad (mI b) (mf_Mo_obeys_0 v0 a2 a3)) ([.ref (ad 0 0), .int (0 : Int32), .int a2, .int a3] : List Value).toArray s 0 0 (fw_A mCL ad)) (F0 m 387 ls []) := by
    intro  H locs ls hj  hI hP hS hl
    clear J9 J8 J7
    refine lv_iload_n hx hb md_Mo_obeys_387 rfl (lv_at hl 2 rfl) ?_
    refine lv_bipush (v := (15 : Int32)) hx hb md_Mo_obeys_388 (by decide) ?_
    refine lv_icmp_ne (tgt := 496) hx hb md_Mo_obeys_390 (by decide) (fun c_6 => ?_) (fun c_6 => ?_)
    · refine lv_iload_n hx hb md_Mo_obeys_496 rfl (lv_at hl 2 rfl) ?_
      refine lv_bipush (v := (16 : Int32)) hx hb md_Mo_obeys_497 (by decide) ?_
      refine lv_icmp_ne (tgt := 507) hx hb md_Mo_obeys_499 (by decide) (fun c_7 => ?_) (fun c_7 => ?_)
      · exact fw_vret hx hb hr hlocks hS hP hI md_Mo_obeys_507 (by rw [hj]; simp only [mf_Mo_obeys_0_j5, if_neg c_6, if_neg c_7])
      · refine lv_aload_n hx hb md_Mo_obeys_502 rfl (lv_at hl 0 rfl) ?_
        refine lv_iload_n hx hb md_Mo_obeys_503 rfl (lv_at hl 1 rfl) ?_
        refine fw_cv (va_runV (As := [.int (0 : Int32)]) (rest := []) ⟨hx, hb, hml, hown, hts⟩ (mc_Mo_rest_0 l hD v0 hI ) (mw_Mo_rest hts L_Mo_241 ⟨Nat.le_of_ble_eq_true rfl, Nat.le_of_ble_eq_true rfl⟩) (fw_preV hN hK hP (mm_0 (by decide)) (mk_0 0) rfl) rfl rfl hl.1 rfl (lv_room (Nat.le_of_ble_eq_true rfl)) md_Mo_obeys_504 ⟨Nat.le_of_ble_eq_true rfl, Nat.le_of_ble_eq_true rfl⟩) hS (fun v8 H locs ev8 hI hP hS => ?_)
        exact fw_vret hx hb hr hlocks hS hP hI md_Mo_obeys_507 (by rw [hj]; subst ev8; simp only [mf_Mo_obeys_0_j5, if_neg c_6, if_pos c_7])
    · refine lv_iload hx hb md_Mo_obeys_393 (lv_at hl 4 rfl) ?_
      refine lv_iconst (v := (3 : Int32)) hx hb md_Mo_obeys_395 (by decide) ?_
      refine lv_icmp_ne (tgt := 496) hx hb md_Mo_obeys_396 (by decide) (fun c_9 => ?_) (fun c_9 => ?_)
      · refine lv_iload_n hx hb md_Mo_obeys_496 rfl (lv_at hl 2 rfl) ?_
        refine lv_bipush (v := (16 : Int32)) hx hb md_Mo_obeys_497 (by decide) ?_
        refine lv_icmp_ne (tgt := 507) hx hb md_Mo_obeys_499 (by decide) (fun c_10 => ?_) (fun c_10 => ?_)
        · exact fw_vret hx hb hr hlocks hS hP hI md_Mo_obeys_507 (by rw [hj]; simp only [mf_Mo_obeys_0_j5, if_pos c_6, if_neg c_9, if_neg c_10])
        · refine lv_aload_n hx hb md_Mo_obeys_502 rfl (lv_at hl 0 rfl) ?_
          refine lv_iload_n hx hb md_Mo_obeys_503 rfl (lv_at hl 1 rfl) ?_
          refine fw_cv (va_runV (As := [.int (0 : Int32)]) (rest := []) ⟨hx, hb, hml, hown, hts⟩ (mc_Mo_rest_0 l hD v0 hI ) (mw_Mo_rest hts L_Mo_241 ⟨Nat.le_of_ble_eq_true rfl, Nat.le_of_ble_eq_true rfl⟩) (fw_preV hN hK hP (mm_0 (by decide)) (mk_0 0) rfl) rfl rfl hl.1 rfl (lv_room (Nat.le_of_ble_eq_true rfl)) md_Mo_obeys_504 ⟨Nat.le_of_ble_eq_true rfl, Nat.le_of_ble_eq_true rfl⟩) hS (fun v11 H locs ev11 hI hP hS => ?_)
          exact fw_vret hx hb hr hlocks hS hP hI md_Mo_obeys_507 (by rw [hj]; subst ev11; simp only [mf_Mo_obeys_0_j5, if_pos c_6, if_neg c_9, if_pos c_10])
      · refine lv_aload_n hx hb md_Mo_obeys_399 rfl (lv_at hl 0 rfl) ?_
        refine fw_getr hx hb hts i_Mo hown hK hP (mm_0 (by decide)) (mk_0 0) rfl 35 (by decide) (hts _ L_Mo_113) (fun _ h9 => h9) rfl md_Mo_obeys_400 ?_
        refine lv_iload_n hx hb md_Mo_obeys_403 rfl (lv_at hl 1 rfl) ?_
        refine fw_iald hx hb hK hP (mm_36 (by decide)) (mk_36 0) 0 rfl (j := 0) (by decide) (fw_inc (by decide)) md_Mo_obeys_404 ?_
        refine lv_if_le (tgt := 496) hx hb md_Mo_obeys_405 (by decide) (fun c_12 => ?_) (fun c_12 => ?_)
        · refine lv_iload_n hx hb md_Mo_obeys_496 rfl (lv_at hl 2 rfl) ?_
          refine lv_bipush (v := (16 : Int32)) hx hb md_Mo_obeys_497 (by decide) ?_
          refine lv_icmp_ne (tgt := 507) hx hb md_Mo_obeys_499 (by decide) (fun c_13 => ?_) (fun c_13 => ?_)
          · exact fw_vret hx hb hr hlocks hS hP hI md_Mo_obeys_507 (by rw [hj]; simp only [mf_Mo_obeys_0_j5, if_pos c_6, if_pos c_9, if_pos c_12, if_neg c_13])
          · refine lv_aload_n hx hb md_Mo_obeys_502 rfl (lv_at hl 0 rfl) ?_
            refine lv_iload_n hx hb md_Mo_obeys_503 rfl (lv_at hl 1 rfl) ?_
            refine fw_cv (va_runV (As := [.int (0 : Int32)]) (rest := []) ⟨hx, hb, hml, hown, hts⟩ (mc_Mo_rest_0 l hD v0 hI ) (mw_Mo_rest hts L_Mo_241 ⟨Nat.le_of_ble_eq_true rfl, Nat.le_of_ble_eq_true rfl⟩) (fw_preV hN hK hP (mm_0 (by decide)) (mk_0 0) rfl) rfl rfl hl.1 rfl (lv_room (Nat.le_of_ble_eq_true rfl)) md_Mo_obeys_504 ⟨Nat.le_of_ble_eq_true rfl, Nat.le_of_ble_eq_true rfl⟩) hS (fun v14 H locs ev14 hI hP hS => ?_)
            exact fw_vret hx hb hr hlocks hS hP hI md_Mo_obeys_507 (by rw [hj]; subst ev14; simp only [mf_Mo_obeys_0_j5, if_pos c_6, if_pos c_9, if_pos c_12, if_pos c_13])
        · have h_15 : 0 < (v0 37 0 0).toInt := (hI.2.1 0).resolve_left (fun q => q (fw_gt0 c_12))
          refine lv_aload_n hx hb md_Mo_obeys_408 rfl (lv_at hl 0 rfl) ?_
          refine fw_getr hx hb hts i_Mo hown hK hP (mm_0 (by decide)) (mk_0 0) rfl 35 (by decide) (hts _ L_Mo_113) (fun _ h9 => h9) rfl md_Mo_obeys_409 ?_
          refine lv_iload_n hx hb md_Mo_obeys_412 rfl (lv_at hl 1 rfl) ?_
          refine fw_iald hx hb hK hP (mm_36 (by decide)) (mk_36 0) 0 rfl (j := 0) (by decide) (fw_inc (by decide)) md_Mo_obeys_413 ?_
          refine lv_iload_n hx hb md_Mo_obeys_414 rfl (lv_at hl 3 rfl) ?_
          refine lv_icmp_ne (tgt := 496) hx hb md_Mo_obeys_415 (by decide) (fun c_16 => ?_) (fun c_16 => ?_)
          · refine lv_iload_n hx hb md_Mo_obeys_496 rfl (lv_at hl 2 rfl) ?_
            refine lv_bipush (v := (16 : Int32)) hx hb md_Mo_obeys_497 (by decide) ?_
            refine lv_icmp_ne (tgt := 507) hx hb md_Mo_obeys_499 (by decide) (fun c_17 => ?_) (fun c_17 => ?_)
            · exact fw_vret hx hb hr hlocks hS hP hI md_Mo_obeys_507 (by rw [hj]; simp only [mf_Mo_obeys_0_j5, if_pos c_6, if_pos c_9, if_neg c_12, if_neg c_16, if_neg c_17])
            · refine lv_aload_n hx hb md_Mo_obeys_502 rfl (lv_at hl 0 rfl) ?_
              refine lv_iload_n hx hb md_Mo_obeys_503 rfl (lv_at hl 1 rfl) ?_
              refine fw_cv (va_runV (As := [.int (0 : Int32)]) (rest := []) ⟨hx, hb, hml, hown, hts⟩ (mc_Mo_rest_0 l hD v0 hI ) (mw_Mo_rest hts L_Mo_241 ⟨Nat.le_of_ble_eq_true rfl, Nat.le_of_ble_eq_true rfl⟩) (fw_preV hN hK hP (mm_0 (by decide)) (mk_0 0) rfl) rfl rfl hl.1 rfl (lv_room (Nat.le_of_ble_eq_true rfl)) md_Mo_obeys_504 ⟨Nat.le_of_ble_eq_true rfl, Nat.le_of_ble_eq_true rfl⟩) hS (fun v18 H locs ev18 hI hP hS => ?_)
              exact fw_vret hx hb hr hlocks hS hP hI md_Mo_obeys_507 (by rw [hj]; subst ev18; simp only [mf_Mo_obeys_0_j5, if_pos c_6, if_pos c_9, if_neg c_12, if_neg c_16, if_pos c_17])
          · refine lv_aload_n hx hb md_Mo_obeys_418 rfl (lv_at hl 0 rfl) ?_
            refine fw_getr hx hb hts i_Mo hown hK hP (mm_0 (by decide)) (mk_0 0) rfl 35 (by decide) (hts _ L_Mo_113) (fun _ h9 => h9) rfl md_Mo_obeys_419 ?_
            refine lv_iload_n hx hb md_Mo_obeys_422 rfl (lv_at hl 1 rfl) ?_
            refine lv_iconst (v := (0 : Int32)) hx hb md_Mo_obeys_423 (by decide) ?_
            refine fw_iast hx hb hK hD hP hS (mm_36 (by decide)) (mk_36 0) 0 rfl (j := 0) (by decide) (fw_inc (by decide)) md_Mo_obeys_424 (fun v19 H locs ev19 hP hS => ?_)
            have hI : mI b v19 := by rw [ev19]; exact mI_up hI trivial (Or.inl (by decide))
            refine lv_aload_n hx hb md_Mo_obeys_425 rfl (lv_at hl 0 rfl) ?_
            refine fw_getr hx hb hts i_Mo hown hK hP (mm_0 (by decide)) (mk_0 0) rfl 36 (by decide) (hts _ L_Mo_116) (fun _ h9 => h9) rfl md_Mo_obeys_426 ?_
            refine lv_iload_n hx hb md_Mo_obeys_429 rfl (lv_at hl 1 rfl) ?_
            refine lv_dup2_11 hx hb md_Mo_obeys_430 rfl rfl ?_
            refine fw_iald hx hb hK hP (mm_37 (by decide)) (mk_37 0) 0 rfl (j := 0) (by decide) (fw_inc (by decide)) md_Mo_obeys_431 ?_
            have h_20 : 0 < (v19 37 0 0).toInt := (by rw [ev19, fw_up_c (c := 36) (c' := 37) (by decide)]; exact h_15)
            have h_21 : vp_in (v19 37 0 0) 5 := hI.1 37 0 (0)
            refine lv_iconst (v := (1 : Int32)) hx hb md_Mo_obeys_432 (by decide) ?_
            refine lv_isub hx hb md_Mo_obeys_433 ?_
            refine fw_iast hx hb hK hD hP hS (mm_37 (by decide)) (mk_37 0) 0 rfl (j := 0) (by decide) (fw_inc (by decide)) md_Mo_obeys_434 (fun v22 H locs ev22 hP hS => ?_)
            have hI : mI b v22 := by rw [ev22]; exact mI_up hI (fw_inm (fw_inm1 h_21 h_20) (by decide)) (Or.inl (by rw [ev19, fw_up_s]; decide))
            refine lv_iconst (v := (4 : Int32)) hx hb md_Mo_obeys_435 (by decide) ?_
            refine lv_iload_n hx hb md_Mo_obeys_436 rfl (lv_at hl 1 rfl) ?_
            refine lv_imul hx hb md_Mo_obeys_437 ?_
            refine fw_top (y := (0 : Int32)) (by decide) ?_
            refine lv_istore (lv' := [(5, .int (0 : Int32)), (0, .ref (ad 0 0)), (1, .int (0 : Int32)), (2, .int a2), (3, .int a3), (4, .int (v0 28 0 0))]) hx hb md_Mo_obeys_438 hl (by decide) rfl (fun ls hl => ?_)
            exact J6 v22  _ _ _ (by rw [hj]; subst ev19 ev22; simp only [mf_Mo_obeys_0_j5, if_pos c_6, if_pos c_9, if_neg c_12, if_pos c_16])  (by rw [ev22, fw_up_s]; exact (fw_inm1 h_21 h_20)) hI hP hS (lv_sub hl [1, 2, 0] rfl)
  have J22 : ∀ (v : fw_V)  (H : Heap) (locs : List Loc) (ls : Array Slot), mf_Mo_obeys_0 v0 a2 a3 = mf_Mo_obeys_0_j22 v a2 a3 → mI b v → va_P D vcls (fw_w mCL cA mkd ad v) H → va_S (fw_A mCL ad) s.heap H locs → lv_has ls 7 [(0, .ref (ad 0 0)), (1, .int (0 : Int32)), (5, .int (6 : Int32))] → W p l e (headSpec (Cond.code my_Mo_obeys mb_Mo_obeys 7 none :: vTB) mrm_Mo_obeys).room s m ([.ref (ad 0 0), .int (0 : Int32), .int a2, .int a3] : List Value).toArray below meth c H locs 0 0 (MQ below (fw_Qv D vcls mCL cA mkd ad (mI b) (mf_Mo_obeys_0 v0 a2 a3)) ([.ref (ad 0 0), .int (0 : Int32), .int a2, .int a3] : List Value).toArray s 0 0 (fw_A mCL ad)) (F0 m 317 ls []) := by
    intro v  H locs ls hj  hI hP hS hl
    clear J9 J8 J7 J6 J5
    refine lv_iload hx hb md_Mo_obeys_317 (lv_at hl 2 rfl) ?_
    refine lv_bipush (v := (6 : Int32)) hx hb md_Mo_obeys_319 (by decide) ?_
    refine lv_icmp_ge (tgt := 384) hx hb md_Mo_obeys_321 (by decide) (fun _ => ?_) (fun c_63 => absurd (by decide) c_63)
    refine lv_goto (tgt := 507) hx hb md_Mo_obeys_384 (by decide) ?_
    exact fw_vret hx hb hr hlocks hS hP hI md_Mo_obeys_507 (by rw [hj]; simp only [mf_Mo_obeys_0_j22])
  have J21 : ∀ (v : fw_V)  (H : Heap) (locs : List Loc) (ls : Array Slot), mf_Mo_obeys_0 v0 a2 a3 = mf_Mo_obeys_0_j21 v a2 a3 → mI b v → va_P D vcls (fw_w mCL cA mkd ad v) H → va_S (fw_A mCL ad) s.heap H locs → lv_has ls 7 [(0, .ref (ad 0 0)), (1, .int (0 : Int32)), (5, .int (5 : Int32))] → W p l e (headSpec (Cond.code my_Mo_obeys mb_Mo_obeys 7 none :: vTB) mrm_Mo_obeys).room s m ([.ref (ad 0 0), .int (0 : Int32), .int a2, .int a3] : List Value).toArray below meth c H locs 0 0 (MQ below (fw_Qv D vcls mCL cA mkd ad (mI b) (mf_Mo_obeys_0 v0 a2 a3)) ([.ref (ad 0 0), .int (0 : Int32), .int a2, .int a3] : List Value).toArray s 0 0 (fw_A mCL ad)) (F0 m 378 ls []) := by
    intro v  H locs ls hj  hI hP hS hl
    clear J9 J8 J7 J6 J5
    refine lv_iinc (v := (6 : Int32)) (lv' := [(5, .int (6 : Int32)), (0, .ref (ad 0 0)), (1, .int (0 : Int32))]) hx hb md_Mo_obeys_378 hl (k := 2) rfl (by decide) (by decide) rfl (fun ls hl => ?_)
    refine lv_goto (tgt := 317) hx hb md_Mo_obeys_381 (by decide) ?_
    exact J22 v  _ _ _ (by rw [hj]; simp only [mf_Mo_obeys_0_j21])   hI hP hS (lv_sub hl [1, 2, 0] rfl)
  have J23 : ∀ (v : fw_V)  (H : Heap) (locs : List Loc) (ls : Array Slot), mf_Mo_obeys_0 v0 a2 a3 = mf_Mo_obeys_0_j23 v a2 a3 → mI b v → va_P D vcls (fw_w mCL cA mkd ad v) H → va_S (fw_A mCL ad) s.heap H locs → lv_has ls 7 [(0, .ref (ad 0 0)), (1, .int (0 : Int32)), (5, .int (5 : Int32))] → W p l e (headSpec (Cond.code my_Mo_obeys mb_Mo_obeys 7 none :: vTB) mrm_Mo_obeys).room s m ([.ref (ad 0 0), .int (0 : Int32), .int a2, .int a3] : List Value).toArray below meth c H locs 0 0 (MQ below (fw_Qv D vcls mCL cA mkd ad (mI b) (mf_Mo_obeys_0 v0 a2 a3)) ([.ref (ad 0 0), .int (0 : Int32), .int a2, .int a3] : List Value).toArray s 0 0 (fw_A mCL ad)) (F0 m 377 ls [.int (0 : Int32), .int (5 : Int32), .ref (ad 46 0)]) := by
    intro v  H locs ls hj  hI hP hS hl
    clear J9 J8 J7 J6 J5 J22
    refine fw_iast hx hb hK hD hP hS (mm_46 (by decide)) (mk_46 0) 0 rfl (j := 5) (by decide) (fw_inc (by decide)) md_Mo_obeys_377 (fun v67 H locs ev67 hP hS => ?_)
    have hI : mI b v67 := by rw [ev67]; exact mI_up hI trivial trivial
    exact J21 v67  _ _ _ (by rw [hj]; subst ev67; simp only [mf_Mo_obeys_0_j23])   hI hP hS (lv_sub hl [0, 1, 2] rfl)
  have J24 : ∀ (v : fw_V) (x90 : Int32) (H : Heap) (locs : List Loc) (ls : Array Slot), mf_Mo_obeys_0 v0 a2 a3 = mf_Mo_obeys_0_j24 v a2 a3 x90 → mI b v → va_P D vcls (fw_w mCL cA mkd ad v) H → va_S (fw_A mCL ad) s.heap H locs → lv_has ls 7 [(0, .ref (ad 0 0)), (1, .int (0 : Int32)), (5, .int (5 : Int32))] → W p l e (headSpec (Cond.code my_Mo_obeys mb_Mo_obeys 7 none :: vTB) mrm_Mo_obeys).room s m ([.ref (ad 0 0), .int (0 : Int32), .int a2, .int a3] : List Value).toArray below meth c H locs 0 0 (MQ below (fw_Qv D vcls mCL cA mkd ad (mI b) (mf_Mo_obeys_0 v0 a2 a3)) ([.ref (ad 0 0), .int (0 : Int32), .int a2, .int a3] : List Value).toArray s 0 0 (fw_A mCL ad)) (F0 m 377 ls [.int x90, .int (5 : Int32), .ref (ad 46 0)]) := by
    intro v x90 H locs ls hj  hI hP hS hl
    clear J9 J8 J7 J6 J5 J22 J23
    refine fw_iast hx hb hK hD hP hS (mm_46 (by decide)) (mk_46 0) 0 rfl (j := 5) (by decide) (fw_inc (by decide)) md_Mo_obeys_377 (fun v68 H locs ev68 hP hS => ?_)
    have hI : mI b v68 := by rw [ev68]; exact mI_up hI trivial trivial
    exact J21 v68  _ _ _ (by rw [hj]; subst ev68; simp only [mf_Mo_obeys_0_j24])   hI hP hS (lv_sub hl [0, 1, 2] rfl)
  have J20 : ∀ (v : fw_V)  (H : Heap) (locs : List Loc) (ls : Array Slot), mf_Mo_obeys_0 v0 a2 a3 = mf_Mo_obeys_0_j20 v a2 a3 → mI b v → va_P D vcls (fw_w mCL cA mkd ad v) H → va_S (fw_A mCL ad) s.heap H locs → lv_has ls 7 [(0, .ref (ad 0 0)), (1, .int (0 : Int32)), (5, .int (5 : Int32))] → W p l e (headSpec (Cond.code my_Mo_obeys mb_Mo_obeys 7 none :: vTB) mrm_Mo_obeys).room s m ([.ref (ad 0 0), .int (0 : Int32), .int a2, .int a3] : List Value).toArray below meth c H locs 0 0 (MQ below (fw_Qv D vcls mCL cA mkd ad (mI b) (mf_Mo_obeys_0 v0 a2 a3)) ([.ref (ad 0 0), .int (0 : Int32), .int a2, .int a3] : List Value).toArray s 0 0 (fw_A mCL ad)) (F0 m 317 ls []) := by
    intro v  H locs ls hj  hI hP hS hl
    clear J9 J8 J7 J6 J5 J22
    refine lv_iload hx hb md_Mo_obeys_317 (lv_at hl 2 rfl) ?_
    refine lv_bipush (v := (6 : Int32)) hx hb md_Mo_obeys_319 (by decide) ?_
    refine lv_icmp_ge (tgt := 384) hx hb md_Mo_obeys_321 (by decide) (fun c_60 => absurd c_60 (by decide)) (fun _ => ?_)
    refine lv_aload_n hx hb md_Mo_obeys_324 rfl (lv_at hl 0 rfl) ?_
    refine lv_iload_n hx hb md_Mo_obeys_325 rfl (lv_at hl 1 rfl) ?_
    refine lv_iload hx hb md_Mo_obeys_326 (lv_at hl 2 rfl) ?_
    refine lv_iconst (v := (2 : Int32)) hx hb md_Mo_obeys_328 (by decide) ?_
    refine lv_idiv hx hb md_Mo_obeys_329 (by decide) ?_
    refine fw_top (y := (2 : Int32)) (by decide) ?_
    refine fw_cb (va_runV (As := [.int (0 : Int32), .int (2 : Int32)]) (rest := []) ⟨hx, hb, hml, hown, hts⟩ (mc_Mo_isGood_0 l hD v hI (2 : Int32) (fw_inc (by decide))) (mw_Mo_isGood hts L_Mo_250 ⟨Nat.le_of_ble_eq_true rfl, Nat.le_of_ble_eq_true rfl⟩) (fw_preV hN hK hP (mm_0 (by decide)) (mk_0 0) rfl) rfl rfl hl.1 rfl (lv_room (Nat.le_of_ble_eq_true rfl)) md_Mo_obeys_330 ⟨Nat.le_of_ble_eq_true rfl, Nat.le_of_ble_eq_true rfl⟩) hS (fun r61 H locs zr61 er61 hP hS => ?_)
    refine lv_if_eq (tgt := 378) hx hb md_Mo_obeys_333 (by decide) (fun c_62 => ?_) (fun c_62 => ?_)
    · exact J21 v  _ _ _ (by rw [hj]; subst er61; simp only [mf_Mo_obeys_0_j20, if_pos c_62])   hI hP hS (lv_sub hl [0, 1, 2] rfl)
    · have h_64 : vp_in (v 43 0 2) 8 := mp_isGood_0_2 er61 c_62 (hI.1 43 0 2)
      refine lv_aload_n hx hb md_Mo_obeys_336 rfl (lv_at hl 0 rfl) ?_
      refine fw_getr hx hb hts i_Mo hown hK hP (mm_0 (by decide)) (mk_0 0) rfl 45 (by decide) (hts _ L_Mo_143) (fun _ h9 => h9) rfl md_Mo_obeys_337 ?_
      refine lv_bipush (v := (6 : Int32)) hx hb md_Mo_obeys_340 (by decide) ?_
      refine lv_iload_n hx hb md_Mo_obeys_342 rfl (lv_at hl 1 rfl) ?_
      refine lv_imul hx hb md_Mo_obeys_343 ?_
      refine fw_top (y := (0 : Int32)) (by decide) ?_
      refine lv_iload hx hb md_Mo_obeys_344 (lv_at hl 2 rfl) ?_
      refine lv_iadd hx hb md_Mo_obeys_346 ?_
      refine fw_top (y := (5 : Int32)) (by decide) ?_
      refine lv_iload hx hb md_Mo_obeys_347 (lv_at hl 2 rfl) ?_
      refine lv_iconst (v := (2 : Int32)) hx hb md_Mo_obeys_349 (by decide) ?_
      refine lv_irem hx hb md_Mo_obeys_350 (by decide) ?_
      refine fw_top (y := (1 : Int32)) (by decide) ?_
      refine lv_aload_n hx hb md_Mo_obeys_351 rfl (lv_at hl 0 rfl) ?_
      refine lv_iconst (v := (3 : Int32)) hx hb md_Mo_obeys_352 (by decide) ?_
      refine lv_iload_n hx hb md_Mo_obeys_353 rfl (lv_at hl 1 rfl) ?_
      refine lv_imul hx hb md_Mo_obeys_354 ?_
      refine fw_top (y := (0 : Int32)) (by decide) ?_
      refine lv_iload hx hb md_Mo_obeys_355 (lv_at hl 2 rfl) ?_
      refine lv_iconst (v := (2 : Int32)) hx hb md_Mo_obeys_357 (by decide) ?_
      refine lv_idiv hx hb md_Mo_obeys_358 (by decide) ?_
      refine fw_top (y := (2 : Int32)) (by decide) ?_
      refine lv_iadd hx hb md_Mo_obeys_359 ?_
      refine fw_top (y := (2 : Int32)) (by decide) ?_
      refine fw_co (va_runV (As := [.int (2 : Int32)]) (rest := [.int (1 : Int32), .int (5 : Int32), .ref (ad 46 0)]) ⟨hx, hb, hml, hown, hts⟩ (mc_Mo_outsAt l hD v hI (2 : Int32) (fw_inc (by decide))) (mw_Mo_outsAt hts L_Mo_256 ⟨Nat.le_of_ble_eq_true rfl, Nat.le_of_ble_eq_true rfl⟩) (fw_preV hN hK hP (mm_0 (by decide)) (mk_0 0) rfl) rfl rfl hl.1 rfl (lv_room (Nat.le_of_ble_eq_true rfl)) md_Mo_obeys_360 ⟨Nat.le_of_ble_eq_true rfl, Nat.le_of_ble_eq_true rfl⟩) hS (fun r65 H locs er65 hP hS => ?_)
      refine lv_icmp_ge (tgt := 376) hx hb md_Mo_obeys_363 (by decide) (fun c_66 => ?_) (fun c_66 => ?_)
      · refine lv_iconst (v := (0 : Int32)) hx hb md_Mo_obeys_376 (by decide) ?_
        exact J23 v  _ _ _ (by rw [hj]; subst er61 er65; simp only [mf_Mo_obeys_0_j20, if_neg c_62, if_pos c_66])   hI hP hS (lv_sub hl [0, 1, 2] rfl)
      · refine lv_aload_n hx hb md_Mo_obeys_366 rfl (lv_at hl 0 rfl) ?_
        refine fw_getr hx hb hts i_Mo hown hK hP (mm_0 (by decide)) (mk_0 0) rfl 9 (by decide) (hts _ L_Mo_38) (fun _ h9 => h9) rfl md_Mo_obeys_367 ?_
        refine lv_iload hx hb md_Mo_obeys_370 (lv_at hl 2 rfl) ?_
        refine fw_iald hx hb hK hP (mm_10 (by decide)) (mk_10 0) 0 rfl (j := 5) (by decide) (fw_inc (by decide)) md_Mo_obeys_372 ?_
        refine lv_goto (tgt := 377) hx hb md_Mo_obeys_373 (by decide) ?_
        exact J24 v ((v 10 0 5)) _ _ _ (by rw [hj]; subst er61 er65; simp only [mf_Mo_obeys_0_j20, if_neg c_62, if_neg c_66])   hI hP hS (lv_sub hl [0, 1, 2] rfl)
  have J19 : ∀ (v : fw_V)  (H : Heap) (locs : List Loc) (ls : Array Slot), mf_Mo_obeys_0 v0 a2 a3 = mf_Mo_obeys_0_j19 v a2 a3 → mI b v → va_P D vcls (fw_w mCL cA mkd ad v) H → va_S (fw_A mCL ad) s.heap H locs → lv_has ls 7 [(0, .ref (ad 0 0)), (1, .int (0 : Int32)), (5, .int (4 : Int32))] → W p l e (headSpec (Cond.code my_Mo_obeys mb_Mo_obeys 7 none :: vTB) mrm_Mo_obeys).room s m ([.ref (ad 0 0), .int (0 : Int32), .int a2, .int a3] : List Value).toArray below meth c H locs 0 0 (MQ below (fw_Qv D vcls mCL cA mkd ad (mI b) (mf_Mo_obeys_0 v0 a2 a3)) ([.ref (ad 0 0), .int (0 : Int32), .int a2, .int a3] : List Value).toArray s 0 0 (fw_A mCL ad)) (F0 m 378 ls []) := by
    intro v  H locs ls hj  hI hP hS hl
    clear J9 J8 J7 J6 J5 J22 J21 J23 J24
    refine lv_iinc (v := (5 : Int32)) (lv' := [(5, .int (5 : Int32)), (0, .ref (ad 0 0)), (1, .int (0 : Int32))]) hx hb md_Mo_obeys_378 hl (k := 2) rfl (by decide) (by decide) rfl (fun ls hl => ?_)
    refine lv_goto (tgt := 317) hx hb md_Mo_obeys_381 (by decide) ?_
    exact J20 v  _ _ _ (by rw [hj]; simp only [mf_Mo_obeys_0_j19])   hI hP hS (lv_sub hl [1, 2, 0] rfl)
  have J25 : ∀ (v : fw_V)  (H : Heap) (locs : List Loc) (ls : Array Slot), mf_Mo_obeys_0 v0 a2 a3 = mf_Mo_obeys_0_j25 v a2 a3 → mI b v → va_P D vcls (fw_w mCL cA mkd ad v) H → va_S (fw_A mCL ad) s.heap H locs → lv_has ls 7 [(0, .ref (ad 0 0)), (1, .int (0 : Int32)), (5, .int (4 : Int32))] → W p l e (headSpec (Cond.code my_Mo_obeys mb_Mo_obeys 7 none :: vTB) mrm_Mo_obeys).room s m ([.ref (ad 0 0), .int (0 : Int32), .int a2, .int a3] : List Value).toArray below meth c H locs 0 0 (MQ below (fw_Qv D vcls mCL cA mkd ad (mI b) (mf_Mo_obeys_0 v0 a2 a3)) ([.ref (ad 0 0), .int (0 : Int32), .int a2, .int a3] : List Value).toArray s 0 0 (fw_A mCL ad)) (F0 m 377 ls [.int (0 : Int32), .int (4 : Int32), .ref (ad 46 0)]) := by
    intro v  H locs ls hj  hI hP hS hl
    clear J9 J8 J7 J6 J5 J22 J21 J23 J24 J20
    refine fw_iast hx hb hK hD hP hS (mm_46 (by decide)) (mk_46 0) 0 rfl (j := 4) (by decide) (fw_inc (by decide)) md_Mo_obeys_377 (fun v72 H locs ev72 hP hS => ?_)
    have hI : mI b v72 := by rw [ev72]; exact mI_up hI trivial trivial
    exact J19 v72  _ _ _ (by rw [hj]; subst ev72; simp only [mf_Mo_obeys_0_j25])   hI hP hS (lv_sub hl [0, 1, 2] rfl)
  have J26 : ∀ (v : fw_V) (x90 : Int32) (H : Heap) (locs : List Loc) (ls : Array Slot), mf_Mo_obeys_0 v0 a2 a3 = mf_Mo_obeys_0_j26 v a2 a3 x90 → mI b v → va_P D vcls (fw_w mCL cA mkd ad v) H → va_S (fw_A mCL ad) s.heap H locs → lv_has ls 7 [(0, .ref (ad 0 0)), (1, .int (0 : Int32)), (5, .int (4 : Int32))] → W p l e (headSpec (Cond.code my_Mo_obeys mb_Mo_obeys 7 none :: vTB) mrm_Mo_obeys).room s m ([.ref (ad 0 0), .int (0 : Int32), .int a2, .int a3] : List Value).toArray below meth c H locs 0 0 (MQ below (fw_Qv D vcls mCL cA mkd ad (mI b) (mf_Mo_obeys_0 v0 a2 a3)) ([.ref (ad 0 0), .int (0 : Int32), .int a2, .int a3] : List Value).toArray s 0 0 (fw_A mCL ad)) (F0 m 377 ls [.int x90, .int (4 : Int32), .ref (ad 46 0)]) := by
    intro v x90 H locs ls hj  hI hP hS hl
    clear J9 J8 J7 J6 J5 J22 J21 J23 J24 J20 J25
    refine fw_iast hx hb hK hD hP hS (mm_46 (by decide)) (mk_46 0) 0 rfl (j := 4) (by decide) (fw_inc (by decide)) md_Mo_obeys_377 (fun v73 H locs ev73 hP hS => ?_)
    have hI : mI b v73 := by rw [ev73]; exact mI_up hI trivial trivial
    exact J19 v73  _ _ _ (by rw [hj]; subst ev73; simp only [mf_Mo_obeys_0_j26])   hI hP hS (lv_sub hl [0, 1, 2] rfl)
  have J18 : ∀ (v : fw_V)  (H : Heap) (locs : List Loc) (ls : Array Slot), mf_Mo_obeys_0 v0 a2 a3 = mf_Mo_obeys_0_j18 v a2 a3 → mI b v → va_P D vcls (fw_w mCL cA mkd ad v) H → va_S (fw_A mCL ad) s.heap H locs → lv_has ls 7 [(0, .ref (ad 0 0)), (1, .int (0 : Int32)), (5, .int (4 : Int32))] → W p l e (headSpec (Cond.code my_Mo_obeys mb_Mo_obeys 7 none :: vTB) mrm_Mo_obeys).room s m ([.ref (ad 0 0), .int (0 : Int32), .int a2, .int a3] : List Value).toArray below meth c H locs 0 0 (MQ below (fw_Qv D vcls mCL cA mkd ad (mI b) (mf_Mo_obeys_0 v0 a2 a3)) ([.ref (ad 0 0), .int (0 : Int32), .int a2, .int a3] : List Value).toArray s 0 0 (fw_A mCL ad)) (F0 m 317 ls []) := by
    intro v  H locs ls hj  hI hP hS hl
    clear J9 J8 J7 J6 J5 J22 J21 J23 J24 J20
    refine lv_iload hx hb md_Mo_obeys_317 (lv_at hl 2 rfl) ?_
    refine lv_bipush (v := (6 : Int32)) hx hb md_Mo_obeys_319 (by decide) ?_
    refine lv_icmp_ge (tgt := 384) hx hb md_Mo_obeys_321 (by decide) (fun c_57 => absurd c_57 (by decide)) (fun _ => ?_)
    refine lv_aload_n hx hb md_Mo_obeys_324 rfl (lv_at hl 0 rfl) ?_
    refine lv_iload_n hx hb md_Mo_obeys_325 rfl (lv_at hl 1 rfl) ?_
    refine lv_iload hx hb md_Mo_obeys_326 (lv_at hl 2 rfl) ?_
    refine lv_iconst (v := (2 : Int32)) hx hb md_Mo_obeys_328 (by decide) ?_
    refine lv_idiv hx hb md_Mo_obeys_329 (by decide) ?_
    refine fw_top (y := (2 : Int32)) (by decide) ?_
    refine fw_cb (va_runV (As := [.int (0 : Int32), .int (2 : Int32)]) (rest := []) ⟨hx, hb, hml, hown, hts⟩ (mc_Mo_isGood_0 l hD v hI (2 : Int32) (fw_inc (by decide))) (mw_Mo_isGood hts L_Mo_250 ⟨Nat.le_of_ble_eq_true rfl, Nat.le_of_ble_eq_true rfl⟩) (fw_preV hN hK hP (mm_0 (by decide)) (mk_0 0) rfl) rfl rfl hl.1 rfl (lv_room (Nat.le_of_ble_eq_true rfl)) md_Mo_obeys_330 ⟨Nat.le_of_ble_eq_true rfl, Nat.le_of_ble_eq_true rfl⟩) hS (fun r58 H locs zr58 er58 hP hS => ?_)
    refine lv_if_eq (tgt := 378) hx hb md_Mo_obeys_333 (by decide) (fun c_59 => ?_) (fun c_59 => ?_)
    · exact J19 v  _ _ _ (by rw [hj]; subst er58; simp only [mf_Mo_obeys_0_j18, if_pos c_59])   hI hP hS (lv_sub hl [0, 1, 2] rfl)
    · have h_69 : vp_in (v 43 0 2) 8 := mp_isGood_0_2 er58 c_59 (hI.1 43 0 2)
      refine lv_aload_n hx hb md_Mo_obeys_336 rfl (lv_at hl 0 rfl) ?_
      refine fw_getr hx hb hts i_Mo hown hK hP (mm_0 (by decide)) (mk_0 0) rfl 45 (by decide) (hts _ L_Mo_143) (fun _ h9 => h9) rfl md_Mo_obeys_337 ?_
      refine lv_bipush (v := (6 : Int32)) hx hb md_Mo_obeys_340 (by decide) ?_
      refine lv_iload_n hx hb md_Mo_obeys_342 rfl (lv_at hl 1 rfl) ?_
      refine lv_imul hx hb md_Mo_obeys_343 ?_
      refine fw_top (y := (0 : Int32)) (by decide) ?_
      refine lv_iload hx hb md_Mo_obeys_344 (lv_at hl 2 rfl) ?_
      refine lv_iadd hx hb md_Mo_obeys_346 ?_
      refine fw_top (y := (4 : Int32)) (by decide) ?_
      refine lv_iload hx hb md_Mo_obeys_347 (lv_at hl 2 rfl) ?_
      refine lv_iconst (v := (2 : Int32)) hx hb md_Mo_obeys_349 (by decide) ?_
      refine lv_irem hx hb md_Mo_obeys_350 (by decide) ?_
      refine fw_top (y := (0 : Int32)) (by decide) ?_
      refine lv_aload_n hx hb md_Mo_obeys_351 rfl (lv_at hl 0 rfl) ?_
      refine lv_iconst (v := (3 : Int32)) hx hb md_Mo_obeys_352 (by decide) ?_
      refine lv_iload_n hx hb md_Mo_obeys_353 rfl (lv_at hl 1 rfl) ?_
      refine lv_imul hx hb md_Mo_obeys_354 ?_
      refine fw_top (y := (0 : Int32)) (by decide) ?_
      refine lv_iload hx hb md_Mo_obeys_355 (lv_at hl 2 rfl) ?_
      refine lv_iconst (v := (2 : Int32)) hx hb md_Mo_obeys_357 (by decide) ?_
      refine lv_idiv hx hb md_Mo_obeys_358 (by decide) ?_
      refine fw_top (y := (2 : Int32)) (by decide) ?_
      refine lv_iadd hx hb md_Mo_obeys_359 ?_
      refine fw_top (y := (2 : Int32)) (by decide) ?_
      refine fw_co (va_runV (As := [.int (2 : Int32)]) (rest := [.int (0 : Int32), .int (4 : Int32), .ref (ad 46 0)]) ⟨hx, hb, hml, hown, hts⟩ (mc_Mo_outsAt l hD v hI (2 : Int32) (fw_inc (by decide))) (mw_Mo_outsAt hts L_Mo_256 ⟨Nat.le_of_ble_eq_true rfl, Nat.le_of_ble_eq_true rfl⟩) (fw_preV hN hK hP (mm_0 (by decide)) (mk_0 0) rfl) rfl rfl hl.1 rfl (lv_room (Nat.le_of_ble_eq_true rfl)) md_Mo_obeys_360 ⟨Nat.le_of_ble_eq_true rfl, Nat.le_of_ble_eq_true rfl⟩) hS (fun r70 H locs er70 hP hS => ?_)
      refine lv_icmp_ge (tgt := 376) hx hb md_Mo_obeys_363 (by decide) (fun c_71 => ?_) (fun c_71 => ?_)
      · refine lv_iconst (v := (0 : Int32)) hx hb md_Mo_obeys_376 (by decide) ?_
        exact J25 v  _ _ _ (by rw [hj]; subst er58 er70; simp only [mf_Mo_obeys_0_j18, if_neg c_59, if_pos c_71])   hI hP hS (lv_sub hl [0, 1, 2] rfl)
      · refine lv_aload_n hx hb md_Mo_obeys_366 rfl (lv_at hl 0 rfl) ?_
        refine fw_getr hx hb hts i_Mo hown hK hP (mm_0 (by decide)) (mk_0 0) rfl 9 (by decide) (hts _ L_Mo_38) (fun _ h9 => h9) rfl md_Mo_obeys_367 ?_
        refine lv_iload hx hb md_Mo_obeys_370 (lv_at hl 2 rfl) ?_
        refine fw_iald hx hb hK hP (mm_10 (by decide)) (mk_10 0) 0 rfl (j := 4) (by decide) (fw_inc (by decide)) md_Mo_obeys_372 ?_
        refine lv_goto (tgt := 377) hx hb md_Mo_obeys_373 (by decide) ?_
        exact J26 v ((v 10 0 4)) _ _ _ (by rw [hj]; subst er58 er70; simp only [mf_Mo_obeys_0_j18, if_neg c_59, if_neg c_71])   hI hP hS (lv_sub hl [0, 1, 2] rfl)
  have J17 : ∀ (v : fw_V)  (H : Heap) (locs : List Loc) (ls : Array Slot), mf_Mo_obeys_0 v0 a2 a3 = mf_Mo_obeys_0_j17 v a2 a3 → mI b v → va_P D vcls (fw_w mCL cA mkd ad v) H → va_S (fw_A mCL ad) s.heap H locs → lv_has ls 7 [(0, .ref (ad 0 0)), (1, .int (0 : Int32)), (5, .int (3 : Int32))] → W p l e (headSpec (Cond.code my_Mo_obeys mb_Mo_obeys 7 none :: vTB) mrm_Mo_obeys).room s m ([.ref (ad 0 0), .int (0 : Int32), .int a2, .int a3] : List Value).toArray below meth c H locs 0 0 (MQ below (fw_Qv D vcls mCL cA mkd ad (mI b) (mf_Mo_obeys_0 v0 a2 a3)) ([.ref (ad 0 0), .int (0 : Int32), .int a2, .int a3] : List Value).toArray s 0 0 (fw_A mCL ad)) (F0 m 378 ls []) := by
    intro v  H locs ls hj  hI hP hS hl
    clear J9 J8 J7 J6 J5 J22 J21 J23 J24 J20 J19 J25 J26
    refine lv_iinc (v := (4 : Int32)) (lv' := [(5, .int (4 : Int32)), (0, .ref (ad 0 0)), (1, .int (0 : Int32))]) hx hb md_Mo_obeys_378 hl (k := 2) rfl (by decide) (by decide) rfl (fun ls hl => ?_)
    refine lv_goto (tgt := 317) hx hb md_Mo_obeys_381 (by decide) ?_
    exact J18 v  _ _ _ (by rw [hj]; simp only [mf_Mo_obeys_0_j17])   hI hP hS (lv_sub hl [1, 2, 0] rfl)
  have J27 : ∀ (v : fw_V)  (H : Heap) (locs : List Loc) (ls : Array Slot), mf_Mo_obeys_0 v0 a2 a3 = mf_Mo_obeys_0_j27 v a2 a3 → mI b v → va_P D vcls (fw_w mCL cA mkd ad v) H → va_S (fw_A mCL ad) s.heap H locs → lv_has ls 7 [(0, .ref (ad 0 0)), (1, .int (0 : Int32)), (5, .int (3 : Int32))] → W p l e (headSpec (Cond.code my_Mo_obeys mb_Mo_obeys 7 none :: vTB) mrm_Mo_obeys).room s m ([.ref (ad 0 0), .int (0 : Int32), .int a2, .int a3] : List Value).toArray below meth c H locs 0 0 (MQ below (fw_Qv D vcls mCL cA mkd ad (mI b) (mf_Mo_obeys_0 v0 a2 a3)) ([.ref (ad 0 0), .int (0 : Int32), .int a2, .int a3] : List Value).toArray s 0 0 (fw_A mCL ad)) (F0 m 377 ls [.int (0 : Int32), .int (3 : Int32), .ref (ad 46 0)]) := by
    intro v  H locs ls hj  hI hP hS hl
    clear J9 J8 J7 J6 J5 J22 J21 J23 J24 J20 J19 J25 J26 J18
    refine fw_iast hx hb hK hD hP hS (mm_46 (by decide)) (mk_46 0) 0 rfl (j := 3) (by decide) (fw_inc (by decide)) md_Mo_obeys_377 (fun v77 H locs ev77 hP hS => ?_)
    have hI : mI b v77 := by rw [ev77]; exact mI_up hI trivial trivial
    exact J17 v77  _ _ _ (by rw [hj]; subst ev77; simp only [mf_Mo_obeys_0_j27])   hI hP hS (lv_sub hl [0, 1, 2] rfl)
  have J28 : ∀ (v : fw_V) (x90 : Int32) (H : Heap) (locs : List Loc) (ls : Array Slot), mf_Mo_obeys_0 v0 a2 a3 = mf_Mo_obeys_0_j28 v a2 a3 x90 → mI b v → va_P D vcls (fw_w mCL cA mkd ad v) H → va_S (fw_A mCL ad) s.heap H locs → lv_has ls 7 [(0, .ref (ad 0 0)), (1, .int (0 : Int32)), (5, .int (3 : Int32))] → W p l e (headSpec (Cond.code my_Mo_obeys mb_Mo_obeys 7 none :: vTB) mrm_Mo_obeys).room s m ([.ref (ad 0 0), .int (0 : Int32), .int a2, .int a3] : List Value).toArray below meth c H locs 0 0 (MQ below (fw_Qv D vcls mCL cA mkd ad (mI b) (mf_Mo_obeys_0 v0 a2 a3)) ([.ref (ad 0 0), .int (0 : Int32), .int a2, .int a3] : List Value).toArray s 0 0 (fw_A mCL ad)) (F0 m 377 ls [.int x90, .int (3 : Int32), .ref (ad 46 0)]) := by
    intro v x90 H locs ls hj  hI hP hS hl
    clear J9 J8 J7 J6 J5 J22 J21 J23 J24 J20 J19 J25 J26 J18 J27
    refine fw_iast hx hb hK hD hP hS (mm_46 (by decide)) (mk_46 0) 0 rfl (j := 3) (by decide) (fw_inc (by decide)) md_Mo_obeys_377 (fun v78 H locs ev78 hP hS => ?_)
    have hI : mI b v78 := by rw [ev78]; exact mI_up hI trivial trivial
    exact J17 v78  _ _ _ (by rw [hj]; subst ev78; simp only [mf_Mo_obeys_0_j28])   hI hP hS (lv_sub hl [0, 1, 2] rfl)
  have J16 : ∀ (v : fw_V)  (H : Heap) (locs : List Loc) (ls : Array Slot), mf_Mo_obeys_0 v0 a2 a3 = mf_Mo_obeys_0_j16 v a2 a3 → mI b v → va_P D vcls (fw_w mCL cA mkd ad v) H → va_S (fw_A mCL ad) s.heap H locs → lv_has ls 7 [(0, .ref (ad 0 0)), (1, .int (0 : Int32)), (5, .int (3 : Int32))] → W p l e (headSpec (Cond.code my_Mo_obeys mb_Mo_obeys 7 none :: vTB) mrm_Mo_obeys).room s m ([.ref (ad 0 0), .int (0 : Int32), .int a2, .int a3] : List Value).toArray below meth c H locs 0 0 (MQ below (fw_Qv D vcls mCL cA mkd ad (mI b) (mf_Mo_obeys_0 v0 a2 a3)) ([.ref (ad 0 0), .int (0 : Int32), .int a2, .int a3] : List Value).toArray s 0 0 (fw_A mCL ad)) (F0 m 317 ls []) := by
    intro v  H locs ls hj  hI hP hS hl
    clear J9 J8 J7 J6 J5 J22 J21 J23 J24 J20 J19 J25 J26 J18
    refine lv_iload hx hb md_Mo_obeys_317 (lv_at hl 2 rfl) ?_
    refine lv_bipush (v := (6 : Int32)) hx hb md_Mo_obeys_319 (by decide) ?_
    refine lv_icmp_ge (tgt := 384) hx hb md_Mo_obeys_321 (by decide) (fun c_54 => absurd c_54 (by decide)) (fun _ => ?_)
    refine lv_aload_n hx hb md_Mo_obeys_324 rfl (lv_at hl 0 rfl) ?_
    refine lv_iload_n hx hb md_Mo_obeys_325 rfl (lv_at hl 1 rfl) ?_
    refine lv_iload hx hb md_Mo_obeys_326 (lv_at hl 2 rfl) ?_
    refine lv_iconst (v := (2 : Int32)) hx hb md_Mo_obeys_328 (by decide) ?_
    refine lv_idiv hx hb md_Mo_obeys_329 (by decide) ?_
    refine fw_top (y := (1 : Int32)) (by decide) ?_
    refine fw_cb (va_runV (As := [.int (0 : Int32), .int (1 : Int32)]) (rest := []) ⟨hx, hb, hml, hown, hts⟩ (mc_Mo_isGood_0 l hD v hI (1 : Int32) (fw_inc (by decide))) (mw_Mo_isGood hts L_Mo_250 ⟨Nat.le_of_ble_eq_true rfl, Nat.le_of_ble_eq_true rfl⟩) (fw_preV hN hK hP (mm_0 (by decide)) (mk_0 0) rfl) rfl rfl hl.1 rfl (lv_room (Nat.le_of_ble_eq_true rfl)) md_Mo_obeys_330 ⟨Nat.le_of_ble_eq_true rfl, Nat.le_of_ble_eq_true rfl⟩) hS (fun r55 H locs zr55 er55 hP hS => ?_)
    refine lv_if_eq (tgt := 378) hx hb md_Mo_obeys_333 (by decide) (fun c_56 => ?_) (fun c_56 => ?_)
    · exact J17 v  _ _ _ (by rw [hj]; subst er55; simp only [mf_Mo_obeys_0_j16, if_pos c_56])   hI hP hS (lv_sub hl [0, 1, 2] rfl)
    · have h_74 : vp_in (v 43 0 1) 8 := mp_isGood_0_1 er55 c_56 (hI.1 43 0 1)
      refine lv_aload_n hx hb md_Mo_obeys_336 rfl (lv_at hl 0 rfl) ?_
      refine fw_getr hx hb hts i_Mo hown hK hP (mm_0 (by decide)) (mk_0 0) rfl 45 (by decide) (hts _ L_Mo_143) (fun _ h9 => h9) rfl md_Mo_obeys_337 ?_
      refine lv_bipush (v := (6 : Int32)) hx hb md_Mo_obeys_340 (by decide) ?_
      refine lv_iload_n hx hb md_Mo_obeys_342 rfl (lv_at hl 1 rfl) ?_
      refine lv_imul hx hb md_Mo_obeys_343 ?_
      refine fw_top (y := (0 : Int32)) (by decide) ?_
      refine lv_iload hx hb md_Mo_obeys_344 (lv_at hl 2 rfl) ?_
      refine lv_iadd hx hb md_Mo_obeys_346 ?_
      refine fw_top (y := (3 : Int32)) (by decide) ?_
      refine lv_iload hx hb md_Mo_obeys_347 (lv_at hl 2 rfl) ?_
      refine lv_iconst (v := (2 : Int32)) hx hb md_Mo_obeys_349 (by decide) ?_
      refine lv_irem hx hb md_Mo_obeys_350 (by decide) ?_
      refine fw_top (y := (1 : Int32)) (by decide) ?_
      refine lv_aload_n hx hb md_Mo_obeys_351 rfl (lv_at hl 0 rfl) ?_
      refine lv_iconst (v := (3 : Int32)) hx hb md_Mo_obeys_352 (by decide) ?_
      refine lv_iload_n hx hb md_Mo_obeys_353 rfl (lv_at hl 1 rfl) ?_
      refine lv_imul hx hb md_Mo_obeys_354 ?_
      refine fw_top (y := (0 : Int32)) (by decide) ?_
      refine lv_iload hx hb md_Mo_obeys_355 (lv_at hl 2 rfl) ?_
      refine lv_iconst (v := (2 : Int32)) hx hb md_Mo_obeys_357 (by decide) ?_
      refine lv_idiv hx hb md_Mo_obeys_358 (by decide) ?_
      refine fw_top (y := (1 : Int32)) (by decide) ?_
      refine lv_iadd hx hb md_Mo_obeys_359 ?_
      refine fw_top (y := (1 : Int32)) (by decide) ?_
      refine fw_co (va_runV (As := [.int (1 : Int32)]) (rest := [.int (1 : Int32), .int (3 : Int32), .ref (ad 46 0)]) ⟨hx, hb, hml, hown, hts⟩ (mc_Mo_outsAt l hD v hI (1 : Int32) (fw_inc (by decide))) (mw_Mo_outsAt hts L_Mo_256 ⟨Nat.le_of_ble_eq_true rfl, Nat.le_of_ble_eq_true rfl⟩) (fw_preV hN hK hP (mm_0 (by decide)) (mk_0 0) rfl) rfl rfl hl.1 rfl (lv_room (Nat.le_of_ble_eq_true rfl)) md_Mo_obeys_360 ⟨Nat.le_of_ble_eq_true rfl, Nat.le_of_ble_eq_true rfl⟩) hS (fun r75 H locs er75 hP hS => ?_)
      refine lv_icmp_ge (tgt := 376) hx hb md_Mo_obeys_363 (by decide) (fun c_76 => ?_) (fun c_76 => ?_)
      · refine lv_iconst (v := (0 : Int32)) hx hb md_Mo_obeys_376 (by decide) ?_
        exact J27 v  _ _ _ (by rw [hj]; subst er55 er75; simp only [mf_Mo_obeys_0_j16, if_neg c_56, if_pos c_76])   hI hP hS (lv_sub hl [0, 1, 2] rfl)
      · refine lv_aload_n hx hb md_Mo_obeys_366 rfl (lv_at hl 0 rfl) ?_
        refine fw_getr hx hb hts i_Mo hown hK hP (mm_0 (by decide)) (mk_0 0) rfl 9 (by decide) (hts _ L_Mo_38) (fun _ h9 => h9) rfl md_Mo_obeys_367 ?_
        refine lv_iload hx hb md_Mo_obeys_370 (lv_at hl 2 rfl) ?_
        refine fw_iald hx hb hK hP (mm_10 (by decide)) (mk_10 0) 0 rfl (j := 3) (by decide) (fw_inc (by decide)) md_Mo_obeys_372 ?_
        refine lv_goto (tgt := 377) hx hb md_Mo_obeys_373 (by decide) ?_
        exact J28 v ((v 10 0 3)) _ _ _ (by rw [hj]; subst er55 er75; simp only [mf_Mo_obeys_0_j16, if_neg c_56, if_neg c_76])   hI hP hS (lv_sub hl [0, 1, 2] rfl)
  have J15 : ∀ (v : fw_V)  (H : Heap) (locs : List Loc) (ls : Array Slot), mf_Mo_obeys_0 v0 a2 a3 = mf_Mo_obeys_0_j15 v a2 a3 → mI b v → va_P D vcls (fw_w mCL cA mkd ad v) H → va_S (fw_A mCL ad) s.heap H locs → lv_has ls 7 [(0, .ref (ad 0 0)), (1, .int (0 : Int32)), (5, .int (2 : Int32))] → W p l e (headSpec (Cond.code my_Mo_obeys mb_Mo_obeys 7 none :: vTB) mrm_Mo_obeys).room s m ([.ref (ad 0 0), .int (0 : Int32), .int a2, .int a3] : List Value).toArray below meth c H locs 0 0 (MQ below (fw_Qv D vcls mCL cA mkd ad (mI b) (mf_Mo_obeys_0 v0 a2 a3)) ([.ref (ad 0 0), .int (0 : Int32), .int a2, .int a3] : List Value).toArray s 0 0 (fw_A mCL ad)) (F0 m 378 ls []) := by
    intro v  H locs ls hj  hI hP hS hl
    clear J9 J8 J7 J6 J5 J22 J21 J23 J24 J20 J19 J25 J26 J18 J17 J27 J28
    refine lv_iinc (v := (3 : Int32)) (lv' := [(5, .int (3 : Int32)), (0, .ref (ad 0 0)), (1, .int (0 : Int32))]) hx hb md_Mo_obeys_378 hl (k := 2) rfl (by decide) (by decide) rfl (fun ls hl => ?_)
    refine lv_goto (tgt := 317) hx hb md_Mo_obeys_381 (by decide) ?_
    exact J16 v  _ _ _ (by rw [hj]; simp only [mf_Mo_obeys_0_j15])   hI hP hS (lv_sub hl [1, 2, 0] rfl)
  have J29 : ∀ (v : fw_V)  (H : Heap) (locs : List Loc) (ls : Array Slot), mf_Mo_obeys_0 v0 a2 a3 = mf_Mo_obeys_0_j29 v a2 a3 → mI b v → va_P D vcls (fw_w mCL cA mkd ad v) H → va_S (fw_A mCL ad) s.heap H locs → lv_has ls 7 [(0, .ref (ad 0 0)), (1, .int (0 : Int32)), (5, .int (2 : Int32))] → W p l e (headSpec (Cond.code my_Mo_obeys mb_Mo_obeys 7 none :: vTB) mrm_Mo_obeys).room s m ([.ref (ad 0 0), .int (0 : Int32), .int a2, .int a3] : List Value).toArray below meth c H locs 0 0 (MQ below (fw_Qv D vcls mCL cA mkd ad (mI b) (mf_Mo_obeys_0 v0 a2 a3)) ([.ref (ad 0 0), .int (0 : Int32), .int a2, .int a3] : List Value).toArray s 0 0 (fw_A mCL ad)) (F0 m 377 ls [.int (0 : Int32), .int (2 : Int32), .ref (ad 46 0)]) := by
    intro v  H locs ls hj  hI hP hS hl
    clear J9 J8 J7 J6 J5 J22 J21 J23 J24 J20 J19 J25 J26 J18 J17 J27 J28 J16
    refine fw_iast hx hb hK hD hP hS (mm_46 (by decide)) (mk_46 0) 0 rfl (j := 2) (by decide) (fw_inc (by decide)) md_Mo_obeys_377 (fun v82 H locs ev82 hP hS => ?_)
    have hI : mI b v82 := by rw [ev82]; exact mI_up hI trivial trivial
    exact J15 v82  _ _ _ (by rw [hj]; subst ev82; simp only [mf_Mo_obeys_0_j29])   hI hP hS (lv_sub hl [0, 1, 2] rfl)
  have J30 : ∀ (v : fw_V) (x90 : Int32) (H : Heap) (locs : List Loc) (ls : Array Slot), mf_Mo_obeys_0 v0 a2 a3 = mf_Mo_obeys_0_j30 v a2 a3 x90 → mI b v → va_P D vcls (fw_w mCL cA mkd ad v) H → va_S (fw_A mCL ad) s.heap H locs → lv_has ls 7 [(0, .ref (ad 0 0)), (1, .int (0 : Int32)), (5, .int (2 : Int32))] → W p l e (headSpec (Cond.code my_Mo_obeys mb_Mo_obeys 7 none :: vTB) mrm_Mo_obeys).room s m ([.ref (ad 0 0), .int (0 : Int32), .int a2, .int a3] : List Value).toArray below meth c H locs 0 0 (MQ below (fw_Qv D vcls mCL cA mkd ad (mI b) (mf_Mo_obeys_0 v0 a2 a3)) ([.ref (ad 0 0), .int (0 : Int32), .int a2, .int a3] : List Value).toArray s 0 0 (fw_A mCL ad)) (F0 m 377 ls [.int x90, .int (2 : Int32), .ref (ad 46 0)]) := by
    intro v x90 H locs ls hj  hI hP hS hl
    clear J9 J8 J7 J6 J5 J22 J21 J23 J24 J20 J19 J25 J26 J18 J17 J27 J28 J16 J29
    refine fw_iast hx hb hK hD hP hS (mm_46 (by decide)) (mk_46 0) 0 rfl (j := 2) (by decide) (fw_inc (by decide)) md_Mo_obeys_377 (fun v83 H locs ev83 hP hS => ?_)
    have hI : mI b v83 := by rw [ev83]; exact mI_up hI trivial trivial
    exact J15 v83  _ _ _ (by rw [hj]; subst ev83; simp only [mf_Mo_obeys_0_j30])   hI hP hS (lv_sub hl [0, 1, 2] rfl)
  have J14 : ∀ (v : fw_V)  (H : Heap) (locs : List Loc) (ls : Array Slot), mf_Mo_obeys_0 v0 a2 a3 = mf_Mo_obeys_0_j14 v a2 a3 → mI b v → va_P D vcls (fw_w mCL cA mkd ad v) H → va_S (fw_A mCL ad) s.heap H locs → lv_has ls 7 [(0, .ref (ad 0 0)), (1, .int (0 : Int32)), (5, .int (2 : Int32))] → W p l e (headSpec (Cond.code my_Mo_obeys mb_Mo_obeys 7 none :: vTB) mrm_Mo_obeys).room s m ([.ref (ad 0 0), .int (0 : Int32), .int a2, .int a3] : List Value).toArray below meth c H locs 0 0 (MQ below (fw_Qv D vcls mCL cA mkd ad (mI b) (mf_Mo_obeys_0 v0 a2 a3)) ([.ref (ad 0 0), .int (0 : Int32), .int a2, .int a3] : List Value).toArray s 0 0 (fw_A mCL ad)) (F0 m 317 ls []) := by
    intro v  H locs ls hj  hI hP hS hl
    clear J9 J8 J7 J6 J5 J22 J21 J23 J24 J20 J19 J25 J26 J18 J17 J27 J28 J16
    refine lv_iload hx hb md_Mo_obeys_317 (lv_at hl 2 rfl) ?_
    refine lv_bipush (v := (6 : Int32)) hx hb md_Mo_obeys_319 (by decide) ?_
    refine lv_icmp_ge (tgt := 384) hx hb md_Mo_obeys_321 (by decide) (fun c_51 => absurd c_51 (by decide)) (fun _ => ?_)
    refine lv_aload_n hx hb md_Mo_obeys_324 rfl (lv_at hl 0 rfl) ?_
    refine lv_iload_n hx hb md_Mo_obeys_325 rfl (lv_at hl 1 rfl) ?_
    refine lv_iload hx hb md_Mo_obeys_326 (lv_at hl 2 rfl) ?_
    refine lv_iconst (v := (2 : Int32)) hx hb md_Mo_obeys_328 (by decide) ?_
    refine lv_idiv hx hb md_Mo_obeys_329 (by decide) ?_
    refine fw_top (y := (1 : Int32)) (by decide) ?_
    refine fw_cb (va_runV (As := [.int (0 : Int32), .int (1 : Int32)]) (rest := []) ⟨hx, hb, hml, hown, hts⟩ (mc_Mo_isGood_0 l hD v hI (1 : Int32) (fw_inc (by decide))) (mw_Mo_isGood hts L_Mo_250 ⟨Nat.le_of_ble_eq_true rfl, Nat.le_of_ble_eq_true rfl⟩) (fw_preV hN hK hP (mm_0 (by decide)) (mk_0 0) rfl) rfl rfl hl.1 rfl (lv_room (Nat.le_of_ble_eq_true rfl)) md_Mo_obeys_330 ⟨Nat.le_of_ble_eq_true rfl, Nat.le_of_ble_eq_true rfl⟩) hS (fun r52 H locs zr52 er52 hP hS => ?_)
    refine lv_if_eq (tgt := 378) hx hb md_Mo_obeys_333 (by decide) (fun c_53 => ?_) (fun c_53 => ?_)
    · exact J15 v  _ _ _ (by rw [hj]; subst er52; simp only [mf_Mo_obeys_0_j14, if_pos c_53])   hI hP hS (lv_sub hl [0, 1, 2] rfl)
    · have h_79 : vp_in (v 43 0 1) 8 := mp_isGood_0_1 er52 c_53 (hI.1 43 0 1)
      refine lv_aload_n hx hb md_Mo_obeys_336 rfl (lv_at hl 0 rfl) ?_
      refine fw_getr hx hb hts i_Mo hown hK hP (mm_0 (by decide)) (mk_0 0) rfl 45 (by decide) (hts _ L_Mo_143) (fun _ h9 => h9) rfl md_Mo_obeys_337 ?_
      refine lv_bipush (v := (6 : Int32)) hx hb md_Mo_obeys_340 (by decide) ?_
      refine lv_iload_n hx hb md_Mo_obeys_342 rfl (lv_at hl 1 rfl) ?_
      refine lv_imul hx hb md_Mo_obeys_343 ?_
      refine fw_top (y := (0 : Int32)) (by decide) ?_
      refine lv_iload hx hb md_Mo_obeys_344 (lv_at hl 2 rfl) ?_
      refine lv_iadd hx hb md_Mo_obeys_346 ?_
      refine fw_top (y := (2 : Int32)) (by decide) ?_
      refine lv_iload hx hb md_Mo_obeys_347 (lv_at hl 2 rfl) ?_
      refine lv_iconst (v := (2 : Int32)) hx hb md_Mo_obeys_349 (by decide) ?_
      refine lv_irem hx hb md_Mo_obeys_350 (by decide) ?_
      refine fw_top (y := (0 : Int32)) (by decide) ?_
      refine lv_aload_n hx hb md_Mo_obeys_351 rfl (lv_at hl 0 rfl) ?_
      refine lv_iconst (v := (3 : Int32)) hx hb md_Mo_obeys_352 (by decide) ?_
      refine lv_iload_n hx hb md_Mo_obeys_353 rfl (lv_at hl 1 rfl) ?_
      refine lv_imul hx hb md_Mo_obeys_354 ?_
      refine fw_top (y := (0 : Int32)) (by decide) ?_
      refine lv_iload hx hb md_Mo_obeys_355 (lv_at hl 2 rfl) ?_
      refine lv_iconst (v := (2 : Int32)) hx hb md_Mo_obeys_357 (by decide) ?_
      refine lv_idiv hx hb md_Mo_obeys_358 (by decide) ?_
      refine fw_top (y := (1 : Int32)) (by decide) ?_
      refine lv_iadd hx hb md_Mo_obeys_359 ?_
      refine fw_top (y := (1 : Int32)) (by decide) ?_
      refine fw_co (va_runV (As := [.int (1 : Int32)]) (rest := [.int (0 : Int32), .int (2 : Int32), .ref (ad 46 0)]) ⟨hx, hb, hml, hown, hts⟩ (mc_Mo_outsAt l hD v hI (1 : Int32) (fw_inc (by decide))) (mw_Mo_outsAt hts L_Mo_256 ⟨Nat.le_of_ble_eq_true rfl, Nat.le_of_ble_eq_true rfl⟩) (fw_preV hN hK hP (mm_0 (by decide)) (mk_0 0) rfl) rfl rfl hl.1 rfl (lv_room (Nat.le_of_ble_eq_true rfl)) md_Mo_obeys_360 ⟨Nat.le_of_ble_eq_true rfl, Nat.le_of_ble_eq_true rfl⟩) hS (fun r80 H locs er80 hP hS => ?_)
      refine lv_icmp_ge (tgt := 376) hx hb md_Mo_obeys_363 (by decide) (fun c_81 => ?_) (fun c_81 => ?_)
      · refine lv_iconst (v := (0 : Int32)) hx hb md_Mo_obeys_376 (by decide) ?_
        exact J29 v  _ _ _ (by rw [hj]; subst er52 er80; simp only [mf_Mo_obeys_0_j14, if_neg c_53, if_pos c_81])   hI hP hS (lv_sub hl [0, 1, 2] rfl)
      · refine lv_aload_n hx hb md_Mo_obeys_366 rfl (lv_at hl 0 rfl) ?_
        refine fw_getr hx hb hts i_Mo hown hK hP (mm_0 (by decide)) (mk_0 0) rfl 9 (by decide) (hts _ L_Mo_38) (fun _ h9 => h9) rfl md_Mo_obeys_367 ?_
        refine lv_iload hx hb md_Mo_obeys_370 (lv_at hl 2 rfl) ?_
        refine fw_iald hx hb hK hP (mm_10 (by decide)) (mk_10 0) 0 rfl (j := 2) (by decide) (fw_inc (by decide)) md_Mo_obeys_372 ?_
        refine lv_goto (tgt := 377) hx hb md_Mo_obeys_373 (by decide) ?_
        exact J30 v ((v 10 0 2)) _ _ _ (by rw [hj]; subst er52 er80; simp only [mf_Mo_obeys_0_j14, if_neg c_53, if_neg c_81])   hI hP hS (lv_sub hl [0, 1, 2] rfl)
  have J13 : ∀ (v : fw_V)  (H : Heap) (locs : List Loc) (ls : Array Slot), mf_Mo_obeys_0 v0 a2 a3 = mf_Mo_obeys_0_j13 v a2 a3 → mI b v → va_P D vcls (fw_w mCL cA mkd ad v) H → va_S (fw_A mCL ad) s.heap H locs → lv_has ls 7 [(0, .ref (ad 0 0)), (1, .int (0 : Int32)), (5, .int (1 : Int32))] → W p l e (headSpec (Cond.code my_Mo_obeys mb_Mo_obeys 7 none :: vTB) mrm_Mo_obeys).room s m ([.ref (ad 0 0), .int (0 : Int32), .int a2, .int a3] : List Value).toArray below meth c H locs 0 0 (MQ below (fw_Qv D vcls mCL cA mkd ad (mI b) (mf_Mo_obeys_0 v0 a2 a3)) ([.ref (ad 0 0), .int (0 : Int32), .int a2, .int a3] : List Value).toArray s 0 0 (fw_A mCL ad)) (F0 m 378 ls []) := by
    intro v  H locs ls hj  hI hP hS hl
    clear J9 J8 J7 J6 J5 J22 J21 J23 J24 J20 J19 J25 J26 J18 J17 J27 J28 J16 J15 J29 J30
    refine lv_iinc (v := (2 : Int32)) (lv' := [(5, .int (2 : Int32)), (0, .ref (ad 0 0)), (1, .int (0 : Int32))]) hx hb md_Mo_obeys_378 hl (k := 2) rfl (by decide) (by decide) rfl (fun ls hl => ?_)
    refine lv_goto (tgt := 317) hx hb md_Mo_obeys_381 (by decide) ?_
    exact J14 v  _ _ _ (by rw [hj]; simp only [mf_Mo_obeys_0_j13])   hI hP hS (lv_sub hl [1, 2, 0] rfl)
  have J31 : ∀ (v : fw_V)  (H : Heap) (locs : List Loc) (ls : Array Slot), mf_Mo_obeys_0 v0 a2 a3 = mf_Mo_obeys_0_j31 v a2 a3 → mI b v → va_P D vcls (fw_w mCL cA mkd ad v) H → va_S (fw_A mCL ad) s.heap H locs → lv_has ls 7 [(0, .ref (ad 0 0)), (1, .int (0 : Int32)), (5, .int (1 : Int32))] → W p l e (headSpec (Cond.code my_Mo_obeys mb_Mo_obeys 7 none :: vTB) mrm_Mo_obeys).room s m ([.ref (ad 0 0), .int (0 : Int32), .int a2, .int a3] : List Value).toArray below meth c H locs 0 0 (MQ below (fw_Qv D vcls mCL cA mkd ad (mI b) (mf_Mo_obeys_0 v0 a2 a3)) ([.ref (ad 0 0), .int (0 : Int32), .int a2, .int a3] : List Value).toArray s 0 0 (fw_A mCL ad)) (F0 m 377 ls [.int (0 : Int32), .int (1 : Int32), .ref (ad 46 0)]) := by
    intro v  H locs ls hj  hI hP hS hl
    clear J9 J8 J7 J6 J5 J22 J21 J23 J24 J20 J19 J25 J26 J18 J17 J27 J28 J16 J15 J29 J30 J14
    refine fw_iast hx hb hK hD hP hS (mm_46 (by decide)) (mk_46 0) 0 rfl (j := 1) (by decide) (fw_inc (by decide)) md_Mo_obeys_377 (fun v87 H locs ev87 hP hS => ?_)
    have hI : mI b v87 := by rw [ev87]; exact mI_up hI trivial trivial
    exact J13 v87  _ _ _ (by rw [hj]; subst ev87; simp only [mf_Mo_obeys_0_j31])   hI hP hS (lv_sub hl [0, 1, 2] rfl)
  have J32 : ∀ (v : fw_V) (x90 : Int32) (H : Heap) (locs : List Loc) (ls : Array Slot), mf_Mo_obeys_0 v0 a2 a3 = mf_Mo_obeys_0_j32 v a2 a3 x90 → mI b v → va_P D vcls (fw_w mCL cA mkd ad v) H → va_S (fw_A mCL ad) s.heap H locs → lv_has ls 7 [(0, .ref (ad 0 0)), (1, .int (0 : Int32)), (5, .int (1 : Int32))] → W p l e (headSpec (Cond.code my_Mo_obeys mb_Mo_obeys 7 none :: vTB) mrm_Mo_obeys).room s m ([.ref (ad 0 0), .int (0 : Int32), .int a2, .int a3] : List Value).toArray below meth c H locs 0 0 (MQ below (fw_Qv D vcls mCL cA mkd ad (mI b) (mf_Mo_obeys_0 v0 a2 a3)) ([.ref (ad 0 0), .int (0 : Int32), .int a2, .int a3] : List Value).toArray s 0 0 (fw_A mCL ad)) (F0 m 377 ls [.int x90, .int (1 : Int32), .ref (ad 46 0)]) := by
    intro v x90 H locs ls hj  hI hP hS hl
    clear J9 J8 J7 J6 J5 J22 J21 J23 J24 J20 J19 J25 J26 J18 J17 J27 J28 J16 J15 J29 J30 J14 J31
    refine fw_iast hx hb hK hD hP hS (mm_46 (by decide)) (mk_46 0) 0 rfl (j := 1) (by decide) (fw_inc (by decide)) md_Mo_obeys_377 (fun v88 H locs ev88 hP hS => ?_)
    have hI : mI b v88 := by rw [ev88]; exact mI_up hI trivial trivial
    exact J13 v88  _ _ _ (by rw [hj]; subst ev88; simp only [mf_Mo_obeys_0_j32])   hI hP hS (lv_sub hl [0, 1, 2] rfl)
  have J12 : ∀ (v : fw_V)  (H : Heap) (locs : List Loc) (ls : Array Slot), mf_Mo_obeys_0 v0 a2 a3 = mf_Mo_obeys_0_j12 v a2 a3 → mI b v → va_P D vcls (fw_w mCL cA mkd ad v) H → va_S (fw_A mCL ad) s.heap H locs → lv_has ls 7 [(0, .ref (ad 0 0)), (1, .int (0 : Int32)), (5, .int (1 : Int32))] → W p l e (headSpec (Cond.code my_Mo_obeys mb_Mo_obeys 7 none :: vTB) mrm_Mo_obeys).room s m ([.ref (ad 0 0), .int (0 : Int32), .int a2, .int a3] : List Value).toArray below meth c H locs 0 0 (MQ below (fw_Qv D vcls mCL cA mkd ad (mI b) (mf_Mo_obeys_0 v0 a2 a3)) ([.ref (ad 0 0), .int (0 : Int32), .int a2, .int a3] : List Value).toArray s 0 0 (fw_A mCL ad)) (F0 m 317 ls []) := by
    intro v  H locs ls hj  hI hP hS hl
    clear J9 J8 J7 J6 J5 J22 J21 J23 J24 J20 J19 J25 J26 J18 J17 J27 J28 J16 J15 J29 J30 J14
    refine lv_iload hx hb md_Mo_obeys_317 (lv_at hl 2 rfl) ?_
    refine lv_bipush (v := (6 : Int32)) hx hb md_Mo_obeys_319 (by decide) ?_
    refine lv_icmp_ge (tgt := 384) hx hb md_Mo_obeys_321 (by decide) (fun c_48 => absurd c_48 (by decide)) (fun _ => ?_)
    refine lv_aload_n hx hb md_Mo_obeys_324 rfl (lv_at hl 0 rfl) ?_
    refine lv_iload_n hx hb md_Mo_obeys_325 rfl (lv_at hl 1 rfl) ?_
    refine lv_iload hx hb md_Mo_obeys_326 (lv_at hl 2 rfl) ?_
    refine lv_iconst (v := (2 : Int32)) hx hb md_Mo_obeys_328 (by decide) ?_
    refine lv_idiv hx hb md_Mo_obeys_329 (by decide) ?_
    refine fw_top (y := (0 : Int32)) (by decide) ?_
    refine fw_cb (va_runV (As := [.int (0 : Int32), .int (0 : Int32)]) (rest := []) ⟨hx, hb, hml, hown, hts⟩ (mc_Mo_isGood_0 l hD v hI (0 : Int32) (fw_inc (by decide))) (mw_Mo_isGood hts L_Mo_250 ⟨Nat.le_of_ble_eq_true rfl, Nat.le_of_ble_eq_true rfl⟩) (fw_preV hN hK hP (mm_0 (by decide)) (mk_0 0) rfl) rfl rfl hl.1 rfl (lv_room (Nat.le_of_ble_eq_true rfl)) md_Mo_obeys_330 ⟨Nat.le_of_ble_eq_true rfl, Nat.le_of_ble_eq_true rfl⟩) hS (fun r49 H locs zr49 er49 hP hS => ?_)
    refine lv_if_eq (tgt := 378) hx hb md_Mo_obeys_333 (by decide) (fun c_50 => ?_) (fun c_50 => ?_)
    · exact J13 v  _ _ _ (by rw [hj]; subst er49; simp only [mf_Mo_obeys_0_j12, if_pos c_50])   hI hP hS (lv_sub hl [0, 1, 2] rfl)
    · have h_84 : vp_in (v 43 0 0) 8 := mp_isGood_0_0 er49 c_50 (hI.1 43 0 0)
      refine lv_aload_n hx hb md_Mo_obeys_336 rfl (lv_at hl 0 rfl) ?_
      refine fw_getr hx hb hts i_Mo hown hK hP (mm_0 (by decide)) (mk_0 0) rfl 45 (by decide) (hts _ L_Mo_143) (fun _ h9 => h9) rfl md_Mo_obeys_337 ?_
      refine lv_bipush (v := (6 : Int32)) hx hb md_Mo_obeys_340 (by decide) ?_
      refine lv_iload_n hx hb md_Mo_obeys_342 rfl (lv_at hl 1 rfl) ?_
      refine lv_imul hx hb md_Mo_obeys_343 ?_
      refine fw_top (y := (0 : Int32)) (by decide) ?_
      refine lv_iload hx hb md_Mo_obeys_344 (lv_at hl 2 rfl) ?_
      refine lv_iadd hx hb md_Mo_obeys_346 ?_
      refine fw_top (y := (1 : Int32)) (by decide) ?_
      refine lv_iload hx hb md_Mo_obeys_347 (lv_at hl 2 rfl) ?_
      refine lv_iconst (v := (2 : Int32)) hx hb md_Mo_obeys_349 (by decide) ?_
      refine lv_irem hx hb md_Mo_obeys_350 (by decide) ?_
      refine fw_top (y := (1 : Int32)) (by decide) ?_
      refine lv_aload_n hx hb md_Mo_obeys_351 rfl (lv_at hl 0 rfl) ?_
      refine lv_iconst (v := (3 : Int32)) hx hb md_Mo_obeys_352 (by decide) ?_
      refine lv_iload_n hx hb md_Mo_obeys_353 rfl (lv_at hl 1 rfl) ?_
      refine lv_imul hx hb md_Mo_obeys_354 ?_
      refine fw_top (y := (0 : Int32)) (by decide) ?_
      refine lv_iload hx hb md_Mo_obeys_355 (lv_at hl 2 rfl) ?_
      refine lv_iconst (v := (2 : Int32)) hx hb md_Mo_obeys_357 (by decide) ?_
      refine lv_idiv hx hb md_Mo_obeys_358 (by decide) ?_
      refine fw_top (y := (0 : Int32)) (by decide) ?_
      refine lv_iadd hx hb md_Mo_obeys_359 ?_
      refine fw_top (y := (0 : Int32)) (by decide) ?_
      refine fw_co (va_runV (As := [.int (0 : Int32)]) (rest := [.int (1 : Int32), .int (1 : Int32), .ref (ad 46 0)]) ⟨hx, hb, hml, hown, hts⟩ (mc_Mo_outsAt l hD v hI (0 : Int32) (fw_inc (by decide))) (mw_Mo_outsAt hts L_Mo_256 ⟨Nat.le_of_ble_eq_true rfl, Nat.le_of_ble_eq_true rfl⟩) (fw_preV hN hK hP (mm_0 (by decide)) (mk_0 0) rfl) rfl rfl hl.1 rfl (lv_room (Nat.le_of_ble_eq_true rfl)) md_Mo_obeys_360 ⟨Nat.le_of_ble_eq_true rfl, Nat.le_of_ble_eq_true rfl⟩) hS (fun r85 H locs er85 hP hS => ?_)
      refine lv_icmp_ge (tgt := 376) hx hb md_Mo_obeys_363 (by decide) (fun c_86 => ?_) (fun c_86 => ?_)
      · refine lv_iconst (v := (0 : Int32)) hx hb md_Mo_obeys_376 (by decide) ?_
        exact J31 v  _ _ _ (by rw [hj]; subst er49 er85; simp only [mf_Mo_obeys_0_j12, if_neg c_50, if_pos c_86])   hI hP hS (lv_sub hl [0, 1, 2] rfl)
      · refine lv_aload_n hx hb md_Mo_obeys_366 rfl (lv_at hl 0 rfl) ?_
        refine fw_getr hx hb hts i_Mo hown hK hP (mm_0 (by decide)) (mk_0 0) rfl 9 (by decide) (hts _ L_Mo_38) (fun _ h9 => h9) rfl md_Mo_obeys_367 ?_
        refine lv_iload hx hb md_Mo_obeys_370 (lv_at hl 2 rfl) ?_
        refine fw_iald hx hb hK hP (mm_10 (by decide)) (mk_10 0) 0 rfl (j := 1) (by decide) (fw_inc (by decide)) md_Mo_obeys_372 ?_
        refine lv_goto (tgt := 377) hx hb md_Mo_obeys_373 (by decide) ?_
        exact J32 v ((v 10 0 1)) _ _ _ (by rw [hj]; subst er49 er85; simp only [mf_Mo_obeys_0_j12, if_neg c_50, if_neg c_86])   hI hP hS (lv_sub hl [0, 1, 2] rfl)
  have J11 : ∀ (v : fw_V)  (H : Heap) (locs : List Loc) (ls : Array Slot), mf_Mo_obeys_0 v0 a2 a3 = mf_Mo_obeys_0_j11 v a2 a3 → mI b v → va_P D vcls (fw_w mCL cA mkd ad v) H → va_S (fw_A mCL ad) s.heap H locs → lv_has ls 7 [(0, .ref (ad 0 0)), (1, .int (0 : Int32)), (5, .int (0 : Int32))] → W p l e (headSpec (Cond.code my_Mo_obeys mb_Mo_obeys 7 none :: vTB) mrm_Mo_obeys).room s m ([.ref (ad 0 0), .int (0 : Int32), .int a2, .int a3] : List Value).toArray below meth c H locs 0 0 (MQ below (fw_Qv D vcls mCL cA mkd ad (mI b) (mf_Mo_obeys_0 v0 a2 a3)) ([.ref (ad 0 0), .int (0 : Int32), .int a2, .int a3] : List Value).toArray s 0 0 (fw_A mCL ad)) (F0 m 378 ls []) := by
    intro v  H locs ls hj  hI hP hS hl
    clear J9 J8 J7 J6 J5 J22 J21 J23 J24 J20 J19 J25 J26 J18 J17 J27 J28 J16 J15 J29 J30 J14 J13 J31 J32
    refine lv_iinc (v := (1 : Int32)) (lv' := [(5, .int (1 : Int32)), (0, .ref (ad 0 0)), (1, .int (0 : Int32))]) hx hb md_Mo_obeys_378 hl (k := 2) rfl (by decide) (by decide) rfl (fun ls hl => ?_)
    refine lv_goto (tgt := 317) hx hb md_Mo_obeys_381 (by decide) ?_
    exact J12 v  _ _ _ (by rw [hj]; simp only [mf_Mo_obeys_0_j11])   hI hP hS (lv_sub hl [1, 2, 0] rfl)
  have J33 : ∀ (v : fw_V)  (H : Heap) (locs : List Loc) (ls : Array Slot), mf_Mo_obeys_0 v0 a2 a3 = mf_Mo_obeys_0_j33 v a2 a3 → mI b v → va_P D vcls (fw_w mCL cA mkd ad v) H → va_S (fw_A mCL ad) s.heap H locs → lv_has ls 7 [(0, .ref (ad 0 0)), (1, .int (0 : Int32)), (5, .int (0 : Int32))] → W p l e (headSpec (Cond.code my_Mo_obeys mb_Mo_obeys 7 none :: vTB) mrm_Mo_obeys).room s m ([.ref (ad 0 0), .int (0 : Int32), .int a2, .int a3] : List Value).toArray below meth c H locs 0 0 (MQ below (fw_Qv D vcls mCL cA mkd ad (mI b) (mf_Mo_obeys_0 v0 a2 a3)) ([.ref (ad 0 0), .int (0 : Int32), .int a2, .int a3] : List Value).toArray s 0 0 (fw_A mCL ad)) (F0 m 377 ls [.int (0 : Int32), .int (0 : Int32), .ref (ad 46 0)]) := by
    intro v  H locs ls hj  hI hP hS hl
    clear J9 J8 J7 J6 J5 J22 J21 J23 J24 J20 J19 J25 J26 J18 J17 J27 J28 J16 J15 J29 J30 J14 J13 J31 J32 J12
    refine fw_iast hx hb hK hD hP hS (mm_46 (by decide)) (mk_46 0) 0 rfl (j := 0) (by decide) (fw_inc (by decide)) md_Mo_obeys_377 (fun v92 H locs ev92 hP hS => ?_)
    have hI : mI b v92 := by rw [ev92]; exact mI_up hI trivial trivial
    exact J11 v92  _ _ _ (by rw [hj]; subst ev92; simp only [mf_Mo_obeys_0_j33])   hI hP hS (lv_sub hl [0, 1, 2] rfl)
  have J34 : ∀ (v : fw_V) (x90 : Int32) (H : Heap) (locs : List Loc) (ls : Array Slot), mf_Mo_obeys_0 v0 a2 a3 = mf_Mo_obeys_0_j34 v a2 a3 x90 → mI b v → va_P D vcls (fw_w mCL cA mkd ad v) H → va_S (fw_A mCL ad) s.heap H locs → lv_has ls 7 [(0, .ref (ad 0 0)), (1, .int (0 : Int32)), (5, .int (0 : Int32))] → W p l e (headSpec (Cond.code my_Mo_obeys mb_Mo_obeys 7 none :: vTB) mrm_Mo_obeys).room s m ([.ref (ad 0 0), .int (0 : Int32), .int a2, .int a3] : List Value).toArray below meth c H locs 0 0 (MQ below (fw_Qv D vcls mCL cA mkd ad (mI b) (mf_Mo_obeys_0 v0 a2 a3)) ([.ref (ad 0 0), .int (0 : Int32), .int a2, .int a3] : List Value).toArray s 0 0 (fw_A mCL ad)) (F0 m 377 ls [.int x90, .int (0 : Int32), .ref (ad 46 0)]) := by
    intro v x90 H locs ls hj  hI hP hS hl
    clear J9 J8 J7 J6 J5 J22 J21 J23 J24 J20 J19 J25 J26 J18 J17 J27 J28 J16 J15 J29 J30 J14 J13 J31 J32 J12 J33
    refine fw_iast hx hb hK hD hP hS (mm_46 (by decide)) (mk_46 0) 0 rfl (j := 0) (by decide) (fw_inc (by decide)) md_Mo_obeys_377 (fun v93 H locs ev93 hP hS => ?_)
    have hI : mI b v93 := by rw [ev93]; exact mI_up hI trivial trivial
    exact J11 v93  _ _ _ (by rw [hj]; subst ev93; simp only [mf_Mo_obeys_0_j34])   hI hP hS (lv_sub hl [0, 1, 2] rfl)
  have J10 : ∀ (v : fw_V)  (H : Heap) (locs : List Loc) (ls : Array Slot), mf_Mo_obeys_0 v0 a2 a3 = mf_Mo_obeys_0_j10 v a2 a3 → mI b v → va_P D vcls (fw_w mCL cA mkd ad v) H → va_S (fw_A mCL ad) s.heap H locs → lv_has ls 7 [(0, .ref (ad 0 0)), (1, .int (0 : Int32)), (5, .int (0 : Int32))] → W p l e (headSpec (Cond.code my_Mo_obeys mb_Mo_obeys 7 none :: vTB) mrm_Mo_obeys).room s m ([.ref (ad 0 0), .int (0 : Int32), .int a2, .int a3] : List Value).toArray below meth c H locs 0 0 (MQ below (fw_Qv D vcls mCL cA mkd ad (mI b) (mf_Mo_obeys_0 v0 a2 a3)) ([.ref (ad 0 0), .int (0 : Int32), .int a2, .int a3] : List Value).toArray s 0 0 (fw_A mCL ad)) (F0 m 317 ls []) := by
    intro v  H locs ls hj  hI hP hS hl
    clear J9 J8 J7 J6 J5 J22 J21 J23 J24 J20 J19 J25 J26 J18 J17 J27 J28 J16 J15 J29 J30 J14 J13 J31 J32 J12
    refine lv_iload hx hb md_Mo_obeys_317 (lv_at hl 2 rfl) ?_
    refine lv_bipush (v := (6 : Int32)) hx hb md_Mo_obeys_319 (by decide) ?_
    refine lv_icmp_ge (tgt := 384) hx hb md_Mo_obeys_321 (by decide) (fun c_45 => absurd c_45 (by decide)) (fun _ => ?_)
    refine lv_aload_n hx hb md_Mo_obeys_324 rfl (lv_at hl 0 rfl) ?_
    refine lv_iload_n hx hb md_Mo_obeys_325 rfl (lv_at hl 1 rfl) ?_
    refine lv_iload hx hb md_Mo_obeys_326 (lv_at hl 2 rfl) ?_
    refine lv_iconst (v := (2 : Int32)) hx hb md_Mo_obeys_328 (by decide) ?_
    refine lv_idiv hx hb md_Mo_obeys_329 (by decide) ?_
    refine fw_top (y := (0 : Int32)) (by decide) ?_
    refine fw_cb (va_runV (As := [.int (0 : Int32), .int (0 : Int32)]) (rest := []) ⟨hx, hb, hml, hown, hts⟩ (mc_Mo_isGood_0 l hD v hI (0 : Int32) (fw_inc (by decide))) (mw_Mo_isGood hts L_Mo_250 ⟨Nat.le_of_ble_eq_true rfl, Nat.le_of_ble_eq_true rfl⟩) (fw_preV hN hK hP (mm_0 (by decide)) (mk_0 0) rfl) rfl rfl hl.1 rfl (lv_room (Nat.le_of_ble_eq_true rfl)) md_Mo_obeys_330 ⟨Nat.le_of_ble_eq_true rfl, Nat.le_of_ble_eq_true rfl⟩) hS (fun r46 H locs zr46 er46 hP hS => ?_)
    refine lv_if_eq (tgt := 378) hx hb md_Mo_obeys_333 (by decide) (fun c_47 => ?_) (fun c_47 => ?_)
    · exact J11 v  _ _ _ (by rw [hj]; subst er46; simp only [mf_Mo_obeys_0_j10, if_pos c_47])   hI hP hS (lv_sub hl [0, 1, 2] rfl)
    · have h_89 : vp_in (v 43 0 0) 8 := mp_isGood_0_0 er46 c_47 (hI.1 43 0 0)
      refine lv_aload_n hx hb md_Mo_obeys_336 rfl (lv_at hl 0 rfl) ?_
      refine fw_getr hx hb hts i_Mo hown hK hP (mm_0 (by decide)) (mk_0 0) rfl 45 (by decide) (hts _ L_Mo_143) (fun _ h9 => h9) rfl md_Mo_obeys_337 ?_
      refine lv_bipush (v := (6 : Int32)) hx hb md_Mo_obeys_340 (by decide) ?_
      refine lv_iload_n hx hb md_Mo_obeys_342 rfl (lv_at hl 1 rfl) ?_
      refine lv_imul hx hb md_Mo_obeys_343 ?_
      refine fw_top (y := (0 : Int32)) (by decide) ?_
      refine lv_iload hx hb md_Mo_obeys_344 (lv_at hl 2 rfl) ?_
      refine lv_iadd hx hb md_Mo_obeys_346 ?_
      refine fw_top (y := (0 : Int32)) (by decide) ?_
      refine lv_iload hx hb md_Mo_obeys_347 (lv_at hl 2 rfl) ?_
      refine lv_iconst (v := (2 : Int32)) hx hb md_Mo_obeys_349 (by decide) ?_
      refine lv_irem hx hb md_Mo_obeys_350 (by decide) ?_
      refine fw_top (y := (0 : Int32)) (by decide) ?_
      refine lv_aload_n hx hb md_Mo_obeys_351 rfl (lv_at hl 0 rfl) ?_
      refine lv_iconst (v := (3 : Int32)) hx hb md_Mo_obeys_352 (by decide) ?_
      refine lv_iload_n hx hb md_Mo_obeys_353 rfl (lv_at hl 1 rfl) ?_
      refine lv_imul hx hb md_Mo_obeys_354 ?_
      refine fw_top (y := (0 : Int32)) (by decide) ?_
      refine lv_iload hx hb md_Mo_obeys_355 (lv_at hl 2 rfl) ?_
      refine lv_iconst (v := (2 : Int32)) hx hb md_Mo_obeys_357 (by decide) ?_
      refine lv_idiv hx hb md_Mo_obeys_358 (by decide) ?_
      refine fw_top (y := (0 : Int32)) (by decide) ?_
      refine lv_iadd hx hb md_Mo_obeys_359 ?_
      refine fw_top (y := (0 : Int32)) (by decide) ?_
      refine fw_co (va_runV (As := [.int (0 : Int32)]) (rest := [.int (0 : Int32), .int (0 : Int32), .ref (ad 46 0)]) ⟨hx, hb, hml, hown, hts⟩ (mc_Mo_outsAt l hD v hI (0 : Int32) (fw_inc (by decide))) (mw_Mo_outsAt hts L_Mo_256 ⟨Nat.le_of_ble_eq_true rfl, Nat.le_of_ble_eq_true rfl⟩) (fw_preV hN hK hP (mm_0 (by decide)) (mk_0 0) rfl) rfl rfl hl.1 rfl (lv_room (Nat.le_of_ble_eq_true rfl)) md_Mo_obeys_360 ⟨Nat.le_of_ble_eq_true rfl, Nat.le_of_ble_eq_true rfl⟩) hS (fun r90 H locs er90 hP hS => ?_)
      refine lv_icmp_ge (tgt := 376) hx hb md_Mo_obeys_363 (by decide) (fun c_91 => ?_) (fun c_91 => ?_)
      · refine lv_iconst (v := (0 : Int32)) hx hb md_Mo_obeys_376 (by decide) ?_
        exact J33 v  _ _ _ (by rw [hj]; subst er46 er90; simp only [mf_Mo_obeys_0_j10, if_neg c_47, if_pos c_91])   hI hP hS (lv_sub hl [0, 1, 2] rfl)
      · refine lv_aload_n hx hb md_Mo_obeys_366 rfl (lv_at hl 0 rfl) ?_
        refine fw_getr hx hb hts i_Mo hown hK hP (mm_0 (by decide)) (mk_0 0) rfl 9 (by decide) (hts _ L_Mo_38) (fun _ h9 => h9) rfl md_Mo_obeys_367 ?_
        refine lv_iload hx hb md_Mo_obeys_370 (lv_at hl 2 rfl) ?_
        refine fw_iald hx hb hK hP (mm_10 (by decide)) (mk_10 0) 0 rfl (j := 0) (by decide) (fw_inc (by decide)) md_Mo_obeys_372 ?_
        refine lv_goto (tgt := 377) hx hb md_Mo_obeys_373 (by decide) ?_
        exact J34 v ((v 10 0 0)) _ _ _ (by rw [hj]; subst er46 er90; simp only [mf_Mo_obeys_0_j10, if_neg c_47, if_neg c_91])   hI hP hS (lv_sub hl [0, 1, 2] rfl)
  have J4 : ∀  (H : Heap) (locs : List Loc) (ls : Array Slot), mf_Mo_obeys_0 v0 a2 a3 = mf_Mo_obeys_0_j4 v0 a2 a3 → mI b v0 → va_P D vcls (fw_w mCL cA mkd ad v0) H → va_S (fw_A mCL ad) s.heap H locs → lv_has ls 7 [(0, .ref (ad 0 0)), (1, .int (0 : Int32)), (2, .int a2), (3, .int a3), (4, .int (v0 28 0 0))] → W p l e (headSpec (Cond.code my_Mo_obeys mb_Mo_obeys 7 none :: vTB) mrm_Mo_obeys).room s m ([.ref (ad 0 0), .int (0 : Int32), .int a2, .int a3] : List Value).toArray below meth c H locs 0 0 (MQ below (fw_Qv D vcls mCL cA mkd ad (mI b) (mf_Mo_obeys_0 v0 a2 a3)) ([.ref (ad 0 0), .int (0 : Int32), .int a2, .int a3] : List Value).toArray s 0 0 (fw_A mCL ad)) (F0 m 275 ls []) := by
    intro  H locs ls hj  hI hP hS hl
    clear J9 J8 J7 J6 J22 J21 J23 J24 J20 J19 J25 J26 J18 J17 J27 J28 J16 J15 J29 J30 J14 J13 J31 J32 J12 J11 J33 J34
    refine lv_iload_n hx hb md_Mo_obeys_275 rfl (lv_at hl 2 rfl) ?_
    refine lv_bipush (v := (12 : Int32)) hx hb md_Mo_obeys_276 (by decide) ?_
    refine lv_icmp_ne (tgt := 387) hx hb md_Mo_obeys_278 (by decide) (fun c_5 => ?_) (fun c_5 => ?_)
    · exact J5  _ _ _ (by rw [hj]; simp only [mf_Mo_obeys_0_j4, if_neg c_5])   hI hP hS (lv_sub hl [0, 1, 2, 3, 4] rfl)
    · refine lv_iload hx hb md_Mo_obeys_281 (lv_at hl 4 rfl) ?_
      refine lv_iconst (v := (3 : Int32)) hx hb md_Mo_obeys_283 (by decide) ?_
      refine lv_icmp_ne (tgt := 387) hx hb md_Mo_obeys_284 (by decide) (fun c_40 => ?_) (fun c_40 => ?_)
      · exact J5  _ _ _ (by rw [hj]; simp only [mf_Mo_obeys_0_j4, if_pos c_5, if_neg c_40])   hI hP hS (lv_sub hl [0, 1, 2, 3, 4] rfl)
      · refine lv_iload_n hx hb md_Mo_obeys_287 rfl (lv_at hl 3 rfl) ?_
        refine lv_aload_n hx hb md_Mo_obeys_288 rfl (lv_at hl 0 rfl) ?_
        refine fw_getr hx hb hts i_Mo hown hK hP (mm_0 (by decide)) (mk_0 0) rfl 34 (by decide) (hts _ L_Mo_110) (fun _ h9 => h9) rfl md_Mo_obeys_289 ?_
        refine lv_iload_n hx hb md_Mo_obeys_292 rfl (lv_at hl 1 rfl) ?_
        refine fw_iald hx hb hK hP (mm_35 (by decide)) (mk_35 0) 0 rfl (j := 0) (by decide) (fw_inc (by decide)) md_Mo_obeys_293 ?_
        refine fw_cb (va_runS (As := [.int a3, .int (v0 35 0 0)]) (rest := []) ⟨hx, hb, hml, hown, hts⟩ (mc_Mo_isNewer l hD v0 hI a3 (v0 35 0 0)) (mw_Mo_isNewer hts L_Mo_225 ⟨Nat.le_of_ble_eq_true rfl, Nat.le_of_ble_eq_true rfl⟩) (fw_preS hN hK hP) rfl rfl hl.1 rfl (lv_room (Nat.le_of_ble_eq_true rfl)) md_Mo_obeys_294 ⟨Nat.le_of_ble_eq_true rfl, Nat.le_of_ble_eq_true rfl⟩) hS (fun r41 H locs zr41 er41 hP hS => ?_)
        refine lv_if_eq (tgt := 387) hx hb md_Mo_obeys_297 (by decide) (fun c_42 => ?_) (fun c_42 => ?_)
        · exact J5  _ _ _ (by rw [hj]; subst er41; simp only [mf_Mo_obeys_0_j4, if_pos c_5, if_pos c_40, if_pos c_42])   hI hP hS (lv_sub hl [0, 1, 2, 3, 4] rfl)
        · refine lv_aload_n hx hb md_Mo_obeys_300 rfl (lv_at hl 0 rfl) ?_
          refine fw_getr hx hb hts i_Mo hown hK hP (mm_0 (by decide)) (mk_0 0) rfl 34 (by decide) (hts _ L_Mo_110) (fun _ h9 => h9) rfl md_Mo_obeys_301 ?_
          refine lv_iload_n hx hb md_Mo_obeys_304 rfl (lv_at hl 1 rfl) ?_
          refine lv_iload_n hx hb md_Mo_obeys_305 rfl (lv_at hl 3 rfl) ?_
          refine fw_iast hx hb hK hD hP hS (mm_35 (by decide)) (mk_35 0) 0 rfl (j := 0) (by decide) (fw_inc (by decide)) md_Mo_obeys_306 (fun v43 H locs ev43 hP hS => ?_)
          have hI : mI b v43 := by rw [ev43]; exact mI_up hI trivial trivial
          refine lv_aload_n hx hb md_Mo_obeys_307 rfl (lv_at hl 0 rfl) ?_
          refine fw_getr hx hb hts i_Mo hown hK hP (mm_0 (by decide)) (mk_0 0) rfl 31 (by decide) (hts _ L_Mo_101) (fun _ h9 => h9) rfl md_Mo_obeys_308 ?_
          refine lv_iload_n hx hb md_Mo_obeys_311 rfl (lv_at hl 1 rfl) ?_
          refine lv_iconst (v := (0 : Int32)) hx hb md_Mo_obeys_312 (by decide) ?_
          refine fw_iast hx hb hK hD hP hS (mm_32 (by decide)) (mk_32 0) 0 rfl (j := 0) (by decide) (fw_inc (by decide)) md_Mo_obeys_313 (fun v44 H locs ev44 hP hS => ?_)
          have hI : mI b v44 := by rw [ev44]; exact mI_up hI trivial trivial
          refine lv_iconst (v := (0 : Int32)) hx hb md_Mo_obeys_314 (by decide) ?_
          refine lv_istore (lv' := [(5, .int (0 : Int32)), (0, .ref (ad 0 0)), (1, .int (0 : Int32)), (2, .int a2), (3, .int a3), (4, .int (v0 28 0 0))]) hx hb md_Mo_obeys_315 hl (by decide) rfl (fun ls hl => ?_)
          exact J10 v44  _ _ _ (by rw [hj]; subst er41 ev43 ev44; simp only [mf_Mo_obeys_0_j4, if_pos c_5, if_pos c_40, if_neg c_42])   hI hP hS (lv_sub hl [1, 2, 0] rfl)
  have J3 : ∀  (H : Heap) (locs : List Loc) (ls : Array Slot), mf_Mo_obeys_0 v0 a2 a3 = mf_Mo_obeys_0_j3 v0 a2 a3 → mI b v0 → va_P D vcls (fw_w mCL cA mkd ad v0) H → va_S (fw_A mCL ad) s.heap H locs → lv_has ls 7 [(0, .ref (ad 0 0)), (1, .int (0 : Int32)), (2, .int a2), (3, .int a3), (4, .int (v0 28 0 0))] → W p l e (headSpec (Cond.code my_Mo_obeys mb_Mo_obeys 7 none :: vTB) mrm_Mo_obeys).room s m ([.ref (ad 0 0), .int (0 : Int32), .int a2, .int a3] : List Value).toArray below meth c H locs 0 0 (MQ below (fw_Qv D vcls mCL cA mkd ad (mI b) (mf_Mo_obeys_0 v0 a2 a3)) ([.ref (ad 0 0), .int (0 : Int32), .int a2, .int a3] : List Value).toArray s 0 0 (fw_A mCL ad)) (F0 m 211 ls []) := by
    intro  H locs ls hj  hI hP hS hl
    clear J9 J8 J7 J6 J5 J22 J21 J23 J24 J20 J19 J25 J26 J18 J17 J27 J28 J16 J15 J29 J30 J14 J13 J31 J32 J12 J11 J33 J34 J10
    refine lv_iload_n hx hb md_Mo_obeys_211 rfl (lv_at hl 2 rfl) ?_
    refine lv_bipush (v := (11 : Int32)) hx hb md_Mo_obeys_212 (by decide) ?_
    refine lv_icmp_ne (tgt := 275) hx hb md_Mo_obeys_214 (by decide) (fun c_4 => ?_) (fun c_4 => ?_)
    · exact J4  _ _ _ (by rw [hj]; simp only [mf_Mo_obeys_0_j3, if_neg c_4])   hI hP hS (lv_sub hl [0, 1, 2, 3, 4] rfl)
    · refine lv_iload hx hb md_Mo_obeys_217 (lv_at hl 4 rfl) ?_
      refine lv_iconst (v := (2 : Int32)) hx hb md_Mo_obeys_219 (by decide) ?_
      refine lv_icmp_ne (tgt := 275) hx hb md_Mo_obeys_220 (by decide) (fun c_94 => ?_) (fun c_94 => ?_)
      · exact J4  _ _ _ (by rw [hj]; simp only [mf_Mo_obeys_0_j3, if_pos c_4, if_neg c_94])   hI hP hS (lv_sub hl [0, 1, 2, 3, 4] rfl)
      · refine lv_aload_n hx hb md_Mo_obeys_223 rfl (lv_at hl 0 rfl) ?_
        refine fw_getr hx hb hts i_Mo hown hK hP (mm_0 (by decide)) (mk_0 0) rfl 27 (by decide) (hts _ L_Mo_89) (fun _ h9 => h9) rfl md_Mo_obeys_224 ?_
        refine lv_iload_n hx hb md_Mo_obeys_227 rfl (lv_at hl 1 rfl) ?_
        refine lv_iconst (v := (3 : Int32)) hx hb md_Mo_obeys_228 (by decide) ?_
        refine fw_iast hx hb hK hD hP hS (mm_28 (by decide)) (mk_28 0) 0 rfl (j := 0) (by decide) (fw_inc (by decide)) md_Mo_obeys_229 (fun v95 H locs ev95 hP hS => ?_)
        have hI : mI b v95 := by rw [ev95]; exact mI_up hI trivial trivial
        refine lv_aload_n hx hb md_Mo_obeys_230 rfl (lv_at hl 0 rfl) ?_
        refine fw_getr hx hb hts i_Mo hown hK hP (mm_0 (by decide)) (mk_0 0) rfl 31 (by decide) (hts _ L_Mo_101) (fun _ h9 => h9) rfl md_Mo_obeys_231 ?_
        refine lv_iload_n hx hb md_Mo_obeys_234 rfl (lv_at hl 1 rfl) ?_
        refine lv_iconst (v := (0 : Int32)) hx hb md_Mo_obeys_235 (by decide) ?_
        refine fw_iast hx hb hK hD hP hS (mm_32 (by decide)) (mk_32 0) 0 rfl (j := 0) (by decide) (fw_inc (by decide)) md_Mo_obeys_236 (fun v96 H locs ev96 hP hS => ?_)
        have hI : mI b v96 := by rw [ev96]; exact mI_up hI trivial trivial
        refine lv_aload_n hx hb md_Mo_obeys_237 rfl (lv_at hl 0 rfl) ?_
        refine fw_getr hx hb hts i_Mo hown hK hP (mm_0 (by decide)) (mk_0 0) rfl 33 (by decide) (hts _ L_Mo_107) (fun _ h9 => h9) rfl md_Mo_obeys_238 ?_
        refine lv_iload_n hx hb md_Mo_obeys_241 rfl (lv_at hl 1 rfl) ?_
        refine lv_iconst (v := (0 : Int32)) hx hb md_Mo_obeys_242 (by decide) ?_
        refine fw_iast hx hb hK hD hP hS (mm_34 (by decide)) (mk_34 0) 0 rfl (j := 0) (by decide) (fw_inc (by decide)) md_Mo_obeys_243 (fun v97 H locs ev97 hP hS => ?_)
        have hI : mI b v97 := by rw [ev97]; exact mI_up hI trivial trivial
        refine lv_aload_n hx hb md_Mo_obeys_244 rfl (lv_at hl 0 rfl) ?_
        refine fw_getr hx hb hts i_Mo hown hK hP (mm_0 (by decide)) (mk_0 0) rfl 34 (by decide) (hts _ L_Mo_110) (fun _ h9 => h9) rfl md_Mo_obeys_245 ?_
        refine lv_iload_n hx hb md_Mo_obeys_248 rfl (lv_at hl 1 rfl) ?_
        refine lv_iconst (v := (-1 : Int32)) hx hb md_Mo_obeys_249 (by decide) ?_
        refine fw_iast hx hb hK hD hP hS (mm_35 (by decide)) (mk_35 0) 0 rfl (j := 0) (by decide) (fw_inc (by decide)) md_Mo_obeys_250 (fun v98 H locs ev98 hP hS => ?_)
        have hI : mI b v98 := by rw [ev98]; exact mI_up hI trivial trivial
        refine lv_aload_n hx hb md_Mo_obeys_251 rfl (lv_at hl 0 rfl) ?_
        refine fw_getr hx hb hts i_Mo hown hK hP (mm_0 (by decide)) (mk_0 0) rfl 36 (by decide) (hts _ L_Mo_116) (fun _ h9 => h9) rfl md_Mo_obeys_252 ?_
        refine lv_iload_n hx hb md_Mo_obeys_255 rfl (lv_at hl 1 rfl) ?_
        refine lv_iconst (v := (0 : Int32)) hx hb md_Mo_obeys_256 (by decide) ?_
        refine fw_iast hx hb hK hD hP hS (mm_37 (by decide)) (mk_37 0) 0 rfl (j := 0) (by decide) (fw_inc (by decide)) md_Mo_obeys_257 (fun v99 H locs ev99 hP hS => ?_)
        refine lv_aload_n hx hb md_Mo_obeys_258 rfl (lv_at hl 0 rfl) ?_
        refine fw_getr hx hb hts i_Mo hown hK hP (mm_0 (by decide)) (mk_0 0) rfl 35 (by decide) (hts _ L_Mo_113) (fun _ h9 => h9) rfl md_Mo_obeys_259 ?_
        refine lv_iload_n hx hb md_Mo_obeys_262 rfl (lv_at hl 1 rfl) ?_
        refine lv_iconst (v := (0 : Int32)) hx hb md_Mo_obeys_263 (by decide) ?_
        refine fw_iast hx hb hK hD hP hS (mm_36 (by decide)) (mk_36 0) 0 rfl (j := 0) (by decide) (fw_inc (by decide)) md_Mo_obeys_264 (fun v100 H locs ev100 hP hS => ?_)
        have hI : mI b v100 := by rw [ev100, ev99]; exact mI_clear (k := 0) hI
        refine lv_aload_n hx hb md_Mo_obeys_265 rfl (lv_at hl 0 rfl) ?_
        refine fw_getr hx hb hts i_Mo hown hK hP (mm_0 (by decide)) (mk_0 0) rfl 38 (by decide) (hts _ L_Mo_122) (fun _ h9 => h9) rfl md_Mo_obeys_266 ?_
        refine lv_iload_n hx hb md_Mo_obeys_269 rfl (lv_at hl 1 rfl) ?_
        refine lv_iconst (v := (0 : Int32)) hx hb md_Mo_obeys_270 (by decide) ?_
        refine fw_iast hx hb hK hD hP hS (mm_39 (by decide)) (mk_39 0) 0 rfl (j := 0) (by decide) (fw_inc (by decide)) md_Mo_obeys_271 (fun v101 H locs ev101 hP hS => ?_)
        have hI : mI b v101 := by rw [ev101]; exact mI_up hI trivial trivial
        refine lv_goto (tgt := 507) hx hb md_Mo_obeys_272 (by decide) ?_
        exact fw_vret hx hb hr hlocks hS hP hI md_Mo_obeys_507 (by rw [hj]; subst ev95 ev96 ev97 ev98 ev99 ev100 ev101; simp only [mf_Mo_obeys_0_j3, if_pos c_4, if_pos c_94])
  have J2 : ∀  (H : Heap) (locs : List Loc) (ls : Array Slot), mf_Mo_obeys_0 v0 a2 a3 = mf_Mo_obeys_0_j2 v0 a2 a3 → mI b v0 → va_P D vcls (fw_w mCL cA mkd ad v0) H → va_S (fw_A mCL ad) s.heap H locs → lv_has ls 7 [(0, .ref (ad 0 0)), (1, .int (0 : Int32)), (2, .int a2), (3, .int a3), (4, .int (v0 28 0 0))] → W p l e (headSpec (Cond.code my_Mo_obeys mb_Mo_obeys 7 none :: vTB) mrm_Mo_obeys).room s m ([.ref (ad 0 0), .int (0 : Int32), .int a2, .int a3] : List Value).toArray below meth c H locs 0 0 (MQ below (fw_Qv D vcls mCL cA mkd ad (mI b) (mf_Mo_obeys_0 v0 a2 a3)) ([.ref (ad 0 0), .int (0 : Int32), .int a2, .int a3] : List Value).toArray s 0 0 (fw_A mCL ad)) (F0 m 188 ls []) := by
    intro  H locs ls hj  hI hP hS hl
    clear J9 J8 J7 J6 J5 J22 J21 J23 J24 J20 J19 J25 J26 J18 J17 J27 J28 J16 J15 J29 J30 J14 J13 J31 J32 J12 J11 J33 J34 J10 J4
    refine lv_iload_n hx hb md_Mo_obeys_188 rfl (lv_at hl 2 rfl) ?_
    refine lv_bipush (v := (8 : Int32)) hx hb md_Mo_obeys_189 (by decide) ?_
    refine lv_icmp_ne (tgt := 211) hx hb md_Mo_obeys_191 (by decide) (fun c_3 => ?_) (fun c_3 => ?_)
    · exact J3  _ _ _ (by rw [hj]; simp only [mf_Mo_obeys_0_j2, if_neg c_3])   hI hP hS (lv_sub hl [0, 1, 2, 3, 4] rfl)
    · refine lv_iload hx hb md_Mo_obeys_194 (lv_at hl 4 rfl) ?_
      refine lv_iconst (v := (2 : Int32)) hx hb md_Mo_obeys_196 (by decide) ?_
      refine lv_icmp_ne (tgt := 211) hx hb md_Mo_obeys_197 (by decide) (fun c_102 => ?_) (fun c_102 => ?_)
      · exact J3  _ _ _ (by rw [hj]; simp only [mf_Mo_obeys_0_j2, if_pos c_3, if_neg c_102])   hI hP hS (lv_sub hl [0, 1, 2, 3, 4] rfl)
      · refine lv_aload_n hx hb md_Mo_obeys_200 rfl (lv_at hl 0 rfl) ?_
        refine lv_iload_n hx hb md_Mo_obeys_201 rfl (lv_at hl 1 rfl) ?_
        refine lv_bipush (v := (9 : Int32)) hx hb md_Mo_obeys_202 (by decide) ?_
        refine lv_iconst (v := (0 : Int32)) hx hb md_Mo_obeys_204 (by decide) ?_
        refine fw_cv (va_runV (As := [.int (0 : Int32), .int (9 : Int32), .int (0 : Int32)]) (rest := []) ⟨hx, hb, hml, hown, hts⟩ (mc_Mo_reply_0 l hD v0 hI (9 : Int32) (0 : Int32) (fun q => absurd q (by decide)) (by decide) (by decide)) (mw_Mo_reply hts L_Mo_238 ⟨Nat.le_of_ble_eq_true rfl, Nat.le_of_ble_eq_true rfl⟩) (fw_preV hN hK hP (mm_0 (by decide)) (mk_0 0) rfl) rfl rfl hl.1 rfl (lv_room (Nat.le_of_ble_eq_true rfl)) md_Mo_obeys_205 ⟨Nat.le_of_ble_eq_true rfl, Nat.le_of_ble_eq_true rfl⟩) hS (fun v103 H locs ev103 hI hP hS => ?_)
        refine lv_goto (tgt := 507) hx hb md_Mo_obeys_208 (by decide) ?_
        exact fw_vret hx hb hr hlocks hS hP hI md_Mo_obeys_507 (by rw [hj]; subst ev103; simp only [mf_Mo_obeys_0_j2, if_pos c_3, if_pos c_102])
  have J44 : ∀  (H : Heap) (locs : List Loc) (ls : Array Slot), mf_Mo_obeys_0 v0 a2 a3 = mf_Mo_obeys_0_j44 v0 a2 a3 → mI b v0 → va_P D vcls (fw_w mCL cA mkd ad v0) H → va_S (fw_A mCL ad) s.heap H locs → lv_has ls 7 [(0, .ref (ad 0 0)), (1, .int (0 : Int32)), (5, .int (0 : Int32)), (6, .int (3 : Int32))] → W p l e (headSpec (Cond.code my_Mo_obeys mb_Mo_obeys 7 none :: vTB) mrm_Mo_obeys).room s m ([.ref (ad 0 0), .int (0 : Int32), .int a2, .int a3] : List Value).toArray below meth c H locs 0 0 (MQ below (fw_Qv D vcls mCL cA mkd ad (mI b) (mf_Mo_obeys_0 v0 a2 a3)) ([.ref (ad 0 0), .int (0 : Int32), .int a2, .int a3] : List Value).toArray s 0 0 (fw_A mCL ad)) (F0 m 72 ls []) := by
    intro  H locs ls hj  hI hP hS hl
    clear J9 J8 J7 J6 J5 J22 J21 J23 J24 J20 J19 J25 J26 J18 J17 J27 J28 J16 J15 J29 J30 J14 J13 J31 J32 J12 J11 J33 J34 J10 J4 J3 J2
    refine lv_iload hx hb md_Mo_obeys_72 (lv_at hl 3 rfl) ?_
    refine lv_iconst (v := (3 : Int32)) hx hb md_Mo_obeys_74 (by decide) ?_
    refine lv_icmp_ge (tgt := 137) hx hb md_Mo_obeys_75 (by decide) (fun _ => ?_) (fun c_114 => absurd (by decide) c_114)
    refine lv_iload hx hb md_Mo_obeys_137 (lv_at hl 2 rfl) ?_
    refine lv_if_eq (tgt := 148) hx hb md_Mo_obeys_139 (by decide) (fun _ => ?_) (fun c_115 => absurd (by decide) c_115)
    refine lv_aload_n hx hb md_Mo_obeys_148 rfl (lv_at hl 0 rfl) ?_
    refine fw_getr hx hb hts i_Mo hown hK hP (mm_0 (by decide)) (mk_0 0) rfl 27 (by decide) (hts _ L_Mo_89) (fun _ h9 => h9) rfl md_Mo_obeys_149 ?_
    refine lv_iload_n hx hb md_Mo_obeys_152 rfl (lv_at hl 1 rfl) ?_
    refine lv_iconst (v := (2 : Int32)) hx hb md_Mo_obeys_153 (by decide) ?_
    refine fw_iast hx hb hK hD hP hS (mm_28 (by decide)) (mk_28 0) 0 rfl (j := 0) (by decide) (fw_inc (by decide)) md_Mo_obeys_154 (fun v116 H locs ev116 hP hS => ?_)
    have hI : mI b v116 := by rw [ev116]; exact mI_up hI trivial trivial
    refine lv_aload_n hx hb md_Mo_obeys_155 rfl (lv_at hl 0 rfl) ?_
    refine fw_getr hx hb hts i_Mo hown hK hP (mm_0 (by decide)) (mk_0 0) rfl 31 (by decide) (hts _ L_Mo_101) (fun _ h9 => h9) rfl md_Mo_obeys_156 ?_
    refine lv_iload_n hx hb md_Mo_obeys_159 rfl (lv_at hl 1 rfl) ?_
    refine lv_iconst (v := (0 : Int32)) hx hb md_Mo_obeys_160 (by decide) ?_
    refine fw_iast hx hb hK hD hP hS (mm_32 (by decide)) (mk_32 0) 0 rfl (j := 0) (by decide) (fw_inc (by decide)) md_Mo_obeys_161 (fun v117 H locs ev117 hP hS => ?_)
    have hI : mI b v117 := by rw [ev117]; exact mI_up hI trivial trivial
    refine lv_aload_n hx hb md_Mo_obeys_162 rfl (lv_at hl 0 rfl) ?_
    refine fw_getr hx hb hts i_Mo hown hK hP (mm_0 (by decide)) (mk_0 0) rfl 32 (by decide) (hts _ L_Mo_104) (fun _ h9 => h9) rfl md_Mo_obeys_163 ?_
    refine lv_iload_n hx hb md_Mo_obeys_166 rfl (lv_at hl 1 rfl) ?_
    refine lv_iconst (v := (0 : Int32)) hx hb md_Mo_obeys_167 (by decide) ?_
    refine fw_iast hx hb hK hD hP hS (mm_33 (by decide)) (mk_33 0) 0 rfl (j := 0) (by decide) (fw_inc (by decide)) md_Mo_obeys_168 (fun v118 H locs ev118 hP hS => ?_)
    have hI : mI b v118 := by rw [ev118]; exact mI_up hI trivial trivial
    refine lv_aload_n hx hb md_Mo_obeys_169 rfl (lv_at hl 0 rfl) ?_
    refine lv_iload_n hx hb md_Mo_obeys_170 rfl (lv_at hl 1 rfl) ?_
    refine lv_bipush (v := (9 : Int32)) hx hb md_Mo_obeys_171 (by decide) ?_
    refine lv_iconst (v := (0 : Int32)) hx hb md_Mo_obeys_173 (by decide) ?_
    refine fw_cv (va_runV (As := [.int (0 : Int32), .int (9 : Int32), .int (0 : Int32)]) (rest := []) ⟨hx, hb, hml, hown, hts⟩ (mc_Mo_reply_0 l hD v118 hI (9 : Int32) (0 : Int32) (fun q => absurd q (by decide)) (by decide) (by decide)) (mw_Mo_reply hts L_Mo_238 ⟨Nat.le_of_ble_eq_true rfl, Nat.le_of_ble_eq_true rfl⟩) (fw_preV hN hK hP (mm_0 (by decide)) (mk_0 0) rfl) rfl rfl hl.1 rfl (lv_room (Nat.le_of_ble_eq_true rfl)) md_Mo_obeys_174 ⟨Nat.le_of_ble_eq_true rfl, Nat.le_of_ble_eq_true rfl⟩) hS (fun v119 H locs ev119 hI hP hS => ?_)
    refine lv_aload_n hx hb md_Mo_obeys_177 rfl (lv_at hl 0 rfl) ?_
    refine lv_iload_n hx hb md_Mo_obeys_178 rfl (lv_at hl 1 rfl) ?_
    refine lv_bipush (v := (10 : Int32)) hx hb md_Mo_obeys_179 (by decide) ?_
    refine lv_iconst (v := (0 : Int32)) hx hb md_Mo_obeys_181 (by decide) ?_
    refine fw_cv (va_runV (As := [.int (0 : Int32), .int (10 : Int32), .int (0 : Int32)]) (rest := []) ⟨hx, hb, hml, hown, hts⟩ (mc_Mo_reply_0 l hD v119 hI (10 : Int32) (0 : Int32) (fun q => absurd q (by decide)) (by decide) (by decide)) (mw_Mo_reply hts L_Mo_238 ⟨Nat.le_of_ble_eq_true rfl, Nat.le_of_ble_eq_true rfl⟩) (fw_preV hN hK hP (mm_0 (by decide)) (mk_0 0) rfl) rfl rfl hl.1 rfl (lv_room (Nat.le_of_ble_eq_true rfl)) md_Mo_obeys_182 ⟨Nat.le_of_ble_eq_true rfl, Nat.le_of_ble_eq_true rfl⟩) hS (fun v120 H locs ev120 hI hP hS => ?_)
    refine lv_goto (tgt := 507) hx hb md_Mo_obeys_185 (by decide) ?_
    exact fw_vret hx hb hr hlocks hS hP hI md_Mo_obeys_507 (by rw [hj]; subst ev116 ev117 ev118 ev119 ev120; simp only [mf_Mo_obeys_0_j44])
  have J43 : ∀  (H : Heap) (locs : List Loc) (ls : Array Slot), mf_Mo_obeys_0 v0 a2 a3 = mf_Mo_obeys_0_j43 v0 a2 a3 → mI b v0 → va_P D vcls (fw_w mCL cA mkd ad v0) H → va_S (fw_A mCL ad) s.heap H locs → lv_has ls 7 [(0, .ref (ad 0 0)), (1, .int (0 : Int32)), (6, .int (2 : Int32))] → W p l e (headSpec (Cond.code my_Mo_obeys mb_Mo_obeys 7 none :: vTB) mrm_Mo_obeys).room s m ([.ref (ad 0 0), .int (0 : Int32), .int a2, .int a3] : List Value).toArray below meth c H locs 0 0 (MQ below (fw_Qv D vcls mCL cA mkd ad (mI b) (mf_Mo_obeys_0 v0 a2 a3)) ([.ref (ad 0 0), .int (0 : Int32), .int a2, .int a3] : List Value).toArray s 0 0 (fw_A mCL ad)) (F0 m 128 ls [.int (0 : Int32), .int (0 : Int32)]) := by
    intro  H locs ls hj  hI hP hS hl
    clear J9 J8 J7 J6 J5 J22 J21 J23 J24 J20 J19 J25 J26 J18 J17 J27 J28 J16 J15 J29 J30 J14 J13 J31 J32 J12 J11 J33 J34 J10 J4 J3 J2
    refine lv_ior hx hb md_Mo_obeys_128 ?_
    refine fw_top (y := (0 : Int32)) (by decide) ?_
    refine lv_istore (lv' := [(5, .int (0 : Int32)), (0, .ref (ad 0 0)), (1, .int (0 : Int32)), (6, .int (2 : Int32))]) hx hb md_Mo_obeys_129 hl (by decide) rfl (fun ls hl => ?_)
    refine lv_iinc (v := (3 : Int32)) (lv' := [(6, .int (3 : Int32)), (5, .int (0 : Int32)), (0, .ref (ad 0 0)), (1, .int (0 : Int32))]) hx hb md_Mo_obeys_131 hl (k := 3) rfl (by decide) (by decide) rfl (fun ls hl => ?_)
    refine lv_goto (tgt := 72) hx hb md_Mo_obeys_134 (by decide) ?_
    exact J44  _ _ _ (by rw [hj]; simp only [mf_Mo_obeys_0_j43])   hI hP hS (lv_sub hl [2, 3, 1, 0] rfl)
  have J42 : ∀  (H : Heap) (locs : List Loc) (ls : Array Slot), mf_Mo_obeys_0 v0 a2 a3 = mf_Mo_obeys_0_j42 v0 a2 a3 → mI b v0 → va_P D vcls (fw_w mCL cA mkd ad v0) H → va_S (fw_A mCL ad) s.heap H locs → lv_has ls 7 [(0, .ref (ad 0 0)), (1, .int (0 : Int32)), (6, .int (2 : Int32))] → W p l e (headSpec (Cond.code my_Mo_obeys mb_Mo_obeys 7 none :: vTB) mrm_Mo_obeys).room s m ([.ref (ad 0 0), .int (0 : Int32), .int a2, .int a3] : List Value).toArray below meth c H locs 0 0 (MQ below (fw_Qv D vcls mCL cA mkd ad (mI b) (mf_Mo_obeys_0 v0 a2 a3)) ([.ref (ad 0 0), .int (0 : Int32), .int a2, .int a3] : List Value).toArray s 0 0 (fw_A mCL ad)) (F0 m 127 ls [.int (0 : Int32)]) := by
    intro  H locs ls hj  hI hP hS hl
    clear J9 J8 J7 J6 J5 J22 J21 J23 J24 J20 J19 J25 J26 J18 J17 J27 J28 J16 J15 J29 J30 J14 J13 J31 J32 J12 J11 J33 J34 J10 J4 J3 J2 J44
    refine lv_iconst (v := (0 : Int32)) hx hb md_Mo_obeys_127 (by decide) ?_
    exact J43  _ _ _ (by rw [hj]; simp only [mf_Mo_obeys_0_j42])   hI hP hS (lv_sub hl [0, 1, 2] rfl)
  have J46 : ∀  (H : Heap) (locs : List Loc) (ls : Array Slot), mf_Mo_obeys_0 v0 a2 a3 = mf_Mo_obeys_0_j46 v0 a2 a3 → mI b v0 → va_P D vcls (fw_w mCL cA mkd ad v0) H → va_S (fw_A mCL ad) s.heap H locs → lv_has ls 7 [(0, .ref (ad 0 0)), (1, .int (0 : Int32)), (5, .int (1 : Int32)), (6, .int (3 : Int32))] → W p l e (headSpec (Cond.code my_Mo_obeys mb_Mo_obeys 7 none :: vTB) mrm_Mo_obeys).room s m ([.ref (ad 0 0), .int (0 : Int32), .int a2, .int a3] : List Value).toArray below meth c H locs 0 0 (MQ below (fw_Qv D vcls mCL cA mkd ad (mI b) (mf_Mo_obeys_0 v0 a2 a3)) ([.ref (ad 0 0), .int (0 : Int32), .int a2, .int a3] : List Value).toArray s 0 0 (fw_A mCL ad)) (F0 m 72 ls []) := by
    intro  H locs ls hj  hI hP hS hl
    clear J9 J8 J7 J6 J5 J22 J21 J23 J24 J20 J19 J25 J26 J18 J17 J27 J28 J16 J15 J29 J30 J14 J13 J31 J32 J12 J11 J33 J34 J10 J4 J3 J2 J44 J43 J42
    refine lv_iload hx hb md_Mo_obeys_72 (lv_at hl 3 rfl) ?_
    refine lv_iconst (v := (3 : Int32)) hx hb md_Mo_obeys_74 (by decide) ?_
    refine lv_icmp_ge (tgt := 137) hx hb md_Mo_obeys_75 (by decide) (fun _ => ?_) (fun c_125 => absurd (by decide) c_125)
    refine lv_iload hx hb md_Mo_obeys_137 (lv_at hl 2 rfl) ?_
    refine lv_if_eq (tgt := 148) hx hb md_Mo_obeys_139 (by decide) (fun c_126 => absurd c_126 (by decide)) (fun _ => ?_)
    refine lv_aload_n hx hb md_Mo_obeys_142 rfl (lv_at hl 0 rfl) ?_
    refine lv_iload_n hx hb md_Mo_obeys_143 rfl (lv_at hl 1 rfl) ?_
    refine fw_cv (va_runV (As := [.int (0 : Int32)]) (rest := []) ⟨hx, hb, hml, hown, hts⟩ (mc_Mo_quit_0 l hD v0 hI ) (mw_Mo_quit hts L_Mo_253 ⟨Nat.le_of_ble_eq_true rfl, Nat.le_of_ble_eq_true rfl⟩) (fw_preV hN hK hP (mm_0 (by decide)) (mk_0 0) rfl) rfl rfl hl.1 rfl (lv_room (Nat.le_of_ble_eq_true rfl)) md_Mo_obeys_144 ⟨Nat.le_of_ble_eq_true rfl, Nat.le_of_ble_eq_true rfl⟩) hS (fun v127 H locs ev127 hI hP hS => ?_)
    exact fw_vret hx hb hr hlocks hS hP hI md_Mo_obeys_147 (by rw [hj]; subst ev127; simp only [mf_Mo_obeys_0_j46])
  have J45 : ∀  (H : Heap) (locs : List Loc) (ls : Array Slot), mf_Mo_obeys_0 v0 a2 a3 = mf_Mo_obeys_0_j45 v0 a2 a3 → mI b v0 → va_P D vcls (fw_w mCL cA mkd ad v0) H → va_S (fw_A mCL ad) s.heap H locs → lv_has ls 7 [(0, .ref (ad 0 0)), (1, .int (0 : Int32)), (6, .int (2 : Int32))] → W p l e (headSpec (Cond.code my_Mo_obeys mb_Mo_obeys 7 none :: vTB) mrm_Mo_obeys).room s m ([.ref (ad 0 0), .int (0 : Int32), .int a2, .int a3] : List Value).toArray below meth c H locs 0 0 (MQ below (fw_Qv D vcls mCL cA mkd ad (mI b) (mf_Mo_obeys_0 v0 a2 a3)) ([.ref (ad 0 0), .int (0 : Int32), .int a2, .int a3] : List Value).toArray s 0 0 (fw_A mCL ad)) (F0 m 128 ls [.int (1 : Int32), .int (0 : Int32)]) := by
    intro  H locs ls hj  hI hP hS hl
    clear J9 J8 J7 J6 J5 J22 J21 J23 J24 J20 J19 J25 J26 J18 J17 J27 J28 J16 J15 J29 J30 J14 J13 J31 J32 J12 J11 J33 J34 J10 J4 J3 J2 J44 J43 J42
    refine lv_ior hx hb md_Mo_obeys_128 ?_
    refine fw_top (y := (1 : Int32)) (by decide) ?_
    refine lv_istore (lv' := [(5, .int (1 : Int32)), (0, .ref (ad 0 0)), (1, .int (0 : Int32)), (6, .int (2 : Int32))]) hx hb md_Mo_obeys_129 hl (by decide) rfl (fun ls hl => ?_)
    refine lv_iinc (v := (3 : Int32)) (lv' := [(6, .int (3 : Int32)), (5, .int (1 : Int32)), (0, .ref (ad 0 0)), (1, .int (0 : Int32))]) hx hb md_Mo_obeys_131 hl (k := 3) rfl (by decide) (by decide) rfl (fun ls hl => ?_)
    refine lv_goto (tgt := 72) hx hb md_Mo_obeys_134 (by decide) ?_
    exact J46  _ _ _ (by rw [hj]; simp only [mf_Mo_obeys_0_j45])   hI hP hS (lv_sub hl [2, 3, 1, 0] rfl)
  have J41 : ∀  (H : Heap) (locs : List Loc) (ls : Array Slot), mf_Mo_obeys_0 v0 a2 a3 = mf_Mo_obeys_0_j41 v0 a2 a3 → mI b v0 → va_P D vcls (fw_w mCL cA mkd ad v0) H → va_S (fw_A mCL ad) s.heap H locs → lv_has ls 7 [(0, .ref (ad 0 0)), (1, .int (0 : Int32)), (5, .int (0 : Int32)), (6, .int (2 : Int32))] → W p l e (headSpec (Cond.code my_Mo_obeys mb_Mo_obeys 7 none :: vTB) mrm_Mo_obeys).room s m ([.ref (ad 0 0), .int (0 : Int32), .int a2, .int a3] : List Value).toArray below meth c H locs 0 0 (MQ below (fw_Qv D vcls mCL cA mkd ad (mI b) (mf_Mo_obeys_0 v0 a2 a3)) ([.ref (ad 0 0), .int (0 : Int32), .int a2, .int a3] : List Value).toArray s 0 0 (fw_A mCL ad)) (F0 m 72 ls []) := by
    intro  H locs ls hj  hI hP hS hl
    clear J9 J8 J7 J6 J5 J22 J21 J23 J24 J20 J19 J25 J26 J18 J17 J27 J28 J16 J15 J29 J30 J14 J13 J31 J32 J12 J11 J33 J34 J10 J4 J3 J2 J44 J43 J46
    refine lv_iload hx hb md_Mo_obeys_72 (lv_at hl 3 rfl) ?_
    refine lv_iconst (v := (3 : Int32)) hx hb md_Mo_obeys_74 (by decide) ?_
    refine lv_icmp_ge (tgt := 137) hx hb md_Mo_obeys_75 (by decide) (fun c_111 => absurd c_111 (by decide)) (fun _ => ?_)
    refine lv_iload hx hb md_Mo_obeys_78 (lv_at hl 2 rfl) ?_
    refine lv_aload_n hx hb md_Mo_obeys_80 rfl (lv_at hl 0 rfl) ?_
    refine lv_iload_n hx hb md_Mo_obeys_81 rfl (lv_at hl 1 rfl) ?_
    refine lv_iload hx hb md_Mo_obeys_82 (lv_at hl 3 rfl) ?_
    refine fw_cb (va_runV (As := [.int (0 : Int32), .int (2 : Int32)]) (rest := [.int (0 : Int32)]) ⟨hx, hb, hml, hown, hts⟩ (mc_Mo_isGood_0 l hD v0 hI (2 : Int32) (fw_inc (by decide))) (mw_Mo_isGood hts L_Mo_250 ⟨Nat.le_of_ble_eq_true rfl, Nat.le_of_ble_eq_true rfl⟩) (fw_preV hN hK hP (mm_0 (by decide)) (mk_0 0) rfl) rfl rfl hl.1 rfl (lv_room (Nat.le_of_ble_eq_true rfl)) md_Mo_obeys_84 ⟨Nat.le_of_ble_eq_true rfl, Nat.le_of_ble_eq_true rfl⟩) hS (fun r112 H locs zr112 er112 hP hS => ?_)
    refine lv_if_eq (tgt := 127) hx hb md_Mo_obeys_87 (by decide) (fun c_113 => ?_) (fun c_113 => ?_)
    · exact J42  _ _ _ (by rw [hj]; subst er112; simp only [mf_Mo_obeys_0_j41, if_pos c_113])   hI hP hS (lv_sub hl [0, 1, 3] rfl)
    · have h_121 : vp_in (v0 43 0 2) 8 := mp_isGood_0_2 er112 c_113 (hI.1 43 0 2)
      refine lv_aload_n hx hb md_Mo_obeys_90 rfl (lv_at hl 0 rfl) ?_
      refine fw_getr hx hb hts i_Mo hown hK hP (mm_0 (by decide)) (mk_0 0) rfl 2 (by decide) (hts _ L_Mo_16) (fun _ h9 => h9) rfl md_Mo_obeys_91 ?_
      refine lv_aload_n hx hb md_Mo_obeys_94 rfl (lv_at hl 0 rfl) ?_
      refine fw_getr hx hb hts i_Mo hown hK hP (mm_0 (by decide)) (mk_0 0) rfl 42 (by decide) (hts _ L_Mo_134) (fun _ h9 => h9) rfl md_Mo_obeys_95 ?_
      refine lv_iconst (v := (3 : Int32)) hx hb md_Mo_obeys_98 (by decide) ?_
      refine lv_iload_n hx hb md_Mo_obeys_99 rfl (lv_at hl 1 rfl) ?_
      refine lv_imul hx hb md_Mo_obeys_100 ?_
      refine fw_top (y := (0 : Int32)) (by decide) ?_
      refine lv_iload hx hb md_Mo_obeys_101 (lv_at hl 3 rfl) ?_
      refine lv_iadd hx hb md_Mo_obeys_103 ?_
      refine fw_top (y := (2 : Int32)) (by decide) ?_
      refine fw_iald hx hb hK hP (mm_43 (by decide)) (mk_43 0) 0 rfl (j := 2) (by decide) (fw_inc (by decide)) md_Mo_obeys_104 ?_
      have h_122 : vp_in ((v0 43 0 2) + 1) 9 := hI.1 43 0 (2)
      refine fw_zald hx hb hK hP (mm_3 (by decide)) (mk_3 0) 1 rfl (j := (v0 43 0 2).toNatClampNeg) rfl h_121 md_Mo_obeys_105 ?_
      refine lv_if_eq (tgt := 127) hx hb md_Mo_obeys_106 (by decide) (fun c_123 => ?_) (fun c_123 => ?_)
      · exact J42  _ _ _ (by rw [hj]; subst er112; simp only [mf_Mo_obeys_0_j41, if_neg c_113, if_pos c_123])   hI hP hS (lv_sub hl [0, 1, 3] rfl)
      · refine lv_aload_n hx hb md_Mo_obeys_109 rfl (lv_at hl 0 rfl) ?_
        refine fw_getr hx hb hts i_Mo hown hK hP (mm_0 (by decide)) (mk_0 0) rfl 43 (by decide) (hts _ L_Mo_137) (fun _ h9 => h9) rfl md_Mo_obeys_110 ?_
        refine lv_iconst (v := (3 : Int32)) hx hb md_Mo_obeys_113 (by decide) ?_
        refine lv_iload_n hx hb md_Mo_obeys_114 rfl (lv_at hl 1 rfl) ?_
        refine lv_imul hx hb md_Mo_obeys_115 ?_
        refine fw_top (y := (0 : Int32)) (by decide) ?_
        refine lv_iload hx hb md_Mo_obeys_116 (lv_at hl 3 rfl) ?_
        refine lv_iadd hx hb md_Mo_obeys_118 ?_
        refine fw_top (y := (2 : Int32)) (by decide) ?_
        refine fw_iald hx hb hK hP (mm_44 (by decide)) (mk_44 0) 0 rfl (j := 2) (by decide) (fw_inc (by decide)) md_Mo_obeys_119 ?_
        refine lv_if_ge (tgt := 127) hx hb md_Mo_obeys_120 (by decide) (fun c_124 => ?_) (fun c_124 => ?_)
        · exact J42  _ _ _ (by rw [hj]; subst er112; simp only [mf_Mo_obeys_0_j41, if_neg c_113, if_neg c_123, if_pos c_124])   hI hP hS (lv_sub hl [0, 1, 3] rfl)
        · refine lv_iconst (v := (1 : Int32)) hx hb md_Mo_obeys_123 (by decide) ?_
          refine lv_goto (tgt := 128) hx hb md_Mo_obeys_124 (by decide) ?_
          exact J45  _ _ _ (by rw [hj]; subst er112; simp only [mf_Mo_obeys_0_j41, if_neg c_113, if_neg c_123, if_neg c_124])   hI hP hS (lv_sub hl [0, 1, 3] rfl)
  have J40 : ∀  (H : Heap) (locs : List Loc) (ls : Array Slot), mf_Mo_obeys_0 v0 a2 a3 = mf_Mo_obeys_0_j40 v0 a2 a3 → mI b v0 → va_P D vcls (fw_w mCL cA mkd ad v0) H → va_S (fw_A mCL ad) s.heap H locs → lv_has ls 7 [(0, .ref (ad 0 0)), (1, .int (0 : Int32)), (6, .int (1 : Int32))] → W p l e (headSpec (Cond.code my_Mo_obeys mb_Mo_obeys 7 none :: vTB) mrm_Mo_obeys).room s m ([.ref (ad 0 0), .int (0 : Int32), .int a2, .int a3] : List Value).toArray below meth c H locs 0 0 (MQ below (fw_Qv D vcls mCL cA mkd ad (mI b) (mf_Mo_obeys_0 v0 a2 a3)) ([.ref (ad 0 0), .int (0 : Int32), .int a2, .int a3] : List Value).toArray s 0 0 (fw_A mCL ad)) (F0 m 128 ls [.int (0 : Int32), .int (0 : Int32)]) := by
    intro  H locs ls hj  hI hP hS hl
    clear J9 J8 J7 J6 J5 J22 J21 J23 J24 J20 J19 J25 J26 J18 J17 J27 J28 J16 J15 J29 J30 J14 J13 J31 J32 J12 J11 J33 J34 J10 J4 J3 J2 J44 J43 J42 J46 J45
    refine lv_ior hx hb md_Mo_obeys_128 ?_
    refine fw_top (y := (0 : Int32)) (by decide) ?_
    refine lv_istore (lv' := [(5, .int (0 : Int32)), (0, .ref (ad 0 0)), (1, .int (0 : Int32)), (6, .int (1 : Int32))]) hx hb md_Mo_obeys_129 hl (by decide) rfl (fun ls hl => ?_)
    refine lv_iinc (v := (2 : Int32)) (lv' := [(6, .int (2 : Int32)), (5, .int (0 : Int32)), (0, .ref (ad 0 0)), (1, .int (0 : Int32))]) hx hb md_Mo_obeys_131 hl (k := 3) rfl (by decide) (by decide) rfl (fun ls hl => ?_)
    refine lv_goto (tgt := 72) hx hb md_Mo_obeys_134 (by decide) ?_
    exact J41  _ _ _ (by rw [hj]; simp only [mf_Mo_obeys_0_j40])   hI hP hS (lv_sub hl [2, 3, 1, 0] rfl)
  have J39 : ∀  (H : Heap) (locs : List Loc) (ls : Array Slot), mf_Mo_obeys_0 v0 a2 a3 = mf_Mo_obeys_0_j39 v0 a2 a3 → mI b v0 → va_P D vcls (fw_w mCL cA mkd ad v0) H → va_S (fw_A mCL ad) s.heap H locs → lv_has ls 7 [(0, .ref (ad 0 0)), (1, .int (0 : Int32)), (6, .int (1 : Int32))] → W p l e (headSpec (Cond.code my_Mo_obeys mb_Mo_obeys 7 none :: vTB) mrm_Mo_obeys).room s m ([.ref (ad 0 0), .int (0 : Int32), .int a2, .int a3] : List Value).toArray below meth c H locs 0 0 (MQ below (fw_Qv D vcls mCL cA mkd ad (mI b) (mf_Mo_obeys_0 v0 a2 a3)) ([.ref (ad 0 0), .int (0 : Int32), .int a2, .int a3] : List Value).toArray s 0 0 (fw_A mCL ad)) (F0 m 127 ls [.int (0 : Int32)]) := by
    intro  H locs ls hj  hI hP hS hl
    clear J9 J8 J7 J6 J5 J22 J21 J23 J24 J20 J19 J25 J26 J18 J17 J27 J28 J16 J15 J29 J30 J14 J13 J31 J32 J12 J11 J33 J34 J10 J4 J3 J2 J44 J43 J42 J46 J45 J41
    refine lv_iconst (v := (0 : Int32)) hx hb md_Mo_obeys_127 (by decide) ?_
    exact J40  _ _ _ (by rw [hj]; simp only [mf_Mo_obeys_0_j39])   hI hP hS (lv_sub hl [0, 1, 2] rfl)
  have J50 : ∀  (H : Heap) (locs : List Loc) (ls : Array Slot), mf_Mo_obeys_0 v0 a2 a3 = mf_Mo_obeys_0_j50 v0 a2 a3 → mI b v0 → va_P D vcls (fw_w mCL cA mkd ad v0) H → va_S (fw_A mCL ad) s.heap H locs → lv_has ls 7 [(0, .ref (ad 0 0)), (1, .int (0 : Int32)), (6, .int (2 : Int32))] → W p l e (headSpec (Cond.code my_Mo_obeys mb_Mo_obeys 7 none :: vTB) mrm_Mo_obeys).room s m ([.ref (ad 0 0), .int (0 : Int32), .int a2, .int a3] : List Value).toArray below meth c H locs 0 0 (MQ below (fw_Qv D vcls mCL cA mkd ad (mI b) (mf_Mo_obeys_0 v0 a2 a3)) ([.ref (ad 0 0), .int (0 : Int32), .int a2, .int a3] : List Value).toArray s 0 0 (fw_A mCL ad)) (F0 m 128 ls [.int (0 : Int32), .int (1 : Int32)]) := by
    intro  H locs ls hj  hI hP hS hl
    clear J9 J8 J7 J6 J5 J22 J21 J23 J24 J20 J19 J25 J26 J18 J17 J27 J28 J16 J15 J29 J30 J14 J13 J31 J32 J12 J11 J33 J34 J10 J4 J3 J2 J44 J43 J42 J45 J41 J40 J39
    refine lv_ior hx hb md_Mo_obeys_128 ?_
    refine fw_top (y := (1 : Int32)) (by decide) ?_
    refine lv_istore (lv' := [(5, .int (1 : Int32)), (0, .ref (ad 0 0)), (1, .int (0 : Int32)), (6, .int (2 : Int32))]) hx hb md_Mo_obeys_129 hl (by decide) rfl (fun ls hl => ?_)
    refine lv_iinc (v := (3 : Int32)) (lv' := [(6, .int (3 : Int32)), (5, .int (1 : Int32)), (0, .ref (ad 0 0)), (1, .int (0 : Int32))]) hx hb md_Mo_obeys_131 hl (k := 3) rfl (by decide) (by decide) rfl (fun ls hl => ?_)
    refine lv_goto (tgt := 72) hx hb md_Mo_obeys_134 (by decide) ?_
    exact J46  _ _ _ (by rw [hj]; simp only [mf_Mo_obeys_0_j50])   hI hP hS (lv_sub hl [2, 3, 1, 0] rfl)
  have J49 : ∀  (H : Heap) (locs : List Loc) (ls : Array Slot), mf_Mo_obeys_0 v0 a2 a3 = mf_Mo_obeys_0_j49 v0 a2 a3 → mI b v0 → va_P D vcls (fw_w mCL cA mkd ad v0) H → va_S (fw_A mCL ad) s.heap H locs → lv_has ls 7 [(0, .ref (ad 0 0)), (1, .int (0 : Int32)), (6, .int (2 : Int32))] → W p l e (headSpec (Cond.code my_Mo_obeys mb_Mo_obeys 7 none :: vTB) mrm_Mo_obeys).room s m ([.ref (ad 0 0), .int (0 : Int32), .int a2, .int a3] : List Value).toArray below meth c H locs 0 0 (MQ below (fw_Qv D vcls mCL cA mkd ad (mI b) (mf_Mo_obeys_0 v0 a2 a3)) ([.ref (ad 0 0), .int (0 : Int32), .int a2, .int a3] : List Value).toArray s 0 0 (fw_A mCL ad)) (F0 m 127 ls [.int (1 : Int32)]) := by
    intro  H locs ls hj  hI hP hS hl
    clear J9 J8 J7 J6 J5 J22 J21 J23 J24 J20 J19 J25 J26 J18 J17 J27 J28 J16 J15 J29 J30 J14 J13 J31 J32 J12 J11 J33 J34 J10 J4 J3 J2 J44 J43 J42 J46 J45 J41 J40 J39
    refine lv_iconst (v := (0 : Int32)) hx hb md_Mo_obeys_127 (by decide) ?_
    exact J50  _ _ _ (by rw [hj]; simp only [mf_Mo_obeys_0_j49])   hI hP hS (lv_sub hl [0, 1, 2] rfl)
  have J51 : ∀  (H : Heap) (locs : List Loc) (ls : Array Slot), mf_Mo_obeys_0 v0 a2 a3 = mf_Mo_obeys_0_j51 v0 a2 a3 → mI b v0 → va_P D vcls (fw_w mCL cA mkd ad v0) H → va_S (fw_A mCL ad) s.heap H locs → lv_has ls 7 [(0, .ref (ad 0 0)), (1, .int (0 : Int32)), (6, .int (2 : Int32))] → W p l e (headSpec (Cond.code my_Mo_obeys mb_Mo_obeys 7 none :: vTB) mrm_Mo_obeys).room s m ([.ref (ad 0 0), .int (0 : Int32), .int a2, .int a3] : List Value).toArray below meth c H locs 0 0 (MQ below (fw_Qv D vcls mCL cA mkd ad (mI b) (mf_Mo_obeys_0 v0 a2 a3)) ([.ref (ad 0 0), .int (0 : Int32), .int a2, .int a3] : List Value).toArray s 0 0 (fw_A mCL ad)) (F0 m 128 ls [.int (1 : Int32), .int (1 : Int32)]) := by
    intro  H locs ls hj  hI hP hS hl
    clear J9 J8 J7 J6 J5 J22 J21 J23 J24 J20 J19 J25 J26 J18 J17 J27 J28 J16 J15 J29 J30 J14 J13 J31 J32 J12 J11 J33 J34 J10 J4 J3 J2 J44 J43 J42 J45 J41 J40 J39 J50 J49
    refine lv_ior hx hb md_Mo_obeys_128 ?_
    refine fw_top (y := (1 : Int32)) (by decide) ?_
    refine lv_istore (lv' := [(5, .int (1 : Int32)), (0, .ref (ad 0 0)), (1, .int (0 : Int32)), (6, .int (2 : Int32))]) hx hb md_Mo_obeys_129 hl (by decide) rfl (fun ls hl => ?_)
    refine lv_iinc (v := (3 : Int32)) (lv' := [(6, .int (3 : Int32)), (5, .int (1 : Int32)), (0, .ref (ad 0 0)), (1, .int (0 : Int32))]) hx hb md_Mo_obeys_131 hl (k := 3) rfl (by decide) (by decide) rfl (fun ls hl => ?_)
    refine lv_goto (tgt := 72) hx hb md_Mo_obeys_134 (by decide) ?_
    exact J46  _ _ _ (by rw [hj]; simp only [mf_Mo_obeys_0_j51])   hI hP hS (lv_sub hl [2, 3, 1, 0] rfl)
  have J48 : ∀  (H : Heap) (locs : List Loc) (ls : Array Slot), mf_Mo_obeys_0 v0 a2 a3 = mf_Mo_obeys_0_j48 v0 a2 a3 → mI b v0 → va_P D vcls (fw_w mCL cA mkd ad v0) H → va_S (fw_A mCL ad) s.heap H locs → lv_has ls 7 [(0, .ref (ad 0 0)), (1, .int (0 : Int32)), (5, .int (1 : Int32)), (6, .int (2 : Int32))] → W p l e (headSpec (Cond.code my_Mo_obeys mb_Mo_obeys 7 none :: vTB) mrm_Mo_obeys).room s m ([.ref (ad 0 0), .int (0 : Int32), .int a2, .int a3] : List Value).toArray below meth c H locs 0 0 (MQ below (fw_Qv D vcls mCL cA mkd ad (mI b) (mf_Mo_obeys_0 v0 a2 a3)) ([.ref (ad 0 0), .int (0 : Int32), .int a2, .int a3] : List Value).toArray s 0 0 (fw_A mCL ad)) (F0 m 72 ls []) := by
    intro  H locs ls hj  hI hP hS hl
    clear J9 J8 J7 J6 J5 J22 J21 J23 J24 J20 J19 J25 J26 J18 J17 J27 J28 J16 J15 J29 J30 J14 J13 J31 J32 J12 J11 J33 J34 J10 J4 J3 J2 J44 J43 J42 J46 J45 J41 J40 J39 J50
    refine lv_iload hx hb md_Mo_obeys_72 (lv_at hl 3 rfl) ?_
    refine lv_iconst (v := (3 : Int32)) hx hb md_Mo_obeys_74 (by decide) ?_
    refine lv_icmp_ge (tgt := 137) hx hb md_Mo_obeys_75 (by decide) (fun c_132 => absurd c_132 (by decide)) (fun _ => ?_)
    refine lv_iload hx hb md_Mo_obeys_78 (lv_at hl 2 rfl) ?_
    refine lv_aload_n hx hb md_Mo_obeys_80 rfl (lv_at hl 0 rfl) ?_
    refine lv_iload_n hx hb md_Mo_obeys_81 rfl (lv_at hl 1 rfl) ?_
    refine lv_iload hx hb md_Mo_obeys_82 (lv_at hl 3 rfl) ?_
    refine fw_cb (va_runV (As := [.int (0 : Int32), .int (2 : Int32)]) (rest := [.int (1 : Int32)]) ⟨hx, hb, hml, hown, hts⟩ (mc_Mo_isGood_0 l hD v0 hI (2 : Int32) (fw_inc (by decide))) (mw_Mo_isGood hts L_Mo_250 ⟨Nat.le_of_ble_eq_true rfl, Nat.le_of_ble_eq_true rfl⟩) (fw_preV hN hK hP (mm_0 (by decide)) (mk_0 0) rfl) rfl rfl hl.1 rfl (lv_room (Nat.le_of_ble_eq_true rfl)) md_Mo_obeys_84 ⟨Nat.le_of_ble_eq_true rfl, Nat.le_of_ble_eq_true rfl⟩) hS (fun r133 H locs zr133 er133 hP hS => ?_)
    refine lv_if_eq (tgt := 127) hx hb md_Mo_obeys_87 (by decide) (fun c_134 => ?_) (fun c_134 => ?_)
    · exact J49  _ _ _ (by rw [hj]; subst er133; simp only [mf_Mo_obeys_0_j48, if_pos c_134])   hI hP hS (lv_sub hl [0, 1, 3] rfl)
    · have h_135 : vp_in (v0 43 0 2) 8 := mp_isGood_0_2 er133 c_134 (hI.1 43 0 2)
      refine lv_aload_n hx hb md_Mo_obeys_90 rfl (lv_at hl 0 rfl) ?_
      refine fw_getr hx hb hts i_Mo hown hK hP (mm_0 (by decide)) (mk_0 0) rfl 2 (by decide) (hts _ L_Mo_16) (fun _ h9 => h9) rfl md_Mo_obeys_91 ?_
      refine lv_aload_n hx hb md_Mo_obeys_94 rfl (lv_at hl 0 rfl) ?_
      refine fw_getr hx hb hts i_Mo hown hK hP (mm_0 (by decide)) (mk_0 0) rfl 42 (by decide) (hts _ L_Mo_134) (fun _ h9 => h9) rfl md_Mo_obeys_95 ?_
      refine lv_iconst (v := (3 : Int32)) hx hb md_Mo_obeys_98 (by decide) ?_
      refine lv_iload_n hx hb md_Mo_obeys_99 rfl (lv_at hl 1 rfl) ?_
      refine lv_imul hx hb md_Mo_obeys_100 ?_
      refine fw_top (y := (0 : Int32)) (by decide) ?_
      refine lv_iload hx hb md_Mo_obeys_101 (lv_at hl 3 rfl) ?_
      refine lv_iadd hx hb md_Mo_obeys_103 ?_
      refine fw_top (y := (2 : Int32)) (by decide) ?_
      refine fw_iald hx hb hK hP (mm_43 (by decide)) (mk_43 0) 0 rfl (j := 2) (by decide) (fw_inc (by decide)) md_Mo_obeys_104 ?_
      have h_136 : vp_in ((v0 43 0 2) + 1) 9 := hI.1 43 0 (2)
      refine fw_zald hx hb hK hP (mm_3 (by decide)) (mk_3 0) 1 rfl (j := (v0 43 0 2).toNatClampNeg) rfl h_135 md_Mo_obeys_105 ?_
      refine lv_if_eq (tgt := 127) hx hb md_Mo_obeys_106 (by decide) (fun c_137 => ?_) (fun c_137 => ?_)
      · exact J49  _ _ _ (by rw [hj]; subst er133; simp only [mf_Mo_obeys_0_j48, if_neg c_134, if_pos c_137])   hI hP hS (lv_sub hl [0, 1, 3] rfl)
      · refine lv_aload_n hx hb md_Mo_obeys_109 rfl (lv_at hl 0 rfl) ?_
        refine fw_getr hx hb hts i_Mo hown hK hP (mm_0 (by decide)) (mk_0 0) rfl 43 (by decide) (hts _ L_Mo_137) (fun _ h9 => h9) rfl md_Mo_obeys_110 ?_
        refine lv_iconst (v := (3 : Int32)) hx hb md_Mo_obeys_113 (by decide) ?_
        refine lv_iload_n hx hb md_Mo_obeys_114 rfl (lv_at hl 1 rfl) ?_
        refine lv_imul hx hb md_Mo_obeys_115 ?_
        refine fw_top (y := (0 : Int32)) (by decide) ?_
        refine lv_iload hx hb md_Mo_obeys_116 (lv_at hl 3 rfl) ?_
        refine lv_iadd hx hb md_Mo_obeys_118 ?_
        refine fw_top (y := (2 : Int32)) (by decide) ?_
        refine fw_iald hx hb hK hP (mm_44 (by decide)) (mk_44 0) 0 rfl (j := 2) (by decide) (fw_inc (by decide)) md_Mo_obeys_119 ?_
        refine lv_if_ge (tgt := 127) hx hb md_Mo_obeys_120 (by decide) (fun c_138 => ?_) (fun c_138 => ?_)
        · exact J49  _ _ _ (by rw [hj]; subst er133; simp only [mf_Mo_obeys_0_j48, if_neg c_134, if_neg c_137, if_pos c_138])   hI hP hS (lv_sub hl [0, 1, 3] rfl)
        · refine lv_iconst (v := (1 : Int32)) hx hb md_Mo_obeys_123 (by decide) ?_
          refine lv_goto (tgt := 128) hx hb md_Mo_obeys_124 (by decide) ?_
          exact J51  _ _ _ (by rw [hj]; subst er133; simp only [mf_Mo_obeys_0_j48, if_neg c_134, if_neg c_137, if_neg c_138])   hI hP hS (lv_sub hl [0, 1, 3] rfl)
  have J47 : ∀  (H : Heap) (locs : List Loc) (ls : Array Slot), mf_Mo_obeys_0 v0 a2 a3 = mf_Mo_obeys_0_j47 v0 a2 a3 → mI b v0 → va_P D vcls (fw_w mCL cA mkd ad v0) H → va_S (fw_A mCL ad) s.heap H locs → lv_has ls 7 [(0, .ref (ad 0 0)), (1, .int (0 : Int32)), (6, .int (1 : Int32))] → W p l e (headSpec (Cond.code my_Mo_obeys mb_Mo_obeys 7 none :: vTB) mrm_Mo_obeys).room s m ([.ref (ad 0 0), .int (0 : Int32), .int a2, .int a3] : List Value).toArray below meth c H locs 0 0 (MQ below (fw_Qv D vcls mCL cA mkd ad (mI b) (mf_Mo_obeys_0 v0 a2 a3)) ([.ref (ad 0 0), .int (0 : Int32), .int a2, .int a3] : List Value).toArray s 0 0 (fw_A mCL ad)) (F0 m 128 ls [.int (1 : Int32), .int (0 : Int32)]) := by
    intro  H locs ls hj  hI hP hS hl
    clear J9 J8 J7 J6 J5 J22 J21 J23 J24 J20 J19 J25 J26 J18 J17 J27 J28 J16 J15 J29 J30 J14 J13 J31 J32 J12 J11 J33 J34 J10 J4 J3 J2 J44 J43 J42 J46 J45 J41 J40 J39 J50 J49 J51
    refine lv_ior hx hb md_Mo_obeys_128 ?_
    refine fw_top (y := (1 : Int32)) (by decide) ?_
    refine lv_istore (lv' := [(5, .int (1 : Int32)), (0, .ref (ad 0 0)), (1, .int (0 : Int32)), (6, .int (1 : Int32))]) hx hb md_Mo_obeys_129 hl (by decide) rfl (fun ls hl => ?_)
    refine lv_iinc (v := (2 : Int32)) (lv' := [(6, .int (2 : Int32)), (5, .int (1 : Int32)), (0, .ref (ad 0 0)), (1, .int (0 : Int32))]) hx hb md_Mo_obeys_131 hl (k := 3) rfl (by decide) (by decide) rfl (fun ls hl => ?_)
    refine lv_goto (tgt := 72) hx hb md_Mo_obeys_134 (by decide) ?_
    exact J48  _ _ _ (by rw [hj]; simp only [mf_Mo_obeys_0_j47])   hI hP hS (lv_sub hl [2, 3, 1, 0] rfl)
  have J38 : ∀  (H : Heap) (locs : List Loc) (ls : Array Slot), mf_Mo_obeys_0 v0 a2 a3 = mf_Mo_obeys_0_j38 v0 a2 a3 → mI b v0 → va_P D vcls (fw_w mCL cA mkd ad v0) H → va_S (fw_A mCL ad) s.heap H locs → lv_has ls 7 [(0, .ref (ad 0 0)), (1, .int (0 : Int32)), (5, .int (0 : Int32)), (6, .int (1 : Int32))] → W p l e (headSpec (Cond.code my_Mo_obeys mb_Mo_obeys 7 none :: vTB) mrm_Mo_obeys).room s m ([.ref (ad 0 0), .int (0 : Int32), .int a2, .int a3] : List Value).toArray below meth c H locs 0 0 (MQ below (fw_Qv D vcls mCL cA mkd ad (mI b) (mf_Mo_obeys_0 v0 a2 a3)) ([.ref (ad 0 0), .int (0 : Int32), .int a2, .int a3] : List Value).toArray s 0 0 (fw_A mCL ad)) (F0 m 72 ls []) := by
    intro  H locs ls hj  hI hP hS hl
    clear J9 J8 J7 J6 J5 J22 J21 J23 J24 J20 J19 J25 J26 J18 J17 J27 J28 J16 J15 J29 J30 J14 J13 J31 J32 J12 J11 J33 J34 J10 J4 J3 J2 J44 J43 J42 J46 J45 J41 J40 J50 J49 J51 J48
    refine lv_iload hx hb md_Mo_obeys_72 (lv_at hl 3 rfl) ?_
    refine lv_iconst (v := (3 : Int32)) hx hb md_Mo_obeys_74 (by decide) ?_
    refine lv_icmp_ge (tgt := 137) hx hb md_Mo_obeys_75 (by decide) (fun c_108 => absurd c_108 (by decide)) (fun _ => ?_)
    refine lv_iload hx hb md_Mo_obeys_78 (lv_at hl 2 rfl) ?_
    refine lv_aload_n hx hb md_Mo_obeys_80 rfl (lv_at hl 0 rfl) ?_
    refine lv_iload_n hx hb md_Mo_obeys_81 rfl (lv_at hl 1 rfl) ?_
    refine lv_iload hx hb md_Mo_obeys_82 (lv_at hl 3 rfl) ?_
    refine fw_cb (va_runV (As := [.int (0 : Int32), .int (1 : Int32)]) (rest := [.int (0 : Int32)]) ⟨hx, hb, hml, hown, hts⟩ (mc_Mo_isGood_0 l hD v0 hI (1 : Int32) (fw_inc (by decide))) (mw_Mo_isGood hts L_Mo_250 ⟨Nat.le_of_ble_eq_true rfl, Nat.le_of_ble_eq_true rfl⟩) (fw_preV hN hK hP (mm_0 (by decide)) (mk_0 0) rfl) rfl rfl hl.1 rfl (lv_room (Nat.le_of_ble_eq_true rfl)) md_Mo_obeys_84 ⟨Nat.le_of_ble_eq_true rfl, Nat.le_of_ble_eq_true rfl⟩) hS (fun r109 H locs zr109 er109 hP hS => ?_)
    refine lv_if_eq (tgt := 127) hx hb md_Mo_obeys_87 (by decide) (fun c_110 => ?_) (fun c_110 => ?_)
    · exact J39  _ _ _ (by rw [hj]; subst er109; simp only [mf_Mo_obeys_0_j38, if_pos c_110])   hI hP hS (lv_sub hl [0, 1, 3] rfl)
    · have h_128 : vp_in (v0 43 0 1) 8 := mp_isGood_0_1 er109 c_110 (hI.1 43 0 1)
      refine lv_aload_n hx hb md_Mo_obeys_90 rfl (lv_at hl 0 rfl) ?_
      refine fw_getr hx hb hts i_Mo hown hK hP (mm_0 (by decide)) (mk_0 0) rfl 2 (by decide) (hts _ L_Mo_16) (fun _ h9 => h9) rfl md_Mo_obeys_91 ?_
      refine lv_aload_n hx hb md_Mo_obeys_94 rfl (lv_at hl 0 rfl) ?_
      refine fw_getr hx hb hts i_Mo hown hK hP (mm_0 (by decide)) (mk_0 0) rfl 42 (by decide) (hts _ L_Mo_134) (fun _ h9 => h9) rfl md_Mo_obeys_95 ?_
      refine lv_iconst (v := (3 : Int32)) hx hb md_Mo_obeys_98 (by decide) ?_
      refine lv_iload_n hx hb md_Mo_obeys_99 rfl (lv_at hl 1 rfl) ?_
      refine lv_imul hx hb md_Mo_obeys_100 ?_
      refine fw_top (y := (0 : Int32)) (by decide) ?_
      refine lv_iload hx hb md_Mo_obeys_101 (lv_at hl 3 rfl) ?_
      refine lv_iadd hx hb md_Mo_obeys_103 ?_
      refine fw_top (y := (1 : Int32)) (by decide) ?_
      refine fw_iald hx hb hK hP (mm_43 (by decide)) (mk_43 0) 0 rfl (j := 1) (by decide) (fw_inc (by decide)) md_Mo_obeys_104 ?_
      have h_129 : vp_in ((v0 43 0 1) + 1) 9 := hI.1 43 0 (1)
      refine fw_zald hx hb hK hP (mm_3 (by decide)) (mk_3 0) 1 rfl (j := (v0 43 0 1).toNatClampNeg) rfl h_128 md_Mo_obeys_105 ?_
      refine lv_if_eq (tgt := 127) hx hb md_Mo_obeys_106 (by decide) (fun c_130 => ?_) (fun c_130 => ?_)
      · exact J39  _ _ _ (by rw [hj]; subst er109; simp only [mf_Mo_obeys_0_j38, if_neg c_110, if_pos c_130])   hI hP hS (lv_sub hl [0, 1, 3] rfl)
      · refine lv_aload_n hx hb md_Mo_obeys_109 rfl (lv_at hl 0 rfl) ?_
        refine fw_getr hx hb hts i_Mo hown hK hP (mm_0 (by decide)) (mk_0 0) rfl 43 (by decide) (hts _ L_Mo_137) (fun _ h9 => h9) rfl md_Mo_obeys_110 ?_
        refine lv_iconst (v := (3 : Int32)) hx hb md_Mo_obeys_113 (by decide) ?_
        refine lv_iload_n hx hb md_Mo_obeys_114 rfl (lv_at hl 1 rfl) ?_
        refine lv_imul hx hb md_Mo_obeys_115 ?_
        refine fw_top (y := (0 : Int32)) (by decide) ?_
        refine lv_iload hx hb md_Mo_obeys_116 (lv_at hl 3 rfl) ?_
        refine lv_iadd hx hb md_Mo_obeys_118 ?_
        refine fw_top (y := (1 : Int32)) (by decide) ?_
        refine fw_iald hx hb hK hP (mm_44 (by decide)) (mk_44 0) 0 rfl (j := 1) (by decide) (fw_inc (by decide)) md_Mo_obeys_119 ?_
        refine lv_if_ge (tgt := 127) hx hb md_Mo_obeys_120 (by decide) (fun c_131 => ?_) (fun c_131 => ?_)
        · exact J39  _ _ _ (by rw [hj]; subst er109; simp only [mf_Mo_obeys_0_j38, if_neg c_110, if_neg c_130, if_pos c_131])   hI hP hS (lv_sub hl [0, 1, 3] rfl)
        · refine lv_iconst (v := (1 : Int32)) hx hb md_Mo_obeys_123 (by decide) ?_
          refine lv_goto (tgt := 128) hx hb md_Mo_obeys_124 (by decide) ?_
          exact J47  _ _ _ (by rw [hj]; subst er109; simp only [mf_Mo_obeys_0_j38, if_neg c_110, if_neg c_130, if_neg c_131])   hI hP hS (lv_sub hl [0, 1, 3] rfl)
  have J37 : ∀  (H : Heap) (locs : List Loc) (ls : Array Slot), mf_Mo_obeys_0 v0 a2 a3 = mf_Mo_obeys_0_j37 v0 a2 a3 → mI b v0 → va_P D vcls (fw_w mCL cA mkd ad v0) H → va_S (fw_A mCL ad) s.heap H locs → lv_has ls 7 [(0, .ref (ad 0 0)), (1, .int (0 : Int32)), (6, .int (0 : Int32))] → W p l e (headSpec (Cond.code my_Mo_obeys mb_Mo_obeys 7 none :: vTB) mrm_Mo_obeys).room s m ([.ref (ad 0 0), .int (0 : Int32), .int a2, .int a3] : List Value).toArray below meth c H locs 0 0 (MQ below (fw_Qv D vcls mCL cA mkd ad (mI b) (mf_Mo_obeys_0 v0 a2 a3)) ([.ref (ad 0 0), .int (0 : Int32), .int a2, .int a3] : List Value).toArray s 0 0 (fw_A mCL ad)) (F0 m 128 ls [.int (0 : Int32), .int (0 : Int32)]) := by
    intro  H locs ls hj  hI hP hS hl
    clear J9 J8 J7 J6 J5 J22 J21 J23 J24 J20 J19 J25 J26 J18 J17 J27 J28 J16 J15 J29 J30 J14 J13 J31 J32 J12 J11 J33 J34 J10 J4 J3 J2 J44 J43 J42 J46 J45 J41 J40 J39 J50 J49 J51 J48 J47
    refine lv_ior hx hb md_Mo_obeys_128 ?_
    refine fw_top (y := (0 : Int32)) (by decide) ?_
    refine lv_istore (lv' := [(5, .int (0 : Int32)), (0, .ref (ad 0 0)), (1, .int (0 : Int32)), (6, .int (0 : Int32))]) hx hb md_Mo_obeys_129 hl (by decide) rfl (fun ls hl => ?_)
    refine lv_iinc (v := (1 : Int32)) (lv' := [(6, .int (1 : Int32)), (5, .int (0 : Int32)), (0, .ref (ad 0 0)), (1, .int (0 : Int32))]) hx hb md_Mo_obeys_131 hl (k := 3) rfl (by decide) (by decide) rfl (fun ls hl => ?_)
    refine lv_goto (tgt := 72) hx hb md_Mo_obeys_134 (by decide) ?_
    exact J38  _ _ _ (by rw [hj]; simp only [mf_Mo_obeys_0_j37])   hI hP hS (lv_sub hl [2, 3, 1, 0] rfl)
  have J36 : ∀  (H : Heap) (locs : List Loc) (ls : Array Slot), mf_Mo_obeys_0 v0 a2 a3 = mf_Mo_obeys_0_j36 v0 a2 a3 → mI b v0 → va_P D vcls (fw_w mCL cA mkd ad v0) H → va_S (fw_A mCL ad) s.heap H locs → lv_has ls 7 [(0, .ref (ad 0 0)), (1, .int (0 : Int32)), (6, .int (0 : Int32))] → W p l e (headSpec (Cond.code my_Mo_obeys mb_Mo_obeys 7 none :: vTB) mrm_Mo_obeys).room s m ([.ref (ad 0 0), .int (0 : Int32), .int a2, .int a3] : List Value).toArray below meth c H locs 0 0 (MQ below (fw_Qv D vcls mCL cA mkd ad (mI b) (mf_Mo_obeys_0 v0 a2 a3)) ([.ref (ad 0 0), .int (0 : Int32), .int a2, .int a3] : List Value).toArray s 0 0 (fw_A mCL ad)) (F0 m 127 ls [.int (0 : Int32)]) := by
    intro  H locs ls hj  hI hP hS hl
    clear J9 J8 J7 J6 J5 J22 J21 J23 J24 J20 J19 J25 J26 J18 J17 J27 J28 J16 J15 J29 J30 J14 J13 J31 J32 J12 J11 J33 J34 J10 J4 J3 J2 J44 J43 J42 J46 J45 J41 J40 J39 J50 J49 J51 J48 J47 J38
    refine lv_iconst (v := (0 : Int32)) hx hb md_Mo_obeys_127 (by decide) ?_
    exact J37  _ _ _ (by rw [hj]; simp only [mf_Mo_obeys_0_j36])   hI hP hS (lv_sub hl [0, 1, 2] rfl)
  have J55 : ∀  (H : Heap) (locs : List Loc) (ls : Array Slot), mf_Mo_obeys_0 v0 a2 a3 = mf_Mo_obeys_0_j55 v0 a2 a3 → mI b v0 → va_P D vcls (fw_w mCL cA mkd ad v0) H → va_S (fw_A mCL ad) s.heap H locs → lv_has ls 7 [(0, .ref (ad 0 0)), (1, .int (0 : Int32)), (6, .int (1 : Int32))] → W p l e (headSpec (Cond.code my_Mo_obeys mb_Mo_obeys 7 none :: vTB) mrm_Mo_obeys).room s m ([.ref (ad 0 0), .int (0 : Int32), .int a2, .int a3] : List Value).toArray below meth c H locs 0 0 (MQ below (fw_Qv D vcls mCL cA mkd ad (mI b) (mf_Mo_obeys_0 v0 a2 a3)) ([.ref (ad 0 0), .int (0 : Int32), .int a2, .int a3] : List Value).toArray s 0 0 (fw_A mCL ad)) (F0 m 128 ls [.int (0 : Int32), .int (1 : Int32)]) := by
    intro  H locs ls hj  hI hP hS hl
    clear J9 J8 J7 J6 J5 J22 J21 J23 J24 J20 J19 J25 J26 J18 J17 J27 J28 J16 J15 J29 J30 J14 J13 J31 J32 J12 J11 J33 J34 J10 J4 J3 J2 J44 J43 J42 J46 J45 J41 J40 J39 J50 J49 J51 J47 J38 J37 J36
    refine lv_ior hx hb md_Mo_obeys_128 ?_
    refine fw_top (y := (1 : Int32)) (by decide) ?_
    refine lv_istore (lv' := [(5, .int (1 : Int32)), (0, .ref (ad 0 0)), (1, .int (0 : Int32)), (6, .int (1 : Int32))]) hx hb md_Mo_obeys_129 hl (by decide) rfl (fun ls hl => ?_)
    refine lv_iinc (v := (2 : Int32)) (lv' := [(6, .int (2 : Int32)), (5, .int (1 : Int32)), (0, .ref (ad 0 0)), (1, .int (0 : Int32))]) hx hb md_Mo_obeys_131 hl (k := 3) rfl (by decide) (by decide) rfl (fun ls hl => ?_)
    refine lv_goto (tgt := 72) hx hb md_Mo_obeys_134 (by decide) ?_
    exact J48  _ _ _ (by rw [hj]; simp only [mf_Mo_obeys_0_j55])   hI hP hS (lv_sub hl [2, 3, 1, 0] rfl)
  have J54 : ∀  (H : Heap) (locs : List Loc) (ls : Array Slot), mf_Mo_obeys_0 v0 a2 a3 = mf_Mo_obeys_0_j54 v0 a2 a3 → mI b v0 → va_P D vcls (fw_w mCL cA mkd ad v0) H → va_S (fw_A mCL ad) s.heap H locs → lv_has ls 7 [(0, .ref (ad 0 0)), (1, .int (0 : Int32)), (6, .int (1 : Int32))] → W p l e (headSpec (Cond.code my_Mo_obeys mb_Mo_obeys 7 none :: vTB) mrm_Mo_obeys).room s m ([.ref (ad 0 0), .int (0 : Int32), .int a2, .int a3] : List Value).toArray below meth c H locs 0 0 (MQ below (fw_Qv D vcls mCL cA mkd ad (mI b) (mf_Mo_obeys_0 v0 a2 a3)) ([.ref (ad 0 0), .int (0 : Int32), .int a2, .int a3] : List Value).toArray s 0 0 (fw_A mCL ad)) (F0 m 127 ls [.int (1 : Int32)]) := by
    intro  H locs ls hj  hI hP hS hl
    clear J9 J8 J7 J6 J5 J22 J21 J23 J24 J20 J19 J25 J26 J18 J17 J27 J28 J16 J15 J29 J30 J14 J13 J31 J32 J12 J11 J33 J34 J10 J4 J3 J2 J44 J43 J42 J46 J45 J41 J40 J39 J50 J49 J51 J48 J47 J38 J37 J36
    refine lv_iconst (v := (0 : Int32)) hx hb md_Mo_obeys_127 (by decide) ?_
    exact J55  _ _ _ (by rw [hj]; simp only [mf_Mo_obeys_0_j54])   hI hP hS (lv_sub hl [0, 1, 2] rfl)
  have J56 : ∀  (H : Heap) (locs : List Loc) (ls : Array Slot), mf_Mo_obeys_0 v0 a2 a3 = mf_Mo_obeys_0_j56 v0 a2 a3 → mI b v0 → va_P D vcls (fw_w mCL cA mkd ad v0) H → va_S (fw_A mCL ad) s.heap H locs → lv_has ls 7 [(0, .ref (ad 0 0)), (1, .int (0 : Int32)), (6, .int (1 : Int32))] → W p l e (headSpec (Cond.code my_Mo_obeys mb_Mo_obeys 7 none :: vTB) mrm_Mo_obeys).room s m ([.ref (ad 0 0), .int (0 : Int32), .int a2, .int a3] : List Value).toArray below meth c H locs 0 0 (MQ below (fw_Qv D vcls mCL cA mkd ad (mI b) (mf_Mo_obeys_0 v0 a2 a3)) ([.ref (ad 0 0), .int (0 : Int32), .int a2, .int a3] : List Value).toArray s 0 0 (fw_A mCL ad)) (F0 m 128 ls [.int (1 : Int32), .int (1 : Int32)]) := by
    intro  H locs ls hj  hI hP hS hl
    clear J9 J8 J7 J6 J5 J22 J21 J23 J24 J20 J19 J25 J26 J18 J17 J27 J28 J16 J15 J29 J30 J14 J13 J31 J32 J12 J11 J33 J34 J10 J4 J3 J2 J44 J43 J42 J46 J45 J41 J40 J39 J50 J49 J51 J47 J38 J37 J36 J55 J54
    refine lv_ior hx hb md_Mo_obeys_128 ?_
    refine fw_top (y := (1 : Int32)) (by decide) ?_
    refine lv_istore (lv' := [(5, .int (1 : Int32)), (0, .ref (ad 0 0)), (1, .int (0 : Int32)), (6, .int (1 : Int32))]) hx hb md_Mo_obeys_129 hl (by decide) rfl (fun ls hl => ?_)
    refine lv_iinc (v := (2 : Int32)) (lv' := [(6, .int (2 : Int32)), (5, .int (1 : Int32)), (0, .ref (ad 0 0)), (1, .int (0 : Int32))]) hx hb md_Mo_obeys_131 hl (k := 3) rfl (by decide) (by decide) rfl (fun ls hl => ?_)
    refine lv_goto (tgt := 72) hx hb md_Mo_obeys_134 (by decide) ?_
    exact J48  _ _ _ (by rw [hj]; simp only [mf_Mo_obeys_0_j56])   hI hP hS (lv_sub hl [2, 3, 1, 0] rfl)
  have J53 : ∀  (H : Heap) (locs : List Loc) (ls : Array Slot), mf_Mo_obeys_0 v0 a2 a3 = mf_Mo_obeys_0_j53 v0 a2 a3 → mI b v0 → va_P D vcls (fw_w mCL cA mkd ad v0) H → va_S (fw_A mCL ad) s.heap H locs → lv_has ls 7 [(0, .ref (ad 0 0)), (1, .int (0 : Int32)), (5, .int (1 : Int32)), (6, .int (1 : Int32))] → W p l e (headSpec (Cond.code my_Mo_obeys mb_Mo_obeys 7 none :: vTB) mrm_Mo_obeys).room s m ([.ref (ad 0 0), .int (0 : Int32), .int a2, .int a3] : List Value).toArray below meth c H locs 0 0 (MQ below (fw_Qv D vcls mCL cA mkd ad (mI b) (mf_Mo_obeys_0 v0 a2 a3)) ([.ref (ad 0 0), .int (0 : Int32), .int a2, .int a3] : List Value).toArray s 0 0 (fw_A mCL ad)) (F0 m 72 ls []) := by
    intro  H locs ls hj  hI hP hS hl
    clear J9 J8 J7 J6 J5 J22 J21 J23 J24 J20 J19 J25 J26 J18 J17 J27 J28 J16 J15 J29 J30 J14 J13 J31 J32 J12 J11 J33 J34 J10 J4 J3 J2 J44 J43 J42 J46 J45 J41 J40 J39 J50 J49 J51 J48 J47 J38 J37 J36 J55
    refine lv_iload hx hb md_Mo_obeys_72 (lv_at hl 3 rfl) ?_
    refine lv_iconst (v := (3 : Int32)) hx hb md_Mo_obeys_74 (by decide) ?_
    refine lv_icmp_ge (tgt := 137) hx hb md_Mo_obeys_75 (by decide) (fun c_143 => absurd c_143 (by decide)) (fun _ => ?_)
    refine lv_iload hx hb md_Mo_obeys_78 (lv_at hl 2 rfl) ?_
    refine lv_aload_n hx hb md_Mo_obeys_80 rfl (lv_at hl 0 rfl) ?_
    refine lv_iload_n hx hb md_Mo_obeys_81 rfl (lv_at hl 1 rfl) ?_
    refine lv_iload hx hb md_Mo_obeys_82 (lv_at hl 3 rfl) ?_
    refine fw_cb (va_runV (As := [.int (0 : Int32), .int (1 : Int32)]) (rest := [.int (1 : Int32)]) ⟨hx, hb, hml, hown, hts⟩ (mc_Mo_isGood_0 l hD v0 hI (1 : Int32) (fw_inc (by decide))) (mw_Mo_isGood hts L_Mo_250 ⟨Nat.le_of_ble_eq_true rfl, Nat.le_of_ble_eq_true rfl⟩) (fw_preV hN hK hP (mm_0 (by decide)) (mk_0 0) rfl) rfl rfl hl.1 rfl (lv_room (Nat.le_of_ble_eq_true rfl)) md_Mo_obeys_84 ⟨Nat.le_of_ble_eq_true rfl, Nat.le_of_ble_eq_true rfl⟩) hS (fun r144 H locs zr144 er144 hP hS => ?_)
    refine lv_if_eq (tgt := 127) hx hb md_Mo_obeys_87 (by decide) (fun c_145 => ?_) (fun c_145 => ?_)
    · exact J54  _ _ _ (by rw [hj]; subst er144; simp only [mf_Mo_obeys_0_j53, if_pos c_145])   hI hP hS (lv_sub hl [0, 1, 3] rfl)
    · have h_146 : vp_in (v0 43 0 1) 8 := mp_isGood_0_1 er144 c_145 (hI.1 43 0 1)
      refine lv_aload_n hx hb md_Mo_obeys_90 rfl (lv_at hl 0 rfl) ?_
      refine fw_getr hx hb hts i_Mo hown hK hP (mm_0 (by decide)) (mk_0 0) rfl 2 (by decide) (hts _ L_Mo_16) (fun _ h9 => h9) rfl md_Mo_obeys_91 ?_
      refine lv_aload_n hx hb md_Mo_obeys_94 rfl (lv_at hl 0 rfl) ?_
      refine fw_getr hx hb hts i_Mo hown hK hP (mm_0 (by decide)) (mk_0 0) rfl 42 (by decide) (hts _ L_Mo_134) (fun _ h9 => h9) rfl md_Mo_obeys_95 ?_
      refine lv_iconst (v := (3 : Int32)) hx hb md_Mo_obeys_98 (by decide) ?_
      refine lv_iload_n hx hb md_Mo_obeys_99 rfl (lv_at hl 1 rfl) ?_
      refine lv_imul hx hb md_Mo_obeys_100 ?_
      refine fw_top (y := (0 : Int32)) (by decide) ?_
      refine lv_iload hx hb md_Mo_obeys_101 (lv_at hl 3 rfl) ?_
      refine lv_iadd hx hb md_Mo_obeys_103 ?_
      refine fw_top (y := (1 : Int32)) (by decide) ?_
      refine fw_iald hx hb hK hP (mm_43 (by decide)) (mk_43 0) 0 rfl (j := 1) (by decide) (fw_inc (by decide)) md_Mo_obeys_104 ?_
      have h_147 : vp_in ((v0 43 0 1) + 1) 9 := hI.1 43 0 (1)
      refine fw_zald hx hb hK hP (mm_3 (by decide)) (mk_3 0) 1 rfl (j := (v0 43 0 1).toNatClampNeg) rfl h_146 md_Mo_obeys_105 ?_
      refine lv_if_eq (tgt := 127) hx hb md_Mo_obeys_106 (by decide) (fun c_148 => ?_) (fun c_148 => ?_)
      · exact J54  _ _ _ (by rw [hj]; subst er144; simp only [mf_Mo_obeys_0_j53, if_neg c_145, if_pos c_148])   hI hP hS (lv_sub hl [0, 1, 3] rfl)
      · refine lv_aload_n hx hb md_Mo_obeys_109 rfl (lv_at hl 0 rfl) ?_
        refine fw_getr hx hb hts i_Mo hown hK hP (mm_0 (by decide)) (mk_0 0) rfl 43 (by decide) (hts _ L_Mo_137) (fun _ h9 => h9) rfl md_Mo_obeys_110 ?_
        refine lv_iconst (v := (3 : Int32)) hx hb md_Mo_obeys_113 (by decide) ?_
        refine lv_iload_n hx hb md_Mo_obeys_114 rfl (lv_at hl 1 rfl) ?_
        refine lv_imul hx hb md_Mo_obeys_115 ?_
        refine fw_top (y := (0 : Int32)) (by decide) ?_
        refine lv_iload hx hb md_Mo_obeys_116 (lv_at hl 3 rfl) ?_
        refine lv_iadd hx hb md_Mo_obeys_118 ?_
        refine fw_top (y := (1 : Int32)) (by decide) ?_
        refine fw_iald hx hb hK hP (mm_44 (by decide)) (mk_44 0) 0 rfl (j := 1) (by decide) (fw_inc (by decide)) md_Mo_obeys_119 ?_
        refine lv_if_ge (tgt := 127) hx hb md_Mo_obeys_120 (by decide) (fun c_149 => ?_) (fun c_149 => ?_)
        · exact J54  _ _ _ (by rw [hj]; subst er144; simp only [mf_Mo_obeys_0_j53, if_neg c_145, if_neg c_148, if_pos c_149])   hI hP hS (lv_sub hl [0, 1, 3] rfl)
        · refine lv_iconst (v := (1 : Int32)) hx hb md_Mo_obeys_123 (by decide) ?_
          refine lv_goto (tgt := 128) hx hb md_Mo_obeys_124 (by decide) ?_
          exact J56  _ _ _ (by rw [hj]; subst er144; simp only [mf_Mo_obeys_0_j53, if_neg c_145, if_neg c_148, if_neg c_149])   hI hP hS (lv_sub hl [0, 1, 3] rfl)
  have J52 : ∀  (H : Heap) (locs : List Loc) (ls : Array Slot), mf_Mo_obeys_0 v0 a2 a3 = mf_Mo_obeys_0_j52 v0 a2 a3 → mI b v0 → va_P D vcls (fw_w mCL cA mkd ad v0) H → va_S (fw_A mCL ad) s.heap H locs → lv_has ls 7 [(0, .ref (ad 0 0)), (1, .int (0 : Int32)), (6, .int (0 : Int32))] → W p l e (headSpec (Cond.code my_Mo_obeys mb_Mo_obeys 7 none :: vTB) mrm_Mo_obeys).room s m ([.ref (ad 0 0), .int (0 : Int32), .int a2, .int a3] : List Value).toArray below meth c H locs 0 0 (MQ below (fw_Qv D vcls mCL cA mkd ad (mI b) (mf_Mo_obeys_0 v0 a2 a3)) ([.ref (ad 0 0), .int (0 : Int32), .int a2, .int a3] : List Value).toArray s 0 0 (fw_A mCL ad)) (F0 m 128 ls [.int (1 : Int32), .int (0 : Int32)]) := by
    intro  H locs ls hj  hI hP hS hl
    clear J9 J8 J7 J6 J5 J22 J21 J23 J24 J20 J19 J25 J26 J18 J17 J27 J28 J16 J15 J29 J30 J14 J13 J31 J32 J12 J11 J33 J34 J10 J4 J3 J2 J44 J43 J42 J46 J45 J41 J40 J39 J50 J49 J51 J48 J47 J38 J37 J36 J55 J54 J56
    refine lv_ior hx hb md_Mo_obeys_128 ?_
    refine fw_top (y := (1 : Int32)) (by decide) ?_
    refine lv_istore (lv' := [(5, .int (1 : Int32)), (0, .ref (ad 0 0)), (1, .int (0 : Int32)), (6, .int (0 : Int32))]) hx hb md_Mo_obeys_129 hl (by decide) rfl (fun ls hl => ?_)
    refine lv_iinc (v := (1 : Int32)) (lv' := [(6, .int (1 : Int32)), (5, .int (1 : Int32)), (0, .ref (ad 0 0)), (1, .int (0 : Int32))]) hx hb md_Mo_obeys_131 hl (k := 3) rfl (by decide) (by decide) rfl (fun ls hl => ?_)
    refine lv_goto (tgt := 72) hx hb md_Mo_obeys_134 (by decide) ?_
    exact J53  _ _ _ (by rw [hj]; simp only [mf_Mo_obeys_0_j52])   hI hP hS (lv_sub hl [2, 3, 1, 0] rfl)
  have J35 : ∀  (H : Heap) (locs : List Loc) (ls : Array Slot), mf_Mo_obeys_0 v0 a2 a3 = mf_Mo_obeys_0_j35 v0 a2 a3 → mI b v0 → va_P D vcls (fw_w mCL cA mkd ad v0) H → va_S (fw_A mCL ad) s.heap H locs → lv_has ls 7 [(0, .ref (ad 0 0)), (1, .int (0 : Int32)), (5, .int (0 : Int32)), (6, .int (0 : Int32))] → W p l e (headSpec (Cond.code my_Mo_obeys mb_Mo_obeys 7 none :: vTB) mrm_Mo_obeys).room s m ([.ref (ad 0 0), .int (0 : Int32), .int a2, .int a3] : List Value).toArray below meth c H locs 0 0 (MQ below (fw_Qv D vcls mCL cA mkd ad (mI b) (mf_Mo_obeys_0 v0 a2 a3)) ([.ref (ad 0 0), .int (0 : Int32), .int a2, .int a3] : List Value).toArray s 0 0 (fw_A mCL ad)) (F0 m 72 ls []) := by
    intro  H locs ls hj  hI hP hS hl
    clear J9 J8 J7 J6 J5 J22 J21 J23 J24 J20 J19 J25 J26 J18 J17 J27 J28 J16 J15 J29 J30 J14 J13 J31 J32 J12 J11 J33 J34 J10 J4 J3 J2 J44 J43 J42 J46 J45 J41 J40 J39 J50 J49 J51 J48 J47 J38 J37 J55 J54 J56 J53
    refine lv_iload hx hb md_Mo_obeys_72 (lv_at hl 3 rfl) ?_
    refine lv_iconst (v := (3 : Int32)) hx hb md_Mo_obeys_74 (by decide) ?_
    refine lv_icmp_ge (tgt := 137) hx hb md_Mo_obeys_75 (by decide) (fun c_105 => absurd c_105 (by decide)) (fun _ => ?_)
    refine lv_iload hx hb md_Mo_obeys_78 (lv_at hl 2 rfl) ?_
    refine lv_aload_n hx hb md_Mo_obeys_80 rfl (lv_at hl 0 rfl) ?_
    refine lv_iload_n hx hb md_Mo_obeys_81 rfl (lv_at hl 1 rfl) ?_
    refine lv_iload hx hb md_Mo_obeys_82 (lv_at hl 3 rfl) ?_
    refine fw_cb (va_runV (As := [.int (0 : Int32), .int (0 : Int32)]) (rest := [.int (0 : Int32)]) ⟨hx, hb, hml, hown, hts⟩ (mc_Mo_isGood_0 l hD v0 hI (0 : Int32) (fw_inc (by decide))) (mw_Mo_isGood hts L_Mo_250 ⟨Nat.le_of_ble_eq_true rfl, Nat.le_of_ble_eq_true rfl⟩) (fw_preV hN hK hP (mm_0 (by decide)) (mk_0 0) rfl) rfl rfl hl.1 rfl (lv_room (Nat.le_of_ble_eq_true rfl)) md_Mo_obeys_84 ⟨Nat.le_of_ble_eq_true rfl, Nat.le_of_ble_eq_true rfl⟩) hS (fun r106 H locs zr106 er106 hP hS => ?_)
    refine lv_if_eq (tgt := 127) hx hb md_Mo_obeys_87 (by decide) (fun c_107 => ?_) (fun c_107 => ?_)
    · exact J36  _ _ _ (by rw [hj]; subst er106; simp only [mf_Mo_obeys_0_j35, if_pos c_107])   hI hP hS (lv_sub hl [0, 1, 3] rfl)
    · have h_139 : vp_in (v0 43 0 0) 8 := mp_isGood_0_0 er106 c_107 (hI.1 43 0 0)
      refine lv_aload_n hx hb md_Mo_obeys_90 rfl (lv_at hl 0 rfl) ?_
      refine fw_getr hx hb hts i_Mo hown hK hP (mm_0 (by decide)) (mk_0 0) rfl 2 (by decide) (hts _ L_Mo_16) (fun _ h9 => h9) rfl md_Mo_obeys_91 ?_
      refine lv_aload_n hx hb md_Mo_obeys_94 rfl (lv_at hl 0 rfl) ?_
      refine fw_getr hx hb hts i_Mo hown hK hP (mm_0 (by decide)) (mk_0 0) rfl 42 (by decide) (hts _ L_Mo_134) (fun _ h9 => h9) rfl md_Mo_obeys_95 ?_
      refine lv_iconst (v := (3 : Int32)) hx hb md_Mo_obeys_98 (by decide) ?_
      refine lv_iload_n hx hb md_Mo_obeys_99 rfl (lv_at hl 1 rfl) ?_
      refine lv_imul hx hb md_Mo_obeys_100 ?_
      refine fw_top (y := (0 : Int32)) (by decide) ?_
      refine lv_iload hx hb md_Mo_obeys_101 (lv_at hl 3 rfl) ?_
      refine lv_iadd hx hb md_Mo_obeys_103 ?_
      refine fw_top (y := (0 : Int32)) (by decide) ?_
      refine fw_iald hx hb hK hP (mm_43 (by decide)) (mk_43 0) 0 rfl (j := 0) (by decide) (fw_inc (by decide)) md_Mo_obeys_104 ?_
      have h_140 : vp_in ((v0 43 0 0) + 1) 9 := hI.1 43 0 (0)
      refine fw_zald hx hb hK hP (mm_3 (by decide)) (mk_3 0) 1 rfl (j := (v0 43 0 0).toNatClampNeg) rfl h_139 md_Mo_obeys_105 ?_
      refine lv_if_eq (tgt := 127) hx hb md_Mo_obeys_106 (by decide) (fun c_141 => ?_) (fun c_141 => ?_)
      · exact J36  _ _ _ (by rw [hj]; subst er106; simp only [mf_Mo_obeys_0_j35, if_neg c_107, if_pos c_141])   hI hP hS (lv_sub hl [0, 1, 3] rfl)
      · refine lv_aload_n hx hb md_Mo_obeys_109 rfl (lv_at hl 0 rfl) ?_
        refine fw_getr hx hb hts i_Mo hown hK hP (mm_0 (by decide)) (mk_0 0) rfl 43 (by decide) (hts _ L_Mo_137) (fun _ h9 => h9) rfl md_Mo_obeys_110 ?_
        refine lv_iconst (v := (3 : Int32)) hx hb md_Mo_obeys_113 (by decide) ?_
        refine lv_iload_n hx hb md_Mo_obeys_114 rfl (lv_at hl 1 rfl) ?_
        refine lv_imul hx hb md_Mo_obeys_115 ?_
        refine fw_top (y := (0 : Int32)) (by decide) ?_
        refine lv_iload hx hb md_Mo_obeys_116 (lv_at hl 3 rfl) ?_
        refine lv_iadd hx hb md_Mo_obeys_118 ?_
        refine fw_top (y := (0 : Int32)) (by decide) ?_
        refine fw_iald hx hb hK hP (mm_44 (by decide)) (mk_44 0) 0 rfl (j := 0) (by decide) (fw_inc (by decide)) md_Mo_obeys_119 ?_
        refine lv_if_ge (tgt := 127) hx hb md_Mo_obeys_120 (by decide) (fun c_142 => ?_) (fun c_142 => ?_)
        · exact J36  _ _ _ (by rw [hj]; subst er106; simp only [mf_Mo_obeys_0_j35, if_neg c_107, if_neg c_141, if_pos c_142])   hI hP hS (lv_sub hl [0, 1, 3] rfl)
        · refine lv_iconst (v := (1 : Int32)) hx hb md_Mo_obeys_123 (by decide) ?_
          refine lv_goto (tgt := 128) hx hb md_Mo_obeys_124 (by decide) ?_
          exact J52  _ _ _ (by rw [hj]; subst er106; simp only [mf_Mo_obeys_0_j35, if_neg c_107, if_neg c_141, if_neg c_142])   hI hP hS (lv_sub hl [0, 1, 3] rfl)
  have J1 : ∀  (H : Heap) (locs : List Loc) (ls : Array Slot), mf_Mo_obeys_0 v0 a2 a3 = mf_Mo_obeys_0_j1 v0 a2 a3 → mI b v0 → va_P D vcls (fw_w mCL cA mkd ad v0) H → va_S (fw_A mCL ad) s.heap H locs → lv_has ls 7 [(0, .ref (ad 0 0)), (1, .int (0 : Int32)), (2, .int a2), (3, .int a3), (4, .int (v0 28 0 0))] → W p l e (headSpec (Cond.code my_Mo_obeys mb_Mo_obeys 7 none :: vTB) mrm_Mo_obeys).room s m ([.ref (ad 0 0), .int (0 : Int32), .int a2, .int a3] : List Value).toArray below meth c H locs 0 0 (MQ below (fw_Qv D vcls mCL cA mkd ad (mI b) (mf_Mo_obeys_0 v0 a2 a3)) ([.ref (ad 0 0), .int (0 : Int32), .int a2, .int a3] : List Value).toArray s 0 0 (fw_A mCL ad)) (F0 m 54 ls []) := by
    intro  H locs ls hj  hI hP hS hl
    clear J9 J8 J7 J6 J5 J22 J21 J23 J24 J20 J19 J25 J26 J18 J17 J27 J28 J16 J15 J29 J30 J14 J13 J31 J32 J12 J11 J33 J34 J10 J4 J3 J44 J43 J42 J46 J45 J41 J40 J39 J50 J49 J51 J48 J47 J38 J37 J36 J55 J54 J56 J53 J52
    refine lv_iload_n hx hb md_Mo_obeys_54 rfl (lv_at hl 2 rfl) ?_
    refine lv_bipush (v := (8 : Int32)) hx hb md_Mo_obeys_55 (by decide) ?_
    refine lv_icmp_ne (tgt := 188) hx hb md_Mo_obeys_57 (by decide) (fun c_2 => ?_) (fun c_2 => ?_)
    · exact J2  _ _ _ (by rw [hj]; simp only [mf_Mo_obeys_0_j1, if_neg c_2])   hI hP hS (lv_sub hl [0, 1, 2, 3, 4] rfl)
    · refine lv_iload hx hb md_Mo_obeys_60 (lv_at hl 4 rfl) ?_
      refine lv_iconst (v := (1 : Int32)) hx hb md_Mo_obeys_62 (by decide) ?_
      refine lv_icmp_ne (tgt := 188) hx hb md_Mo_obeys_63 (by decide) (fun c_104 => ?_) (fun c_104 => ?_)
      · exact J2  _ _ _ (by rw [hj]; simp only [mf_Mo_obeys_0_j1, if_pos c_2, if_neg c_104])   hI hP hS (lv_sub hl [0, 1, 2, 3, 4] rfl)
      · refine lv_iconst (v := (0 : Int32)) hx hb md_Mo_obeys_66 (by decide) ?_
        refine lv_istore (lv' := [(5, .int (0 : Int32)), (0, .ref (ad 0 0)), (1, .int (0 : Int32)), (2, .int a2), (3, .int a3), (4, .int (v0 28 0 0))]) hx hb md_Mo_obeys_67 hl (by decide) rfl (fun ls hl => ?_)
        refine lv_iconst (v := (0 : Int32)) hx hb md_Mo_obeys_69 (by decide) ?_
        refine lv_istore (lv' := [(6, .int (0 : Int32)), (5, .int (0 : Int32)), (0, .ref (ad 0 0)), (1, .int (0 : Int32)), (2, .int a2), (3, .int a3), (4, .int (v0 28 0 0))]) hx hb md_Mo_obeys_70 hl (by decide) rfl (fun ls hl => ?_)
        exact J35  _ _ _ (by rw [hj]; simp only [mf_Mo_obeys_0_j1, if_pos c_2, if_pos c_104])   hI hP hS (lv_sub hl [2, 3, 1, 0] rfl)
  have J61 : ∀  (H : Heap) (locs : List Loc) (ls : Array Slot), mf_Mo_obeys_0 v0 a2 a3 = mf_Mo_obeys_0_j61 v0 a2 a3 → vp_in a3 3 → mI b v0 → va_P D vcls (fw_w mCL cA mkd ad v0) H → va_S (fw_A mCL ad) s.heap H locs → lv_has ls 7 [(0, .ref (ad 0 0)), (1, .int (0 : Int32)), (2, .int a2), (3, .int a3), (4, .int (v0 28 0 0))] → W p l e (headSpec (Cond.code my_Mo_obeys mb_Mo_obeys 7 none :: vTB) mrm_Mo_obeys).room s m ([.ref (ad 0 0), .int (0 : Int32), .int a2, .int a3] : List Value).toArray below meth c H locs 0 0 (MQ below (fw_Qv D vcls mCL cA mkd ad (mI b) (mf_Mo_obeys_0 v0 a2 a3)) ([.ref (ad 0 0), .int (0 : Int32), .int a2, .int a3] : List Value).toArray s 0 0 (fw_A mCL ad)) (F0 m 387 ls []) := by
    intro  H locs ls hj hc0 hI hP hS hl
    clear J9 J8 J7 J5 J22 J21 J23 J24 J20 J19 J25 J26 J18 J17 J27 J28 J16 J15 J29 J30 J14 J13 J31 J32 J12 J11 J33 J34 J10 J4 J3 J2 J44 J43 J42 J46 J45 J41 J40 J39 J50 J49 J51 J48 J47 J38 J37 J36 J55 J54 J56 J53 J52 J35 J1
    refine lv_iload_n hx hb md_Mo_obeys_387 rfl (lv_at hl 2 rfl) ?_
    refine lv_bipush (v := (15 : Int32)) hx hb md_Mo_obeys_388 (by decide) ?_
    refine lv_icmp_ne (tgt := 496) hx hb md_Mo_obeys_390 (by decide) (fun c_156 => ?_) (fun c_156 => ?_)
    · refine lv_iload_n hx hb md_Mo_obeys_496 rfl (lv_at hl 2 rfl) ?_
      refine lv_bipush (v := (16 : Int32)) hx hb md_Mo_obeys_497 (by decide) ?_
      refine lv_icmp_ne (tgt := 507) hx hb md_Mo_obeys_499 (by decide) (fun c_157 => ?_) (fun c_157 => ?_)
      · exact fw_vret hx hb hr hlocks hS hP hI md_Mo_obeys_507 (by rw [hj]; simp only [mf_Mo_obeys_0_j61, if_neg c_156, if_neg c_157])
      · refine lv_aload_n hx hb md_Mo_obeys_502 rfl (lv_at hl 0 rfl) ?_
        refine lv_iload_n hx hb md_Mo_obeys_503 rfl (lv_at hl 1 rfl) ?_
        refine fw_cv (va_runV (As := [.int (0 : Int32)]) (rest := []) ⟨hx, hb, hml, hown, hts⟩ (mc_Mo_rest_0 l hD v0 hI ) (mw_Mo_rest hts L_Mo_241 ⟨Nat.le_of_ble_eq_true rfl, Nat.le_of_ble_eq_true rfl⟩) (fw_preV hN hK hP (mm_0 (by decide)) (mk_0 0) rfl) rfl rfl hl.1 rfl (lv_room (Nat.le_of_ble_eq_true rfl)) md_Mo_obeys_504 ⟨Nat.le_of_ble_eq_true rfl, Nat.le_of_ble_eq_true rfl⟩) hS (fun v158 H locs ev158 hI hP hS => ?_)
        exact fw_vret hx hb hr hlocks hS hP hI md_Mo_obeys_507 (by rw [hj]; subst ev158; simp only [mf_Mo_obeys_0_j61, if_neg c_156, if_pos c_157])
    · refine lv_iload hx hb md_Mo_obeys_393 (lv_at hl 4 rfl) ?_
      refine lv_iconst (v := (3 : Int32)) hx hb md_Mo_obeys_395 (by decide) ?_
      refine lv_icmp_ne (tgt := 496) hx hb md_Mo_obeys_396 (by decide) (fun c_159 => ?_) (fun c_159 => ?_)
      · refine lv_iload_n hx hb md_Mo_obeys_496 rfl (lv_at hl 2 rfl) ?_
        refine lv_bipush (v := (16 : Int32)) hx hb md_Mo_obeys_497 (by decide) ?_
        refine lv_icmp_ne (tgt := 507) hx hb md_Mo_obeys_499 (by decide) (fun c_160 => ?_) (fun c_160 => ?_)
        · exact fw_vret hx hb hr hlocks hS hP hI md_Mo_obeys_507 (by rw [hj]; simp only [mf_Mo_obeys_0_j61, if_pos c_156, if_neg c_159, if_neg c_160])
        · refine lv_aload_n hx hb md_Mo_obeys_502 rfl (lv_at hl 0 rfl) ?_
          refine lv_iload_n hx hb md_Mo_obeys_503 rfl (lv_at hl 1 rfl) ?_
          refine fw_cv (va_runV (As := [.int (0 : Int32)]) (rest := []) ⟨hx, hb, hml, hown, hts⟩ (mc_Mo_rest_0 l hD v0 hI ) (mw_Mo_rest hts L_Mo_241 ⟨Nat.le_of_ble_eq_true rfl, Nat.le_of_ble_eq_true rfl⟩) (fw_preV hN hK hP (mm_0 (by decide)) (mk_0 0) rfl) rfl rfl hl.1 rfl (lv_room (Nat.le_of_ble_eq_true rfl)) md_Mo_obeys_504 ⟨Nat.le_of_ble_eq_true rfl, Nat.le_of_ble_eq_true rfl⟩) hS (fun v161 H locs ev161 hI hP hS => ?_)
          exact fw_vret hx hb hr hlocks hS hP hI md_Mo_obeys_507 (by rw [hj]; subst ev161; simp only [mf_Mo_obeys_0_j61, if_pos c_156, if_neg c_159, if_pos c_160])
      · refine lv_aload_n hx hb md_Mo_obeys_399 rfl (lv_at hl 0 rfl) ?_
        refine fw_getr hx hb hts i_Mo hown hK hP (mm_0 (by decide)) (mk_0 0) rfl 35 (by decide) (hts _ L_Mo_113) (fun _ h9 => h9) rfl md_Mo_obeys_400 ?_
        refine lv_iload_n hx hb md_Mo_obeys_403 rfl (lv_at hl 1 rfl) ?_
        refine fw_iald hx hb hK hP (mm_36 (by decide)) (mk_36 0) 0 rfl (j := 0) (by decide) (fw_inc (by decide)) md_Mo_obeys_404 ?_
        refine lv_if_le (tgt := 496) hx hb md_Mo_obeys_405 (by decide) (fun c_162 => ?_) (fun c_162 => ?_)
        · refine lv_iload_n hx hb md_Mo_obeys_496 rfl (lv_at hl 2 rfl) ?_
          refine lv_bipush (v := (16 : Int32)) hx hb md_Mo_obeys_497 (by decide) ?_
          refine lv_icmp_ne (tgt := 507) hx hb md_Mo_obeys_499 (by decide) (fun c_163 => ?_) (fun c_163 => ?_)
          · exact fw_vret hx hb hr hlocks hS hP hI md_Mo_obeys_507 (by rw [hj]; simp only [mf_Mo_obeys_0_j61, if_pos c_156, if_pos c_159, if_pos c_162, if_neg c_163])
          · refine lv_aload_n hx hb md_Mo_obeys_502 rfl (lv_at hl 0 rfl) ?_
            refine lv_iload_n hx hb md_Mo_obeys_503 rfl (lv_at hl 1 rfl) ?_
            refine fw_cv (va_runV (As := [.int (0 : Int32)]) (rest := []) ⟨hx, hb, hml, hown, hts⟩ (mc_Mo_rest_0 l hD v0 hI ) (mw_Mo_rest hts L_Mo_241 ⟨Nat.le_of_ble_eq_true rfl, Nat.le_of_ble_eq_true rfl⟩) (fw_preV hN hK hP (mm_0 (by decide)) (mk_0 0) rfl) rfl rfl hl.1 rfl (lv_room (Nat.le_of_ble_eq_true rfl)) md_Mo_obeys_504 ⟨Nat.le_of_ble_eq_true rfl, Nat.le_of_ble_eq_true rfl⟩) hS (fun v164 H locs ev164 hI hP hS => ?_)
            exact fw_vret hx hb hr hlocks hS hP hI md_Mo_obeys_507 (by rw [hj]; subst ev164; simp only [mf_Mo_obeys_0_j61, if_pos c_156, if_pos c_159, if_pos c_162, if_pos c_163])
        · have h_165 : 0 < (v0 37 0 0).toInt := (hI.2.1 0).resolve_left (fun q => q (fw_gt0 c_162))
          refine lv_aload_n hx hb md_Mo_obeys_408 rfl (lv_at hl 0 rfl) ?_
          refine fw_getr hx hb hts i_Mo hown hK hP (mm_0 (by decide)) (mk_0 0) rfl 35 (by decide) (hts _ L_Mo_113) (fun _ h9 => h9) rfl md_Mo_obeys_409 ?_
          refine lv_iload_n hx hb md_Mo_obeys_412 rfl (lv_at hl 1 rfl) ?_
          refine fw_iald hx hb hK hP (mm_36 (by decide)) (mk_36 0) 0 rfl (j := 0) (by decide) (fw_inc (by decide)) md_Mo_obeys_413 ?_
          refine lv_iload_n hx hb md_Mo_obeys_414 rfl (lv_at hl 3 rfl) ?_
          refine lv_icmp_ne (tgt := 496) hx hb md_Mo_obeys_415 (by decide) (fun c_166 => ?_) (fun c_166 => ?_)
          · refine lv_iload_n hx hb md_Mo_obeys_496 rfl (lv_at hl 2 rfl) ?_
            refine lv_bipush (v := (16 : Int32)) hx hb md_Mo_obeys_497 (by decide) ?_
            refine lv_icmp_ne (tgt := 507) hx hb md_Mo_obeys_499 (by decide) (fun c_167 => ?_) (fun c_167 => ?_)
            · exact fw_vret hx hb hr hlocks hS hP hI md_Mo_obeys_507 (by rw [hj]; simp only [mf_Mo_obeys_0_j61, if_pos c_156, if_pos c_159, if_neg c_162, if_neg c_166, if_neg c_167])
            · refine lv_aload_n hx hb md_Mo_obeys_502 rfl (lv_at hl 0 rfl) ?_
              refine lv_iload_n hx hb md_Mo_obeys_503 rfl (lv_at hl 1 rfl) ?_
              refine fw_cv (va_runV (As := [.int (0 : Int32)]) (rest := []) ⟨hx, hb, hml, hown, hts⟩ (mc_Mo_rest_0 l hD v0 hI ) (mw_Mo_rest hts L_Mo_241 ⟨Nat.le_of_ble_eq_true rfl, Nat.le_of_ble_eq_true rfl⟩) (fw_preV hN hK hP (mm_0 (by decide)) (mk_0 0) rfl) rfl rfl hl.1 rfl (lv_room (Nat.le_of_ble_eq_true rfl)) md_Mo_obeys_504 ⟨Nat.le_of_ble_eq_true rfl, Nat.le_of_ble_eq_true rfl⟩) hS (fun v168 H locs ev168 hI hP hS => ?_)
              exact fw_vret hx hb hr hlocks hS hP hI md_Mo_obeys_507 (by rw [hj]; subst ev168; simp only [mf_Mo_obeys_0_j61, if_pos c_156, if_pos c_159, if_neg c_162, if_neg c_166, if_pos c_167])
          · have h_169 : vp_in (v0 36 0 0) 3 := by rw [c_166]; exact hc0
            refine lv_aload_n hx hb md_Mo_obeys_418 rfl (lv_at hl 0 rfl) ?_
            refine fw_getr hx hb hts i_Mo hown hK hP (mm_0 (by decide)) (mk_0 0) rfl 35 (by decide) (hts _ L_Mo_113) (fun _ h9 => h9) rfl md_Mo_obeys_419 ?_
            refine lv_iload_n hx hb md_Mo_obeys_422 rfl (lv_at hl 1 rfl) ?_
            refine lv_iconst (v := (0 : Int32)) hx hb md_Mo_obeys_423 (by decide) ?_
            refine fw_iast hx hb hK hD hP hS (mm_36 (by decide)) (mk_36 0) 0 rfl (j := 0) (by decide) (fw_inc (by decide)) md_Mo_obeys_424 (fun v170 H locs ev170 hP hS => ?_)
            have hI : mI b v170 := by rw [ev170]; exact mI_up hI trivial (Or.inl (by decide))
            refine lv_aload_n hx hb md_Mo_obeys_425 rfl (lv_at hl 0 rfl) ?_
            refine fw_getr hx hb hts i_Mo hown hK hP (mm_0 (by decide)) (mk_0 0) rfl 36 (by decide) (hts _ L_Mo_116) (fun _ h9 => h9) rfl md_Mo_obeys_426 ?_
            refine lv_iload_n hx hb md_Mo_obeys_429 rfl (lv_at hl 1 rfl) ?_
            refine lv_dup2_11 hx hb md_Mo_obeys_430 rfl rfl ?_
            refine fw_iald hx hb hK hP (mm_37 (by decide)) (mk_37 0) 0 rfl (j := 0) (by decide) (fw_inc (by decide)) md_Mo_obeys_431 ?_
            have h_171 : 0 < (v170 37 0 0).toInt := (by rw [ev170, fw_up_c (c := 36) (c' := 37) (by decide)]; exact h_165)
            have h_172 : vp_in (v170 37 0 0) 5 := hI.1 37 0 (0)
            refine lv_iconst (v := (1 : Int32)) hx hb md_Mo_obeys_432 (by decide) ?_
            refine lv_isub hx hb md_Mo_obeys_433 ?_
            refine fw_iast hx hb hK hD hP hS (mm_37 (by decide)) (mk_37 0) 0 rfl (j := 0) (by decide) (fw_inc (by decide)) md_Mo_obeys_434 (fun v173 H locs ev173 hP hS => ?_)
            have hI : mI b v173 := by rw [ev173]; exact mI_up hI (fw_inm (fw_inm1 h_172 h_171) (by decide)) (Or.inl (by rw [ev170, fw_up_s]; decide))
            refine lv_iconst (v := (4 : Int32)) hx hb md_Mo_obeys_435 (by decide) ?_
            refine lv_iload_n hx hb md_Mo_obeys_436 rfl (lv_at hl 1 rfl) ?_
            refine lv_imul hx hb md_Mo_obeys_437 ?_
            refine fw_top (y := (0 : Int32)) (by decide) ?_
            refine lv_istore (lv' := [(5, .int (0 : Int32)), (0, .ref (ad 0 0)), (1, .int (0 : Int32)), (2, .int a2), (3, .int a3), (4, .int (v0 28 0 0))]) hx hb md_Mo_obeys_438 hl (by decide) rfl (fun ls hl => ?_)
            exact J6 v173  _ _ _ (by rw [hj]; subst ev170 ev173; simp only [mf_Mo_obeys_0_j61, if_pos c_156, if_pos c_159, if_neg c_162, if_pos c_166])  (by rw [ev173, fw_up_s]; exact (fw_inm1 h_172 h_171)) hI hP hS (lv_sub hl [1, 2, 0] rfl)
  have J60 : ∀  (H : Heap) (locs : List Loc) (ls : Array Slot), mf_Mo_obeys_0 v0 a2 a3 = mf_Mo_obeys_0_j60 v0 a2 a3 → vp_in a3 3 → mI b v0 → va_P D vcls (fw_w mCL cA mkd ad v0) H → va_S (fw_A mCL ad) s.heap H locs → lv_has ls 7 [(0, .ref (ad 0 0)), (1, .int (0 : Int32)), (2, .int a2), (3, .int a3), (4, .int (v0 28 0 0))] → W p l e (headSpec (Cond.code my_Mo_obeys mb_Mo_obeys 7 none :: vTB) mrm_Mo_obeys).room s m ([.ref (ad 0 0), .int (0 : Int32), .int a2, .int a3] : List Value).toArray below meth c H locs 0 0 (MQ below (fw_Qv D vcls mCL cA mkd ad (mI b) (mf_Mo_obeys_0 v0 a2 a3)) ([.ref (ad 0 0), .int (0 : Int32), .int a2, .int a3] : List Value).toArray s 0 0 (fw_A mCL ad)) (F0 m 275 ls []) := by
    intro  H locs ls hj hc0 hI hP hS hl
    clear J9 J8 J7 J6 J5 J22 J21 J23 J24 J20 J19 J25 J26 J18 J17 J27 J28 J16 J15 J29 J30 J14 J13 J31 J32 J12 J11 J33 J34 J4 J3 J2 J44 J43 J42 J46 J45 J41 J40 J39 J50 J49 J51 J48 J47 J38 J37 J36 J55 J54 J56 J53 J52 J35 J1
    refine lv_iload_n hx hb md_Mo_obeys_275 rfl (lv_at hl 2 rfl) ?_
    refine lv_bipush (v := (12 : Int32)) hx hb md_Mo_obeys_276 (by decide) ?_
    refine lv_icmp_ne (tgt := 387) hx hb md_Mo_obeys_278 (by decide) (fun c_155 => ?_) (fun c_155 => ?_)
    · exact J61  _ _ _ (by rw [hj]; simp only [mf_Mo_obeys_0_j60, if_neg c_155]) hc0  hI hP hS (lv_sub hl [0, 1, 2, 3, 4] rfl)
    · refine lv_iload hx hb md_Mo_obeys_281 (lv_at hl 4 rfl) ?_
      refine lv_iconst (v := (3 : Int32)) hx hb md_Mo_obeys_283 (by decide) ?_
      refine lv_icmp_ne (tgt := 387) hx hb md_Mo_obeys_284 (by decide) (fun c_174 => ?_) (fun c_174 => ?_)
      · exact J61  _ _ _ (by rw [hj]; simp only [mf_Mo_obeys_0_j60, if_pos c_155, if_neg c_174]) hc0  hI hP hS (lv_sub hl [0, 1, 2, 3, 4] rfl)
      · refine lv_iload_n hx hb md_Mo_obeys_287 rfl (lv_at hl 3 rfl) ?_
        refine lv_aload_n hx hb md_Mo_obeys_288 rfl (lv_at hl 0 rfl) ?_
        refine fw_getr hx hb hts i_Mo hown hK hP (mm_0 (by decide)) (mk_0 0) rfl 34 (by decide) (hts _ L_Mo_110) (fun _ h9 => h9) rfl md_Mo_obeys_289 ?_
        refine lv_iload_n hx hb md_Mo_obeys_292 rfl (lv_at hl 1 rfl) ?_
        refine fw_iald hx hb hK hP (mm_35 (by decide)) (mk_35 0) 0 rfl (j := 0) (by decide) (fw_inc (by decide)) md_Mo_obeys_293 ?_
        refine fw_cb (va_runS (As := [.int a3, .int (v0 35 0 0)]) (rest := []) ⟨hx, hb, hml, hown, hts⟩ (mc_Mo_isNewer l hD v0 hI a3 (v0 35 0 0)) (mw_Mo_isNewer hts L_Mo_225 ⟨Nat.le_of_ble_eq_true rfl, Nat.le_of_ble_eq_true rfl⟩) (fw_preS hN hK hP) rfl rfl hl.1 rfl (lv_room (Nat.le_of_ble_eq_true rfl)) md_Mo_obeys_294 ⟨Nat.le_of_ble_eq_true rfl, Nat.le_of_ble_eq_true rfl⟩) hS (fun r175 H locs zr175 er175 hP hS => ?_)
        refine lv_if_eq (tgt := 387) hx hb md_Mo_obeys_297 (by decide) (fun c_176 => ?_) (fun c_176 => ?_)
        · exact J61  _ _ _ (by rw [hj]; subst er175; simp only [mf_Mo_obeys_0_j60, if_pos c_155, if_pos c_174, if_pos c_176]) hc0  hI hP hS (lv_sub hl [0, 1, 2, 3, 4] rfl)
        · refine lv_aload_n hx hb md_Mo_obeys_300 rfl (lv_at hl 0 rfl) ?_
          refine fw_getr hx hb hts i_Mo hown hK hP (mm_0 (by decide)) (mk_0 0) rfl 34 (by decide) (hts _ L_Mo_110) (fun _ h9 => h9) rfl md_Mo_obeys_301 ?_
          refine lv_iload_n hx hb md_Mo_obeys_304 rfl (lv_at hl 1 rfl) ?_
          refine lv_iload_n hx hb md_Mo_obeys_305 rfl (lv_at hl 3 rfl) ?_
          refine fw_iast hx hb hK hD hP hS (mm_35 (by decide)) (mk_35 0) 0 rfl (j := 0) (by decide) (fw_inc (by decide)) md_Mo_obeys_306 (fun v177 H locs ev177 hP hS => ?_)
          have hI : mI b v177 := by rw [ev177]; exact mI_up hI trivial trivial
          refine lv_aload_n hx hb md_Mo_obeys_307 rfl (lv_at hl 0 rfl) ?_
          refine fw_getr hx hb hts i_Mo hown hK hP (mm_0 (by decide)) (mk_0 0) rfl 31 (by decide) (hts _ L_Mo_101) (fun _ h9 => h9) rfl md_Mo_obeys_308 ?_
          refine lv_iload_n hx hb md_Mo_obeys_311 rfl (lv_at hl 1 rfl) ?_
          refine lv_iconst (v := (0 : Int32)) hx hb md_Mo_obeys_312 (by decide) ?_
          refine fw_iast hx hb hK hD hP hS (mm_32 (by decide)) (mk_32 0) 0 rfl (j := 0) (by decide) (fw_inc (by decide)) md_Mo_obeys_313 (fun v178 H locs ev178 hP hS => ?_)
          have hI : mI b v178 := by rw [ev178]; exact mI_up hI trivial trivial
          refine lv_iconst (v := (0 : Int32)) hx hb md_Mo_obeys_314 (by decide) ?_
          refine lv_istore (lv' := [(5, .int (0 : Int32)), (0, .ref (ad 0 0)), (1, .int (0 : Int32)), (2, .int a2), (3, .int a3), (4, .int (v0 28 0 0))]) hx hb md_Mo_obeys_315 hl (by decide) rfl (fun ls hl => ?_)
          exact J10 v178  _ _ _ (by rw [hj]; subst er175 ev177 ev178; simp only [mf_Mo_obeys_0_j60, if_pos c_155, if_pos c_174, if_neg c_176])   hI hP hS (lv_sub hl [1, 2, 0] rfl)
  have J59 : ∀  (H : Heap) (locs : List Loc) (ls : Array Slot), mf_Mo_obeys_0 v0 a2 a3 = mf_Mo_obeys_0_j59 v0 a2 a3 → vp_in a3 3 → mI b v0 → va_P D vcls (fw_w mCL cA mkd ad v0) H → va_S (fw_A mCL ad) s.heap H locs → lv_has ls 7 [(0, .ref (ad 0 0)), (1, .int (0 : Int32)), (2, .int a2), (3, .int a3), (4, .int (v0 28 0 0))] → W p l e (headSpec (Cond.code my_Mo_obeys mb_Mo_obeys 7 none :: vTB) mrm_Mo_obeys).room s m ([.ref (ad 0 0), .int (0 : Int32), .int a2, .int a3] : List Value).toArray below meth c H locs 0 0 (MQ below (fw_Qv D vcls mCL cA mkd ad (mI b) (mf_Mo_obeys_0 v0 a2 a3)) ([.ref (ad 0 0), .int (0 : Int32), .int a2, .int a3] : List Value).toArray s 0 0 (fw_A mCL ad)) (F0 m 211 ls []) := by
    intro  H locs ls hj hc0 hI hP hS hl
    clear J9 J8 J7 J6 J5 J22 J21 J23 J24 J20 J19 J25 J26 J18 J17 J27 J28 J16 J15 J29 J30 J14 J13 J31 J32 J12 J11 J33 J34 J10 J4 J3 J2 J44 J43 J42 J46 J45 J41 J40 J39 J50 J49 J51 J48 J47 J38 J37 J36 J55 J54 J56 J53 J52 J35 J1 J61
    refine lv_iload_n hx hb md_Mo_obeys_211 rfl (lv_at hl 2 rfl) ?_
    refine lv_bipush (v := (11 : Int32)) hx hb md_Mo_obeys_212 (by decide) ?_
    refine lv_icmp_ne (tgt := 275) hx hb md_Mo_obeys_214 (by decide) (fun c_154 => ?_) (fun c_154 => ?_)
    · exact J60  _ _ _ (by rw [hj]; simp only [mf_Mo_obeys_0_j59, if_neg c_154]) hc0  hI hP hS (lv_sub hl [0, 1, 2, 3, 4] rfl)
    · refine lv_iload hx hb md_Mo_obeys_217 (lv_at hl 4 rfl) ?_
      refine lv_iconst (v := (2 : Int32)) hx hb md_Mo_obeys_219 (by decide) ?_
      refine lv_icmp_ne (tgt := 275) hx hb md_Mo_obeys_220 (by decide) (fun c_179 => ?_) (fun c_179 => ?_)
      · exact J60  _ _ _ (by rw [hj]; simp only [mf_Mo_obeys_0_j59, if_pos c_154, if_neg c_179]) hc0  hI hP hS (lv_sub hl [0, 1, 2, 3, 4] rfl)
      · refine lv_aload_n hx hb md_Mo_obeys_223 rfl (lv_at hl 0 rfl) ?_
        refine fw_getr hx hb hts i_Mo hown hK hP (mm_0 (by decide)) (mk_0 0) rfl 27 (by decide) (hts _ L_Mo_89) (fun _ h9 => h9) rfl md_Mo_obeys_224 ?_
        refine lv_iload_n hx hb md_Mo_obeys_227 rfl (lv_at hl 1 rfl) ?_
        refine lv_iconst (v := (3 : Int32)) hx hb md_Mo_obeys_228 (by decide) ?_
        refine fw_iast hx hb hK hD hP hS (mm_28 (by decide)) (mk_28 0) 0 rfl (j := 0) (by decide) (fw_inc (by decide)) md_Mo_obeys_229 (fun v180 H locs ev180 hP hS => ?_)
        have hI : mI b v180 := by rw [ev180]; exact mI_up hI trivial trivial
        refine lv_aload_n hx hb md_Mo_obeys_230 rfl (lv_at hl 0 rfl) ?_
        refine fw_getr hx hb hts i_Mo hown hK hP (mm_0 (by decide)) (mk_0 0) rfl 31 (by decide) (hts _ L_Mo_101) (fun _ h9 => h9) rfl md_Mo_obeys_231 ?_
        refine lv_iload_n hx hb md_Mo_obeys_234 rfl (lv_at hl 1 rfl) ?_
        refine lv_iconst (v := (0 : Int32)) hx hb md_Mo_obeys_235 (by decide) ?_
        refine fw_iast hx hb hK hD hP hS (mm_32 (by decide)) (mk_32 0) 0 rfl (j := 0) (by decide) (fw_inc (by decide)) md_Mo_obeys_236 (fun v181 H locs ev181 hP hS => ?_)
        have hI : mI b v181 := by rw [ev181]; exact mI_up hI trivial trivial
        refine lv_aload_n hx hb md_Mo_obeys_237 rfl (lv_at hl 0 rfl) ?_
        refine fw_getr hx hb hts i_Mo hown hK hP (mm_0 (by decide)) (mk_0 0) rfl 33 (by decide) (hts _ L_Mo_107) (fun _ h9 => h9) rfl md_Mo_obeys_238 ?_
        refine lv_iload_n hx hb md_Mo_obeys_241 rfl (lv_at hl 1 rfl) ?_
        refine lv_iconst (v := (0 : Int32)) hx hb md_Mo_obeys_242 (by decide) ?_
        refine fw_iast hx hb hK hD hP hS (mm_34 (by decide)) (mk_34 0) 0 rfl (j := 0) (by decide) (fw_inc (by decide)) md_Mo_obeys_243 (fun v182 H locs ev182 hP hS => ?_)
        have hI : mI b v182 := by rw [ev182]; exact mI_up hI trivial trivial
        refine lv_aload_n hx hb md_Mo_obeys_244 rfl (lv_at hl 0 rfl) ?_
        refine fw_getr hx hb hts i_Mo hown hK hP (mm_0 (by decide)) (mk_0 0) rfl 34 (by decide) (hts _ L_Mo_110) (fun _ h9 => h9) rfl md_Mo_obeys_245 ?_
        refine lv_iload_n hx hb md_Mo_obeys_248 rfl (lv_at hl 1 rfl) ?_
        refine lv_iconst (v := (-1 : Int32)) hx hb md_Mo_obeys_249 (by decide) ?_
        refine fw_iast hx hb hK hD hP hS (mm_35 (by decide)) (mk_35 0) 0 rfl (j := 0) (by decide) (fw_inc (by decide)) md_Mo_obeys_250 (fun v183 H locs ev183 hP hS => ?_)
        have hI : mI b v183 := by rw [ev183]; exact mI_up hI trivial trivial
        refine lv_aload_n hx hb md_Mo_obeys_251 rfl (lv_at hl 0 rfl) ?_
        refine fw_getr hx hb hts i_Mo hown hK hP (mm_0 (by decide)) (mk_0 0) rfl 36 (by decide) (hts _ L_Mo_116) (fun _ h9 => h9) rfl md_Mo_obeys_252 ?_
        refine lv_iload_n hx hb md_Mo_obeys_255 rfl (lv_at hl 1 rfl) ?_
        refine lv_iconst (v := (0 : Int32)) hx hb md_Mo_obeys_256 (by decide) ?_
        refine fw_iast hx hb hK hD hP hS (mm_37 (by decide)) (mk_37 0) 0 rfl (j := 0) (by decide) (fw_inc (by decide)) md_Mo_obeys_257 (fun v184 H locs ev184 hP hS => ?_)
        refine lv_aload_n hx hb md_Mo_obeys_258 rfl (lv_at hl 0 rfl) ?_
        refine fw_getr hx hb hts i_Mo hown hK hP (mm_0 (by decide)) (mk_0 0) rfl 35 (by decide) (hts _ L_Mo_113) (fun _ h9 => h9) rfl md_Mo_obeys_259 ?_
        refine lv_iload_n hx hb md_Mo_obeys_262 rfl (lv_at hl 1 rfl) ?_
        refine lv_iconst (v := (0 : Int32)) hx hb md_Mo_obeys_263 (by decide) ?_
        refine fw_iast hx hb hK hD hP hS (mm_36 (by decide)) (mk_36 0) 0 rfl (j := 0) (by decide) (fw_inc (by decide)) md_Mo_obeys_264 (fun v185 H locs ev185 hP hS => ?_)
        have hI : mI b v185 := by rw [ev185, ev184]; exact mI_clear (k := 0) hI
        refine lv_aload_n hx hb md_Mo_obeys_265 rfl (lv_at hl 0 rfl) ?_
        refine fw_getr hx hb hts i_Mo hown hK hP (mm_0 (by decide)) (mk_0 0) rfl 38 (by decide) (hts _ L_Mo_122) (fun _ h9 => h9) rfl md_Mo_obeys_266 ?_
        refine lv_iload_n hx hb md_Mo_obeys_269 rfl (lv_at hl 1 rfl) ?_
        refine lv_iconst (v := (0 : Int32)) hx hb md_Mo_obeys_270 (by decide) ?_
        refine fw_iast hx hb hK hD hP hS (mm_39 (by decide)) (mk_39 0) 0 rfl (j := 0) (by decide) (fw_inc (by decide)) md_Mo_obeys_271 (fun v186 H locs ev186 hP hS => ?_)
        have hI : mI b v186 := by rw [ev186]; exact mI_up hI trivial trivial
        refine lv_goto (tgt := 507) hx hb md_Mo_obeys_272 (by decide) ?_
        exact fw_vret hx hb hr hlocks hS hP hI md_Mo_obeys_507 (by rw [hj]; subst ev180 ev181 ev182 ev183 ev184 ev185 ev186; simp only [mf_Mo_obeys_0_j59, if_pos c_154, if_pos c_179])
  have J58 : ∀  (H : Heap) (locs : List Loc) (ls : Array Slot), mf_Mo_obeys_0 v0 a2 a3 = mf_Mo_obeys_0_j58 v0 a2 a3 → vp_in a3 3 → mI b v0 → va_P D vcls (fw_w mCL cA mkd ad v0) H → va_S (fw_A mCL ad) s.heap H locs → lv_has ls 7 [(0, .ref (ad 0 0)), (1, .int (0 : Int32)), (2, .int a2), (3, .int a3), (4, .int (v0 28 0 0))] → W p l e (headSpec (Cond.code my_Mo_obeys mb_Mo_obeys 7 none :: vTB) mrm_Mo_obeys).room s m ([.ref (ad 0 0), .int (0 : Int32), .int a2, .int a3] : List Value).toArray below meth c H locs 0 0 (MQ below (fw_Qv D vcls mCL cA mkd ad (mI b) (mf_Mo_obeys_0 v0 a2 a3)) ([.ref (ad 0 0), .int (0 : Int32), .int a2, .int a3] : List Value).toArray s 0 0 (fw_A mCL ad)) (F0 m 188 ls []) := by
    intro  H locs ls hj hc0 hI hP hS hl
    clear J9 J8 J7 J6 J5 J22 J21 J23 J24 J20 J19 J25 J26 J18 J17 J27 J28 J16 J15 J29 J30 J14 J13 J31 J32 J12 J11 J33 J34 J10 J4 J3 J2 J44 J43 J42 J46 J45 J41 J40 J39 J50 J49 J51 J48 J47 J38 J37 J36 J55 J54 J56 J53 J52 J35 J1 J61 J60
    refine lv_iload_n hx hb md_Mo_obeys_188 rfl (lv_at hl 2 rfl) ?_
    refine lv_bipush (v := (8 : Int32)) hx hb md_Mo_obeys_189 (by decide) ?_
    refine lv_icmp_ne (tgt := 211) hx hb md_Mo_obeys_191 (by decide) (fun c_153 => ?_) (fun c_153 => ?_)
    · exact J59  _ _ _ (by rw [hj]; simp only [mf_Mo_obeys_0_j58, if_neg c_153]) hc0  hI hP hS (lv_sub hl [0, 1, 2, 3, 4] rfl)
    · refine lv_iload hx hb md_Mo_obeys_194 (lv_at hl 4 rfl) ?_
      refine lv_iconst (v := (2 : Int32)) hx hb md_Mo_obeys_196 (by decide) ?_
      refine lv_icmp_ne (tgt := 211) hx hb md_Mo_obeys_197 (by decide) (fun c_187 => ?_) (fun c_187 => ?_)
      · exact J59  _ _ _ (by rw [hj]; simp only [mf_Mo_obeys_0_j58, if_pos c_153, if_neg c_187]) hc0  hI hP hS (lv_sub hl [0, 1, 2, 3, 4] rfl)
      · refine lv_aload_n hx hb md_Mo_obeys_200 rfl (lv_at hl 0 rfl) ?_
        refine lv_iload_n hx hb md_Mo_obeys_201 rfl (lv_at hl 1 rfl) ?_
        refine lv_bipush (v := (9 : Int32)) hx hb md_Mo_obeys_202 (by decide) ?_
        refine lv_iconst (v := (0 : Int32)) hx hb md_Mo_obeys_204 (by decide) ?_
        refine fw_cv (va_runV (As := [.int (0 : Int32), .int (9 : Int32), .int (0 : Int32)]) (rest := []) ⟨hx, hb, hml, hown, hts⟩ (mc_Mo_reply_0 l hD v0 hI (9 : Int32) (0 : Int32) (fun q => absurd q (by decide)) (by decide) (by decide)) (mw_Mo_reply hts L_Mo_238 ⟨Nat.le_of_ble_eq_true rfl, Nat.le_of_ble_eq_true rfl⟩) (fw_preV hN hK hP (mm_0 (by decide)) (mk_0 0) rfl) rfl rfl hl.1 rfl (lv_room (Nat.le_of_ble_eq_true rfl)) md_Mo_obeys_205 ⟨Nat.le_of_ble_eq_true rfl, Nat.le_of_ble_eq_true rfl⟩) hS (fun v188 H locs ev188 hI hP hS => ?_)
        refine lv_goto (tgt := 507) hx hb md_Mo_obeys_208 (by decide) ?_
        exact fw_vret hx hb hr hlocks hS hP hI md_Mo_obeys_507 (by rw [hj]; subst ev188; simp only [mf_Mo_obeys_0_j58, if_pos c_153, if_pos c_187])
  have J57 : ∀  (H : Heap) (locs : List Loc) (ls : Array Slot), mf_Mo_obeys_0 v0 a2 a3 = mf_Mo_obeys_0_j57 v0 a2 a3 → vp_in a3 3 → mI b v0 → va_P D vcls (fw_w mCL cA mkd ad v0) H → va_S (fw_A mCL ad) s.heap H locs → lv_has ls 7 [(0, .ref (ad 0 0)), (1, .int (0 : Int32)), (2, .int a2), (3, .int a3), (4, .int (v0 28 0 0))] → W p l e (headSpec (Cond.code my_Mo_obeys mb_Mo_obeys 7 none :: vTB) mrm_Mo_obeys).room s m ([.ref (ad 0 0), .int (0 : Int32), .int a2, .int a3] : List Value).toArray below meth c H locs 0 0 (MQ below (fw_Qv D vcls mCL cA mkd ad (mI b) (mf_Mo_obeys_0 v0 a2 a3)) ([.ref (ad 0 0), .int (0 : Int32), .int a2, .int a3] : List Value).toArray s 0 0 (fw_A mCL ad)) (F0 m 54 ls []) := by
    intro  H locs ls hj hc0 hI hP hS hl
    clear J9 J8 J7 J6 J5 J22 J21 J23 J24 J20 J19 J25 J26 J18 J17 J27 J28 J16 J15 J29 J30 J14 J13 J31 J32 J12 J11 J33 J34 J10 J4 J3 J2 J44 J43 J42 J46 J45 J41 J40 J39 J50 J49 J51 J48 J47 J38 J37 J36 J55 J54 J56 J53 J52 J1 J61 J60 J59
    refine lv_iload_n hx hb md_Mo_obeys_54 rfl (lv_at hl 2 rfl) ?_
    refine lv_bipush (v := (8 : Int32)) hx hb md_Mo_obeys_55 (by decide) ?_
    refine lv_icmp_ne (tgt := 188) hx hb md_Mo_obeys_57 (by decide) (fun c_152 => ?_) (fun c_152 => ?_)
    · exact J58  _ _ _ (by rw [hj]; simp only [mf_Mo_obeys_0_j57, if_neg c_152]) hc0  hI hP hS (lv_sub hl [0, 1, 2, 3, 4] rfl)
    · refine lv_iload hx hb md_Mo_obeys_60 (lv_at hl 4 rfl) ?_
      refine lv_iconst (v := (1 : Int32)) hx hb md_Mo_obeys_62 (by decide) ?_
      refine lv_icmp_ne (tgt := 188) hx hb md_Mo_obeys_63 (by decide) (fun c_189 => ?_) (fun c_189 => ?_)
      · exact J58  _ _ _ (by rw [hj]; simp only [mf_Mo_obeys_0_j57, if_pos c_152, if_neg c_189]) hc0  hI hP hS (lv_sub hl [0, 1, 2, 3, 4] rfl)
      · refine lv_iconst (v := (0 : Int32)) hx hb md_Mo_obeys_66 (by decide) ?_
        refine lv_istore (lv' := [(5, .int (0 : Int32)), (0, .ref (ad 0 0)), (1, .int (0 : Int32)), (2, .int a2), (3, .int a3), (4, .int (v0 28 0 0))]) hx hb md_Mo_obeys_67 hl (by decide) rfl (fun ls hl => ?_)
        refine lv_iconst (v := (0 : Int32)) hx hb md_Mo_obeys_69 (by decide) ?_
        refine lv_istore (lv' := [(6, .int (0 : Int32)), (5, .int (0 : Int32)), (0, .ref (ad 0 0)), (1, .int (0 : Int32)), (2, .int a2), (3, .int a3), (4, .int (v0 28 0 0))]) hx hb md_Mo_obeys_70 hl (by decide) rfl (fun ls hl => ?_)
        exact J35  _ _ _ (by rw [hj]; simp only [mf_Mo_obeys_0_j57, if_pos c_152, if_pos c_189])   hI hP hS (lv_sub hl [2, 3, 1, 0] rfl)
  clear J9 J8 J7 J6 J5 J22 J21 J23 J24 J20 J19 J25 J26 J18 J17 J27 J28 J16 J15 J29 J30 J14 J13 J31 J32 J12 J11 J33 J34 J10 J4 J3 J2 J44 J43 J42 J46 J45 J41 J40 J39 J50 J49 J51 J48 J47 J38 J37 J36 J55 J54 J56 J53 J52 J35 J61 J60 J59 J58
  have hl := lv_entry ([.ref (ad 0 0), .int (0 : Int32), .int a2, .int a3]) (n := 7) (Nat.le_of_ble_eq_true rfl)
  rw [lg_entry_eq]
  generalize (lg_sl ([.ref (ad 0 0), .int (0 : Int32), .int a2, .int a3]) ++ List.replicate (7 - (lg_sl ([.ref (ad 0 0), .int (0 : Int32), .int a2, .int a3])).length) Slot.unset).toArray = ls at hl ⊢
  have hl : lv_has ls 7 [(0, .ref (ad 0 0)), (1, .int (0 : Int32)), (2, .int a2), (3, .int a3)] := hl
  refine lv_aload_n hx hb md_Mo_obeys_0 rfl (lv_at hl 0 rfl) ?_
  refine fw_getr hx hb hts i_Mo hown hK hP (mm_0 (by decide)) (mk_0 0) rfl 27 (by decide) (hts _ L_Mo_89) (fun _ h9 => h9) rfl md_Mo_obeys_1 ?_
  refine lv_iload_n hx hb md_Mo_obeys_4 rfl (lv_at hl 1 rfl) ?_
  refine fw_iald hx hb hK hP (mm_28 (by decide)) (mk_28 0) 0 rfl (j := 0) (by decide) (fw_inc (by decide)) md_Mo_obeys_5 ?_
  refine lv_istore (lv' := [(4, .int (v0 28 0 0)), (0, .ref (ad 0 0)), (1, .int (0 : Int32)), (2, .int a2), (3, .int a3)]) hx hb md_Mo_obeys_6 hl (by decide) rfl (fun ls hl => ?_)
  refine lv_iload_n hx hb md_Mo_obeys_8 rfl (lv_at hl 3 rfl) ?_
  refine lv_bipush (v := (6 : Int32)) hx hb md_Mo_obeys_9 (by decide) ?_
  refine lv_icmp_ne (tgt := 54) hx hb md_Mo_obeys_11 (by decide) (fun c_1 => ?_) (fun c_1 => ?_)
  · exact J1  _ _ _ (by simp only [mf_Mo_obeys_0, if_neg c_1])   hI hP hS (lv_sub hl [1, 2, 3, 4, 0] rfl)
  · have h_150 : vp_in a3 3 := hq0 c_1
    refine lv_iload hx hb md_Mo_obeys_14 (lv_at hl 0 rfl) ?_
    refine lv_iconst (v := (1 : Int32)) hx hb md_Mo_obeys_16 (by decide) ?_
    refine lv_icmp_ne (tgt := 54) hx hb md_Mo_obeys_17 (by decide) (fun c_151 => ?_) (fun c_151 => ?_)
    · exact J57  _ _ _ (by simp only [mf_Mo_obeys_0, if_pos c_1, if_neg c_151]) h_150  hI hP hS (lv_sub hl [1, 2, 3, 4, 0] rfl)
    · refine lv_aload_n hx hb md_Mo_obeys_20 rfl (lv_at hl 1 rfl) ?_
      refine fw_getr hx hb hts i_Mo hown hK hP (mm_0 (by decide)) (mk_0 0) rfl 43 (by decide) (hts _ L_Mo_137) (fun _ h9 => h9) rfl md_Mo_obeys_21 ?_
      refine lv_iconst (v := (3 : Int32)) hx hb md_Mo_obeys_24 (by decide) ?_
      refine lv_iload_n hx hb md_Mo_obeys_25 rfl (lv_at hl 2 rfl) ?_
      refine lv_imul hx hb md_Mo_obeys_26 ?_
      refine fw_top (y := (0 : Int32)) (by decide) ?_
      refine lv_iload_n hx hb md_Mo_obeys_27 rfl (lv_at hl 4 rfl) ?_
      refine lv_iadd hx hb md_Mo_obeys_28 ?_
      refine lv_aload_n hx hb md_Mo_obeys_29 rfl (lv_at hl 1 rfl) ?_
      refine fw_getr hx hb hts i_Mo hown hK hP (mm_0 (by decide)) (mk_0 0) rfl 9 (by decide) (hts _ L_Mo_38) (fun _ h9 => h9) rfl md_Mo_obeys_30 ?_
      refine lv_iconst (v := (0 : Int32)) hx hb md_Mo_obeys_33 (by decide) ?_
      refine fw_iald hx hb hK hP (mm_10 (by decide)) (mk_10 0) 0 rfl (j := 0) (by decide) (fw_inc (by decide)) md_Mo_obeys_34 ?_
      refine fw_iast hx hb hK hD hP hS (mm_44 (by decide)) (mk_44 0) 0 rfl (j := ((0 : Int32) + a3).toNatClampNeg) rfl (fw_inm (fw_inadd2 (n := 1) (m := 3) (t := 3) (fw_inc (by decide)) h_150 (by decide)) (by decide)) md_Mo_obeys_35 (fun v190 H locs ev190 hP hS => ?_)
      have hI : mI b v190 := by rw [ev190]; exact mI_up hI trivial trivial
      refine lv_aload_n hx hb md_Mo_obeys_36 rfl (lv_at hl 1 rfl) ?_
      refine fw_getr hx hb hts i_Mo hown hK hP (mm_0 (by decide)) (mk_0 0) rfl 31 (by decide) (hts _ L_Mo_101) (fun _ h9 => h9) rfl md_Mo_obeys_37 ?_
      refine lv_iload_n hx hb md_Mo_obeys_40 rfl (lv_at hl 2 rfl) ?_
      refine lv_iconst (v := (0 : Int32)) hx hb md_Mo_obeys_41 (by decide) ?_
      refine fw_iast hx hb hK hD hP hS (mm_32 (by decide)) (mk_32 0) 0 rfl (j := 0) (by decide) (fw_inc (by decide)) md_Mo_obeys_42 (fun v191 H locs ev191 hP hS => ?_)
      have hI : mI b v191 := by rw [ev191]; exact mI_up hI trivial trivial
      refine lv_aload_n hx hb md_Mo_obeys_43 rfl (lv_at hl 1 rfl) ?_
      refine lv_iload_n hx hb md_Mo_obeys_44 rfl (lv_at hl 2 rfl) ?_
      refine lv_bipush (v := (7 : Int32)) hx hb md_Mo_obeys_45 (by decide) ?_
      refine lv_iload_n hx hb md_Mo_obeys_47 rfl (lv_at hl 4 rfl) ?_
      refine fw_cv (va_runV (As := [.int (0 : Int32), .int (7 : Int32), .int a3]) (rest := []) ⟨hx, hb, hml, hown, hts⟩ (mc_Mo_reply_0 l hD v191 hI (7 : Int32) a3 (fun q => absurd q (by decide)) (by decide) (by decide)) (mw_Mo_reply hts L_Mo_238 ⟨Nat.le_of_ble_eq_true rfl, Nat.le_of_ble_eq_true rfl⟩) (fw_preV hN hK hP (mm_0 (by decide)) (mk_0 0) rfl) rfl rfl hl.1 rfl (lv_room (Nat.le_of_ble_eq_true rfl)) md_Mo_obeys_48 ⟨Nat.le_of_ble_eq_true rfl, Nat.le_of_ble_eq_true rfl⟩) hS (fun v192 H locs ev192 hI hP hS => ?_)
      refine lv_goto (tgt := 507) hx hb md_Mo_obeys_51 (by decide) ?_
      exact fw_vret hx hb hr hlocks hS hP hI md_Mo_obeys_507 (by subst ev190 ev191 ev192; simp only [mf_Mo_obeys_0, if_pos c_1, if_pos c_151])

def mf_Mo_hears_1_j6 (v0 : fw_V) (a2 : Int32) (a3 : Int32)  : fw_V :=
  if a2 = (14 : Int32) then
    let v11 := mf_Mo_send v0 (15 : Int32) (v0 13 0 1) a3 (v0 15 0 1)
    if (v0 12 0 1) = (6 : Int32) then
      if a3 = (v11 23 0 1) then
        v11
      else
        let v14 := mf_Mo_tell_1 v11 a3
        v14
    else
      v11
  else
    if a2 = (16 : Int32) then
      let v9 := mf_Mo_shut_1 v0
      v9
    else
      v0
def mf_Mo_hears_1_j5 (v0 : fw_V) (a2 : Int32) (a3 : Int32)  : fw_V :=
  if a2 = (13 : Int32) then
    if (v0 12 0 1) = (6 : Int32) then
      let r16 := mf_Mo_isNewer a3 (v0 22 0 1)
      if r16 = (0 : Int32) then
        mf_Mo_hears_1_j6 v0 a2 a3
      else
        let v18 := fw_up v0 22 0 (1) a3
        let v19 := fw_up v18 18 0 (1) (0 : Int32)
        let v20 := fw_up v19 17 0 (1) (v19 10 0 6)
        let v22 := fw_up v20 27 0 (6) (v20 10 0 0)
        let v24 := fw_up v22 27 0 (7) (v22 10 0 1)
        let v26 := fw_up v24 27 0 (8) (v24 10 0 2)
        let v28 := fw_up v26 27 0 (9) (v26 10 0 3)
        let v30 := fw_up v28 27 0 (10) (v28 10 0 4)
        let v32 := fw_up v30 27 0 (11) (v30 10 0 5)
        v32
    else
      mf_Mo_hears_1_j6 v0 a2 a3
  else
    mf_Mo_hears_1_j6 v0 a2 a3
def mf_Mo_hears_1_j4 (v0 : fw_V) (a2 : Int32) (a3 : Int32)  : fw_V :=
  if a2 = (10 : Int32) then
    if (v0 12 0 1) < (5 : Int32) then
      mf_Mo_hears_1_j5 v0 a2 a3
    else
      let v35 := mf_Mo_send v0 (11 : Int32) (v0 13 0 1) (0 : Int32) (v0 15 0 1)
      if (v0 12 0 1) = (6 : Int32) then
        v35
      else
        let v37 := mf_Mo_enter_1 v35 (6 : Int32)
        let v38 := fw_up v37 21 0 (1) (0 : Int32)
        let v39 := fw_up v38 22 0 (1) (-1 : Int32)
        let v40 := fw_up v39 17 0 (1) (0 : Int32)
        v40
  else
    mf_Mo_hears_1_j5 v0 a2 a3
def mf_Mo_hears_1_j3 (v0 : fw_V) (a2 : Int32) (a3 : Int32)  : fw_V :=
  if a2 = (9 : Int32) then
    if (v0 12 0 1) = (4 : Int32) then
      let v42 := mf_Mo_enter_1 v0 (5 : Int32)
      v42
    else
      mf_Mo_hears_1_j4 v0 a2 a3
  else
    mf_Mo_hears_1_j4 v0 a2 a3
def mf_Mo_hears_1_j2 (v0 : fw_V) (a2 : Int32) (a3 : Int32)  : fw_V :=
  if a2 = (7 : Int32) then
    if (v0 12 0 1) = (3 : Int32) then
      if a3 = (v0 20 0 1) then
        let v48 := mf_Mo_write_1 v0 (a3 + (1 : Int32))
        v48
      else
        mf_Mo_hears_1_j3 v0 a2 a3
    else
      mf_Mo_hears_1_j3 v0 a2 a3
  else
    mf_Mo_hears_1_j3 v0 a2 a3
def mf_Mo_hears_1_j1 (v0 : fw_V) (a2 : Int32) (a3 : Int32)  : fw_V :=
  if a2 = (5 : Int32) then
    if (v0 12 0 1) = (2 : Int32) then
      let v50 := mf_Mo_shut_1 v0
      v50
    else
      mf_Mo_hears_1_j2 v0 a2 a3
  else
    mf_Mo_hears_1_j2 v0 a2 a3
def mf_Mo_hears_1 (v0 : fw_V) (a2 : Int32) (a3 : Int32) : fw_V :=
  if a2 = (4 : Int32) then
    if (v0 12 0 1) = (2 : Int32) then
      let v52 := fw_up v0 16 0 (1) a3
      let v53 := mf_Mo_write_1 v52 (0 : Int32)
      v53
    else
      mf_Mo_hears_1_j1 v0 a2 a3
  else
    mf_Mo_hears_1_j1 v0 a2 a3

theorem mca_Mo_hears_1_j6 {v0 : fw_V} {a2 : Int32} {a3 : Int32} {i k : Nat} : mf_Mo_hears_1_j6 v0 a2 a3 10 i k = v0 10 i k := by
  unfold mf_Mo_hears_1_j6
  try dsimp only
  all_goals ((repeat' split) <;> simp [fw_up, fw_row, mca_Mo_send, mca_Mo_tell_1, mca_Mo_shut_1])
theorem mca_Mo_hears_1_j5 {v0 : fw_V} {a2 : Int32} {a3 : Int32} {i k : Nat} : mf_Mo_hears_1_j5 v0 a2 a3 10 i k = v0 10 i k := by
  unfold mf_Mo_hears_1_j5
  try dsimp only
  all_goals ((repeat' split) <;> simp [fw_up, fw_row, mca_Mo_hears_1_j6])
theorem mca_Mo_hears_1_j4 {v0 : fw_V} {a2 : Int32} {a3 : Int32} {i k : Nat} : mf_Mo_hears_1_j4 v0 a2 a3 10 i k = v0 10 i k := by
  unfold mf_Mo_hears_1_j4
  try dsimp only
  all_goals ((repeat' split) <;> simp [fw_up, fw_row, mca_Mo_hears_1_j5, mca_Mo_send, mca_Mo_enter_1])
theorem mca_Mo_hears_1_j3 {v0 : fw_V} {a2 : Int32} {a3 : Int32} {i k : Nat} : mf_Mo_hears_1_j3 v0 a2 a3 10 i k = v0 10 i k := by
  unfold mf_Mo_hears_1_j3
  try dsimp only
  all_goals ((repeat' split) <;> simp [fw_up, fw_row, mca_Mo_enter_1, mca_Mo_hears_1_j4])
theorem mca_Mo_hears_1_j2 {v0 : fw_V} {a2 : Int32} {a3 : Int32} {i k : Nat} : mf_Mo_hears_1_j2 v0 a2 a3 10 i k = v0 10 i k := by
  unfold mf_Mo_hears_1_j2
  try dsimp only
  all_goals ((repeat' split) <;> simp [fw_up, fw_row, mca_Mo_write_1, mca_Mo_hears_1_j3])
theorem mca_Mo_hears_1_j1 {v0 : fw_V} {a2 : Int32} {a3 : Int32} {i k : Nat} : mf_Mo_hears_1_j1 v0 a2 a3 10 i k = v0 10 i k := by
  unfold mf_Mo_hears_1_j1
  try dsimp only
  all_goals ((repeat' split) <;> simp [fw_up, fw_row, mca_Mo_shut_1, mca_Mo_hears_1_j2])
theorem mca_Mo_hears_1 {v0 : fw_V} {a2 : Int32} {a3 : Int32} {i k : Nat} : mf_Mo_hears_1 v0 a2 a3 10 i k = v0 10 i k := by
  unfold mf_Mo_hears_1
  try dsimp only
  all_goals ((repeat' split) <;> simp [fw_up, fw_row, mca_Mo_write_1, mca_Mo_hears_1_j1])
set_option maxHeartbeats 4000000 in
set_option maxRecDepth 100000 in
theorem mc_Mo_hears_1 (l : Launch) {D : va_G} {cA : Nat → ClassId} {ad : Nat → Nat → Nat} (hD : fw_D mCL ad) {b : Nat} (v0 : fw_V) (hI : mI b v0) (a2 : Int32) (a3 : Int32) (hq0 : a2 = (14 : Int32) → vp_in (v0 10 0 0) 3) : Met l my_Mo_hears (Cond.code my_Mo_hears mb_Mo_hears 6 none :: vTB) mrm_Mo_hears (fw_Pc vNL D vcls (vtys cA) mCL cA mkd ad v0 [.ref (ad 0 0), .int (1 : Int32), .int a2, .int a3]) (fw_Qv D vcls mCL cA mkd ad (mI b) (mf_Mo_hears_1 v0 a2 a3)) 0 0 (fw_A mCL ad) := by
  refine Met.ofW (cc := mb_Mo_hears) (maxL := 6) (ret := none) (by decide) rfl ?_
  intro p e s m args below meth c s₁ B hml hv
  obtain ⟨rfl, hP, hK, hN⟩ := hv
  have hx := B.exec
  have hb := B.bytes
  have hr := B.returns
  have hts : ∀ w ∈ vTB, w.before ([.ref (ad 0 0), .int (1 : Int32), .int a2, .int a3] : List Value).toArray s = true := fun w h => atoms_spec (ws := (Cond.code my_Mo_hears mb_Mo_hears 6 none :: vTB)) B.pre w (List.mem_cons_of_mem _ h)
  have hown : s.vm.findClass R_Mo = some m.cls := findClass_of_methodNamed B.named
  have hlocks := B.notSynchronized
  have hS : va_S (fw_A mCL ad) s.heap s.heap [] := va_S.rf
  have J6 : ∀  (H : Heap) (locs : List Loc) (ls : Array Slot), mf_Mo_hears_1 v0 a2 a3 = mf_Mo_hears_1_j6 v0 a2 a3 → mI b v0 → va_P D vcls (fw_w mCL cA mkd ad v0) H → va_S (fw_A mCL ad) s.heap H locs → lv_has ls 6 [(0, .ref (ad 0 0)), (1, .int (1 : Int32)), (2, .int a2), (3, .int a3), (4, .int (v0 12 0 1))] → W p l e (headSpec (Cond.code my_Mo_hears mb_Mo_hears 6 none :: vTB) mrm_Mo_hears).room s m ([.ref (ad 0 0), .int (1 : Int32), .int a2, .int a3] : List Value).toArray below meth c H locs 0 0 (MQ below (fw_Qv D vcls mCL cA mkd ad (mI b) (mf_Mo_hears_1 v0 a2 a3)) ([.ref (ad 0 0), .int (1 : Int32), .int a2, .int a3] : List Value).toArray s 0 0 (fw_A mCL ad)) (F0 m 269 ls []) := by
    intro  H locs ls hj  hI hP hS hl
    refine lv_iload_n hx hb md_Mo_hears_269 rfl (lv_at hl 2 rfl) ?_
    refine lv_bipush (v := (14 : Int32)) hx hb md_Mo_hears_270 (by decide) ?_
    refine lv_icmp_ne (tgt := 320) hx hb md_Mo_hears_272 (by decide) (fun c_7 => ?_) (fun c_7 => ?_)
    · refine lv_iload_n hx hb md_Mo_hears_320 rfl (lv_at hl 2 rfl) ?_
      refine lv_bipush (v := (16 : Int32)) hx hb md_Mo_hears_321 (by decide) ?_
      refine lv_icmp_ne (tgt := 331) hx hb md_Mo_hears_323 (by decide) (fun c_8 => ?_) (fun c_8 => ?_)
      · exact fw_vret hx hb hr hlocks hS hP hI md_Mo_hears_331 (by rw [hj]; simp only [mf_Mo_hears_1_j6, if_neg c_7, if_neg c_8])
      · refine lv_aload_n hx hb md_Mo_hears_326 rfl (lv_at hl 0 rfl) ?_
        refine lv_iload_n hx hb md_Mo_hears_327 rfl (lv_at hl 1 rfl) ?_
        refine fw_cv (va_runV (As := [.int (1 : Int32)]) (rest := []) ⟨hx, hb, hml, hown, hts⟩ (mc_Mo_shut_1 l hD v0 hI ) (mw_Mo_shut hts L_Mo_203 ⟨Nat.le_of_ble_eq_true rfl, Nat.le_of_ble_eq_true rfl⟩) (fw_preV hN hK hP (mm_0 (by decide)) (mk_0 0) rfl) rfl rfl hl.1 rfl (lv_room (Nat.le_of_ble_eq_true rfl)) md_Mo_hears_328 ⟨Nat.le_of_ble_eq_true rfl, Nat.le_of_ble_eq_true rfl⟩) hS (fun v9 H locs ev9 hI hP hS => ?_)
        exact fw_vret hx hb hr hlocks hS hP hI md_Mo_hears_331 (by rw [hj]; subst ev9; simp only [mf_Mo_hears_1_j6, if_neg c_7, if_pos c_8])
    · have h_10 : vp_in (v0 10 0 0) 3 := hq0 c_7
      refine lv_aload_n hx hb md_Mo_hears_275 rfl (lv_at hl 0 rfl) ?_
      refine lv_bipush (v := (15 : Int32)) hx hb md_Mo_hears_276 (by decide) ?_
      refine lv_aload_n hx hb md_Mo_hears_278 rfl (lv_at hl 0 rfl) ?_
      refine fw_getr hx hb hts i_Mo hown hK hP (mm_0 (by decide)) (mk_0 0) rfl 12 (by decide) (hts _ L_Mo_44) (fun _ h9 => h9) rfl md_Mo_hears_279 ?_
      refine lv_iload_n hx hb md_Mo_hears_282 rfl (lv_at hl 1 rfl) ?_
      refine fw_iald hx hb hK hP (mm_13 (by decide)) (mk_13 0) 0 rfl (j := 1) (by decide) (fw_inc (by decide)) md_Mo_hears_283 ?_
      refine lv_iload_n hx hb md_Mo_hears_284 rfl (lv_at hl 3 rfl) ?_
      refine lv_aload_n hx hb md_Mo_hears_285 rfl (lv_at hl 0 rfl) ?_
      refine fw_getr hx hb hts i_Mo hown hK hP (mm_0 (by decide)) (mk_0 0) rfl 14 (by decide) (hts _ L_Mo_50) (fun _ h9 => h9) rfl md_Mo_hears_286 ?_
      refine lv_iload_n hx hb md_Mo_hears_289 rfl (lv_at hl 1 rfl) ?_
      refine fw_iald hx hb hK hP (mm_15 (by decide)) (mk_15 0) 0 rfl (j := 1) (by decide) (fw_inc (by decide)) md_Mo_hears_290 ?_
      refine fw_cv (va_runV (As := [.int (15 : Int32), .int (v0 13 0 1), .int a3, .int (v0 15 0 1)]) (rest := []) ⟨hx, hb, hml, hown, hts⟩ (mc_Mo_send l hD v0 hI (15 : Int32) (v0 13 0 1) a3 (v0 15 0 1) (fun q => absurd q (by decide)) (fun q => absurd q (by decide)) (fun q => absurd q (by decide))) (mw_Mo_send hts L_Mo_197 ⟨Nat.le_of_ble_eq_true rfl, Nat.le_of_ble_eq_true rfl⟩) (fw_preV hN hK hP (mm_0 (by decide)) (mk_0 0) rfl) rfl rfl hl.1 rfl (lv_room (Nat.le_of_ble_eq_true rfl)) md_Mo_hears_291 ⟨Nat.le_of_ble_eq_true rfl, Nat.le_of_ble_eq_true rfl⟩) hS (fun v11 H locs ev11 hI hP hS => ?_)
      refine lv_iload hx hb md_Mo_hears_294 (lv_at hl 4 rfl) ?_
      refine lv_bipush (v := (6 : Int32)) hx hb md_Mo_hears_296 (by decide) ?_
      refine lv_icmp_ne (tgt := 331) hx hb md_Mo_hears_298 (by decide) (fun c_12 => ?_) (fun c_12 => ?_)
      · exact fw_vret hx hb hr hlocks hS hP hI md_Mo_hears_331 (by rw [hj]; subst ev11; simp only [mf_Mo_hears_1_j6, if_pos c_7, if_neg c_12])
      · refine lv_iload_n hx hb md_Mo_hears_301 rfl (lv_at hl 3 rfl) ?_
        refine lv_aload_n hx hb md_Mo_hears_302 rfl (lv_at hl 0 rfl) ?_
        refine fw_getr hx hb hts i_Mo hown hK hP (mm_0 (by decide)) (mk_0 0) rfl 22 (by decide) (hts _ L_Mo_74) (fun _ h9 => h9) rfl md_Mo_hears_303 ?_
        refine lv_iload_n hx hb md_Mo_hears_306 rfl (lv_at hl 1 rfl) ?_
        refine fw_iald hx hb hK hP (mm_23 (by decide)) (mk_23 0) 0 rfl (j := 1) (by decide) (fw_inc (by decide)) md_Mo_hears_307 ?_
        refine lv_icmp_eq (tgt := 331) hx hb md_Mo_hears_308 (by decide) (fun c_13 => ?_) (fun c_13 => ?_)
        · exact fw_vret hx hb hr hlocks hS hP hI md_Mo_hears_331 (by rw [hj]; subst ev11; simp only [mf_Mo_hears_1_j6, if_pos c_7, if_pos c_12, if_pos c_13])
        · refine lv_aload_n hx hb md_Mo_hears_311 rfl (lv_at hl 0 rfl) ?_
          refine lv_iload_n hx hb md_Mo_hears_312 rfl (lv_at hl 1 rfl) ?_
          refine lv_iload_n hx hb md_Mo_hears_313 rfl (lv_at hl 3 rfl) ?_
          refine fw_cv (va_runV (As := [.int (1 : Int32), .int a3]) (rest := []) ⟨hx, hb, hml, hown, hts⟩ (mc_Mo_tell_1 l hD v11 hI a3 (by rw [ev11, mfr_Mo_send (c := 10) (by decide)]; exact h_10)) (mw_Mo_tell hts L_Mo_229 ⟨Nat.le_of_ble_eq_true rfl, Nat.le_of_ble_eq_true rfl⟩) (fw_preV hN hK hP (mm_0 (by decide)) (mk_0 0) rfl) rfl rfl hl.1 rfl (lv_room (Nat.le_of_ble_eq_true rfl)) md_Mo_hears_314 ⟨Nat.le_of_ble_eq_true rfl, Nat.le_of_ble_eq_true rfl⟩) hS (fun v14 H locs ev14 hI hP hS => ?_)
          refine lv_goto (tgt := 331) hx hb md_Mo_hears_317 (by decide) ?_
          exact fw_vret hx hb hr hlocks hS hP hI md_Mo_hears_331 (by rw [hj]; subst ev11 ev14; simp only [mf_Mo_hears_1_j6, if_pos c_7, if_pos c_12, if_neg c_13])
  have J5 : ∀  (H : Heap) (locs : List Loc) (ls : Array Slot), mf_Mo_hears_1 v0 a2 a3 = mf_Mo_hears_1_j5 v0 a2 a3 → mI b v0 → va_P D vcls (fw_w mCL cA mkd ad v0) H → va_S (fw_A mCL ad) s.heap H locs → lv_has ls 6 [(0, .ref (ad 0 0)), (1, .int (1 : Int32)), (2, .int a2), (3, .int a3), (4, .int (v0 12 0 1))] → W p l e (headSpec (Cond.code my_Mo_hears mb_Mo_hears 6 none :: vTB) mrm_Mo_hears).room s m ([.ref (ad 0 0), .int (1 : Int32), .int a2, .int a3] : List Value).toArray below meth c H locs 0 0 (MQ below (fw_Qv D vcls mCL cA mkd ad (mI b) (mf_Mo_hears_1 v0 a2 a3)) ([.ref (ad 0 0), .int (1 : Int32), .int a2, .int a3] : List Value).toArray s 0 0 (fw_A mCL ad)) (F0 m 178 ls []) := by
    intro  H locs ls hj  hI hP hS hl
    refine lv_iload_n hx hb md_Mo_hears_178 rfl (lv_at hl 2 rfl) ?_
    refine lv_bipush (v := (13 : Int32)) hx hb md_Mo_hears_179 (by decide) ?_
    refine lv_icmp_ne (tgt := 269) hx hb md_Mo_hears_181 (by decide) (fun c_6 => ?_) (fun c_6 => ?_)
    · exact J6  _ _ _ (by rw [hj]; simp only [mf_Mo_hears_1_j5, if_neg c_6])   hI hP hS (lv_sub hl [0, 1, 2, 3, 4] rfl)
    · refine lv_iload hx hb md_Mo_hears_184 (lv_at hl 4 rfl) ?_
      refine lv_bipush (v := (6 : Int32)) hx hb md_Mo_hears_186 (by decide) ?_
      refine lv_icmp_ne (tgt := 269) hx hb md_Mo_hears_188 (by decide) (fun c_15 => ?_) (fun c_15 => ?_)
      · exact J6  _ _ _ (by rw [hj]; simp only [mf_Mo_hears_1_j5, if_pos c_6, if_neg c_15])   hI hP hS (lv_sub hl [0, 1, 2, 3, 4] rfl)
      · refine lv_iload_n hx hb md_Mo_hears_191 rfl (lv_at hl 3 rfl) ?_
        refine lv_aload_n hx hb md_Mo_hears_192 rfl (lv_at hl 0 rfl) ?_
        refine fw_getr hx hb hts i_Mo hown hK hP (mm_0 (by decide)) (mk_0 0) rfl 21 (by decide) (hts _ L_Mo_71) (fun _ h9 => h9) rfl md_Mo_hears_193 ?_
        refine lv_iload_n hx hb md_Mo_hears_196 rfl (lv_at hl 1 rfl) ?_
        refine fw_iald hx hb hK hP (mm_22 (by decide)) (mk_22 0) 0 rfl (j := 1) (by decide) (fw_inc (by decide)) md_Mo_hears_197 ?_
        refine fw_cb (va_runS (As := [.int a3, .int (v0 22 0 1)]) (rest := []) ⟨hx, hb, hml, hown, hts⟩ (mc_Mo_isNewer l hD v0 hI a3 (v0 22 0 1)) (mw_Mo_isNewer hts L_Mo_225 ⟨Nat.le_of_ble_eq_true rfl, Nat.le_of_ble_eq_true rfl⟩) (fw_preS hN hK hP) rfl rfl hl.1 rfl (lv_room (Nat.le_of_ble_eq_true rfl)) md_Mo_hears_198 ⟨Nat.le_of_ble_eq_true rfl, Nat.le_of_ble_eq_true rfl⟩) hS (fun r16 H locs zr16 er16 hP hS => ?_)
        refine lv_if_eq (tgt := 269) hx hb md_Mo_hears_201 (by decide) (fun c_17 => ?_) (fun c_17 => ?_)
        · exact J6  _ _ _ (by rw [hj]; subst er16; simp only [mf_Mo_hears_1_j5, if_pos c_6, if_pos c_15, if_pos c_17])   hI hP hS (lv_sub hl [0, 1, 2, 3, 4] rfl)
        · refine lv_aload_n hx hb md_Mo_hears_204 rfl (lv_at hl 0 rfl) ?_
          refine fw_getr hx hb hts i_Mo hown hK hP (mm_0 (by decide)) (mk_0 0) rfl 21 (by decide) (hts _ L_Mo_71) (fun _ h9 => h9) rfl md_Mo_hears_205 ?_
          refine lv_iload_n hx hb md_Mo_hears_208 rfl (lv_at hl 1 rfl) ?_
          refine lv_iload_n hx hb md_Mo_hears_209 rfl (lv_at hl 3 rfl) ?_
          refine fw_iast hx hb hK hD hP hS (mm_22 (by decide)) (mk_22 0) 0 rfl (j := 1) (by decide) (fw_inc (by decide)) md_Mo_hears_210 (fun v18 H locs ev18 hP hS => ?_)
          have hI : mI b v18 := by rw [ev18]; exact mI_up hI trivial trivial
          refine lv_aload_n hx hb md_Mo_hears_211 rfl (lv_at hl 0 rfl) ?_
          refine fw_getr hx hb hts i_Mo hown hK hP (mm_0 (by decide)) (mk_0 0) rfl 17 (by decide) (hts _ L_Mo_59) (fun _ h9 => h9) rfl md_Mo_hears_212 ?_
          refine lv_iload_n hx hb md_Mo_hears_215 rfl (lv_at hl 1 rfl) ?_
          refine lv_iconst (v := (0 : Int32)) hx hb md_Mo_hears_216 (by decide) ?_
          refine fw_iast hx hb hK hD hP hS (mm_18 (by decide)) (mk_18 0) 0 rfl (j := 1) (by decide) (fw_inc (by decide)) md_Mo_hears_217 (fun v19 H locs ev19 hP hS => ?_)
          have hI : mI b v19 := by rw [ev19]; exact mI_up hI trivial trivial
          refine lv_aload_n hx hb md_Mo_hears_218 rfl (lv_at hl 0 rfl) ?_
          refine fw_getr hx hb hts i_Mo hown hK hP (mm_0 (by decide)) (mk_0 0) rfl 16 (by decide) (hts _ L_Mo_56) (fun _ h9 => h9) rfl md_Mo_hears_219 ?_
          refine lv_iload_n hx hb md_Mo_hears_222 rfl (lv_at hl 1 rfl) ?_
          refine lv_aload_n hx hb md_Mo_hears_223 rfl (lv_at hl 0 rfl) ?_
          refine fw_getr hx hb hts i_Mo hown hK hP (mm_0 (by decide)) (mk_0 0) rfl 9 (by decide) (hts _ L_Mo_38) (fun _ h9 => h9) rfl md_Mo_hears_224 ?_
          refine lv_bipush (v := (6 : Int32)) hx hb md_Mo_hears_227 (by decide) ?_
          refine fw_iald hx hb hK hP (mm_10 (by decide)) (mk_10 0) 0 rfl (j := 6) (by decide) (fw_inc (by decide)) md_Mo_hears_229 ?_
          refine fw_iast hx hb hK hD hP hS (mm_17 (by decide)) (mk_17 0) 0 rfl (j := 1) (by decide) (fw_inc (by decide)) md_Mo_hears_230 (fun v20 H locs ev20 hP hS => ?_)
          have hI : mI b v20 := by rw [ev20]; exact mI_up hI trivial trivial
          refine lv_iconst (v := (0 : Int32)) hx hb md_Mo_hears_231 (by decide) ?_
          refine lv_istore (lv' := [(5, .int (0 : Int32)), (0, .ref (ad 0 0)), (1, .int (1 : Int32)), (2, .int a2), (3, .int a3), (4, .int (v0 12 0 1))]) hx hb md_Mo_hears_232 hl (by decide) rfl (fun ls hl => ?_)
          refine lv_iload hx hb md_Mo_hears_234 (lv_at hl 0 rfl) ?_
          refine lv_bipush (v := (6 : Int32)) hx hb md_Mo_hears_236 (by decide) ?_
          refine lv_icmp_ge (tgt := 266) hx hb md_Mo_hears_238 (by decide) (fun c_21 => absurd c_21 (by decide)) (fun _ => ?_)
          refine lv_aload_n hx hb md_Mo_hears_241 rfl (lv_at hl 1 rfl) ?_
          refine fw_getr hx hb hts i_Mo hown hK hP (mm_0 (by decide)) (mk_0 0) rfl 26 (by decide) (hts _ L_Mo_86) (fun _ h9 => h9) rfl md_Mo_hears_242 ?_
          refine lv_bipush (v := (6 : Int32)) hx hb md_Mo_hears_245 (by decide) ?_
          refine lv_iload_n hx hb md_Mo_hears_247 rfl (lv_at hl 2 rfl) ?_
          refine lv_imul hx hb md_Mo_hears_248 ?_
          refine fw_top (y := (6 : Int32)) (by decide) ?_
          refine lv_iload hx hb md_Mo_hears_249 (lv_at hl 0 rfl) ?_
          refine lv_iadd hx hb md_Mo_hears_251 ?_
          refine fw_top (y := (6 : Int32)) (by decide) ?_
          refine lv_aload_n hx hb md_Mo_hears_252 rfl (lv_at hl 1 rfl) ?_
          refine fw_getr hx hb hts i_Mo hown hK hP (mm_0 (by decide)) (mk_0 0) rfl 9 (by decide) (hts _ L_Mo_38) (fun _ h9 => h9) rfl md_Mo_hears_253 ?_
          refine lv_iload hx hb md_Mo_hears_256 (lv_at hl 0 rfl) ?_
          refine fw_iald hx hb hK hP (mm_10 (by decide)) (mk_10 0) 0 rfl (j := 0) (by decide) (fw_inc (by decide)) md_Mo_hears_258 ?_
          refine fw_iast hx hb hK hD hP hS (mm_27 (by decide)) (mk_27 0) 0 rfl (j := 6) (by decide) (fw_inc (by decide)) md_Mo_hears_259 (fun v22 H locs ev22 hP hS => ?_)
          have hI : mI b v22 := by rw [ev22]; exact mI_up hI trivial trivial
          refine lv_iinc (v := (1 : Int32)) (lv' := [(5, .int (1 : Int32)), (0, .ref (ad 0 0)), (1, .int (1 : Int32)), (2, .int a2), (3, .int a3), (4, .int (v0 12 0 1))]) hx hb md_Mo_hears_260 hl (k := 0) rfl (by decide) (by decide) rfl (fun ls hl => ?_)
          refine lv_goto (tgt := 234) hx hb md_Mo_hears_263 (by decide) ?_
          refine lv_iload hx hb md_Mo_hears_234 (lv_at hl 0 rfl) ?_
          refine lv_bipush (v := (6 : Int32)) hx hb md_Mo_hears_236 (by decide) ?_
          refine lv_icmp_ge (tgt := 266) hx hb md_Mo_hears_238 (by decide) (fun c_23 => absurd c_23 (by decide)) (fun _ => ?_)
          refine lv_aload_n hx hb md_Mo_hears_241 rfl (lv_at hl 1 rfl) ?_
          refine fw_getr hx hb hts i_Mo hown hK hP (mm_0 (by decide)) (mk_0 0) rfl 26 (by decide) (hts _ L_Mo_86) (fun _ h9 => h9) rfl md_Mo_hears_242 ?_
          refine lv_bipush (v := (6 : Int32)) hx hb md_Mo_hears_245 (by decide) ?_
          refine lv_iload_n hx hb md_Mo_hears_247 rfl (lv_at hl 2 rfl) ?_
          refine lv_imul hx hb md_Mo_hears_248 ?_
          refine fw_top (y := (6 : Int32)) (by decide) ?_
          refine lv_iload hx hb md_Mo_hears_249 (lv_at hl 0 rfl) ?_
          refine lv_iadd hx hb md_Mo_hears_251 ?_
          refine fw_top (y := (7 : Int32)) (by decide) ?_
          refine lv_aload_n hx hb md_Mo_hears_252 rfl (lv_at hl 1 rfl) ?_
          refine fw_getr hx hb hts i_Mo hown hK hP (mm_0 (by decide)) (mk_0 0) rfl 9 (by decide) (hts _ L_Mo_38) (fun _ h9 => h9) rfl md_Mo_hears_253 ?_
          refine lv_iload hx hb md_Mo_hears_256 (lv_at hl 0 rfl) ?_
          refine fw_iald hx hb hK hP (mm_10 (by decide)) (mk_10 0) 0 rfl (j := 1) (by decide) (fw_inc (by decide)) md_Mo_hears_258 ?_
          refine fw_iast hx hb hK hD hP hS (mm_27 (by decide)) (mk_27 0) 0 rfl (j := 7) (by decide) (fw_inc (by decide)) md_Mo_hears_259 (fun v24 H locs ev24 hP hS => ?_)
          have hI : mI b v24 := by rw [ev24]; exact mI_up hI trivial trivial
          refine lv_iinc (v := (2 : Int32)) (lv' := [(5, .int (2 : Int32)), (0, .ref (ad 0 0)), (1, .int (1 : Int32)), (2, .int a2), (3, .int a3), (4, .int (v0 12 0 1))]) hx hb md_Mo_hears_260 hl (k := 0) rfl (by decide) (by decide) rfl (fun ls hl => ?_)
          refine lv_goto (tgt := 234) hx hb md_Mo_hears_263 (by decide) ?_
          refine lv_iload hx hb md_Mo_hears_234 (lv_at hl 0 rfl) ?_
          refine lv_bipush (v := (6 : Int32)) hx hb md_Mo_hears_236 (by decide) ?_
          refine lv_icmp_ge (tgt := 266) hx hb md_Mo_hears_238 (by decide) (fun c_25 => absurd c_25 (by decide)) (fun _ => ?_)
          refine lv_aload_n hx hb md_Mo_hears_241 rfl (lv_at hl 1 rfl) ?_
          refine fw_getr hx hb hts i_Mo hown hK hP (mm_0 (by decide)) (mk_0 0) rfl 26 (by decide) (hts _ L_Mo_86) (fun _ h9 => h9) rfl md_Mo_hears_242 ?_
          refine lv_bipush (v := (6 : Int32)) hx hb md_Mo_hears_245 (by decide) ?_
          refine lv_iload_n hx hb md_Mo_hears_247 rfl (lv_at hl 2 rfl) ?_
          refine lv_imul hx hb md_Mo_hears_248 ?_
          refine fw_top (y := (6 : Int32)) (by decide) ?_
          refine lv_iload hx hb md_Mo_hears_249 (lv_at hl 0 rfl) ?_
          refine lv_iadd hx hb md_Mo_hears_251 ?_
          refine fw_top (y := (8 : Int32)) (by decide) ?_
          refine lv_aload_n hx hb md_Mo_hears_252 rfl (lv_at hl 1 rfl) ?_
          refine fw_getr hx hb hts i_Mo hown hK hP (mm_0 (by decide)) (mk_0 0) rfl 9 (by decide) (hts _ L_Mo_38) (fun _ h9 => h9) rfl md_Mo_hears_253 ?_
          refine lv_iload hx hb md_Mo_hears_256 (lv_at hl 0 rfl) ?_
          refine fw_iald hx hb hK hP (mm_10 (by decide)) (mk_10 0) 0 rfl (j := 2) (by decide) (fw_inc (by decide)) md_Mo_hears_258 ?_
          refine fw_iast hx hb hK hD hP hS (mm_27 (by decide)) (mk_27 0) 0 rfl (j := 8) (by decide) (fw_inc (by decide)) md_Mo_hears_259 (fun v26 H locs ev26 hP hS => ?_)
          have hI : mI b v26 := by rw [ev26]; exact mI_up hI trivial trivial
          refine lv_iinc (v := (3 : Int32)) (lv' := [(5, .int (3 : Int32)), (0, .ref (ad 0 0)), (1, .int (1 : Int32)), (2, .int a2), (3, .int a3), (4, .int (v0 12 0 1))]) hx hb md_Mo_hears_260 hl (k := 0) rfl (by decide) (by decide) rfl (fun ls hl => ?_)
          refine lv_goto (tgt := 234) hx hb md_Mo_hears_263 (by decide) ?_
          refine lv_iload hx hb md_Mo_hears_234 (lv_at hl 0 rfl) ?_
          refine lv_bipush (v := (6 : Int32)) hx hb md_Mo_hears_236 (by decide) ?_
          refine lv_icmp_ge (tgt := 266) hx hb md_Mo_hears_238 (by decide) (fun c_27 => absurd c_27 (by decide)) (fun _ => ?_)
          refine lv_aload_n hx hb md_Mo_hears_241 rfl (lv_at hl 1 rfl) ?_
          refine fw_getr hx hb hts i_Mo hown hK hP (mm_0 (by decide)) (mk_0 0) rfl 26 (by decide) (hts _ L_Mo_86) (fun _ h9 => h9) rfl md_Mo_hears_242 ?_
          refine lv_bipush (v := (6 : Int32)) hx hb md_Mo_hears_245 (by decide) ?_
          refine lv_iload_n hx hb md_Mo_hears_247 rfl (lv_at hl 2 rfl) ?_
          refine lv_imul hx hb md_Mo_hears_248 ?_
          refine fw_top (y := (6 : Int32)) (by decide) ?_
          refine lv_iload hx hb md_Mo_hears_249 (lv_at hl 0 rfl) ?_
          refine lv_iadd hx hb md_Mo_hears_251 ?_
          refine fw_top (y := (9 : Int32)) (by decide) ?_
          refine lv_aload_n hx hb md_Mo_hears_252 rfl (lv_at hl 1 rfl) ?_
          refine fw_getr hx hb hts i_Mo hown hK hP (mm_0 (by decide)) (mk_0 0) rfl 9 (by decide) (hts _ L_Mo_38) (fun _ h9 => h9) rfl md_Mo_hears_253 ?_
          refine lv_iload hx hb md_Mo_hears_256 (lv_at hl 0 rfl) ?_
          refine fw_iald hx hb hK hP (mm_10 (by decide)) (mk_10 0) 0 rfl (j := 3) (by decide) (fw_inc (by decide)) md_Mo_hears_258 ?_
          refine fw_iast hx hb hK hD hP hS (mm_27 (by decide)) (mk_27 0) 0 rfl (j := 9) (by decide) (fw_inc (by decide)) md_Mo_hears_259 (fun v28 H locs ev28 hP hS => ?_)
          have hI : mI b v28 := by rw [ev28]; exact mI_up hI trivial trivial
          refine lv_iinc (v := (4 : Int32)) (lv' := [(5, .int (4 : Int32)), (0, .ref (ad 0 0)), (1, .int (1 : Int32)), (2, .int a2), (3, .int a3), (4, .int (v0 12 0 1))]) hx hb md_Mo_hears_260 hl (k := 0) rfl (by decide) (by decide) rfl (fun ls hl => ?_)
          refine lv_goto (tgt := 234) hx hb md_Mo_hears_263 (by decide) ?_
          refine lv_iload hx hb md_Mo_hears_234 (lv_at hl 0 rfl) ?_
          refine lv_bipush (v := (6 : Int32)) hx hb md_Mo_hears_236 (by decide) ?_
          refine lv_icmp_ge (tgt := 266) hx hb md_Mo_hears_238 (by decide) (fun c_29 => absurd c_29 (by decide)) (fun _ => ?_)
          refine lv_aload_n hx hb md_Mo_hears_241 rfl (lv_at hl 1 rfl) ?_
          refine fw_getr hx hb hts i_Mo hown hK hP (mm_0 (by decide)) (mk_0 0) rfl 26 (by decide) (hts _ L_Mo_86) (fun _ h9 => h9) rfl md_Mo_hears_242 ?_
          refine lv_bipush (v := (6 : Int32)) hx hb md_Mo_hears_245 (by decide) ?_
          refine lv_iload_n hx hb md_Mo_hears_247 rfl (lv_at hl 2 rfl) ?_
          refine lv_imul hx hb md_Mo_hears_248 ?_
          refine fw_top (y := (6 : Int32)) (by decide) ?_
          refine lv_iload hx hb md_Mo_hears_249 (lv_at hl 0 rfl) ?_
          refine lv_iadd hx hb md_Mo_hears_251 ?_
          refine fw_top (y := (10 : Int32)) (by decide) ?_
          refine lv_aload_n hx hb md_Mo_hears_252 rfl (lv_at hl 1 rfl) ?_
          refine fw_getr hx hb hts i_Mo hown hK hP (mm_0 (by decide)) (mk_0 0) rfl 9 (by decide) (hts _ L_Mo_38) (fun _ h9 => h9) rfl md_Mo_hears_253 ?_
          refine lv_iload hx hb md_Mo_hears_256 (lv_at hl 0 rfl) ?_
          refine fw_iald hx hb hK hP (mm_10 (by decide)) (mk_10 0) 0 rfl (j := 4) (by decide) (fw_inc (by decide)) md_Mo_hears_258 ?_
          refine fw_iast hx hb hK hD hP hS (mm_27 (by decide)) (mk_27 0) 0 rfl (j := 10) (by decide) (fw_inc (by decide)) md_Mo_hears_259 (fun v30 H locs ev30 hP hS => ?_)
          have hI : mI b v30 := by rw [ev30]; exact mI_up hI trivial trivial
          refine lv_iinc (v := (5 : Int32)) (lv' := [(5, .int (5 : Int32)), (0, .ref (ad 0 0)), (1, .int (1 : Int32)), (2, .int a2), (3, .int a3), (4, .int (v0 12 0 1))]) hx hb md_Mo_hears_260 hl (k := 0) rfl (by decide) (by decide) rfl (fun ls hl => ?_)
          refine lv_goto (tgt := 234) hx hb md_Mo_hears_263 (by decide) ?_
          refine lv_iload hx hb md_Mo_hears_234 (lv_at hl 0 rfl) ?_
          refine lv_bipush (v := (6 : Int32)) hx hb md_Mo_hears_236 (by decide) ?_
          refine lv_icmp_ge (tgt := 266) hx hb md_Mo_hears_238 (by decide) (fun c_31 => absurd c_31 (by decide)) (fun _ => ?_)
          refine lv_aload_n hx hb md_Mo_hears_241 rfl (lv_at hl 1 rfl) ?_
          refine fw_getr hx hb hts i_Mo hown hK hP (mm_0 (by decide)) (mk_0 0) rfl 26 (by decide) (hts _ L_Mo_86) (fun _ h9 => h9) rfl md_Mo_hears_242 ?_
          refine lv_bipush (v := (6 : Int32)) hx hb md_Mo_hears_245 (by decide) ?_
          refine lv_iload_n hx hb md_Mo_hears_247 rfl (lv_at hl 2 rfl) ?_
          refine lv_imul hx hb md_Mo_hears_248 ?_
          refine fw_top (y := (6 : Int32)) (by decide) ?_
          refine lv_iload hx hb md_Mo_hears_249 (lv_at hl 0 rfl) ?_
          refine lv_iadd hx hb md_Mo_hears_251 ?_
          refine fw_top (y := (11 : Int32)) (by decide) ?_
          refine lv_aload_n hx hb md_Mo_hears_252 rfl (lv_at hl 1 rfl) ?_
          refine fw_getr hx hb hts i_Mo hown hK hP (mm_0 (by decide)) (mk_0 0) rfl 9 (by decide) (hts _ L_Mo_38) (fun _ h9 => h9) rfl md_Mo_hears_253 ?_
          refine lv_iload hx hb md_Mo_hears_256 (lv_at hl 0 rfl) ?_
          refine fw_iald hx hb hK hP (mm_10 (by decide)) (mk_10 0) 0 rfl (j := 5) (by decide) (fw_inc (by decide)) md_Mo_hears_258 ?_
          refine fw_iast hx hb hK hD hP hS (mm_27 (by decide)) (mk_27 0) 0 rfl (j := 11) (by decide) (fw_inc (by decide)) md_Mo_hears_259 (fun v32 H locs ev32 hP hS => ?_)
          have hI : mI b v32 := by rw [ev32]; exact mI_up hI trivial trivial
          refine lv_iinc (v := (6 : Int32)) (lv' := [(5, .int (6 : Int32)), (0, .ref (ad 0 0)), (1, .int (1 : Int32)), (2, .int a2), (3, .int a3), (4, .int (v0 12 0 1))]) hx hb md_Mo_hears_260 hl (k := 0) rfl (by decide) (by decide) rfl (fun ls hl => ?_)
          refine lv_goto (tgt := 234) hx hb md_Mo_hears_263 (by decide) ?_
          refine lv_iload hx hb md_Mo_hears_234 (lv_at hl 0 rfl) ?_
          refine lv_bipush (v := (6 : Int32)) hx hb md_Mo_hears_236 (by decide) ?_
          refine lv_icmp_ge (tgt := 266) hx hb md_Mo_hears_238 (by decide) (fun _ => ?_) (fun c_33 => absurd (by decide) c_33)
          refine lv_goto (tgt := 331) hx hb md_Mo_hears_266 (by decide) ?_
          exact fw_vret hx hb hr hlocks hS hP hI md_Mo_hears_331 (by rw [hj]; subst er16 ev18 ev19 ev20 ev22 ev24 ev26 ev28 ev30 ev32; simp only [mf_Mo_hears_1_j5, if_pos c_6, if_pos c_15, if_neg c_17])
  have J4 : ∀  (H : Heap) (locs : List Loc) (ls : Array Slot), mf_Mo_hears_1 v0 a2 a3 = mf_Mo_hears_1_j4 v0 a2 a3 → mI b v0 → va_P D vcls (fw_w mCL cA mkd ad v0) H → va_S (fw_A mCL ad) s.heap H locs → lv_has ls 6 [(0, .ref (ad 0 0)), (1, .int (1 : Int32)), (2, .int a2), (3, .int a3), (4, .int (v0 12 0 1))] → W p l e (headSpec (Cond.code my_Mo_hears mb_Mo_hears 6 none :: vTB) mrm_Mo_hears).room s m ([.ref (ad 0 0), .int (1 : Int32), .int a2, .int a3] : List Value).toArray below meth c H locs 0 0 (MQ below (fw_Qv D vcls mCL cA mkd ad (mI b) (mf_Mo_hears_1 v0 a2 a3)) ([.ref (ad 0 0), .int (1 : Int32), .int a2, .int a3] : List Value).toArray s 0 0 (fw_A mCL ad)) (F0 m 108 ls []) := by
    intro  H locs ls hj  hI hP hS hl
    clear J6
    refine lv_iload_n hx hb md_Mo_hears_108 rfl (lv_at hl 2 rfl) ?_
    refine lv_bipush (v := (10 : Int32)) hx hb md_Mo_hears_109 (by decide) ?_
    refine lv_icmp_ne (tgt := 178) hx hb md_Mo_hears_111 (by decide) (fun c_5 => ?_) (fun c_5 => ?_)
    · exact J5  _ _ _ (by rw [hj]; simp only [mf_Mo_hears_1_j4, if_neg c_5])   hI hP hS (lv_sub hl [0, 1, 2, 3, 4] rfl)
    · refine lv_iload hx hb md_Mo_hears_114 (lv_at hl 4 rfl) ?_
      refine lv_iconst (v := (5 : Int32)) hx hb md_Mo_hears_116 (by decide) ?_
      refine lv_icmp_lt (tgt := 178) hx hb md_Mo_hears_117 (by decide) (fun c_34 => ?_) (fun c_34 => ?_)
      · exact J5  _ _ _ (by rw [hj]; simp only [mf_Mo_hears_1_j4, if_pos c_5, if_pos c_34])   hI hP hS (lv_sub hl [0, 1, 2, 3, 4] rfl)
      · refine lv_aload_n hx hb md_Mo_hears_120 rfl (lv_at hl 0 rfl) ?_
        refine lv_bipush (v := (11 : Int32)) hx hb md_Mo_hears_121 (by decide) ?_
        refine lv_aload_n hx hb md_Mo_hears_123 rfl (lv_at hl 0 rfl) ?_
        refine fw_getr hx hb hts i_Mo hown hK hP (mm_0 (by decide)) (mk_0 0) rfl 12 (by decide) (hts _ L_Mo_44) (fun _ h9 => h9) rfl md_Mo_hears_124 ?_
        refine lv_iload_n hx hb md_Mo_hears_127 rfl (lv_at hl 1 rfl) ?_
        refine fw_iald hx hb hK hP (mm_13 (by decide)) (mk_13 0) 0 rfl (j := 1) (by decide) (fw_inc (by decide)) md_Mo_hears_128 ?_
        refine lv_iconst (v := (0 : Int32)) hx hb md_Mo_hears_129 (by decide) ?_
        refine lv_aload_n hx hb md_Mo_hears_130 rfl (lv_at hl 0 rfl) ?_
        refine fw_getr hx hb hts i_Mo hown hK hP (mm_0 (by decide)) (mk_0 0) rfl 14 (by decide) (hts _ L_Mo_50) (fun _ h9 => h9) rfl md_Mo_hears_131 ?_
        refine lv_iload_n hx hb md_Mo_hears_134 rfl (lv_at hl 1 rfl) ?_
        refine fw_iald hx hb hK hP (mm_15 (by decide)) (mk_15 0) 0 rfl (j := 1) (by decide) (fw_inc (by decide)) md_Mo_hears_135 ?_
        refine fw_cv (va_runV (As := [.int (11 : Int32), .int (v0 13 0 1), .int (0 : Int32), .int (v0 15 0 1)]) (rest := []) ⟨hx, hb, hml, hown, hts⟩ (mc_Mo_send l hD v0 hI (11 : Int32) (v0 13 0 1) (0 : Int32) (v0 15 0 1) (fun q => absurd q (by decide)) (fun q => absurd q (by decide)) (fun q => absurd q (by decide))) (mw_Mo_send hts L_Mo_197 ⟨Nat.le_of_ble_eq_true rfl, Nat.le_of_ble_eq_true rfl⟩) (fw_preV hN hK hP (mm_0 (by decide)) (mk_0 0) rfl) rfl rfl hl.1 rfl (lv_room (Nat.le_of_ble_eq_true rfl)) md_Mo_hears_136 ⟨Nat.le_of_ble_eq_true rfl, Nat.le_of_ble_eq_true rfl⟩) hS (fun v35 H locs ev35 hI hP hS => ?_)
        refine lv_iload hx hb md_Mo_hears_139 (lv_at hl 4 rfl) ?_
        refine lv_bipush (v := (6 : Int32)) hx hb md_Mo_hears_141 (by decide) ?_
        refine lv_icmp_ne (tgt := 147) hx hb md_Mo_hears_143 (by decide) (fun c_36 => ?_) (fun c_36 => ?_)
        · refine lv_aload_n hx hb md_Mo_hears_147 rfl (lv_at hl 0 rfl) ?_
          refine lv_iload_n hx hb md_Mo_hears_148 rfl (lv_at hl 1 rfl) ?_
          refine lv_bipush (v := (6 : Int32)) hx hb md_Mo_hears_149 (by decide) ?_
          refine fw_cv (va_runV (As := [.int (1 : Int32), .int (6 : Int32)]) (rest := []) ⟨hx, hb, hml, hown, hts⟩ (mc_Mo_enter_1 l hD (b := b) v35 (6 : Int32) (mI b) (mI_enter_1 hI (6 : Int32) (by decide))) (mw_Mo_enter hts L_Mo_200 ⟨Nat.le_of_ble_eq_true rfl, Nat.le_of_ble_eq_true rfl⟩) (fw_preV hN hK hP (mm_0 (by decide)) (mk_0 0) rfl) rfl rfl hl.1 rfl (lv_room (Nat.le_of_ble_eq_true rfl)) md_Mo_hears_151 ⟨Nat.le_of_ble_eq_true rfl, Nat.le_of_ble_eq_true rfl⟩) hS (fun v37 H locs ev37 hI hP hS => ?_)
          refine lv_aload_n hx hb md_Mo_hears_154 rfl (lv_at hl 0 rfl) ?_
          refine fw_getr hx hb hts i_Mo hown hK hP (mm_0 (by decide)) (mk_0 0) rfl 20 (by decide) (hts _ L_Mo_68) (fun _ h9 => h9) rfl md_Mo_hears_155 ?_
          refine lv_iload_n hx hb md_Mo_hears_158 rfl (lv_at hl 1 rfl) ?_
          refine lv_iconst (v := (0 : Int32)) hx hb md_Mo_hears_159 (by decide) ?_
          refine fw_iast hx hb hK hD hP hS (mm_21 (by decide)) (mk_21 0) 0 rfl (j := 1) (by decide) (fw_inc (by decide)) md_Mo_hears_160 (fun v38 H locs ev38 hP hS => ?_)
          have hI : mI b v38 := by rw [ev38]; exact mI_up hI trivial trivial
          refine lv_aload_n hx hb md_Mo_hears_161 rfl (lv_at hl 0 rfl) ?_
          refine fw_getr hx hb hts i_Mo hown hK hP (mm_0 (by decide)) (mk_0 0) rfl 21 (by decide) (hts _ L_Mo_71) (fun _ h9 => h9) rfl md_Mo_hears_162 ?_
          refine lv_iload_n hx hb md_Mo_hears_165 rfl (lv_at hl 1 rfl) ?_
          refine lv_iconst (v := (-1 : Int32)) hx hb md_Mo_hears_166 (by decide) ?_
          refine fw_iast hx hb hK hD hP hS (mm_22 (by decide)) (mk_22 0) 0 rfl (j := 1) (by decide) (fw_inc (by decide)) md_Mo_hears_167 (fun v39 H locs ev39 hP hS => ?_)
          have hI : mI b v39 := by rw [ev39]; exact mI_up hI trivial trivial
          refine lv_aload_n hx hb md_Mo_hears_168 rfl (lv_at hl 0 rfl) ?_
          refine fw_getr hx hb hts i_Mo hown hK hP (mm_0 (by decide)) (mk_0 0) rfl 16 (by decide) (hts _ L_Mo_56) (fun _ h9 => h9) rfl md_Mo_hears_169 ?_
          refine lv_iload_n hx hb md_Mo_hears_172 rfl (lv_at hl 1 rfl) ?_
          refine lv_iconst (v := (0 : Int32)) hx hb md_Mo_hears_173 (by decide) ?_
          refine fw_iast hx hb hK hD hP hS (mm_17 (by decide)) (mk_17 0) 0 rfl (j := 1) (by decide) (fw_inc (by decide)) md_Mo_hears_174 (fun v40 H locs ev40 hP hS => ?_)
          have hI : mI b v40 := by rw [ev40]; exact mI_up hI trivial trivial
          refine lv_goto (tgt := 331) hx hb md_Mo_hears_175 (by decide) ?_
          exact fw_vret hx hb hr hlocks hS hP hI md_Mo_hears_331 (by rw [hj]; subst ev35 ev37 ev38 ev39 ev40; simp only [mf_Mo_hears_1_j4, if_pos c_5, if_neg c_34, if_neg c_36])
        · exact fw_vret hx hb hr hlocks hS hP hI md_Mo_hears_146 (by rw [hj]; subst ev35; simp only [mf_Mo_hears_1_j4, if_pos c_5, if_neg c_34, if_pos c_36])
  have J3 : ∀  (H : Heap) (locs : List Loc) (ls : Array Slot), mf_Mo_hears_1 v0 a2 a3 = mf_Mo_hears_1_j3 v0 a2 a3 → mI b v0 → va_P D vcls (fw_w mCL cA mkd ad v0) H → va_S (fw_A mCL ad) s.heap H locs → lv_has ls 6 [(0, .ref (ad 0 0)), (1, .int (1 : Int32)), (2, .int a2), (3, .int a3), (4, .int (v0 12 0 1))] → W p l e (headSpec (Cond.code my_Mo_hears mb_Mo_hears 6 none :: vTB) mrm_Mo_hears).room s m ([.ref (ad 0 0), .int (1 : Int32), .int a2, .int a3] : List Value).toArray below meth c H locs 0 0 (MQ below (fw_Qv D vcls mCL cA mkd ad (mI b) (mf_Mo_hears_1 v0 a2 a3)) ([.ref (ad 0 0), .int (1 : Int32), .int a2, .int a3] : List Value).toArray s 0 0 (fw_A mCL ad)) (F0 m 87 ls []) := by
    intro  H locs ls hj  hI hP hS hl
    clear J6 J5
    refine lv_iload_n hx hb md_Mo_hears_87 rfl (lv_at hl 2 rfl) ?_
    refine lv_bipush (v := (9 : Int32)) hx hb md_Mo_hears_88 (by decide) ?_
    refine lv_icmp_ne (tgt := 108) hx hb md_Mo_hears_90 (by decide) (fun c_4 => ?_) (fun c_4 => ?_)
    · exact J4  _ _ _ (by rw [hj]; simp only [mf_Mo_hears_1_j3, if_neg c_4])   hI hP hS (lv_sub hl [0, 1, 2, 3, 4] rfl)
    · refine lv_iload hx hb md_Mo_hears_93 (lv_at hl 4 rfl) ?_
      refine lv_iconst (v := (4 : Int32)) hx hb md_Mo_hears_95 (by decide) ?_
      refine lv_icmp_ne (tgt := 108) hx hb md_Mo_hears_96 (by decide) (fun c_41 => ?_) (fun c_41 => ?_)
      · exact J4  _ _ _ (by rw [hj]; simp only [mf_Mo_hears_1_j3, if_pos c_4, if_neg c_41])   hI hP hS (lv_sub hl [0, 1, 2, 3, 4] rfl)
      · refine lv_aload_n hx hb md_Mo_hears_99 rfl (lv_at hl 0 rfl) ?_
        refine lv_iload_n hx hb md_Mo_hears_100 rfl (lv_at hl 1 rfl) ?_
        refine lv_iconst (v := (5 : Int32)) hx hb md_Mo_hears_101 (by decide) ?_
        refine fw_cv (va_runV (As := [.int (1 : Int32), .int (5 : Int32)]) (rest := []) ⟨hx, hb, hml, hown, hts⟩ (mc_Mo_enter_1 l hD (b := b) v0 (5 : Int32) (mI b) (mI_enter_1 hI (5 : Int32) (by decide))) (mw_Mo_enter hts L_Mo_200 ⟨Nat.le_of_ble_eq_true rfl, Nat.le_of_ble_eq_true rfl⟩) (fw_preV hN hK hP (mm_0 (by decide)) (mk_0 0) rfl) rfl rfl hl.1 rfl (lv_room (Nat.le_of_ble_eq_true rfl)) md_Mo_hears_102 ⟨Nat.le_of_ble_eq_true rfl, Nat.le_of_ble_eq_true rfl⟩) hS (fun v42 H locs ev42 hI hP hS => ?_)
        refine lv_goto (tgt := 331) hx hb md_Mo_hears_105 (by decide) ?_
        exact fw_vret hx hb hr hlocks hS hP hI md_Mo_hears_331 (by rw [hj]; subst ev42; simp only [mf_Mo_hears_1_j3, if_pos c_4, if_pos c_41])
  have J2 : ∀  (H : Heap) (locs : List Loc) (ls : Array Slot), mf_Mo_hears_1 v0 a2 a3 = mf_Mo_hears_1_j2 v0 a2 a3 → mI b v0 → va_P D vcls (fw_w mCL cA mkd ad v0) H → va_S (fw_A mCL ad) s.heap H locs → lv_has ls 6 [(0, .ref (ad 0 0)), (1, .int (1 : Int32)), (2, .int a2), (3, .int a3), (4, .int (v0 12 0 1))] → W p l e (headSpec (Cond.code my_Mo_hears mb_Mo_hears 6 none :: vTB) mrm_Mo_hears).room s m ([.ref (ad 0 0), .int (1 : Int32), .int a2, .int a3] : List Value).toArray below meth c H locs 0 0 (MQ below (fw_Qv D vcls mCL cA mkd ad (mI b) (mf_Mo_hears_1 v0 a2 a3)) ([.ref (ad 0 0), .int (1 : Int32), .int a2, .int a3] : List Value).toArray s 0 0 (fw_A mCL ad)) (F0 m 54 ls []) := by
    intro  H locs ls hj  hI hP hS hl
    clear J6 J5 J4
    refine lv_iload_n hx hb md_Mo_hears_54 rfl (lv_at hl 2 rfl) ?_
    refine lv_bipush (v := (7 : Int32)) hx hb md_Mo_hears_55 (by decide) ?_
    refine lv_icmp_ne (tgt := 87) hx hb md_Mo_hears_57 (by decide) (fun c_3 => ?_) (fun c_3 => ?_)
    · exact J3  _ _ _ (by rw [hj]; simp only [mf_Mo_hears_1_j2, if_neg c_3])   hI hP hS (lv_sub hl [0, 1, 2, 3, 4] rfl)
    · refine lv_iload hx hb md_Mo_hears_60 (lv_at hl 4 rfl) ?_
      refine lv_iconst (v := (3 : Int32)) hx hb md_Mo_hears_62 (by decide) ?_
      refine lv_icmp_ne (tgt := 87) hx hb md_Mo_hears_63 (by decide) (fun c_43 => ?_) (fun c_43 => ?_)
      · exact J3  _ _ _ (by rw [hj]; simp only [mf_Mo_hears_1_j2, if_pos c_3, if_neg c_43])   hI hP hS (lv_sub hl [0, 1, 2, 3, 4] rfl)
      · have h_44 : vp_in (v0 20 0 1) 3 := hI.2.2.1 1 c_43
        refine lv_iload_n hx hb md_Mo_hears_66 rfl (lv_at hl 3 rfl) ?_
        refine lv_aload_n hx hb md_Mo_hears_67 rfl (lv_at hl 0 rfl) ?_
        refine fw_getr hx hb hts i_Mo hown hK hP (mm_0 (by decide)) (mk_0 0) rfl 19 (by decide) (hts _ L_Mo_65) (fun _ h9 => h9) rfl md_Mo_hears_68 ?_
        refine lv_iload_n hx hb md_Mo_hears_71 rfl (lv_at hl 1 rfl) ?_
        refine fw_iald hx hb hK hP (mm_20 (by decide)) (mk_20 0) 0 rfl (j := 1) (by decide) (fw_inc (by decide)) md_Mo_hears_72 ?_
        have h_45 : vp_in (v0 20 0 1) 4 := hI.1 20 0 (1)
        refine lv_icmp_ne (tgt := 87) hx hb md_Mo_hears_73 (by decide) (fun c_46 => ?_) (fun c_46 => ?_)
        · exact J3  _ _ _ (by rw [hj]; simp only [mf_Mo_hears_1_j2, if_pos c_3, if_pos c_43, if_neg c_46])   hI hP hS (lv_sub hl [0, 1, 2, 3, 4] rfl)
        · have h_47 : vp_in a3 3 := by rw [c_46]; exact h_44
          refine lv_aload_n hx hb md_Mo_hears_76 rfl (lv_at hl 0 rfl) ?_
          refine lv_iload_n hx hb md_Mo_hears_77 rfl (lv_at hl 1 rfl) ?_
          refine lv_iload_n hx hb md_Mo_hears_78 rfl (lv_at hl 3 rfl) ?_
          refine lv_iconst (v := (1 : Int32)) hx hb md_Mo_hears_79 (by decide) ?_
          refine lv_iadd hx hb md_Mo_hears_80 ?_
          refine fw_cv (va_runV (As := [.int (1 : Int32), .int (a3 + (1 : Int32))]) (rest := []) ⟨hx, hb, hml, hown, hts⟩ (mc_Mo_write_1 l hD v0 hI (a3 + (1 : Int32)) (fw_inp1 h_47 (by decide))) (mw_Mo_write hts L_Mo_222 ⟨Nat.le_of_ble_eq_true rfl, Nat.le_of_ble_eq_true rfl⟩) (fw_preV hN hK hP (mm_0 (by decide)) (mk_0 0) rfl) rfl rfl hl.1 rfl (lv_room (Nat.le_of_ble_eq_true rfl)) md_Mo_hears_81 ⟨Nat.le_of_ble_eq_true rfl, Nat.le_of_ble_eq_true rfl⟩) hS (fun v48 H locs ev48 hI hP hS => ?_)
          refine lv_goto (tgt := 331) hx hb md_Mo_hears_84 (by decide) ?_
          exact fw_vret hx hb hr hlocks hS hP hI md_Mo_hears_331 (by rw [hj]; subst ev48; simp only [mf_Mo_hears_1_j2, if_pos c_3, if_pos c_43, if_pos c_46])
  have J1 : ∀  (H : Heap) (locs : List Loc) (ls : Array Slot), mf_Mo_hears_1 v0 a2 a3 = mf_Mo_hears_1_j1 v0 a2 a3 → mI b v0 → va_P D vcls (fw_w mCL cA mkd ad v0) H → va_S (fw_A mCL ad) s.heap H locs → lv_has ls 6 [(0, .ref (ad 0 0)), (1, .int (1 : Int32)), (2, .int a2), (3, .int a3), (4, .int (v0 12 0 1))] → W p l e (headSpec (Cond.code my_Mo_hears mb_Mo_hears 6 none :: vTB) mrm_Mo_hears).room s m ([.ref (ad 0 0), .int (1 : Int32), .int a2, .int a3] : List Value).toArray below meth c H locs 0 0 (MQ below (fw_Qv D vcls mCL cA mkd ad (mI b) (mf_Mo_hears_1 v0 a2 a3)) ([.ref (ad 0 0), .int (1 : Int32), .int a2, .int a3] : List Value).toArray s 0 0 (fw_A mCL ad)) (F0 m 35 ls []) := by
    intro  H locs ls hj  hI hP hS hl
    clear J6 J5 J4 J3
    refine lv_iload_n hx hb md_Mo_hears_35 rfl (lv_at hl 2 rfl) ?_
    refine lv_iconst (v := (5 : Int32)) hx hb md_Mo_hears_36 (by decide) ?_
    refine lv_icmp_ne (tgt := 54) hx hb md_Mo_hears_37 (by decide) (fun c_2 => ?_) (fun c_2 => ?_)
    · exact J2  _ _ _ (by rw [hj]; simp only [mf_Mo_hears_1_j1, if_neg c_2])   hI hP hS (lv_sub hl [0, 1, 2, 3, 4] rfl)
    · refine lv_iload hx hb md_Mo_hears_40 (lv_at hl 4 rfl) ?_
      refine lv_iconst (v := (2 : Int32)) hx hb md_Mo_hears_42 (by decide) ?_
      refine lv_icmp_ne (tgt := 54) hx hb md_Mo_hears_43 (by decide) (fun c_49 => ?_) (fun c_49 => ?_)
      · exact J2  _ _ _ (by rw [hj]; simp only [mf_Mo_hears_1_j1, if_pos c_2, if_neg c_49])   hI hP hS (lv_sub hl [0, 1, 2, 3, 4] rfl)
      · refine lv_aload_n hx hb md_Mo_hears_46 rfl (lv_at hl 0 rfl) ?_
        refine lv_iload_n hx hb md_Mo_hears_47 rfl (lv_at hl 1 rfl) ?_
        refine fw_cv (va_runV (As := [.int (1 : Int32)]) (rest := []) ⟨hx, hb, hml, hown, hts⟩ (mc_Mo_shut_1 l hD v0 hI ) (mw_Mo_shut hts L_Mo_203 ⟨Nat.le_of_ble_eq_true rfl, Nat.le_of_ble_eq_true rfl⟩) (fw_preV hN hK hP (mm_0 (by decide)) (mk_0 0) rfl) rfl rfl hl.1 rfl (lv_room (Nat.le_of_ble_eq_true rfl)) md_Mo_hears_48 ⟨Nat.le_of_ble_eq_true rfl, Nat.le_of_ble_eq_true rfl⟩) hS (fun v50 H locs ev50 hI hP hS => ?_)
        refine lv_goto (tgt := 331) hx hb md_Mo_hears_51 (by decide) ?_
        exact fw_vret hx hb hr hlocks hS hP hI md_Mo_hears_331 (by rw [hj]; subst ev50; simp only [mf_Mo_hears_1_j1, if_pos c_2, if_pos c_49])
  clear J6 J5 J4 J3 J2
  have hl := lv_entry ([.ref (ad 0 0), .int (1 : Int32), .int a2, .int a3]) (n := 6) (Nat.le_of_ble_eq_true rfl)
  rw [lg_entry_eq]
  generalize (lg_sl ([.ref (ad 0 0), .int (1 : Int32), .int a2, .int a3]) ++ List.replicate (6 - (lg_sl ([.ref (ad 0 0), .int (1 : Int32), .int a2, .int a3])).length) Slot.unset).toArray = ls at hl ⊢
  have hl : lv_has ls 6 [(0, .ref (ad 0 0)), (1, .int (1 : Int32)), (2, .int a2), (3, .int a3)] := hl
  refine lv_aload_n hx hb md_Mo_hears_0 rfl (lv_at hl 0 rfl) ?_
  refine fw_getr hx hb hts i_Mo hown hK hP (mm_0 (by decide)) (mk_0 0) rfl 11 (by decide) (hts _ L_Mo_41) (fun _ h9 => h9) rfl md_Mo_hears_1 ?_
  refine lv_iload_n hx hb md_Mo_hears_4 rfl (lv_at hl 1 rfl) ?_
  refine fw_iald hx hb hK hP (mm_12 (by decide)) (mk_12 0) 0 rfl (j := 1) (by decide) (fw_inc (by decide)) md_Mo_hears_5 ?_
  refine lv_istore (lv' := [(4, .int (v0 12 0 1)), (0, .ref (ad 0 0)), (1, .int (1 : Int32)), (2, .int a2), (3, .int a3)]) hx hb md_Mo_hears_6 hl (by decide) rfl (fun ls hl => ?_)
  refine lv_iload_n hx hb md_Mo_hears_8 rfl (lv_at hl 3 rfl) ?_
  refine lv_iconst (v := (4 : Int32)) hx hb md_Mo_hears_9 (by decide) ?_
  refine lv_icmp_ne (tgt := 35) hx hb md_Mo_hears_10 (by decide) (fun c_1 => ?_) (fun c_1 => ?_)
  · exact J1  _ _ _ (by simp only [mf_Mo_hears_1, if_neg c_1])   hI hP hS (lv_sub hl [1, 2, 3, 4, 0] rfl)
  · refine lv_iload hx hb md_Mo_hears_13 (lv_at hl 0 rfl) ?_
    refine lv_iconst (v := (2 : Int32)) hx hb md_Mo_hears_15 (by decide) ?_
    refine lv_icmp_ne (tgt := 35) hx hb md_Mo_hears_16 (by decide) (fun c_51 => ?_) (fun c_51 => ?_)
    · exact J1  _ _ _ (by simp only [mf_Mo_hears_1, if_pos c_1, if_neg c_51])   hI hP hS (lv_sub hl [1, 2, 3, 4, 0] rfl)
    · refine lv_aload_n hx hb md_Mo_hears_19 rfl (lv_at hl 1 rfl) ?_
      refine fw_getr hx hb hts i_Mo hown hK hP (mm_0 (by decide)) (mk_0 0) rfl 15 (by decide) (hts _ L_Mo_53) (fun _ h9 => h9) rfl md_Mo_hears_20 ?_
      refine lv_iload_n hx hb md_Mo_hears_23 rfl (lv_at hl 2 rfl) ?_
      refine lv_iload_n hx hb md_Mo_hears_24 rfl (lv_at hl 4 rfl) ?_
      refine fw_iast hx hb hK hD hP hS (mm_16 (by decide)) (mk_16 0) 0 rfl (j := 1) (by decide) (fw_inc (by decide)) md_Mo_hears_25 (fun v52 H locs ev52 hP hS => ?_)
      have hI : mI b v52 := by rw [ev52]; exact mI_up hI trivial trivial
      refine lv_aload_n hx hb md_Mo_hears_26 rfl (lv_at hl 1 rfl) ?_
      refine lv_iload_n hx hb md_Mo_hears_27 rfl (lv_at hl 2 rfl) ?_
      refine lv_iconst (v := (0 : Int32)) hx hb md_Mo_hears_28 (by decide) ?_
      refine fw_cv (va_runV (As := [.int (1 : Int32), .int (0 : Int32)]) (rest := []) ⟨hx, hb, hml, hown, hts⟩ (mc_Mo_write_1 l hD v52 hI (0 : Int32) (fw_inc (by decide))) (mw_Mo_write hts L_Mo_222 ⟨Nat.le_of_ble_eq_true rfl, Nat.le_of_ble_eq_true rfl⟩) (fw_preV hN hK hP (mm_0 (by decide)) (mk_0 0) rfl) rfl rfl hl.1 rfl (lv_room (Nat.le_of_ble_eq_true rfl)) md_Mo_hears_29 ⟨Nat.le_of_ble_eq_true rfl, Nat.le_of_ble_eq_true rfl⟩) hS (fun v53 H locs ev53 hI hP hS => ?_)
      refine lv_goto (tgt := 331) hx hb md_Mo_hears_32 (by decide) ?_
      exact fw_vret hx hb hr hlocks hS hP hI md_Mo_hears_331 (by subst ev52 ev53; simp only [mf_Mo_hears_1, if_pos c_1, if_pos c_51])
def mf_Mo_controller_j7 (v0 : fw_V) (a1 : Int32) (a2 : Int32) (a3 : Int32)  : fw_V :=
  v0
def mf_Mo_controller_j6 (v0 : fw_V) (a1 : Int32) (a2 : Int32) (a3 : Int32)  : fw_V :=
  mf_Mo_controller_j7 v0 a1 a2 a3
def mf_Mo_controller_j9 (v : fw_V) (a1 : Int32) (a2 : Int32) (a3 : Int32)  : fw_V :=
  v
def mf_Mo_controller_j8 (v : fw_V) (a1 : Int32) (a2 : Int32) (a3 : Int32)  : fw_V :=
  mf_Mo_controller_j9 v a1 a2 a3
def mf_Mo_controller_j5 (v0 : fw_V) (a1 : Int32) (a2 : Int32) (a3 : Int32)  : fw_V :=
  if a1 = (2 : Int32) then
    mf_Mo_controller_j6 v0 a1 a2 a3
  else
    if (v0 12 0 1) = (0 : Int32) then
      mf_Mo_controller_j6 v0 a1 a2 a3
    else
      if (v0 13 0 1) = a2 then
        let v10 := mf_Mo_hears_1 v0 a1 a3
        mf_Mo_controller_j8 v10 a1 a2 a3
      else
        mf_Mo_controller_j6 v0 a1 a2 a3
def mf_Mo_controller_j4 (v0 : fw_V) (a1 : Int32) (a2 : Int32) (a3 : Int32)  : fw_V :=
  if a1 = (2 : Int32) then
    if (v0 12 0 1) = (1 : Int32) then
      if (v0 14 0 1) = (v0 10 0 0) then
        let v14 := mf_Mo_enter_1 v0 (2 : Int32)
        let v15 := fw_up v14 15 0 (1) a3
        let v16 := mf_Mo_ask_1 v15
        mf_Mo_controller_j8 v16 a1 a2 a3
      else
        mf_Mo_controller_j5 v0 a1 a2 a3
    else
      mf_Mo_controller_j5 v0 a1 a2 a3
  else
    mf_Mo_controller_j5 v0 a1 a2 a3
def mf_Mo_controller_j3 (v0 : fw_V) (a1 : Int32) (a2 : Int32) (a3 : Int32)  : fw_V :=
  mf_Mo_controller_j4 v0 a1 a2 a3
def mf_Mo_controller_j12 (v : fw_V) (a1 : Int32) (a2 : Int32) (a3 : Int32)  : fw_V :=
  if a1 = (2 : Int32) then
    mf_Mo_controller_j8 v a1 a2 a3
  else
    if (v 12 0 1) = (0 : Int32) then
      mf_Mo_controller_j8 v a1 a2 a3
    else
      if (v 13 0 1) = a2 then
        let v25 := mf_Mo_hears_1 v a1 a3
        mf_Mo_controller_j8 v25 a1 a2 a3
      else
        mf_Mo_controller_j8 v a1 a2 a3
def mf_Mo_controller_j11 (v : fw_V) (a1 : Int32) (a2 : Int32) (a3 : Int32)  : fw_V :=
  if a1 = (2 : Int32) then
    if (v 12 0 1) = (1 : Int32) then
      if (v 14 0 1) = (v 10 0 0) then
        let v28 := mf_Mo_enter_1 v (2 : Int32)
        let v29 := fw_up v28 15 0 (1) a3
        let v30 := mf_Mo_ask_1 v29
        mf_Mo_controller_j8 v30 a1 a2 a3
      else
        mf_Mo_controller_j12 v a1 a2 a3
    else
      mf_Mo_controller_j12 v a1 a2 a3
  else
    mf_Mo_controller_j12 v a1 a2 a3
def mf_Mo_controller_j10 (v : fw_V) (a1 : Int32) (a2 : Int32) (a3 : Int32)  : fw_V :=
  mf_Mo_controller_j11 v a1 a2 a3
def mf_Mo_controller_j2 (v0 : fw_V) (a1 : Int32) (a2 : Int32) (a3 : Int32)  : fw_V :=
  if a1 = (2 : Int32) then
    mf_Mo_controller_j3 v0 a1 a2 a3
  else
    if (v0 12 0 0) = (0 : Int32) then
      mf_Mo_controller_j3 v0 a1 a2 a3
    else
      if (v0 13 0 0) = a2 then
        let v19 := mf_Mo_hears_0 v0 a1 a3
        mf_Mo_controller_j10 v19 a1 a2 a3
      else
        mf_Mo_controller_j3 v0 a1 a2 a3
def mf_Mo_controller_j1 (v0 : fw_V) (a1 : Int32) (a2 : Int32) (a3 : Int32)  : fw_V :=
  if a1 = (2 : Int32) then
    if (v0 12 0 0) = (1 : Int32) then
      if (v0 14 0 0) = (v0 10 0 0) then
        let v33 := mf_Mo_enter_0 v0 (2 : Int32)
        let v34 := fw_up v33 15 0 (0) a3
        let v35 := mf_Mo_ask_0 v34
        mf_Mo_controller_j10 v35 a1 a2 a3
      else
        mf_Mo_controller_j2 v0 a1 a2 a3
    else
      mf_Mo_controller_j2 v0 a1 a2 a3
  else
    mf_Mo_controller_j2 v0 a1 a2 a3
def mf_Mo_controller (v0 : fw_V) (a1 : Int32) (a2 : Int32) (a3 : Int32) : fw_V :=
  mf_Mo_controller_j1 v0 a1 a2 a3

theorem mca_Mo_controller_j7 {v0 : fw_V} {a1 : Int32} {a2 : Int32} {a3 : Int32} {i k : Nat} : mf_Mo_controller_j7 v0 a1 a2 a3 10 i k = v0 10 i k := by
  unfold mf_Mo_controller_j7
  try dsimp only
  all_goals ((repeat' split) <;> simp [fw_up, fw_row])
theorem mca_Mo_controller_j6 {v0 : fw_V} {a1 : Int32} {a2 : Int32} {a3 : Int32} {i k : Nat} : mf_Mo_controller_j6 v0 a1 a2 a3 10 i k = v0 10 i k := by
  unfold mf_Mo_controller_j6
  try dsimp only
  all_goals ((repeat' split) <;> simp [fw_up, fw_row, mca_Mo_controller_j7])
theorem mca_Mo_controller_j9 {v : fw_V} {a1 : Int32} {a2 : Int32} {a3 : Int32} {i k : Nat} : mf_Mo_controller_j9 v a1 a2 a3 10 i k = v 10 i k := by
  unfold mf_Mo_controller_j9
  try dsimp only
  all_goals ((repeat' split) <;> simp [fw_up, fw_row])
theorem mca_Mo_controller_j8 {v : fw_V} {a1 : Int32} {a2 : Int32} {a3 : Int32} {i k : Nat} : mf_Mo_controller_j8 v a1 a2 a3 10 i k = v 10 i k := by
  unfold mf_Mo_controller_j8
  try dsimp only
  all_goals ((repeat' split) <;> simp [fw_up, fw_row, mca_Mo_controller_j9])
theorem mca_Mo_controller_j5 {v0 : fw_V} {a1 : Int32} {a2 : Int32} {a3 : Int32} {i k : Nat} : mf_Mo_controller_j5 v0 a1 a2 a3 10 i k = v0 10 i k := by
  unfold mf_Mo_controller_j5
  try dsimp only
  all_goals ((repeat' split) <;> simp [fw_up, fw_row, mca_Mo_controller_j6, mca_Mo_hears_1, mca_Mo_controller_j8])
theorem mca_Mo_controller_j4 {v0 : fw_V} {a1 : Int32} {a2 : Int32} {a3 : Int32} {i k : Nat} : mf_Mo_controller_j4 v0 a1 a2 a3 10 i k = v0 10 i k := by
  unfold mf_Mo_controller_j4
  try dsimp only
  all_goals ((repeat' split) <;> simp [fw_up, fw_row, mca_Mo_enter_1, mca_Mo_ask_1, mca_Mo_controller_j8, mca_Mo_controller_j5])
theorem mca_Mo_controller_j3 {v0 : fw_V} {a1 : Int32} {a2 : Int32} {a3 : Int32} {i k : Nat} : mf_Mo_controller_j3 v0 a1 a2 a3 10 i k = v0 10 i k := by
  unfold mf_Mo_controller_j3
  try dsimp only
  all_goals ((repeat' split) <;> simp [fw_up, fw_row, mca_Mo_controller_j4])
theorem mca_Mo_controller_j12 {v : fw_V} {a1 : Int32} {a2 : Int32} {a3 : Int32} {i k : Nat} : mf_Mo_controller_j12 v a1 a2 a3 10 i k = v 10 i k := by
  unfold mf_Mo_controller_j12
  try dsimp only
  all_goals ((repeat' split) <;> simp [fw_up, fw_row, mca_Mo_controller_j8, mca_Mo_hears_1])
theorem mca_Mo_controller_j11 {v : fw_V} {a1 : Int32} {a2 : Int32} {a3 : Int32} {i k : Nat} : mf_Mo_controller_j11 v a1 a2 a3 10 i k = v 10 i k := by
  unfold mf_Mo_controller_j11
  try dsimp only
  all_goals ((repeat' split) <;> simp [fw_up, fw_row, mca_Mo_enter_1, mca_Mo_ask_1, mca_Mo_controller_j8, mca_Mo_controller_j12])
theorem mca_Mo_controller_j10 {v : fw_V} {a1 : Int32} {a2 : Int32} {a3 : Int32} {i k : Nat} : mf_Mo_controller_j10 v a1 a2 a3 10 i k = v 10 i k := by
  unfold mf_Mo_controller_j10
  try dsimp only
  all_goals ((repeat' split) <;> simp [fw_up, fw_row, mca_Mo_controller_j11])
theorem mca_Mo_controller_j2 {v0 : fw_V} {a1 : Int32} {a2 : Int32} {a3 : Int32} {i k : Nat} : mf_Mo_controller_j2 v0 a1 a2 a3 10 i k = v0 10 i k := by
  unfold mf_Mo_controller_j2
  try dsimp only
  all_goals ((repeat' split) <;> simp [fw_up, fw_row, mca_Mo_controller_j3, mca_Mo_hears_0, mca_Mo_controller_j10])
theorem mca_Mo_controller_j1 {v0 : fw_V} {a1 : Int32} {a2 : Int32} {a3 : Int32} {i k : Nat} : mf_Mo_controller_j1 v0 a1 a2 a3 10 i k = v0 10 i k := by
  unfold mf_Mo_controller_j1
  try dsimp only
  all_goals ((repeat' split) <;> simp [fw_up, fw_row, mca_Mo_enter_0, mca_Mo_ask_0, mca_Mo_controller_j10, mca_Mo_controller_j2])
theorem mca_Mo_controller {v0 : fw_V} {a1 : Int32} {a2 : Int32} {a3 : Int32} {i k : Nat} : mf_Mo_controller v0 a1 a2 a3 10 i k = v0 10 i k := by
  unfold mf_Mo_controller
  try dsimp only
  all_goals ((repeat' split) <;> simp [fw_up, fw_row, mca_Mo_controller_j1])
set_option maxHeartbeats 4000000 in
set_option maxRecDepth 100000 in
theorem mc_Mo_controller (l : Launch) {D : va_G} {cA : Nat → ClassId} {ad : Nat → Nat → Nat} (hD : fw_D mCL ad) {b : Nat} (v0 : fw_V) (hI : mI b v0) (a1 : Int32) (a2 : Int32) (a3 : Int32) (hq0 : a1 = (14 : Int32) → vp_in (v0 10 0 0) 3) : Met l my_Mo_controller (Cond.code my_Mo_controller mb_Mo_controller 5 none :: vTB) mrm_Mo_controller (fw_Pc vNL D vcls (vtys cA) mCL cA mkd ad v0 [.ref (ad 0 0), .int a1, .int a2, .int a3]) (fw_Qv D vcls mCL cA mkd ad (mI b) (mf_Mo_controller v0 a1 a2 a3)) 0 0 (fw_A mCL ad) := by
  refine Met.ofW (cc := mb_Mo_controller) (maxL := 5) (ret := none) (by decide) rfl ?_
  intro p e s m args below meth c s₁ B hml hv
  obtain ⟨rfl, hP, hK, hN⟩ := hv
  have hx := B.exec
  have hb := B.bytes
  have hr := B.returns
  have hts : ∀ w ∈ vTB, w.before ([.ref (ad 0 0), .int a1, .int a2, .int a3] : List Value).toArray s = true := fun w h => atoms_spec (ws := (Cond.code my_Mo_controller mb_Mo_controller 5 none :: vTB)) B.pre w (List.mem_cons_of_mem _ h)
  have hown : s.vm.findClass R_Mo = some m.cls := findClass_of_methodNamed B.named
  have hlocks := B.notSynchronized
  have hS : va_S (fw_A mCL ad) s.heap s.heap [] := va_S.rf
  have J7 : ∀  (H : Heap) (locs : List Loc) (ls : Array Slot), mf_Mo_controller v0 a1 a2 a3 = mf_Mo_controller_j7 v0 a1 a2 a3 → (a1 = (14 : Int32) → vp_in (v0 10 0 0) 3) → mI b v0 → va_P D vcls (fw_w mCL cA mkd ad v0) H → va_S (fw_A mCL ad) s.heap H locs → lv_has ls 5 [(0, .ref (ad 0 0)), (1, .int a1), (2, .int a2), (3, .int a3), (4, .int (2 : Int32))] → W p l e (headSpec (Cond.code my_Mo_controller mb_Mo_controller 5 none :: vTB) mrm_Mo_controller).room s m ([.ref (ad 0 0), .int a1, .int a2, .int a3] : List Value).toArray below meth c H locs 0 0 (MQ below (fw_Qv D vcls mCL cA mkd ad (mI b) (mf_Mo_controller v0 a1 a2 a3)) ([.ref (ad 0 0), .int a1, .int a2, .int a3] : List Value).toArray s 0 0 (fw_A mCL ad)) (F0 m 3 ls []) := by
    intro  H locs ls hj hkh0 hI hP hS hl
    refine lv_iload hx hb md_Mo_controller_3 (lv_at hl 4 rfl) ?_
    refine lv_iconst (v := (2 : Int32)) hx hb md_Mo_controller_5 (by decide) ?_
    refine lv_icmp_ge (tgt := 105) hx hb md_Mo_controller_6 (by decide) (fun _ => ?_) (fun c_7 => absurd (by decide) c_7)
    exact fw_vret hx hb hr hlocks hS hP hI md_Mo_controller_105 (by rw [hj]; simp only [mf_Mo_controller_j7])
  have J6 : ∀  (H : Heap) (locs : List Loc) (ls : Array Slot), mf_Mo_controller v0 a1 a2 a3 = mf_Mo_controller_j6 v0 a1 a2 a3 → (a1 = (14 : Int32) → vp_in (v0 10 0 0) 3) → mI b v0 → va_P D vcls (fw_w mCL cA mkd ad v0) H → va_S (fw_A mCL ad) s.heap H locs → lv_has ls 5 [(0, .ref (ad 0 0)), (1, .int a1), (2, .int a2), (3, .int a3), (4, .int (1 : Int32))] → W p l e (headSpec (Cond.code my_Mo_controller mb_Mo_controller 5 none :: vTB) mrm_Mo_controller).room s m ([.ref (ad 0 0), .int a1, .int a2, .int a3] : List Value).toArray below meth c H locs 0 0 (MQ below (fw_Qv D vcls mCL cA mkd ad (mI b) (mf_Mo_controller v0 a1 a2 a3)) ([.ref (ad 0 0), .int a1, .int a2, .int a3] : List Value).toArray s 0 0 (fw_A mCL ad)) (F0 m 99 ls []) := by
    intro  H locs ls hj hkh0 hI hP hS hl
    refine lv_iinc (v := (2 : Int32)) (lv' := [(4, .int (2 : Int32)), (0, .ref (ad 0 0)), (1, .int a1), (2, .int a2), (3, .int a3)]) hx hb md_Mo_controller_99 hl (k := 4) rfl (by decide) (by decide) rfl (fun ls hl => ?_)
    refine lv_goto (tgt := 3) hx hb md_Mo_controller_102 (by decide) ?_
    exact J7  _ _ _ (by rw [hj]; simp only [mf_Mo_controller_j6])  (fun q => hq0 q) hI hP hS (lv_sub hl [1, 2, 3, 4, 0] rfl)
  have J9 : ∀ (v : fw_V)  (H : Heap) (locs : List Loc) (ls : Array Slot), mf_Mo_controller v0 a1 a2 a3 = mf_Mo_controller_j9 v a1 a2 a3 → (a1 = (14 : Int32) → vp_in (v 10 0 0) 3) → mI b v → va_P D vcls (fw_w mCL cA mkd ad v) H → va_S (fw_A mCL ad) s.heap H locs → lv_has ls 5 [(0, .ref (ad 0 0)), (1, .int a1), (2, .int a2), (3, .int a3), (4, .int (2 : Int32))] → W p l e (headSpec (Cond.code my_Mo_controller mb_Mo_controller 5 none :: vTB) mrm_Mo_controller).room s m ([.ref (ad 0 0), .int a1, .int a2, .int a3] : List Value).toArray below meth c H locs 0 0 (MQ below (fw_Qv D vcls mCL cA mkd ad (mI b) (mf_Mo_controller v0 a1 a2 a3)) ([.ref (ad 0 0), .int a1, .int a2, .int a3] : List Value).toArray s 0 0 (fw_A mCL ad)) (F0 m 3 ls []) := by
    intro v  H locs ls hj hkh0 hI hP hS hl
    clear J7 J6
    refine lv_iload hx hb md_Mo_controller_3 (lv_at hl 4 rfl) ?_
    refine lv_iconst (v := (2 : Int32)) hx hb md_Mo_controller_5 (by decide) ?_
    refine lv_icmp_ge (tgt := 105) hx hb md_Mo_controller_6 (by decide) (fun _ => ?_) (fun c_11 => absurd (by decide) c_11)
    exact fw_vret hx hb hr hlocks hS hP hI md_Mo_controller_105 (by rw [hj]; simp only [mf_Mo_controller_j9])
  have J8 : ∀ (v : fw_V)  (H : Heap) (locs : List Loc) (ls : Array Slot), mf_Mo_controller v0 a1 a2 a3 = mf_Mo_controller_j8 v a1 a2 a3 → (a1 = (14 : Int32) → vp_in (v 10 0 0) 3) → mI b v → va_P D vcls (fw_w mCL cA mkd ad v) H → va_S (fw_A mCL ad) s.heap H locs → lv_has ls 5 [(0, .ref (ad 0 0)), (1, .int a1), (2, .int a2), (3, .int a3), (4, .int (1 : Int32))] → W p l e (headSpec (Cond.code my_Mo_controller mb_Mo_controller 5 none :: vTB) mrm_Mo_controller).room s m ([.ref (ad 0 0), .int a1, .int a2, .int a3] : List Value).toArray below meth c H locs 0 0 (MQ below (fw_Qv D vcls mCL cA mkd ad (mI b) (mf_Mo_controller v0 a1 a2 a3)) ([.ref (ad 0 0), .int a1, .int a2, .int a3] : List Value).toArray s 0 0 (fw_A mCL ad)) (F0 m 99 ls []) := by
    intro v  H locs ls hj hkh0 hI hP hS hl
    clear J7 J6
    refine lv_iinc (v := (2 : Int32)) (lv' := [(4, .int (2 : Int32)), (0, .ref (ad 0 0)), (1, .int a1), (2, .int a2), (3, .int a3)]) hx hb md_Mo_controller_99 hl (k := 4) rfl (by decide) (by decide) rfl (fun ls hl => ?_)
    refine lv_goto (tgt := 3) hx hb md_Mo_controller_102 (by decide) ?_
    exact J9 v  _ _ _ (by rw [hj]; simp only [mf_Mo_controller_j8])  (fun q => hkh0 q) hI hP hS (lv_sub hl [1, 2, 3, 4, 0] rfl)
  have J5 : ∀  (H : Heap) (locs : List Loc) (ls : Array Slot), mf_Mo_controller v0 a1 a2 a3 = mf_Mo_controller_j5 v0 a1 a2 a3 → (a1 = (14 : Int32) → vp_in (v0 10 0 0) 3) → mI b v0 → va_P D vcls (fw_w mCL cA mkd ad v0) H → va_S (fw_A mCL ad) s.heap H locs → lv_has ls 5 [(0, .ref (ad 0 0)), (1, .int a1), (2, .int a2), (3, .int a3), (4, .int (1 : Int32))] → W p l e (headSpec (Cond.code my_Mo_controller mb_Mo_controller 5 none :: vTB) mrm_Mo_controller).room s m ([.ref (ad 0 0), .int a1, .int a2, .int a3] : List Value).toArray below meth c H locs 0 0 (MQ below (fw_Qv D vcls mCL cA mkd ad (mI b) (mf_Mo_controller v0 a1 a2 a3)) ([.ref (ad 0 0), .int a1, .int a2, .int a3] : List Value).toArray s 0 0 (fw_A mCL ad)) (F0 m 65 ls []) := by
    intro  H locs ls hj hkh0 hI hP hS hl
    clear J7 J9
    refine lv_iload_n hx hb md_Mo_controller_65 rfl (lv_at hl 1 rfl) ?_
    refine lv_iconst (v := (2 : Int32)) hx hb md_Mo_controller_66 (by decide) ?_
    refine lv_icmp_eq (tgt := 99) hx hb md_Mo_controller_67 (by decide) (fun c_6 => ?_) (fun c_6 => ?_)
    · exact J6  _ _ _ (by rw [hj]; simp only [mf_Mo_controller_j5, if_pos c_6])  (fun q => hq0 q) hI hP hS (lv_sub hl [0, 1, 2, 3, 4] rfl)
    · refine lv_aload_n hx hb md_Mo_controller_70 rfl (lv_at hl 0 rfl) ?_
      refine fw_getr hx hb hts i_Mo hown hK hP (mm_0 (by decide)) (mk_0 0) rfl 11 (by decide) (hts _ L_Mo_41) (fun _ h9 => h9) rfl md_Mo_controller_71 ?_
      refine lv_iload hx hb md_Mo_controller_74 (lv_at hl 4 rfl) ?_
      refine fw_iald hx hb hK hP (mm_12 (by decide)) (mk_12 0) 0 rfl (j := 1) (by decide) (fw_inc (by decide)) md_Mo_controller_76 ?_
      refine lv_if_eq (tgt := 99) hx hb md_Mo_controller_77 (by decide) (fun c_8 => ?_) (fun c_8 => ?_)
      · exact J6  _ _ _ (by rw [hj]; simp only [mf_Mo_controller_j5, if_neg c_6, if_pos c_8])  (fun q => hq0 q) hI hP hS (lv_sub hl [0, 1, 2, 3, 4] rfl)
      · refine lv_aload_n hx hb md_Mo_controller_80 rfl (lv_at hl 0 rfl) ?_
        refine fw_getr hx hb hts i_Mo hown hK hP (mm_0 (by decide)) (mk_0 0) rfl 12 (by decide) (hts _ L_Mo_44) (fun _ h9 => h9) rfl md_Mo_controller_81 ?_
        refine lv_iload hx hb md_Mo_controller_84 (lv_at hl 4 rfl) ?_
        refine fw_iald hx hb hK hP (mm_13 (by decide)) (mk_13 0) 0 rfl (j := 1) (by decide) (fw_inc (by decide)) md_Mo_controller_86 ?_
        refine lv_iload_n hx hb md_Mo_controller_87 rfl (lv_at hl 2 rfl) ?_
        refine lv_icmp_ne (tgt := 99) hx hb md_Mo_controller_88 (by decide) (fun c_9 => ?_) (fun c_9 => ?_)
        · exact J6  _ _ _ (by rw [hj]; simp only [mf_Mo_controller_j5, if_neg c_6, if_neg c_8, if_neg c_9])  (fun q => hq0 q) hI hP hS (lv_sub hl [0, 1, 2, 3, 4] rfl)
        · refine lv_aload_n hx hb md_Mo_controller_91 rfl (lv_at hl 0 rfl) ?_
          refine lv_iload hx hb md_Mo_controller_92 (lv_at hl 4 rfl) ?_
          refine lv_iload_n hx hb md_Mo_controller_94 rfl (lv_at hl 1 rfl) ?_
          refine lv_iload_n hx hb md_Mo_controller_95 rfl (lv_at hl 3 rfl) ?_
          refine fw_cv (va_runV (As := [.int (1 : Int32), .int a1, .int a3]) (rest := []) ⟨hx, hb, hml, hown, hts⟩ (mc_Mo_hears_1 l hD v0 hI a1 a3 (fun q => hq0 q)) (mw_Mo_hears hts L_Mo_219 ⟨Nat.le_of_ble_eq_true rfl, Nat.le_of_ble_eq_true rfl⟩) (fw_preV hN hK hP (mm_0 (by decide)) (mk_0 0) rfl) rfl rfl hl.1 rfl (lv_room (Nat.le_of_ble_eq_true rfl)) md_Mo_controller_96 ⟨Nat.le_of_ble_eq_true rfl, Nat.le_of_ble_eq_true rfl⟩) hS (fun v10 H locs ev10 hI hP hS => ?_)
          exact J8 v10  _ _ _ (by rw [hj]; subst ev10; simp only [mf_Mo_controller_j5, if_neg c_6, if_neg c_8, if_pos c_9])  (fun q => by rw [ev10, mca_Mo_hears_1]; exact hq0 q) hI hP hS (lv_sub hl [0, 1, 2, 3, 4] rfl)
  have J4 : ∀  (H : Heap) (locs : List Loc) (ls : Array Slot), mf_Mo_controller v0 a1 a2 a3 = mf_Mo_controller_j4 v0 a1 a2 a3 → (a1 = (14 : Int32) → vp_in (v0 10 0 0) 3) → mI b v0 → va_P D vcls (fw_w mCL cA mkd ad v0) H → va_S (fw_A mCL ad) s.heap H locs → lv_has ls 5 [(0, .ref (ad 0 0)), (1, .int a1), (2, .int a2), (3, .int a3), (4, .int (1 : Int32))] → W p l e (headSpec (Cond.code my_Mo_controller mb_Mo_controller 5 none :: vTB) mrm_Mo_controller).room s m ([.ref (ad 0 0), .int a1, .int a2, .int a3] : List Value).toArray below meth c H locs 0 0 (MQ below (fw_Qv D vcls mCL cA mkd ad (mI b) (mf_Mo_controller v0 a1 a2 a3)) ([.ref (ad 0 0), .int a1, .int a2, .int a3] : List Value).toArray s 0 0 (fw_A mCL ad)) (F0 m 3 ls []) := by
    intro  H locs ls hj hkh0 hI hP hS hl
    clear J7 J6 J9
    refine lv_iload hx hb md_Mo_controller_3 (lv_at hl 4 rfl) ?_
    refine lv_iconst (v := (2 : Int32)) hx hb md_Mo_controller_5 (by decide) ?_
    refine lv_icmp_ge (tgt := 105) hx hb md_Mo_controller_6 (by decide) (fun c_4 => absurd c_4 (by decide)) (fun _ => ?_)
    refine lv_iload_n hx hb md_Mo_controller_9 rfl (lv_at hl 1 rfl) ?_
    refine lv_iconst (v := (2 : Int32)) hx hb md_Mo_controller_10 (by decide) ?_
    refine lv_icmp_ne (tgt := 65) hx hb md_Mo_controller_11 (by decide) (fun c_5 => ?_) (fun c_5 => ?_)
    · exact J5  _ _ _ (by rw [hj]; simp only [mf_Mo_controller_j4, if_neg c_5])  (fun q => hq0 q) hI hP hS (lv_sub hl [0, 1, 2, 3, 4] rfl)
    · refine lv_aload_n hx hb md_Mo_controller_14 rfl (lv_at hl 0 rfl) ?_
      refine fw_getr hx hb hts i_Mo hown hK hP (mm_0 (by decide)) (mk_0 0) rfl 11 (by decide) (hts _ L_Mo_41) (fun _ h9 => h9) rfl md_Mo_controller_15 ?_
      refine lv_iload hx hb md_Mo_controller_18 (lv_at hl 4 rfl) ?_
      refine fw_iald hx hb hK hP (mm_12 (by decide)) (mk_12 0) 0 rfl (j := 1) (by decide) (fw_inc (by decide)) md_Mo_controller_20 ?_
      refine lv_iconst (v := (1 : Int32)) hx hb md_Mo_controller_21 (by decide) ?_
      refine lv_icmp_ne (tgt := 65) hx hb md_Mo_controller_22 (by decide) (fun c_12 => ?_) (fun c_12 => ?_)
      · exact J5  _ _ _ (by rw [hj]; simp only [mf_Mo_controller_j4, if_pos c_5, if_neg c_12])  (fun q => hq0 q) hI hP hS (lv_sub hl [0, 1, 2, 3, 4] rfl)
      · refine lv_aload_n hx hb md_Mo_controller_25 rfl (lv_at hl 0 rfl) ?_
        refine fw_getr hx hb hts i_Mo hown hK hP (mm_0 (by decide)) (mk_0 0) rfl 13 (by decide) (hts _ L_Mo_47) (fun _ h9 => h9) rfl md_Mo_controller_26 ?_
        refine lv_iload hx hb md_Mo_controller_29 (lv_at hl 4 rfl) ?_
        refine fw_iald hx hb hK hP (mm_14 (by decide)) (mk_14 0) 0 rfl (j := 1) (by decide) (fw_inc (by decide)) md_Mo_controller_31 ?_
        refine lv_aload_n hx hb md_Mo_controller_32 rfl (lv_at hl 0 rfl) ?_
        refine fw_getr hx hb hts i_Mo hown hK hP (mm_0 (by decide)) (mk_0 0) rfl 9 (by decide) (hts _ L_Mo_38) (fun _ h9 => h9) rfl md_Mo_controller_33 ?_
        refine lv_iconst (v := (0 : Int32)) hx hb md_Mo_controller_36 (by decide) ?_
        refine fw_iald hx hb hK hP (mm_10 (by decide)) (mk_10 0) 0 rfl (j := 0) (by decide) (fw_inc (by decide)) md_Mo_controller_37 ?_
        refine lv_icmp_ne (tgt := 65) hx hb md_Mo_controller_38 (by decide) (fun c_13 => ?_) (fun c_13 => ?_)
        · exact J5  _ _ _ (by rw [hj]; simp only [mf_Mo_controller_j4, if_pos c_5, if_pos c_12, if_neg c_13])  (fun q => hq0 q) hI hP hS (lv_sub hl [0, 1, 2, 3, 4] rfl)
        · refine lv_aload_n hx hb md_Mo_controller_41 rfl (lv_at hl 0 rfl) ?_
          refine lv_iload hx hb md_Mo_controller_42 (lv_at hl 4 rfl) ?_
          refine lv_iconst (v := (2 : Int32)) hx hb md_Mo_controller_44 (by decide) ?_
          refine fw_cv (va_runV (As := [.int (1 : Int32), .int (2 : Int32)]) (rest := []) ⟨hx, hb, hml, hown, hts⟩ (mc_Mo_enter_1 l hD (b := b) v0 (2 : Int32) (mI b) (mI_enter_1 hI (2 : Int32) (by decide))) (mw_Mo_enter hts L_Mo_200 ⟨Nat.le_of_ble_eq_true rfl, Nat.le_of_ble_eq_true rfl⟩) (fw_preV hN hK hP (mm_0 (by decide)) (mk_0 0) rfl) rfl rfl hl.1 rfl (lv_room (Nat.le_of_ble_eq_true rfl)) md_Mo_controller_45 ⟨Nat.le_of_ble_eq_true rfl, Nat.le_of_ble_eq_true rfl⟩) hS (fun v14 H locs ev14 hI hP hS => ?_)
          refine lv_aload_n hx hb md_Mo_controller_48 rfl (lv_at hl 0 rfl) ?_
          refine fw_getr hx hb hts i_Mo hown hK hP (mm_0 (by decide)) (mk_0 0) rfl 14 (by decide) (hts _ L_Mo_50) (fun _ h9 => h9) rfl md_Mo_controller_49 ?_
          refine lv_iload hx hb md_Mo_controller_52 (lv_at hl 4 rfl) ?_
          refine lv_iload_n hx hb md_Mo_controller_54 rfl (lv_at hl 3 rfl) ?_
          refine fw_iast hx hb hK hD hP hS (mm_15 (by decide)) (mk_15 0) 0 rfl (j := 1) (by decide) (fw_inc (by decide)) md_Mo_controller_55 (fun v15 H locs ev15 hP hS => ?_)
          have hI : mI b v15 := by rw [ev15]; exact mI_up hI trivial trivial
          refine lv_aload_n hx hb md_Mo_controller_56 rfl (lv_at hl 0 rfl) ?_
          refine lv_iload hx hb md_Mo_controller_57 (lv_at hl 4 rfl) ?_
          refine fw_cv (va_runV (As := [.int (1 : Int32)]) (rest := []) ⟨hx, hb, hml, hown, hts⟩ (mc_Mo_ask_1 l hD v15 hI ) (mw_Mo_ask hts L_Mo_213 ⟨Nat.le_of_ble_eq_true rfl, Nat.le_of_ble_eq_true rfl⟩) (fw_preV hN hK hP (mm_0 (by decide)) (mk_0 0) rfl) rfl rfl hl.1 rfl (lv_room (Nat.le_of_ble_eq_true rfl)) md_Mo_controller_59 ⟨Nat.le_of_ble_eq_true rfl, Nat.le_of_ble_eq_true rfl⟩) hS (fun v16 H locs ev16 hI hP hS => ?_)
          refine lv_goto (tgt := 99) hx hb md_Mo_controller_62 (by decide) ?_
          exact J8 v16  _ _ _ (by rw [hj]; subst ev14 ev15 ev16; simp only [mf_Mo_controller_j4, if_pos c_5, if_pos c_12, if_pos c_13])  (fun q => by rw [ev16, mca_Mo_ask_1, ev15, fw_up_c (c := 15) (c' := 10) (by decide), ev14, mca_Mo_enter_1]; exact hq0 q) hI hP hS (lv_sub hl [0, 1, 2, 3, 4] rfl)
  have J3 : ∀  (H : Heap) (locs : List Loc) (ls : Array Slot), mf_Mo_controller v0 a1 a2 a3 = mf_Mo_controller_j3 v0 a1 a2 a3 → (a1 = (14 : Int32) → vp_in (v0 10 0 0) 3) → mI b v0 → va_P D vcls (fw_w mCL cA mkd ad v0) H → va_S (fw_A mCL ad) s.heap H locs → lv_has ls 5 [(0, .ref (ad 0 0)), (1, .int a1), (2, .int a2), (3, .int a3), (4, .int (0 : Int32))] → W p l e (headSpec (Cond.code my_Mo_controller mb_Mo_controller 5 none :: vTB) mrm_Mo_controller).room s m ([.ref (ad 0 0), .int a1, .int a2, .int a3] : List Value).toArray below meth c H locs 0 0 (MQ below (fw_Qv D vcls mCL cA mkd ad (mI b) (mf_Mo_controller v0 a1 a2 a3)) ([.ref (ad 0 0), .int a1, .int a2, .int a3] : List Value).toArray s 0 0 (fw_A mCL ad)) (F0 m 99 ls []) := by
    intro  H locs ls hj hkh0 hI hP hS hl
    clear J7 J6 J9 J8 J5
    refine lv_iinc (v := (1 : Int32)) (lv' := [(4, .int (1 : Int32)), (0, .ref (ad 0 0)), (1, .int a1), (2, .int a2), (3, .int a3)]) hx hb md_Mo_controller_99 hl (k := 4) rfl (by decide) (by decide) rfl (fun ls hl => ?_)
    refine lv_goto (tgt := 3) hx hb md_Mo_controller_102 (by decide) ?_
    exact J4  _ _ _ (by rw [hj]; simp only [mf_Mo_controller_j3])  (fun q => hq0 q) hI hP hS (lv_sub hl [1, 2, 3, 4, 0] rfl)
  have J12 : ∀ (v : fw_V)  (H : Heap) (locs : List Loc) (ls : Array Slot), mf_Mo_controller v0 a1 a2 a3 = mf_Mo_controller_j12 v a1 a2 a3 → (a1 = (14 : Int32) → vp_in (v 10 0 0) 3) → mI b v → va_P D vcls (fw_w mCL cA mkd ad v) H → va_S (fw_A mCL ad) s.heap H locs → lv_has ls 5 [(0, .ref (ad 0 0)), (1, .int a1), (2, .int a2), (3, .int a3), (4, .int (1 : Int32))] → W p l e (headSpec (Cond.code my_Mo_controller mb_Mo_controller 5 none :: vTB) mrm_Mo_controller).room s m ([.ref (ad 0 0), .int a1, .int a2, .int a3] : List Value).toArray below meth c H locs 0 0 (MQ below (fw_Qv D vcls mCL cA mkd ad (mI b) (mf_Mo_controller v0 a1 a2 a3)) ([.ref (ad 0 0), .int a1, .int a2, .int a3] : List Value).toArray s 0 0 (fw_A mCL ad)) (F0 m 65 ls []) := by
    intro v  H locs ls hj hkh0 hI hP hS hl
    clear J7 J6 J9 J5 J4 J3
    refine lv_iload_n hx hb md_Mo_controller_65 rfl (lv_at hl 1 rfl) ?_
    refine lv_iconst (v := (2 : Int32)) hx hb md_Mo_controller_66 (by decide) ?_
    refine lv_icmp_eq (tgt := 99) hx hb md_Mo_controller_67 (by decide) (fun c_22 => ?_) (fun c_22 => ?_)
    · exact J8 v  _ _ _ (by rw [hj]; simp only [mf_Mo_controller_j12, if_pos c_22])  (fun q => hkh0 q) hI hP hS (lv_sub hl [0, 1, 2, 3, 4] rfl)
    · refine lv_aload_n hx hb md_Mo_controller_70 rfl (lv_at hl 0 rfl) ?_
      refine fw_getr hx hb hts i_Mo hown hK hP (mm_0 (by decide)) (mk_0 0) rfl 11 (by decide) (hts _ L_Mo_41) (fun _ h9 => h9) rfl md_Mo_controller_71 ?_
      refine lv_iload hx hb md_Mo_controller_74 (lv_at hl 4 rfl) ?_
      refine fw_iald hx hb hK hP (mm_12 (by decide)) (mk_12 0) 0 rfl (j := 1) (by decide) (fw_inc (by decide)) md_Mo_controller_76 ?_
      refine lv_if_eq (tgt := 99) hx hb md_Mo_controller_77 (by decide) (fun c_23 => ?_) (fun c_23 => ?_)
      · exact J8 v  _ _ _ (by rw [hj]; simp only [mf_Mo_controller_j12, if_neg c_22, if_pos c_23])  (fun q => hkh0 q) hI hP hS (lv_sub hl [0, 1, 2, 3, 4] rfl)
      · refine lv_aload_n hx hb md_Mo_controller_80 rfl (lv_at hl 0 rfl) ?_
        refine fw_getr hx hb hts i_Mo hown hK hP (mm_0 (by decide)) (mk_0 0) rfl 12 (by decide) (hts _ L_Mo_44) (fun _ h9 => h9) rfl md_Mo_controller_81 ?_
        refine lv_iload hx hb md_Mo_controller_84 (lv_at hl 4 rfl) ?_
        refine fw_iald hx hb hK hP (mm_13 (by decide)) (mk_13 0) 0 rfl (j := 1) (by decide) (fw_inc (by decide)) md_Mo_controller_86 ?_
        refine lv_iload_n hx hb md_Mo_controller_87 rfl (lv_at hl 2 rfl) ?_
        refine lv_icmp_ne (tgt := 99) hx hb md_Mo_controller_88 (by decide) (fun c_24 => ?_) (fun c_24 => ?_)
        · exact J8 v  _ _ _ (by rw [hj]; simp only [mf_Mo_controller_j12, if_neg c_22, if_neg c_23, if_neg c_24])  (fun q => hkh0 q) hI hP hS (lv_sub hl [0, 1, 2, 3, 4] rfl)
        · refine lv_aload_n hx hb md_Mo_controller_91 rfl (lv_at hl 0 rfl) ?_
          refine lv_iload hx hb md_Mo_controller_92 (lv_at hl 4 rfl) ?_
          refine lv_iload_n hx hb md_Mo_controller_94 rfl (lv_at hl 1 rfl) ?_
          refine lv_iload_n hx hb md_Mo_controller_95 rfl (lv_at hl 3 rfl) ?_
          refine fw_cv (va_runV (As := [.int (1 : Int32), .int a1, .int a3]) (rest := []) ⟨hx, hb, hml, hown, hts⟩ (mc_Mo_hears_1 l hD v hI a1 a3 (fun q => hkh0 q)) (mw_Mo_hears hts L_Mo_219 ⟨Nat.le_of_ble_eq_true rfl, Nat.le_of_ble_eq_true rfl⟩) (fw_preV hN hK hP (mm_0 (by decide)) (mk_0 0) rfl) rfl rfl hl.1 rfl (lv_room (Nat.le_of_ble_eq_true rfl)) md_Mo_controller_96 ⟨Nat.le_of_ble_eq_true rfl, Nat.le_of_ble_eq_true rfl⟩) hS (fun v25 H locs ev25 hI hP hS => ?_)
          exact J8 v25  _ _ _ (by rw [hj]; subst ev25; simp only [mf_Mo_controller_j12, if_neg c_22, if_neg c_23, if_pos c_24])  (fun q => by rw [ev25, mca_Mo_hears_1]; exact hkh0 q) hI hP hS (lv_sub hl [0, 1, 2, 3, 4] rfl)
  have J11 : ∀ (v : fw_V)  (H : Heap) (locs : List Loc) (ls : Array Slot), mf_Mo_controller v0 a1 a2 a3 = mf_Mo_controller_j11 v a1 a2 a3 → (a1 = (14 : Int32) → vp_in (v 10 0 0) 3) → mI b v → va_P D vcls (fw_w mCL cA mkd ad v) H → va_S (fw_A mCL ad) s.heap H locs → lv_has ls 5 [(0, .ref (ad 0 0)), (1, .int a1), (2, .int a2), (3, .int a3), (4, .int (1 : Int32))] → W p l e (headSpec (Cond.code my_Mo_controller mb_Mo_controller 5 none :: vTB) mrm_Mo_controller).room s m ([.ref (ad 0 0), .int a1, .int a2, .int a3] : List Value).toArray below meth c H locs 0 0 (MQ below (fw_Qv D vcls mCL cA mkd ad (mI b) (mf_Mo_controller v0 a1 a2 a3)) ([.ref (ad 0 0), .int a1, .int a2, .int a3] : List Value).toArray s 0 0 (fw_A mCL ad)) (F0 m 3 ls []) := by
    intro v  H locs ls hj hkh0 hI hP hS hl
    clear J7 J6 J9 J5 J4 J3
    refine lv_iload hx hb md_Mo_controller_3 (lv_at hl 4 rfl) ?_
    refine lv_iconst (v := (2 : Int32)) hx hb md_Mo_controller_5 (by decide) ?_
    refine lv_icmp_ge (tgt := 105) hx hb md_Mo_controller_6 (by decide) (fun c_20 => absurd c_20 (by decide)) (fun _ => ?_)
    refine lv_iload_n hx hb md_Mo_controller_9 rfl (lv_at hl 1 rfl) ?_
    refine lv_iconst (v := (2 : Int32)) hx hb md_Mo_controller_10 (by decide) ?_
    refine lv_icmp_ne (tgt := 65) hx hb md_Mo_controller_11 (by decide) (fun c_21 => ?_) (fun c_21 => ?_)
    · exact J12 v  _ _ _ (by rw [hj]; simp only [mf_Mo_controller_j11, if_neg c_21])  (fun q => hkh0 q) hI hP hS (lv_sub hl [0, 1, 2, 3, 4] rfl)
    · refine lv_aload_n hx hb md_Mo_controller_14 rfl (lv_at hl 0 rfl) ?_
      refine fw_getr hx hb hts i_Mo hown hK hP (mm_0 (by decide)) (mk_0 0) rfl 11 (by decide) (hts _ L_Mo_41) (fun _ h9 => h9) rfl md_Mo_controller_15 ?_
      refine lv_iload hx hb md_Mo_controller_18 (lv_at hl 4 rfl) ?_
      refine fw_iald hx hb hK hP (mm_12 (by decide)) (mk_12 0) 0 rfl (j := 1) (by decide) (fw_inc (by decide)) md_Mo_controller_20 ?_
      refine lv_iconst (v := (1 : Int32)) hx hb md_Mo_controller_21 (by decide) ?_
      refine lv_icmp_ne (tgt := 65) hx hb md_Mo_controller_22 (by decide) (fun c_26 => ?_) (fun c_26 => ?_)
      · exact J12 v  _ _ _ (by rw [hj]; simp only [mf_Mo_controller_j11, if_pos c_21, if_neg c_26])  (fun q => hkh0 q) hI hP hS (lv_sub hl [0, 1, 2, 3, 4] rfl)
      · refine lv_aload_n hx hb md_Mo_controller_25 rfl (lv_at hl 0 rfl) ?_
        refine fw_getr hx hb hts i_Mo hown hK hP (mm_0 (by decide)) (mk_0 0) rfl 13 (by decide) (hts _ L_Mo_47) (fun _ h9 => h9) rfl md_Mo_controller_26 ?_
        refine lv_iload hx hb md_Mo_controller_29 (lv_at hl 4 rfl) ?_
        refine fw_iald hx hb hK hP (mm_14 (by decide)) (mk_14 0) 0 rfl (j := 1) (by decide) (fw_inc (by decide)) md_Mo_controller_31 ?_
        refine lv_aload_n hx hb md_Mo_controller_32 rfl (lv_at hl 0 rfl) ?_
        refine fw_getr hx hb hts i_Mo hown hK hP (mm_0 (by decide)) (mk_0 0) rfl 9 (by decide) (hts _ L_Mo_38) (fun _ h9 => h9) rfl md_Mo_controller_33 ?_
        refine lv_iconst (v := (0 : Int32)) hx hb md_Mo_controller_36 (by decide) ?_
        refine fw_iald hx hb hK hP (mm_10 (by decide)) (mk_10 0) 0 rfl (j := 0) (by decide) (fw_inc (by decide)) md_Mo_controller_37 ?_
        refine lv_icmp_ne (tgt := 65) hx hb md_Mo_controller_38 (by decide) (fun c_27 => ?_) (fun c_27 => ?_)
        · exact J12 v  _ _ _ (by rw [hj]; simp only [mf_Mo_controller_j11, if_pos c_21, if_pos c_26, if_neg c_27])  (fun q => hkh0 q) hI hP hS (lv_sub hl [0, 1, 2, 3, 4] rfl)
        · refine lv_aload_n hx hb md_Mo_controller_41 rfl (lv_at hl 0 rfl) ?_
          refine lv_iload hx hb md_Mo_controller_42 (lv_at hl 4 rfl) ?_
          refine lv_iconst (v := (2 : Int32)) hx hb md_Mo_controller_44 (by decide) ?_
          refine fw_cv (va_runV (As := [.int (1 : Int32), .int (2 : Int32)]) (rest := []) ⟨hx, hb, hml, hown, hts⟩ (mc_Mo_enter_1 l hD (b := b) v (2 : Int32) (mI b) (mI_enter_1 hI (2 : Int32) (by decide))) (mw_Mo_enter hts L_Mo_200 ⟨Nat.le_of_ble_eq_true rfl, Nat.le_of_ble_eq_true rfl⟩) (fw_preV hN hK hP (mm_0 (by decide)) (mk_0 0) rfl) rfl rfl hl.1 rfl (lv_room (Nat.le_of_ble_eq_true rfl)) md_Mo_controller_45 ⟨Nat.le_of_ble_eq_true rfl, Nat.le_of_ble_eq_true rfl⟩) hS (fun v28 H locs ev28 hI hP hS => ?_)
          refine lv_aload_n hx hb md_Mo_controller_48 rfl (lv_at hl 0 rfl) ?_
          refine fw_getr hx hb hts i_Mo hown hK hP (mm_0 (by decide)) (mk_0 0) rfl 14 (by decide) (hts _ L_Mo_50) (fun _ h9 => h9) rfl md_Mo_controller_49 ?_
          refine lv_iload hx hb md_Mo_controller_52 (lv_at hl 4 rfl) ?_
          refine lv_iload_n hx hb md_Mo_controller_54 rfl (lv_at hl 3 rfl) ?_
          refine fw_iast hx hb hK hD hP hS (mm_15 (by decide)) (mk_15 0) 0 rfl (j := 1) (by decide) (fw_inc (by decide)) md_Mo_controller_55 (fun v29 H locs ev29 hP hS => ?_)
          have hI : mI b v29 := by rw [ev29]; exact mI_up hI trivial trivial
          refine lv_aload_n hx hb md_Mo_controller_56 rfl (lv_at hl 0 rfl) ?_
          refine lv_iload hx hb md_Mo_controller_57 (lv_at hl 4 rfl) ?_
          refine fw_cv (va_runV (As := [.int (1 : Int32)]) (rest := []) ⟨hx, hb, hml, hown, hts⟩ (mc_Mo_ask_1 l hD v29 hI ) (mw_Mo_ask hts L_Mo_213 ⟨Nat.le_of_ble_eq_true rfl, Nat.le_of_ble_eq_true rfl⟩) (fw_preV hN hK hP (mm_0 (by decide)) (mk_0 0) rfl) rfl rfl hl.1 rfl (lv_room (Nat.le_of_ble_eq_true rfl)) md_Mo_controller_59 ⟨Nat.le_of_ble_eq_true rfl, Nat.le_of_ble_eq_true rfl⟩) hS (fun v30 H locs ev30 hI hP hS => ?_)
          refine lv_goto (tgt := 99) hx hb md_Mo_controller_62 (by decide) ?_
          exact J8 v30  _ _ _ (by rw [hj]; subst ev28 ev29 ev30; simp only [mf_Mo_controller_j11, if_pos c_21, if_pos c_26, if_pos c_27])  (fun q => by rw [ev30, mca_Mo_ask_1, ev29, fw_up_c (c := 15) (c' := 10) (by decide), ev28, mca_Mo_enter_1]; exact hkh0 q) hI hP hS (lv_sub hl [0, 1, 2, 3, 4] rfl)
  have J10 : ∀ (v : fw_V)  (H : Heap) (locs : List Loc) (ls : Array Slot), mf_Mo_controller v0 a1 a2 a3 = mf_Mo_controller_j10 v a1 a2 a3 → (a1 = (14 : Int32) → vp_in (v 10 0 0) 3) → mI b v → va_P D vcls (fw_w mCL cA mkd ad v) H → va_S (fw_A mCL ad) s.heap H locs → lv_has ls 5 [(0, .ref (ad 0 0)), (1, .int a1), (2, .int a2), (3, .int a3), (4, .int (0 : Int32))] → W p l e (headSpec (Cond.code my_Mo_controller mb_Mo_controller 5 none :: vTB) mrm_Mo_controller).room s m ([.ref (ad 0 0), .int a1, .int a2, .int a3] : List Value).toArray below meth c H locs 0 0 (MQ below (fw_Qv D vcls mCL cA mkd ad (mI b) (mf_Mo_controller v0 a1 a2 a3)) ([.ref (ad 0 0), .int a1, .int a2, .int a3] : List Value).toArray s 0 0 (fw_A mCL ad)) (F0 m 99 ls []) := by
    intro v  H locs ls hj hkh0 hI hP hS hl
    clear J7 J6 J9 J8 J5 J4 J3 J12
    refine lv_iinc (v := (1 : Int32)) (lv' := [(4, .int (1 : Int32)), (0, .ref (ad 0 0)), (1, .int a1), (2, .int a2), (3, .int a3)]) hx hb md_Mo_controller_99 hl (k := 4) rfl (by decide) (by decide) rfl (fun ls hl => ?_)
    refine lv_goto (tgt := 3) hx hb md_Mo_controller_102 (by decide) ?_
    exact J11 v  _ _ _ (by rw [hj]; simp only [mf_Mo_controller_j10])  (fun q => hkh0 q) hI hP hS (lv_sub hl [1, 2, 3, 4, 0] rfl)
  have J2 : ∀  (H : Heap) (locs : List Loc) (ls : Array Slot), mf_Mo_controller v0 a1 a2 a3 = mf_Mo_controller_j2 v0 a1 a2 a3 → (a1 = (14 : Int32) → vp_in (v0 10 0 0) 3) → mI b v0 → va_P D vcls (fw_w mCL cA mkd ad v0) H → va_S (fw_A mCL ad) s.heap H locs → lv_has ls 5 [(0, .ref (ad 0 0)), (1, .int a1), (2, .int a2), (3, .int a3), (4, .int (0 : Int32))] → W p l e (headSpec (Cond.code my_Mo_controller mb_Mo_controller 5 none :: vTB) mrm_Mo_controller).room s m ([.ref (ad 0 0), .int a1, .int a2, .int a3] : List Value).toArray below meth c H locs 0 0 (MQ below (fw_Qv D vcls mCL cA mkd ad (mI b) (mf_Mo_controller v0 a1 a2 a3)) ([.ref (ad 0 0), .int a1, .int a2, .int a3] : List Value).toArray s 0 0 (fw_A mCL ad)) (F0 m 65 ls []) := by
    intro  H locs ls hj hkh0 hI hP hS hl
    clear J7 J6 J9 J8 J5 J4 J12 J11
    refine lv_iload_n hx hb md_Mo_controller_65 rfl (lv_at hl 1 rfl) ?_
    refine lv_iconst (v := (2 : Int32)) hx hb md_Mo_controller_66 (by decide) ?_
    refine lv_icmp_eq (tgt := 99) hx hb md_Mo_controller_67 (by decide) (fun c_3 => ?_) (fun c_3 => ?_)
    · exact J3  _ _ _ (by rw [hj]; simp only [mf_Mo_controller_j2, if_pos c_3])  (fun q => hq0 q) hI hP hS (lv_sub hl [0, 1, 2, 3, 4] rfl)
    · refine lv_aload_n hx hb md_Mo_controller_70 rfl (lv_at hl 0 rfl) ?_
      refine fw_getr hx hb hts i_Mo hown hK hP (mm_0 (by decide)) (mk_0 0) rfl 11 (by decide) (hts _ L_Mo_41) (fun _ h9 => h9) rfl md_Mo_controller_71 ?_
      refine lv_iload hx hb md_Mo_controller_74 (lv_at hl 4 rfl) ?_
      refine fw_iald hx hb hK hP (mm_12 (by decide)) (mk_12 0) 0 rfl (j := 0) (by decide) (fw_inc (by decide)) md_Mo_controller_76 ?_
      refine lv_if_eq (tgt := 99) hx hb md_Mo_controller_77 (by decide) (fun c_17 => ?_) (fun c_17 => ?_)
      · exact J3  _ _ _ (by rw [hj]; simp only [mf_Mo_controller_j2, if_neg c_3, if_pos c_17])  (fun q => hq0 q) hI hP hS (lv_sub hl [0, 1, 2, 3, 4] rfl)
      · refine lv_aload_n hx hb md_Mo_controller_80 rfl (lv_at hl 0 rfl) ?_
        refine fw_getr hx hb hts i_Mo hown hK hP (mm_0 (by decide)) (mk_0 0) rfl 12 (by decide) (hts _ L_Mo_44) (fun _ h9 => h9) rfl md_Mo_controller_81 ?_
        refine lv_iload hx hb md_Mo_controller_84 (lv_at hl 4 rfl) ?_
        refine fw_iald hx hb hK hP (mm_13 (by decide)) (mk_13 0) 0 rfl (j := 0) (by decide) (fw_inc (by decide)) md_Mo_controller_86 ?_
        refine lv_iload_n hx hb md_Mo_controller_87 rfl (lv_at hl 2 rfl) ?_
        refine lv_icmp_ne (tgt := 99) hx hb md_Mo_controller_88 (by decide) (fun c_18 => ?_) (fun c_18 => ?_)
        · exact J3  _ _ _ (by rw [hj]; simp only [mf_Mo_controller_j2, if_neg c_3, if_neg c_17, if_neg c_18])  (fun q => hq0 q) hI hP hS (lv_sub hl [0, 1, 2, 3, 4] rfl)
        · refine lv_aload_n hx hb md_Mo_controller_91 rfl (lv_at hl 0 rfl) ?_
          refine lv_iload hx hb md_Mo_controller_92 (lv_at hl 4 rfl) ?_
          refine lv_iload_n hx hb md_Mo_controller_94 rfl (lv_at hl 1 rfl) ?_
          refine lv_iload_n hx hb md_Mo_controller_95 rfl (lv_at hl 3 rfl) ?_
          refine fw_cv (va_runV (As := [.int (0 : Int32), .int a1, .int a3]) (rest := []) ⟨hx, hb, hml, hown, hts⟩ (mc_Mo_hears_0 l hD v0 hI a1 a3 (fun q => hq0 q)) (mw_Mo_hears hts L_Mo_219 ⟨Nat.le_of_ble_eq_true rfl, Nat.le_of_ble_eq_true rfl⟩) (fw_preV hN hK hP (mm_0 (by decide)) (mk_0 0) rfl) rfl rfl hl.1 rfl (lv_room (Nat.le_of_ble_eq_true rfl)) md_Mo_controller_96 ⟨Nat.le_of_ble_eq_true rfl, Nat.le_of_ble_eq_true rfl⟩) hS (fun v19 H locs ev19 hI hP hS => ?_)
          exact J10 v19  _ _ _ (by rw [hj]; subst ev19; simp only [mf_Mo_controller_j2, if_neg c_3, if_neg c_17, if_pos c_18])  (fun q => by rw [ev19, mca_Mo_hears_0]; exact hq0 q) hI hP hS (lv_sub hl [0, 1, 2, 3, 4] rfl)
  have J1 : ∀  (H : Heap) (locs : List Loc) (ls : Array Slot), mf_Mo_controller v0 a1 a2 a3 = mf_Mo_controller_j1 v0 a1 a2 a3 → (a1 = (14 : Int32) → vp_in (v0 10 0 0) 3) → mI b v0 → va_P D vcls (fw_w mCL cA mkd ad v0) H → va_S (fw_A mCL ad) s.heap H locs → lv_has ls 5 [(0, .ref (ad 0 0)), (1, .int a1), (2, .int a2), (3, .int a3), (4, .int (0 : Int32))] → W p l e (headSpec (Cond.code my_Mo_controller mb_Mo_controller 5 none :: vTB) mrm_Mo_controller).room s m ([.ref (ad 0 0), .int a1, .int a2, .int a3] : List Value).toArray below meth c H locs 0 0 (MQ below (fw_Qv D vcls mCL cA mkd ad (mI b) (mf_Mo_controller v0 a1 a2 a3)) ([.ref (ad 0 0), .int a1, .int a2, .int a3] : List Value).toArray s 0 0 (fw_A mCL ad)) (F0 m 3 ls []) := by
    intro  H locs ls hj hkh0 hI hP hS hl
    clear J7 J6 J9 J8 J5 J4 J3 J12 J11
    refine lv_iload hx hb md_Mo_controller_3 (lv_at hl 4 rfl) ?_
    refine lv_iconst (v := (2 : Int32)) hx hb md_Mo_controller_5 (by decide) ?_
    refine lv_icmp_ge (tgt := 105) hx hb md_Mo_controller_6 (by decide) (fun c_1 => absurd c_1 (by decide)) (fun _ => ?_)
    refine lv_iload_n hx hb md_Mo_controller_9 rfl (lv_at hl 1 rfl) ?_
    refine lv_iconst (v := (2 : Int32)) hx hb md_Mo_controller_10 (by decide) ?_
    refine lv_icmp_ne (tgt := 65) hx hb md_Mo_controller_11 (by decide) (fun c_2 => ?_) (fun c_2 => ?_)
    · exact J2  _ _ _ (by rw [hj]; simp only [mf_Mo_controller_j1, if_neg c_2])  (fun q => hq0 q) hI hP hS (lv_sub hl [0, 1, 2, 3, 4] rfl)
    · refine lv_aload_n hx hb md_Mo_controller_14 rfl (lv_at hl 0 rfl) ?_
      refine fw_getr hx hb hts i_Mo hown hK hP (mm_0 (by decide)) (mk_0 0) rfl 11 (by decide) (hts _ L_Mo_41) (fun _ h9 => h9) rfl md_Mo_controller_15 ?_
      refine lv_iload hx hb md_Mo_controller_18 (lv_at hl 4 rfl) ?_
      refine fw_iald hx hb hK hP (mm_12 (by decide)) (mk_12 0) 0 rfl (j := 0) (by decide) (fw_inc (by decide)) md_Mo_controller_20 ?_
      refine lv_iconst (v := (1 : Int32)) hx hb md_Mo_controller_21 (by decide) ?_
      refine lv_icmp_ne (tgt := 65) hx hb md_Mo_controller_22 (by decide) (fun c_31 => ?_) (fun c_31 => ?_)
      · exact J2  _ _ _ (by rw [hj]; simp only [mf_Mo_controller_j1, if_pos c_2, if_neg c_31])  (fun q => hq0 q) hI hP hS (lv_sub hl [0, 1, 2, 3, 4] rfl)
      · refine lv_aload_n hx hb md_Mo_controller_25 rfl (lv_at hl 0 rfl) ?_
        refine fw_getr hx hb hts i_Mo hown hK hP (mm_0 (by decide)) (mk_0 0) rfl 13 (by decide) (hts _ L_Mo_47) (fun _ h9 => h9) rfl md_Mo_controller_26 ?_
        refine lv_iload hx hb md_Mo_controller_29 (lv_at hl 4 rfl) ?_
        refine fw_iald hx hb hK hP (mm_14 (by decide)) (mk_14 0) 0 rfl (j := 0) (by decide) (fw_inc (by decide)) md_Mo_controller_31 ?_
        refine lv_aload_n hx hb md_Mo_controller_32 rfl (lv_at hl 0 rfl) ?_
        refine fw_getr hx hb hts i_Mo hown hK hP (mm_0 (by decide)) (mk_0 0) rfl 9 (by decide) (hts _ L_Mo_38) (fun _ h9 => h9) rfl md_Mo_controller_33 ?_
        refine lv_iconst (v := (0 : Int32)) hx hb md_Mo_controller_36 (by decide) ?_
        refine fw_iald hx hb hK hP (mm_10 (by decide)) (mk_10 0) 0 rfl (j := 0) (by decide) (fw_inc (by decide)) md_Mo_controller_37 ?_
        refine lv_icmp_ne (tgt := 65) hx hb md_Mo_controller_38 (by decide) (fun c_32 => ?_) (fun c_32 => ?_)
        · exact J2  _ _ _ (by rw [hj]; simp only [mf_Mo_controller_j1, if_pos c_2, if_pos c_31, if_neg c_32])  (fun q => hq0 q) hI hP hS (lv_sub hl [0, 1, 2, 3, 4] rfl)
        · refine lv_aload_n hx hb md_Mo_controller_41 rfl (lv_at hl 0 rfl) ?_
          refine lv_iload hx hb md_Mo_controller_42 (lv_at hl 4 rfl) ?_
          refine lv_iconst (v := (2 : Int32)) hx hb md_Mo_controller_44 (by decide) ?_
          refine fw_cv (va_runV (As := [.int (0 : Int32), .int (2 : Int32)]) (rest := []) ⟨hx, hb, hml, hown, hts⟩ (mc_Mo_enter_0 l hD (b := b) v0 (2 : Int32) (mI b) (mI_enter_0 hI (2 : Int32) (by decide))) (mw_Mo_enter hts L_Mo_200 ⟨Nat.le_of_ble_eq_true rfl, Nat.le_of_ble_eq_true rfl⟩) (fw_preV hN hK hP (mm_0 (by decide)) (mk_0 0) rfl) rfl rfl hl.1 rfl (lv_room (Nat.le_of_ble_eq_true rfl)) md_Mo_controller_45 ⟨Nat.le_of_ble_eq_true rfl, Nat.le_of_ble_eq_true rfl⟩) hS (fun v33 H locs ev33 hI hP hS => ?_)
          refine lv_aload_n hx hb md_Mo_controller_48 rfl (lv_at hl 0 rfl) ?_
          refine fw_getr hx hb hts i_Mo hown hK hP (mm_0 (by decide)) (mk_0 0) rfl 14 (by decide) (hts _ L_Mo_50) (fun _ h9 => h9) rfl md_Mo_controller_49 ?_
          refine lv_iload hx hb md_Mo_controller_52 (lv_at hl 4 rfl) ?_
          refine lv_iload_n hx hb md_Mo_controller_54 rfl (lv_at hl 3 rfl) ?_
          refine fw_iast hx hb hK hD hP hS (mm_15 (by decide)) (mk_15 0) 0 rfl (j := 0) (by decide) (fw_inc (by decide)) md_Mo_controller_55 (fun v34 H locs ev34 hP hS => ?_)
          have hI : mI b v34 := by rw [ev34]; exact mI_up hI trivial trivial
          refine lv_aload_n hx hb md_Mo_controller_56 rfl (lv_at hl 0 rfl) ?_
          refine lv_iload hx hb md_Mo_controller_57 (lv_at hl 4 rfl) ?_
          refine fw_cv (va_runV (As := [.int (0 : Int32)]) (rest := []) ⟨hx, hb, hml, hown, hts⟩ (mc_Mo_ask_0 l hD v34 hI ) (mw_Mo_ask hts L_Mo_213 ⟨Nat.le_of_ble_eq_true rfl, Nat.le_of_ble_eq_true rfl⟩) (fw_preV hN hK hP (mm_0 (by decide)) (mk_0 0) rfl) rfl rfl hl.1 rfl (lv_room (Nat.le_of_ble_eq_true rfl)) md_Mo_controller_59 ⟨Nat.le_of_ble_eq_true rfl, Nat.le_of_ble_eq_true rfl⟩) hS (fun v35 H locs ev35 hI hP hS => ?_)
          refine lv_goto (tgt := 99) hx hb md_Mo_controller_62 (by decide) ?_
          exact J10 v35  _ _ _ (by rw [hj]; subst ev33 ev34 ev35; simp only [mf_Mo_controller_j1, if_pos c_2, if_pos c_31, if_pos c_32])  (fun q => by rw [ev35, mca_Mo_ask_0, ev34, fw_up_c (c := 15) (c' := 10) (by decide), ev33, mca_Mo_enter_0]; exact hq0 q) hI hP hS (lv_sub hl [0, 1, 2, 3, 4] rfl)
  clear J7 J6 J9 J8 J5 J4 J3 J12 J11 J10 J2
  have hl := lv_entry ([.ref (ad 0 0), .int a1, .int a2, .int a3]) (n := 5) (Nat.le_of_ble_eq_true rfl)
  rw [lg_entry_eq]
  generalize (lg_sl ([.ref (ad 0 0), .int a1, .int a2, .int a3]) ++ List.replicate (5 - (lg_sl ([.ref (ad 0 0), .int a1, .int a2, .int a3])).length) Slot.unset).toArray = ls at hl ⊢
  have hl : lv_has ls 5 [(0, .ref (ad 0 0)), (1, .int a1), (2, .int a2), (3, .int a3)] := hl
  refine lv_iconst (v := (0 : Int32)) hx hb md_Mo_controller_0 (by decide) ?_
  refine lv_istore (lv' := [(4, .int (0 : Int32)), (0, .ref (ad 0 0)), (1, .int a1), (2, .int a2), (3, .int a3)]) hx hb md_Mo_controller_1 hl (by decide) rfl (fun ls hl => ?_)
  exact J1  _ _ _ (by simp only [mf_Mo_controller])  (fun q => hq0 q) hI hP hS (lv_sub hl [1, 2, 3, 4, 0] rfl)
def mf_Mo_reply_0 (v0 : fw_V) (a2 : Int32) (a3 : Int32) : fw_V :=
  let v1 := mf_Mo_send v0 a2 (v0 29 0 0) a3 (2 : Int32)
  v1

theorem mca_Mo_reply_0 {v0 : fw_V} {a2 : Int32} {a3 : Int32} {i k : Nat} : mf_Mo_reply_0 v0 a2 a3 10 i k = v0 10 i k := by
  unfold mf_Mo_reply_0
  try dsimp only
  all_goals ((repeat' split) <;> simp [fw_up, fw_row, mca_Mo_send])
set_option maxHeartbeats 4000000 in
set_option maxRecDepth 100000 in
theorem mc_Mo_reply_0 (l : Launch) {D : va_G} {cA : Nat → ClassId} {ad : Nat → Nat → Nat} (hD : fw_D mCL ad) {b : Nat} (v0 : fw_V) (hI : mI b v0) (a2 : Int32) (a3 : Int32) (hq0 : a2 = (14 : Int32) → vp_in (v0 9 0 0) 3) (hq1 : ¬ a2 = (6 : Int32)) (hq2 : ¬ a2 = (3 : Int32)) : Met l my_Mo_reply (Cond.code my_Mo_reply mb_Mo_reply 4 none :: vTB) mrm_Mo_reply (fw_Pc vNL D vcls (vtys cA) mCL cA mkd ad v0 [.ref (ad 0 0), .int (0 : Int32), .int a2, .int a3]) (fw_Qv D vcls mCL cA mkd ad (mI b) (mf_Mo_reply_0 v0 a2 a3)) 0 0 (fw_A mCL ad) := by
  refine Met.ofW (cc := mb_Mo_reply) (maxL := 4) (ret := none) (by decide) rfl ?_
  intro p e s m args below meth c s₁ B hml hv
  obtain ⟨rfl, hP, hK, hN⟩ := hv
  have hx := B.exec
  have hb := B.bytes
  have hr := B.returns
  have hts : ∀ w ∈ vTB, w.before ([.ref (ad 0 0), .int (0 : Int32), .int a2, .int a3] : List Value).toArray s = true := fun w h => atoms_spec (ws := (Cond.code my_Mo_reply mb_Mo_reply 4 none :: vTB)) B.pre w (List.mem_cons_of_mem _ h)
  have hown : s.vm.findClass R_Mo = some m.cls := findClass_of_methodNamed B.named
  have hlocks := B.notSynchronized
  have hS : va_S (fw_A mCL ad) s.heap s.heap [] := va_S.rf
  skip
  have hl := lv_entry ([.ref (ad 0 0), .int (0 : Int32), .int a2, .int a3]) (n := 4) (Nat.le_of_ble_eq_true rfl)
  rw [lg_entry_eq]
  generalize (lg_sl ([.ref (ad 0 0), .int (0 : Int32), .int a2, .int a3]) ++ List.replicate (4 - (lg_sl ([.ref (ad 0 0), .int (0 : Int32), .int a2, .int a3])).length) Slot.unset).toArray = ls at hl ⊢
  have hl : lv_has ls 4 [(0, .ref (ad 0 0)), (1, .int (0 : Int32)), (2, .int a2), (3, .int a3)] := hl
  refine lv_aload_n hx hb md_Mo_reply_0 rfl (lv_at hl 0 rfl) ?_
  refine lv_iload_n hx hb md_Mo_reply_1 rfl (lv_at hl 2 rfl) ?_
  refine lv_aload_n hx hb md_Mo_reply_2 rfl (lv_at hl 0 rfl) ?_
  refine fw_getr hx hb hts i_Mo hown hK hP (mm_0 (by decide)) (mk_0 0) rfl 28 (by decide) (hts _ L_Mo_92) (fun _ h9 => h9) rfl md_Mo_reply_3 ?_
  refine lv_iload_n hx hb md_Mo_reply_6 rfl (lv_at hl 1 rfl) ?_
  refine fw_iald hx hb hK hP (mm_29 (by decide)) (mk_29 0) 0 rfl (j := 0) (by decide) (fw_inc (by decide)) md_Mo_reply_7 ?_
  refine lv_iload_n hx hb md_Mo_reply_8 rfl (lv_at hl 3 rfl) ?_
  refine lv_iconst (v := (2 : Int32)) hx hb md_Mo_reply_9 (by decide) ?_
  refine fw_cv (va_runV (As := [.int a2, .int (v0 29 0 0), .int a3, .int (2 : Int32)]) (rest := []) ⟨hx, hb, hml, hown, hts⟩ (mc_Mo_send l hD v0 hI a2 (v0 29 0 0) a3 (2 : Int32) hq0 (fun q => absurd q hq1) (fun q => absurd q hq2)) (mw_Mo_send hts L_Mo_197 ⟨Nat.le_of_ble_eq_true rfl, Nat.le_of_ble_eq_true rfl⟩) (fw_preV hN hK hP (mm_0 (by decide)) (mk_0 0) rfl) rfl rfl hl.1 rfl (lv_room (Nat.le_of_ble_eq_true rfl)) md_Mo_reply_10 ⟨Nat.le_of_ble_eq_true rfl, Nat.le_of_ble_eq_true rfl⟩) hS (fun v1 H locs ev1 hI hP hS => ?_)
  exact fw_vret hx hb hr hlocks hS hP hI md_Mo_reply_13 (by subst ev1; simp only [mf_Mo_reply_0])
def mf_Mo_reply_1 (v0 : fw_V) (a2 : Int32) (a3 : Int32) : fw_V :=
  let v1 := mf_Mo_send v0 a2 (v0 29 0 1) a3 (2 : Int32)
  v1

theorem mca_Mo_reply_1 {v0 : fw_V} {a2 : Int32} {a3 : Int32} {i k : Nat} : mf_Mo_reply_1 v0 a2 a3 10 i k = v0 10 i k := by
  unfold mf_Mo_reply_1
  try dsimp only
  all_goals ((repeat' split) <;> simp [fw_up, fw_row, mca_Mo_send])
set_option maxHeartbeats 4000000 in
set_option maxRecDepth 100000 in
theorem mc_Mo_reply_1 (l : Launch) {D : va_G} {cA : Nat → ClassId} {ad : Nat → Nat → Nat} (hD : fw_D mCL ad) {b : Nat} (v0 : fw_V) (hI : mI b v0) (a2 : Int32) (a3 : Int32) (hq0 : a2 = (14 : Int32) → vp_in (v0 9 0 0) 3) (hq1 : ¬ a2 = (6 : Int32)) (hq2 : ¬ a2 = (3 : Int32)) : Met l my_Mo_reply (Cond.code my_Mo_reply mb_Mo_reply 4 none :: vTB) mrm_Mo_reply (fw_Pc vNL D vcls (vtys cA) mCL cA mkd ad v0 [.ref (ad 0 0), .int (1 : Int32), .int a2, .int a3]) (fw_Qv D vcls mCL cA mkd ad (mI b) (mf_Mo_reply_1 v0 a2 a3)) 0 0 (fw_A mCL ad) := by
  refine Met.ofW (cc := mb_Mo_reply) (maxL := 4) (ret := none) (by decide) rfl ?_
  intro p e s m args below meth c s₁ B hml hv
  obtain ⟨rfl, hP, hK, hN⟩ := hv
  have hx := B.exec
  have hb := B.bytes
  have hr := B.returns
  have hts : ∀ w ∈ vTB, w.before ([.ref (ad 0 0), .int (1 : Int32), .int a2, .int a3] : List Value).toArray s = true := fun w h => atoms_spec (ws := (Cond.code my_Mo_reply mb_Mo_reply 4 none :: vTB)) B.pre w (List.mem_cons_of_mem _ h)
  have hown : s.vm.findClass R_Mo = some m.cls := findClass_of_methodNamed B.named
  have hlocks := B.notSynchronized
  have hS : va_S (fw_A mCL ad) s.heap s.heap [] := va_S.rf
  skip
  have hl := lv_entry ([.ref (ad 0 0), .int (1 : Int32), .int a2, .int a3]) (n := 4) (Nat.le_of_ble_eq_true rfl)
  rw [lg_entry_eq]
  generalize (lg_sl ([.ref (ad 0 0), .int (1 : Int32), .int a2, .int a3]) ++ List.replicate (4 - (lg_sl ([.ref (ad 0 0), .int (1 : Int32), .int a2, .int a3])).length) Slot.unset).toArray = ls at hl ⊢
  have hl : lv_has ls 4 [(0, .ref (ad 0 0)), (1, .int (1 : Int32)), (2, .int a2), (3, .int a3)] := hl
  refine lv_aload_n hx hb md_Mo_reply_0 rfl (lv_at hl 0 rfl) ?_
  refine lv_iload_n hx hb md_Mo_reply_1 rfl (lv_at hl 2 rfl) ?_
  refine lv_aload_n hx hb md_Mo_reply_2 rfl (lv_at hl 0 rfl) ?_
  refine fw_getr hx hb hts i_Mo hown hK hP (mm_0 (by decide)) (mk_0 0) rfl 28 (by decide) (hts _ L_Mo_92) (fun _ h9 => h9) rfl md_Mo_reply_3 ?_
  refine lv_iload_n hx hb md_Mo_reply_6 rfl (lv_at hl 1 rfl) ?_
  refine fw_iald hx hb hK hP (mm_29 (by decide)) (mk_29 0) 0 rfl (j := 1) (by decide) (fw_inc (by decide)) md_Mo_reply_7 ?_
  refine lv_iload_n hx hb md_Mo_reply_8 rfl (lv_at hl 3 rfl) ?_
  refine lv_iconst (v := (2 : Int32)) hx hb md_Mo_reply_9 (by decide) ?_
  refine fw_cv (va_runV (As := [.int a2, .int (v0 29 0 1), .int a3, .int (2 : Int32)]) (rest := []) ⟨hx, hb, hml, hown, hts⟩ (mc_Mo_send l hD v0 hI a2 (v0 29 0 1) a3 (2 : Int32) hq0 (fun q => absurd q hq1) (fun q => absurd q hq2)) (mw_Mo_send hts L_Mo_197 ⟨Nat.le_of_ble_eq_true rfl, Nat.le_of_ble_eq_true rfl⟩) (fw_preV hN hK hP (mm_0 (by decide)) (mk_0 0) rfl) rfl rfl hl.1 rfl (lv_room (Nat.le_of_ble_eq_true rfl)) md_Mo_reply_10 ⟨Nat.le_of_ble_eq_true rfl, Nat.le_of_ble_eq_true rfl⟩) hS (fun v1 H locs ev1 hI hP hS => ?_)
  exact fw_vret hx hb hr hlocks hS hP hI md_Mo_reply_13 (by subst ev1; simp only [mf_Mo_reply_1])
def mf_Mo_connect_0_j1 (v0 : fw_V) (a2 : Int32)  : fw_V :=
  if (v0 28 0 0) ≤ (1 : Int32) then
    let v3 := fw_up v0 28 0 (0) (1 : Int32)
    let v4 := fw_up v3 29 0 (0) a2
    let v5 := fw_up v4 32 0 (0) (0 : Int32)
    let v8 := fw_up v5 43 0 (0) ((v5 10 0 0) - (1 : Int32))
    let v9 := fw_up v8 44 0 (0) (-1 : Int32)
    let v10 := mf_Mo_mark_0 v9 (0 : Int32)
    let v13 := fw_up v10 43 0 (1) ((v10 10 0 1) - (1 : Int32))
    let v14 := fw_up v13 44 0 (1) (-1 : Int32)
    let v15 := mf_Mo_mark_0 v14 (1 : Int32)
    let v18 := fw_up v15 43 0 (2) ((v15 10 0 2) - (1 : Int32))
    let v19 := fw_up v18 44 0 (2) (-1 : Int32)
    let v20 := mf_Mo_mark_0 v19 (2 : Int32)
    let v22 := mf_Mo_reply_0 v20 (4 : Int32) (v20 31 0 0)
    v22
  else
    v0
def mf_Mo_connect_0 (v0 : fw_V) (a2 : Int32) : fw_V :=
  if (v0 28 0 0) = (0 : Int32) then
    mf_Mo_connect_0_j1 v0 a2
  else
    if (v0 29 0 0) = a2 then
      mf_Mo_connect_0_j1 v0 a2
    else
      let v24 := mf_Mo_send v0 (5 : Int32) a2 (0 : Int32) (2 : Int32)
      v24

theorem mca_Mo_connect_0_j1 {v0 : fw_V} {a2 : Int32} {i k : Nat} : mf_Mo_connect_0_j1 v0 a2 10 i k = v0 10 i k := by
  unfold mf_Mo_connect_0_j1
  try dsimp only
  all_goals ((repeat' split) <;> simp [fw_up, fw_row, mca_Mo_mark_0, mca_Mo_reply_0])
theorem mca_Mo_connect_0 {v0 : fw_V} {a2 : Int32} {i k : Nat} : mf_Mo_connect_0 v0 a2 10 i k = v0 10 i k := by
  unfold mf_Mo_connect_0
  try dsimp only
  all_goals ((repeat' split) <;> simp [fw_up, fw_row, mca_Mo_connect_0_j1, mca_Mo_send])
set_option maxHeartbeats 4000000 in
set_option maxRecDepth 100000 in
theorem mc_Mo_connect_0 (l : Launch) {D : va_G} {cA : Nat → ClassId} {ad : Nat → Nat → Nat} (hD : fw_D mCL ad) {b : Nat} (v0 : fw_V) (hI : mI b v0) (a2 : Int32) (hq0 : vp_in (v0 10 0 0) 9 ∧ vp_in (v0 10 0 1) 9 ∧ vp_in (v0 10 0 2) 9) : Met l my_Mo_connect (Cond.code my_Mo_connect mb_Mo_connect 4 none :: vTB) mrm_Mo_connect (fw_Pc vNL D vcls (vtys cA) mCL cA mkd ad v0 [.ref (ad 0 0), .int (0 : Int32), .int a2]) (fw_Qv D vcls mCL cA mkd ad (mI b) (mf_Mo_connect_0 v0 a2)) 0 0 (fw_A mCL ad) := by
  refine Met.ofW (cc := mb_Mo_connect) (maxL := 4) (ret := none) (by decide) rfl ?_
  intro p e s m args below meth c s₁ B hml hv
  obtain ⟨rfl, hP, hK, hN⟩ := hv
  have hx := B.exec
  have hb := B.bytes
  have hr := B.returns
  have hts : ∀ w ∈ vTB, w.before ([.ref (ad 0 0), .int (0 : Int32), .int a2] : List Value).toArray s = true := fun w h => atoms_spec (ws := (Cond.code my_Mo_connect mb_Mo_connect 4 none :: vTB)) B.pre w (List.mem_cons_of_mem _ h)
  have hown : s.vm.findClass R_Mo = some m.cls := findClass_of_methodNamed B.named
  have hlocks := B.notSynchronized
  have hS : va_S (fw_A mCL ad) s.heap s.heap [] := va_S.rf
  have J1 : ∀  (H : Heap) (locs : List Loc) (ls : Array Slot), mf_Mo_connect_0 v0 a2 = mf_Mo_connect_0_j1 v0 a2 → mI b v0 → va_P D vcls (fw_w mCL cA mkd ad v0) H → va_S (fw_A mCL ad) s.heap H locs → lv_has ls 4 [(0, .ref (ad 0 0)), (1, .int (0 : Int32)), (2, .int a2)] → W p l e (headSpec (Cond.code my_Mo_connect mb_Mo_connect 4 none :: vTB) mrm_Mo_connect).room s m ([.ref (ad 0 0), .int (0 : Int32), .int a2] : List Value).toArray below meth c H locs 0 0 (MQ below (fw_Qv D vcls mCL cA mkd ad (mI b) (mf_Mo_connect_0 v0 a2)) ([.ref (ad 0 0), .int (0 : Int32), .int a2] : List Value).toArray s 0 0 (fw_A mCL ad)) (F0 m 28 ls []) := by
    intro  H locs ls hj  hI hP hS hl
    refine lv_aload_n hx hb md_Mo_connect_28 rfl (lv_at hl 0 rfl) ?_
    refine fw_getr hx hb hts i_Mo hown hK hP (mm_0 (by decide)) (mk_0 0) rfl 27 (by decide) (hts _ L_Mo_89) (fun _ h9 => h9) rfl md_Mo_connect_29 ?_
    refine lv_iload_n hx hb md_Mo_connect_32 rfl (lv_at hl 1 rfl) ?_
    refine fw_iald hx hb hK hP (mm_28 (by decide)) (mk_28 0) 0 rfl (j := 0) (by decide) (fw_inc (by decide)) md_Mo_connect_33 ?_
    refine lv_iconst (v := (1 : Int32)) hx hb md_Mo_connect_34 (by decide) ?_
    refine lv_icmp_le (tgt := 39) hx hb md_Mo_connect_35 (by decide) (fun c_2 => ?_) (fun c_2 => ?_)
    · refine lv_aload_n hx hb md_Mo_connect_39 rfl (lv_at hl 0 rfl) ?_
      refine fw_getr hx hb hts i_Mo hown hK hP (mm_0 (by decide)) (mk_0 0) rfl 27 (by decide) (hts _ L_Mo_89) (fun _ h9 => h9) rfl md_Mo_connect_40 ?_
      refine lv_iload_n hx hb md_Mo_connect_43 rfl (lv_at hl 1 rfl) ?_
      refine lv_iconst (v := (1 : Int32)) hx hb md_Mo_connect_44 (by decide) ?_
      refine fw_iast hx hb hK hD hP hS (mm_28 (by decide)) (mk_28 0) 0 rfl (j := 0) (by decide) (fw_inc (by decide)) md_Mo_connect_45 (fun v3 H locs ev3 hP hS => ?_)
      have hI : mI b v3 := by rw [ev3]; exact mI_up hI trivial trivial
      refine lv_aload_n hx hb md_Mo_connect_46 rfl (lv_at hl 0 rfl) ?_
      refine fw_getr hx hb hts i_Mo hown hK hP (mm_0 (by decide)) (mk_0 0) rfl 28 (by decide) (hts _ L_Mo_92) (fun _ h9 => h9) rfl md_Mo_connect_47 ?_
      refine lv_iload_n hx hb md_Mo_connect_50 rfl (lv_at hl 1 rfl) ?_
      refine lv_iload_n hx hb md_Mo_connect_51 rfl (lv_at hl 2 rfl) ?_
      refine fw_iast hx hb hK hD hP hS (mm_29 (by decide)) (mk_29 0) 0 rfl (j := 0) (by decide) (fw_inc (by decide)) md_Mo_connect_52 (fun v4 H locs ev4 hP hS => ?_)
      have hI : mI b v4 := by rw [ev4]; exact mI_up hI trivial trivial
      refine lv_aload_n hx hb md_Mo_connect_53 rfl (lv_at hl 0 rfl) ?_
      refine fw_getr hx hb hts i_Mo hown hK hP (mm_0 (by decide)) (mk_0 0) rfl 31 (by decide) (hts _ L_Mo_101) (fun _ h9 => h9) rfl md_Mo_connect_54 ?_
      refine lv_iload_n hx hb md_Mo_connect_57 rfl (lv_at hl 1 rfl) ?_
      refine lv_iconst (v := (0 : Int32)) hx hb md_Mo_connect_58 (by decide) ?_
      refine fw_iast hx hb hK hD hP hS (mm_32 (by decide)) (mk_32 0) 0 rfl (j := 0) (by decide) (fw_inc (by decide)) md_Mo_connect_59 (fun v5 H locs ev5 hP hS => ?_)
      have hI : mI b v5 := by rw [ev5]; exact mI_up hI trivial trivial
      refine lv_iconst (v := (0 : Int32)) hx hb md_Mo_connect_60 (by decide) ?_
      refine lv_istore_n (lv' := [(3, .int (0 : Int32)), (0, .ref (ad 0 0)), (1, .int (0 : Int32)), (2, .int a2)]) hx hb md_Mo_connect_61 rfl hl (by decide) rfl (fun ls hl => ?_)
      refine lv_iload_n hx hb md_Mo_connect_62 rfl (lv_at hl 0 rfl) ?_
      refine lv_iconst (v := (3 : Int32)) hx hb md_Mo_connect_63 (by decide) ?_
      refine lv_icmp_ge (tgt := 108) hx hb md_Mo_connect_64 (by decide) (fun c_6 => absurd c_6 (by decide)) (fun _ => ?_)
      refine lv_aload_n hx hb md_Mo_connect_67 rfl (lv_at hl 1 rfl) ?_
      refine fw_getr hx hb hts i_Mo hown hK hP (mm_0 (by decide)) (mk_0 0) rfl 42 (by decide) (hts _ L_Mo_134) (fun _ h9 => h9) rfl md_Mo_connect_68 ?_
      refine lv_iconst (v := (3 : Int32)) hx hb md_Mo_connect_71 (by decide) ?_
      refine lv_iload_n hx hb md_Mo_connect_72 rfl (lv_at hl 2 rfl) ?_
      refine lv_imul hx hb md_Mo_connect_73 ?_
      refine fw_top (y := (0 : Int32)) (by decide) ?_
      refine lv_iload_n hx hb md_Mo_connect_74 rfl (lv_at hl 0 rfl) ?_
      refine lv_iadd hx hb md_Mo_connect_75 ?_
      refine fw_top (y := (0 : Int32)) (by decide) ?_
      refine lv_aload_n hx hb md_Mo_connect_76 rfl (lv_at hl 1 rfl) ?_
      refine fw_getr hx hb hts i_Mo hown hK hP (mm_0 (by decide)) (mk_0 0) rfl 9 (by decide) (hts _ L_Mo_38) (fun _ h9 => h9) rfl md_Mo_connect_77 ?_
      refine lv_iload_n hx hb md_Mo_connect_80 rfl (lv_at hl 0 rfl) ?_
      refine fw_iald hx hb hK hP (mm_10 (by decide)) (mk_10 0) 0 rfl (j := 0) (by decide) (fw_inc (by decide)) md_Mo_connect_81 ?_
      have h_7 : vp_in (v5 10 0 0) 9 := (by rw [ev5, fw_up_c (c := 32) (c' := 10) (by decide), ev4, fw_up_c (c := 29) (c' := 10) (by decide), ev3, fw_up_c (c := 28) (c' := 10) (by decide)]; exact hq0.1)
      refine lv_iconst (v := (1 : Int32)) hx hb md_Mo_connect_82 (by decide) ?_
      refine lv_isub hx hb md_Mo_connect_83 ?_
      refine fw_iast hx hb hK hD hP hS (mm_43 (by decide)) (mk_43 0) 0 rfl (j := 0) (by decide) (fw_inc (by decide)) md_Mo_connect_84 (fun v8 H locs ev8 hP hS => ?_)
      have hI : mI b v8 := by rw [ev8]; exact mI_up hI (fw_m8s h_7) trivial
      refine lv_aload_n hx hb md_Mo_connect_85 rfl (lv_at hl 1 rfl) ?_
      refine fw_getr hx hb hts i_Mo hown hK hP (mm_0 (by decide)) (mk_0 0) rfl 43 (by decide) (hts _ L_Mo_137) (fun _ h9 => h9) rfl md_Mo_connect_86 ?_
      refine lv_iconst (v := (3 : Int32)) hx hb md_Mo_connect_89 (by decide) ?_
      refine lv_iload_n hx hb md_Mo_connect_90 rfl (lv_at hl 2 rfl) ?_
      refine lv_imul hx hb md_Mo_connect_91 ?_
      refine fw_top (y := (0 : Int32)) (by decide) ?_
      refine lv_iload_n hx hb md_Mo_connect_92 rfl (lv_at hl 0 rfl) ?_
      refine lv_iadd hx hb md_Mo_connect_93 ?_
      refine fw_top (y := (0 : Int32)) (by decide) ?_
      refine lv_iconst (v := (-1 : Int32)) hx hb md_Mo_connect_94 (by decide) ?_
      refine fw_iast hx hb hK hD hP hS (mm_44 (by decide)) (mk_44 0) 0 rfl (j := 0) (by decide) (fw_inc (by decide)) md_Mo_connect_95 (fun v9 H locs ev9 hP hS => ?_)
      have hI : mI b v9 := by rw [ev9]; exact mI_up hI trivial trivial
      refine lv_aload_n hx hb md_Mo_connect_96 rfl (lv_at hl 1 rfl) ?_
      refine lv_iload_n hx hb md_Mo_connect_97 rfl (lv_at hl 2 rfl) ?_
      refine lv_iload_n hx hb md_Mo_connect_98 rfl (lv_at hl 0 rfl) ?_
      refine fw_cv (va_runV (As := [.int (0 : Int32), .int (0 : Int32)]) (rest := []) ⟨hx, hb, hml, hown, hts⟩ (mc_Mo_mark_0 l hD v9 hI (0 : Int32) (fw_inc (by decide))) (mw_Mo_mark hts L_Mo_163 ⟨Nat.le_of_ble_eq_true rfl, Nat.le_of_ble_eq_true rfl⟩) (fw_preV hN hK hP (mm_0 (by decide)) (mk_0 0) rfl) rfl rfl hl.1 rfl (lv_room (Nat.le_of_ble_eq_true rfl)) md_Mo_connect_99 ⟨Nat.le_of_ble_eq_true rfl, Nat.le_of_ble_eq_true rfl⟩) hS (fun v10 H locs ev10 hI hP hS => ?_)
      refine lv_iinc (v := (1 : Int32)) (lv' := [(3, .int (1 : Int32)), (0, .ref (ad 0 0)), (1, .int (0 : Int32)), (2, .int a2)]) hx hb md_Mo_connect_102 hl (k := 0) rfl (by decide) (by decide) rfl (fun ls hl => ?_)
      refine lv_goto (tgt := 62) hx hb md_Mo_connect_105 (by decide) ?_
      refine lv_iload_n hx hb md_Mo_connect_62 rfl (lv_at hl 0 rfl) ?_
      refine lv_iconst (v := (3 : Int32)) hx hb md_Mo_connect_63 (by decide) ?_
      refine lv_icmp_ge (tgt := 108) hx hb md_Mo_connect_64 (by decide) (fun c_11 => absurd c_11 (by decide)) (fun _ => ?_)
      refine lv_aload_n hx hb md_Mo_connect_67 rfl (lv_at hl 1 rfl) ?_
      refine fw_getr hx hb hts i_Mo hown hK hP (mm_0 (by decide)) (mk_0 0) rfl 42 (by decide) (hts _ L_Mo_134) (fun _ h9 => h9) rfl md_Mo_connect_68 ?_
      refine lv_iconst (v := (3 : Int32)) hx hb md_Mo_connect_71 (by decide) ?_
      refine lv_iload_n hx hb md_Mo_connect_72 rfl (lv_at hl 2 rfl) ?_
      refine lv_imul hx hb md_Mo_connect_73 ?_
      refine fw_top (y := (0 : Int32)) (by decide) ?_
      refine lv_iload_n hx hb md_Mo_connect_74 rfl (lv_at hl 0 rfl) ?_
      refine lv_iadd hx hb md_Mo_connect_75 ?_
      refine fw_top (y := (1 : Int32)) (by decide) ?_
      refine lv_aload_n hx hb md_Mo_connect_76 rfl (lv_at hl 1 rfl) ?_
      refine fw_getr hx hb hts i_Mo hown hK hP (mm_0 (by decide)) (mk_0 0) rfl 9 (by decide) (hts _ L_Mo_38) (fun _ h9 => h9) rfl md_Mo_connect_77 ?_
      refine lv_iload_n hx hb md_Mo_connect_80 rfl (lv_at hl 0 rfl) ?_
      refine fw_iald hx hb hK hP (mm_10 (by decide)) (mk_10 0) 0 rfl (j := 1) (by decide) (fw_inc (by decide)) md_Mo_connect_81 ?_
      have h_12 : vp_in (v10 10 0 1) 9 := (by rw [ev10, mca_Mo_mark_0, ev9, fw_up_c (c := 44) (c' := 10) (by decide), ev8, fw_up_c (c := 43) (c' := 10) (by decide), ev5, fw_up_c (c := 32) (c' := 10) (by decide), ev4, fw_up_c (c := 29) (c' := 10) (by decide), ev3, fw_up_c (c := 28) (c' := 10) (by decide)]; exact hq0.2.1)
      refine lv_iconst (v := (1 : Int32)) hx hb md_Mo_connect_82 (by decide) ?_
      refine lv_isub hx hb md_Mo_connect_83 ?_
      refine fw_iast hx hb hK hD hP hS (mm_43 (by decide)) (mk_43 0) 0 rfl (j := 1) (by decide) (fw_inc (by decide)) md_Mo_connect_84 (fun v13 H locs ev13 hP hS => ?_)
      have hI : mI b v13 := by rw [ev13]; exact mI_up hI (fw_m8s h_12) trivial
      refine lv_aload_n hx hb md_Mo_connect_85 rfl (lv_at hl 1 rfl) ?_
      refine fw_getr hx hb hts i_Mo hown hK hP (mm_0 (by decide)) (mk_0 0) rfl 43 (by decide) (hts _ L_Mo_137) (fun _ h9 => h9) rfl md_Mo_connect_86 ?_
      refine lv_iconst (v := (3 : Int32)) hx hb md_Mo_connect_89 (by decide) ?_
      refine lv_iload_n hx hb md_Mo_connect_90 rfl (lv_at hl 2 rfl) ?_
      refine lv_imul hx hb md_Mo_connect_91 ?_
      refine fw_top (y := (0 : Int32)) (by decide) ?_
      refine lv_iload_n hx hb md_Mo_connect_92 rfl (lv_at hl 0 rfl) ?_
      refine lv_iadd hx hb md_Mo_connect_93 ?_
      refine fw_top (y := (1 : Int32)) (by decide) ?_
      refine lv_iconst (v := (-1 : Int32)) hx hb md_Mo_connect_94 (by decide) ?_
      refine fw_iast hx hb hK hD hP hS (mm_44 (by decide)) (mk_44 0) 0 rfl (j := 1) (by decide) (fw_inc (by decide)) md_Mo_connect_95 (fun v14 H locs ev14 hP hS => ?_)
      have hI : mI b v14 := by rw [ev14]; exact mI_up hI trivial trivial
      refine lv_aload_n hx hb md_Mo_connect_96 rfl (lv_at hl 1 rfl) ?_
      refine lv_iload_n hx hb md_Mo_connect_97 rfl (lv_at hl 2 rfl) ?_
      refine lv_iload_n hx hb md_Mo_connect_98 rfl (lv_at hl 0 rfl) ?_
      refine fw_cv (va_runV (As := [.int (0 : Int32), .int (1 : Int32)]) (rest := []) ⟨hx, hb, hml, hown, hts⟩ (mc_Mo_mark_0 l hD v14 hI (1 : Int32) (fw_inc (by decide))) (mw_Mo_mark hts L_Mo_163 ⟨Nat.le_of_ble_eq_true rfl, Nat.le_of_ble_eq_true rfl⟩) (fw_preV hN hK hP (mm_0 (by decide)) (mk_0 0) rfl) rfl rfl hl.1 rfl (lv_room (Nat.le_of_ble_eq_true rfl)) md_Mo_connect_99 ⟨Nat.le_of_ble_eq_true rfl, Nat.le_of_ble_eq_true rfl⟩) hS (fun v15 H locs ev15 hI hP hS => ?_)
      refine lv_iinc (v := (2 : Int32)) (lv' := [(3, .int (2 : Int32)), (0, .ref (ad 0 0)), (1, .int (0 : Int32)), (2, .int a2)]) hx hb md_Mo_connect_102 hl (k := 0) rfl (by decide) (by decide) rfl (fun ls hl => ?_)
      refine lv_goto (tgt := 62) hx hb md_Mo_connect_105 (by decide) ?_
      refine lv_iload_n hx hb md_Mo_connect_62 rfl (lv_at hl 0 rfl) ?_
      refine lv_iconst (v := (3 : Int32)) hx hb md_Mo_connect_63 (by decide) ?_
      refine lv_icmp_ge (tgt := 108) hx hb md_Mo_connect_64 (by decide) (fun c_16 => absurd c_16 (by decide)) (fun _ => ?_)
      refine lv_aload_n hx hb md_Mo_connect_67 rfl (lv_at hl 1 rfl) ?_
      refine fw_getr hx hb hts i_Mo hown hK hP (mm_0 (by decide)) (mk_0 0) rfl 42 (by decide) (hts _ L_Mo_134) (fun _ h9 => h9) rfl md_Mo_connect_68 ?_
      refine lv_iconst (v := (3 : Int32)) hx hb md_Mo_connect_71 (by decide) ?_
      refine lv_iload_n hx hb md_Mo_connect_72 rfl (lv_at hl 2 rfl) ?_
      refine lv_imul hx hb md_Mo_connect_73 ?_
      refine fw_top (y := (0 : Int32)) (by decide) ?_
      refine lv_iload_n hx hb md_Mo_connect_74 rfl (lv_at hl 0 rfl) ?_
      refine lv_iadd hx hb md_Mo_connect_75 ?_
      refine fw_top (y := (2 : Int32)) (by decide) ?_
      refine lv_aload_n hx hb md_Mo_connect_76 rfl (lv_at hl 1 rfl) ?_
      refine fw_getr hx hb hts i_Mo hown hK hP (mm_0 (by decide)) (mk_0 0) rfl 9 (by decide) (hts _ L_Mo_38) (fun _ h9 => h9) rfl md_Mo_connect_77 ?_
      refine lv_iload_n hx hb md_Mo_connect_80 rfl (lv_at hl 0 rfl) ?_
      refine fw_iald hx hb hK hP (mm_10 (by decide)) (mk_10 0) 0 rfl (j := 2) (by decide) (fw_inc (by decide)) md_Mo_connect_81 ?_
      have h_17 : vp_in (v15 10 0 2) 9 := (by rw [ev15, mca_Mo_mark_0, ev14, fw_up_c (c := 44) (c' := 10) (by decide), ev13, fw_up_c (c := 43) (c' := 10) (by decide), ev10, mca_Mo_mark_0, ev9, fw_up_c (c := 44) (c' := 10) (by decide), ev8, fw_up_c (c := 43) (c' := 10) (by decide), ev5, fw_up_c (c := 32) (c' := 10) (by decide), ev4, fw_up_c (c := 29) (c' := 10) (by decide), ev3, fw_up_c (c := 28) (c' := 10) (by decide)]; exact hq0.2.2)
      refine lv_iconst (v := (1 : Int32)) hx hb md_Mo_connect_82 (by decide) ?_
      refine lv_isub hx hb md_Mo_connect_83 ?_
      refine fw_iast hx hb hK hD hP hS (mm_43 (by decide)) (mk_43 0) 0 rfl (j := 2) (by decide) (fw_inc (by decide)) md_Mo_connect_84 (fun v18 H locs ev18 hP hS => ?_)
      have hI : mI b v18 := by rw [ev18]; exact mI_up hI (fw_m8s h_17) trivial
      refine lv_aload_n hx hb md_Mo_connect_85 rfl (lv_at hl 1 rfl) ?_
      refine fw_getr hx hb hts i_Mo hown hK hP (mm_0 (by decide)) (mk_0 0) rfl 43 (by decide) (hts _ L_Mo_137) (fun _ h9 => h9) rfl md_Mo_connect_86 ?_
      refine lv_iconst (v := (3 : Int32)) hx hb md_Mo_connect_89 (by decide) ?_
      refine lv_iload_n hx hb md_Mo_connect_90 rfl (lv_at hl 2 rfl) ?_
      refine lv_imul hx hb md_Mo_connect_91 ?_
      refine fw_top (y := (0 : Int32)) (by decide) ?_
      refine lv_iload_n hx hb md_Mo_connect_92 rfl (lv_at hl 0 rfl) ?_
      refine lv_iadd hx hb md_Mo_connect_93 ?_
      refine fw_top (y := (2 : Int32)) (by decide) ?_
      refine lv_iconst (v := (-1 : Int32)) hx hb md_Mo_connect_94 (by decide) ?_
      refine fw_iast hx hb hK hD hP hS (mm_44 (by decide)) (mk_44 0) 0 rfl (j := 2) (by decide) (fw_inc (by decide)) md_Mo_connect_95 (fun v19 H locs ev19 hP hS => ?_)
      have hI : mI b v19 := by rw [ev19]; exact mI_up hI trivial trivial
      refine lv_aload_n hx hb md_Mo_connect_96 rfl (lv_at hl 1 rfl) ?_
      refine lv_iload_n hx hb md_Mo_connect_97 rfl (lv_at hl 2 rfl) ?_
      refine lv_iload_n hx hb md_Mo_connect_98 rfl (lv_at hl 0 rfl) ?_
      refine fw_cv (va_runV (As := [.int (0 : Int32), .int (2 : Int32)]) (rest := []) ⟨hx, hb, hml, hown, hts⟩ (mc_Mo_mark_0 l hD v19 hI (2 : Int32) (fw_inc (by decide))) (mw_Mo_mark hts L_Mo_163 ⟨Nat.le_of_ble_eq_true rfl, Nat.le_of_ble_eq_true rfl⟩) (fw_preV hN hK hP (mm_0 (by decide)) (mk_0 0) rfl) rfl rfl hl.1 rfl (lv_room (Nat.le_of_ble_eq_true rfl)) md_Mo_connect_99 ⟨Nat.le_of_ble_eq_true rfl, Nat.le_of_ble_eq_true rfl⟩) hS (fun v20 H locs ev20 hI hP hS => ?_)
      refine lv_iinc (v := (3 : Int32)) (lv' := [(3, .int (3 : Int32)), (0, .ref (ad 0 0)), (1, .int (0 : Int32)), (2, .int a2)]) hx hb md_Mo_connect_102 hl (k := 0) rfl (by decide) (by decide) rfl (fun ls hl => ?_)
      refine lv_goto (tgt := 62) hx hb md_Mo_connect_105 (by decide) ?_
      refine lv_iload_n hx hb md_Mo_connect_62 rfl (lv_at hl 0 rfl) ?_
      refine lv_iconst (v := (3 : Int32)) hx hb md_Mo_connect_63 (by decide) ?_
      refine lv_icmp_ge (tgt := 108) hx hb md_Mo_connect_64 (by decide) (fun _ => ?_) (fun c_21 => absurd (by decide) c_21)
      refine lv_aload_n hx hb md_Mo_connect_108 rfl (lv_at hl 1 rfl) ?_
      refine lv_iload_n hx hb md_Mo_connect_109 rfl (lv_at hl 2 rfl) ?_
      refine lv_iconst (v := (4 : Int32)) hx hb md_Mo_connect_110 (by decide) ?_
      refine lv_aload_n hx hb md_Mo_connect_111 rfl (lv_at hl 1 rfl) ?_
      refine fw_getr hx hb hts i_Mo hown hK hP (mm_0 (by decide)) (mk_0 0) rfl 30 (by decide) (hts _ L_Mo_98) (fun _ h9 => h9) rfl md_Mo_connect_112 ?_
      refine lv_iload_n hx hb md_Mo_connect_115 rfl (lv_at hl 2 rfl) ?_
      refine fw_iald hx hb hK hP (mm_31 (by decide)) (mk_31 0) 0 rfl (j := 0) (by decide) (fw_inc (by decide)) md_Mo_connect_116 ?_
      refine fw_cv (va_runV (As := [.int (0 : Int32), .int (4 : Int32), .int (v20 31 0 0)]) (rest := []) ⟨hx, hb, hml, hown, hts⟩ (mc_Mo_reply_0 l hD v20 hI (4 : Int32) (v20 31 0 0) (fun q => absurd q (by decide)) (by decide) (by decide)) (mw_Mo_reply hts L_Mo_238 ⟨Nat.le_of_ble_eq_true rfl, Nat.le_of_ble_eq_true rfl⟩) (fw_preV hN hK hP (mm_0 (by decide)) (mk_0 0) rfl) rfl rfl hl.1 rfl (lv_room (Nat.le_of_ble_eq_true rfl)) md_Mo_connect_117 ⟨Nat.le_of_ble_eq_true rfl, Nat.le_of_ble_eq_true rfl⟩) hS (fun v22 H locs ev22 hI hP hS => ?_)
      exact fw_vret hx hb hr hlocks hS hP hI md_Mo_connect_120 (by rw [hj]; subst ev3 ev4 ev5 ev8 ev9 ev10 ev13 ev14 ev15 ev18 ev19 ev20 ev22; simp only [mf_Mo_connect_0_j1, if_pos c_2])
    · exact fw_vret hx hb hr hlocks hS hP hI md_Mo_connect_38 (by rw [hj]; simp only [mf_Mo_connect_0_j1, if_neg c_2])
  skip
  have hl := lv_entry ([.ref (ad 0 0), .int (0 : Int32), .int a2]) (n := 4) (Nat.le_of_ble_eq_true rfl)
  rw [lg_entry_eq]
  generalize (lg_sl ([.ref (ad 0 0), .int (0 : Int32), .int a2]) ++ List.replicate (4 - (lg_sl ([.ref (ad 0 0), .int (0 : Int32), .int a2])).length) Slot.unset).toArray = ls at hl ⊢
  have hl : lv_has ls 4 [(0, .ref (ad 0 0)), (1, .int (0 : Int32)), (2, .int a2)] := hl
  refine lv_aload_n hx hb md_Mo_connect_0 rfl (lv_at hl 0 rfl) ?_
  refine fw_getr hx hb hts i_Mo hown hK hP (mm_0 (by decide)) (mk_0 0) rfl 27 (by decide) (hts _ L_Mo_89) (fun _ h9 => h9) rfl md_Mo_connect_1 ?_
  refine lv_iload_n hx hb md_Mo_connect_4 rfl (lv_at hl 1 rfl) ?_
  refine fw_iald hx hb hK hP (mm_28 (by decide)) (mk_28 0) 0 rfl (j := 0) (by decide) (fw_inc (by decide)) md_Mo_connect_5 ?_
  refine lv_if_eq (tgt := 28) hx hb md_Mo_connect_6 (by decide) (fun c_1 => ?_) (fun c_1 => ?_)
  · exact J1  _ _ _ (by simp only [mf_Mo_connect_0, if_pos c_1])   hI hP hS (lv_sub hl [0, 1, 2] rfl)
  · refine lv_aload_n hx hb md_Mo_connect_9 rfl (lv_at hl 0 rfl) ?_
    refine fw_getr hx hb hts i_Mo hown hK hP (mm_0 (by decide)) (mk_0 0) rfl 28 (by decide) (hts _ L_Mo_92) (fun _ h9 => h9) rfl md_Mo_connect_10 ?_
    refine lv_iload_n hx hb md_Mo_connect_13 rfl (lv_at hl 1 rfl) ?_
    refine fw_iald hx hb hK hP (mm_29 (by decide)) (mk_29 0) 0 rfl (j := 0) (by decide) (fw_inc (by decide)) md_Mo_connect_14 ?_
    refine lv_iload_n hx hb md_Mo_connect_15 rfl (lv_at hl 2 rfl) ?_
    refine lv_icmp_eq (tgt := 28) hx hb md_Mo_connect_16 (by decide) (fun c_23 => ?_) (fun c_23 => ?_)
    · exact J1  _ _ _ (by simp only [mf_Mo_connect_0, if_neg c_1, if_pos c_23])   hI hP hS (lv_sub hl [0, 1, 2] rfl)
    · refine lv_aload_n hx hb md_Mo_connect_19 rfl (lv_at hl 0 rfl) ?_
      refine lv_iconst (v := (5 : Int32)) hx hb md_Mo_connect_20 (by decide) ?_
      refine lv_iload_n hx hb md_Mo_connect_21 rfl (lv_at hl 2 rfl) ?_
      refine lv_iconst (v := (0 : Int32)) hx hb md_Mo_connect_22 (by decide) ?_
      refine lv_iconst (v := (2 : Int32)) hx hb md_Mo_connect_23 (by decide) ?_
      refine fw_cv (va_runV (As := [.int (5 : Int32), .int a2, .int (0 : Int32), .int (2 : Int32)]) (rest := []) ⟨hx, hb, hml, hown, hts⟩ (mc_Mo_send l hD v0 hI (5 : Int32) a2 (0 : Int32) (2 : Int32) (fun q => absurd q (by decide)) (fun q => absurd q (by decide)) (fun q => absurd q (by decide))) (mw_Mo_send hts L_Mo_197 ⟨Nat.le_of_ble_eq_true rfl, Nat.le_of_ble_eq_true rfl⟩) (fw_preV hN hK hP (mm_0 (by decide)) (mk_0 0) rfl) rfl rfl hl.1 rfl (lv_room (Nat.le_of_ble_eq_true rfl)) md_Mo_connect_24 ⟨Nat.le_of_ble_eq_true rfl, Nat.le_of_ble_eq_true rfl⟩) hS (fun v24 H locs ev24 hI hP hS => ?_)
      exact fw_vret hx hb hr hlocks hS hP hI md_Mo_connect_27 (by subst ev24; simp only [mf_Mo_connect_0, if_neg c_1, if_neg c_23])
def mf_Mo_connect_1_j1 (v0 : fw_V) (a2 : Int32)  : fw_V :=
  if (v0 28 0 1) ≤ (1 : Int32) then
    let v3 := fw_up v0 28 0 (1) (1 : Int32)
    let v4 := fw_up v3 29 0 (1) a2
    let v5 := fw_up v4 32 0 (1) (0 : Int32)
    let v8 := fw_up v5 43 0 (3) ((v5 10 0 0) - (1 : Int32))
    let v9 := fw_up v8 44 0 (3) (-1 : Int32)
    let v10 := mf_Mo_mark_1 v9 (0 : Int32)
    let v13 := fw_up v10 43 0 (4) ((v10 10 0 1) - (1 : Int32))
    let v14 := fw_up v13 44 0 (4) (-1 : Int32)
    let v15 := mf_Mo_mark_1 v14 (1 : Int32)
    let v18 := fw_up v15 43 0 (5) ((v15 10 0 2) - (1 : Int32))
    let v19 := fw_up v18 44 0 (5) (-1 : Int32)
    let v20 := mf_Mo_mark_1 v19 (2 : Int32)
    let v22 := mf_Mo_reply_1 v20 (4 : Int32) (v20 31 0 1)
    v22
  else
    v0
def mf_Mo_connect_1 (v0 : fw_V) (a2 : Int32) : fw_V :=
  if (v0 28 0 1) = (0 : Int32) then
    mf_Mo_connect_1_j1 v0 a2
  else
    if (v0 29 0 1) = a2 then
      mf_Mo_connect_1_j1 v0 a2
    else
      let v24 := mf_Mo_send v0 (5 : Int32) a2 (0 : Int32) (2 : Int32)
      v24

theorem mca_Mo_connect_1_j1 {v0 : fw_V} {a2 : Int32} {i k : Nat} : mf_Mo_connect_1_j1 v0 a2 10 i k = v0 10 i k := by
  unfold mf_Mo_connect_1_j1
  try dsimp only
  all_goals ((repeat' split) <;> simp [fw_up, fw_row, mca_Mo_mark_1, mca_Mo_reply_1])
theorem mca_Mo_connect_1 {v0 : fw_V} {a2 : Int32} {i k : Nat} : mf_Mo_connect_1 v0 a2 10 i k = v0 10 i k := by
  unfold mf_Mo_connect_1
  try dsimp only
  all_goals ((repeat' split) <;> simp [fw_up, fw_row, mca_Mo_connect_1_j1, mca_Mo_send])
set_option maxHeartbeats 4000000 in
set_option maxRecDepth 100000 in
theorem mc_Mo_connect_1 (l : Launch) {D : va_G} {cA : Nat → ClassId} {ad : Nat → Nat → Nat} (hD : fw_D mCL ad) {b : Nat} (v0 : fw_V) (hI : mI b v0) (a2 : Int32) (hq0 : vp_in (v0 10 0 0) 9 ∧ vp_in (v0 10 0 1) 9 ∧ vp_in (v0 10 0 2) 9) : Met l my_Mo_connect (Cond.code my_Mo_connect mb_Mo_connect 4 none :: vTB) mrm_Mo_connect (fw_Pc vNL D vcls (vtys cA) mCL cA mkd ad v0 [.ref (ad 0 0), .int (1 : Int32), .int a2]) (fw_Qv D vcls mCL cA mkd ad (mI b) (mf_Mo_connect_1 v0 a2)) 0 0 (fw_A mCL ad) := by
  refine Met.ofW (cc := mb_Mo_connect) (maxL := 4) (ret := none) (by decide) rfl ?_
  intro p e s m args below meth c s₁ B hml hv
  obtain ⟨rfl, hP, hK, hN⟩ := hv
  have hx := B.exec
  have hb := B.bytes
  have hr := B.returns
  have hts : ∀ w ∈ vTB, w.before ([.ref (ad 0 0), .int (1 : Int32), .int a2] : List Value).toArray s = true := fun w h => atoms_spec (ws := (Cond.code my_Mo_connect mb_Mo_connect 4 none :: vTB)) B.pre w (List.mem_cons_of_mem _ h)
  have hown : s.vm.findClass R_Mo = some m.cls := findClass_of_methodNamed B.named
  have hlocks := B.notSynchronized
  have hS : va_S (fw_A mCL ad) s.heap s.heap [] := va_S.rf
  have J1 : ∀  (H : Heap) (locs : List Loc) (ls : Array Slot), mf_Mo_connect_1 v0 a2 = mf_Mo_connect_1_j1 v0 a2 → mI b v0 → va_P D vcls (fw_w mCL cA mkd ad v0) H → va_S (fw_A mCL ad) s.heap H locs → lv_has ls 4 [(0, .ref (ad 0 0)), (1, .int (1 : Int32)), (2, .int a2)] → W p l e (headSpec (Cond.code my_Mo_connect mb_Mo_connect 4 none :: vTB) mrm_Mo_connect).room s m ([.ref (ad 0 0), .int (1 : Int32), .int a2] : List Value).toArray below meth c H locs 0 0 (MQ below (fw_Qv D vcls mCL cA mkd ad (mI b) (mf_Mo_connect_1 v0 a2)) ([.ref (ad 0 0), .int (1 : Int32), .int a2] : List Value).toArray s 0 0 (fw_A mCL ad)) (F0 m 28 ls []) := by
    intro  H locs ls hj  hI hP hS hl
    refine lv_aload_n hx hb md_Mo_connect_28 rfl (lv_at hl 0 rfl) ?_
    refine fw_getr hx hb hts i_Mo hown hK hP (mm_0 (by decide)) (mk_0 0) rfl 27 (by decide) (hts _ L_Mo_89) (fun _ h9 => h9) rfl md_Mo_connect_29 ?_
    refine lv_iload_n hx hb md_Mo_connect_32 rfl (lv_at hl 1 rfl) ?_
    refine fw_iald hx hb hK hP (mm_28 (by decide)) (mk_28 0) 0 rfl (j := 1) (by decide) (fw_inc (by decide)) md_Mo_connect_33 ?_
    refine lv_iconst (v := (1 : Int32)) hx hb md_Mo_connect_34 (by decide) ?_
    refine lv_icmp_le (tgt := 39) hx hb md_Mo_connect_35 (by decide) (fun c_2 => ?_) (fun c_2 => ?_)
    · refine lv_aload_n hx hb md_Mo_connect_39 rfl (lv_at hl 0 rfl) ?_
      refine fw_getr hx hb hts i_Mo hown hK hP (mm_0 (by decide)) (mk_0 0) rfl 27 (by decide) (hts _ L_Mo_89) (fun _ h9 => h9) rfl md_Mo_connect_40 ?_
      refine lv_iload_n hx hb md_Mo_connect_43 rfl (lv_at hl 1 rfl) ?_
      refine lv_iconst (v := (1 : Int32)) hx hb md_Mo_connect_44 (by decide) ?_
      refine fw_iast hx hb hK hD hP hS (mm_28 (by decide)) (mk_28 0) 0 rfl (j := 1) (by decide) (fw_inc (by decide)) md_Mo_connect_45 (fun v3 H locs ev3 hP hS => ?_)
      have hI : mI b v3 := by rw [ev3]; exact mI_up hI trivial trivial
      refine lv_aload_n hx hb md_Mo_connect_46 rfl (lv_at hl 0 rfl) ?_
      refine fw_getr hx hb hts i_Mo hown hK hP (mm_0 (by decide)) (mk_0 0) rfl 28 (by decide) (hts _ L_Mo_92) (fun _ h9 => h9) rfl md_Mo_connect_47 ?_
      refine lv_iload_n hx hb md_Mo_connect_50 rfl (lv_at hl 1 rfl) ?_
      refine lv_iload_n hx hb md_Mo_connect_51 rfl (lv_at hl 2 rfl) ?_
      refine fw_iast hx hb hK hD hP hS (mm_29 (by decide)) (mk_29 0) 0 rfl (j := 1) (by decide) (fw_inc (by decide)) md_Mo_connect_52 (fun v4 H locs ev4 hP hS => ?_)
      have hI : mI b v4 := by rw [ev4]; exact mI_up hI trivial trivial
      refine lv_aload_n hx hb md_Mo_connect_53 rfl (lv_at hl 0 rfl) ?_
      refine fw_getr hx hb hts i_Mo hown hK hP (mm_0 (by decide)) (mk_0 0) rfl 31 (by decide) (hts _ L_Mo_101) (fun _ h9 => h9) rfl md_Mo_connect_54 ?_
      refine lv_iload_n hx hb md_Mo_connect_57 rfl (lv_at hl 1 rfl) ?_
      refine lv_iconst (v := (0 : Int32)) hx hb md_Mo_connect_58 (by decide) ?_
      refine fw_iast hx hb hK hD hP hS (mm_32 (by decide)) (mk_32 0) 0 rfl (j := 1) (by decide) (fw_inc (by decide)) md_Mo_connect_59 (fun v5 H locs ev5 hP hS => ?_)
      have hI : mI b v5 := by rw [ev5]; exact mI_up hI trivial trivial
      refine lv_iconst (v := (0 : Int32)) hx hb md_Mo_connect_60 (by decide) ?_
      refine lv_istore_n (lv' := [(3, .int (0 : Int32)), (0, .ref (ad 0 0)), (1, .int (1 : Int32)), (2, .int a2)]) hx hb md_Mo_connect_61 rfl hl (by decide) rfl (fun ls hl => ?_)
      refine lv_iload_n hx hb md_Mo_connect_62 rfl (lv_at hl 0 rfl) ?_
      refine lv_iconst (v := (3 : Int32)) hx hb md_Mo_connect_63 (by decide) ?_
      refine lv_icmp_ge (tgt := 108) hx hb md_Mo_connect_64 (by decide) (fun c_6 => absurd c_6 (by decide)) (fun _ => ?_)
      refine lv_aload_n hx hb md_Mo_connect_67 rfl (lv_at hl 1 rfl) ?_
      refine fw_getr hx hb hts i_Mo hown hK hP (mm_0 (by decide)) (mk_0 0) rfl 42 (by decide) (hts _ L_Mo_134) (fun _ h9 => h9) rfl md_Mo_connect_68 ?_
      refine lv_iconst (v := (3 : Int32)) hx hb md_Mo_connect_71 (by decide) ?_
      refine lv_iload_n hx hb md_Mo_connect_72 rfl (lv_at hl 2 rfl) ?_
      refine lv_imul hx hb md_Mo_connect_73 ?_
      refine fw_top (y := (3 : Int32)) (by decide) ?_
      refine lv_iload_n hx hb md_Mo_connect_74 rfl (lv_at hl 0 rfl) ?_
      refine lv_iadd hx hb md_Mo_connect_75 ?_
      refine fw_top (y := (3 : Int32)) (by decide) ?_
      refine lv_aload_n hx hb md_Mo_connect_76 rfl (lv_at hl 1 rfl) ?_
      refine fw_getr hx hb hts i_Mo hown hK hP (mm_0 (by decide)) (mk_0 0) rfl 9 (by decide) (hts _ L_Mo_38) (fun _ h9 => h9) rfl md_Mo_connect_77 ?_
      refine lv_iload_n hx hb md_Mo_connect_80 rfl (lv_at hl 0 rfl) ?_
      refine fw_iald hx hb hK hP (mm_10 (by decide)) (mk_10 0) 0 rfl (j := 0) (by decide) (fw_inc (by decide)) md_Mo_connect_81 ?_
      have h_7 : vp_in (v5 10 0 0) 9 := (by rw [ev5, fw_up_c (c := 32) (c' := 10) (by decide), ev4, fw_up_c (c := 29) (c' := 10) (by decide), ev3, fw_up_c (c := 28) (c' := 10) (by decide)]; exact hq0.1)
      refine lv_iconst (v := (1 : Int32)) hx hb md_Mo_connect_82 (by decide) ?_
      refine lv_isub hx hb md_Mo_connect_83 ?_
      refine fw_iast hx hb hK hD hP hS (mm_43 (by decide)) (mk_43 0) 0 rfl (j := 3) (by decide) (fw_inc (by decide)) md_Mo_connect_84 (fun v8 H locs ev8 hP hS => ?_)
      have hI : mI b v8 := by rw [ev8]; exact mI_up hI (fw_m8s h_7) trivial
      refine lv_aload_n hx hb md_Mo_connect_85 rfl (lv_at hl 1 rfl) ?_
      refine fw_getr hx hb hts i_Mo hown hK hP (mm_0 (by decide)) (mk_0 0) rfl 43 (by decide) (hts _ L_Mo_137) (fun _ h9 => h9) rfl md_Mo_connect_86 ?_
      refine lv_iconst (v := (3 : Int32)) hx hb md_Mo_connect_89 (by decide) ?_
      refine lv_iload_n hx hb md_Mo_connect_90 rfl (lv_at hl 2 rfl) ?_
      refine lv_imul hx hb md_Mo_connect_91 ?_
      refine fw_top (y := (3 : Int32)) (by decide) ?_
      refine lv_iload_n hx hb md_Mo_connect_92 rfl (lv_at hl 0 rfl) ?_
      refine lv_iadd hx hb md_Mo_connect_93 ?_
      refine fw_top (y := (3 : Int32)) (by decide) ?_
      refine lv_iconst (v := (-1 : Int32)) hx hb md_Mo_connect_94 (by decide) ?_
      refine fw_iast hx hb hK hD hP hS (mm_44 (by decide)) (mk_44 0) 0 rfl (j := 3) (by decide) (fw_inc (by decide)) md_Mo_connect_95 (fun v9 H locs ev9 hP hS => ?_)
      have hI : mI b v9 := by rw [ev9]; exact mI_up hI trivial trivial
      refine lv_aload_n hx hb md_Mo_connect_96 rfl (lv_at hl 1 rfl) ?_
      refine lv_iload_n hx hb md_Mo_connect_97 rfl (lv_at hl 2 rfl) ?_
      refine lv_iload_n hx hb md_Mo_connect_98 rfl (lv_at hl 0 rfl) ?_
      refine fw_cv (va_runV (As := [.int (1 : Int32), .int (0 : Int32)]) (rest := []) ⟨hx, hb, hml, hown, hts⟩ (mc_Mo_mark_1 l hD v9 hI (0 : Int32) (fw_inc (by decide))) (mw_Mo_mark hts L_Mo_163 ⟨Nat.le_of_ble_eq_true rfl, Nat.le_of_ble_eq_true rfl⟩) (fw_preV hN hK hP (mm_0 (by decide)) (mk_0 0) rfl) rfl rfl hl.1 rfl (lv_room (Nat.le_of_ble_eq_true rfl)) md_Mo_connect_99 ⟨Nat.le_of_ble_eq_true rfl, Nat.le_of_ble_eq_true rfl⟩) hS (fun v10 H locs ev10 hI hP hS => ?_)
      refine lv_iinc (v := (1 : Int32)) (lv' := [(3, .int (1 : Int32)), (0, .ref (ad 0 0)), (1, .int (1 : Int32)), (2, .int a2)]) hx hb md_Mo_connect_102 hl (k := 0) rfl (by decide) (by decide) rfl (fun ls hl => ?_)
      refine lv_goto (tgt := 62) hx hb md_Mo_connect_105 (by decide) ?_
      refine lv_iload_n hx hb md_Mo_connect_62 rfl (lv_at hl 0 rfl) ?_
      refine lv_iconst (v := (3 : Int32)) hx hb md_Mo_connect_63 (by decide) ?_
      refine lv_icmp_ge (tgt := 108) hx hb md_Mo_connect_64 (by decide) (fun c_11 => absurd c_11 (by decide)) (fun _ => ?_)
      refine lv_aload_n hx hb md_Mo_connect_67 rfl (lv_at hl 1 rfl) ?_
      refine fw_getr hx hb hts i_Mo hown hK hP (mm_0 (by decide)) (mk_0 0) rfl 42 (by decide) (hts _ L_Mo_134) (fun _ h9 => h9) rfl md_Mo_connect_68 ?_
      refine lv_iconst (v := (3 : Int32)) hx hb md_Mo_connect_71 (by decide) ?_
      refine lv_iload_n hx hb md_Mo_connect_72 rfl (lv_at hl 2 rfl) ?_
      refine lv_imul hx hb md_Mo_connect_73 ?_
      refine fw_top (y := (3 : Int32)) (by decide) ?_
      refine lv_iload_n hx hb md_Mo_connect_74 rfl (lv_at hl 0 rfl) ?_
      refine lv_iadd hx hb md_Mo_connect_75 ?_
      refine fw_top (y := (4 : Int32)) (by decide) ?_
      refine lv_aload_n hx hb md_Mo_connect_76 rfl (lv_at hl 1 rfl) ?_
      refine fw_getr hx hb hts i_Mo hown hK hP (mm_0 (by decide)) (mk_0 0) rfl 9 (by decide) (hts _ L_Mo_38) (fun _ h9 => h9) rfl md_Mo_connect_77 ?_
      refine lv_iload_n hx hb md_Mo_connect_80 rfl (lv_at hl 0 rfl) ?_
      refine fw_iald hx hb hK hP (mm_10 (by decide)) (mk_10 0) 0 rfl (j := 1) (by decide) (fw_inc (by decide)) md_Mo_connect_81 ?_
      have h_12 : vp_in (v10 10 0 1) 9 := (by rw [ev10, mca_Mo_mark_1, ev9, fw_up_c (c := 44) (c' := 10) (by decide), ev8, fw_up_c (c := 43) (c' := 10) (by decide), ev5, fw_up_c (c := 32) (c' := 10) (by decide), ev4, fw_up_c (c := 29) (c' := 10) (by decide), ev3, fw_up_c (c := 28) (c' := 10) (by decide)]; exact hq0.2.1)
      refine lv_iconst (v := (1 : Int32)) hx hb md_Mo_connect_82 (by decide) ?_
      refine lv_isub hx hb md_Mo_connect_83 ?_
      refine fw_iast hx hb hK hD hP hS (mm_43 (by decide)) (mk_43 0) 0 rfl (j := 4) (by decide) (fw_inc (by decide)) md_Mo_connect_84 (fun v13 H locs ev13 hP hS => ?_)
      have hI : mI b v13 := by rw [ev13]; exact mI_up hI (fw_m8s h_12) trivial
      refine lv_aload_n hx hb md_Mo_connect_85 rfl (lv_at hl 1 rfl) ?_
      refine fw_getr hx hb hts i_Mo hown hK hP (mm_0 (by decide)) (mk_0 0) rfl 43 (by decide) (hts _ L_Mo_137) (fun _ h9 => h9) rfl md_Mo_connect_86 ?_
      refine lv_iconst (v := (3 : Int32)) hx hb md_Mo_connect_89 (by decide) ?_
      refine lv_iload_n hx hb md_Mo_connect_90 rfl (lv_at hl 2 rfl) ?_
      refine lv_imul hx hb md_Mo_connect_91 ?_
      refine fw_top (y := (3 : Int32)) (by decide) ?_
      refine lv_iload_n hx hb md_Mo_connect_92 rfl (lv_at hl 0 rfl) ?_
      refine lv_iadd hx hb md_Mo_connect_93 ?_
      refine fw_top (y := (4 : Int32)) (by decide) ?_
      refine lv_iconst (v := (-1 : Int32)) hx hb md_Mo_connect_94 (by decide) ?_
      refine fw_iast hx hb hK hD hP hS (mm_44 (by decide)) (mk_44 0) 0 rfl (j := 4) (by decide) (fw_inc (by decide)) md_Mo_connect_95 (fun v14 H locs ev14 hP hS => ?_)
      have hI : mI b v14 := by rw [ev14]; exact mI_up hI trivial trivial
      refine lv_aload_n hx hb md_Mo_connect_96 rfl (lv_at hl 1 rfl) ?_
      refine lv_iload_n hx hb md_Mo_connect_97 rfl (lv_at hl 2 rfl) ?_
      refine lv_iload_n hx hb md_Mo_connect_98 rfl (lv_at hl 0 rfl) ?_
      refine fw_cv (va_runV (As := [.int (1 : Int32), .int (1 : Int32)]) (rest := []) ⟨hx, hb, hml, hown, hts⟩ (mc_Mo_mark_1 l hD v14 hI (1 : Int32) (fw_inc (by decide))) (mw_Mo_mark hts L_Mo_163 ⟨Nat.le_of_ble_eq_true rfl, Nat.le_of_ble_eq_true rfl⟩) (fw_preV hN hK hP (mm_0 (by decide)) (mk_0 0) rfl) rfl rfl hl.1 rfl (lv_room (Nat.le_of_ble_eq_true rfl)) md_Mo_connect_99 ⟨Nat.le_of_ble_eq_true rfl, Nat.le_of_ble_eq_true rfl⟩) hS (fun v15 H locs ev15 hI hP hS => ?_)
      refine lv_iinc (v := (2 : Int32)) (lv' := [(3, .int (2 : Int32)), (0, .ref (ad 0 0)), (1, .int (1 : Int32)), (2, .int a2)]) hx hb md_Mo_connect_102 hl (k := 0) rfl (by decide) (by decide) rfl (fun ls hl => ?_)
      refine lv_goto (tgt := 62) hx hb md_Mo_connect_105 (by decide) ?_
      refine lv_iload_n hx hb md_Mo_connect_62 rfl (lv_at hl 0 rfl) ?_
      refine lv_iconst (v := (3 : Int32)) hx hb md_Mo_connect_63 (by decide) ?_
      refine lv_icmp_ge (tgt := 108) hx hb md_Mo_connect_64 (by decide) (fun c_16 => absurd c_16 (by decide)) (fun _ => ?_)
      refine lv_aload_n hx hb md_Mo_connect_67 rfl (lv_at hl 1 rfl) ?_
      refine fw_getr hx hb hts i_Mo hown hK hP (mm_0 (by decide)) (mk_0 0) rfl 42 (by decide) (hts _ L_Mo_134) (fun _ h9 => h9) rfl md_Mo_connect_68 ?_
      refine lv_iconst (v := (3 : Int32)) hx hb md_Mo_connect_71 (by decide) ?_
      refine lv_iload_n hx hb md_Mo_connect_72 rfl (lv_at hl 2 rfl) ?_
      refine lv_imul hx hb md_Mo_connect_73 ?_
      refine fw_top (y := (3 : Int32)) (by decide) ?_
      refine lv_iload_n hx hb md_Mo_connect_74 rfl (lv_at hl 0 rfl) ?_
      refine lv_iadd hx hb md_Mo_connect_75 ?_
      refine fw_top (y := (5 : Int32)) (by decide) ?_
      refine lv_aload_n hx hb md_Mo_connect_76 rfl (lv_at hl 1 rfl) ?_
      refine fw_getr hx hb hts i_Mo hown hK hP (mm_0 (by decide)) (mk_0 0) rfl 9 (by decide) (hts _ L_Mo_38) (fun _ h9 => h9) rfl md_Mo_connect_77 ?_
      refine lv_iload_n hx hb md_Mo_connect_80 rfl (lv_at hl 0 rfl) ?_
      refine fw_iald hx hb hK hP (mm_10 (by decide)) (mk_10 0) 0 rfl (j := 2) (by decide) (fw_inc (by decide)) md_Mo_connect_81 ?_
      have h_17 : vp_in (v15 10 0 2) 9 := (by rw [ev15, mca_Mo_mark_1, ev14, fw_up_c (c := 44) (c' := 10) (by decide), ev13, fw_up_c (c := 43) (c' := 10) (by decide), ev10, mca_Mo_mark_1, ev9, fw_up_c (c := 44) (c' := 10) (by decide), ev8, fw_up_c (c := 43) (c' := 10) (by decide), ev5, fw_up_c (c := 32) (c' := 10) (by decide), ev4, fw_up_c (c := 29) (c' := 10) (by decide), ev3, fw_up_c (c := 28) (c' := 10) (by decide)]; exact hq0.2.2)
      refine lv_iconst (v := (1 : Int32)) hx hb md_Mo_connect_82 (by decide) ?_
      refine lv_isub hx hb md_Mo_connect_83 ?_
      refine fw_iast hx hb hK hD hP hS (mm_43 (by decide)) (mk_43 0) 0 rfl (j := 5) (by decide) (fw_inc (by decide)) md_Mo_connect_84 (fun v18 H locs ev18 hP hS => ?_)
      have hI : mI b v18 := by rw [ev18]; exact mI_up hI (fw_m8s h_17) trivial
      refine lv_aload_n hx hb md_Mo_connect_85 rfl (lv_at hl 1 rfl) ?_
      refine fw_getr hx hb hts i_Mo hown hK hP (mm_0 (by decide)) (mk_0 0) rfl 43 (by decide) (hts _ L_Mo_137) (fun _ h9 => h9) rfl md_Mo_connect_86 ?_
      refine lv_iconst (v := (3 : Int32)) hx hb md_Mo_connect_89 (by decide) ?_
      refine lv_iload_n hx hb md_Mo_connect_90 rfl (lv_at hl 2 rfl) ?_
      refine lv_imul hx hb md_Mo_connect_91 ?_
      refine fw_top (y := (3 : Int32)) (by decide) ?_
      refine lv_iload_n hx hb md_Mo_connect_92 rfl (lv_at hl 0 rfl) ?_
      refine lv_iadd hx hb md_Mo_connect_93 ?_
      refine fw_top (y := (5 : Int32)) (by decide) ?_
      refine lv_iconst (v := (-1 : Int32)) hx hb md_Mo_connect_94 (by decide) ?_
      refine fw_iast hx hb hK hD hP hS (mm_44 (by decide)) (mk_44 0) 0 rfl (j := 5) (by decide) (fw_inc (by decide)) md_Mo_connect_95 (fun v19 H locs ev19 hP hS => ?_)
      have hI : mI b v19 := by rw [ev19]; exact mI_up hI trivial trivial
      refine lv_aload_n hx hb md_Mo_connect_96 rfl (lv_at hl 1 rfl) ?_
      refine lv_iload_n hx hb md_Mo_connect_97 rfl (lv_at hl 2 rfl) ?_
      refine lv_iload_n hx hb md_Mo_connect_98 rfl (lv_at hl 0 rfl) ?_
      refine fw_cv (va_runV (As := [.int (1 : Int32), .int (2 : Int32)]) (rest := []) ⟨hx, hb, hml, hown, hts⟩ (mc_Mo_mark_1 l hD v19 hI (2 : Int32) (fw_inc (by decide))) (mw_Mo_mark hts L_Mo_163 ⟨Nat.le_of_ble_eq_true rfl, Nat.le_of_ble_eq_true rfl⟩) (fw_preV hN hK hP (mm_0 (by decide)) (mk_0 0) rfl) rfl rfl hl.1 rfl (lv_room (Nat.le_of_ble_eq_true rfl)) md_Mo_connect_99 ⟨Nat.le_of_ble_eq_true rfl, Nat.le_of_ble_eq_true rfl⟩) hS (fun v20 H locs ev20 hI hP hS => ?_)
      refine lv_iinc (v := (3 : Int32)) (lv' := [(3, .int (3 : Int32)), (0, .ref (ad 0 0)), (1, .int (1 : Int32)), (2, .int a2)]) hx hb md_Mo_connect_102 hl (k := 0) rfl (by decide) (by decide) rfl (fun ls hl => ?_)
      refine lv_goto (tgt := 62) hx hb md_Mo_connect_105 (by decide) ?_
      refine lv_iload_n hx hb md_Mo_connect_62 rfl (lv_at hl 0 rfl) ?_
      refine lv_iconst (v := (3 : Int32)) hx hb md_Mo_connect_63 (by decide) ?_
      refine lv_icmp_ge (tgt := 108) hx hb md_Mo_connect_64 (by decide) (fun _ => ?_) (fun c_21 => absurd (by decide) c_21)
      refine lv_aload_n hx hb md_Mo_connect_108 rfl (lv_at hl 1 rfl) ?_
      refine lv_iload_n hx hb md_Mo_connect_109 rfl (lv_at hl 2 rfl) ?_
      refine lv_iconst (v := (4 : Int32)) hx hb md_Mo_connect_110 (by decide) ?_
      refine lv_aload_n hx hb md_Mo_connect_111 rfl (lv_at hl 1 rfl) ?_
      refine fw_getr hx hb hts i_Mo hown hK hP (mm_0 (by decide)) (mk_0 0) rfl 30 (by decide) (hts _ L_Mo_98) (fun _ h9 => h9) rfl md_Mo_connect_112 ?_
      refine lv_iload_n hx hb md_Mo_connect_115 rfl (lv_at hl 2 rfl) ?_
      refine fw_iald hx hb hK hP (mm_31 (by decide)) (mk_31 0) 0 rfl (j := 1) (by decide) (fw_inc (by decide)) md_Mo_connect_116 ?_
      refine fw_cv (va_runV (As := [.int (1 : Int32), .int (4 : Int32), .int (v20 31 0 1)]) (rest := []) ⟨hx, hb, hml, hown, hts⟩ (mc_Mo_reply_1 l hD v20 hI (4 : Int32) (v20 31 0 1) (fun q => absurd q (by decide)) (by decide) (by decide)) (mw_Mo_reply hts L_Mo_238 ⟨Nat.le_of_ble_eq_true rfl, Nat.le_of_ble_eq_true rfl⟩) (fw_preV hN hK hP (mm_0 (by decide)) (mk_0 0) rfl) rfl rfl hl.1 rfl (lv_room (Nat.le_of_ble_eq_true rfl)) md_Mo_connect_117 ⟨Nat.le_of_ble_eq_true rfl, Nat.le_of_ble_eq_true rfl⟩) hS (fun v22 H locs ev22 hI hP hS => ?_)
      exact fw_vret hx hb hr hlocks hS hP hI md_Mo_connect_120 (by rw [hj]; subst ev3 ev4 ev5 ev8 ev9 ev10 ev13 ev14 ev15 ev18 ev19 ev20 ev22; simp only [mf_Mo_connect_1_j1, if_pos c_2])
    · exact fw_vret hx hb hr hlocks hS hP hI md_Mo_connect_38 (by rw [hj]; simp only [mf_Mo_connect_1_j1, if_neg c_2])
  skip
  have hl := lv_entry ([.ref (ad 0 0), .int (1 : Int32), .int a2]) (n := 4) (Nat.le_of_ble_eq_true rfl)
  rw [lg_entry_eq]
  generalize (lg_sl ([.ref (ad 0 0), .int (1 : Int32), .int a2]) ++ List.replicate (4 - (lg_sl ([.ref (ad 0 0), .int (1 : Int32), .int a2])).length) Slot.unset).toArray = ls at hl ⊢
  have hl : lv_has ls 4 [(0, .ref (ad 0 0)), (1, .int (1 : Int32)), (2, .int a2)] := hl
  refine lv_aload_n hx hb md_Mo_connect_0 rfl (lv_at hl 0 rfl) ?_
  refine fw_getr hx hb hts i_Mo hown hK hP (mm_0 (by decide)) (mk_0 0) rfl 27 (by decide) (hts _ L_Mo_89) (fun _ h9 => h9) rfl md_Mo_connect_1 ?_
  refine lv_iload_n hx hb md_Mo_connect_4 rfl (lv_at hl 1 rfl) ?_
  refine fw_iald hx hb hK hP (mm_28 (by decide)) (mk_28 0) 0 rfl (j := 1) (by decide) (fw_inc (by decide)) md_Mo_connect_5 ?_
  refine lv_if_eq (tgt := 28) hx hb md_Mo_connect_6 (by decide) (fun c_1 => ?_) (fun c_1 => ?_)
  · exact J1  _ _ _ (by simp only [mf_Mo_connect_1, if_pos c_1])   hI hP hS (lv_sub hl [0, 1, 2] rfl)
  · refine lv_aload_n hx hb md_Mo_connect_9 rfl (lv_at hl 0 rfl) ?_
    refine fw_getr hx hb hts i_Mo hown hK hP (mm_0 (by decide)) (mk_0 0) rfl 28 (by decide) (hts _ L_Mo_92) (fun _ h9 => h9) rfl md_Mo_connect_10 ?_
    refine lv_iload_n hx hb md_Mo_connect_13 rfl (lv_at hl 1 rfl) ?_
    refine fw_iald hx hb hK hP (mm_29 (by decide)) (mk_29 0) 0 rfl (j := 1) (by decide) (fw_inc (by decide)) md_Mo_connect_14 ?_
    refine lv_iload_n hx hb md_Mo_connect_15 rfl (lv_at hl 2 rfl) ?_
    refine lv_icmp_eq (tgt := 28) hx hb md_Mo_connect_16 (by decide) (fun c_23 => ?_) (fun c_23 => ?_)
    · exact J1  _ _ _ (by simp only [mf_Mo_connect_1, if_neg c_1, if_pos c_23])   hI hP hS (lv_sub hl [0, 1, 2] rfl)
    · refine lv_aload_n hx hb md_Mo_connect_19 rfl (lv_at hl 0 rfl) ?_
      refine lv_iconst (v := (5 : Int32)) hx hb md_Mo_connect_20 (by decide) ?_
      refine lv_iload_n hx hb md_Mo_connect_21 rfl (lv_at hl 2 rfl) ?_
      refine lv_iconst (v := (0 : Int32)) hx hb md_Mo_connect_22 (by decide) ?_
      refine lv_iconst (v := (2 : Int32)) hx hb md_Mo_connect_23 (by decide) ?_
      refine fw_cv (va_runV (As := [.int (5 : Int32), .int a2, .int (0 : Int32), .int (2 : Int32)]) (rest := []) ⟨hx, hb, hml, hown, hts⟩ (mc_Mo_send l hD v0 hI (5 : Int32) a2 (0 : Int32) (2 : Int32) (fun q => absurd q (by decide)) (fun q => absurd q (by decide)) (fun q => absurd q (by decide))) (mw_Mo_send hts L_Mo_197 ⟨Nat.le_of_ble_eq_true rfl, Nat.le_of_ble_eq_true rfl⟩) (fw_preV hN hK hP (mm_0 (by decide)) (mk_0 0) rfl) rfl rfl hl.1 rfl (lv_room (Nat.le_of_ble_eq_true rfl)) md_Mo_connect_24 ⟨Nat.le_of_ble_eq_true rfl, Nat.le_of_ble_eq_true rfl⟩) hS (fun v24 H locs ev24 hI hP hS => ?_)
      exact fw_vret hx hb hr hlocks hS hP hI md_Mo_connect_27 (by subst ev24; simp only [mf_Mo_connect_1, if_neg c_1, if_neg c_23])

def mf_Mo_alarm_1_j2 (v : fw_V)   : fw_V :=
  let v8 := fw_up v 38 0 (1) (0 : Int32)
  let v10 := fw_up v8 9 0 (0) (v8 47 0 4)
  let v11 := fw_up v10 9 0 (1) (v10 48 0 4)
  let v12 := mf_Mo_reply_1 v11 (14 : Int32) (v11 36 0 1)
  v12
def mf_Mo_alarm_1_j1 (v0 : fw_V)   : fw_V :=
  let v6 := fw_up v0 39 0 (1) ((v0 39 0 1) + (1 : Int32))
  let v7 := fw_up v6 36 0 (1) (v6 39 0 1)
  mf_Mo_alarm_1_j2 v7
def mf_Mo_alarm_1_j3 (v0 : fw_V)   : fw_V :=
  let v13 := fw_up v0 39 0 (1) (1 : Int32)
  let v14 := fw_up v13 36 0 (1) (v13 39 0 1)
  mf_Mo_alarm_1_j2 v14
def mf_Mo_alarm_1 (v0 : fw_V) : fw_V :=
  if (v0 37 0 1) = (0 : Int32) then
    v0
  else
    if (v0 36 0 1) ≤ (0 : Int32) then
      if (v0 39 0 1) = (255 : Int32) then
        mf_Mo_alarm_1_j3 v0
      else
        mf_Mo_alarm_1_j1 v0
    else
      let v15 := fw_up v0 38 0 (1) ((v0 38 0 1) + (1 : Int32))
      if (3 : Int32) ≤ (v15 38 0 1) then
        mf_Mo_alarm_1_j2 v15
      else
        v15

theorem mca_Mo_alarm_1_j2 {v : fw_V} {i k : Nat} : mf_Mo_alarm_1_j2 v 10 i k = v 10 i k := by
  unfold mf_Mo_alarm_1_j2
  try dsimp only
  all_goals ((repeat' split) <;> simp [fw_up, fw_row, mca_Mo_reply_1])
theorem mca_Mo_alarm_1_j1 {v0 : fw_V} {i k : Nat} : mf_Mo_alarm_1_j1 v0 10 i k = v0 10 i k := by
  unfold mf_Mo_alarm_1_j1
  try dsimp only
  all_goals ((repeat' split) <;> simp [fw_up, fw_row, mca_Mo_alarm_1_j2])
theorem mca_Mo_alarm_1_j3 {v0 : fw_V} {i k : Nat} : mf_Mo_alarm_1_j3 v0 10 i k = v0 10 i k := by
  unfold mf_Mo_alarm_1_j3
  try dsimp only
  all_goals ((repeat' split) <;> simp [fw_up, fw_row, mca_Mo_alarm_1_j2])
theorem mca_Mo_alarm_1 {v0 : fw_V} {i k : Nat} : mf_Mo_alarm_1 v0 10 i k = v0 10 i k := by
  unfold mf_Mo_alarm_1
  try dsimp only
  all_goals ((repeat' split) <;> simp [fw_up, fw_row, mca_Mo_alarm_1_j3, mca_Mo_alarm_1_j1, mca_Mo_alarm_1_j2])
set_option maxHeartbeats 4000000 in
set_option maxRecDepth 100000 in
theorem mc_Mo_alarm_1 (l : Launch) {D : va_G} {cA : Nat → ClassId} {ad : Nat → Nat → Nat} (hD : fw_D mCL ad) {b : Nat} (v0 : fw_V) (hI : mI b v0)   : Met l my_Mo_alarm (Cond.code my_Mo_alarm mb_Mo_alarm 2 none :: vTB) mrm_Mo_alarm (fw_Pc vNL D vcls (vtys cA) mCL cA mkd ad v0 [.ref (ad 0 0), .int (1 : Int32)]) (fw_Qv D vcls mCL cA mkd ad (mI b) (mf_Mo_alarm_1 v0)) 0 0 (fw_A mCL ad) := by
  refine Met.ofW (cc := mb_Mo_alarm) (maxL := 2) (ret := none) (by decide) rfl ?_
  intro p e s m args below meth c s₁ B hml hv
  obtain ⟨rfl, hP, hK, hN⟩ := hv
  have hx := B.exec
  have hb := B.bytes
  have hr := B.returns
  have hts : ∀ w ∈ vTB, w.before ([.ref (ad 0 0), .int (1 : Int32)] : List Value).toArray s = true := fun w h => atoms_spec (ws := (Cond.code my_Mo_alarm mb_Mo_alarm 2 none :: vTB)) B.pre w (List.mem_cons_of_mem _ h)
  have hown : s.vm.findClass R_Mo = some m.cls := findClass_of_methodNamed B.named
  have hlocks := B.notSynchronized
  have hS : va_S (fw_A mCL ad) s.heap s.heap [] := va_S.rf
  have J2 : ∀ (v : fw_V)  (H : Heap) (locs : List Loc) (ls : Array Slot), mf_Mo_alarm_1 v0 = mf_Mo_alarm_1_j2 v → 0 < (v 37 0 1).toInt → mI b v → va_P D vcls (fw_w mCL cA mkd ad v) H → va_S (fw_A mCL ad) s.heap H locs → lv_has ls 2 [(0, .ref (ad 0 0)), (1, .int (1 : Int32))] → W p l e (headSpec (Cond.code my_Mo_alarm mb_Mo_alarm 2 none :: vTB) mrm_Mo_alarm).room s m ([.ref (ad 0 0), .int (1 : Int32)] : List Value).toArray below meth c H locs 0 0 (MQ below (fw_Qv D vcls mCL cA mkd ad (mI b) (mf_Mo_alarm_1 v0)) ([.ref (ad 0 0), .int (1 : Int32)] : List Value).toArray s 0 0 (fw_A mCL ad)) (F0 m 82 ls []) := by
    intro v  H locs ls hj hkf0 hI hP hS hl
    refine lv_aload_n hx hb md_Mo_alarm_82 rfl (lv_at hl 0 rfl) ?_
    refine fw_getr hx hb hts i_Mo hown hK hP (mm_0 (by decide)) (mk_0 0) rfl 37 (by decide) (hts _ L_Mo_119) (fun _ h9 => h9) rfl md_Mo_alarm_83 ?_
    refine lv_iload_n hx hb md_Mo_alarm_86 rfl (lv_at hl 1 rfl) ?_
    refine lv_iconst (v := (0 : Int32)) hx hb md_Mo_alarm_87 (by decide) ?_
    refine fw_iast hx hb hK hD hP hS (mm_38 (by decide)) (mk_38 0) 0 rfl (j := 1) (by decide) (fw_inc (by decide)) md_Mo_alarm_88 (fun v8 H locs ev8 hP hS => ?_)
    have hI : mI b v8 := by rw [ev8]; exact mI_up hI trivial trivial
    refine lv_aload_n hx hb md_Mo_alarm_89 rfl (lv_at hl 0 rfl) ?_
    refine fw_getr hx hb hts i_Mo hown hK hP (mm_0 (by decide)) (mk_0 0) rfl 8 (by decide) (hts _ L_Mo_35) (fun _ h9 => h9) rfl md_Mo_alarm_90 ?_
    refine lv_iconst (v := (0 : Int32)) hx hb md_Mo_alarm_93 (by decide) ?_
    refine lv_aload_n hx hb md_Mo_alarm_94 rfl (lv_at hl 0 rfl) ?_
    refine fw_getr hx hb hts i_Mo hown hK hP (mm_0 (by decide)) (mk_0 0) rfl 46 (by decide) (hts _ L_Mo_146) (fun _ h9 => h9) rfl md_Mo_alarm_95 ?_
    refine lv_iconst (v := (4 : Int32)) hx hb md_Mo_alarm_98 (by decide) ?_
    refine lv_iload_n hx hb md_Mo_alarm_99 rfl (lv_at hl 1 rfl) ?_
    refine lv_imul hx hb md_Mo_alarm_100 ?_
    refine fw_top (y := (4 : Int32)) (by decide) ?_
    refine fw_iald hx hb hK hP (mm_47 (by decide)) (mk_47 0) 0 rfl (j := 4) (by decide) (fw_inc (by decide)) md_Mo_alarm_101 ?_
    have h_9 : vp_in (v8 47 0 4) 3 := hI.1 47 0 (4)
    refine fw_iast hx hb hK hD hP hS (mm_9 (by decide)) (mk_9 0) 0 rfl (j := 0) (by decide) (fw_inc (by decide)) md_Mo_alarm_102 (fun v10 H locs ev10 hP hS => ?_)
    have hI : mI b v10 := by rw [ev10]; exact mI_up hI trivial trivial
    refine lv_aload_n hx hb md_Mo_alarm_103 rfl (lv_at hl 0 rfl) ?_
    refine fw_getr hx hb hts i_Mo hown hK hP (mm_0 (by decide)) (mk_0 0) rfl 8 (by decide) (hts _ L_Mo_35) (fun _ h9 => h9) rfl md_Mo_alarm_104 ?_
    refine lv_iconst (v := (1 : Int32)) hx hb md_Mo_alarm_107 (by decide) ?_
    refine lv_aload_n hx hb md_Mo_alarm_108 rfl (lv_at hl 0 rfl) ?_
    refine fw_getr hx hb hts i_Mo hown hK hP (mm_0 (by decide)) (mk_0 0) rfl 47 (by decide) (hts _ L_Mo_149) (fun _ h9 => h9) rfl md_Mo_alarm_109 ?_
    refine lv_iconst (v := (4 : Int32)) hx hb md_Mo_alarm_112 (by decide) ?_
    refine lv_iload_n hx hb md_Mo_alarm_113 rfl (lv_at hl 1 rfl) ?_
    refine lv_imul hx hb md_Mo_alarm_114 ?_
    refine fw_top (y := (4 : Int32)) (by decide) ?_
    refine fw_iald hx hb hK hP (mm_48 (by decide)) (mk_48 0) 0 rfl (j := 4) (by decide) (fw_inc (by decide)) md_Mo_alarm_115 ?_
    refine fw_iast hx hb hK hD hP hS (mm_9 (by decide)) (mk_9 0) 0 rfl (j := 1) (by decide) (fw_inc (by decide)) md_Mo_alarm_116 (fun v11 H locs ev11 hP hS => ?_)
    have hI : mI b v11 := by rw [ev11]; exact mI_up hI trivial trivial
    refine lv_aload_n hx hb md_Mo_alarm_117 rfl (lv_at hl 0 rfl) ?_
    refine lv_iload_n hx hb md_Mo_alarm_118 rfl (lv_at hl 1 rfl) ?_
    refine lv_bipush (v := (14 : Int32)) hx hb md_Mo_alarm_119 (by decide) ?_
    refine lv_aload_n hx hb md_Mo_alarm_121 rfl (lv_at hl 0 rfl) ?_
    refine fw_getr hx hb hts i_Mo hown hK hP (mm_0 (by decide)) (mk_0 0) rfl 35 (by decide) (hts _ L_Mo_113) (fun _ h9 => h9) rfl md_Mo_alarm_122 ?_
    refine lv_iload_n hx hb md_Mo_alarm_125 rfl (lv_at hl 1 rfl) ?_
    refine fw_iald hx hb hK hP (mm_36 (by decide)) (mk_36 0) 0 rfl (j := 1) (by decide) (fw_inc (by decide)) md_Mo_alarm_126 ?_
    refine fw_cv (va_runV (As := [.int (1 : Int32), .int (14 : Int32), .int (v11 36 0 1)]) (rest := []) ⟨hx, hb, hml, hown, hts⟩ (mc_Mo_reply_1 l hD v11 hI (14 : Int32) (v11 36 0 1) (fun _ => by rw [ev11, fw_up_k (k := 1) (k' := 0) (by decide), ev10, fw_up_s]; exact h_9) (by decide) (by decide)) (mw_Mo_reply hts L_Mo_238 ⟨Nat.le_of_ble_eq_true rfl, Nat.le_of_ble_eq_true rfl⟩) (fw_preV hN hK hP (mm_0 (by decide)) (mk_0 0) rfl) rfl rfl hl.1 rfl (lv_room (Nat.le_of_ble_eq_true rfl)) md_Mo_alarm_127 ⟨Nat.le_of_ble_eq_true rfl, Nat.le_of_ble_eq_true rfl⟩) hS (fun v12 H locs ev12 hI hP hS => ?_)
    exact fw_vret hx hb hr hlocks hS hP hI md_Mo_alarm_130 (by rw [hj]; subst ev8 ev10 ev11 ev12; simp only [mf_Mo_alarm_1_j2])
  have J1 : ∀  (H : Heap) (locs : List Loc) (ls : Array Slot), mf_Mo_alarm_1 v0 = mf_Mo_alarm_1_j1 v0 → 0 < (v0 37 0 1).toInt → mI b v0 → va_P D vcls (fw_w mCL cA mkd ad v0) H → va_S (fw_A mCL ad) s.heap H locs → lv_has ls 2 [(0, .ref (ad 0 0)), (1, .int (1 : Int32))] → W p l e (headSpec (Cond.code my_Mo_alarm mb_Mo_alarm 2 none :: vTB) mrm_Mo_alarm).room s m ([.ref (ad 0 0), .int (1 : Int32)] : List Value).toArray below meth c H locs 0 0 (MQ below (fw_Qv D vcls mCL cA mkd ad (mI b) (mf_Mo_alarm_1 v0)) ([.ref (ad 0 0), .int (1 : Int32)] : List Value).toArray s 0 0 (fw_A mCL ad)) (F0 m 69 ls [.int ((v0 39 0 1) + (1 : Int32)), .int (1 : Int32), .ref (ad 39 0)]) := by
    intro  H locs ls hj hkf0 hI hP hS hl
    refine fw_iast hx hb hK hD hP hS (mm_39 (by decide)) (mk_39 0) 0 rfl (j := 1) (by decide) (fw_inc (by decide)) md_Mo_alarm_69 (fun v6 H locs ev6 hP hS => ?_)
    have hI : mI b v6 := by rw [ev6]; exact mI_up hI trivial trivial
    refine lv_aload_n hx hb md_Mo_alarm_70 rfl (lv_at hl 0 rfl) ?_
    refine fw_getr hx hb hts i_Mo hown hK hP (mm_0 (by decide)) (mk_0 0) rfl 35 (by decide) (hts _ L_Mo_113) (fun _ h9 => h9) rfl md_Mo_alarm_71 ?_
    refine lv_iload_n hx hb md_Mo_alarm_74 rfl (lv_at hl 1 rfl) ?_
    refine lv_aload_n hx hb md_Mo_alarm_75 rfl (lv_at hl 0 rfl) ?_
    refine fw_getr hx hb hts i_Mo hown hK hP (mm_0 (by decide)) (mk_0 0) rfl 38 (by decide) (hts _ L_Mo_122) (fun _ h9 => h9) rfl md_Mo_alarm_76 ?_
    refine lv_iload_n hx hb md_Mo_alarm_79 rfl (lv_at hl 1 rfl) ?_
    refine fw_iald hx hb hK hP (mm_39 (by decide)) (mk_39 0) 0 rfl (j := 1) (by decide) (fw_inc (by decide)) md_Mo_alarm_80 ?_
    refine fw_iast hx hb hK hD hP hS (mm_36 (by decide)) (mk_36 0) 0 rfl (j := 1) (by decide) (fw_inc (by decide)) md_Mo_alarm_81 (fun v7 H locs ev7 hP hS => ?_)
    have hI : mI b v7 := by rw [ev7]; exact mI_up hI trivial (Or.inr (by rw [ev6, fw_up_c (c := 39) (c' := 37) (by decide)]; exact hkf0))
    exact J2 v7  _ _ _ (by rw [hj]; subst ev6 ev7; simp only [mf_Mo_alarm_1_j1])  (by rw [ev7, fw_up_c (c := 36) (c' := 37) (by decide), ev6, fw_up_c (c := 39) (c' := 37) (by decide)]; exact hkf0) hI hP hS (lv_sub hl [0, 1] rfl)
  have J3 : ∀  (H : Heap) (locs : List Loc) (ls : Array Slot), mf_Mo_alarm_1 v0 = mf_Mo_alarm_1_j3 v0 → 0 < (v0 37 0 1).toInt → mI b v0 → va_P D vcls (fw_w mCL cA mkd ad v0) H → va_S (fw_A mCL ad) s.heap H locs → lv_has ls 2 [(0, .ref (ad 0 0)), (1, .int (1 : Int32))] → W p l e (headSpec (Cond.code my_Mo_alarm mb_Mo_alarm 2 none :: vTB) mrm_Mo_alarm).room s m ([.ref (ad 0 0), .int (1 : Int32)] : List Value).toArray below meth c H locs 0 0 (MQ below (fw_Qv D vcls mCL cA mkd ad (mI b) (mf_Mo_alarm_1 v0)) ([.ref (ad 0 0), .int (1 : Int32)] : List Value).toArray s 0 0 (fw_A mCL ad)) (F0 m 69 ls [.int (1 : Int32), .int (1 : Int32), .ref (ad 39 0)]) := by
    intro  H locs ls hj hkf0 hI hP hS hl
    clear J1
    refine fw_iast hx hb hK hD hP hS (mm_39 (by decide)) (mk_39 0) 0 rfl (j := 1) (by decide) (fw_inc (by decide)) md_Mo_alarm_69 (fun v13 H locs ev13 hP hS => ?_)
    have hI : mI b v13 := by rw [ev13]; exact mI_up hI trivial trivial
    refine lv_aload_n hx hb md_Mo_alarm_70 rfl (lv_at hl 0 rfl) ?_
    refine fw_getr hx hb hts i_Mo hown hK hP (mm_0 (by decide)) (mk_0 0) rfl 35 (by decide) (hts _ L_Mo_113) (fun _ h9 => h9) rfl md_Mo_alarm_71 ?_
    refine lv_iload_n hx hb md_Mo_alarm_74 rfl (lv_at hl 1 rfl) ?_
    refine lv_aload_n hx hb md_Mo_alarm_75 rfl (lv_at hl 0 rfl) ?_
    refine fw_getr hx hb hts i_Mo hown hK hP (mm_0 (by decide)) (mk_0 0) rfl 38 (by decide) (hts _ L_Mo_122) (fun _ h9 => h9) rfl md_Mo_alarm_76 ?_
    refine lv_iload_n hx hb md_Mo_alarm_79 rfl (lv_at hl 1 rfl) ?_
    refine fw_iald hx hb hK hP (mm_39 (by decide)) (mk_39 0) 0 rfl (j := 1) (by decide) (fw_inc (by decide)) md_Mo_alarm_80 ?_
    refine fw_iast hx hb hK hD hP hS (mm_36 (by decide)) (mk_36 0) 0 rfl (j := 1) (by decide) (fw_inc (by decide)) md_Mo_alarm_81 (fun v14 H locs ev14 hP hS => ?_)
    have hI : mI b v14 := by rw [ev14]; exact mI_up hI trivial (Or.inr (by rw [ev13, fw_up_c (c := 39) (c' := 37) (by decide)]; exact hkf0))
    exact J2 v14  _ _ _ (by rw [hj]; subst ev13 ev14; simp only [mf_Mo_alarm_1_j3])  (by rw [ev14, fw_up_c (c := 36) (c' := 37) (by decide), ev13, fw_up_c (c := 39) (c' := 37) (by decide)]; exact hkf0) hI hP hS (lv_sub hl [0, 1] rfl)
  skip
  have hl := lv_entry ([.ref (ad 0 0), .int (1 : Int32)]) (n := 2) (Nat.le_of_ble_eq_true rfl)
  rw [lg_entry_eq]
  generalize (lg_sl ([.ref (ad 0 0), .int (1 : Int32)]) ++ List.replicate (2 - (lg_sl ([.ref (ad 0 0), .int (1 : Int32)])).length) Slot.unset).toArray = ls at hl ⊢
  have hl : lv_has ls 2 [(0, .ref (ad 0 0)), (1, .int (1 : Int32))] := hl
  refine lv_aload_n hx hb md_Mo_alarm_0 rfl (lv_at hl 0 rfl) ?_
  refine fw_getr hx hb hts i_Mo hown hK hP (mm_0 (by decide)) (mk_0 0) rfl 36 (by decide) (hts _ L_Mo_116) (fun _ h9 => h9) rfl md_Mo_alarm_1 ?_
  refine lv_iload_n hx hb md_Mo_alarm_4 rfl (lv_at hl 1 rfl) ?_
  refine fw_iald hx hb hK hP (mm_37 (by decide)) (mk_37 0) 0 rfl (j := 1) (by decide) (fw_inc (by decide)) md_Mo_alarm_5 ?_
  have h_1 : vp_in (v0 37 0 1) 5 := hI.1 37 0 (1)
  refine lv_if_ne (tgt := 10) hx hb md_Mo_alarm_6 (by decide) (fun c_2 => ?_) (fun c_2 => ?_)
  · have h_3 : 0 < (v0 37 0 1).toInt := fw_pos h_1 c_2
    refine lv_aload_n hx hb md_Mo_alarm_10 rfl (lv_at hl 0 rfl) ?_
    refine fw_getr hx hb hts i_Mo hown hK hP (mm_0 (by decide)) (mk_0 0) rfl 35 (by decide) (hts _ L_Mo_113) (fun _ h9 => h9) rfl md_Mo_alarm_11 ?_
    refine lv_iload_n hx hb md_Mo_alarm_14 rfl (lv_at hl 1 rfl) ?_
    refine fw_iald hx hb hK hP (mm_36 (by decide)) (mk_36 0) 0 rfl (j := 1) (by decide) (fw_inc (by decide)) md_Mo_alarm_15 ?_
    refine lv_if_le (tgt := 40) hx hb md_Mo_alarm_16 (by decide) (fun c_4 => ?_) (fun c_4 => ?_)
    · refine lv_aload_n hx hb md_Mo_alarm_40 rfl (lv_at hl 0 rfl) ?_
      refine fw_getr hx hb hts i_Mo hown hK hP (mm_0 (by decide)) (mk_0 0) rfl 38 (by decide) (hts _ L_Mo_122) (fun _ h9 => h9) rfl md_Mo_alarm_41 ?_
      refine lv_iload_n hx hb md_Mo_alarm_44 rfl (lv_at hl 1 rfl) ?_
      refine lv_aload_n hx hb md_Mo_alarm_45 rfl (lv_at hl 0 rfl) ?_
      refine fw_getr hx hb hts i_Mo hown hK hP (mm_0 (by decide)) (mk_0 0) rfl 38 (by decide) (hts _ L_Mo_122) (fun _ h9 => h9) rfl md_Mo_alarm_46 ?_
      refine lv_iload_n hx hb md_Mo_alarm_49 rfl (lv_at hl 1 rfl) ?_
      refine fw_iald hx hb hK hP (mm_39 (by decide)) (mk_39 0) 0 rfl (j := 1) (by decide) (fw_inc (by decide)) md_Mo_alarm_50 ?_
      refine lv_sipush (v := (255 : Int32)) hx hb md_Mo_alarm_51 (by decide) ?_
      refine lv_icmp_ne (tgt := 61) hx hb md_Mo_alarm_54 (by decide) (fun c_5 => ?_) (fun c_5 => ?_)
      · refine lv_aload_n hx hb md_Mo_alarm_61 rfl (lv_at hl 0 rfl) ?_
        refine fw_getr hx hb hts i_Mo hown hK hP (mm_0 (by decide)) (mk_0 0) rfl 38 (by decide) (hts _ L_Mo_122) (fun _ h9 => h9) rfl md_Mo_alarm_62 ?_
        refine lv_iload_n hx hb md_Mo_alarm_65 rfl (lv_at hl 1 rfl) ?_
        refine fw_iald hx hb hK hP (mm_39 (by decide)) (mk_39 0) 0 rfl (j := 1) (by decide) (fw_inc (by decide)) md_Mo_alarm_66 ?_
        refine lv_iconst (v := (1 : Int32)) hx hb md_Mo_alarm_67 (by decide) ?_
        refine lv_iadd hx hb md_Mo_alarm_68 ?_
        exact J1  _ _ _ (by simp only [mf_Mo_alarm_1, if_neg c_2, if_pos c_4, if_neg c_5])  h_3 hI hP hS (lv_sub hl [0, 1] rfl)
      · refine lv_iconst (v := (1 : Int32)) hx hb md_Mo_alarm_57 (by decide) ?_
        refine lv_goto (tgt := 69) hx hb md_Mo_alarm_58 (by decide) ?_
        exact J3  _ _ _ (by simp only [mf_Mo_alarm_1, if_neg c_2, if_pos c_4, if_pos c_5])  h_3 hI hP hS (lv_sub hl [0, 1] rfl)
    · refine lv_aload_n hx hb md_Mo_alarm_19 rfl (lv_at hl 0 rfl) ?_
      refine fw_getr hx hb hts i_Mo hown hK hP (mm_0 (by decide)) (mk_0 0) rfl 37 (by decide) (hts _ L_Mo_119) (fun _ h9 => h9) rfl md_Mo_alarm_20 ?_
      refine lv_iload_n hx hb md_Mo_alarm_23 rfl (lv_at hl 1 rfl) ?_
      refine lv_dup2_11 hx hb md_Mo_alarm_24 rfl rfl ?_
      refine fw_iald hx hb hK hP (mm_38 (by decide)) (mk_38 0) 0 rfl (j := 1) (by decide) (fw_inc (by decide)) md_Mo_alarm_25 ?_
      refine lv_iconst (v := (1 : Int32)) hx hb md_Mo_alarm_26 (by decide) ?_
      refine lv_iadd hx hb md_Mo_alarm_27 ?_
      refine fw_iast hx hb hK hD hP hS (mm_38 (by decide)) (mk_38 0) 0 rfl (j := 1) (by decide) (fw_inc (by decide)) md_Mo_alarm_28 (fun v15 H locs ev15 hP hS => ?_)
      have hI : mI b v15 := by rw [ev15]; exact mI_up hI trivial trivial
      refine lv_aload_n hx hb md_Mo_alarm_29 rfl (lv_at hl 0 rfl) ?_
      refine fw_getr hx hb hts i_Mo hown hK hP (mm_0 (by decide)) (mk_0 0) rfl 37 (by decide) (hts _ L_Mo_119) (fun _ h9 => h9) rfl md_Mo_alarm_30 ?_
      refine lv_iload_n hx hb md_Mo_alarm_33 rfl (lv_at hl 1 rfl) ?_
      refine fw_iald hx hb hK hP (mm_38 (by decide)) (mk_38 0) 0 rfl (j := 1) (by decide) (fw_inc (by decide)) md_Mo_alarm_34 ?_
      refine lv_iconst (v := (3 : Int32)) hx hb md_Mo_alarm_35 (by decide) ?_
      refine lv_icmp_ge (tgt := 82) hx hb md_Mo_alarm_36 (by decide) (fun c_16 => ?_) (fun c_16 => ?_)
      · exact J2 v15  _ _ _ (by subst ev15; simp only [mf_Mo_alarm_1, if_neg c_2, if_neg c_4, if_pos c_16])  (by rw [ev15, fw_up_c (c := 38) (c' := 37) (by decide)]; exact h_3) hI hP hS (lv_sub hl [0, 1] rfl)
      · exact fw_vret hx hb hr hlocks hS hP hI md_Mo_alarm_39 (by subst ev15; simp only [mf_Mo_alarm_1, if_neg c_2, if_neg c_4, if_neg c_16])
  · exact fw_vret hx hb hr hlocks hS hP hI md_Mo_alarm_9 (by simp only [mf_Mo_alarm_1, if_pos c_2])
def mf_Mo_pulse_0_j25 (v : fw_V)   : fw_V :=
  let v38 := fw_up v 9 0 (6) (0 : Int32)
  let v39 := mf_Mo_reply_0 v38 (13 : Int32) (v38 34 0 0)
  let v40 := fw_up v39 34 0 (0) (((v39 34 0 0) + (1 : Int32)) &&& (255 : Int32))
  v40
def mf_Mo_pulse_0_j24 (v : fw_V)   : fw_V :=
  mf_Mo_pulse_0_j25 v
def mf_Mo_pulse_0_j27 (v : fw_V)   : fw_V :=
  let v42 := fw_up v 9 0 (6) (4 : Int32)
  let v43 := mf_Mo_reply_0 v42 (13 : Int32) (v42 34 0 0)
  let v44 := fw_up v43 34 0 (0) (((v43 34 0 0) + (1 : Int32)) &&& (255 : Int32))
  v44
def mf_Mo_pulse_0_j26 (v : fw_V)   : fw_V :=
  mf_Mo_pulse_0_j27 v
def mf_Mo_pulse_0_j23 (v : fw_V)  (x4 : Int32) : fw_V :=
  let v35 := fw_up v 9 0 (5) (0 : Int32)
  if x4 = (0 : Int32) then
    mf_Mo_pulse_0_j24 v35
  else
    mf_Mo_pulse_0_j26 v35
def mf_Mo_pulse_0_j22 (v : fw_V)  (x4 : Int32) : fw_V :=
  mf_Mo_pulse_0_j23 v (x4)
def mf_Mo_pulse_0_j28 (v : fw_V)  (x4 : Int32) (x90 : Int32) : fw_V :=
  let v48 := fw_up v 9 0 (5) x90
  if x4 = (0 : Int32) then
    mf_Mo_pulse_0_j24 v48
  else
    mf_Mo_pulse_0_j26 v48
def mf_Mo_pulse_0_j21 (v : fw_V)   : fw_V :=
  let r33 := mf_Mo_isGood_0 v (2 : Int32)
  if r33 = (0 : Int32) then
    mf_Mo_pulse_0_j22 v (r33)
  else
    let r46 := mf_Mo_insAt v (2 : Int32)
    if r46 ≤ (1 : Int32) then
      mf_Mo_pulse_0_j22 v (r33)
    else
      mf_Mo_pulse_0_j28 v (r33) ((v 45 0 5))
def mf_Mo_pulse_0_j20 (v : fw_V)   : fw_V :=
  mf_Mo_pulse_0_j21 v
def mf_Mo_pulse_0_j33 (v : fw_V)   : fw_V :=
  mf_Mo_pulse_0_j27 v
def mf_Mo_pulse_0_j34 (v : fw_V)   : fw_V :=
  mf_Mo_pulse_0_j27 v
def mf_Mo_pulse_0_j32 (v : fw_V)  (x4 : Int32) : fw_V :=
  let v53 := fw_up v 9 0 (5) (0 : Int32)
  if x4 = (0 : Int32) then
    mf_Mo_pulse_0_j33 v53
  else
    mf_Mo_pulse_0_j34 v53
def mf_Mo_pulse_0_j31 (v : fw_V)  (x4 : Int32) : fw_V :=
  mf_Mo_pulse_0_j32 v (x4)
def mf_Mo_pulse_0_j35 (v : fw_V)  (x4 : Int32) (x90 : Int32) : fw_V :=
  let v58 := fw_up v 9 0 (5) x90
  if x4 = (0 : Int32) then
    mf_Mo_pulse_0_j33 v58
  else
    mf_Mo_pulse_0_j34 v58
def mf_Mo_pulse_0_j30 (v : fw_V)   : fw_V :=
  let r51 := mf_Mo_isGood_0 v (2 : Int32)
  if r51 = (0 : Int32) then
    mf_Mo_pulse_0_j31 v (r51)
  else
    let r56 := mf_Mo_insAt v (2 : Int32)
    if r56 ≤ (1 : Int32) then
      mf_Mo_pulse_0_j31 v (r51)
    else
      mf_Mo_pulse_0_j35 v (r51) ((v 45 0 5))
def mf_Mo_pulse_0_j29 (v : fw_V)   : fw_V :=
  mf_Mo_pulse_0_j30 v
def mf_Mo_pulse_0_j19 (v : fw_V)  (x4 : Int32) : fw_V :=
  let v30 := fw_up v 9 0 (4) (0 : Int32)
  if x4 = (0 : Int32) then
    mf_Mo_pulse_0_j20 v30
  else
    mf_Mo_pulse_0_j29 v30
def mf_Mo_pulse_0_j18 (v : fw_V)  (x4 : Int32) : fw_V :=
  mf_Mo_pulse_0_j19 v (x4)
def mf_Mo_pulse_0_j36 (v : fw_V)  (x4 : Int32) (x90 : Int32) : fw_V :=
  let v63 := fw_up v 9 0 (4) x90
  if x4 = (0 : Int32) then
    mf_Mo_pulse_0_j20 v63
  else
    mf_Mo_pulse_0_j29 v63
def mf_Mo_pulse_0_j17 (v : fw_V)   : fw_V :=
  let r28 := mf_Mo_isGood_0 v (2 : Int32)
  if r28 = (0 : Int32) then
    mf_Mo_pulse_0_j18 v (r28)
  else
    let r61 := mf_Mo_insAt v (2 : Int32)
    if r61 ≤ (0 : Int32) then
      mf_Mo_pulse_0_j18 v (r28)
    else
      mf_Mo_pulse_0_j36 v (r28) ((v 45 0 4))
def mf_Mo_pulse_0_j16 (v : fw_V)   : fw_V :=
  mf_Mo_pulse_0_j17 v
def mf_Mo_pulse_0_j46 (v : fw_V)   : fw_V :=
  let v76 := fw_up v 9 0 (6) (2 : Int32)
  let v77 := mf_Mo_reply_0 v76 (13 : Int32) (v76 34 0 0)
  let v78 := fw_up v77 34 0 (0) (((v77 34 0 0) + (1 : Int32)) &&& (255 : Int32))
  v78
def mf_Mo_pulse_0_j45 (v : fw_V)   : fw_V :=
  mf_Mo_pulse_0_j46 v
def mf_Mo_pulse_0_j48 (v : fw_V)   : fw_V :=
  let v80 := fw_up v 9 0 (6) (6 : Int32)
  let v81 := mf_Mo_reply_0 v80 (13 : Int32) (v80 34 0 0)
  let v82 := fw_up v81 34 0 (0) (((v81 34 0 0) + (1 : Int32)) &&& (255 : Int32))
  v82
def mf_Mo_pulse_0_j47 (v : fw_V)   : fw_V :=
  mf_Mo_pulse_0_j48 v
def mf_Mo_pulse_0_j44 (v : fw_V)  (x4 : Int32) : fw_V :=
  let v73 := fw_up v 9 0 (5) (0 : Int32)
  if x4 = (0 : Int32) then
    mf_Mo_pulse_0_j45 v73
  else
    mf_Mo_pulse_0_j47 v73
def mf_Mo_pulse_0_j43 (v : fw_V)  (x4 : Int32) : fw_V :=
  mf_Mo_pulse_0_j44 v (x4)
def mf_Mo_pulse_0_j49 (v : fw_V)  (x4 : Int32) (x90 : Int32) : fw_V :=
  let v86 := fw_up v 9 0 (5) x90
  if x4 = (0 : Int32) then
    mf_Mo_pulse_0_j45 v86
  else
    mf_Mo_pulse_0_j47 v86
def mf_Mo_pulse_0_j42 (v : fw_V)   : fw_V :=
  let r71 := mf_Mo_isGood_0 v (2 : Int32)
  if r71 = (0 : Int32) then
    mf_Mo_pulse_0_j43 v (r71)
  else
    let r84 := mf_Mo_insAt v (2 : Int32)
    if r84 ≤ (1 : Int32) then
      mf_Mo_pulse_0_j43 v (r71)
    else
      mf_Mo_pulse_0_j49 v (r71) ((v 45 0 5))
def mf_Mo_pulse_0_j41 (v : fw_V)   : fw_V :=
  mf_Mo_pulse_0_j42 v
def mf_Mo_pulse_0_j54 (v : fw_V)   : fw_V :=
  mf_Mo_pulse_0_j48 v
def mf_Mo_pulse_0_j55 (v : fw_V)   : fw_V :=
  mf_Mo_pulse_0_j48 v
def mf_Mo_pulse_0_j53 (v : fw_V)  (x4 : Int32) : fw_V :=
  let v91 := fw_up v 9 0 (5) (0 : Int32)
  if x4 = (0 : Int32) then
    mf_Mo_pulse_0_j54 v91
  else
    mf_Mo_pulse_0_j55 v91
def mf_Mo_pulse_0_j52 (v : fw_V)  (x4 : Int32) : fw_V :=
  mf_Mo_pulse_0_j53 v (x4)
def mf_Mo_pulse_0_j56 (v : fw_V)  (x4 : Int32) (x90 : Int32) : fw_V :=
  let v96 := fw_up v 9 0 (5) x90
  if x4 = (0 : Int32) then
    mf_Mo_pulse_0_j54 v96
  else
    mf_Mo_pulse_0_j55 v96
def mf_Mo_pulse_0_j51 (v : fw_V)   : fw_V :=
  let r89 := mf_Mo_isGood_0 v (2 : Int32)
  if r89 = (0 : Int32) then
    mf_Mo_pulse_0_j52 v (r89)
  else
    let r94 := mf_Mo_insAt v (2 : Int32)
    if r94 ≤ (1 : Int32) then
      mf_Mo_pulse_0_j52 v (r89)
    else
      mf_Mo_pulse_0_j56 v (r89) ((v 45 0 5))
def mf_Mo_pulse_0_j50 (v : fw_V)   : fw_V :=
  mf_Mo_pulse_0_j51 v
def mf_Mo_pulse_0_j40 (v : fw_V)  (x4 : Int32) : fw_V :=
  let v68 := fw_up v 9 0 (4) (0 : Int32)
  if x4 = (0 : Int32) then
    mf_Mo_pulse_0_j41 v68
  else
    mf_Mo_pulse_0_j50 v68
def mf_Mo_pulse_0_j39 (v : fw_V)  (x4 : Int32) : fw_V :=
  mf_Mo_pulse_0_j40 v (x4)
def mf_Mo_pulse_0_j57 (v : fw_V)  (x4 : Int32) (x90 : Int32) : fw_V :=
  let v101 := fw_up v 9 0 (4) x90
  if x4 = (0 : Int32) then
    mf_Mo_pulse_0_j41 v101
  else
    mf_Mo_pulse_0_j50 v101
def mf_Mo_pulse_0_j38 (v : fw_V)   : fw_V :=
  let r66 := mf_Mo_isGood_0 v (2 : Int32)
  if r66 = (0 : Int32) then
    mf_Mo_pulse_0_j39 v (r66)
  else
    let r99 := mf_Mo_insAt v (2 : Int32)
    if r99 ≤ (0 : Int32) then
      mf_Mo_pulse_0_j39 v (r66)
    else
      mf_Mo_pulse_0_j57 v (r66) ((v 45 0 4))
def mf_Mo_pulse_0_j37 (v : fw_V)   : fw_V :=
  mf_Mo_pulse_0_j38 v
def mf_Mo_pulse_0_j15 (v : fw_V)  (x4 : Int32) : fw_V :=
  let v25 := fw_up v 9 0 (3) (0 : Int32)
  if x4 = (0 : Int32) then
    mf_Mo_pulse_0_j16 v25
  else
    mf_Mo_pulse_0_j37 v25
def mf_Mo_pulse_0_j14 (v : fw_V)  (x4 : Int32) : fw_V :=
  mf_Mo_pulse_0_j15 v (x4)
def mf_Mo_pulse_0_j58 (v : fw_V)  (x4 : Int32) (x90 : Int32) : fw_V :=
  let v106 := fw_up v 9 0 (3) x90
  if x4 = (0 : Int32) then
    mf_Mo_pulse_0_j16 v106
  else
    mf_Mo_pulse_0_j37 v106
def mf_Mo_pulse_0_j13 (v : fw_V)   : fw_V :=
  let r23 := mf_Mo_isGood_0 v (1 : Int32)
  if r23 = (0 : Int32) then
    mf_Mo_pulse_0_j14 v (r23)
  else
    let r104 := mf_Mo_insAt v (1 : Int32)
    if r104 ≤ (1 : Int32) then
      mf_Mo_pulse_0_j14 v (r23)
    else
      mf_Mo_pulse_0_j58 v (r23) ((v 45 0 3))
def mf_Mo_pulse_0_j12 (v : fw_V)   : fw_V :=
  mf_Mo_pulse_0_j13 v
def mf_Mo_pulse_0_j63 (v : fw_V)   : fw_V :=
  mf_Mo_pulse_0_j38 v
def mf_Mo_pulse_0_j64 (v : fw_V)   : fw_V :=
  mf_Mo_pulse_0_j38 v
def mf_Mo_pulse_0_j62 (v : fw_V)  (x4 : Int32) : fw_V :=
  let v111 := fw_up v 9 0 (3) (0 : Int32)
  if x4 = (0 : Int32) then
    mf_Mo_pulse_0_j63 v111
  else
    mf_Mo_pulse_0_j64 v111
def mf_Mo_pulse_0_j61 (v : fw_V)  (x4 : Int32) : fw_V :=
  mf_Mo_pulse_0_j62 v (x4)
def mf_Mo_pulse_0_j65 (v : fw_V)  (x4 : Int32) (x90 : Int32) : fw_V :=
  let v116 := fw_up v 9 0 (3) x90
  if x4 = (0 : Int32) then
    mf_Mo_pulse_0_j63 v116
  else
    mf_Mo_pulse_0_j64 v116
def mf_Mo_pulse_0_j60 (v : fw_V)   : fw_V :=
  let r109 := mf_Mo_isGood_0 v (1 : Int32)
  if r109 = (0 : Int32) then
    mf_Mo_pulse_0_j61 v (r109)
  else
    let r114 := mf_Mo_insAt v (1 : Int32)
    if r114 ≤ (1 : Int32) then
      mf_Mo_pulse_0_j61 v (r109)
    else
      mf_Mo_pulse_0_j65 v (r109) ((v 45 0 3))
def mf_Mo_pulse_0_j59 (v : fw_V)   : fw_V :=
  mf_Mo_pulse_0_j60 v
def mf_Mo_pulse_0_j11 (v : fw_V)  (x4 : Int32) : fw_V :=
  let v20 := fw_up v 9 0 (2) (0 : Int32)
  if x4 = (0 : Int32) then
    mf_Mo_pulse_0_j12 v20
  else
    mf_Mo_pulse_0_j59 v20
def mf_Mo_pulse_0_j10 (v : fw_V)  (x4 : Int32) : fw_V :=
  mf_Mo_pulse_0_j11 v (x4)
def mf_Mo_pulse_0_j66 (v : fw_V)  (x4 : Int32) (x90 : Int32) : fw_V :=
  let v121 := fw_up v 9 0 (2) x90
  if x4 = (0 : Int32) then
    mf_Mo_pulse_0_j12 v121
  else
    mf_Mo_pulse_0_j59 v121
def mf_Mo_pulse_0_j9 (v : fw_V)   : fw_V :=
  let r18 := mf_Mo_isGood_0 v (1 : Int32)
  if r18 = (0 : Int32) then
    mf_Mo_pulse_0_j10 v (r18)
  else
    let r119 := mf_Mo_insAt v (1 : Int32)
    if r119 ≤ (0 : Int32) then
      mf_Mo_pulse_0_j10 v (r18)
    else
      mf_Mo_pulse_0_j66 v (r18) ((v 45 0 2))
def mf_Mo_pulse_0_j8 (v : fw_V)   : fw_V :=
  mf_Mo_pulse_0_j9 v
def mf_Mo_pulse_0_j84 (v : fw_V)   : fw_V :=
  let v144 := fw_up v 9 0 (6) (1 : Int32)
  let v145 := mf_Mo_reply_0 v144 (13 : Int32) (v144 34 0 0)
  let v146 := fw_up v145 34 0 (0) (((v145 34 0 0) + (1 : Int32)) &&& (255 : Int32))
  v146
def mf_Mo_pulse_0_j83 (v : fw_V)   : fw_V :=
  mf_Mo_pulse_0_j84 v
def mf_Mo_pulse_0_j86 (v : fw_V)   : fw_V :=
  let v148 := fw_up v 9 0 (6) (5 : Int32)
  let v149 := mf_Mo_reply_0 v148 (13 : Int32) (v148 34 0 0)
  let v150 := fw_up v149 34 0 (0) (((v149 34 0 0) + (1 : Int32)) &&& (255 : Int32))
  v150
def mf_Mo_pulse_0_j85 (v : fw_V)   : fw_V :=
  mf_Mo_pulse_0_j86 v
def mf_Mo_pulse_0_j82 (v : fw_V)  (x4 : Int32) : fw_V :=
  let v141 := fw_up v 9 0 (5) (0 : Int32)
  if x4 = (0 : Int32) then
    mf_Mo_pulse_0_j83 v141
  else
    mf_Mo_pulse_0_j85 v141
def mf_Mo_pulse_0_j81 (v : fw_V)  (x4 : Int32) : fw_V :=
  mf_Mo_pulse_0_j82 v (x4)
def mf_Mo_pulse_0_j87 (v : fw_V)  (x4 : Int32) (x90 : Int32) : fw_V :=
  let v154 := fw_up v 9 0 (5) x90
  if x4 = (0 : Int32) then
    mf_Mo_pulse_0_j83 v154
  else
    mf_Mo_pulse_0_j85 v154
def mf_Mo_pulse_0_j80 (v : fw_V)   : fw_V :=
  let r139 := mf_Mo_isGood_0 v (2 : Int32)
  if r139 = (0 : Int32) then
    mf_Mo_pulse_0_j81 v (r139)
  else
    let r152 := mf_Mo_insAt v (2 : Int32)
    if r152 ≤ (1 : Int32) then
      mf_Mo_pulse_0_j81 v (r139)
    else
      mf_Mo_pulse_0_j87 v (r139) ((v 45 0 5))
def mf_Mo_pulse_0_j79 (v : fw_V)   : fw_V :=
  mf_Mo_pulse_0_j80 v
def mf_Mo_pulse_0_j92 (v : fw_V)   : fw_V :=
  mf_Mo_pulse_0_j86 v
def mf_Mo_pulse_0_j93 (v : fw_V)   : fw_V :=
  mf_Mo_pulse_0_j86 v
def mf_Mo_pulse_0_j91 (v : fw_V)  (x4 : Int32) : fw_V :=
  let v159 := fw_up v 9 0 (5) (0 : Int32)
  if x4 = (0 : Int32) then
    mf_Mo_pulse_0_j92 v159
  else
    mf_Mo_pulse_0_j93 v159
def mf_Mo_pulse_0_j90 (v : fw_V)  (x4 : Int32) : fw_V :=
  mf_Mo_pulse_0_j91 v (x4)
def mf_Mo_pulse_0_j94 (v : fw_V)  (x4 : Int32) (x90 : Int32) : fw_V :=
  let v164 := fw_up v 9 0 (5) x90
  if x4 = (0 : Int32) then
    mf_Mo_pulse_0_j92 v164
  else
    mf_Mo_pulse_0_j93 v164
def mf_Mo_pulse_0_j89 (v : fw_V)   : fw_V :=
  let r157 := mf_Mo_isGood_0 v (2 : Int32)
  if r157 = (0 : Int32) then
    mf_Mo_pulse_0_j90 v (r157)
  else
    let r162 := mf_Mo_insAt v (2 : Int32)
    if r162 ≤ (1 : Int32) then
      mf_Mo_pulse_0_j90 v (r157)
    else
      mf_Mo_pulse_0_j94 v (r157) ((v 45 0 5))
def mf_Mo_pulse_0_j88 (v : fw_V)   : fw_V :=
  mf_Mo_pulse_0_j89 v
def mf_Mo_pulse_0_j78 (v : fw_V)  (x4 : Int32) : fw_V :=
  let v136 := fw_up v 9 0 (4) (0 : Int32)
  if x4 = (0 : Int32) then
    mf_Mo_pulse_0_j79 v136
  else
    mf_Mo_pulse_0_j88 v136
def mf_Mo_pulse_0_j77 (v : fw_V)  (x4 : Int32) : fw_V :=
  mf_Mo_pulse_0_j78 v (x4)
def mf_Mo_pulse_0_j95 (v : fw_V)  (x4 : Int32) (x90 : Int32) : fw_V :=
  let v169 := fw_up v 9 0 (4) x90
  if x4 = (0 : Int32) then
    mf_Mo_pulse_0_j79 v169
  else
    mf_Mo_pulse_0_j88 v169
def mf_Mo_pulse_0_j76 (v : fw_V)   : fw_V :=
  let r134 := mf_Mo_isGood_0 v (2 : Int32)
  if r134 = (0 : Int32) then
    mf_Mo_pulse_0_j77 v (r134)
  else
    let r167 := mf_Mo_insAt v (2 : Int32)
    if r167 ≤ (0 : Int32) then
      mf_Mo_pulse_0_j77 v (r134)
    else
      mf_Mo_pulse_0_j95 v (r134) ((v 45 0 4))
def mf_Mo_pulse_0_j75 (v : fw_V)   : fw_V :=
  mf_Mo_pulse_0_j76 v
def mf_Mo_pulse_0_j105 (v : fw_V)   : fw_V :=
  let v182 := fw_up v 9 0 (6) (3 : Int32)
  let v183 := mf_Mo_reply_0 v182 (13 : Int32) (v182 34 0 0)
  let v184 := fw_up v183 34 0 (0) (((v183 34 0 0) + (1 : Int32)) &&& (255 : Int32))
  v184
def mf_Mo_pulse_0_j104 (v : fw_V)   : fw_V :=
  mf_Mo_pulse_0_j105 v
def mf_Mo_pulse_0_j107 (v : fw_V)   : fw_V :=
  let v186 := fw_up v 9 0 (6) (7 : Int32)
  let v187 := mf_Mo_reply_0 v186 (13 : Int32) (v186 34 0 0)
  let v188 := fw_up v187 34 0 (0) (((v187 34 0 0) + (1 : Int32)) &&& (255 : Int32))
  v188
def mf_Mo_pulse_0_j106 (v : fw_V)   : fw_V :=
  mf_Mo_pulse_0_j107 v
def mf_Mo_pulse_0_j103 (v : fw_V)  (x4 : Int32) : fw_V :=
  let v179 := fw_up v 9 0 (5) (0 : Int32)
  if x4 = (0 : Int32) then
    mf_Mo_pulse_0_j104 v179
  else
    mf_Mo_pulse_0_j106 v179
def mf_Mo_pulse_0_j102 (v : fw_V)  (x4 : Int32) : fw_V :=
  mf_Mo_pulse_0_j103 v (x4)
def mf_Mo_pulse_0_j108 (v : fw_V)  (x4 : Int32) (x90 : Int32) : fw_V :=
  let v192 := fw_up v 9 0 (5) x90
  if x4 = (0 : Int32) then
    mf_Mo_pulse_0_j104 v192
  else
    mf_Mo_pulse_0_j106 v192
def mf_Mo_pulse_0_j101 (v : fw_V)   : fw_V :=
  let r177 := mf_Mo_isGood_0 v (2 : Int32)
  if r177 = (0 : Int32) then
    mf_Mo_pulse_0_j102 v (r177)
  else
    let r190 := mf_Mo_insAt v (2 : Int32)
    if r190 ≤ (1 : Int32) then
      mf_Mo_pulse_0_j102 v (r177)
    else
      mf_Mo_pulse_0_j108 v (r177) ((v 45 0 5))
def mf_Mo_pulse_0_j100 (v : fw_V)   : fw_V :=
  mf_Mo_pulse_0_j101 v
def mf_Mo_pulse_0_j113 (v : fw_V)   : fw_V :=
  mf_Mo_pulse_0_j107 v
def mf_Mo_pulse_0_j114 (v : fw_V)   : fw_V :=
  mf_Mo_pulse_0_j107 v
def mf_Mo_pulse_0_j112 (v : fw_V)  (x4 : Int32) : fw_V :=
  let v197 := fw_up v 9 0 (5) (0 : Int32)
  if x4 = (0 : Int32) then
    mf_Mo_pulse_0_j113 v197
  else
    mf_Mo_pulse_0_j114 v197
def mf_Mo_pulse_0_j111 (v : fw_V)  (x4 : Int32) : fw_V :=
  mf_Mo_pulse_0_j112 v (x4)
def mf_Mo_pulse_0_j115 (v : fw_V)  (x4 : Int32) (x90 : Int32) : fw_V :=
  let v202 := fw_up v 9 0 (5) x90
  if x4 = (0 : Int32) then
    mf_Mo_pulse_0_j113 v202
  else
    mf_Mo_pulse_0_j114 v202
def mf_Mo_pulse_0_j110 (v : fw_V)   : fw_V :=
  let r195 := mf_Mo_isGood_0 v (2 : Int32)
  if r195 = (0 : Int32) then
    mf_Mo_pulse_0_j111 v (r195)
  else
    let r200 := mf_Mo_insAt v (2 : Int32)
    if r200 ≤ (1 : Int32) then
      mf_Mo_pulse_0_j111 v (r195)
    else
      mf_Mo_pulse_0_j115 v (r195) ((v 45 0 5))
def mf_Mo_pulse_0_j109 (v : fw_V)   : fw_V :=
  mf_Mo_pulse_0_j110 v
def mf_Mo_pulse_0_j99 (v : fw_V)  (x4 : Int32) : fw_V :=
  let v174 := fw_up v 9 0 (4) (0 : Int32)
  if x4 = (0 : Int32) then
    mf_Mo_pulse_0_j100 v174
  else
    mf_Mo_pulse_0_j109 v174
def mf_Mo_pulse_0_j98 (v : fw_V)  (x4 : Int32) : fw_V :=
  mf_Mo_pulse_0_j99 v (x4)
def mf_Mo_pulse_0_j116 (v : fw_V)  (x4 : Int32) (x90 : Int32) : fw_V :=
  let v207 := fw_up v 9 0 (4) x90
  if x4 = (0 : Int32) then
    mf_Mo_pulse_0_j100 v207
  else
    mf_Mo_pulse_0_j109 v207
def mf_Mo_pulse_0_j97 (v : fw_V)   : fw_V :=
  let r172 := mf_Mo_isGood_0 v (2 : Int32)
  if r172 = (0 : Int32) then
    mf_Mo_pulse_0_j98 v (r172)
  else
    let r205 := mf_Mo_insAt v (2 : Int32)
    if r205 ≤ (0 : Int32) then
      mf_Mo_pulse_0_j98 v (r172)
    else
      mf_Mo_pulse_0_j116 v (r172) ((v 45 0 4))
def mf_Mo_pulse_0_j96 (v : fw_V)   : fw_V :=
  mf_Mo_pulse_0_j97 v
def mf_Mo_pulse_0_j74 (v : fw_V)  (x4 : Int32) : fw_V :=
  let v131 := fw_up v 9 0 (3) (0 : Int32)
  if x4 = (0 : Int32) then
    mf_Mo_pulse_0_j75 v131
  else
    mf_Mo_pulse_0_j96 v131
def mf_Mo_pulse_0_j73 (v : fw_V)  (x4 : Int32) : fw_V :=
  mf_Mo_pulse_0_j74 v (x4)
def mf_Mo_pulse_0_j117 (v : fw_V)  (x4 : Int32) (x90 : Int32) : fw_V :=
  let v212 := fw_up v 9 0 (3) x90
  if x4 = (0 : Int32) then
    mf_Mo_pulse_0_j75 v212
  else
    mf_Mo_pulse_0_j96 v212
def mf_Mo_pulse_0_j72 (v : fw_V)   : fw_V :=
  let r129 := mf_Mo_isGood_0 v (1 : Int32)
  if r129 = (0 : Int32) then
    mf_Mo_pulse_0_j73 v (r129)
  else
    let r210 := mf_Mo_insAt v (1 : Int32)
    if r210 ≤ (1 : Int32) then
      mf_Mo_pulse_0_j73 v (r129)
    else
      mf_Mo_pulse_0_j117 v (r129) ((v 45 0 3))
def mf_Mo_pulse_0_j71 (v : fw_V)   : fw_V :=
  mf_Mo_pulse_0_j72 v
def mf_Mo_pulse_0_j122 (v : fw_V)   : fw_V :=
  mf_Mo_pulse_0_j97 v
def mf_Mo_pulse_0_j123 (v : fw_V)   : fw_V :=
  mf_Mo_pulse_0_j97 v
def mf_Mo_pulse_0_j121 (v : fw_V)  (x4 : Int32) : fw_V :=
  let v217 := fw_up v 9 0 (3) (0 : Int32)
  if x4 = (0 : Int32) then
    mf_Mo_pulse_0_j122 v217
  else
    mf_Mo_pulse_0_j123 v217
def mf_Mo_pulse_0_j120 (v : fw_V)  (x4 : Int32) : fw_V :=
  mf_Mo_pulse_0_j121 v (x4)
def mf_Mo_pulse_0_j124 (v : fw_V)  (x4 : Int32) (x90 : Int32) : fw_V :=
  let v222 := fw_up v 9 0 (3) x90
  if x4 = (0 : Int32) then
    mf_Mo_pulse_0_j122 v222
  else
    mf_Mo_pulse_0_j123 v222
def mf_Mo_pulse_0_j119 (v : fw_V)   : fw_V :=
  let r215 := mf_Mo_isGood_0 v (1 : Int32)
  if r215 = (0 : Int32) then
    mf_Mo_pulse_0_j120 v (r215)
  else
    let r220 := mf_Mo_insAt v (1 : Int32)
    if r220 ≤ (1 : Int32) then
      mf_Mo_pulse_0_j120 v (r215)
    else
      mf_Mo_pulse_0_j124 v (r215) ((v 45 0 3))
def mf_Mo_pulse_0_j118 (v : fw_V)   : fw_V :=
  mf_Mo_pulse_0_j119 v
def mf_Mo_pulse_0_j70 (v : fw_V)  (x4 : Int32) : fw_V :=
  let v126 := fw_up v 9 0 (2) (0 : Int32)
  if x4 = (0 : Int32) then
    mf_Mo_pulse_0_j71 v126
  else
    mf_Mo_pulse_0_j118 v126
def mf_Mo_pulse_0_j69 (v : fw_V)  (x4 : Int32) : fw_V :=
  mf_Mo_pulse_0_j70 v (x4)
def mf_Mo_pulse_0_j125 (v : fw_V)  (x4 : Int32) (x90 : Int32) : fw_V :=
  let v227 := fw_up v 9 0 (2) x90
  if x4 = (0 : Int32) then
    mf_Mo_pulse_0_j71 v227
  else
    mf_Mo_pulse_0_j118 v227
def mf_Mo_pulse_0_j68 (v : fw_V)   : fw_V :=
  let r124 := mf_Mo_isGood_0 v (1 : Int32)
  if r124 = (0 : Int32) then
    mf_Mo_pulse_0_j69 v (r124)
  else
    let r225 := mf_Mo_insAt v (1 : Int32)
    if r225 ≤ (0 : Int32) then
      mf_Mo_pulse_0_j69 v (r124)
    else
      mf_Mo_pulse_0_j125 v (r124) ((v 45 0 2))
def mf_Mo_pulse_0_j67 (v : fw_V)   : fw_V :=
  mf_Mo_pulse_0_j68 v
def mf_Mo_pulse_0_j7 (v : fw_V)  (x4 : Int32) : fw_V :=
  let v15 := fw_up v 9 0 (1) (0 : Int32)
  if x4 = (0 : Int32) then
    mf_Mo_pulse_0_j8 v15
  else
    mf_Mo_pulse_0_j67 v15
def mf_Mo_pulse_0_j6 (v : fw_V)  (x4 : Int32) : fw_V :=
  mf_Mo_pulse_0_j7 v (x4)
def mf_Mo_pulse_0_j126 (v : fw_V)  (x4 : Int32) (x90 : Int32) : fw_V :=
  let v232 := fw_up v 9 0 (1) x90
  if x4 = (0 : Int32) then
    mf_Mo_pulse_0_j8 v232
  else
    mf_Mo_pulse_0_j67 v232
def mf_Mo_pulse_0_j5 (v : fw_V)   : fw_V :=
  let r13 := mf_Mo_isGood_0 v (0 : Int32)
  if r13 = (0 : Int32) then
    mf_Mo_pulse_0_j6 v (r13)
  else
    let r230 := mf_Mo_insAt v (0 : Int32)
    if r230 ≤ (1 : Int32) then
      mf_Mo_pulse_0_j6 v (r13)
    else
      mf_Mo_pulse_0_j126 v (r13) ((v 45 0 1))
def mf_Mo_pulse_0_j4 (v : fw_V)   : fw_V :=
  mf_Mo_pulse_0_j5 v
def mf_Mo_pulse_0_j131 (v : fw_V)   : fw_V :=
  mf_Mo_pulse_0_j68 v
def mf_Mo_pulse_0_j132 (v : fw_V)   : fw_V :=
  mf_Mo_pulse_0_j68 v
def mf_Mo_pulse_0_j130 (v : fw_V)  (x4 : Int32) : fw_V :=
  let v237 := fw_up v 9 0 (1) (0 : Int32)
  if x4 = (0 : Int32) then
    mf_Mo_pulse_0_j131 v237
  else
    mf_Mo_pulse_0_j132 v237
def mf_Mo_pulse_0_j129 (v : fw_V)  (x4 : Int32) : fw_V :=
  mf_Mo_pulse_0_j130 v (x4)
def mf_Mo_pulse_0_j133 (v : fw_V)  (x4 : Int32) (x90 : Int32) : fw_V :=
  let v242 := fw_up v 9 0 (1) x90
  if x4 = (0 : Int32) then
    mf_Mo_pulse_0_j131 v242
  else
    mf_Mo_pulse_0_j132 v242
def mf_Mo_pulse_0_j128 (v : fw_V)   : fw_V :=
  let r235 := mf_Mo_isGood_0 v (0 : Int32)
  if r235 = (0 : Int32) then
    mf_Mo_pulse_0_j129 v (r235)
  else
    let r240 := mf_Mo_insAt v (0 : Int32)
    if r240 ≤ (1 : Int32) then
      mf_Mo_pulse_0_j129 v (r235)
    else
      mf_Mo_pulse_0_j133 v (r235) ((v 45 0 1))
def mf_Mo_pulse_0_j127 (v : fw_V)   : fw_V :=
  mf_Mo_pulse_0_j128 v
def mf_Mo_pulse_0_j3 (v : fw_V)  (x4 : Int32) : fw_V :=
  let v10 := fw_up v 9 0 (0) (0 : Int32)
  if x4 = (0 : Int32) then
    mf_Mo_pulse_0_j4 v10
  else
    mf_Mo_pulse_0_j127 v10
def mf_Mo_pulse_0_j2 (v : fw_V)  (x4 : Int32) : fw_V :=
  mf_Mo_pulse_0_j3 v (x4)
def mf_Mo_pulse_0_j134 (v : fw_V)  (x4 : Int32) (x90 : Int32) : fw_V :=
  let v247 := fw_up v 9 0 (0) x90
  if x4 = (0 : Int32) then
    mf_Mo_pulse_0_j4 v247
  else
    mf_Mo_pulse_0_j127 v247
def mf_Mo_pulse_0_j1 (v : fw_V)   : fw_V :=
  let r8 := mf_Mo_isGood_0 v (0 : Int32)
  if r8 = (0 : Int32) then
    mf_Mo_pulse_0_j2 v (r8)
  else
    let r245 := mf_Mo_insAt v (0 : Int32)
    if r245 ≤ (0 : Int32) then
      mf_Mo_pulse_0_j2 v (r8)
    else
      mf_Mo_pulse_0_j134 v (r8) ((v 45 0 0))
def mf_Mo_pulse_0 (v0 : fw_V) : fw_V :=
  if (v0 28 0 0) = (0 : Int32) then
    v0
  else
    let v2 := fw_up v0 32 0 (0) ((v0 32 0 0) + (1 : Int32))
    if (v2 28 0 0) = (1 : Int32) then
      if (v2 32 0 0) = (16 : Int32) then
        let v259 := mf_Mo_rest_0 v2
        v259
      else
        v2
    else
      if (v2 28 0 0) = (2 : Int32) then
        if (3 : Int32) ≤ (v2 32 0 0) then
          let v252 := fw_up v2 33 0 (0) ((v2 33 0 0) + (1 : Int32))
          if (v2 33 0 0) = (3 : Int32) then
            let v256 := mf_Mo_quit_0 v252
            v256
          else
            let v254 := fw_up v252 32 0 (0) (0 : Int32)
            let v255 := mf_Mo_reply_0 v254 (10 : Int32) (0 : Int32)
            v255
        else
          v2
      else
        if (v2 32 0 0) = (4 : Int32) then
          let v249 := fw_up v2 0 0 56 ((v2 0 0 56) + (1 : Int32))
          let v250 := mf_Mo_quit_0 v249
          v250
        else
          let v6 := mf_Mo_alarm_0 v2
          mf_Mo_pulse_0_j1 v6

theorem mca_Mo_pulse_0_j25 {v : fw_V} {i k : Nat} : mf_Mo_pulse_0_j25 v 10 i k = v 10 i k := by
  unfold mf_Mo_pulse_0_j25
  try dsimp only
  all_goals ((repeat' split) <;> simp [fw_up, fw_row, mca_Mo_reply_0])
theorem mca_Mo_pulse_0_j24 {v : fw_V} {i k : Nat} : mf_Mo_pulse_0_j24 v 10 i k = v 10 i k := by
  unfold mf_Mo_pulse_0_j24
  try dsimp only
  all_goals ((repeat' split) <;> simp [fw_up, fw_row, mca_Mo_pulse_0_j25])
theorem mca_Mo_pulse_0_j27 {v : fw_V} {i k : Nat} : mf_Mo_pulse_0_j27 v 10 i k = v 10 i k := by
  unfold mf_Mo_pulse_0_j27
  try dsimp only
  all_goals ((repeat' split) <;> simp [fw_up, fw_row, mca_Mo_reply_0])
theorem mca_Mo_pulse_0_j26 {v : fw_V} {i k : Nat} : mf_Mo_pulse_0_j26 v 10 i k = v 10 i k := by
  unfold mf_Mo_pulse_0_j26
  try dsimp only
  all_goals ((repeat' split) <;> simp [fw_up, fw_row, mca_Mo_pulse_0_j27])
theorem mca_Mo_pulse_0_j23 {v : fw_V} {x4 : Int32} {i k : Nat} : mf_Mo_pulse_0_j23 v x4 10 i k = v 10 i k := by
  unfold mf_Mo_pulse_0_j23
  try dsimp only
  all_goals ((repeat' split) <;> simp [fw_up, fw_row, mca_Mo_pulse_0_j24, mca_Mo_pulse_0_j26])
theorem mca_Mo_pulse_0_j22 {v : fw_V} {x4 : Int32} {i k : Nat} : mf_Mo_pulse_0_j22 v x4 10 i k = v 10 i k := by
  unfold mf_Mo_pulse_0_j22
  try dsimp only
  all_goals ((repeat' split) <;> simp [fw_up, fw_row, mca_Mo_pulse_0_j23])
theorem mca_Mo_pulse_0_j28 {v : fw_V} {x4 : Int32} {x90 : Int32} {i k : Nat} : mf_Mo_pulse_0_j28 v x4 x90 10 i k = v 10 i k := by
  unfold mf_Mo_pulse_0_j28
  try dsimp only
  all_goals ((repeat' split) <;> simp [fw_up, fw_row, mca_Mo_pulse_0_j24, mca_Mo_pulse_0_j26])
theorem mca_Mo_pulse_0_j21 {v : fw_V} {i k : Nat} : mf_Mo_pulse_0_j21 v 10 i k = v 10 i k := by
  unfold mf_Mo_pulse_0_j21
  try dsimp only
  all_goals ((repeat' split) <;> simp [fw_up, fw_row, mca_Mo_pulse_0_j22, mca_Mo_pulse_0_j28])
theorem mca_Mo_pulse_0_j20 {v : fw_V} {i k : Nat} : mf_Mo_pulse_0_j20 v 10 i k = v 10 i k := by
  unfold mf_Mo_pulse_0_j20
  try dsimp only
  all_goals ((repeat' split) <;> simp [fw_up, fw_row, mca_Mo_pulse_0_j21])
theorem mca_Mo_pulse_0_j33 {v : fw_V} {i k : Nat} : mf_Mo_pulse_0_j33 v 10 i k = v 10 i k := by
  unfold mf_Mo_pulse_0_j33
  try dsimp only
  all_goals ((repeat' split) <;> simp [fw_up, fw_row, mca_Mo_pulse_0_j27])
theorem mca_Mo_pulse_0_j34 {v : fw_V} {i k : Nat} : mf_Mo_pulse_0_j34 v 10 i k = v 10 i k := by
  unfold mf_Mo_pulse_0_j34
  try dsimp only
  all_goals ((repeat' split) <;> simp [fw_up, fw_row, mca_Mo_pulse_0_j27])
theorem mca_Mo_pulse_0_j32 {v : fw_V} {x4 : Int32} {i k : Nat} : mf_Mo_pulse_0_j32 v x4 10 i k = v 10 i k := by
  unfold mf_Mo_pulse_0_j32
  try dsimp only
  all_goals ((repeat' split) <;> simp [fw_up, fw_row, mca_Mo_pulse_0_j33, mca_Mo_pulse_0_j34])
theorem mca_Mo_pulse_0_j31 {v : fw_V} {x4 : Int32} {i k : Nat} : mf_Mo_pulse_0_j31 v x4 10 i k = v 10 i k := by
  unfold mf_Mo_pulse_0_j31
  try dsimp only
  all_goals ((repeat' split) <;> simp [fw_up, fw_row, mca_Mo_pulse_0_j32])
theorem mca_Mo_pulse_0_j35 {v : fw_V} {x4 : Int32} {x90 : Int32} {i k : Nat} : mf_Mo_pulse_0_j35 v x4 x90 10 i k = v 10 i k := by
  unfold mf_Mo_pulse_0_j35
  try dsimp only
  all_goals ((repeat' split) <;> simp [fw_up, fw_row, mca_Mo_pulse_0_j33, mca_Mo_pulse_0_j34])
theorem mca_Mo_pulse_0_j30 {v : fw_V} {i k : Nat} : mf_Mo_pulse_0_j30 v 10 i k = v 10 i k := by
  unfold mf_Mo_pulse_0_j30
  try dsimp only
  all_goals ((repeat' split) <;> simp [fw_up, fw_row, mca_Mo_pulse_0_j31, mca_Mo_pulse_0_j35])
theorem mca_Mo_pulse_0_j29 {v : fw_V} {i k : Nat} : mf_Mo_pulse_0_j29 v 10 i k = v 10 i k := by
  unfold mf_Mo_pulse_0_j29
  try dsimp only
  all_goals ((repeat' split) <;> simp [fw_up, fw_row, mca_Mo_pulse_0_j30])
theorem mca_Mo_pulse_0_j19 {v : fw_V} {x4 : Int32} {i k : Nat} : mf_Mo_pulse_0_j19 v x4 10 i k = v 10 i k := by
  unfold mf_Mo_pulse_0_j19
  try dsimp only
  all_goals ((repeat' split) <;> simp [fw_up, fw_row, mca_Mo_pulse_0_j20, mca_Mo_pulse_0_j29])
theorem mca_Mo_pulse_0_j18 {v : fw_V} {x4 : Int32} {i k : Nat} : mf_Mo_pulse_0_j18 v x4 10 i k = v 10 i k := by
  unfold mf_Mo_pulse_0_j18
  try dsimp only
  all_goals ((repeat' split) <;> simp [fw_up, fw_row, mca_Mo_pulse_0_j19])
theorem mca_Mo_pulse_0_j36 {v : fw_V} {x4 : Int32} {x90 : Int32} {i k : Nat} : mf_Mo_pulse_0_j36 v x4 x90 10 i k = v 10 i k := by
  unfold mf_Mo_pulse_0_j36
  try dsimp only
  all_goals ((repeat' split) <;> simp [fw_up, fw_row, mca_Mo_pulse_0_j20, mca_Mo_pulse_0_j29])
theorem mca_Mo_pulse_0_j17 {v : fw_V} {i k : Nat} : mf_Mo_pulse_0_j17 v 10 i k = v 10 i k := by
  unfold mf_Mo_pulse_0_j17
  try dsimp only
  all_goals ((repeat' split) <;> simp [fw_up, fw_row, mca_Mo_pulse_0_j18, mca_Mo_pulse_0_j36])
theorem mca_Mo_pulse_0_j16 {v : fw_V} {i k : Nat} : mf_Mo_pulse_0_j16 v 10 i k = v 10 i k := by
  unfold mf_Mo_pulse_0_j16
  try dsimp only
  all_goals ((repeat' split) <;> simp [fw_up, fw_row, mca_Mo_pulse_0_j17])
theorem mca_Mo_pulse_0_j46 {v : fw_V} {i k : Nat} : mf_Mo_pulse_0_j46 v 10 i k = v 10 i k := by
  unfold mf_Mo_pulse_0_j46
  try dsimp only
  all_goals ((repeat' split) <;> simp [fw_up, fw_row, mca_Mo_reply_0])
theorem mca_Mo_pulse_0_j45 {v : fw_V} {i k : Nat} : mf_Mo_pulse_0_j45 v 10 i k = v 10 i k := by
  unfold mf_Mo_pulse_0_j45
  try dsimp only
  all_goals ((repeat' split) <;> simp [fw_up, fw_row, mca_Mo_pulse_0_j46])
theorem mca_Mo_pulse_0_j48 {v : fw_V} {i k : Nat} : mf_Mo_pulse_0_j48 v 10 i k = v 10 i k := by
  unfold mf_Mo_pulse_0_j48
  try dsimp only
  all_goals ((repeat' split) <;> simp [fw_up, fw_row, mca_Mo_reply_0])
theorem mca_Mo_pulse_0_j47 {v : fw_V} {i k : Nat} : mf_Mo_pulse_0_j47 v 10 i k = v 10 i k := by
  unfold mf_Mo_pulse_0_j47
  try dsimp only
  all_goals ((repeat' split) <;> simp [fw_up, fw_row, mca_Mo_pulse_0_j48])
theorem mca_Mo_pulse_0_j44 {v : fw_V} {x4 : Int32} {i k : Nat} : mf_Mo_pulse_0_j44 v x4 10 i k = v 10 i k := by
  unfold mf_Mo_pulse_0_j44
  try dsimp only
  all_goals ((repeat' split) <;> simp [fw_up, fw_row, mca_Mo_pulse_0_j45, mca_Mo_pulse_0_j47])
theorem mca_Mo_pulse_0_j43 {v : fw_V} {x4 : Int32} {i k : Nat} : mf_Mo_pulse_0_j43 v x4 10 i k = v 10 i k := by
  unfold mf_Mo_pulse_0_j43
  try dsimp only
  all_goals ((repeat' split) <;> simp [fw_up, fw_row, mca_Mo_pulse_0_j44])
theorem mca_Mo_pulse_0_j49 {v : fw_V} {x4 : Int32} {x90 : Int32} {i k : Nat} : mf_Mo_pulse_0_j49 v x4 x90 10 i k = v 10 i k := by
  unfold mf_Mo_pulse_0_j49
  try dsimp only
  all_goals ((repeat' split) <;> simp [fw_up, fw_row, mca_Mo_pulse_0_j45, mca_Mo_pulse_0_j47])
theorem mca_Mo_pulse_0_j42 {v : fw_V} {i k : Nat} : mf_Mo_pulse_0_j42 v 10 i k = v 10 i k := by
  unfold mf_Mo_pulse_0_j42
  try dsimp only
  all_goals ((repeat' split) <;> simp [fw_up, fw_row, mca_Mo_pulse_0_j43, mca_Mo_pulse_0_j49])
theorem mca_Mo_pulse_0_j41 {v : fw_V} {i k : Nat} : mf_Mo_pulse_0_j41 v 10 i k = v 10 i k := by
  unfold mf_Mo_pulse_0_j41
  try dsimp only
  all_goals ((repeat' split) <;> simp [fw_up, fw_row, mca_Mo_pulse_0_j42])
theorem mca_Mo_pulse_0_j54 {v : fw_V} {i k : Nat} : mf_Mo_pulse_0_j54 v 10 i k = v 10 i k := by
  unfold mf_Mo_pulse_0_j54
  try dsimp only
  all_goals ((repeat' split) <;> simp [fw_up, fw_row, mca_Mo_pulse_0_j48])
theorem mca_Mo_pulse_0_j55 {v : fw_V} {i k : Nat} : mf_Mo_pulse_0_j55 v 10 i k = v 10 i k := by
  unfold mf_Mo_pulse_0_j55
  try dsimp only
  all_goals ((repeat' split) <;> simp [fw_up, fw_row, mca_Mo_pulse_0_j48])
theorem mca_Mo_pulse_0_j53 {v : fw_V} {x4 : Int32} {i k : Nat} : mf_Mo_pulse_0_j53 v x4 10 i k = v 10 i k := by
  unfold mf_Mo_pulse_0_j53
  try dsimp only
  all_goals ((repeat' split) <;> simp [fw_up, fw_row, mca_Mo_pulse_0_j54, mca_Mo_pulse_0_j55])
theorem mca_Mo_pulse_0_j52 {v : fw_V} {x4 : Int32} {i k : Nat} : mf_Mo_pulse_0_j52 v x4 10 i k = v 10 i k := by
  unfold mf_Mo_pulse_0_j52
  try dsimp only
  all_goals ((repeat' split) <;> simp [fw_up, fw_row, mca_Mo_pulse_0_j53])
theorem mca_Mo_pulse_0_j56 {v : fw_V} {x4 : Int32} {x90 : Int32} {i k : Nat} : mf_Mo_pulse_0_j56 v x4 x90 10 i k = v 10 i k := by
  unfold mf_Mo_pulse_0_j56
  try dsimp only
  all_goals ((repeat' split) <;> simp [fw_up, fw_row, mca_Mo_pulse_0_j54, mca_Mo_pulse_0_j55])
theorem mca_Mo_pulse_0_j51 {v : fw_V} {i k : Nat} : mf_Mo_pulse_0_j51 v 10 i k = v 10 i k := by
  unfold mf_Mo_pulse_0_j51
  try dsimp only
  all_goals ((repeat' split) <;> simp [fw_up, fw_row, mca_Mo_pulse_0_j52, mca_Mo_pulse_0_j56])
theorem mca_Mo_pulse_0_j50 {v : fw_V} {i k : Nat} : mf_Mo_pulse_0_j50 v 10 i k = v 10 i k := by
  unfold mf_Mo_pulse_0_j50
  try dsimp only
  all_goals ((repeat' split) <;> simp [fw_up, fw_row, mca_Mo_pulse_0_j51])
theorem mca_Mo_pulse_0_j40 {v : fw_V} {x4 : Int32} {i k : Nat} : mf_Mo_pulse_0_j40 v x4 10 i k = v 10 i k := by
  unfold mf_Mo_pulse_0_j40
  try dsimp only
  all_goals ((repeat' split) <;> simp [fw_up, fw_row, mca_Mo_pulse_0_j41, mca_Mo_pulse_0_j50])
theorem mca_Mo_pulse_0_j39 {v : fw_V} {x4 : Int32} {i k : Nat} : mf_Mo_pulse_0_j39 v x4 10 i k = v 10 i k := by
  unfold mf_Mo_pulse_0_j39
  try dsimp only
  all_goals ((repeat' split) <;> simp [fw_up, fw_row, mca_Mo_pulse_0_j40])
theorem mca_Mo_pulse_0_j57 {v : fw_V} {x4 : Int32} {x90 : Int32} {i k : Nat} : mf_Mo_pulse_0_j57 v x4 x90 10 i k = v 10 i k := by
  unfold mf_Mo_pulse_0_j57
  try dsimp only
  all_goals ((repeat' split) <;> simp [fw_up, fw_row, mca_Mo_pulse_0_j41, mca_Mo_pulse_0_j50])
theorem mca_Mo_pulse_0_j38 {v : fw_V} {i k : Nat} : mf_Mo_pulse_0_j38 v 10 i k = v 10 i k := by
  unfold mf_Mo_pulse_0_j38
  try dsimp only
  all_goals ((repeat' split) <;> simp [fw_up, fw_row, mca_Mo_pulse_0_j39, mca_Mo_pulse_0_j57])
theorem mca_Mo_pulse_0_j37 {v : fw_V} {i k : Nat} : mf_Mo_pulse_0_j37 v 10 i k = v 10 i k := by
  unfold mf_Mo_pulse_0_j37
  try dsimp only
  all_goals ((repeat' split) <;> simp [fw_up, fw_row, mca_Mo_pulse_0_j38])
theorem mca_Mo_pulse_0_j15 {v : fw_V} {x4 : Int32} {i k : Nat} : mf_Mo_pulse_0_j15 v x4 10 i k = v 10 i k := by
  unfold mf_Mo_pulse_0_j15
  try dsimp only
  all_goals ((repeat' split) <;> simp [fw_up, fw_row, mca_Mo_pulse_0_j16, mca_Mo_pulse_0_j37])
theorem mca_Mo_pulse_0_j14 {v : fw_V} {x4 : Int32} {i k : Nat} : mf_Mo_pulse_0_j14 v x4 10 i k = v 10 i k := by
  unfold mf_Mo_pulse_0_j14
  try dsimp only
  all_goals ((repeat' split) <;> simp [fw_up, fw_row, mca_Mo_pulse_0_j15])
theorem mca_Mo_pulse_0_j58 {v : fw_V} {x4 : Int32} {x90 : Int32} {i k : Nat} : mf_Mo_pulse_0_j58 v x4 x90 10 i k = v 10 i k := by
  unfold mf_Mo_pulse_0_j58
  try dsimp only
  all_goals ((repeat' split) <;> simp [fw_up, fw_row, mca_Mo_pulse_0_j16, mca_Mo_pulse_0_j37])
theorem mca_Mo_pulse_0_j13 {v : fw_V} {i k : Nat} : mf_Mo_pulse_0_j13 v 10 i k = v 10 i k := by
  unfold mf_Mo_pulse_0_j13
  try dsimp only
  all_goals ((repeat' split) <;> simp [fw_up, fw_row, mca_Mo_pulse_0_j14, mca_Mo_pulse_0_j58])
theorem mca_Mo_pulse_0_j12 {v : fw_V} {i k : Nat} : mf_Mo_pulse_0_j12 v 10 i k = v 10 i k := by
  unfold mf_Mo_pulse_0_j12
  try dsimp only
  all_goals ((repeat' split) <;> simp [fw_up, fw_row, mca_Mo_pulse_0_j13])
theorem mca_Mo_pulse_0_j63 {v : fw_V} {i k : Nat} : mf_Mo_pulse_0_j63 v 10 i k = v 10 i k := by
  unfold mf_Mo_pulse_0_j63
  try dsimp only
  all_goals ((repeat' split) <;> simp [fw_up, fw_row, mca_Mo_pulse_0_j38])
theorem mca_Mo_pulse_0_j64 {v : fw_V} {i k : Nat} : mf_Mo_pulse_0_j64 v 10 i k = v 10 i k := by
  unfold mf_Mo_pulse_0_j64
  try dsimp only
  all_goals ((repeat' split) <;> simp [fw_up, fw_row, mca_Mo_pulse_0_j38])
theorem mca_Mo_pulse_0_j62 {v : fw_V} {x4 : Int32} {i k : Nat} : mf_Mo_pulse_0_j62 v x4 10 i k = v 10 i k := by
  unfold mf_Mo_pulse_0_j62
  try dsimp only
  all_goals ((repeat' split) <;> simp [fw_up, fw_row, mca_Mo_pulse_0_j63, mca_Mo_pulse_0_j64])
theorem mca_Mo_pulse_0_j61 {v : fw_V} {x4 : Int32} {i k : Nat} : mf_Mo_pulse_0_j61 v x4 10 i k = v 10 i k := by
  unfold mf_Mo_pulse_0_j61
  try dsimp only
  all_goals ((repeat' split) <;> simp [fw_up, fw_row, mca_Mo_pulse_0_j62])
theorem mca_Mo_pulse_0_j65 {v : fw_V} {x4 : Int32} {x90 : Int32} {i k : Nat} : mf_Mo_pulse_0_j65 v x4 x90 10 i k = v 10 i k := by
  unfold mf_Mo_pulse_0_j65
  try dsimp only
  all_goals ((repeat' split) <;> simp [fw_up, fw_row, mca_Mo_pulse_0_j63, mca_Mo_pulse_0_j64])
theorem mca_Mo_pulse_0_j60 {v : fw_V} {i k : Nat} : mf_Mo_pulse_0_j60 v 10 i k = v 10 i k := by
  unfold mf_Mo_pulse_0_j60
  try dsimp only
  all_goals ((repeat' split) <;> simp [fw_up, fw_row, mca_Mo_pulse_0_j61, mca_Mo_pulse_0_j65])
theorem mca_Mo_pulse_0_j59 {v : fw_V} {i k : Nat} : mf_Mo_pulse_0_j59 v 10 i k = v 10 i k := by
  unfold mf_Mo_pulse_0_j59
  try dsimp only
  all_goals ((repeat' split) <;> simp [fw_up, fw_row, mca_Mo_pulse_0_j60])
theorem mca_Mo_pulse_0_j11 {v : fw_V} {x4 : Int32} {i k : Nat} : mf_Mo_pulse_0_j11 v x4 10 i k = v 10 i k := by
  unfold mf_Mo_pulse_0_j11
  try dsimp only
  all_goals ((repeat' split) <;> simp [fw_up, fw_row, mca_Mo_pulse_0_j12, mca_Mo_pulse_0_j59])
theorem mca_Mo_pulse_0_j10 {v : fw_V} {x4 : Int32} {i k : Nat} : mf_Mo_pulse_0_j10 v x4 10 i k = v 10 i k := by
  unfold mf_Mo_pulse_0_j10
  try dsimp only
  all_goals ((repeat' split) <;> simp [fw_up, fw_row, mca_Mo_pulse_0_j11])
theorem mca_Mo_pulse_0_j66 {v : fw_V} {x4 : Int32} {x90 : Int32} {i k : Nat} : mf_Mo_pulse_0_j66 v x4 x90 10 i k = v 10 i k := by
  unfold mf_Mo_pulse_0_j66
  try dsimp only
  all_goals ((repeat' split) <;> simp [fw_up, fw_row, mca_Mo_pulse_0_j12, mca_Mo_pulse_0_j59])
theorem mca_Mo_pulse_0_j9 {v : fw_V} {i k : Nat} : mf_Mo_pulse_0_j9 v 10 i k = v 10 i k := by
  unfold mf_Mo_pulse_0_j9
  try dsimp only
  all_goals ((repeat' split) <;> simp [fw_up, fw_row, mca_Mo_pulse_0_j10, mca_Mo_pulse_0_j66])
theorem mca_Mo_pulse_0_j8 {v : fw_V} {i k : Nat} : mf_Mo_pulse_0_j8 v 10 i k = v 10 i k := by
  unfold mf_Mo_pulse_0_j8
  try dsimp only
  all_goals ((repeat' split) <;> simp [fw_up, fw_row, mca_Mo_pulse_0_j9])
theorem mca_Mo_pulse_0_j84 {v : fw_V} {i k : Nat} : mf_Mo_pulse_0_j84 v 10 i k = v 10 i k := by
  unfold mf_Mo_pulse_0_j84
  try dsimp only
  all_goals ((repeat' split) <;> simp [fw_up, fw_row, mca_Mo_reply_0])
theorem mca_Mo_pulse_0_j83 {v : fw_V} {i k : Nat} : mf_Mo_pulse_0_j83 v 10 i k = v 10 i k := by
  unfold mf_Mo_pulse_0_j83
  try dsimp only
  all_goals ((repeat' split) <;> simp [fw_up, fw_row, mca_Mo_pulse_0_j84])
theorem mca_Mo_pulse_0_j86 {v : fw_V} {i k : Nat} : mf_Mo_pulse_0_j86 v 10 i k = v 10 i k := by
  unfold mf_Mo_pulse_0_j86
  try dsimp only
  all_goals ((repeat' split) <;> simp [fw_up, fw_row, mca_Mo_reply_0])
theorem mca_Mo_pulse_0_j85 {v : fw_V} {i k : Nat} : mf_Mo_pulse_0_j85 v 10 i k = v 10 i k := by
  unfold mf_Mo_pulse_0_j85
  try dsimp only
  all_goals ((repeat' split) <;> simp [fw_up, fw_row, mca_Mo_pulse_0_j86])
theorem mca_Mo_pulse_0_j82 {v : fw_V} {x4 : Int32} {i k : Nat} : mf_Mo_pulse_0_j82 v x4 10 i k = v 10 i k := by
  unfold mf_Mo_pulse_0_j82
  try dsimp only
  all_goals ((repeat' split) <;> simp [fw_up, fw_row, mca_Mo_pulse_0_j83, mca_Mo_pulse_0_j85])
theorem mca_Mo_pulse_0_j81 {v : fw_V} {x4 : Int32} {i k : Nat} : mf_Mo_pulse_0_j81 v x4 10 i k = v 10 i k := by
  unfold mf_Mo_pulse_0_j81
  try dsimp only
  all_goals ((repeat' split) <;> simp [fw_up, fw_row, mca_Mo_pulse_0_j82])
theorem mca_Mo_pulse_0_j87 {v : fw_V} {x4 : Int32} {x90 : Int32} {i k : Nat} : mf_Mo_pulse_0_j87 v x4 x90 10 i k = v 10 i k := by
  unfold mf_Mo_pulse_0_j87
  try dsimp only
  all_goals ((repeat' split) <;> simp [fw_up, fw_row, mca_Mo_pulse_0_j83, mca_Mo_pulse_0_j85])
theorem mca_Mo_pulse_0_j80 {v : fw_V} {i k : Nat} : mf_Mo_pulse_0_j80 v 10 i k = v 10 i k := by
  unfold mf_Mo_pulse_0_j80
  try dsimp only
  all_goals ((repeat' split) <;> simp [fw_up, fw_row, mca_Mo_pulse_0_j81, mca_Mo_pulse_0_j87])
theorem mca_Mo_pulse_0_j79 {v : fw_V} {i k : Nat} : mf_Mo_pulse_0_j79 v 10 i k = v 10 i k := by
  unfold mf_Mo_pulse_0_j79
  try dsimp only
  all_goals ((repeat' split) <;> simp [fw_up, fw_row, mca_Mo_pulse_0_j80])
theorem mca_Mo_pulse_0_j92 {v : fw_V} {i k : Nat} : mf_Mo_pulse_0_j92 v 10 i k = v 10 i k := by
  unfold mf_Mo_pulse_0_j92
  try dsimp only
  all_goals ((repeat' split) <;> simp [fw_up, fw_row, mca_Mo_pulse_0_j86])
theorem mca_Mo_pulse_0_j93 {v : fw_V} {i k : Nat} : mf_Mo_pulse_0_j93 v 10 i k = v 10 i k := by
  unfold mf_Mo_pulse_0_j93
  try dsimp only
  all_goals ((repeat' split) <;> simp [fw_up, fw_row, mca_Mo_pulse_0_j86])
theorem mca_Mo_pulse_0_j91 {v : fw_V} {x4 : Int32} {i k : Nat} : mf_Mo_pulse_0_j91 v x4 10 i k = v 10 i k := by
  unfold mf_Mo_pulse_0_j91
  try dsimp only
  all_goals ((repeat' split) <;> simp [fw_up, fw_row, mca_Mo_pulse_0_j92, mca_Mo_pulse_0_j93])
theorem mca_Mo_pulse_0_j90 {v : fw_V} {x4 : Int32} {i k : Nat} : mf_Mo_pulse_0_j90 v x4 10 i k = v 10 i k := by
  unfold mf_Mo_pulse_0_j90
  try dsimp only
  all_goals ((repeat' split) <;> simp [fw_up, fw_row, mca_Mo_pulse_0_j91])
theorem mca_Mo_pulse_0_j94 {v : fw_V} {x4 : Int32} {x90 : Int32} {i k : Nat} : mf_Mo_pulse_0_j94 v x4 x90 10 i k = v 10 i k := by
  unfold mf_Mo_pulse_0_j94
  try dsimp only
  all_goals ((repeat' split) <;> simp [fw_up, fw_row, mca_Mo_pulse_0_j92, mca_Mo_pulse_0_j93])
theorem mca_Mo_pulse_0_j89 {v : fw_V} {i k : Nat} : mf_Mo_pulse_0_j89 v 10 i k = v 10 i k := by
  unfold mf_Mo_pulse_0_j89
  try dsimp only
  all_goals ((repeat' split) <;> simp [fw_up, fw_row, mca_Mo_pulse_0_j90, mca_Mo_pulse_0_j94])
theorem mca_Mo_pulse_0_j88 {v : fw_V} {i k : Nat} : mf_Mo_pulse_0_j88 v 10 i k = v 10 i k := by
  unfold mf_Mo_pulse_0_j88
  try dsimp only
  all_goals ((repeat' split) <;> simp [fw_up, fw_row, mca_Mo_pulse_0_j89])
theorem mca_Mo_pulse_0_j78 {v : fw_V} {x4 : Int32} {i k : Nat} : mf_Mo_pulse_0_j78 v x4 10 i k = v 10 i k := by
  unfold mf_Mo_pulse_0_j78
  try dsimp only
  all_goals ((repeat' split) <;> simp [fw_up, fw_row, mca_Mo_pulse_0_j79, mca_Mo_pulse_0_j88])
theorem mca_Mo_pulse_0_j77 {v : fw_V} {x4 : Int32} {i k : Nat} : mf_Mo_pulse_0_j77 v x4 10 i k = v 10 i k := by
  unfold mf_Mo_pulse_0_j77
  try dsimp only
  all_goals ((repeat' split) <;> simp [fw_up, fw_row, mca_Mo_pulse_0_j78])
theorem mca_Mo_pulse_0_j95 {v : fw_V} {x4 : Int32} {x90 : Int32} {i k : Nat} : mf_Mo_pulse_0_j95 v x4 x90 10 i k = v 10 i k := by
  unfold mf_Mo_pulse_0_j95
  try dsimp only
  all_goals ((repeat' split) <;> simp [fw_up, fw_row, mca_Mo_pulse_0_j79, mca_Mo_pulse_0_j88])
theorem mca_Mo_pulse_0_j76 {v : fw_V} {i k : Nat} : mf_Mo_pulse_0_j76 v 10 i k = v 10 i k := by
  unfold mf_Mo_pulse_0_j76
  try dsimp only
  all_goals ((repeat' split) <;> simp [fw_up, fw_row, mca_Mo_pulse_0_j77, mca_Mo_pulse_0_j95])
theorem mca_Mo_pulse_0_j75 {v : fw_V} {i k : Nat} : mf_Mo_pulse_0_j75 v 10 i k = v 10 i k := by
  unfold mf_Mo_pulse_0_j75
  try dsimp only
  all_goals ((repeat' split) <;> simp [fw_up, fw_row, mca_Mo_pulse_0_j76])
theorem mca_Mo_pulse_0_j105 {v : fw_V} {i k : Nat} : mf_Mo_pulse_0_j105 v 10 i k = v 10 i k := by
  unfold mf_Mo_pulse_0_j105
  try dsimp only
  all_goals ((repeat' split) <;> simp [fw_up, fw_row, mca_Mo_reply_0])
theorem mca_Mo_pulse_0_j104 {v : fw_V} {i k : Nat} : mf_Mo_pulse_0_j104 v 10 i k = v 10 i k := by
  unfold mf_Mo_pulse_0_j104
  try dsimp only
  all_goals ((repeat' split) <;> simp [fw_up, fw_row, mca_Mo_pulse_0_j105])
theorem mca_Mo_pulse_0_j107 {v : fw_V} {i k : Nat} : mf_Mo_pulse_0_j107 v 10 i k = v 10 i k := by
  unfold mf_Mo_pulse_0_j107
  try dsimp only
  all_goals ((repeat' split) <;> simp [fw_up, fw_row, mca_Mo_reply_0])
theorem mca_Mo_pulse_0_j106 {v : fw_V} {i k : Nat} : mf_Mo_pulse_0_j106 v 10 i k = v 10 i k := by
  unfold mf_Mo_pulse_0_j106
  try dsimp only
  all_goals ((repeat' split) <;> simp [fw_up, fw_row, mca_Mo_pulse_0_j107])
theorem mca_Mo_pulse_0_j103 {v : fw_V} {x4 : Int32} {i k : Nat} : mf_Mo_pulse_0_j103 v x4 10 i k = v 10 i k := by
  unfold mf_Mo_pulse_0_j103
  try dsimp only
  all_goals ((repeat' split) <;> simp [fw_up, fw_row, mca_Mo_pulse_0_j104, mca_Mo_pulse_0_j106])
theorem mca_Mo_pulse_0_j102 {v : fw_V} {x4 : Int32} {i k : Nat} : mf_Mo_pulse_0_j102 v x4 10 i k = v 10 i k := by
  unfold mf_Mo_pulse_0_j102
  try dsimp only
  all_goals ((repeat' split) <;> simp [fw_up, fw_row, mca_Mo_pulse_0_j103])
theorem mca_Mo_pulse_0_j108 {v : fw_V} {x4 : Int32} {x90 : Int32} {i k : Nat} : mf_Mo_pulse_0_j108 v x4 x90 10 i k = v 10 i k := by
  unfold mf_Mo_pulse_0_j108
  try dsimp only
  all_goals ((repeat' split) <;> simp [fw_up, fw_row, mca_Mo_pulse_0_j104, mca_Mo_pulse_0_j106])
theorem mca_Mo_pulse_0_j101 {v : fw_V} {i k : Nat} : mf_Mo_pulse_0_j101 v 10 i k = v 10 i k := by
  unfold mf_Mo_pulse_0_j101
  try dsimp only
  all_goals ((repeat' split) <;> simp [fw_up, fw_row, mca_Mo_pulse_0_j102, mca_Mo_pulse_0_j108])
theorem mca_Mo_pulse_0_j100 {v : fw_V} {i k : Nat} : mf_Mo_pulse_0_j100 v 10 i k = v 10 i k := by
  unfold mf_Mo_pulse_0_j100
  try dsimp only
  all_goals ((repeat' split) <;> simp [fw_up, fw_row, mca_Mo_pulse_0_j101])
theorem mca_Mo_pulse_0_j113 {v : fw_V} {i k : Nat} : mf_Mo_pulse_0_j113 v 10 i k = v 10 i k := by
  unfold mf_Mo_pulse_0_j113
  try dsimp only
  all_goals ((repeat' split) <;> simp [fw_up, fw_row, mca_Mo_pulse_0_j107])
theorem mca_Mo_pulse_0_j114 {v : fw_V} {i k : Nat} : mf_Mo_pulse_0_j114 v 10 i k = v 10 i k := by
  unfold mf_Mo_pulse_0_j114
  try dsimp only
  all_goals ((repeat' split) <;> simp [fw_up, fw_row, mca_Mo_pulse_0_j107])
theorem mca_Mo_pulse_0_j112 {v : fw_V} {x4 : Int32} {i k : Nat} : mf_Mo_pulse_0_j112 v x4 10 i k = v 10 i k := by
  unfold mf_Mo_pulse_0_j112
  try dsimp only
  all_goals ((repeat' split) <;> simp [fw_up, fw_row, mca_Mo_pulse_0_j113, mca_Mo_pulse_0_j114])
theorem mca_Mo_pulse_0_j111 {v : fw_V} {x4 : Int32} {i k : Nat} : mf_Mo_pulse_0_j111 v x4 10 i k = v 10 i k := by
  unfold mf_Mo_pulse_0_j111
  try dsimp only
  all_goals ((repeat' split) <;> simp [fw_up, fw_row, mca_Mo_pulse_0_j112])
theorem mca_Mo_pulse_0_j115 {v : fw_V} {x4 : Int32} {x90 : Int32} {i k : Nat} : mf_Mo_pulse_0_j115 v x4 x90 10 i k = v 10 i k := by
  unfold mf_Mo_pulse_0_j115
  try dsimp only
  all_goals ((repeat' split) <;> simp [fw_up, fw_row, mca_Mo_pulse_0_j113, mca_Mo_pulse_0_j114])
theorem mca_Mo_pulse_0_j110 {v : fw_V} {i k : Nat} : mf_Mo_pulse_0_j110 v 10 i k = v 10 i k := by
  unfold mf_Mo_pulse_0_j110
  try dsimp only
  all_goals ((repeat' split) <;> simp [fw_up, fw_row, mca_Mo_pulse_0_j111, mca_Mo_pulse_0_j115])
theorem mca_Mo_pulse_0_j109 {v : fw_V} {i k : Nat} : mf_Mo_pulse_0_j109 v 10 i k = v 10 i k := by
  unfold mf_Mo_pulse_0_j109
  try dsimp only
  all_goals ((repeat' split) <;> simp [fw_up, fw_row, mca_Mo_pulse_0_j110])
theorem mca_Mo_pulse_0_j99 {v : fw_V} {x4 : Int32} {i k : Nat} : mf_Mo_pulse_0_j99 v x4 10 i k = v 10 i k := by
  unfold mf_Mo_pulse_0_j99
  try dsimp only
  all_goals ((repeat' split) <;> simp [fw_up, fw_row, mca_Mo_pulse_0_j100, mca_Mo_pulse_0_j109])
theorem mca_Mo_pulse_0_j98 {v : fw_V} {x4 : Int32} {i k : Nat} : mf_Mo_pulse_0_j98 v x4 10 i k = v 10 i k := by
  unfold mf_Mo_pulse_0_j98
  try dsimp only
  all_goals ((repeat' split) <;> simp [fw_up, fw_row, mca_Mo_pulse_0_j99])
theorem mca_Mo_pulse_0_j116 {v : fw_V} {x4 : Int32} {x90 : Int32} {i k : Nat} : mf_Mo_pulse_0_j116 v x4 x90 10 i k = v 10 i k := by
  unfold mf_Mo_pulse_0_j116
  try dsimp only
  all_goals ((repeat' split) <;> simp [fw_up, fw_row, mca_Mo_pulse_0_j100, mca_Mo_pulse_0_j109])
theorem mca_Mo_pulse_0_j97 {v : fw_V} {i k : Nat} : mf_Mo_pulse_0_j97 v 10 i k = v 10 i k := by
  unfold mf_Mo_pulse_0_j97
  try dsimp only
  all_goals ((repeat' split) <;> simp [fw_up, fw_row, mca_Mo_pulse_0_j98, mca_Mo_pulse_0_j116])
theorem mca_Mo_pulse_0_j96 {v : fw_V} {i k : Nat} : mf_Mo_pulse_0_j96 v 10 i k = v 10 i k := by
  unfold mf_Mo_pulse_0_j96
  try dsimp only
  all_goals ((repeat' split) <;> simp [fw_up, fw_row, mca_Mo_pulse_0_j97])
theorem mca_Mo_pulse_0_j74 {v : fw_V} {x4 : Int32} {i k : Nat} : mf_Mo_pulse_0_j74 v x4 10 i k = v 10 i k := by
  unfold mf_Mo_pulse_0_j74
  try dsimp only
  all_goals ((repeat' split) <;> simp [fw_up, fw_row, mca_Mo_pulse_0_j75, mca_Mo_pulse_0_j96])
theorem mca_Mo_pulse_0_j73 {v : fw_V} {x4 : Int32} {i k : Nat} : mf_Mo_pulse_0_j73 v x4 10 i k = v 10 i k := by
  unfold mf_Mo_pulse_0_j73
  try dsimp only
  all_goals ((repeat' split) <;> simp [fw_up, fw_row, mca_Mo_pulse_0_j74])
theorem mca_Mo_pulse_0_j117 {v : fw_V} {x4 : Int32} {x90 : Int32} {i k : Nat} : mf_Mo_pulse_0_j117 v x4 x90 10 i k = v 10 i k := by
  unfold mf_Mo_pulse_0_j117
  try dsimp only
  all_goals ((repeat' split) <;> simp [fw_up, fw_row, mca_Mo_pulse_0_j75, mca_Mo_pulse_0_j96])
theorem mca_Mo_pulse_0_j72 {v : fw_V} {i k : Nat} : mf_Mo_pulse_0_j72 v 10 i k = v 10 i k := by
  unfold mf_Mo_pulse_0_j72
  try dsimp only
  all_goals ((repeat' split) <;> simp [fw_up, fw_row, mca_Mo_pulse_0_j73, mca_Mo_pulse_0_j117])
theorem mca_Mo_pulse_0_j71 {v : fw_V} {i k : Nat} : mf_Mo_pulse_0_j71 v 10 i k = v 10 i k := by
  unfold mf_Mo_pulse_0_j71
  try dsimp only
  all_goals ((repeat' split) <;> simp [fw_up, fw_row, mca_Mo_pulse_0_j72])
theorem mca_Mo_pulse_0_j122 {v : fw_V} {i k : Nat} : mf_Mo_pulse_0_j122 v 10 i k = v 10 i k := by
  unfold mf_Mo_pulse_0_j122
  try dsimp only
  all_goals ((repeat' split) <;> simp [fw_up, fw_row, mca_Mo_pulse_0_j97])
theorem mca_Mo_pulse_0_j123 {v : fw_V} {i k : Nat} : mf_Mo_pulse_0_j123 v 10 i k = v 10 i k := by
  unfold mf_Mo_pulse_0_j123
  try dsimp only
  all_goals ((repeat' split) <;> simp [fw_up, fw_row, mca_Mo_pulse_0_j97])
theorem mca_Mo_pulse_0_j121 {v : fw_V} {x4 : Int32} {i k : Nat} : mf_Mo_pulse_0_j121 v x4 10 i k = v 10 i k := by
  unfold mf_Mo_pulse_0_j121
  try dsimp only
  all_goals ((repeat' split) <;> simp [fw_up, fw_row, mca_Mo_pulse_0_j122, mca_Mo_pulse_0_j123])
theorem mca_Mo_pulse_0_j120 {v : fw_V} {x4 : Int32} {i k : Nat} : mf_Mo_pulse_0_j120 v x4 10 i k = v 10 i k := by
  unfold mf_Mo_pulse_0_j120
  try dsimp only
  all_goals ((repeat' split) <;> simp [fw_up, fw_row, mca_Mo_pulse_0_j121])
theorem mca_Mo_pulse_0_j124 {v : fw_V} {x4 : Int32} {x90 : Int32} {i k : Nat} : mf_Mo_pulse_0_j124 v x4 x90 10 i k = v 10 i k := by
  unfold mf_Mo_pulse_0_j124
  try dsimp only
  all_goals ((repeat' split) <;> simp [fw_up, fw_row, mca_Mo_pulse_0_j122, mca_Mo_pulse_0_j123])
theorem mca_Mo_pulse_0_j119 {v : fw_V} {i k : Nat} : mf_Mo_pulse_0_j119 v 10 i k = v 10 i k := by
  unfold mf_Mo_pulse_0_j119
  try dsimp only
  all_goals ((repeat' split) <;> simp [fw_up, fw_row, mca_Mo_pulse_0_j120, mca_Mo_pulse_0_j124])
theorem mca_Mo_pulse_0_j118 {v : fw_V} {i k : Nat} : mf_Mo_pulse_0_j118 v 10 i k = v 10 i k := by
  unfold mf_Mo_pulse_0_j118
  try dsimp only
  all_goals ((repeat' split) <;> simp [fw_up, fw_row, mca_Mo_pulse_0_j119])
theorem mca_Mo_pulse_0_j70 {v : fw_V} {x4 : Int32} {i k : Nat} : mf_Mo_pulse_0_j70 v x4 10 i k = v 10 i k := by
  unfold mf_Mo_pulse_0_j70
  try dsimp only
  all_goals ((repeat' split) <;> simp [fw_up, fw_row, mca_Mo_pulse_0_j71, mca_Mo_pulse_0_j118])
theorem mca_Mo_pulse_0_j69 {v : fw_V} {x4 : Int32} {i k : Nat} : mf_Mo_pulse_0_j69 v x4 10 i k = v 10 i k := by
  unfold mf_Mo_pulse_0_j69
  try dsimp only
  all_goals ((repeat' split) <;> simp [fw_up, fw_row, mca_Mo_pulse_0_j70])
theorem mca_Mo_pulse_0_j125 {v : fw_V} {x4 : Int32} {x90 : Int32} {i k : Nat} : mf_Mo_pulse_0_j125 v x4 x90 10 i k = v 10 i k := by
  unfold mf_Mo_pulse_0_j125
  try dsimp only
  all_goals ((repeat' split) <;> simp [fw_up, fw_row, mca_Mo_pulse_0_j71, mca_Mo_pulse_0_j118])
theorem mca_Mo_pulse_0_j68 {v : fw_V} {i k : Nat} : mf_Mo_pulse_0_j68 v 10 i k = v 10 i k := by
  unfold mf_Mo_pulse_0_j68
  try dsimp only
  all_goals ((repeat' split) <;> simp [fw_up, fw_row, mca_Mo_pulse_0_j69, mca_Mo_pulse_0_j125])
theorem mca_Mo_pulse_0_j67 {v : fw_V} {i k : Nat} : mf_Mo_pulse_0_j67 v 10 i k = v 10 i k := by
  unfold mf_Mo_pulse_0_j67
  try dsimp only
  all_goals ((repeat' split) <;> simp [fw_up, fw_row, mca_Mo_pulse_0_j68])
theorem mca_Mo_pulse_0_j7 {v : fw_V} {x4 : Int32} {i k : Nat} : mf_Mo_pulse_0_j7 v x4 10 i k = v 10 i k := by
  unfold mf_Mo_pulse_0_j7
  try dsimp only
  all_goals ((repeat' split) <;> simp [fw_up, fw_row, mca_Mo_pulse_0_j8, mca_Mo_pulse_0_j67])
theorem mca_Mo_pulse_0_j6 {v : fw_V} {x4 : Int32} {i k : Nat} : mf_Mo_pulse_0_j6 v x4 10 i k = v 10 i k := by
  unfold mf_Mo_pulse_0_j6
  try dsimp only
  all_goals ((repeat' split) <;> simp [fw_up, fw_row, mca_Mo_pulse_0_j7])
theorem mca_Mo_pulse_0_j126 {v : fw_V} {x4 : Int32} {x90 : Int32} {i k : Nat} : mf_Mo_pulse_0_j126 v x4 x90 10 i k = v 10 i k := by
  unfold mf_Mo_pulse_0_j126
  try dsimp only
  all_goals ((repeat' split) <;> simp [fw_up, fw_row, mca_Mo_pulse_0_j8, mca_Mo_pulse_0_j67])
theorem mca_Mo_pulse_0_j5 {v : fw_V} {i k : Nat} : mf_Mo_pulse_0_j5 v 10 i k = v 10 i k := by
  unfold mf_Mo_pulse_0_j5
  try dsimp only
  all_goals ((repeat' split) <;> simp [fw_up, fw_row, mca_Mo_pulse_0_j6, mca_Mo_pulse_0_j126])
theorem mca_Mo_pulse_0_j4 {v : fw_V} {i k : Nat} : mf_Mo_pulse_0_j4 v 10 i k = v 10 i k := by
  unfold mf_Mo_pulse_0_j4
  try dsimp only
  all_goals ((repeat' split) <;> simp [fw_up, fw_row, mca_Mo_pulse_0_j5])
theorem mca_Mo_pulse_0_j131 {v : fw_V} {i k : Nat} : mf_Mo_pulse_0_j131 v 10 i k = v 10 i k := by
  unfold mf_Mo_pulse_0_j131
  try dsimp only
  all_goals ((repeat' split) <;> simp [fw_up, fw_row, mca_Mo_pulse_0_j68])
theorem mca_Mo_pulse_0_j132 {v : fw_V} {i k : Nat} : mf_Mo_pulse_0_j132 v 10 i k = v 10 i k := by
  unfold mf_Mo_pulse_0_j132
  try dsimp only
  all_goals ((repeat' split) <;> simp [fw_up, fw_row, mca_Mo_pulse_0_j68])
theorem mca_Mo_pulse_0_j130 {v : fw_V} {x4 : Int32} {i k : Nat} : mf_Mo_pulse_0_j130 v x4 10 i k = v 10 i k := by
  unfold mf_Mo_pulse_0_j130
  try dsimp only
  all_goals ((repeat' split) <;> simp [fw_up, fw_row, mca_Mo_pulse_0_j131, mca_Mo_pulse_0_j132])
theorem mca_Mo_pulse_0_j129 {v : fw_V} {x4 : Int32} {i k : Nat} : mf_Mo_pulse_0_j129 v x4 10 i k = v 10 i k := by
  unfold mf_Mo_pulse_0_j129
  try dsimp only
  all_goals ((repeat' split) <;> simp [fw_up, fw_row, mca_Mo_pulse_0_j130])
theorem mca_Mo_pulse_0_j133 {v : fw_V} {x4 : Int32} {x90 : Int32} {i k : Nat} : mf_Mo_pulse_0_j133 v x4 x90 10 i k = v 10 i k := by
  unfold mf_Mo_pulse_0_j133
  try dsimp only
  all_goals ((repeat' split) <;> simp [fw_up, fw_row, mca_Mo_pulse_0_j131, mca_Mo_pulse_0_j132])
theorem mca_Mo_pulse_0_j128 {v : fw_V} {i k : Nat} : mf_Mo_pulse_0_j128 v 10 i k = v 10 i k := by
  unfold mf_Mo_pulse_0_j128
  try dsimp only
  all_goals ((repeat' split) <;> simp [fw_up, fw_row, mca_Mo_pulse_0_j129, mca_Mo_pulse_0_j133])
theorem mca_Mo_pulse_0_j127 {v : fw_V} {i k : Nat} : mf_Mo_pulse_0_j127 v 10 i k = v 10 i k := by
  unfold mf_Mo_pulse_0_j127
  try dsimp only
  all_goals ((repeat' split) <;> simp [fw_up, fw_row, mca_Mo_pulse_0_j128])
theorem mca_Mo_pulse_0_j3 {v : fw_V} {x4 : Int32} {i k : Nat} : mf_Mo_pulse_0_j3 v x4 10 i k = v 10 i k := by
  unfold mf_Mo_pulse_0_j3
  try dsimp only
  all_goals ((repeat' split) <;> simp [fw_up, fw_row, mca_Mo_pulse_0_j4, mca_Mo_pulse_0_j127])
theorem mca_Mo_pulse_0_j2 {v : fw_V} {x4 : Int32} {i k : Nat} : mf_Mo_pulse_0_j2 v x4 10 i k = v 10 i k := by
  unfold mf_Mo_pulse_0_j2
  try dsimp only
  all_goals ((repeat' split) <;> simp [fw_up, fw_row, mca_Mo_pulse_0_j3])
theorem mca_Mo_pulse_0_j134 {v : fw_V} {x4 : Int32} {x90 : Int32} {i k : Nat} : mf_Mo_pulse_0_j134 v x4 x90 10 i k = v 10 i k := by
  unfold mf_Mo_pulse_0_j134
  try dsimp only
  all_goals ((repeat' split) <;> simp [fw_up, fw_row, mca_Mo_pulse_0_j4, mca_Mo_pulse_0_j127])
theorem mca_Mo_pulse_0_j1 {v : fw_V} {i k : Nat} : mf_Mo_pulse_0_j1 v 10 i k = v 10 i k := by
  unfold mf_Mo_pulse_0_j1
  try dsimp only
  all_goals ((repeat' split) <;> simp [fw_up, fw_row, mca_Mo_pulse_0_j2, mca_Mo_pulse_0_j134])
theorem mca_Mo_pulse_0 {v0 : fw_V} {i k : Nat} : mf_Mo_pulse_0 v0 10 i k = v0 10 i k := by
  unfold mf_Mo_pulse_0
  try dsimp only
  all_goals ((repeat' split) <;> simp [fw_up, fw_row, mca_Mo_rest_0, mca_Mo_quit_0, mca_Mo_reply_0, mca_Mo_alarm_0, mca_Mo_pulse_0_j1])
set_option maxHeartbeats 4000000 in
set_option maxRecDepth 100000 in
theorem mc_Mo_pulse_0 (l : Launch) {D : va_G} {cA : Nat → ClassId} {ad : Nat → Nat → Nat} (hD : fw_D mCL ad) {b : Nat} (v0 : fw_V) (hI : mI b v0)   : Met l my_Mo_pulse (Cond.code my_Mo_pulse mb_Mo_pulse 5 none :: vTB) mrm_Mo_pulse (fw_Pc vNL D vcls (vtys cA) mCL cA mkd ad v0 [.ref (ad 0 0), .int (0 : Int32)]) (fw_Qv D vcls mCL cA mkd ad (mI b) (mf_Mo_pulse_0 v0)) 0 0 (fw_A mCL ad) := by
  refine Met.ofW (cc := mb_Mo_pulse) (maxL := 5) (ret := none) (by decide) rfl ?_
  intro p e s m args below meth c s₁ B hml hv
  obtain ⟨rfl, hP, hK, hN⟩ := hv
  have hx := B.exec
  have hb := B.bytes
  have hr := B.returns
  have hts : ∀ w ∈ vTB, w.before ([.ref (ad 0 0), .int (0 : Int32)] : List Value).toArray s = true := fun w h => atoms_spec (ws := (Cond.code my_Mo_pulse mb_Mo_pulse 5 none :: vTB)) B.pre w (List.mem_cons_of_mem _ h)
  have hown : s.vm.findClass R_Mo = some m.cls := findClass_of_methodNamed B.named
  have hlocks := B.notSynchronized
  have hS : va_S (fw_A mCL ad) s.heap s.heap [] := va_S.rf
  have J25 : ∀ (v : fw_V)  (H : Heap) (locs : List Loc) (ls : Array Slot), mf_Mo_pulse_0 v0 = mf_Mo_pulse_0_j25 v → mI b v → va_P D vcls (fw_w mCL cA mkd ad v) H → va_S (fw_A mCL ad) s.heap H locs → lv_has ls 5 [(0, .ref (ad 0 0)), (1, .int (0 : Int32)), (2, .int (0 : Int32)), (3, .int (6 : Int32))] → W p l e (headSpec (Cond.code my_Mo_pulse mb_Mo_pulse 5 none :: vTB) mrm_Mo_pulse).room s m ([.ref (ad 0 0), .int (0 : Int32)] : List Value).toArray below meth c H locs 0 0 (MQ below (fw_Qv D vcls mCL cA mkd ad (mI b) (mf_Mo_pulse_0 v0)) ([.ref (ad 0 0), .int (0 : Int32)] : List Value).toArray s 0 0 (fw_A mCL ad)) (F0 m 148 ls []) := by
    intro v  H locs ls hj  hI hP hS hl
    refine lv_iload_n hx hb md_Mo_pulse_148 rfl (lv_at hl 3 rfl) ?_
    refine lv_bipush (v := (6 : Int32)) hx hb md_Mo_pulse_149 (by decide) ?_
    refine lv_icmp_ge (tgt := 230) hx hb md_Mo_pulse_151 (by decide) (fun _ => ?_) (fun c_37 => absurd (by decide) c_37)
    refine lv_aload_n hx hb md_Mo_pulse_230 rfl (lv_at hl 0 rfl) ?_
    refine fw_getr hx hb hts i_Mo hown hK hP (mm_0 (by decide)) (mk_0 0) rfl 8 (by decide) (hts _ L_Mo_35) (fun _ h9 => h9) rfl md_Mo_pulse_231 ?_
    refine lv_bipush (v := (6 : Int32)) hx hb md_Mo_pulse_234 (by decide) ?_
    refine lv_iload_n hx hb md_Mo_pulse_236 rfl (lv_at hl 2 rfl) ?_
    refine fw_iast hx hb hK hD hP hS (mm_9 (by decide)) (mk_9 0) 0 rfl (j := 6) (by decide) (fw_inc (by decide)) md_Mo_pulse_237 (fun v38 H locs ev38 hP hS => ?_)
    have hI : mI b v38 := by rw [ev38]; exact mI_up hI trivial trivial
    refine lv_aload_n hx hb md_Mo_pulse_238 rfl (lv_at hl 0 rfl) ?_
    refine lv_iload_n hx hb md_Mo_pulse_239 rfl (lv_at hl 1 rfl) ?_
    refine lv_bipush (v := (13 : Int32)) hx hb md_Mo_pulse_240 (by decide) ?_
    refine lv_aload_n hx hb md_Mo_pulse_242 rfl (lv_at hl 0 rfl) ?_
    refine fw_getr hx hb hts i_Mo hown hK hP (mm_0 (by decide)) (mk_0 0) rfl 33 (by decide) (hts _ L_Mo_107) (fun _ h9 => h9) rfl md_Mo_pulse_243 ?_
    refine lv_iload_n hx hb md_Mo_pulse_246 rfl (lv_at hl 1 rfl) ?_
    refine fw_iald hx hb hK hP (mm_34 (by decide)) (mk_34 0) 0 rfl (j := 0) (by decide) (fw_inc (by decide)) md_Mo_pulse_247 ?_
    refine fw_cv (va_runV (As := [.int (0 : Int32), .int (13 : Int32), .int (v38 34 0 0)]) (rest := []) ⟨hx, hb, hml, hown, hts⟩ (mc_Mo_reply_0 l hD v38 hI (13 : Int32) (v38 34 0 0) (fun q => absurd q (by decide)) (by decide) (by decide)) (mw_Mo_reply hts L_Mo_238 ⟨Nat.le_of_ble_eq_true rfl, Nat.le_of_ble_eq_true rfl⟩) (fw_preV hN hK hP (mm_0 (by decide)) (mk_0 0) rfl) rfl rfl hl.1 rfl (lv_room (Nat.le_of_ble_eq_true rfl)) md_Mo_pulse_248 ⟨Nat.le_of_ble_eq_true rfl, Nat.le_of_ble_eq_true rfl⟩) hS (fun v39 H locs ev39 hI hP hS => ?_)
    refine lv_aload_n hx hb md_Mo_pulse_251 rfl (lv_at hl 0 rfl) ?_
    refine fw_getr hx hb hts i_Mo hown hK hP (mm_0 (by decide)) (mk_0 0) rfl 33 (by decide) (hts _ L_Mo_107) (fun _ h9 => h9) rfl md_Mo_pulse_252 ?_
    refine lv_iload_n hx hb md_Mo_pulse_255 rfl (lv_at hl 1 rfl) ?_
    refine lv_aload_n hx hb md_Mo_pulse_256 rfl (lv_at hl 0 rfl) ?_
    refine fw_getr hx hb hts i_Mo hown hK hP (mm_0 (by decide)) (mk_0 0) rfl 33 (by decide) (hts _ L_Mo_107) (fun _ h9 => h9) rfl md_Mo_pulse_257 ?_
    refine lv_iload_n hx hb md_Mo_pulse_260 rfl (lv_at hl 1 rfl) ?_
    refine fw_iald hx hb hK hP (mm_34 (by decide)) (mk_34 0) 0 rfl (j := 0) (by decide) (fw_inc (by decide)) md_Mo_pulse_261 ?_
    refine lv_iconst (v := (1 : Int32)) hx hb md_Mo_pulse_262 (by decide) ?_
    refine lv_iadd hx hb md_Mo_pulse_263 ?_
    refine lv_sipush (v := (255 : Int32)) hx hb md_Mo_pulse_264 (by decide) ?_
    refine lv_iand hx hb md_Mo_pulse_267 ?_
    refine fw_iast hx hb hK hD hP hS (mm_34 (by decide)) (mk_34 0) 0 rfl (j := 0) (by decide) (fw_inc (by decide)) md_Mo_pulse_268 (fun v40 H locs ev40 hP hS => ?_)
    have hI : mI b v40 := by rw [ev40]; exact mI_up hI trivial trivial
    exact fw_vret hx hb hr hlocks hS hP hI md_Mo_pulse_269 (by rw [hj]; subst ev38 ev39 ev40; simp only [mf_Mo_pulse_0_j25])
  have J24 : ∀ (v : fw_V)  (H : Heap) (locs : List Loc) (ls : Array Slot), mf_Mo_pulse_0 v0 = mf_Mo_pulse_0_j24 v → mI b v → va_P D vcls (fw_w mCL cA mkd ad v) H → va_S (fw_A mCL ad) s.heap H locs → lv_has ls 5 [(0, .ref (ad 0 0)), (1, .int (0 : Int32)), (3, .int (5 : Int32))] → W p l e (headSpec (Cond.code my_Mo_pulse mb_Mo_pulse 5 none :: vTB) mrm_Mo_pulse).room s m ([.ref (ad 0 0), .int (0 : Int32)] : List Value).toArray below meth c H locs 0 0 (MQ below (fw_Qv D vcls mCL cA mkd ad (mI b) (mf_Mo_pulse_0 v0)) ([.ref (ad 0 0), .int (0 : Int32)] : List Value).toArray s 0 0 (fw_A mCL ad)) (F0 m 222 ls [.int (0 : Int32), .int (0 : Int32)]) := by
    intro v  H locs ls hj  hI hP hS hl
    refine lv_ior hx hb md_Mo_pulse_222 ?_
    refine fw_top (y := (0 : Int32)) (by decide) ?_
    refine lv_istore_n (lv' := [(2, .int (0 : Int32)), (0, .ref (ad 0 0)), (1, .int (0 : Int32)), (3, .int (5 : Int32))]) hx hb md_Mo_pulse_223 rfl hl (by decide) rfl (fun ls hl => ?_)
    refine lv_iinc (v := (6 : Int32)) (lv' := [(3, .int (6 : Int32)), (2, .int (0 : Int32)), (0, .ref (ad 0 0)), (1, .int (0 : Int32))]) hx hb md_Mo_pulse_224 hl (k := 3) rfl (by decide) (by decide) rfl (fun ls hl => ?_)
    refine lv_goto (tgt := 148) hx hb md_Mo_pulse_227 (by decide) ?_
    exact J25 v  _ _ _ (by rw [hj]; simp only [mf_Mo_pulse_0_j24])   hI hP hS (lv_sub hl [2, 3, 1, 0] rfl)
  have J27 : ∀ (v : fw_V)  (H : Heap) (locs : List Loc) (ls : Array Slot), mf_Mo_pulse_0 v0 = mf_Mo_pulse_0_j27 v → mI b v → va_P D vcls (fw_w mCL cA mkd ad v) H → va_S (fw_A mCL ad) s.heap H locs → lv_has ls 5 [(0, .ref (ad 0 0)), (1, .int (0 : Int32)), (2, .int (4 : Int32)), (3, .int (6 : Int32))] → W p l e (headSpec (Cond.code my_Mo_pulse mb_Mo_pulse 5 none :: vTB) mrm_Mo_pulse).room s m ([.ref (ad 0 0), .int (0 : Int32)] : List Value).toArray below meth c H locs 0 0 (MQ below (fw_Qv D vcls mCL cA mkd ad (mI b) (mf_Mo_pulse_0 v0)) ([.ref (ad 0 0), .int (0 : Int32)] : List Value).toArray s 0 0 (fw_A mCL ad)) (F0 m 148 ls []) := by
    intro v  H locs ls hj  hI hP hS hl
    clear J25 J24
    refine lv_iload_n hx hb md_Mo_pulse_148 rfl (lv_at hl 3 rfl) ?_
    refine lv_bipush (v := (6 : Int32)) hx hb md_Mo_pulse_149 (by decide) ?_
    refine lv_icmp_ge (tgt := 230) hx hb md_Mo_pulse_151 (by decide) (fun _ => ?_) (fun c_41 => absurd (by decide) c_41)
    refine lv_aload_n hx hb md_Mo_pulse_230 rfl (lv_at hl 0 rfl) ?_
    refine fw_getr hx hb hts i_Mo hown hK hP (mm_0 (by decide)) (mk_0 0) rfl 8 (by decide) (hts _ L_Mo_35) (fun _ h9 => h9) rfl md_Mo_pulse_231 ?_
    refine lv_bipush (v := (6 : Int32)) hx hb md_Mo_pulse_234 (by decide) ?_
    refine lv_iload_n hx hb md_Mo_pulse_236 rfl (lv_at hl 2 rfl) ?_
    refine fw_iast hx hb hK hD hP hS (mm_9 (by decide)) (mk_9 0) 0 rfl (j := 6) (by decide) (fw_inc (by decide)) md_Mo_pulse_237 (fun v42 H locs ev42 hP hS => ?_)
    have hI : mI b v42 := by rw [ev42]; exact mI_up hI trivial trivial
    refine lv_aload_n hx hb md_Mo_pulse_238 rfl (lv_at hl 0 rfl) ?_
    refine lv_iload_n hx hb md_Mo_pulse_239 rfl (lv_at hl 1 rfl) ?_
    refine lv_bipush (v := (13 : Int32)) hx hb md_Mo_pulse_240 (by decide) ?_
    refine lv_aload_n hx hb md_Mo_pulse_242 rfl (lv_at hl 0 rfl) ?_
    refine fw_getr hx hb hts i_Mo hown hK hP (mm_0 (by decide)) (mk_0 0) rfl 33 (by decide) (hts _ L_Mo_107) (fun _ h9 => h9) rfl md_Mo_pulse_243 ?_
    refine lv_iload_n hx hb md_Mo_pulse_246 rfl (lv_at hl 1 rfl) ?_
    refine fw_iald hx hb hK hP (mm_34 (by decide)) (mk_34 0) 0 rfl (j := 0) (by decide) (fw_inc (by decide)) md_Mo_pulse_247 ?_
    refine fw_cv (va_runV (As := [.int (0 : Int32), .int (13 : Int32), .int (v42 34 0 0)]) (rest := []) ⟨hx, hb, hml, hown, hts⟩ (mc_Mo_reply_0 l hD v42 hI (13 : Int32) (v42 34 0 0) (fun q => absurd q (by decide)) (by decide) (by decide)) (mw_Mo_reply hts L_Mo_238 ⟨Nat.le_of_ble_eq_true rfl, Nat.le_of_ble_eq_true rfl⟩) (fw_preV hN hK hP (mm_0 (by decide)) (mk_0 0) rfl) rfl rfl hl.1 rfl (lv_room (Nat.le_of_ble_eq_true rfl)) md_Mo_pulse_248 ⟨Nat.le_of_ble_eq_true rfl, Nat.le_of_ble_eq_true rfl⟩) hS (fun v43 H locs ev43 hI hP hS => ?_)
    refine lv_aload_n hx hb md_Mo_pulse_251 rfl (lv_at hl 0 rfl) ?_
    refine fw_getr hx hb hts i_Mo hown hK hP (mm_0 (by decide)) (mk_0 0) rfl 33 (by decide) (hts _ L_Mo_107) (fun _ h9 => h9) rfl md_Mo_pulse_252 ?_
    refine lv_iload_n hx hb md_Mo_pulse_255 rfl (lv_at hl 1 rfl) ?_
    refine lv_aload_n hx hb md_Mo_pulse_256 rfl (lv_at hl 0 rfl) ?_
    refine fw_getr hx hb hts i_Mo hown hK hP (mm_0 (by decide)) (mk_0 0) rfl 33 (by decide) (hts _ L_Mo_107) (fun _ h9 => h9) rfl md_Mo_pulse_257 ?_
    refine lv_iload_n hx hb md_Mo_pulse_260 rfl (lv_at hl 1 rfl) ?_
    refine fw_iald hx hb hK hP (mm_34 (by decide)) (mk_34 0) 0 rfl (j := 0) (by decide) (fw_inc (by decide)) md_Mo_pulse_261 ?_
    refine lv_iconst (v := (1 : Int32)) hx hb md_Mo_pulse_262 (by decide) ?_
    refine lv_iadd hx hb md_Mo_pulse_263 ?_
    refine lv_sipush (v := (255 : Int32)) hx hb md_Mo_pulse_264 (by decide) ?_
    refine lv_iand hx hb md_Mo_pulse_267 ?_
    refine fw_iast hx hb hK hD hP hS (mm_34 (by decide)) (mk_34 0) 0 rfl (j := 0) (by decide) (fw_inc (by decide)) md_Mo_pulse_268 (fun v44 H locs ev44 hP hS => ?_)
    have hI : mI b v44 := by rw [ev44]; exact mI_up hI trivial trivial
    exact fw_vret hx hb hr hlocks hS hP hI md_Mo_pulse_269 (by rw [hj]; subst ev42 ev43 ev44; simp only [mf_Mo_pulse_0_j27])
  have J26 : ∀ (v : fw_V)  (H : Heap) (locs : List Loc) (ls : Array Slot), mf_Mo_pulse_0 v0 = mf_Mo_pulse_0_j26 v → mI b v → va_P D vcls (fw_w mCL cA mkd ad v) H → va_S (fw_A mCL ad) s.heap H locs → lv_has ls 5 [(0, .ref (ad 0 0)), (1, .int (0 : Int32)), (3, .int (5 : Int32))] → W p l e (headSpec (Cond.code my_Mo_pulse mb_Mo_pulse 5 none :: vTB) mrm_Mo_pulse).room s m ([.ref (ad 0 0), .int (0 : Int32)] : List Value).toArray below meth c H locs 0 0 (MQ below (fw_Qv D vcls mCL cA mkd ad (mI b) (mf_Mo_pulse_0 v0)) ([.ref (ad 0 0), .int (0 : Int32)] : List Value).toArray s 0 0 (fw_A mCL ad)) (F0 m 222 ls [.int (4 : Int32), .int (0 : Int32)]) := by
    intro v  H locs ls hj  hI hP hS hl
    clear J25 J24
    refine lv_ior hx hb md_Mo_pulse_222 ?_
    refine fw_top (y := (4 : Int32)) (by decide) ?_
    refine lv_istore_n (lv' := [(2, .int (4 : Int32)), (0, .ref (ad 0 0)), (1, .int (0 : Int32)), (3, .int (5 : Int32))]) hx hb md_Mo_pulse_223 rfl hl (by decide) rfl (fun ls hl => ?_)
    refine lv_iinc (v := (6 : Int32)) (lv' := [(3, .int (6 : Int32)), (2, .int (4 : Int32)), (0, .ref (ad 0 0)), (1, .int (0 : Int32))]) hx hb md_Mo_pulse_224 hl (k := 3) rfl (by decide) (by decide) rfl (fun ls hl => ?_)
    refine lv_goto (tgt := 148) hx hb md_Mo_pulse_227 (by decide) ?_
    exact J27 v  _ _ _ (by rw [hj]; simp only [mf_Mo_pulse_0_j26])   hI hP hS (lv_sub hl [2, 3, 1, 0] rfl)
  have J23 : ∀ (v : fw_V) (x4 : Int32) (H : Heap) (locs : List Loc) (ls : Array Slot), mf_Mo_pulse_0 v0 = mf_Mo_pulse_0_j23 v x4 → (x4 = 0 ∨ x4 = 1) → mI b v → va_P D vcls (fw_w mCL cA mkd ad v) H → va_S (fw_A mCL ad) s.heap H locs → lv_has ls 5 [(0, .ref (ad 0 0)), (1, .int (0 : Int32)), (2, .int (0 : Int32)), (3, .int (5 : Int32)), (4, .int x4)] → W p l e (headSpec (Cond.code my_Mo_pulse mb_Mo_pulse 5 none :: vTB) mrm_Mo_pulse).room s m ([.ref (ad 0 0), .int (0 : Int32)] : List Value).toArray below meth c H locs 0 0 (MQ below (fw_Qv D vcls mCL cA mkd ad (mI b) (mf_Mo_pulse_0 v0)) ([.ref (ad 0 0), .int (0 : Int32)] : List Value).toArray s 0 0 (fw_A mCL ad)) (F0 m 206 ls [.int (0 : Int32), .int (5 : Int32), .ref (ad 9 0)]) := by
    intro v x4 H locs ls hj hc0 hI hP hS hl
    clear J25 J27
    refine fw_iast hx hb hK hD hP hS (mm_9 (by decide)) (mk_9 0) 0 rfl (j := 5) (by decide) (fw_inc (by decide)) md_Mo_pulse_206 (fun v35 H locs ev35 hP hS => ?_)
    have hI : mI b v35 := by rw [ev35]; exact mI_up hI trivial trivial
    refine lv_iload_n hx hb md_Mo_pulse_207 rfl (lv_at hl 2 rfl) ?_
    refine lv_iload hx hb md_Mo_pulse_208 (lv_at hl 4 rfl) ?_
    refine lv_if_eq (tgt := 221) hx hb md_Mo_pulse_210 (by decide) (fun c_36 => ?_) (fun c_36 => ?_)
    · refine lv_iconst (v := (0 : Int32)) hx hb md_Mo_pulse_221 (by decide) ?_
      exact J24 v35  _ _ _ (by rw [hj]; subst ev35; simp only [mf_Mo_pulse_0_j23, if_pos c_36])   hI hP hS (lv_sub hl [0, 1, 3] rfl)
    · refine lv_iconst (v := (1 : Int32)) hx hb md_Mo_pulse_213 (by decide) ?_
      refine lv_iload_n hx hb md_Mo_pulse_214 rfl (lv_at hl 3 rfl) ?_
      refine lv_iconst (v := (2 : Int32)) hx hb md_Mo_pulse_215 (by decide) ?_
      refine lv_idiv hx hb md_Mo_pulse_216 (by decide) ?_
      refine fw_top (y := (2 : Int32)) (by decide) ?_
      refine lv_ishl hx hb md_Mo_pulse_217 ?_
      refine fw_top (y := (4 : Int32)) (by decide) ?_
      refine lv_goto (tgt := 222) hx hb md_Mo_pulse_218 (by decide) ?_
      exact J26 v35  _ _ _ (by rw [hj]; subst ev35; simp only [mf_Mo_pulse_0_j23, if_neg c_36])   hI hP hS (lv_sub hl [0, 1, 3] rfl)
  have J22 : ∀ (v : fw_V) (x4 : Int32) (H : Heap) (locs : List Loc) (ls : Array Slot), mf_Mo_pulse_0 v0 = mf_Mo_pulse_0_j22 v x4 → (x4 = 0 ∨ x4 = 1) → mI b v → va_P D vcls (fw_w mCL cA mkd ad v) H → va_S (fw_A mCL ad) s.heap H locs → lv_has ls 5 [(0, .ref (ad 0 0)), (1, .int (0 : Int32)), (2, .int (0 : Int32)), (3, .int (5 : Int32)), (4, .int x4)] → W p l e (headSpec (Cond.code my_Mo_pulse mb_Mo_pulse 5 none :: vTB) mrm_Mo_pulse).room s m ([.ref (ad 0 0), .int (0 : Int32)] : List Value).toArray below meth c H locs 0 0 (MQ below (fw_Qv D vcls mCL cA mkd ad (mI b) (mf_Mo_pulse_0 v0)) ([.ref (ad 0 0), .int (0 : Int32)] : List Value).toArray s 0 0 (fw_A mCL ad)) (F0 m 205 ls [.int (5 : Int32), .ref (ad 9 0)]) := by
    intro v x4 H locs ls hj hc0 hI hP hS hl
    clear J25 J24 J27 J26
    refine lv_iconst (v := (0 : Int32)) hx hb md_Mo_pulse_205 (by decide) ?_
    exact J23 v (x4) _ _ _ (by rw [hj]; simp only [mf_Mo_pulse_0_j22]) hc0  hI hP hS (lv_sub hl [0, 1, 2, 3, 4] rfl)
  have J28 : ∀ (v : fw_V) (x4 : Int32) (x90 : Int32) (H : Heap) (locs : List Loc) (ls : Array Slot), mf_Mo_pulse_0 v0 = mf_Mo_pulse_0_j28 v x4 x90 → (x4 = 0 ∨ x4 = 1) → mI b v → va_P D vcls (fw_w mCL cA mkd ad v) H → va_S (fw_A mCL ad) s.heap H locs → lv_has ls 5 [(0, .ref (ad 0 0)), (1, .int (0 : Int32)), (2, .int (0 : Int32)), (3, .int (5 : Int32)), (4, .int x4)] → W p l e (headSpec (Cond.code my_Mo_pulse mb_Mo_pulse 5 none :: vTB) mrm_Mo_pulse).room s m ([.ref (ad 0 0), .int (0 : Int32)] : List Value).toArray below meth c H locs 0 0 (MQ below (fw_Qv D vcls mCL cA mkd ad (mI b) (mf_Mo_pulse_0 v0)) ([.ref (ad 0 0), .int (0 : Int32)] : List Value).toArray s 0 0 (fw_A mCL ad)) (F0 m 206 ls [.int x90, .int (5 : Int32), .ref (ad 9 0)]) := by
    intro v x4 x90 H locs ls hj hc0 hI hP hS hl
    clear J25 J27 J23 J22
    refine fw_iast hx hb hK hD hP hS (mm_9 (by decide)) (mk_9 0) 0 rfl (j := 5) (by decide) (fw_inc (by decide)) md_Mo_pulse_206 (fun v48 H locs ev48 hP hS => ?_)
    have hI : mI b v48 := by rw [ev48]; exact mI_up hI trivial trivial
    refine lv_iload_n hx hb md_Mo_pulse_207 rfl (lv_at hl 2 rfl) ?_
    refine lv_iload hx hb md_Mo_pulse_208 (lv_at hl 4 rfl) ?_
    refine lv_if_eq (tgt := 221) hx hb md_Mo_pulse_210 (by decide) (fun c_49 => ?_) (fun c_49 => ?_)
    · refine lv_iconst (v := (0 : Int32)) hx hb md_Mo_pulse_221 (by decide) ?_
      exact J24 v48  _ _ _ (by rw [hj]; subst ev48; simp only [mf_Mo_pulse_0_j28, if_pos c_49])   hI hP hS (lv_sub hl [0, 1, 3] rfl)
    · refine lv_iconst (v := (1 : Int32)) hx hb md_Mo_pulse_213 (by decide) ?_
      refine lv_iload_n hx hb md_Mo_pulse_214 rfl (lv_at hl 3 rfl) ?_
      refine lv_iconst (v := (2 : Int32)) hx hb md_Mo_pulse_215 (by decide) ?_
      refine lv_idiv hx hb md_Mo_pulse_216 (by decide) ?_
      refine fw_top (y := (2 : Int32)) (by decide) ?_
      refine lv_ishl hx hb md_Mo_pulse_217 ?_
      refine fw_top (y := (4 : Int32)) (by decide) ?_
      refine lv_goto (tgt := 222) hx hb md_Mo_pulse_218 (by decide) ?_
      exact J26 v48  _ _ _ (by rw [hj]; subst ev48; simp only [mf_Mo_pulse_0_j28, if_neg c_49])   hI hP hS (lv_sub hl [0, 1, 3] rfl)
  have J21 : ∀ (v : fw_V)  (H : Heap) (locs : List Loc) (ls : Array Slot), mf_Mo_pulse_0 v0 = mf_Mo_pulse_0_j21 v → mI b v → va_P D vcls (fw_w mCL cA mkd ad v) H → va_S (fw_A mCL ad) s.heap H locs → lv_has ls 5 [(0, .ref (ad 0 0)), (1, .int (0 : Int32)), (2, .int (0 : Int32)), (3, .int (5 : Int32))] → W p l e (headSpec (Cond.code my_Mo_pulse mb_Mo_pulse 5 none :: vTB) mrm_Mo_pulse).room s m ([.ref (ad 0 0), .int (0 : Int32)] : List Value).toArray below meth c H locs 0 0 (MQ below (fw_Qv D vcls mCL cA mkd ad (mI b) (mf_Mo_pulse_0 v0)) ([.ref (ad 0 0), .int (0 : Int32)] : List Value).toArray s 0 0 (fw_A mCL ad)) (F0 m 148 ls []) := by
    intro v  H locs ls hj  hI hP hS hl
    clear J25 J24 J27 J26 J23
    refine lv_iload_n hx hb md_Mo_pulse_148 rfl (lv_at hl 3 rfl) ?_
    refine lv_bipush (v := (6 : Int32)) hx hb md_Mo_pulse_149 (by decide) ?_
    refine lv_icmp_ge (tgt := 230) hx hb md_Mo_pulse_151 (by decide) (fun c_32 => absurd c_32 (by decide)) (fun _ => ?_)
    refine lv_aload_n hx hb md_Mo_pulse_154 rfl (lv_at hl 0 rfl) ?_
    refine lv_iload_n hx hb md_Mo_pulse_155 rfl (lv_at hl 1 rfl) ?_
    refine lv_iload_n hx hb md_Mo_pulse_156 rfl (lv_at hl 3 rfl) ?_
    refine lv_iconst (v := (2 : Int32)) hx hb md_Mo_pulse_157 (by decide) ?_
    refine lv_idiv hx hb md_Mo_pulse_158 (by decide) ?_
    refine fw_top (y := (2 : Int32)) (by decide) ?_
    refine fw_cb (va_runV (As := [.int (0 : Int32), .int (2 : Int32)]) (rest := []) ⟨hx, hb, hml, hown, hts⟩ (mc_Mo_isGood_0 l hD v hI (2 : Int32) (fw_inc (by decide))) (mw_Mo_isGood hts L_Mo_250 ⟨Nat.le_of_ble_eq_true rfl, Nat.le_of_ble_eq_true rfl⟩) (fw_preV hN hK hP (mm_0 (by decide)) (mk_0 0) rfl) rfl rfl hl.1 rfl (lv_room (Nat.le_of_ble_eq_true rfl)) md_Mo_pulse_159 ⟨Nat.le_of_ble_eq_true rfl, Nat.le_of_ble_eq_true rfl⟩) hS (fun r33 H locs zr33 er33 hP hS => ?_)
    refine lv_istore (lv' := [(4, .int r33), (0, .ref (ad 0 0)), (1, .int (0 : Int32)), (2, .int (0 : Int32)), (3, .int (5 : Int32))]) hx hb md_Mo_pulse_162 hl (by decide) rfl (fun ls hl => ?_)
    refine lv_aload_n hx hb md_Mo_pulse_164 rfl (lv_at hl 1 rfl) ?_
    refine fw_getr hx hb hts i_Mo hown hK hP (mm_0 (by decide)) (mk_0 0) rfl 8 (by decide) (hts _ L_Mo_35) (fun _ h9 => h9) rfl md_Mo_pulse_165 ?_
    refine lv_iload_n hx hb md_Mo_pulse_168 rfl (lv_at hl 4 rfl) ?_
    refine lv_iload hx hb md_Mo_pulse_169 (lv_at hl 0 rfl) ?_
    refine lv_if_eq (tgt := 205) hx hb md_Mo_pulse_171 (by decide) (fun c_34 => ?_) (fun c_34 => ?_)
    · exact J22 v (r33) _ _ _ (by rw [hj]; subst er33; simp only [mf_Mo_pulse_0_j21, if_pos c_34]) zr33  hI hP hS (lv_sub hl [1, 2, 3, 4, 0] rfl)
    · have h_45 : vp_in (v 43 0 2) 8 := mp_isGood_0_2 er33 c_34 (hI.1 43 0 2)
      refine lv_iload_n hx hb md_Mo_pulse_174 rfl (lv_at hl 4 rfl) ?_
      refine lv_iconst (v := (2 : Int32)) hx hb md_Mo_pulse_175 (by decide) ?_
      refine lv_irem hx hb md_Mo_pulse_176 (by decide) ?_
      refine fw_top (y := (1 : Int32)) (by decide) ?_
      refine lv_aload_n hx hb md_Mo_pulse_177 rfl (lv_at hl 1 rfl) ?_
      refine lv_iconst (v := (3 : Int32)) hx hb md_Mo_pulse_178 (by decide) ?_
      refine lv_iload_n hx hb md_Mo_pulse_179 rfl (lv_at hl 2 rfl) ?_
      refine lv_imul hx hb md_Mo_pulse_180 ?_
      refine fw_top (y := (0 : Int32)) (by decide) ?_
      refine lv_iload_n hx hb md_Mo_pulse_181 rfl (lv_at hl 4 rfl) ?_
      refine lv_iconst (v := (2 : Int32)) hx hb md_Mo_pulse_182 (by decide) ?_
      refine lv_idiv hx hb md_Mo_pulse_183 (by decide) ?_
      refine fw_top (y := (2 : Int32)) (by decide) ?_
      refine lv_iadd hx hb md_Mo_pulse_184 ?_
      refine fw_top (y := (2 : Int32)) (by decide) ?_
      refine fw_co (va_runV (As := [.int (2 : Int32)]) (rest := [.int (1 : Int32), .int (5 : Int32), .ref (ad 9 0)]) ⟨hx, hb, hml, hown, hts⟩ (mc_Mo_insAt l hD v hI (2 : Int32) (fw_inc (by decide))) (mw_Mo_insAt hts L_Mo_263 ⟨Nat.le_of_ble_eq_true rfl, Nat.le_of_ble_eq_true rfl⟩) (fw_preV hN hK hP (mm_0 (by decide)) (mk_0 0) rfl) rfl rfl hl.1 rfl (lv_room (Nat.le_of_ble_eq_true rfl)) md_Mo_pulse_185 ⟨Nat.le_of_ble_eq_true rfl, Nat.le_of_ble_eq_true rfl⟩) hS (fun r46 H locs er46 hP hS => ?_)
      refine lv_icmp_ge (tgt := 205) hx hb md_Mo_pulse_188 (by decide) (fun c_47 => ?_) (fun c_47 => ?_)
      · exact J22 v (r33) _ _ _ (by rw [hj]; subst er33 er46; simp only [mf_Mo_pulse_0_j21, if_neg c_34, if_pos c_47]) zr33  hI hP hS (lv_sub hl [1, 2, 3, 4, 0] rfl)
      · refine lv_aload_n hx hb md_Mo_pulse_191 rfl (lv_at hl 1 rfl) ?_
        refine fw_getr hx hb hts i_Mo hown hK hP (mm_0 (by decide)) (mk_0 0) rfl 44 (by decide) (hts _ L_Mo_140) (fun _ h9 => h9) rfl md_Mo_pulse_192 ?_
        refine lv_bipush (v := (6 : Int32)) hx hb md_Mo_pulse_195 (by decide) ?_
        refine lv_iload_n hx hb md_Mo_pulse_197 rfl (lv_at hl 2 rfl) ?_
        refine lv_imul hx hb md_Mo_pulse_198 ?_
        refine fw_top (y := (0 : Int32)) (by decide) ?_
        refine lv_iload_n hx hb md_Mo_pulse_199 rfl (lv_at hl 4 rfl) ?_
        refine lv_iadd hx hb md_Mo_pulse_200 ?_
        refine fw_top (y := (5 : Int32)) (by decide) ?_
        refine fw_iald hx hb hK hP (mm_45 (by decide)) (mk_45 0) 0 rfl (j := 5) (by decide) (fw_inc (by decide)) md_Mo_pulse_201 ?_
        refine lv_goto (tgt := 206) hx hb md_Mo_pulse_202 (by decide) ?_
        exact J28 v (r33) ((v 45 0 5)) _ _ _ (by rw [hj]; subst er33 er46; simp only [mf_Mo_pulse_0_j21, if_neg c_34, if_neg c_47]) zr33  hI hP hS (lv_sub hl [1, 2, 3, 4, 0] rfl)
  have J20 : ∀ (v : fw_V)  (H : Heap) (locs : List Loc) (ls : Array Slot), mf_Mo_pulse_0 v0 = mf_Mo_pulse_0_j20 v → mI b v → va_P D vcls (fw_w mCL cA mkd ad v) H → va_S (fw_A mCL ad) s.heap H locs → lv_has ls 5 [(0, .ref (ad 0 0)), (1, .int (0 : Int32)), (3, .int (4 : Int32))] → W p l e (headSpec (Cond.code my_Mo_pulse mb_Mo_pulse 5 none :: vTB) mrm_Mo_pulse).room s m ([.ref (ad 0 0), .int (0 : Int32)] : List Value).toArray below meth c H locs 0 0 (MQ below (fw_Qv D vcls mCL cA mkd ad (mI b) (mf_Mo_pulse_0 v0)) ([.ref (ad 0 0), .int (0 : Int32)] : List Value).toArray s 0 0 (fw_A mCL ad)) (F0 m 222 ls [.int (0 : Int32), .int (0 : Int32)]) := by
    intro v  H locs ls hj  hI hP hS hl
    clear J25 J24 J27 J26 J23 J22 J28
    refine lv_ior hx hb md_Mo_pulse_222 ?_
    refine fw_top (y := (0 : Int32)) (by decide) ?_
    refine lv_istore_n (lv' := [(2, .int (0 : Int32)), (0, .ref (ad 0 0)), (1, .int (0 : Int32)), (3, .int (4 : Int32))]) hx hb md_Mo_pulse_223 rfl hl (by decide) rfl (fun ls hl => ?_)
    refine lv_iinc (v := (5 : Int32)) (lv' := [(3, .int (5 : Int32)), (2, .int (0 : Int32)), (0, .ref (ad 0 0)), (1, .int (0 : Int32))]) hx hb md_Mo_pulse_224 hl (k := 3) rfl (by decide) (by decide) rfl (fun ls hl => ?_)
    refine lv_goto (tgt := 148) hx hb md_Mo_pulse_227 (by decide) ?_
    exact J21 v  _ _ _ (by rw [hj]; simp only [mf_Mo_pulse_0_j20])   hI hP hS (lv_sub hl [2, 3, 1, 0] rfl)
  have J33 : ∀ (v : fw_V)  (H : Heap) (locs : List Loc) (ls : Array Slot), mf_Mo_pulse_0 v0 = mf_Mo_pulse_0_j33 v → mI b v → va_P D vcls (fw_w mCL cA mkd ad v) H → va_S (fw_A mCL ad) s.heap H locs → lv_has ls 5 [(0, .ref (ad 0 0)), (1, .int (0 : Int32)), (3, .int (5 : Int32))] → W p l e (headSpec (Cond.code my_Mo_pulse mb_Mo_pulse 5 none :: vTB) mrm_Mo_pulse).room s m ([.ref (ad 0 0), .int (0 : Int32)] : List Value).toArray below meth c H locs 0 0 (MQ below (fw_Qv D vcls mCL cA mkd ad (mI b) (mf_Mo_pulse_0 v0)) ([.ref (ad 0 0), .int (0 : Int32)] : List Value).toArray s 0 0 (fw_A mCL ad)) (F0 m 222 ls [.int (0 : Int32), .int (4 : Int32)]) := by
    intro v  H locs ls hj  hI hP hS hl
    clear J25 J24 J26 J23 J22 J28 J21 J20
    refine lv_ior hx hb md_Mo_pulse_222 ?_
    refine fw_top (y := (4 : Int32)) (by decide) ?_
    refine lv_istore_n (lv' := [(2, .int (4 : Int32)), (0, .ref (ad 0 0)), (1, .int (0 : Int32)), (3, .int (5 : Int32))]) hx hb md_Mo_pulse_223 rfl hl (by decide) rfl (fun ls hl => ?_)
    refine lv_iinc (v := (6 : Int32)) (lv' := [(3, .int (6 : Int32)), (2, .int (4 : Int32)), (0, .ref (ad 0 0)), (1, .int (0 : Int32))]) hx hb md_Mo_pulse_224 hl (k := 3) rfl (by decide) (by decide) rfl (fun ls hl => ?_)
    refine lv_goto (tgt := 148) hx hb md_Mo_pulse_227 (by decide) ?_
    exact J27 v  _ _ _ (by rw [hj]; simp only [mf_Mo_pulse_0_j33])   hI hP hS (lv_sub hl [2, 3, 1, 0] rfl)
  have J34 : ∀ (v : fw_V)  (H : Heap) (locs : List Loc) (ls : Array Slot), mf_Mo_pulse_0 v0 = mf_Mo_pulse_0_j34 v → mI b v → va_P D vcls (fw_w mCL cA mkd ad v) H → va_S (fw_A mCL ad) s.heap H locs → lv_has ls 5 [(0, .ref (ad 0 0)), (1, .int (0 : Int32)), (3, .int (5 : Int32))] → W p l e (headSpec (Cond.code my_Mo_pulse mb_Mo_pulse 5 none :: vTB) mrm_Mo_pulse).room s m ([.ref (ad 0 0), .int (0 : Int32)] : List Value).toArray below meth c H locs 0 0 (MQ below (fw_Qv D vcls mCL cA mkd ad (mI b) (mf_Mo_pulse_0 v0)) ([.ref (ad 0 0), .int (0 : Int32)] : List Value).toArray s 0 0 (fw_A mCL ad)) (F0 m 222 ls [.int (4 : Int32), .int (4 : Int32)]) := by
    intro v  H locs ls hj  hI hP hS hl
    clear J25 J24 J26 J23 J22 J28 J21 J20 J33
    refine lv_ior hx hb md_Mo_pulse_222 ?_
    refine fw_top (y := (4 : Int32)) (by decide) ?_
    refine lv_istore_n (lv' := [(2, .int (4 : Int32)), (0, .ref (ad 0 0)), (1, .int (0 : Int32)), (3, .int (5 : Int32))]) hx hb md_Mo_pulse_223 rfl hl (by decide) rfl (fun ls hl => ?_)
    refine lv_iinc (v := (6 : Int32)) (lv' := [(3, .int (6 : Int32)), (2, .int (4 : Int32)), (0, .ref (ad 0 0)), (1, .int (0 : Int32))]) hx hb md_Mo_pulse_224 hl (k := 3) rfl (by decide) (by decide) rfl (fun ls hl => ?_)
    refine lv_goto (tgt := 148) hx hb md_Mo_pulse_227 (by decide) ?_
    exact J27 v  _ _ _ (by rw [hj]; simp only [mf_Mo_pulse_0_j34])   hI hP hS (lv_sub hl [2, 3, 1, 0] rfl)
  have J32 : ∀ (v : fw_V) (x4 : Int32) (H : Heap) (locs : List Loc) (ls : Array Slot), mf_Mo_pulse_0 v0 = mf_Mo_pulse_0_j32 v x4 → (x4 = 0 ∨ x4 = 1) → mI b v → va_P D vcls (fw_w mCL cA mkd ad v) H → va_S (fw_A mCL ad) s.heap H locs → lv_has ls 5 [(0, .ref (ad 0 0)), (1, .int (0 : Int32)), (2, .int (4 : Int32)), (3, .int (5 : Int32)), (4, .int x4)] → W p l e (headSpec (Cond.code my_Mo_pulse mb_Mo_pulse 5 none :: vTB) mrm_Mo_pulse).room s m ([.ref (ad 0 0), .int (0 : Int32)] : List Value).toArray below meth c H locs 0 0 (MQ below (fw_Qv D vcls mCL cA mkd ad (mI b) (mf_Mo_pulse_0 v0)) ([.ref (ad 0 0), .int (0 : Int32)] : List Value).toArray s 0 0 (fw_A mCL ad)) (F0 m 206 ls [.int (0 : Int32), .int (5 : Int32), .ref (ad 9 0)]) := by
    intro v x4 H locs ls hj hc0 hI hP hS hl
    clear J25 J24 J27 J26 J23 J22 J28 J21 J20
    refine fw_iast hx hb hK hD hP hS (mm_9 (by decide)) (mk_9 0) 0 rfl (j := 5) (by decide) (fw_inc (by decide)) md_Mo_pulse_206 (fun v53 H locs ev53 hP hS => ?_)
    have hI : mI b v53 := by rw [ev53]; exact mI_up hI trivial trivial
    refine lv_iload_n hx hb md_Mo_pulse_207 rfl (lv_at hl 2 rfl) ?_
    refine lv_iload hx hb md_Mo_pulse_208 (lv_at hl 4 rfl) ?_
    refine lv_if_eq (tgt := 221) hx hb md_Mo_pulse_210 (by decide) (fun c_54 => ?_) (fun c_54 => ?_)
    · refine lv_iconst (v := (0 : Int32)) hx hb md_Mo_pulse_221 (by decide) ?_
      exact J33 v53  _ _ _ (by rw [hj]; subst ev53; simp only [mf_Mo_pulse_0_j32, if_pos c_54])   hI hP hS (lv_sub hl [0, 1, 3] rfl)
    · refine lv_iconst (v := (1 : Int32)) hx hb md_Mo_pulse_213 (by decide) ?_
      refine lv_iload_n hx hb md_Mo_pulse_214 rfl (lv_at hl 3 rfl) ?_
      refine lv_iconst (v := (2 : Int32)) hx hb md_Mo_pulse_215 (by decide) ?_
      refine lv_idiv hx hb md_Mo_pulse_216 (by decide) ?_
      refine fw_top (y := (2 : Int32)) (by decide) ?_
      refine lv_ishl hx hb md_Mo_pulse_217 ?_
      refine fw_top (y := (4 : Int32)) (by decide) ?_
      refine lv_goto (tgt := 222) hx hb md_Mo_pulse_218 (by decide) ?_
      exact J34 v53  _ _ _ (by rw [hj]; subst ev53; simp only [mf_Mo_pulse_0_j32, if_neg c_54])   hI hP hS (lv_sub hl [0, 1, 3] rfl)
  have J31 : ∀ (v : fw_V) (x4 : Int32) (H : Heap) (locs : List Loc) (ls : Array Slot), mf_Mo_pulse_0 v0 = mf_Mo_pulse_0_j31 v x4 → (x4 = 0 ∨ x4 = 1) → mI b v → va_P D vcls (fw_w mCL cA mkd ad v) H → va_S (fw_A mCL ad) s.heap H locs → lv_has ls 5 [(0, .ref (ad 0 0)), (1, .int (0 : Int32)), (2, .int (4 : Int32)), (3, .int (5 : Int32)), (4, .int x4)] → W p l e (headSpec (Cond.code my_Mo_pulse mb_Mo_pulse 5 none :: vTB) mrm_Mo_pulse).room s m ([.ref (ad 0 0), .int (0 : Int32)] : List Value).toArray below meth c H locs 0 0 (MQ below (fw_Qv D vcls mCL cA mkd ad (mI b) (mf_Mo_pulse_0 v0)) ([.ref (ad 0 0), .int (0 : Int32)] : List Value).toArray s 0 0 (fw_A mCL ad)) (F0 m 205 ls [.int (5 : Int32), .ref (ad 9 0)]) := by
    intro v x4 H locs ls hj hc0 hI hP hS hl
    clear J25 J24 J27 J26 J23 J22 J28 J21 J20 J33 J34
    refine lv_iconst (v := (0 : Int32)) hx hb md_Mo_pulse_205 (by decide) ?_
    exact J32 v (x4) _ _ _ (by rw [hj]; simp only [mf_Mo_pulse_0_j31]) hc0  hI hP hS (lv_sub hl [0, 1, 2, 3, 4] rfl)
  have J35 : ∀ (v : fw_V) (x4 : Int32) (x90 : Int32) (H : Heap) (locs : List Loc) (ls : Array Slot), mf_Mo_pulse_0 v0 = mf_Mo_pulse_0_j35 v x4 x90 → (x4 = 0 ∨ x4 = 1) → mI b v → va_P D vcls (fw_w mCL cA mkd ad v) H → va_S (fw_A mCL ad) s.heap H locs → lv_has ls 5 [(0, .ref (ad 0 0)), (1, .int (0 : Int32)), (2, .int (4 : Int32)), (3, .int (5 : Int32)), (4, .int x4)] → W p l e (headSpec (Cond.code my_Mo_pulse mb_Mo_pulse 5 none :: vTB) mrm_Mo_pulse).room s m ([.ref (ad 0 0), .int (0 : Int32)] : List Value).toArray below meth c H locs 0 0 (MQ below (fw_Qv D vcls mCL cA mkd ad (mI b) (mf_Mo_pulse_0 v0)) ([.ref (ad 0 0), .int (0 : Int32)] : List Value).toArray s 0 0 (fw_A mCL ad)) (F0 m 206 ls [.int x90, .int (5 : Int32), .ref (ad 9 0)]) := by
    intro v x4 x90 H locs ls hj hc0 hI hP hS hl
    clear J25 J24 J27 J26 J23 J22 J28 J21 J20 J32 J31
    refine fw_iast hx hb hK hD hP hS (mm_9 (by decide)) (mk_9 0) 0 rfl (j := 5) (by decide) (fw_inc (by decide)) md_Mo_pulse_206 (fun v58 H locs ev58 hP hS => ?_)
    have hI : mI b v58 := by rw [ev58]; exact mI_up hI trivial trivial
    refine lv_iload_n hx hb md_Mo_pulse_207 rfl (lv_at hl 2 rfl) ?_
    refine lv_iload hx hb md_Mo_pulse_208 (lv_at hl 4 rfl) ?_
    refine lv_if_eq (tgt := 221) hx hb md_Mo_pulse_210 (by decide) (fun c_59 => ?_) (fun c_59 => ?_)
    · refine lv_iconst (v := (0 : Int32)) hx hb md_Mo_pulse_221 (by decide) ?_
      exact J33 v58  _ _ _ (by rw [hj]; subst ev58; simp only [mf_Mo_pulse_0_j35, if_pos c_59])   hI hP hS (lv_sub hl [0, 1, 3] rfl)
    · refine lv_iconst (v := (1 : Int32)) hx hb md_Mo_pulse_213 (by decide) ?_
      refine lv_iload_n hx hb md_Mo_pulse_214 rfl (lv_at hl 3 rfl) ?_
      refine lv_iconst (v := (2 : Int32)) hx hb md_Mo_pulse_215 (by decide) ?_
      refine lv_idiv hx hb md_Mo_pulse_216 (by decide) ?_
      refine fw_top (y := (2 : Int32)) (by decide) ?_
      refine lv_ishl hx hb md_Mo_pulse_217 ?_
      refine fw_top (y := (4 : Int32)) (by decide) ?_
      refine lv_goto (tgt := 222) hx hb md_Mo_pulse_218 (by decide) ?_
      exact J34 v58  _ _ _ (by rw [hj]; subst ev58; simp only [mf_Mo_pulse_0_j35, if_neg c_59])   hI hP hS (lv_sub hl [0, 1, 3] rfl)
  have J30 : ∀ (v : fw_V)  (H : Heap) (locs : List Loc) (ls : Array Slot), mf_Mo_pulse_0 v0 = mf_Mo_pulse_0_j30 v → mI b v → va_P D vcls (fw_w mCL cA mkd ad v) H → va_S (fw_A mCL ad) s.heap H locs → lv_has ls 5 [(0, .ref (ad 0 0)), (1, .int (0 : Int32)), (2, .int (4 : Int32)), (3, .int (5 : Int32))] → W p l e (headSpec (Cond.code my_Mo_pulse mb_Mo_pulse 5 none :: vTB) mrm_Mo_pulse).room s m ([.ref (ad 0 0), .int (0 : Int32)] : List Value).toArray below meth c H locs 0 0 (MQ below (fw_Qv D vcls mCL cA mkd ad (mI b) (mf_Mo_pulse_0 v0)) ([.ref (ad 0 0), .int (0 : Int32)] : List Value).toArray s 0 0 (fw_A mCL ad)) (F0 m 148 ls []) := by
    intro v  H locs ls hj  hI hP hS hl
    clear J25 J24 J27 J26 J23 J22 J28 J21 J20 J33 J34 J32
    refine lv_iload_n hx hb md_Mo_pulse_148 rfl (lv_at hl 3 rfl) ?_
    refine lv_bipush (v := (6 : Int32)) hx hb md_Mo_pulse_149 (by decide) ?_
    refine lv_icmp_ge (tgt := 230) hx hb md_Mo_pulse_151 (by decide) (fun c_50 => absurd c_50 (by decide)) (fun _ => ?_)
    refine lv_aload_n hx hb md_Mo_pulse_154 rfl (lv_at hl 0 rfl) ?_
    refine lv_iload_n hx hb md_Mo_pulse_155 rfl (lv_at hl 1 rfl) ?_
    refine lv_iload_n hx hb md_Mo_pulse_156 rfl (lv_at hl 3 rfl) ?_
    refine lv_iconst (v := (2 : Int32)) hx hb md_Mo_pulse_157 (by decide) ?_
    refine lv_idiv hx hb md_Mo_pulse_158 (by decide) ?_
    refine fw_top (y := (2 : Int32)) (by decide) ?_
    refine fw_cb (va_runV (As := [.int (0 : Int32), .int (2 : Int32)]) (rest := []) ⟨hx, hb, hml, hown, hts⟩ (mc_Mo_isGood_0 l hD v hI (2 : Int32) (fw_inc (by decide))) (mw_Mo_isGood hts L_Mo_250 ⟨Nat.le_of_ble_eq_true rfl, Nat.le_of_ble_eq_true rfl⟩) (fw_preV hN hK hP (mm_0 (by decide)) (mk_0 0) rfl) rfl rfl hl.1 rfl (lv_room (Nat.le_of_ble_eq_true rfl)) md_Mo_pulse_159 ⟨Nat.le_of_ble_eq_true rfl, Nat.le_of_ble_eq_true rfl⟩) hS (fun r51 H locs zr51 er51 hP hS => ?_)
    refine lv_istore (lv' := [(4, .int r51), (0, .ref (ad 0 0)), (1, .int (0 : Int32)), (2, .int (4 : Int32)), (3, .int (5 : Int32))]) hx hb md_Mo_pulse_162 hl (by decide) rfl (fun ls hl => ?_)
    refine lv_aload_n hx hb md_Mo_pulse_164 rfl (lv_at hl 1 rfl) ?_
    refine fw_getr hx hb hts i_Mo hown hK hP (mm_0 (by decide)) (mk_0 0) rfl 8 (by decide) (hts _ L_Mo_35) (fun _ h9 => h9) rfl md_Mo_pulse_165 ?_
    refine lv_iload_n hx hb md_Mo_pulse_168 rfl (lv_at hl 4 rfl) ?_
    refine lv_iload hx hb md_Mo_pulse_169 (lv_at hl 0 rfl) ?_
    refine lv_if_eq (tgt := 205) hx hb md_Mo_pulse_171 (by decide) (fun c_52 => ?_) (fun c_52 => ?_)
    · exact J31 v (r51) _ _ _ (by rw [hj]; subst er51; simp only [mf_Mo_pulse_0_j30, if_pos c_52]) zr51  hI hP hS (lv_sub hl [1, 2, 3, 4, 0] rfl)
    · have h_55 : vp_in (v 43 0 2) 8 := mp_isGood_0_2 er51 c_52 (hI.1 43 0 2)
      refine lv_iload_n hx hb md_Mo_pulse_174 rfl (lv_at hl 4 rfl) ?_
      refine lv_iconst (v := (2 : Int32)) hx hb md_Mo_pulse_175 (by decide) ?_
      refine lv_irem hx hb md_Mo_pulse_176 (by decide) ?_
      refine fw_top (y := (1 : Int32)) (by decide) ?_
      refine lv_aload_n hx hb md_Mo_pulse_177 rfl (lv_at hl 1 rfl) ?_
      refine lv_iconst (v := (3 : Int32)) hx hb md_Mo_pulse_178 (by decide) ?_
      refine lv_iload_n hx hb md_Mo_pulse_179 rfl (lv_at hl 2 rfl) ?_
      refine lv_imul hx hb md_Mo_pulse_180 ?_
      refine fw_top (y := (0 : Int32)) (by decide) ?_
      refine lv_iload_n hx hb md_Mo_pulse_181 rfl (lv_at hl 4 rfl) ?_
      refine lv_iconst (v := (2 : Int32)) hx hb md_Mo_pulse_182 (by decide) ?_
      refine lv_idiv hx hb md_Mo_pulse_183 (by decide) ?_
      refine fw_top (y := (2 : Int32)) (by decide) ?_
      refine lv_iadd hx hb md_Mo_pulse_184 ?_
      refine fw_top (y := (2 : Int32)) (by decide) ?_
      refine fw_co (va_runV (As := [.int (2 : Int32)]) (rest := [.int (1 : Int32), .int (5 : Int32), .ref (ad 9 0)]) ⟨hx, hb, hml, hown, hts⟩ (mc_Mo_insAt l hD v hI (2 : Int32) (fw_inc (by decide))) (mw_Mo_insAt hts L_Mo_263 ⟨Nat.le_of_ble_eq_true rfl, Nat.le_of_ble_eq_true rfl⟩) (fw_preV hN hK hP (mm_0 (by decide)) (mk_0 0) rfl) rfl rfl hl.1 rfl (lv_room (Nat.le_of_ble_eq_true rfl)) md_Mo_pulse_185 ⟨Nat.le_of_ble_eq_true rfl, Nat.le_of_ble_eq_true rfl⟩) hS (fun r56 H locs er56 hP hS => ?_)
      refine lv_icmp_ge (tgt := 205) hx hb md_Mo_pulse_188 (by decide) (fun c_57 => ?_) (fun c_57 => ?_)
      · exact J31 v (r51) _ _ _ (by rw [hj]; subst er51 er56; simp only [mf_Mo_pulse_0_j30, if_neg c_52, if_pos c_57]) zr51  hI hP hS (lv_sub hl [1, 2, 3, 4, 0] rfl)
      · refine lv_aload_n hx hb md_Mo_pulse_191 rfl (lv_at hl 1 rfl) ?_
        refine fw_getr hx hb hts i_Mo hown hK hP (mm_0 (by decide)) (mk_0 0) rfl 44 (by decide) (hts _ L_Mo_140) (fun _ h9 => h9) rfl md_Mo_pulse_192 ?_
        refine lv_bipush (v := (6 : Int32)) hx hb md_Mo_pulse_195 (by decide) ?_
        refine lv_iload_n hx hb md_Mo_pulse_197 rfl (lv_at hl 2 rfl) ?_
        refine lv_imul hx hb md_Mo_pulse_198 ?_
        refine fw_top (y := (0 : Int32)) (by decide) ?_
        refine lv_iload_n hx hb md_Mo_pulse_199 rfl (lv_at hl 4 rfl) ?_
        refine lv_iadd hx hb md_Mo_pulse_200 ?_
        refine fw_top (y := (5 : Int32)) (by decide) ?_
        refine fw_iald hx hb hK hP (mm_45 (by decide)) (mk_45 0) 0 rfl (j := 5) (by decide) (fw_inc (by decide)) md_Mo_pulse_201 ?_
        refine lv_goto (tgt := 206) hx hb md_Mo_pulse_202 (by decide) ?_
        exact J35 v (r51) ((v 45 0 5)) _ _ _ (by rw [hj]; subst er51 er56; simp only [mf_Mo_pulse_0_j30, if_neg c_52, if_neg c_57]) zr51  hI hP hS (lv_sub hl [1, 2, 3, 4, 0] rfl)
  have J29 : ∀ (v : fw_V)  (H : Heap) (locs : List Loc) (ls : Array Slot), mf_Mo_pulse_0 v0 = mf_Mo_pulse_0_j29 v → mI b v → va_P D vcls (fw_w mCL cA mkd ad v) H → va_S (fw_A mCL ad) s.heap H locs → lv_has ls 5 [(0, .ref (ad 0 0)), (1, .int (0 : Int32)), (3, .int (4 : Int32))] → W p l e (headSpec (Cond.code my_Mo_pulse mb_Mo_pulse 5 none :: vTB) mrm_Mo_pulse).room s m ([.ref (ad 0 0), .int (0 : Int32)] : List Value).toArray below meth c H locs 0 0 (MQ below (fw_Qv D vcls mCL cA mkd ad (mI b) (mf_Mo_pulse_0 v0)) ([.ref (ad 0 0), .int (0 : Int32)] : List Value).toArray s 0 0 (fw_A mCL ad)) (F0 m 222 ls [.int (4 : Int32), .int (0 : Int32)]) := by
    intro v  H locs ls hj  hI hP hS hl
    clear J25 J24 J27 J26 J23 J22 J28 J21 J20 J33 J34 J32 J31 J35
    refine lv_ior hx hb md_Mo_pulse_222 ?_
    refine fw_top (y := (4 : Int32)) (by decide) ?_
    refine lv_istore_n (lv' := [(2, .int (4 : Int32)), (0, .ref (ad 0 0)), (1, .int (0 : Int32)), (3, .int (4 : Int32))]) hx hb md_Mo_pulse_223 rfl hl (by decide) rfl (fun ls hl => ?_)
    refine lv_iinc (v := (5 : Int32)) (lv' := [(3, .int (5 : Int32)), (2, .int (4 : Int32)), (0, .ref (ad 0 0)), (1, .int (0 : Int32))]) hx hb md_Mo_pulse_224 hl (k := 3) rfl (by decide) (by decide) rfl (fun ls hl => ?_)
    refine lv_goto (tgt := 148) hx hb md_Mo_pulse_227 (by decide) ?_
    exact J30 v  _ _ _ (by rw [hj]; simp only [mf_Mo_pulse_0_j29])   hI hP hS (lv_sub hl [2, 3, 1, 0] rfl)
  have J19 : ∀ (v : fw_V) (x4 : Int32) (H : Heap) (locs : List Loc) (ls : Array Slot), mf_Mo_pulse_0 v0 = mf_Mo_pulse_0_j19 v x4 → (x4 = 0 ∨ x4 = 1) → mI b v → va_P D vcls (fw_w mCL cA mkd ad v) H → va_S (fw_A mCL ad) s.heap H locs → lv_has ls 5 [(0, .ref (ad 0 0)), (1, .int (0 : Int32)), (2, .int (0 : Int32)), (3, .int (4 : Int32)), (4, .int x4)] → W p l e (headSpec (Cond.code my_Mo_pulse mb_Mo_pulse 5 none :: vTB) mrm_Mo_pulse).room s m ([.ref (ad 0 0), .int (0 : Int32)] : List Value).toArray below meth c H locs 0 0 (MQ below (fw_Qv D vcls mCL cA mkd ad (mI b) (mf_Mo_pulse_0 v0)) ([.ref (ad 0 0), .int (0 : Int32)] : List Value).toArray s 0 0 (fw_A mCL ad)) (F0 m 206 ls [.int (0 : Int32), .int (4 : Int32), .ref (ad 9 0)]) := by
    intro v x4 H locs ls hj hc0 hI hP hS hl
    clear J25 J24 J27 J26 J23 J22 J28 J21 J33 J34 J32 J31 J35 J30
    refine fw_iast hx hb hK hD hP hS (mm_9 (by decide)) (mk_9 0) 0 rfl (j := 4) (by decide) (fw_inc (by decide)) md_Mo_pulse_206 (fun v30 H locs ev30 hP hS => ?_)
    have hI : mI b v30 := by rw [ev30]; exact mI_up hI trivial trivial
    refine lv_iload_n hx hb md_Mo_pulse_207 rfl (lv_at hl 2 rfl) ?_
    refine lv_iload hx hb md_Mo_pulse_208 (lv_at hl 4 rfl) ?_
    refine lv_if_eq (tgt := 221) hx hb md_Mo_pulse_210 (by decide) (fun c_31 => ?_) (fun c_31 => ?_)
    · refine lv_iconst (v := (0 : Int32)) hx hb md_Mo_pulse_221 (by decide) ?_
      exact J20 v30  _ _ _ (by rw [hj]; subst ev30; simp only [mf_Mo_pulse_0_j19, if_pos c_31])   hI hP hS (lv_sub hl [0, 1, 3] rfl)
    · refine lv_iconst (v := (1 : Int32)) hx hb md_Mo_pulse_213 (by decide) ?_
      refine lv_iload_n hx hb md_Mo_pulse_214 rfl (lv_at hl 3 rfl) ?_
      refine lv_iconst (v := (2 : Int32)) hx hb md_Mo_pulse_215 (by decide) ?_
      refine lv_idiv hx hb md_Mo_pulse_216 (by decide) ?_
      refine fw_top (y := (2 : Int32)) (by decide) ?_
      refine lv_ishl hx hb md_Mo_pulse_217 ?_
      refine fw_top (y := (4 : Int32)) (by decide) ?_
      refine lv_goto (tgt := 222) hx hb md_Mo_pulse_218 (by decide) ?_
      exact J29 v30  _ _ _ (by rw [hj]; subst ev30; simp only [mf_Mo_pulse_0_j19, if_neg c_31])   hI hP hS (lv_sub hl [0, 1, 3] rfl)
  have J18 : ∀ (v : fw_V) (x4 : Int32) (H : Heap) (locs : List Loc) (ls : Array Slot), mf_Mo_pulse_0 v0 = mf_Mo_pulse_0_j18 v x4 → (x4 = 0 ∨ x4 = 1) → mI b v → va_P D vcls (fw_w mCL cA mkd ad v) H → va_S (fw_A mCL ad) s.heap H locs → lv_has ls 5 [(0, .ref (ad 0 0)), (1, .int (0 : Int32)), (2, .int (0 : Int32)), (3, .int (4 : Int32)), (4, .int x4)] → W p l e (headSpec (Cond.code my_Mo_pulse mb_Mo_pulse 5 none :: vTB) mrm_Mo_pulse).room s m ([.ref (ad 0 0), .int (0 : Int32)] : List Value).toArray below meth c H locs 0 0 (MQ below (fw_Qv D vcls mCL cA mkd ad (mI b) (mf_Mo_pulse_0 v0)) ([.ref (ad 0 0), .int (0 : Int32)] : List Value).toArray s 0 0 (fw_A mCL ad)) (F0 m 205 ls [.int (4 : Int32), .ref (ad 9 0)]) := by
    intro v x4 H locs ls hj hc0 hI hP hS hl
    clear J25 J24 J27 J26 J23 J22 J28 J21 J20 J33 J34 J32 J31 J35 J30 J29
    refine lv_iconst (v := (0 : Int32)) hx hb md_Mo_pulse_205 (by decide) ?_
    exact J19 v (x4) _ _ _ (by rw [hj]; simp only [mf_Mo_pulse_0_j18]) hc0  hI hP hS (lv_sub hl [0, 1, 2, 3, 4] rfl)
  have J36 : ∀ (v : fw_V) (x4 : Int32) (x90 : Int32) (H : Heap) (locs : List Loc) (ls : Array Slot), mf_Mo_pulse_0 v0 = mf_Mo_pulse_0_j36 v x4 x90 → (x4 = 0 ∨ x4 = 1) → mI b v → va_P D vcls (fw_w mCL cA mkd ad v) H → va_S (fw_A mCL ad) s.heap H locs → lv_has ls 5 [(0, .ref (ad 0 0)), (1, .int (0 : Int32)), (2, .int (0 : Int32)), (3, .int (4 : Int32)), (4, .int x4)] → W p l e (headSpec (Cond.code my_Mo_pulse mb_Mo_pulse 5 none :: vTB) mrm_Mo_pulse).room s m ([.ref (ad 0 0), .int (0 : Int32)] : List Value).toArray below meth c H locs 0 0 (MQ below (fw_Qv D vcls mCL cA mkd ad (mI b) (mf_Mo_pulse_0 v0)) ([.ref (ad 0 0), .int (0 : Int32)] : List Value).toArray s 0 0 (fw_A mCL ad)) (F0 m 206 ls [.int x90, .int (4 : Int32), .ref (ad 9 0)]) := by
    intro v x4 x90 H locs ls hj hc0 hI hP hS hl
    clear J25 J24 J27 J26 J23 J22 J28 J21 J33 J34 J32 J31 J35 J30 J19 J18
    refine fw_iast hx hb hK hD hP hS (mm_9 (by decide)) (mk_9 0) 0 rfl (j := 4) (by decide) (fw_inc (by decide)) md_Mo_pulse_206 (fun v63 H locs ev63 hP hS => ?_)
    have hI : mI b v63 := by rw [ev63]; exact mI_up hI trivial trivial
    refine lv_iload_n hx hb md_Mo_pulse_207 rfl (lv_at hl 2 rfl) ?_
    refine lv_iload hx hb md_Mo_pulse_208 (lv_at hl 4 rfl) ?_
    refine lv_if_eq (tgt := 221) hx hb md_Mo_pulse_210 (by decide) (fun c_64 => ?_) (fun c_64 => ?_)
    · refine lv_iconst (v := (0 : Int32)) hx hb md_Mo_pulse_221 (by decide) ?_
      exact J20 v63  _ _ _ (by rw [hj]; subst ev63; simp only [mf_Mo_pulse_0_j36, if_pos c_64])   hI hP hS (lv_sub hl [0, 1, 3] rfl)
    · refine lv_iconst (v := (1 : Int32)) hx hb md_Mo_pulse_213 (by decide) ?_
      refine lv_iload_n hx hb md_Mo_pulse_214 rfl (lv_at hl 3 rfl) ?_
      refine lv_iconst (v := (2 : Int32)) hx hb md_Mo_pulse_215 (by decide) ?_
      refine lv_idiv hx hb md_Mo_pulse_216 (by decide) ?_
      refine fw_top (y := (2 : Int32)) (by decide) ?_
      refine lv_ishl hx hb md_Mo_pulse_217 ?_
      refine fw_top (y := (4 : Int32)) (by decide) ?_
      refine lv_goto (tgt := 222) hx hb md_Mo_pulse_218 (by decide) ?_
      exact J29 v63  _ _ _ (by rw [hj]; subst ev63; simp only [mf_Mo_pulse_0_j36, if_neg c_64])   hI hP hS (lv_sub hl [0, 1, 3] rfl)
  have J17 : ∀ (v : fw_V)  (H : Heap) (locs : List Loc) (ls : Array Slot), mf_Mo_pulse_0 v0 = mf_Mo_pulse_0_j17 v → mI b v → va_P D vcls (fw_w mCL cA mkd ad v) H → va_S (fw_A mCL ad) s.heap H locs → lv_has ls 5 [(0, .ref (ad 0 0)), (1, .int (0 : Int32)), (2, .int (0 : Int32)), (3, .int (4 : Int32))] → W p l e (headSpec (Cond.code my_Mo_pulse mb_Mo_pulse 5 none :: vTB) mrm_Mo_pulse).room s m ([.ref (ad 0 0), .int (0 : Int32)] : List Value).toArray below meth c H locs 0 0 (MQ below (fw_Qv D vcls mCL cA mkd ad (mI b) (mf_Mo_pulse_0 v0)) ([.ref (ad 0 0), .int (0 : Int32)] : List Value).toArray s 0 0 (fw_A mCL ad)) (F0 m 148 ls []) := by
    intro v  H locs ls hj  hI hP hS hl
    clear J25 J24 J27 J26 J23 J22 J28 J21 J20 J33 J34 J32 J31 J35 J30 J29 J19
    refine lv_iload_n hx hb md_Mo_pulse_148 rfl (lv_at hl 3 rfl) ?_
    refine lv_bipush (v := (6 : Int32)) hx hb md_Mo_pulse_149 (by decide) ?_
    refine lv_icmp_ge (tgt := 230) hx hb md_Mo_pulse_151 (by decide) (fun c_27 => absurd c_27 (by decide)) (fun _ => ?_)
    refine lv_aload_n hx hb md_Mo_pulse_154 rfl (lv_at hl 0 rfl) ?_
    refine lv_iload_n hx hb md_Mo_pulse_155 rfl (lv_at hl 1 rfl) ?_
    refine lv_iload_n hx hb md_Mo_pulse_156 rfl (lv_at hl 3 rfl) ?_
    refine lv_iconst (v := (2 : Int32)) hx hb md_Mo_pulse_157 (by decide) ?_
    refine lv_idiv hx hb md_Mo_pulse_158 (by decide) ?_
    refine fw_top (y := (2 : Int32)) (by decide) ?_
    refine fw_cb (va_runV (As := [.int (0 : Int32), .int (2 : Int32)]) (rest := []) ⟨hx, hb, hml, hown, hts⟩ (mc_Mo_isGood_0 l hD v hI (2 : Int32) (fw_inc (by decide))) (mw_Mo_isGood hts L_Mo_250 ⟨Nat.le_of_ble_eq_true rfl, Nat.le_of_ble_eq_true rfl⟩) (fw_preV hN hK hP (mm_0 (by decide)) (mk_0 0) rfl) rfl rfl hl.1 rfl (lv_room (Nat.le_of_ble_eq_true rfl)) md_Mo_pulse_159 ⟨Nat.le_of_ble_eq_true rfl, Nat.le_of_ble_eq_true rfl⟩) hS (fun r28 H locs zr28 er28 hP hS => ?_)
    refine lv_istore (lv' := [(4, .int r28), (0, .ref (ad 0 0)), (1, .int (0 : Int32)), (2, .int (0 : Int32)), (3, .int (4 : Int32))]) hx hb md_Mo_pulse_162 hl (by decide) rfl (fun ls hl => ?_)
    refine lv_aload_n hx hb md_Mo_pulse_164 rfl (lv_at hl 1 rfl) ?_
    refine fw_getr hx hb hts i_Mo hown hK hP (mm_0 (by decide)) (mk_0 0) rfl 8 (by decide) (hts _ L_Mo_35) (fun _ h9 => h9) rfl md_Mo_pulse_165 ?_
    refine lv_iload_n hx hb md_Mo_pulse_168 rfl (lv_at hl 4 rfl) ?_
    refine lv_iload hx hb md_Mo_pulse_169 (lv_at hl 0 rfl) ?_
    refine lv_if_eq (tgt := 205) hx hb md_Mo_pulse_171 (by decide) (fun c_29 => ?_) (fun c_29 => ?_)
    · exact J18 v (r28) _ _ _ (by rw [hj]; subst er28; simp only [mf_Mo_pulse_0_j17, if_pos c_29]) zr28  hI hP hS (lv_sub hl [1, 2, 3, 4, 0] rfl)
    · have h_60 : vp_in (v 43 0 2) 8 := mp_isGood_0_2 er28 c_29 (hI.1 43 0 2)
      refine lv_iload_n hx hb md_Mo_pulse_174 rfl (lv_at hl 4 rfl) ?_
      refine lv_iconst (v := (2 : Int32)) hx hb md_Mo_pulse_175 (by decide) ?_
      refine lv_irem hx hb md_Mo_pulse_176 (by decide) ?_
      refine fw_top (y := (0 : Int32)) (by decide) ?_
      refine lv_aload_n hx hb md_Mo_pulse_177 rfl (lv_at hl 1 rfl) ?_
      refine lv_iconst (v := (3 : Int32)) hx hb md_Mo_pulse_178 (by decide) ?_
      refine lv_iload_n hx hb md_Mo_pulse_179 rfl (lv_at hl 2 rfl) ?_
      refine lv_imul hx hb md_Mo_pulse_180 ?_
      refine fw_top (y := (0 : Int32)) (by decide) ?_
      refine lv_iload_n hx hb md_Mo_pulse_181 rfl (lv_at hl 4 rfl) ?_
      refine lv_iconst (v := (2 : Int32)) hx hb md_Mo_pulse_182 (by decide) ?_
      refine lv_idiv hx hb md_Mo_pulse_183 (by decide) ?_
      refine fw_top (y := (2 : Int32)) (by decide) ?_
      refine lv_iadd hx hb md_Mo_pulse_184 ?_
      refine fw_top (y := (2 : Int32)) (by decide) ?_
      refine fw_co (va_runV (As := [.int (2 : Int32)]) (rest := [.int (0 : Int32), .int (4 : Int32), .ref (ad 9 0)]) ⟨hx, hb, hml, hown, hts⟩ (mc_Mo_insAt l hD v hI (2 : Int32) (fw_inc (by decide))) (mw_Mo_insAt hts L_Mo_263 ⟨Nat.le_of_ble_eq_true rfl, Nat.le_of_ble_eq_true rfl⟩) (fw_preV hN hK hP (mm_0 (by decide)) (mk_0 0) rfl) rfl rfl hl.1 rfl (lv_room (Nat.le_of_ble_eq_true rfl)) md_Mo_pulse_185 ⟨Nat.le_of_ble_eq_true rfl, Nat.le_of_ble_eq_true rfl⟩) hS (fun r61 H locs er61 hP hS => ?_)
      refine lv_icmp_ge (tgt := 205) hx hb md_Mo_pulse_188 (by decide) (fun c_62 => ?_) (fun c_62 => ?_)
      · exact J18 v (r28) _ _ _ (by rw [hj]; subst er28 er61; simp only [mf_Mo_pulse_0_j17, if_neg c_29, if_pos c_62]) zr28  hI hP hS (lv_sub hl [1, 2, 3, 4, 0] rfl)
      · refine lv_aload_n hx hb md_Mo_pulse_191 rfl (lv_at hl 1 rfl) ?_
        refine fw_getr hx hb hts i_Mo hown hK hP (mm_0 (by decide)) (mk_0 0) rfl 44 (by decide) (hts _ L_Mo_140) (fun _ h9 => h9) rfl md_Mo_pulse_192 ?_
        refine lv_bipush (v := (6 : Int32)) hx hb md_Mo_pulse_195 (by decide) ?_
        refine lv_iload_n hx hb md_Mo_pulse_197 rfl (lv_at hl 2 rfl) ?_
        refine lv_imul hx hb md_Mo_pulse_198 ?_
        refine fw_top (y := (0 : Int32)) (by decide) ?_
        refine lv_iload_n hx hb md_Mo_pulse_199 rfl (lv_at hl 4 rfl) ?_
        refine lv_iadd hx hb md_Mo_pulse_200 ?_
        refine fw_top (y := (4 : Int32)) (by decide) ?_
        refine fw_iald hx hb hK hP (mm_45 (by decide)) (mk_45 0) 0 rfl (j := 4) (by decide) (fw_inc (by decide)) md_Mo_pulse_201 ?_
        refine lv_goto (tgt := 206) hx hb md_Mo_pulse_202 (by decide) ?_
        exact J36 v (r28) ((v 45 0 4)) _ _ _ (by rw [hj]; subst er28 er61; simp only [mf_Mo_pulse_0_j17, if_neg c_29, if_neg c_62]) zr28  hI hP hS (lv_sub hl [1, 2, 3, 4, 0] rfl)
  have J16 : ∀ (v : fw_V)  (H : Heap) (locs : List Loc) (ls : Array Slot), mf_Mo_pulse_0 v0 = mf_Mo_pulse_0_j16 v → mI b v → va_P D vcls (fw_w mCL cA mkd ad v) H → va_S (fw_A mCL ad) s.heap H locs → lv_has ls 5 [(0, .ref (ad 0 0)), (1, .int (0 : Int32)), (3, .int (3 : Int32))] → W p l e (headSpec (Cond.code my_Mo_pulse mb_Mo_pulse 5 none :: vTB) mrm_Mo_pulse).room s m ([.ref (ad 0 0), .int (0 : Int32)] : List Value).toArray below meth c H locs 0 0 (MQ below (fw_Qv D vcls mCL cA mkd ad (mI b) (mf_Mo_pulse_0 v0)) ([.ref (ad 0 0), .int (0 : Int32)] : List Value).toArray s 0 0 (fw_A mCL ad)) (F0 m 222 ls [.int (0 : Int32), .int (0 : Int32)]) := by
    intro v  H locs ls hj  hI hP hS hl
    clear J25 J24 J27 J26 J23 J22 J28 J21 J20 J33 J34 J32 J31 J35 J30 J29 J19 J18 J36
    refine lv_ior hx hb md_Mo_pulse_222 ?_
    refine fw_top (y := (0 : Int32)) (by decide) ?_
    refine lv_istore_n (lv' := [(2, .int (0 : Int32)), (0, .ref (ad 0 0)), (1, .int (0 : Int32)), (3, .int (3 : Int32))]) hx hb md_Mo_pulse_223 rfl hl (by decide) rfl (fun ls hl => ?_)
    refine lv_iinc (v := (4 : Int32)) (lv' := [(3, .int (4 : Int32)), (2, .int (0 : Int32)), (0, .ref (ad 0 0)), (1, .int (0 : Int32))]) hx hb md_Mo_pulse_224 hl (k := 3) rfl (by decide) (by decide) rfl (fun ls hl => ?_)
    refine lv_goto (tgt := 148) hx hb md_Mo_pulse_227 (by decide) ?_
    exact J17 v  _ _ _ (by rw [hj]; simp only [mf_Mo_pulse_0_j16])   hI hP hS (lv_sub hl [2, 3, 1, 0] rfl)
  have J46 : ∀ (v : fw_V)  (H : Heap) (locs : List Loc) (ls : Array Slot), mf_Mo_pulse_0 v0 = mf_Mo_pulse_0_j46 v → mI b v → va_P D vcls (fw_w mCL cA mkd ad v) H → va_S (fw_A mCL ad) s.heap H locs → lv_has ls 5 [(0, .ref (ad 0 0)), (1, .int (0 : Int32)), (2, .int (2 : Int32)), (3, .int (6 : Int32))] → W p l e (headSpec (Cond.code my_Mo_pulse mb_Mo_pulse 5 none :: vTB) mrm_Mo_pulse).room s m ([.ref (ad 0 0), .int (0 : Int32)] : List Value).toArray below meth c H locs 0 0 (MQ below (fw_Qv D vcls mCL cA mkd ad (mI b) (mf_Mo_pulse_0 v0)) ([.ref (ad 0 0), .int (0 : Int32)] : List Value).toArray s 0 0 (fw_A mCL ad)) (F0 m 148 ls []) := by
    intro v  H locs ls hj  hI hP hS hl
    clear J25 J24 J27 J26 J23 J22 J28 J21 J20 J33 J34 J32 J31 J35 J30 J29 J19 J18 J36 J17 J16
    refine lv_iload_n hx hb md_Mo_pulse_148 rfl (lv_at hl 3 rfl) ?_
    refine lv_bipush (v := (6 : Int32)) hx hb md_Mo_pulse_149 (by decide) ?_
    refine lv_icmp_ge (tgt := 230) hx hb md_Mo_pulse_151 (by decide) (fun _ => ?_) (fun c_75 => absurd (by decide) c_75)
    refine lv_aload_n hx hb md_Mo_pulse_230 rfl (lv_at hl 0 rfl) ?_
    refine fw_getr hx hb hts i_Mo hown hK hP (mm_0 (by decide)) (mk_0 0) rfl 8 (by decide) (hts _ L_Mo_35) (fun _ h9 => h9) rfl md_Mo_pulse_231 ?_
    refine lv_bipush (v := (6 : Int32)) hx hb md_Mo_pulse_234 (by decide) ?_
    refine lv_iload_n hx hb md_Mo_pulse_236 rfl (lv_at hl 2 rfl) ?_
    refine fw_iast hx hb hK hD hP hS (mm_9 (by decide)) (mk_9 0) 0 rfl (j := 6) (by decide) (fw_inc (by decide)) md_Mo_pulse_237 (fun v76 H locs ev76 hP hS => ?_)
    have hI : mI b v76 := by rw [ev76]; exact mI_up hI trivial trivial
    refine lv_aload_n hx hb md_Mo_pulse_238 rfl (lv_at hl 0 rfl) ?_
    refine lv_iload_n hx hb md_Mo_pulse_239 rfl (lv_at hl 1 rfl) ?_
    refine lv_bipush (v := (13 : Int32)) hx hb md_Mo_pulse_240 (by decide) ?_
    refine lv_aload_n hx hb md_Mo_pulse_242 rfl (lv_at hl 0 rfl) ?_
    refine fw_getr hx hb hts i_Mo hown hK hP (mm_0 (by decide)) (mk_0 0) rfl 33 (by decide) (hts _ L_Mo_107) (fun _ h9 => h9) rfl md_Mo_pulse_243 ?_
    refine lv_iload_n hx hb md_Mo_pulse_246 rfl (lv_at hl 1 rfl) ?_
    refine fw_iald hx hb hK hP (mm_34 (by decide)) (mk_34 0) 0 rfl (j := 0) (by decide) (fw_inc (by decide)) md_Mo_pulse_247 ?_
    refine fw_cv (va_runV (As := [.int (0 : Int32), .int (13 : Int32), .int (v76 34 0 0)]) (rest := []) ⟨hx, hb, hml, hown, hts⟩ (mc_Mo_reply_0 l hD v76 hI (13 : Int32) (v76 34 0 0) (fun q => absurd q (by decide)) (by decide) (by decide)) (mw_Mo_reply hts L_Mo_238 ⟨Nat.le_of_ble_eq_true rfl, Nat.le_of_ble_eq_true rfl⟩) (fw_preV hN hK hP (mm_0 (by decide)) (mk_0 0) rfl) rfl rfl hl.1 rfl (lv_room (Nat.le_of_ble_eq_true rfl)) md_Mo_pulse_248 ⟨Nat.le_of_ble_eq_true rfl, Nat.le_of_ble_eq_true rfl⟩) hS (fun v77 H locs ev77 hI hP hS => ?_)
    refine lv_aload_n hx hb md_Mo_pulse_251 rfl (lv_at hl 0 rfl) ?_
    refine fw_getr hx hb hts i_Mo hown hK hP (mm_0 (by decide)) (mk_0 0) rfl 33 (by decide) (hts _ L_Mo_107) (fun _ h9 => h9) rfl md_Mo_pulse_252 ?_
    refine lv_iload_n hx hb md_Mo_pulse_255 rfl (lv_at hl 1 rfl) ?_
    refine lv_aload_n hx hb md_Mo_pulse_256 rfl (lv_at hl 0 rfl) ?_
    refine fw_getr hx hb hts i_Mo hown hK hP (mm_0 (by decide)) (mk_0 0) rfl 33 (by decide) (hts _ L_Mo_107) (fun _ h9 => h9) rfl md_Mo_pulse_257 ?_
    refine lv_iload_n hx hb md_Mo_pulse_260 rfl (lv_at hl 1 rfl) ?_
    refine fw_iald hx hb hK hP (mm_34 (by decide)) (mk_34 0) 0 rfl (j := 0) (by decide) (fw_inc (by decide)) md_Mo_pulse_261 ?_
    refine lv_iconst (v := (1 : Int32)) hx hb md_Mo_pulse_262 (by decide) ?_
    refine lv_iadd hx hb md_Mo_pulse_263 ?_
    refine lv_sipush (v := (255 : Int32)) hx hb md_Mo_pulse_264 (by decide) ?_
    refine lv_iand hx hb md_Mo_pulse_267 ?_
    refine fw_iast hx hb hK hD hP hS (mm_34 (by decide)) (mk_34 0) 0 rfl (j := 0) (by decide) (fw_inc (by decide)) md_Mo_pulse_268 (fun v78 H locs ev78 hP hS => ?_)
    have hI : mI b v78 := by rw [ev78]; exact mI_up hI trivial trivial
    exact fw_vret hx hb hr hlocks hS hP hI md_Mo_pulse_269 (by rw [hj]; subst ev76 ev77 ev78; simp only [mf_Mo_pulse_0_j46])
  have J45 : ∀ (v : fw_V)  (H : Heap) (locs : List Loc) (ls : Array Slot), mf_Mo_pulse_0 v0 = mf_Mo_pulse_0_j45 v → mI b v → va_P D vcls (fw_w mCL cA mkd ad v) H → va_S (fw_A mCL ad) s.heap H locs → lv_has ls 5 [(0, .ref (ad 0 0)), (1, .int (0 : Int32)), (3, .int (5 : Int32))] → W p l e (headSpec (Cond.code my_Mo_pulse mb_Mo_pulse 5 none :: vTB) mrm_Mo_pulse).room s m ([.ref (ad 0 0), .int (0 : Int32)] : List Value).toArray below meth c H locs 0 0 (MQ below (fw_Qv D vcls mCL cA mkd ad (mI b) (mf_Mo_pulse_0 v0)) ([.ref (ad 0 0), .int (0 : Int32)] : List Value).toArray s 0 0 (fw_A mCL ad)) (F0 m 222 ls [.int (0 : Int32), .int (2 : Int32)]) := by
    intro v  H locs ls hj  hI hP hS hl
    clear J25 J24 J27 J26 J23 J22 J28 J21 J20 J33 J34 J32 J31 J35 J30 J29 J19 J18 J36 J17 J16
    refine lv_ior hx hb md_Mo_pulse_222 ?_
    refine fw_top (y := (2 : Int32)) (by decide) ?_
    refine lv_istore_n (lv' := [(2, .int (2 : Int32)), (0, .ref (ad 0 0)), (1, .int (0 : Int32)), (3, .int (5 : Int32))]) hx hb md_Mo_pulse_223 rfl hl (by decide) rfl (fun ls hl => ?_)
    refine lv_iinc (v := (6 : Int32)) (lv' := [(3, .int (6 : Int32)), (2, .int (2 : Int32)), (0, .ref (ad 0 0)), (1, .int (0 : Int32))]) hx hb md_Mo_pulse_224 hl (k := 3) rfl (by decide) (by decide) rfl (fun ls hl => ?_)
    refine lv_goto (tgt := 148) hx hb md_Mo_pulse_227 (by decide) ?_
    exact J46 v  _ _ _ (by rw [hj]; simp only [mf_Mo_pulse_0_j45])   hI hP hS (lv_sub hl [2, 3, 1, 0] rfl)
  have J48 : ∀ (v : fw_V)  (H : Heap) (locs : List Loc) (ls : Array Slot), mf_Mo_pulse_0 v0 = mf_Mo_pulse_0_j48 v → mI b v → va_P D vcls (fw_w mCL cA mkd ad v) H → va_S (fw_A mCL ad) s.heap H locs → lv_has ls 5 [(0, .ref (ad 0 0)), (1, .int (0 : Int32)), (2, .int (6 : Int32)), (3, .int (6 : Int32))] → W p l e (headSpec (Cond.code my_Mo_pulse mb_Mo_pulse 5 none :: vTB) mrm_Mo_pulse).room s m ([.ref (ad 0 0), .int (0 : Int32)] : List Value).toArray below meth c H locs 0 0 (MQ below (fw_Qv D vcls mCL cA mkd ad (mI b) (mf_Mo_pulse_0 v0)) ([.ref (ad 0 0), .int (0 : Int32)] : List Value).toArray s 0 0 (fw_A mCL ad)) (F0 m 148 ls []) := by
    intro v  H locs ls hj  hI hP hS hl
    clear J25 J24 J27 J26 J23 J22 J28 J21 J20 J33 J34 J32 J31 J35 J30 J29 J19 J18 J36 J17 J16 J46 J45
    refine lv_iload_n hx hb md_Mo_pulse_148 rfl (lv_at hl 3 rfl) ?_
    refine lv_bipush (v := (6 : Int32)) hx hb md_Mo_pulse_149 (by decide) ?_
    refine lv_icmp_ge (tgt := 230) hx hb md_Mo_pulse_151 (by decide) (fun _ => ?_) (fun c_79 => absurd (by decide) c_79)
    refine lv_aload_n hx hb md_Mo_pulse_230 rfl (lv_at hl 0 rfl) ?_
    refine fw_getr hx hb hts i_Mo hown hK hP (mm_0 (by decide)) (mk_0 0) rfl 8 (by decide) (hts _ L_Mo_35) (fun _ h9 => h9) rfl md_Mo_pulse_231 ?_
    refine lv_bipush (v := (6 : Int32)) hx hb md_Mo_pulse_234 (by decide) ?_
    refine lv_iload_n hx hb md_Mo_pulse_236 rfl (lv_at hl 2 rfl) ?_
    refine fw_iast hx hb hK hD hP hS (mm_9 (by decide)) (mk_9 0) 0 rfl (j := 6) (by decide) (fw_inc (by decide)) md_Mo_pulse_237 (fun v80 H locs ev80 hP hS => ?_)
    have hI : mI b v80 := by rw [ev80]; exact mI_up hI trivial trivial
    refine lv_aload_n hx hb md_Mo_pulse_238 rfl (lv_at hl 0 rfl) ?_
    refine lv_iload_n hx hb md_Mo_pulse_239 rfl (lv_at hl 1 rfl) ?_
    refine lv_bipush (v := (13 : Int32)) hx hb md_Mo_pulse_240 (by decide) ?_
    refine lv_aload_n hx hb md_Mo_pulse_242 rfl (lv_at hl 0 rfl) ?_
    refine fw_getr hx hb hts i_Mo hown hK hP (mm_0 (by decide)) (mk_0 0) rfl 33 (by decide) (hts _ L_Mo_107) (fun _ h9 => h9) rfl md_Mo_pulse_243 ?_
    refine lv_iload_n hx hb md_Mo_pulse_246 rfl (lv_at hl 1 rfl) ?_
    refine fw_iald hx hb hK hP (mm_34 (by decide)) (mk_34 0) 0 rfl (j := 0) (by decide) (fw_inc (by decide)) md_Mo_pulse_247 ?_
    refine fw_cv (va_runV (As := [.int (0 : Int32), .int (13 : Int32), .int (v80 34 0 0)]) (rest := []) ⟨hx, hb, hml, hown, hts⟩ (mc_Mo_reply_0 l hD v80 hI (13 : Int32) (v80 34 0 0) (fun q => absurd q (by decide)) (by decide) (by decide)) (mw_Mo_reply hts L_Mo_238 ⟨Nat.le_of_ble_eq_true rfl, Nat.le_of_ble_eq_true rfl⟩) (fw_preV hN hK hP (mm_0 (by decide)) (mk_0 0) rfl) rfl rfl hl.1 rfl (lv_room (Nat.le_of_ble_eq_true rfl)) md_Mo_pulse_248 ⟨Nat.le_of_ble_eq_true rfl, Nat.le_of_ble_eq_true rfl⟩) hS (fun v81 H locs ev81 hI hP hS => ?_)
    refine lv_aload_n hx hb md_Mo_pulse_251 rfl (lv_at hl 0 rfl) ?_
    refine fw_getr hx hb hts i_Mo hown hK hP (mm_0 (by decide)) (mk_0 0) rfl 33 (by decide) (hts _ L_Mo_107) (fun _ h9 => h9) rfl md_Mo_pulse_252 ?_
    refine lv_iload_n hx hb md_Mo_pulse_255 rfl (lv_at hl 1 rfl) ?_
    refine lv_aload_n hx hb md_Mo_pulse_256 rfl (lv_at hl 0 rfl) ?_
    refine fw_getr hx hb hts i_Mo hown hK hP (mm_0 (by decide)) (mk_0 0) rfl 33 (by decide) (hts _ L_Mo_107) (fun _ h9 => h9) rfl md_Mo_pulse_257 ?_
    refine lv_iload_n hx hb md_Mo_pulse_260 rfl (lv_at hl 1 rfl) ?_
    refine fw_iald hx hb hK hP (mm_34 (by decide)) (mk_34 0) 0 rfl (j := 0) (by decide) (fw_inc (by decide)) md_Mo_pulse_261 ?_
    refine lv_iconst (v := (1 : Int32)) hx hb md_Mo_pulse_262 (by decide) ?_
    refine lv_iadd hx hb md_Mo_pulse_263 ?_
    refine lv_sipush (v := (255 : Int32)) hx hb md_Mo_pulse_264 (by decide) ?_
    refine lv_iand hx hb md_Mo_pulse_267 ?_
    refine fw_iast hx hb hK hD hP hS (mm_34 (by decide)) (mk_34 0) 0 rfl (j := 0) (by decide) (fw_inc (by decide)) md_Mo_pulse_268 (fun v82 H locs ev82 hP hS => ?_)
    have hI : mI b v82 := by rw [ev82]; exact mI_up hI trivial trivial
    exact fw_vret hx hb hr hlocks hS hP hI md_Mo_pulse_269 (by rw [hj]; subst ev80 ev81 ev82; simp only [mf_Mo_pulse_0_j48])
  have J47 : ∀ (v : fw_V)  (H : Heap) (locs : List Loc) (ls : Array Slot), mf_Mo_pulse_0 v0 = mf_Mo_pulse_0_j47 v → mI b v → va_P D vcls (fw_w mCL cA mkd ad v) H → va_S (fw_A mCL ad) s.heap H locs → lv_has ls 5 [(0, .ref (ad 0 0)), (1, .int (0 : Int32)), (3, .int (5 : Int32))] → W p l e (headSpec (Cond.code my_Mo_pulse mb_Mo_pulse 5 none :: vTB) mrm_Mo_pulse).room s m ([.ref (ad 0 0), .int (0 : Int32)] : List Value).toArray below meth c H locs 0 0 (MQ below (fw_Qv D vcls mCL cA mkd ad (mI b) (mf_Mo_pulse_0 v0)) ([.ref (ad 0 0), .int (0 : Int32)] : List Value).toArray s 0 0 (fw_A mCL ad)) (F0 m 222 ls [.int (4 : Int32), .int (2 : Int32)]) := by
    intro v  H locs ls hj  hI hP hS hl
    clear J25 J24 J27 J26 J23 J22 J28 J21 J20 J33 J34 J32 J31 J35 J30 J29 J19 J18 J36 J17 J16 J46 J45
    refine lv_ior hx hb md_Mo_pulse_222 ?_
    refine fw_top (y := (6 : Int32)) (by decide) ?_
    refine lv_istore_n (lv' := [(2, .int (6 : Int32)), (0, .ref (ad 0 0)), (1, .int (0 : Int32)), (3, .int (5 : Int32))]) hx hb md_Mo_pulse_223 rfl hl (by decide) rfl (fun ls hl => ?_)
    refine lv_iinc (v := (6 : Int32)) (lv' := [(3, .int (6 : Int32)), (2, .int (6 : Int32)), (0, .ref (ad 0 0)), (1, .int (0 : Int32))]) hx hb md_Mo_pulse_224 hl (k := 3) rfl (by decide) (by decide) rfl (fun ls hl => ?_)
    refine lv_goto (tgt := 148) hx hb md_Mo_pulse_227 (by decide) ?_
    exact J48 v  _ _ _ (by rw [hj]; simp only [mf_Mo_pulse_0_j47])   hI hP hS (lv_sub hl [2, 3, 1, 0] rfl)
  have J44 : ∀ (v : fw_V) (x4 : Int32) (H : Heap) (locs : List Loc) (ls : Array Slot), mf_Mo_pulse_0 v0 = mf_Mo_pulse_0_j44 v x4 → (x4 = 0 ∨ x4 = 1) → mI b v → va_P D vcls (fw_w mCL cA mkd ad v) H → va_S (fw_A mCL ad) s.heap H locs → lv_has ls 5 [(0, .ref (ad 0 0)), (1, .int (0 : Int32)), (2, .int (2 : Int32)), (3, .int (5 : Int32)), (4, .int x4)] → W p l e (headSpec (Cond.code my_Mo_pulse mb_Mo_pulse 5 none :: vTB) mrm_Mo_pulse).room s m ([.ref (ad 0 0), .int (0 : Int32)] : List Value).toArray below meth c H locs 0 0 (MQ below (fw_Qv D vcls mCL cA mkd ad (mI b) (mf_Mo_pulse_0 v0)) ([.ref (ad 0 0), .int (0 : Int32)] : List Value).toArray s 0 0 (fw_A mCL ad)) (F0 m 206 ls [.int (0 : Int32), .int (5 : Int32), .ref (ad 9 0)]) := by
    intro v x4 H locs ls hj hc0 hI hP hS hl
    clear J25 J24 J27 J26 J23 J22 J28 J21 J20 J33 J34 J32 J31 J35 J30 J29 J19 J18 J36 J17 J16 J46 J48
    refine fw_iast hx hb hK hD hP hS (mm_9 (by decide)) (mk_9 0) 0 rfl (j := 5) (by decide) (fw_inc (by decide)) md_Mo_pulse_206 (fun v73 H locs ev73 hP hS => ?_)
    have hI : mI b v73 := by rw [ev73]; exact mI_up hI trivial trivial
    refine lv_iload_n hx hb md_Mo_pulse_207 rfl (lv_at hl 2 rfl) ?_
    refine lv_iload hx hb md_Mo_pulse_208 (lv_at hl 4 rfl) ?_
    refine lv_if_eq (tgt := 221) hx hb md_Mo_pulse_210 (by decide) (fun c_74 => ?_) (fun c_74 => ?_)
    · refine lv_iconst (v := (0 : Int32)) hx hb md_Mo_pulse_221 (by decide) ?_
      exact J45 v73  _ _ _ (by rw [hj]; subst ev73; simp only [mf_Mo_pulse_0_j44, if_pos c_74])   hI hP hS (lv_sub hl [0, 1, 3] rfl)
    · refine lv_iconst (v := (1 : Int32)) hx hb md_Mo_pulse_213 (by decide) ?_
      refine lv_iload_n hx hb md_Mo_pulse_214 rfl (lv_at hl 3 rfl) ?_
      refine lv_iconst (v := (2 : Int32)) hx hb md_Mo_pulse_215 (by decide) ?_
      refine lv_idiv hx hb md_Mo_pulse_216 (by decide) ?_
      refine fw_top (y := (2 : Int32)) (by decide) ?_
      refine lv_ishl hx hb md_Mo_pulse_217 ?_
      refine fw_top (y := (4 : Int32)) (by decide) ?_
      refine lv_goto (tgt := 222) hx hb md_Mo_pulse_218 (by decide) ?_
      exact J47 v73  _ _ _ (by rw [hj]; subst ev73; simp only [mf_Mo_pulse_0_j44, if_neg c_74])   hI hP hS (lv_sub hl [0, 1, 3] rfl)
  have J43 : ∀ (v : fw_V) (x4 : Int32) (H : Heap) (locs : List Loc) (ls : Array Slot), mf_Mo_pulse_0 v0 = mf_Mo_pulse_0_j43 v x4 → (x4 = 0 ∨ x4 = 1) → mI b v → va_P D vcls (fw_w mCL cA mkd ad v) H → va_S (fw_A mCL ad) s.heap H locs → lv_has ls 5 [(0, .ref (ad 0 0)), (1, .int (0 : Int32)), (2, .int (2 : Int32)), (3, .int (5 : Int32)), (4, .int x4)] → W p l e (headSpec (Cond.code my_Mo_pulse mb_Mo_pulse 5 none :: vTB) mrm_Mo_pulse).room s m ([.ref (ad 0 0), .int (0 : Int32)] : List Value).toArray below meth c H locs 0 0 (MQ below (fw_Qv D vcls mCL cA mkd ad (mI b) (mf_Mo_pulse_0 v0)) ([.ref (ad 0 0), .int (0 : Int32)] : List Value).toArray s 0 0 (fw_A mCL ad)) (F0 m 205 ls [.int (5 : Int32), .ref (ad 9 0)]) := by
    intro v x4 H locs ls hj hc0 hI hP hS hl
    clear J25 J24 J27 J26 J23 J22 J28 J21 J20 J33 J34 J32 J31 J35 J30 J29 J19 J18 J36 J17 J16 J46 J45 J48 J47
    refine lv_iconst (v := (0 : Int32)) hx hb md_Mo_pulse_205 (by decide) ?_
    exact J44 v (x4) _ _ _ (by rw [hj]; simp only [mf_Mo_pulse_0_j43]) hc0  hI hP hS (lv_sub hl [0, 1, 2, 3, 4] rfl)
  have J49 : ∀ (v : fw_V) (x4 : Int32) (x90 : Int32) (H : Heap) (locs : List Loc) (ls : Array Slot), mf_Mo_pulse_0 v0 = mf_Mo_pulse_0_j49 v x4 x90 → (x4 = 0 ∨ x4 = 1) → mI b v → va_P D vcls (fw_w mCL cA mkd ad v) H → va_S (fw_A mCL ad) s.heap H locs → lv_has ls 5 [(0, .ref (ad 0 0)), (1, .int (0 : Int32)), (2, .int (2 : Int32)), (3, .int (5 : Int32)), (4, .int x4)] → W p l e (headSpec (Cond.code my_Mo_pulse mb_Mo_pulse 5 none :: vTB) mrm_Mo_pulse).room s m ([.ref (ad 0 0), .int (0 : Int32)] : List Value).toArray below meth c H locs 0 0 (MQ below (fw_Qv D vcls mCL cA mkd ad (mI b) (mf_Mo_pulse_0 v0)) ([.ref (ad 0 0), .int (0 : Int32)] : List Value).toArray s 0 0 (fw_A mCL ad)) (F0 m 206 ls [.int x90, .int (5 : Int32), .ref (ad 9 0)]) := by
    intro v x4 x90 H locs ls hj hc0 hI hP hS hl
    clear J25 J24 J27 J26 J23 J22 J28 J21 J20 J33 J34 J32 J31 J35 J30 J29 J19 J18 J36 J17 J16 J46 J48 J44 J43
    refine fw_iast hx hb hK hD hP hS (mm_9 (by decide)) (mk_9 0) 0 rfl (j := 5) (by decide) (fw_inc (by decide)) md_Mo_pulse_206 (fun v86 H locs ev86 hP hS => ?_)
    have hI : mI b v86 := by rw [ev86]; exact mI_up hI trivial trivial
    refine lv_iload_n hx hb md_Mo_pulse_207 rfl (lv_at hl 2 rfl) ?_
    refine lv_iload hx hb md_Mo_pulse_208 (lv_at hl 4 rfl) ?_
    refine lv_if_eq (tgt := 221) hx hb md_Mo_pulse_210 (by decide) (fun c_87 => ?_) (fun c_87 => ?_)
    · refine lv_iconst (v := (0 : Int32)) hx hb md_Mo_pulse_221 (by decide) ?_
      exact J45 v86  _ _ _ (by rw [hj]; subst ev86; simp only [mf_Mo_pulse_0_j49, if_pos c_87])   hI hP hS (lv_sub hl [0, 1, 3] rfl)
    · refine lv_iconst (v := (1 : Int32)) hx hb md_Mo_pulse_213 (by decide) ?_
      refine lv_iload_n hx hb md_Mo_pulse_214 rfl (lv_at hl 3 rfl) ?_
      refine lv_iconst (v := (2 : Int32)) hx hb md_Mo_pulse_215 (by decide) ?_
      refine lv_idiv hx hb md_Mo_pulse_216 (by decide) ?_
      refine fw_top (y := (2 : Int32)) (by decide) ?_
      refine lv_ishl hx hb md_Mo_pulse_217 ?_
      refine fw_top (y := (4 : Int32)) (by decide) ?_
      refine lv_goto (tgt := 222) hx hb md_Mo_pulse_218 (by decide) ?_
      exact J47 v86  _ _ _ (by rw [hj]; subst ev86; simp only [mf_Mo_pulse_0_j49, if_neg c_87])   hI hP hS (lv_sub hl [0, 1, 3] rfl)
  have J42 : ∀ (v : fw_V)  (H : Heap) (locs : List Loc) (ls : Array Slot), mf_Mo_pulse_0 v0 = mf_Mo_pulse_0_j42 v → mI b v → va_P D vcls (fw_w mCL cA mkd ad v) H → va_S (fw_A mCL ad) s.heap H locs → lv_has ls 5 [(0, .ref (ad 0 0)), (1, .int (0 : Int32)), (2, .int (2 : Int32)), (3, .int (5 : Int32))] → W p l e (headSpec (Cond.code my_Mo_pulse mb_Mo_pulse 5 none :: vTB) mrm_Mo_pulse).room s m ([.ref (ad 0 0), .int (0 : Int32)] : List Value).toArray below meth c H locs 0 0 (MQ below (fw_Qv D vcls mCL cA mkd ad (mI b) (mf_Mo_pulse_0 v0)) ([.ref (ad 0 0), .int (0 : Int32)] : List Value).toArray s 0 0 (fw_A mCL ad)) (F0 m 148 ls []) := by
    intro v  H locs ls hj  hI hP hS hl
    clear J25 J24 J27 J26 J23 J22 J28 J21 J20 J33 J34 J32 J31 J35 J30 J29 J19 J18 J36 J17 J16 J46 J45 J48 J47 J44
    refine lv_iload_n hx hb md_Mo_pulse_148 rfl (lv_at hl 3 rfl) ?_
    refine lv_bipush (v := (6 : Int32)) hx hb md_Mo_pulse_149 (by decide) ?_
    refine lv_icmp_ge (tgt := 230) hx hb md_Mo_pulse_151 (by decide) (fun c_70 => absurd c_70 (by decide)) (fun _ => ?_)
    refine lv_aload_n hx hb md_Mo_pulse_154 rfl (lv_at hl 0 rfl) ?_
    refine lv_iload_n hx hb md_Mo_pulse_155 rfl (lv_at hl 1 rfl) ?_
    refine lv_iload_n hx hb md_Mo_pulse_156 rfl (lv_at hl 3 rfl) ?_
    refine lv_iconst (v := (2 : Int32)) hx hb md_Mo_pulse_157 (by decide) ?_
    refine lv_idiv hx hb md_Mo_pulse_158 (by decide) ?_
    refine fw_top (y := (2 : Int32)) (by decide) ?_
    refine fw_cb (va_runV (As := [.int (0 : Int32), .int (2 : Int32)]) (rest := []) ⟨hx, hb, hml, hown, hts⟩ (mc_Mo_isGood_0 l hD v hI (2 : Int32) (fw_inc (by decide))) (mw_Mo_isGood hts L_Mo_250 ⟨Nat.le_of_ble_eq_true rfl, Nat.le_of_ble_eq_true rfl⟩) (fw_preV hN hK hP (mm_0 (by decide)) (mk_0 0) rfl) rfl rfl hl.1 rfl (lv_room (Nat.le_of_ble_eq_true rfl)) md_Mo_pulse_159 ⟨Nat.le_of_ble_eq_true rfl, Nat.le_of_ble_eq_true rfl⟩) hS (fun r71 H locs zr71 er71 hP hS => ?_)
    refine lv_istore (lv' := [(4, .int r71), (0, .ref (ad 0 0)), (1, .int (0 : Int32)), (2, .int (2 : Int32)), (3, .int (5 : Int32))]) hx hb md_Mo_pulse_162 hl (by decide) rfl (fun ls hl => ?_)
    refine lv_aload_n hx hb md_Mo_pulse_164 rfl (lv_at hl 1 rfl) ?_
    refine fw_getr hx hb hts i_Mo hown hK hP (mm_0 (by decide)) (mk_0 0) rfl 8 (by decide) (hts _ L_Mo_35) (fun _ h9 => h9) rfl md_Mo_pulse_165 ?_
    refine lv_iload_n hx hb md_Mo_pulse_168 rfl (lv_at hl 4 rfl) ?_
    refine lv_iload hx hb md_Mo_pulse_169 (lv_at hl 0 rfl) ?_
    refine lv_if_eq (tgt := 205) hx hb md_Mo_pulse_171 (by decide) (fun c_72 => ?_) (fun c_72 => ?_)
    · exact J43 v (r71) _ _ _ (by rw [hj]; subst er71; simp only [mf_Mo_pulse_0_j42, if_pos c_72]) zr71  hI hP hS (lv_sub hl [1, 2, 3, 4, 0] rfl)
    · have h_83 : vp_in (v 43 0 2) 8 := mp_isGood_0_2 er71 c_72 (hI.1 43 0 2)
      refine lv_iload_n hx hb md_Mo_pulse_174 rfl (lv_at hl 4 rfl) ?_
      refine lv_iconst (v := (2 : Int32)) hx hb md_Mo_pulse_175 (by decide) ?_
      refine lv_irem hx hb md_Mo_pulse_176 (by decide) ?_
      refine fw_top (y := (1 : Int32)) (by decide) ?_
      refine lv_aload_n hx hb md_Mo_pulse_177 rfl (lv_at hl 1 rfl) ?_
      refine lv_iconst (v := (3 : Int32)) hx hb md_Mo_pulse_178 (by decide) ?_
      refine lv_iload_n hx hb md_Mo_pulse_179 rfl (lv_at hl 2 rfl) ?_
      refine lv_imul hx hb md_Mo_pulse_180 ?_
      refine fw_top (y := (0 : Int32)) (by decide) ?_
      refine lv_iload_n hx hb md_Mo_pulse_181 rfl (lv_at hl 4 rfl) ?_
      refine lv_iconst (v := (2 : Int32)) hx hb md_Mo_pulse_182 (by decide) ?_
      refine lv_idiv hx hb md_Mo_pulse_183 (by decide) ?_
      refine fw_top (y := (2 : Int32)) (by decide) ?_
      refine lv_iadd hx hb md_Mo_pulse_184 ?_
      refine fw_top (y := (2 : Int32)) (by decide) ?_
      refine fw_co (va_runV (As := [.int (2 : Int32)]) (rest := [.int (1 : Int32), .int (5 : Int32), .ref (ad 9 0)]) ⟨hx, hb, hml, hown, hts⟩ (mc_Mo_insAt l hD v hI (2 : Int32) (fw_inc (by decide))) (mw_Mo_insAt hts L_Mo_263 ⟨Nat.le_of_ble_eq_true rfl, Nat.le_of_ble_eq_true rfl⟩) (fw_preV hN hK hP (mm_0 (by decide)) (mk_0 0) rfl) rfl rfl hl.1 rfl (lv_room (Nat.le_of_ble_eq_true rfl)) md_Mo_pulse_185 ⟨Nat.le_of_ble_eq_true rfl, Nat.le_of_ble_eq_true rfl⟩) hS (fun r84 H locs er84 hP hS => ?_)
      refine lv_icmp_ge (tgt := 205) hx hb md_Mo_pulse_188 (by decide) (fun c_85 => ?_) (fun c_85 => ?_)
      · exact J43 v (r71) _ _ _ (by rw [hj]; subst er71 er84; simp only [mf_Mo_pulse_0_j42, if_neg c_72, if_pos c_85]) zr71  hI hP hS (lv_sub hl [1, 2, 3, 4, 0] rfl)
      · refine lv_aload_n hx hb md_Mo_pulse_191 rfl (lv_at hl 1 rfl) ?_
        refine fw_getr hx hb hts i_Mo hown hK hP (mm_0 (by decide)) (mk_0 0) rfl 44 (by decide) (hts _ L_Mo_140) (fun _ h9 => h9) rfl md_Mo_pulse_192 ?_
        refine lv_bipush (v := (6 : Int32)) hx hb md_Mo_pulse_195 (by decide) ?_
        refine lv_iload_n hx hb md_Mo_pulse_197 rfl (lv_at hl 2 rfl) ?_
        refine lv_imul hx hb md_Mo_pulse_198 ?_
        refine fw_top (y := (0 : Int32)) (by decide) ?_
        refine lv_iload_n hx hb md_Mo_pulse_199 rfl (lv_at hl 4 rfl) ?_
        refine lv_iadd hx hb md_Mo_pulse_200 ?_
        refine fw_top (y := (5 : Int32)) (by decide) ?_
        refine fw_iald hx hb hK hP (mm_45 (by decide)) (mk_45 0) 0 rfl (j := 5) (by decide) (fw_inc (by decide)) md_Mo_pulse_201 ?_
        refine lv_goto (tgt := 206) hx hb md_Mo_pulse_202 (by decide) ?_
        exact J49 v (r71) ((v 45 0 5)) _ _ _ (by rw [hj]; subst er71 er84; simp only [mf_Mo_pulse_0_j42, if_neg c_72, if_neg c_85]) zr71  hI hP hS (lv_sub hl [1, 2, 3, 4, 0] rfl)
  have J41 : ∀ (v : fw_V)  (H : Heap) (locs : List Loc) (ls : Array Slot), mf_Mo_pulse_0 v0 = mf_Mo_pulse_0_j41 v → mI b v → va_P D vcls (fw_w mCL cA mkd ad v) H → va_S (fw_A mCL ad) s.heap H locs → lv_has ls 5 [(0, .ref (ad 0 0)), (1, .int (0 : Int32)), (3, .int (4 : Int32))] → W p l e (headSpec (Cond.code my_Mo_pulse mb_Mo_pulse 5 none :: vTB) mrm_Mo_pulse).room s m ([.ref (ad 0 0), .int (0 : Int32)] : List Value).toArray below meth c H locs 0 0 (MQ below (fw_Qv D vcls mCL cA mkd ad (mI b) (mf_Mo_pulse_0 v0)) ([.ref (ad 0 0), .int (0 : Int32)] : List Value).toArray s 0 0 (fw_A mCL ad)) (F0 m 222 ls [.int (0 : Int32), .int (2 : Int32)]) := by
    intro v  H locs ls hj  hI hP hS hl
    clear J25 J24 J27 J26 J23 J22 J28 J21 J20 J33 J34 J32 J31 J35 J30 J29 J19 J18 J36 J17 J16 J46 J45 J48 J47 J44 J43 J49
    refine lv_ior hx hb md_Mo_pulse_222 ?_
    refine fw_top (y := (2 : Int32)) (by decide) ?_
    refine lv_istore_n (lv' := [(2, .int (2 : Int32)), (0, .ref (ad 0 0)), (1, .int (0 : Int32)), (3, .int (4 : Int32))]) hx hb md_Mo_pulse_223 rfl hl (by decide) rfl (fun ls hl => ?_)
    refine lv_iinc (v := (5 : Int32)) (lv' := [(3, .int (5 : Int32)), (2, .int (2 : Int32)), (0, .ref (ad 0 0)), (1, .int (0 : Int32))]) hx hb md_Mo_pulse_224 hl (k := 3) rfl (by decide) (by decide) rfl (fun ls hl => ?_)
    refine lv_goto (tgt := 148) hx hb md_Mo_pulse_227 (by decide) ?_
    exact J42 v  _ _ _ (by rw [hj]; simp only [mf_Mo_pulse_0_j41])   hI hP hS (lv_sub hl [2, 3, 1, 0] rfl)
  have J54 : ∀ (v : fw_V)  (H : Heap) (locs : List Loc) (ls : Array Slot), mf_Mo_pulse_0 v0 = mf_Mo_pulse_0_j54 v → mI b v → va_P D vcls (fw_w mCL cA mkd ad v) H → va_S (fw_A mCL ad) s.heap H locs → lv_has ls 5 [(0, .ref (ad 0 0)), (1, .int (0 : Int32)), (3, .int (5 : Int32))] → W p l e (headSpec (Cond.code my_Mo_pulse mb_Mo_pulse 5 none :: vTB) mrm_Mo_pulse).room s m ([.ref (ad 0 0), .int (0 : Int32)] : List Value).toArray below meth c H locs 0 0 (MQ below (fw_Qv D vcls mCL cA mkd ad (mI b) (mf_Mo_pulse_0 v0)) ([.ref (ad 0 0), .int (0 : Int32)] : List Value).toArray s 0 0 (fw_A mCL ad)) (F0 m 222 ls [.int (0 : Int32), .int (6 : Int32)]) := by
    intro v  H locs ls hj  hI hP hS hl
    clear J25 J24 J27 J26 J23 J22 J28 J21 J20 J33 J34 J32 J31 J35 J30 J29 J19 J18 J36 J17 J16 J46 J45 J47 J44 J43 J49 J42 J41
    refine lv_ior hx hb md_Mo_pulse_222 ?_
    refine fw_top (y := (6 : Int32)) (by decide) ?_
    refine lv_istore_n (lv' := [(2, .int (6 : Int32)), (0, .ref (ad 0 0)), (1, .int (0 : Int32)), (3, .int (5 : Int32))]) hx hb md_Mo_pulse_223 rfl hl (by decide) rfl (fun ls hl => ?_)
    refine lv_iinc (v := (6 : Int32)) (lv' := [(3, .int (6 : Int32)), (2, .int (6 : Int32)), (0, .ref (ad 0 0)), (1, .int (0 : Int32))]) hx hb md_Mo_pulse_224 hl (k := 3) rfl (by decide) (by decide) rfl (fun ls hl => ?_)
    refine lv_goto (tgt := 148) hx hb md_Mo_pulse_227 (by decide) ?_
    exact J48 v  _ _ _ (by rw [hj]; simp only [mf_Mo_pulse_0_j54])   hI hP hS (lv_sub hl [2, 3, 1, 0] rfl)
  have J55 : ∀ (v : fw_V)  (H : Heap) (locs : List Loc) (ls : Array Slot), mf_Mo_pulse_0 v0 = mf_Mo_pulse_0_j55 v → mI b v → va_P D vcls (fw_w mCL cA mkd ad v) H → va_S (fw_A mCL ad) s.heap H locs → lv_has ls 5 [(0, .ref (ad 0 0)), (1, .int (0 : Int32)), (3, .int (5 : Int32))] → W p l e (headSpec (Cond.code my_Mo_pulse mb_Mo_pulse 5 none :: vTB) mrm_Mo_pulse).room s m ([.ref (ad 0 0), .int (0 : Int32)] : List Value).toArray below meth c H locs 0 0 (MQ below (fw_Qv D vcls mCL cA mkd ad (mI b) (mf_Mo_pulse_0 v0)) ([.ref (ad 0 0), .int (0 : Int32)] : List Value).toArray s 0 0 (fw_A mCL ad)) (F0 m 222 ls [.int (4 : Int32), .int (6 : Int32)]) := by
    intro v  H locs ls hj  hI hP hS hl
    clear J25 J24 J27 J26 J23 J22 J28 J21 J20 J33 J34 J32 J31 J35 J30 J29 J19 J18 J36 J17 J16 J46 J45 J47 J44 J43 J49 J42 J41 J54
    refine lv_ior hx hb md_Mo_pulse_222 ?_
    refine fw_top (y := (6 : Int32)) (by decide) ?_
    refine lv_istore_n (lv' := [(2, .int (6 : Int32)), (0, .ref (ad 0 0)), (1, .int (0 : Int32)), (3, .int (5 : Int32))]) hx hb md_Mo_pulse_223 rfl hl (by decide) rfl (fun ls hl => ?_)
    refine lv_iinc (v := (6 : Int32)) (lv' := [(3, .int (6 : Int32)), (2, .int (6 : Int32)), (0, .ref (ad 0 0)), (1, .int (0 : Int32))]) hx hb md_Mo_pulse_224 hl (k := 3) rfl (by decide) (by decide) rfl (fun ls hl => ?_)
    refine lv_goto (tgt := 148) hx hb md_Mo_pulse_227 (by decide) ?_
    exact J48 v  _ _ _ (by rw [hj]; simp only [mf_Mo_pulse_0_j55])   hI hP hS (lv_sub hl [2, 3, 1, 0] rfl)
  have J53 : ∀ (v : fw_V) (x4 : Int32) (H : Heap) (locs : List Loc) (ls : Array Slot), mf_Mo_pulse_0 v0 = mf_Mo_pulse_0_j53 v x4 → (x4 = 0 ∨ x4 = 1) → mI b v → va_P D vcls (fw_w mCL cA mkd ad v) H → va_S (fw_A mCL ad) s.heap H locs → lv_has ls 5 [(0, .ref (ad 0 0)), (1, .int (0 : Int32)), (2, .int (6 : Int32)), (3, .int (5 : Int32)), (4, .int x4)] → W p l e (headSpec (Cond.code my_Mo_pulse mb_Mo_pulse 5 none :: vTB) mrm_Mo_pulse).room s m ([.ref (ad 0 0), .int (0 : Int32)] : List Value).toArray below meth c H locs 0 0 (MQ below (fw_Qv D vcls mCL cA mkd ad (mI b) (mf_Mo_pulse_0 v0)) ([.ref (ad 0 0), .int (0 : Int32)] : List Value).toArray s 0 0 (fw_A mCL ad)) (F0 m 206 ls [.int (0 : Int32), .int (5 : Int32), .ref (ad 9 0)]) := by
    intro v x4 H locs ls hj hc0 hI hP hS hl
    clear J25 J24 J27 J26 J23 J22 J28 J21 J20 J33 J34 J32 J31 J35 J30 J29 J19 J18 J36 J17 J16 J46 J45 J48 J47 J44 J43 J49 J42 J41
    refine fw_iast hx hb hK hD hP hS (mm_9 (by decide)) (mk_9 0) 0 rfl (j := 5) (by decide) (fw_inc (by decide)) md_Mo_pulse_206 (fun v91 H locs ev91 hP hS => ?_)
    have hI : mI b v91 := by rw [ev91]; exact mI_up hI trivial trivial
    refine lv_iload_n hx hb md_Mo_pulse_207 rfl (lv_at hl 2 rfl) ?_
    refine lv_iload hx hb md_Mo_pulse_208 (lv_at hl 4 rfl) ?_
    refine lv_if_eq (tgt := 221) hx hb md_Mo_pulse_210 (by decide) (fun c_92 => ?_) (fun c_92 => ?_)
    · refine lv_iconst (v := (0 : Int32)) hx hb md_Mo_pulse_221 (by decide) ?_
      exact J54 v91  _ _ _ (by rw [hj]; subst ev91; simp only [mf_Mo_pulse_0_j53, if_pos c_92])   hI hP hS (lv_sub hl [0, 1, 3] rfl)
    · refine lv_iconst (v := (1 : Int32)) hx hb md_Mo_pulse_213 (by decide) ?_
      refine lv_iload_n hx hb md_Mo_pulse_214 rfl (lv_at hl 3 rfl) ?_
      refine lv_iconst (v := (2 : Int32)) hx hb md_Mo_pulse_215 (by decide) ?_
      refine lv_idiv hx hb md_Mo_pulse_216 (by decide) ?_
      refine fw_top (y := (2 : Int32)) (by decide) ?_
      refine lv_ishl hx hb md_Mo_pulse_217 ?_
      refine fw_top (y := (4 : Int32)) (by decide) ?_
      refine lv_goto (tgt := 222) hx hb md_Mo_pulse_218 (by decide) ?_
      exact J55 v91  _ _ _ (by rw [hj]; subst ev91; simp only [mf_Mo_pulse_0_j53, if_neg c_92])   hI hP hS (lv_sub hl [0, 1, 3] rfl)
  have J52 : ∀ (v : fw_V) (x4 : Int32) (H : Heap) (locs : List Loc) (ls : Array Slot), mf_Mo_pulse_0 v0 = mf_Mo_pulse_0_j52 v x4 → (x4 = 0 ∨ x4 = 1) → mI b v → va_P D vcls (fw_w mCL cA mkd ad v) H → va_S (fw_A mCL ad) s.heap H locs → lv_has ls 5 [(0, .ref (ad 0 0)), (1, .int (0 : Int32)), (2, .int (6 : Int32)), (3, .int (5 : Int32)), (4, .int x4)] → W p l e (headSpec (Cond.code my_Mo_pulse mb_Mo_pulse 5 none :: vTB) mrm_Mo_pulse).room s m ([.ref (ad 0 0), .int (0 : Int32)] : List Value).toArray below meth c H locs 0 0 (MQ below (fw_Qv D vcls mCL cA mkd ad (mI b) (mf_Mo_pulse_0 v0)) ([.ref (ad 0 0), .int (0 : Int32)] : List Value).toArray s 0 0 (fw_A mCL ad)) (F0 m 205 ls [.int (5 : Int32), .ref (ad 9 0)]) := by
    intro v x4 H locs ls hj hc0 hI hP hS hl
    clear J25 J24 J27 J26 J23 J22 J28 J21 J20 J33 J34 J32 J31 J35 J30 J29 J19 J18 J36 J17 J16 J46 J45 J48 J47 J44 J43 J49 J42 J41 J54 J55
    refine lv_iconst (v := (0 : Int32)) hx hb md_Mo_pulse_205 (by decide) ?_
    exact J53 v (x4) _ _ _ (by rw [hj]; simp only [mf_Mo_pulse_0_j52]) hc0  hI hP hS (lv_sub hl [0, 1, 2, 3, 4] rfl)
  have J56 : ∀ (v : fw_V) (x4 : Int32) (x90 : Int32) (H : Heap) (locs : List Loc) (ls : Array Slot), mf_Mo_pulse_0 v0 = mf_Mo_pulse_0_j56 v x4 x90 → (x4 = 0 ∨ x4 = 1) → mI b v → va_P D vcls (fw_w mCL cA mkd ad v) H → va_S (fw_A mCL ad) s.heap H locs → lv_has ls 5 [(0, .ref (ad 0 0)), (1, .int (0 : Int32)), (2, .int (6 : Int32)), (3, .int (5 : Int32)), (4, .int x4)] → W p l e (headSpec (Cond.code my_Mo_pulse mb_Mo_pulse 5 none :: vTB) mrm_Mo_pulse).room s m ([.ref (ad 0 0), .int (0 : Int32)] : List Value).toArray below meth c H locs 0 0 (MQ below (fw_Qv D vcls mCL cA mkd ad (mI b) (mf_Mo_pulse_0 v0)) ([.ref (ad 0 0), .int (0 : Int32)] : List Value).toArray s 0 0 (fw_A mCL ad)) (F0 m 206 ls [.int x90, .int (5 : Int32), .ref (ad 9 0)]) := by
    intro v x4 x90 H locs ls hj hc0 hI hP hS hl
    clear J25 J24 J27 J26 J23 J22 J28 J21 J20 J33 J34 J32 J31 J35 J30 J29 J19 J18 J36 J17 J16 J46 J45 J48 J47 J44 J43 J49 J42 J41 J53 J52
    refine fw_iast hx hb hK hD hP hS (mm_9 (by decide)) (mk_9 0) 0 rfl (j := 5) (by decide) (fw_inc (by decide)) md_Mo_pulse_206 (fun v96 H locs ev96 hP hS => ?_)
    have hI : mI b v96 := by rw [ev96]; exact mI_up hI trivial trivial
    refine lv_iload_n hx hb md_Mo_pulse_207 rfl (lv_at hl 2 rfl) ?_
    refine lv_iload hx hb md_Mo_pulse_208 (lv_at hl 4 rfl) ?_
    refine lv_if_eq (tgt := 221) hx hb md_Mo_pulse_210 (by decide) (fun c_97 => ?_) (fun c_97 => ?_)
    · refine lv_iconst (v := (0 : Int32)) hx hb md_Mo_pulse_221 (by decide) ?_
      exact J54 v96  _ _ _ (by rw [hj]; subst ev96; simp only [mf_Mo_pulse_0_j56, if_pos c_97])   hI hP hS (lv_sub hl [0, 1, 3] rfl)
    · refine lv_iconst (v := (1 : Int32)) hx hb md_Mo_pulse_213 (by decide) ?_
      refine lv_iload_n hx hb md_Mo_pulse_214 rfl (lv_at hl 3 rfl) ?_
      refine lv_iconst (v := (2 : Int32)) hx hb md_Mo_pulse_215 (by decide) ?_
      refine lv_idiv hx hb md_Mo_pulse_216 (by decide) ?_
      refine fw_top (y := (2 : Int32)) (by decide) ?_
      refine lv_ishl hx hb md_Mo_pulse_217 ?_
      refine fw_top (y := (4 : Int32)) (by decide) ?_
      refine lv_goto (tgt := 222) hx hb md_Mo_pulse_218 (by decide) ?_
      exact J55 v96  _ _ _ (by rw [hj]; subst ev96; simp only [mf_Mo_pulse_0_j56, if_neg c_97])   hI hP hS (lv_sub hl [0, 1, 3] rfl)
  have J51 : ∀ (v : fw_V)  (H : Heap) (locs : List Loc) (ls : Array Slot), mf_Mo_pulse_0 v0 = mf_Mo_pulse_0_j51 v → mI b v → va_P D vcls (fw_w mCL cA mkd ad v) H → va_S (fw_A mCL ad) s.heap H locs → lv_has ls 5 [(0, .ref (ad 0 0)), (1, .int (0 : Int32)), (2, .int (6 : Int32)), (3, .int (5 : Int32))] → W p l e (headSpec (Cond.code my_Mo_pulse mb_Mo_pulse 5 none :: vTB) mrm_Mo_pulse).room s m ([.ref (ad 0 0), .int (0 : Int32)] : List Value).toArray below meth c H locs 0 0 (MQ below (fw_Qv D vcls mCL cA mkd ad (mI b) (mf_Mo_pulse_0 v0)) ([.ref (ad 0 0), .int (0 : Int32)] : List Value).toArray s 0 0 (fw_A mCL ad)) (F0 m 148 ls []) := by
    intro v  H locs ls hj  hI hP hS hl
    clear J25 J24 J27 J26 J23 J22 J28 J21 J20 J33 J34 J32 J31 J35 J30 J29 J19 J18 J36 J17 J16 J46 J45 J48 J47 J44 J43 J49 J42 J41 J54 J55 J53
    refine lv_iload_n hx hb md_Mo_pulse_148 rfl (lv_at hl 3 rfl) ?_
    refine lv_bipush (v := (6 : Int32)) hx hb md_Mo_pulse_149 (by decide) ?_
    refine lv_icmp_ge (tgt := 230) hx hb md_Mo_pulse_151 (by decide) (fun c_88 => absurd c_88 (by decide)) (fun _ => ?_)
    refine lv_aload_n hx hb md_Mo_pulse_154 rfl (lv_at hl 0 rfl) ?_
    refine lv_iload_n hx hb md_Mo_pulse_155 rfl (lv_at hl 1 rfl) ?_
    refine lv_iload_n hx hb md_Mo_pulse_156 rfl (lv_at hl 3 rfl) ?_
    refine lv_iconst (v := (2 : Int32)) hx hb md_Mo_pulse_157 (by decide) ?_
    refine lv_idiv hx hb md_Mo_pulse_158 (by decide) ?_
    refine fw_top (y := (2 : Int32)) (by decide) ?_
    refine fw_cb (va_runV (As := [.int (0 : Int32), .int (2 : Int32)]) (rest := []) ⟨hx, hb, hml, hown, hts⟩ (mc_Mo_isGood_0 l hD v hI (2 : Int32) (fw_inc (by decide))) (mw_Mo_isGood hts L_Mo_250 ⟨Nat.le_of_ble_eq_true rfl, Nat.le_of_ble_eq_true rfl⟩) (fw_preV hN hK hP (mm_0 (by decide)) (mk_0 0) rfl) rfl rfl hl.1 rfl (lv_room (Nat.le_of_ble_eq_true rfl)) md_Mo_pulse_159 ⟨Nat.le_of_ble_eq_true rfl, Nat.le_of_ble_eq_true rfl⟩) hS (fun r89 H locs zr89 er89 hP hS => ?_)
    refine lv_istore (lv' := [(4, .int r89), (0, .ref (ad 0 0)), (1, .int (0 : Int32)), (2, .int (6 : Int32)), (3, .int (5 : Int32))]) hx hb md_Mo_pulse_162 hl (by decide) rfl (fun ls hl => ?_)
    refine lv_aload_n hx hb md_Mo_pulse_164 rfl (lv_at hl 1 rfl) ?_
    refine fw_getr hx hb hts i_Mo hown hK hP (mm_0 (by decide)) (mk_0 0) rfl 8 (by decide) (hts _ L_Mo_35) (fun _ h9 => h9) rfl md_Mo_pulse_165 ?_
    refine lv_iload_n hx hb md_Mo_pulse_168 rfl (lv_at hl 4 rfl) ?_
    refine lv_iload hx hb md_Mo_pulse_169 (lv_at hl 0 rfl) ?_
    refine lv_if_eq (tgt := 205) hx hb md_Mo_pulse_171 (by decide) (fun c_90 => ?_) (fun c_90 => ?_)
    · exact J52 v (r89) _ _ _ (by rw [hj]; subst er89; simp only [mf_Mo_pulse_0_j51, if_pos c_90]) zr89  hI hP hS (lv_sub hl [1, 2, 3, 4, 0] rfl)
    · have h_93 : vp_in (v 43 0 2) 8 := mp_isGood_0_2 er89 c_90 (hI.1 43 0 2)
      refine lv_iload_n hx hb md_Mo_pulse_174 rfl (lv_at hl 4 rfl) ?_
      refine lv_iconst (v := (2 : Int32)) hx hb md_Mo_pulse_175 (by decide) ?_
      refine lv_irem hx hb md_Mo_pulse_176 (by decide) ?_
      refine fw_top (y := (1 : Int32)) (by decide) ?_
      refine lv_aload_n hx hb md_Mo_pulse_177 rfl (lv_at hl 1 rfl) ?_
      refine lv_iconst (v := (3 : Int32)) hx hb md_Mo_pulse_178 (by decide) ?_
      refine lv_iload_n hx hb md_Mo_pulse_179 rfl (lv_at hl 2 rfl) ?_
      refine lv_imul hx hb md_Mo_pulse_180 ?_
      refine fw_top (y := (0 : Int32)) (by decide) ?_
      refine lv_iload_n hx hb md_Mo_pulse_181 rfl (lv_at hl 4 rfl) ?_
      refine lv_iconst (v := (2 : Int32)) hx hb md_Mo_pulse_182 (by decide) ?_
      refine lv_idiv hx hb md_Mo_pulse_183 (by decide) ?_
      refine fw_top (y := (2 : Int32)) (by decide) ?_
      refine lv_iadd hx hb md_Mo_pulse_184 ?_
      refine fw_top (y := (2 : Int32)) (by decide) ?_
      refine fw_co (va_runV (As := [.int (2 : Int32)]) (rest := [.int (1 : Int32), .int (5 : Int32), .ref (ad 9 0)]) ⟨hx, hb, hml, hown, hts⟩ (mc_Mo_insAt l hD v hI (2 : Int32) (fw_inc (by decide))) (mw_Mo_insAt hts L_Mo_263 ⟨Nat.le_of_ble_eq_true rfl, Nat.le_of_ble_eq_true rfl⟩) (fw_preV hN hK hP (mm_0 (by decide)) (mk_0 0) rfl) rfl rfl hl.1 rfl (lv_room (Nat.le_of_ble_eq_true rfl)) md_Mo_pulse_185 ⟨Nat.le_of_ble_eq_true rfl, Nat.le_of_ble_eq_true rfl⟩) hS (fun r94 H locs er94 hP hS => ?_)
      refine lv_icmp_ge (tgt := 205) hx hb md_Mo_pulse_188 (by decide) (fun c_95 => ?_) (fun c_95 => ?_)
      · exact J52 v (r89) _ _ _ (by rw [hj]; subst er89 er94; simp only [mf_Mo_pulse_0_j51, if_neg c_90, if_pos c_95]) zr89  hI hP hS (lv_sub hl [1, 2, 3, 4, 0] rfl)
      · refine lv_aload_n hx hb md_Mo_pulse_191 rfl (lv_at hl 1 rfl) ?_
        refine fw_getr hx hb hts i_Mo hown hK hP (mm_0 (by decide)) (mk_0 0) rfl 44 (by decide) (hts _ L_Mo_140) (fun _ h9 => h9) rfl md_Mo_pulse_192 ?_
        refine lv_bipush (v := (6 : Int32)) hx hb md_Mo_pulse_195 (by decide) ?_
        refine lv_iload_n hx hb md_Mo_pulse_197 rfl (lv_at hl 2 rfl) ?_
        refine lv_imul hx hb md_Mo_pulse_198 ?_
        refine fw_top (y := (0 : Int32)) (by decide) ?_
        refine lv_iload_n hx hb md_Mo_pulse_199 rfl (lv_at hl 4 rfl) ?_
        refine lv_iadd hx hb md_Mo_pulse_200 ?_
        refine fw_top (y := (5 : Int32)) (by decide) ?_
        refine fw_iald hx hb hK hP (mm_45 (by decide)) (mk_45 0) 0 rfl (j := 5) (by decide) (fw_inc (by decide)) md_Mo_pulse_201 ?_
        refine lv_goto (tgt := 206) hx hb md_Mo_pulse_202 (by decide) ?_
        exact J56 v (r89) ((v 45 0 5)) _ _ _ (by rw [hj]; subst er89 er94; simp only [mf_Mo_pulse_0_j51, if_neg c_90, if_neg c_95]) zr89  hI hP hS (lv_sub hl [1, 2, 3, 4, 0] rfl)
  have J50 : ∀ (v : fw_V)  (H : Heap) (locs : List Loc) (ls : Array Slot), mf_Mo_pulse_0 v0 = mf_Mo_pulse_0_j50 v → mI b v → va_P D vcls (fw_w mCL cA mkd ad v) H → va_S (fw_A mCL ad) s.heap H locs → lv_has ls 5 [(0, .ref (ad 0 0)), (1, .int (0 : Int32)), (3, .int (4 : Int32))] → W p l e (headSpec (Cond.code my_Mo_pulse mb_Mo_pulse 5 none :: vTB) mrm_Mo_pulse).room s m ([.ref (ad 0 0), .int (0 : Int32)] : List Value).toArray below meth c H locs 0 0 (MQ below (fw_Qv D vcls mCL cA mkd ad (mI b) (mf_Mo_pulse_0 v0)) ([.ref (ad 0 0), .int (0 : Int32)] : List Value).toArray s 0 0 (fw_A mCL ad)) (F0 m 222 ls [.int (4 : Int32), .int (2 : Int32)]) := by
    intro v  H locs ls hj  hI hP hS hl
    clear J25 J24 J27 J26 J23 J22 J28 J21 J20 J33 J34 J32 J31 J35 J30 J29 J19 J18 J36 J17 J16 J46 J45 J48 J47 J44 J43 J49 J42 J41 J54 J55 J53 J52 J56
    refine lv_ior hx hb md_Mo_pulse_222 ?_
    refine fw_top (y := (6 : Int32)) (by decide) ?_
    refine lv_istore_n (lv' := [(2, .int (6 : Int32)), (0, .ref (ad 0 0)), (1, .int (0 : Int32)), (3, .int (4 : Int32))]) hx hb md_Mo_pulse_223 rfl hl (by decide) rfl (fun ls hl => ?_)
    refine lv_iinc (v := (5 : Int32)) (lv' := [(3, .int (5 : Int32)), (2, .int (6 : Int32)), (0, .ref (ad 0 0)), (1, .int (0 : Int32))]) hx hb md_Mo_pulse_224 hl (k := 3) rfl (by decide) (by decide) rfl (fun ls hl => ?_)
    refine lv_goto (tgt := 148) hx hb md_Mo_pulse_227 (by decide) ?_
    exact J51 v  _ _ _ (by rw [hj]; simp only [mf_Mo_pulse_0_j50])   hI hP hS (lv_sub hl [2, 3, 1, 0] rfl)
  have J40 : ∀ (v : fw_V) (x4 : Int32) (H : Heap) (locs : List Loc) (ls : Array Slot), mf_Mo_pulse_0 v0 = mf_Mo_pulse_0_j40 v x4 → (x4 = 0 ∨ x4 = 1) → mI b v → va_P D vcls (fw_w mCL cA mkd ad v) H → va_S (fw_A mCL ad) s.heap H locs → lv_has ls 5 [(0, .ref (ad 0 0)), (1, .int (0 : Int32)), (2, .int (2 : Int32)), (3, .int (4 : Int32)), (4, .int x4)] → W p l e (headSpec (Cond.code my_Mo_pulse mb_Mo_pulse 5 none :: vTB) mrm_Mo_pulse).room s m ([.ref (ad 0 0), .int (0 : Int32)] : List Value).toArray below meth c H locs 0 0 (MQ below (fw_Qv D vcls mCL cA mkd ad (mI b) (mf_Mo_pulse_0 v0)) ([.ref (ad 0 0), .int (0 : Int32)] : List Value).toArray s 0 0 (fw_A mCL ad)) (F0 m 206 ls [.int (0 : Int32), .int (4 : Int32), .ref (ad 9 0)]) := by
    intro v x4 H locs ls hj hc0 hI hP hS hl
    clear J25 J24 J27 J26 J23 J22 J28 J21 J20 J33 J34 J32 J31 J35 J30 J29 J19 J18 J36 J17 J16 J46 J45 J48 J47 J44 J43 J49 J42 J54 J55 J53 J52 J56 J51
    refine fw_iast hx hb hK hD hP hS (mm_9 (by decide)) (mk_9 0) 0 rfl (j := 4) (by decide) (fw_inc (by decide)) md_Mo_pulse_206 (fun v68 H locs ev68 hP hS => ?_)
    have hI : mI b v68 := by rw [ev68]; exact mI_up hI trivial trivial
    refine lv_iload_n hx hb md_Mo_pulse_207 rfl (lv_at hl 2 rfl) ?_
    refine lv_iload hx hb md_Mo_pulse_208 (lv_at hl 4 rfl) ?_
    refine lv_if_eq (tgt := 221) hx hb md_Mo_pulse_210 (by decide) (fun c_69 => ?_) (fun c_69 => ?_)
    · refine lv_iconst (v := (0 : Int32)) hx hb md_Mo_pulse_221 (by decide) ?_
      exact J41 v68  _ _ _ (by rw [hj]; subst ev68; simp only [mf_Mo_pulse_0_j40, if_pos c_69])   hI hP hS (lv_sub hl [0, 1, 3] rfl)
    · refine lv_iconst (v := (1 : Int32)) hx hb md_Mo_pulse_213 (by decide) ?_
      refine lv_iload_n hx hb md_Mo_pulse_214 rfl (lv_at hl 3 rfl) ?_
      refine lv_iconst (v := (2 : Int32)) hx hb md_Mo_pulse_215 (by decide) ?_
      refine lv_idiv hx hb md_Mo_pulse_216 (by decide) ?_
      refine fw_top (y := (2 : Int32)) (by decide) ?_
      refine lv_ishl hx hb md_Mo_pulse_217 ?_
      refine fw_top (y := (4 : Int32)) (by decide) ?_
      refine lv_goto (tgt := 222) hx hb md_Mo_pulse_218 (by decide) ?_
      exact J50 v68  _ _ _ (by rw [hj]; subst ev68; simp only [mf_Mo_pulse_0_j40, if_neg c_69])   hI hP hS (lv_sub hl [0, 1, 3] rfl)
  have J39 : ∀ (v : fw_V) (x4 : Int32) (H : Heap) (locs : List Loc) (ls : Array Slot), mf_Mo_pulse_0 v0 = mf_Mo_pulse_0_j39 v x4 → (x4 = 0 ∨ x4 = 1) → mI b v → va_P D vcls (fw_w mCL cA mkd ad v) H → va_S (fw_A mCL ad) s.heap H locs → lv_has ls 5 [(0, .ref (ad 0 0)), (1, .int (0 : Int32)), (2, .int (2 : Int32)), (3, .int (4 : Int32)), (4, .int x4)] → W p l e (headSpec (Cond.code my_Mo_pulse mb_Mo_pulse 5 none :: vTB) mrm_Mo_pulse).room s m ([.ref (ad 0 0), .int (0 : Int32)] : List Value).toArray below meth c H locs 0 0 (MQ below (fw_Qv D vcls mCL cA mkd ad (mI b) (mf_Mo_pulse_0 v0)) ([.ref (ad 0 0), .int (0 : Int32)] : List Value).toArray s 0 0 (fw_A mCL ad)) (F0 m 205 ls [.int (4 : Int32), .ref (ad 9 0)]) := by
    intro v x4 H locs ls hj hc0 hI hP hS hl
    clear J25 J24 J27 J26 J23 J22 J28 J21 J20 J33 J34 J32 J31 J35 J30 J29 J19 J18 J36 J17 J16 J46 J45 J48 J47 J44 J43 J49 J42 J41 J54 J55 J53 J52 J56 J51 J50
    refine lv_iconst (v := (0 : Int32)) hx hb md_Mo_pulse_205 (by decide) ?_
    exact J40 v (x4) _ _ _ (by rw [hj]; simp only [mf_Mo_pulse_0_j39]) hc0  hI hP hS (lv_sub hl [0, 1, 2, 3, 4] rfl)
  have J57 : ∀ (v : fw_V) (x4 : Int32) (x90 : Int32) (H : Heap) (locs : List Loc) (ls : Array Slot), mf_Mo_pulse_0 v0 = mf_Mo_pulse_0_j57 v x4 x90 → (x4 = 0 ∨ x4 = 1) → mI b v → va_P D vcls (fw_w mCL cA mkd ad v) H → va_S (fw_A mCL ad) s.heap H locs → lv_has ls 5 [(0, .ref (ad 0 0)), (1, .int (0 : Int32)), (2, .int (2 : Int32)), (3, .int (4 : Int32)), (4, .int x4)] → W p l e (headSpec (Cond.code my_Mo_pulse mb_Mo_pulse 5 none :: vTB) mrm_Mo_pulse).room s m ([.ref (ad 0 0), .int (0 : Int32)] : List Value).toArray below meth c H locs 0 0 (MQ below (fw_Qv D vcls mCL cA mkd ad (mI b) (mf_Mo_pulse_0 v0)) ([.ref (ad 0 0), .int (0 : Int32)] : List Value).toArray s 0 0 (fw_A mCL ad)) (F0 m 206 ls [.int x90, .int (4 : Int32), .ref (ad 9 0)]) := by
    intro v x4 x90 H locs ls hj hc0 hI hP hS hl
    clear J25 J24 J27 J26 J23 J22 J28 J21 J20 J33 J34 J32 J31 J35 J30 J29 J19 J18 J36 J17 J16 J46 J45 J48 J47 J44 J43 J49 J42 J54 J55 J53 J52 J56 J51 J40 J39
    refine fw_iast hx hb hK hD hP hS (mm_9 (by decide)) (mk_9 0) 0 rfl (j := 4) (by decide) (fw_inc (by decide)) md_Mo_pulse_206 (fun v101 H locs ev101 hP hS => ?_)
    have hI : mI b v101 := by rw [ev101]; exact mI_up hI trivial trivial
    refine lv_iload_n hx hb md_Mo_pulse_207 rfl (lv_at hl 2 rfl) ?_
    refine lv_iload hx hb md_Mo_pulse_208 (lv_at hl 4 rfl) ?_
    refine lv_if_eq (tgt := 221) hx hb md_Mo_pulse_210 (by decide) (fun c_102 => ?_) (fun c_102 => ?_)
    · refine lv_iconst (v := (0 : Int32)) hx hb md_Mo_pulse_221 (by decide) ?_
      exact J41 v101  _ _ _ (by rw [hj]; subst ev101; simp only [mf_Mo_pulse_0_j57, if_pos c_102])   hI hP hS (lv_sub hl [0, 1, 3] rfl)
    · refine lv_iconst (v := (1 : Int32)) hx hb md_Mo_pulse_213 (by decide) ?_
      refine lv_iload_n hx hb md_Mo_pulse_214 rfl (lv_at hl 3 rfl) ?_
      refine lv_iconst (v := (2 : Int32)) hx hb md_Mo_pulse_215 (by decide) ?_
      refine lv_idiv hx hb md_Mo_pulse_216 (by decide) ?_
      refine fw_top (y := (2 : Int32)) (by decide) ?_
      refine lv_ishl hx hb md_Mo_pulse_217 ?_
      refine fw_top (y := (4 : Int32)) (by decide) ?_
      refine lv_goto (tgt := 222) hx hb md_Mo_pulse_218 (by decide) ?_
      exact J50 v101  _ _ _ (by rw [hj]; subst ev101; simp only [mf_Mo_pulse_0_j57, if_neg c_102])   hI hP hS (lv_sub hl [0, 1, 3] rfl)
  have J38 : ∀ (v : fw_V)  (H : Heap) (locs : List Loc) (ls : Array Slot), mf_Mo_pulse_0 v0 = mf_Mo_pulse_0_j38 v → mI b v → va_P D vcls (fw_w mCL cA mkd ad v) H → va_S (fw_A mCL ad) s.heap H locs → lv_has ls 5 [(0, .ref (ad 0 0)), (1, .int (0 : Int32)), (2, .int (2 : Int32)), (3, .int (4 : Int32))] → W p l e (headSpec (Cond.code my_Mo_pulse mb_Mo_pulse 5 none :: vTB) mrm_Mo_pulse).room s m ([.ref (ad 0 0), .int (0 : Int32)] : List Value).toArray below meth c H locs 0 0 (MQ below (fw_Qv D vcls mCL cA mkd ad (mI b) (mf_Mo_pulse_0 v0)) ([.ref (ad 0 0), .int (0 : Int32)] : List Value).toArray s 0 0 (fw_A mCL ad)) (F0 m 148 ls []) := by
    intro v  H locs ls hj  hI hP hS hl
    clear J25 J24 J27 J26 J23 J22 J28 J21 J20 J33 J34 J32 J31 J35 J30 J29 J19 J18 J36 J17 J16 J46 J45 J48 J47 J44 J43 J49 J42 J41 J54 J55 J53 J52 J56 J51 J50 J40
    refine lv_iload_n hx hb md_Mo_pulse_148 rfl (lv_at hl 3 rfl) ?_
    refine lv_bipush (v := (6 : Int32)) hx hb md_Mo_pulse_149 (by decide) ?_
    refine lv_icmp_ge (tgt := 230) hx hb md_Mo_pulse_151 (by decide) (fun c_65 => absurd c_65 (by decide)) (fun _ => ?_)
    refine lv_aload_n hx hb md_Mo_pulse_154 rfl (lv_at hl 0 rfl) ?_
    refine lv_iload_n hx hb md_Mo_pulse_155 rfl (lv_at hl 1 rfl) ?_
    refine lv_iload_n hx hb md_Mo_pulse_156 rfl (lv_at hl 3 rfl) ?_
    refine lv_iconst (v := (2 : Int32)) hx hb md_Mo_pulse_157 (by decide) ?_
    refine lv_idiv hx hb md_Mo_pulse_158 (by decide) ?_
    refine fw_top (y := (2 : Int32)) (by decide) ?_
    refine fw_cb (va_runV (As := [.int (0 : Int32), .int (2 : Int32)]) (rest := []) ⟨hx, hb, hml, hown, hts⟩ (mc_Mo_isGood_0 l hD v hI (2 : Int32) (fw_inc (by decide))) (mw_Mo_isGood hts L_Mo_250 ⟨Nat.le_of_ble_eq_true rfl, Nat.le_of_ble_eq_true rfl⟩) (fw_preV hN hK hP (mm_0 (by decide)) (mk_0 0) rfl) rfl rfl hl.1 rfl (lv_room (Nat.le_of_ble_eq_true rfl)) md_Mo_pulse_159 ⟨Nat.le_of_ble_eq_true rfl, Nat.le_of_ble_eq_true rfl⟩) hS (fun r66 H locs zr66 er66 hP hS => ?_)
    refine lv_istore (lv' := [(4, .int r66), (0, .ref (ad 0 0)), (1, .int (0 : Int32)), (2, .int (2 : Int32)), (3, .int (4 : Int32))]) hx hb md_Mo_pulse_162 hl (by decide) rfl (fun ls hl => ?_)
    refine lv_aload_n hx hb md_Mo_pulse_164 rfl (lv_at hl 1 rfl) ?_
    refine fw_getr hx hb hts i_Mo hown hK hP (mm_0 (by decide)) (mk_0 0) rfl 8 (by decide) (hts _ L_Mo_35) (fun _ h9 => h9) rfl md_Mo_pulse_165 ?_
    refine lv_iload_n hx hb md_Mo_pulse_168 rfl (lv_at hl 4 rfl) ?_
    refine lv_iload hx hb md_Mo_pulse_169 (lv_at hl 0 rfl) ?_
    refine lv_if_eq (tgt := 205) hx hb md_Mo_pulse_171 (by decide) (fun c_67 => ?_) (fun c_67 => ?_)
    · exact J39 v (r66) _ _ _ (by rw [hj]; subst er66; simp only [mf_Mo_pulse_0_j38, if_pos c_67]) zr66  hI hP hS (lv_sub hl [1, 2, 3, 4, 0] rfl)
    · have h_98 : vp_in (v 43 0 2) 8 := mp_isGood_0_2 er66 c_67 (hI.1 43 0 2)
      refine lv_iload_n hx hb md_Mo_pulse_174 rfl (lv_at hl 4 rfl) ?_
      refine lv_iconst (v := (2 : Int32)) hx hb md_Mo_pulse_175 (by decide) ?_
      refine lv_irem hx hb md_Mo_pulse_176 (by decide) ?_
      refine fw_top (y := (0 : Int32)) (by decide) ?_
      refine lv_aload_n hx hb md_Mo_pulse_177 rfl (lv_at hl 1 rfl) ?_
      refine lv_iconst (v := (3 : Int32)) hx hb md_Mo_pulse_178 (by decide) ?_
      refine lv_iload_n hx hb md_Mo_pulse_179 rfl (lv_at hl 2 rfl) ?_
      refine lv_imul hx hb md_Mo_pulse_180 ?_
      refine fw_top (y := (0 : Int32)) (by decide) ?_
      refine lv_iload_n hx hb md_Mo_pulse_181 rfl (lv_at hl 4 rfl) ?_
      refine lv_iconst (v := (2 : Int32)) hx hb md_Mo_pulse_182 (by decide) ?_
      refine lv_idiv hx hb md_Mo_pulse_183 (by decide) ?_
      refine fw_top (y := (2 : Int32)) (by decide) ?_
      refine lv_iadd hx hb md_Mo_pulse_184 ?_
      refine fw_top (y := (2 : Int32)) (by decide) ?_
      refine fw_co (va_runV (As := [.int (2 : Int32)]) (rest := [.int (0 : Int32), .int (4 : Int32), .ref (ad 9 0)]) ⟨hx, hb, hml, hown, hts⟩ (mc_Mo_insAt l hD v hI (2 : Int32) (fw_inc (by decide))) (mw_Mo_insAt hts L_Mo_263 ⟨Nat.le_of_ble_eq_true rfl, Nat.le_of_ble_eq_true rfl⟩) (fw_preV hN hK hP (mm_0 (by decide)) (mk_0 0) rfl) rfl rfl hl.1 rfl (lv_room (Nat.le_of_ble_eq_true rfl)) md_Mo_pulse_185 ⟨Nat.le_of_ble_eq_true rfl, Nat.le_of_ble_eq_true rfl⟩) hS (fun r99 H locs er99 hP hS => ?_)
      refine lv_icmp_ge (tgt := 205) hx hb md_Mo_pulse_188 (by decide) (fun c_100 => ?_) (fun c_100 => ?_)
      · exact J39 v (r66) _ _ _ (by rw [hj]; subst er66 er99; simp only [mf_Mo_pulse_0_j38, if_neg c_67, if_pos c_100]) zr66  hI hP hS (lv_sub hl [1, 2, 3, 4, 0] rfl)
      · refine lv_aload_n hx hb md_Mo_pulse_191 rfl (lv_at hl 1 rfl) ?_
        refine fw_getr hx hb hts i_Mo hown hK hP (mm_0 (by decide)) (mk_0 0) rfl 44 (by decide) (hts _ L_Mo_140) (fun _ h9 => h9) rfl md_Mo_pulse_192 ?_
        refine lv_bipush (v := (6 : Int32)) hx hb md_Mo_pulse_195 (by decide) ?_
        refine lv_iload_n hx hb md_Mo_pulse_197 rfl (lv_at hl 2 rfl) ?_
        refine lv_imul hx hb md_Mo_pulse_198 ?_
        refine fw_top (y := (0 : Int32)) (by decide) ?_
        refine lv_iload_n hx hb md_Mo_pulse_199 rfl (lv_at hl 4 rfl) ?_
        refine lv_iadd hx hb md_Mo_pulse_200 ?_
        refine fw_top (y := (4 : Int32)) (by decide) ?_
        refine fw_iald hx hb hK hP (mm_45 (by decide)) (mk_45 0) 0 rfl (j := 4) (by decide) (fw_inc (by decide)) md_Mo_pulse_201 ?_
        refine lv_goto (tgt := 206) hx hb md_Mo_pulse_202 (by decide) ?_
        exact J57 v (r66) ((v 45 0 4)) _ _ _ (by rw [hj]; subst er66 er99; simp only [mf_Mo_pulse_0_j38, if_neg c_67, if_neg c_100]) zr66  hI hP hS (lv_sub hl [1, 2, 3, 4, 0] rfl)
  have J37 : ∀ (v : fw_V)  (H : Heap) (locs : List Loc) (ls : Array Slot), mf_Mo_pulse_0 v0 = mf_Mo_pulse_0_j37 v → mI b v → va_P D vcls (fw_w mCL cA mkd ad v) H → va_S (fw_A mCL ad) s.heap H locs → lv_has ls 5 [(0, .ref (ad 0 0)), (1, .int (0 : Int32)), (3, .int (3 : Int32))] → W p l e (headSpec (Cond.code my_Mo_pulse mb_Mo_pulse 5 none :: vTB) mrm_Mo_pulse).room s m ([.ref (ad 0 0), .int (0 : Int32)] : List Value).toArray below meth c H locs 0 0 (MQ below (fw_Qv D vcls mCL cA mkd ad (mI b) (mf_Mo_pulse_0 v0)) ([.ref (ad 0 0), .int (0 : Int32)] : List Value).toArray s 0 0 (fw_A mCL ad)) (F0 m 222 ls [.int (2 : Int32), .int (0 : Int32)]) := by
    intro v  H locs ls hj  hI hP hS hl
    clear J25 J24 J27 J26 J23 J22 J28 J21 J20 J33 J34 J32 J31 J35 J30 J29 J19 J18 J36 J17 J16 J46 J45 J48 J47 J44 J43 J49 J42 J41 J54 J55 J53 J52 J56 J51 J50 J40 J39 J57
    refine lv_ior hx hb md_Mo_pulse_222 ?_
    refine fw_top (y := (2 : Int32)) (by decide) ?_
    refine lv_istore_n (lv' := [(2, .int (2 : Int32)), (0, .ref (ad 0 0)), (1, .int (0 : Int32)), (3, .int (3 : Int32))]) hx hb md_Mo_pulse_223 rfl hl (by decide) rfl (fun ls hl => ?_)
    refine lv_iinc (v := (4 : Int32)) (lv' := [(3, .int (4 : Int32)), (2, .int (2 : Int32)), (0, .ref (ad 0 0)), (1, .int (0 : Int32))]) hx hb md_Mo_pulse_224 hl (k := 3) rfl (by decide) (by decide) rfl (fun ls hl => ?_)
    refine lv_goto (tgt := 148) hx hb md_Mo_pulse_227 (by decide) ?_
    exact J38 v  _ _ _ (by rw [hj]; simp only [mf_Mo_pulse_0_j37])   hI hP hS (lv_sub hl [2, 3, 1, 0] rfl)
  have J15 : ∀ (v : fw_V) (x4 : Int32) (H : Heap) (locs : List Loc) (ls : Array Slot), mf_Mo_pulse_0 v0 = mf_Mo_pulse_0_j15 v x4 → (x4 = 0 ∨ x4 = 1) → mI b v → va_P D vcls (fw_w mCL cA mkd ad v) H → va_S (fw_A mCL ad) s.heap H locs → lv_has ls 5 [(0, .ref (ad 0 0)), (1, .int (0 : Int32)), (2, .int (0 : Int32)), (3, .int (3 : Int32)), (4, .int x4)] → W p l e (headSpec (Cond.code my_Mo_pulse mb_Mo_pulse 5 none :: vTB) mrm_Mo_pulse).room s m ([.ref (ad 0 0), .int (0 : Int32)] : List Value).toArray below meth c H locs 0 0 (MQ below (fw_Qv D vcls mCL cA mkd ad (mI b) (mf_Mo_pulse_0 v0)) ([.ref (ad 0 0), .int (0 : Int32)] : List Value).toArray s 0 0 (fw_A mCL ad)) (F0 m 206 ls [.int (0 : Int32), .int (3 : Int32), .ref (ad 9 0)]) := by
    intro v x4 H locs ls hj hc0 hI hP hS hl
    clear J25 J24 J27 J26 J23 J22 J28 J21 J20 J33 J34 J32 J31 J35 J30 J29 J19 J18 J36 J17 J46 J45 J48 J47 J44 J43 J49 J42 J41 J54 J55 J53 J52 J56 J51 J50 J40 J39 J57 J38
    refine fw_iast hx hb hK hD hP hS (mm_9 (by decide)) (mk_9 0) 0 rfl (j := 3) (by decide) (fw_inc (by decide)) md_Mo_pulse_206 (fun v25 H locs ev25 hP hS => ?_)
    have hI : mI b v25 := by rw [ev25]; exact mI_up hI trivial trivial
    refine lv_iload_n hx hb md_Mo_pulse_207 rfl (lv_at hl 2 rfl) ?_
    refine lv_iload hx hb md_Mo_pulse_208 (lv_at hl 4 rfl) ?_
    refine lv_if_eq (tgt := 221) hx hb md_Mo_pulse_210 (by decide) (fun c_26 => ?_) (fun c_26 => ?_)
    · refine lv_iconst (v := (0 : Int32)) hx hb md_Mo_pulse_221 (by decide) ?_
      exact J16 v25  _ _ _ (by rw [hj]; subst ev25; simp only [mf_Mo_pulse_0_j15, if_pos c_26])   hI hP hS (lv_sub hl [0, 1, 3] rfl)
    · refine lv_iconst (v := (1 : Int32)) hx hb md_Mo_pulse_213 (by decide) ?_
      refine lv_iload_n hx hb md_Mo_pulse_214 rfl (lv_at hl 3 rfl) ?_
      refine lv_iconst (v := (2 : Int32)) hx hb md_Mo_pulse_215 (by decide) ?_
      refine lv_idiv hx hb md_Mo_pulse_216 (by decide) ?_
      refine fw_top (y := (1 : Int32)) (by decide) ?_
      refine lv_ishl hx hb md_Mo_pulse_217 ?_
      refine fw_top (y := (2 : Int32)) (by decide) ?_
      refine lv_goto (tgt := 222) hx hb md_Mo_pulse_218 (by decide) ?_
      exact J37 v25  _ _ _ (by rw [hj]; subst ev25; simp only [mf_Mo_pulse_0_j15, if_neg c_26])   hI hP hS (lv_sub hl [0, 1, 3] rfl)
  have J14 : ∀ (v : fw_V) (x4 : Int32) (H : Heap) (locs : List Loc) (ls : Array Slot), mf_Mo_pulse_0 v0 = mf_Mo_pulse_0_j14 v x4 → (x4 = 0 ∨ x4 = 1) → mI b v → va_P D vcls (fw_w mCL cA mkd ad v) H → va_S (fw_A mCL ad) s.heap H locs → lv_has ls 5 [(0, .ref (ad 0 0)), (1, .int (0 : Int32)), (2, .int (0 : Int32)), (3, .int (3 : Int32)), (4, .int x4)] → W p l e (headSpec (Cond.code my_Mo_pulse mb_Mo_pulse 5 none :: vTB) mrm_Mo_pulse).room s m ([.ref (ad 0 0), .int (0 : Int32)] : List Value).toArray below meth c H locs 0 0 (MQ below (fw_Qv D vcls mCL cA mkd ad (mI b) (mf_Mo_pulse_0 v0)) ([.ref (ad 0 0), .int (0 : Int32)] : List Value).toArray s 0 0 (fw_A mCL ad)) (F0 m 205 ls [.int (3 : Int32), .ref (ad 9 0)]) := by
    intro v x4 H locs ls hj hc0 hI hP hS hl
    clear J25 J24 J27 J26 J23 J22 J28 J21 J20 J33 J34 J32 J31 J35 J30 J29 J19 J18 J36 J17 J16 J46 J45 J48 J47 J44 J43 J49 J42 J41 J54 J55 J53 J52 J56 J51 J50 J40 J39 J57 J38 J37
    refine lv_iconst (v := (0 : Int32)) hx hb md_Mo_pulse_205 (by decide) ?_
    exact J15 v (x4) _ _ _ (by rw [hj]; simp only [mf_Mo_pulse_0_j14]) hc0  hI hP hS (lv_sub hl [0, 1, 2, 3, 4] rfl)
  have J58 : ∀ (v : fw_V) (x4 : Int32) (x90 : Int32) (H : Heap) (locs : List Loc) (ls : Array Slot), mf_Mo_pulse_0 v0 = mf_Mo_pulse_0_j58 v x4 x90 → (x4 = 0 ∨ x4 = 1) → mI b v → va_P D vcls (fw_w mCL cA mkd ad v) H → va_S (fw_A mCL ad) s.heap H locs → lv_has ls 5 [(0, .ref (ad 0 0)), (1, .int (0 : Int32)), (2, .int (0 : Int32)), (3, .int (3 : Int32)), (4, .int x4)] → W p l e (headSpec (Cond.code my_Mo_pulse mb_Mo_pulse 5 none :: vTB) mrm_Mo_pulse).room s m ([.ref (ad 0 0), .int (0 : Int32)] : List Value).toArray below meth c H locs 0 0 (MQ below (fw_Qv D vcls mCL cA mkd ad (mI b) (mf_Mo_pulse_0 v0)) ([.ref (ad 0 0), .int (0 : Int32)] : List Value).toArray s 0 0 (fw_A mCL ad)) (F0 m 206 ls [.int x90, .int (3 : Int32), .ref (ad 9 0)]) := by
    intro v x4 x90 H locs ls hj hc0 hI hP hS hl
    clear J25 J24 J27 J26 J23 J22 J28 J21 J20 J33 J34 J32 J31 J35 J30 J29 J19 J18 J36 J17 J46 J45 J48 J47 J44 J43 J49 J42 J41 J54 J55 J53 J52 J56 J51 J50 J40 J39 J57 J38 J15 J14
    refine fw_iast hx hb hK hD hP hS (mm_9 (by decide)) (mk_9 0) 0 rfl (j := 3) (by decide) (fw_inc (by decide)) md_Mo_pulse_206 (fun v106 H locs ev106 hP hS => ?_)
    have hI : mI b v106 := by rw [ev106]; exact mI_up hI trivial trivial
    refine lv_iload_n hx hb md_Mo_pulse_207 rfl (lv_at hl 2 rfl) ?_
    refine lv_iload hx hb md_Mo_pulse_208 (lv_at hl 4 rfl) ?_
    refine lv_if_eq (tgt := 221) hx hb md_Mo_pulse_210 (by decide) (fun c_107 => ?_) (fun c_107 => ?_)
    · refine lv_iconst (v := (0 : Int32)) hx hb md_Mo_pulse_221 (by decide) ?_
      exact J16 v106  _ _ _ (by rw [hj]; subst ev106; simp only [mf_Mo_pulse_0_j58, if_pos c_107])   hI hP hS (lv_sub hl [0, 1, 3] rfl)
    · refine lv_iconst (v := (1 : Int32)) hx hb md_Mo_pulse_213 (by decide) ?_
      refine lv_iload_n hx hb md_Mo_pulse_214 rfl (lv_at hl 3 rfl) ?_
      refine lv_iconst (v := (2 : Int32)) hx hb md_Mo_pulse_215 (by decide) ?_
      refine lv_idiv hx hb md_Mo_pulse_216 (by decide) ?_
      refine fw_top (y := (1 : Int32)) (by decide) ?_
      refine lv_ishl hx hb md_Mo_pulse_217 ?_
      refine fw_top (y := (2 : Int32)) (by decide) ?_
      refine lv_goto (tgt := 222) hx hb md_Mo_pulse_218 (by decide) ?_
      exact J37 v106  _ _ _ (by rw [hj]; subst ev106; simp only [mf_Mo_pulse_0_j58, if_neg c_107])   hI hP hS (lv_sub hl [0, 1, 3] rfl)
  have J13 : ∀ (v : fw_V)  (H : Heap) (locs : List Loc) (ls : Array Slot), mf_Mo_pulse_0 v0 = mf_Mo_pulse_0_j13 v → mI b v → va_P D vcls (fw_w mCL cA mkd ad v) H → va_S (fw_A mCL ad) s.heap H locs → lv_has ls 5 [(0, .ref (ad 0 0)), (1, .int (0 : Int32)), (2, .int (0 : Int32)), (3, .int (3 : Int32))] → W p l e (headSpec (Cond.code my_Mo_pulse mb_Mo_pulse 5 none :: vTB) mrm_Mo_pulse).room s m ([.ref (ad 0 0), .int (0 : Int32)] : List Value).toArray below meth c H locs 0 0 (MQ below (fw_Qv D vcls mCL cA mkd ad (mI b) (mf_Mo_pulse_0 v0)) ([.ref (ad 0 0), .int (0 : Int32)] : List Value).toArray s 0 0 (fw_A mCL ad)) (F0 m 148 ls []) := by
    intro v  H locs ls hj  hI hP hS hl
    clear J25 J24 J27 J26 J23 J22 J28 J21 J20 J33 J34 J32 J31 J35 J30 J29 J19 J18 J36 J17 J16 J46 J45 J48 J47 J44 J43 J49 J42 J41 J54 J55 J53 J52 J56 J51 J50 J40 J39 J57 J38 J37 J15
    refine lv_iload_n hx hb md_Mo_pulse_148 rfl (lv_at hl 3 rfl) ?_
    refine lv_bipush (v := (6 : Int32)) hx hb md_Mo_pulse_149 (by decide) ?_
    refine lv_icmp_ge (tgt := 230) hx hb md_Mo_pulse_151 (by decide) (fun c_22 => absurd c_22 (by decide)) (fun _ => ?_)
    refine lv_aload_n hx hb md_Mo_pulse_154 rfl (lv_at hl 0 rfl) ?_
    refine lv_iload_n hx hb md_Mo_pulse_155 rfl (lv_at hl 1 rfl) ?_
    refine lv_iload_n hx hb md_Mo_pulse_156 rfl (lv_at hl 3 rfl) ?_
    refine lv_iconst (v := (2 : Int32)) hx hb md_Mo_pulse_157 (by decide) ?_
    refine lv_idiv hx hb md_Mo_pulse_158 (by decide) ?_
    refine fw_top (y := (1 : Int32)) (by decide) ?_
    refine fw_cb (va_runV (As := [.int (0 : Int32), .int (1 : Int32)]) (rest := []) ⟨hx, hb, hml, hown, hts⟩ (mc_Mo_isGood_0 l hD v hI (1 : Int32) (fw_inc (by decide))) (mw_Mo_isGood hts L_Mo_250 ⟨Nat.le_of_ble_eq_true rfl, Nat.le_of_ble_eq_true rfl⟩) (fw_preV hN hK hP (mm_0 (by decide)) (mk_0 0) rfl) rfl rfl hl.1 rfl (lv_room (Nat.le_of_ble_eq_true rfl)) md_Mo_pulse_159 ⟨Nat.le_of_ble_eq_true rfl, Nat.le_of_ble_eq_true rfl⟩) hS (fun r23 H locs zr23 er23 hP hS => ?_)
    refine lv_istore (lv' := [(4, .int r23), (0, .ref (ad 0 0)), (1, .int (0 : Int32)), (2, .int (0 : Int32)), (3, .int (3 : Int32))]) hx hb md_Mo_pulse_162 hl (by decide) rfl (fun ls hl => ?_)
    refine lv_aload_n hx hb md_Mo_pulse_164 rfl (lv_at hl 1 rfl) ?_
    refine fw_getr hx hb hts i_Mo hown hK hP (mm_0 (by decide)) (mk_0 0) rfl 8 (by decide) (hts _ L_Mo_35) (fun _ h9 => h9) rfl md_Mo_pulse_165 ?_
    refine lv_iload_n hx hb md_Mo_pulse_168 rfl (lv_at hl 4 rfl) ?_
    refine lv_iload hx hb md_Mo_pulse_169 (lv_at hl 0 rfl) ?_
    refine lv_if_eq (tgt := 205) hx hb md_Mo_pulse_171 (by decide) (fun c_24 => ?_) (fun c_24 => ?_)
    · exact J14 v (r23) _ _ _ (by rw [hj]; subst er23; simp only [mf_Mo_pulse_0_j13, if_pos c_24]) zr23  hI hP hS (lv_sub hl [1, 2, 3, 4, 0] rfl)
    · have h_103 : vp_in (v 43 0 1) 8 := mp_isGood_0_1 er23 c_24 (hI.1 43 0 1)
      refine lv_iload_n hx hb md_Mo_pulse_174 rfl (lv_at hl 4 rfl) ?_
      refine lv_iconst (v := (2 : Int32)) hx hb md_Mo_pulse_175 (by decide) ?_
      refine lv_irem hx hb md_Mo_pulse_176 (by decide) ?_
      refine fw_top (y := (1 : Int32)) (by decide) ?_
      refine lv_aload_n hx hb md_Mo_pulse_177 rfl (lv_at hl 1 rfl) ?_
      refine lv_iconst (v := (3 : Int32)) hx hb md_Mo_pulse_178 (by decide) ?_
      refine lv_iload_n hx hb md_Mo_pulse_179 rfl (lv_at hl 2 rfl) ?_
      refine lv_imul hx hb md_Mo_pulse_180 ?_
      refine fw_top (y := (0 : Int32)) (by decide) ?_
      refine lv_iload_n hx hb md_Mo_pulse_181 rfl (lv_at hl 4 rfl) ?_
      refine lv_iconst (v := (2 : Int32)) hx hb md_Mo_pulse_182 (by decide) ?_
      refine lv_idiv hx hb md_Mo_pulse_183 (by decide) ?_
      refine fw_top (y := (1 : Int32)) (by decide) ?_
      refine lv_iadd hx hb md_Mo_pulse_184 ?_
      refine fw_top (y := (1 : Int32)) (by decide) ?_
      refine fw_co (va_runV (As := [.int (1 : Int32)]) (rest := [.int (1 : Int32), .int (3 : Int32), .ref (ad 9 0)]) ⟨hx, hb, hml, hown, hts⟩ (mc_Mo_insAt l hD v hI (1 : Int32) (fw_inc (by decide))) (mw_Mo_insAt hts L_Mo_263 ⟨Nat.le_of_ble_eq_true rfl, Nat.le_of_ble_eq_true rfl⟩) (fw_preV hN hK hP (mm_0 (by decide)) (mk_0 0) rfl) rfl rfl hl.1 rfl (lv_room (Nat.le_of_ble_eq_true rfl)) md_Mo_pulse_185 ⟨Nat.le_of_ble_eq_true rfl, Nat.le_of_ble_eq_true rfl⟩) hS (fun r104 H locs er104 hP hS => ?_)
      refine lv_icmp_ge (tgt := 205) hx hb md_Mo_pulse_188 (by decide) (fun c_105 => ?_) (fun c_105 => ?_)
      · exact J14 v (r23) _ _ _ (by rw [hj]; subst er23 er104; simp only [mf_Mo_pulse_0_j13, if_neg c_24, if_pos c_105]) zr23  hI hP hS (lv_sub hl [1, 2, 3, 4, 0] rfl)
      · refine lv_aload_n hx hb md_Mo_pulse_191 rfl (lv_at hl 1 rfl) ?_
        refine fw_getr hx hb hts i_Mo hown hK hP (mm_0 (by decide)) (mk_0 0) rfl 44 (by decide) (hts _ L_Mo_140) (fun _ h9 => h9) rfl md_Mo_pulse_192 ?_
        refine lv_bipush (v := (6 : Int32)) hx hb md_Mo_pulse_195 (by decide) ?_
        refine lv_iload_n hx hb md_Mo_pulse_197 rfl (lv_at hl 2 rfl) ?_
        refine lv_imul hx hb md_Mo_pulse_198 ?_
        refine fw_top (y := (0 : Int32)) (by decide) ?_
        refine lv_iload_n hx hb md_Mo_pulse_199 rfl (lv_at hl 4 rfl) ?_
        refine lv_iadd hx hb md_Mo_pulse_200 ?_
        refine fw_top (y := (3 : Int32)) (by decide) ?_
        refine fw_iald hx hb hK hP (mm_45 (by decide)) (mk_45 0) 0 rfl (j := 3) (by decide) (fw_inc (by decide)) md_Mo_pulse_201 ?_
        refine lv_goto (tgt := 206) hx hb md_Mo_pulse_202 (by decide) ?_
        exact J58 v (r23) ((v 45 0 3)) _ _ _ (by rw [hj]; subst er23 er104; simp only [mf_Mo_pulse_0_j13, if_neg c_24, if_neg c_105]) zr23  hI hP hS (lv_sub hl [1, 2, 3, 4, 0] rfl)
  have J12 : ∀ (v : fw_V)  (H : Heap) (locs : List Loc) (ls : Array Slot), mf_Mo_pulse_0 v0 = mf_Mo_pulse_0_j12 v → mI b v → va_P D vcls (fw_w mCL cA mkd ad v) H → va_S (fw_A mCL ad) s.heap H locs → lv_has ls 5 [(0, .ref (ad 0 0)), (1, .int (0 : Int32)), (3, .int (2 : Int32))] → W p l e (headSpec (Cond.code my_Mo_pulse mb_Mo_pulse 5 none :: vTB) mrm_Mo_pulse).room s m ([.ref (ad 0 0), .int (0 : Int32)] : List Value).toArray below meth c H locs 0 0 (MQ below (fw_Qv D vcls mCL cA mkd ad (mI b) (mf_Mo_pulse_0 v0)) ([.ref (ad 0 0), .int (0 : Int32)] : List Value).toArray s 0 0 (fw_A mCL ad)) (F0 m 222 ls [.int (0 : Int32), .int (0 : Int32)]) := by
    intro v  H locs ls hj  hI hP hS hl
    clear J25 J24 J27 J26 J23 J22 J28 J21 J20 J33 J34 J32 J31 J35 J30 J29 J19 J18 J36 J17 J16 J46 J45 J48 J47 J44 J43 J49 J42 J41 J54 J55 J53 J52 J56 J51 J50 J40 J39 J57 J38 J37 J15 J14 J58
    refine lv_ior hx hb md_Mo_pulse_222 ?_
    refine fw_top (y := (0 : Int32)) (by decide) ?_
    refine lv_istore_n (lv' := [(2, .int (0 : Int32)), (0, .ref (ad 0 0)), (1, .int (0 : Int32)), (3, .int (2 : Int32))]) hx hb md_Mo_pulse_223 rfl hl (by decide) rfl (fun ls hl => ?_)
    refine lv_iinc (v := (3 : Int32)) (lv' := [(3, .int (3 : Int32)), (2, .int (0 : Int32)), (0, .ref (ad 0 0)), (1, .int (0 : Int32))]) hx hb md_Mo_pulse_224 hl (k := 3) rfl (by decide) (by decide) rfl (fun ls hl => ?_)
    refine lv_goto (tgt := 148) hx hb md_Mo_pulse_227 (by decide) ?_
    exact J13 v  _ _ _ (by rw [hj]; simp only [mf_Mo_pulse_0_j12])   hI hP hS (lv_sub hl [2, 3, 1, 0] rfl)
  have J63 : ∀ (v : fw_V)  (H : Heap) (locs : List Loc) (ls : Array Slot), mf_Mo_pulse_0 v0 = mf_Mo_pulse_0_j63 v → mI b v → va_P D vcls (fw_w mCL cA mkd ad v) H → va_S (fw_A mCL ad) s.heap H locs → lv_has ls 5 [(0, .ref (ad 0 0)), (1, .int (0 : Int32)), (3, .int (3 : Int32))] → W p l e (headSpec (Cond.code my_Mo_pulse mb_Mo_pulse 5 none :: vTB) mrm_Mo_pulse).room s m ([.ref (ad 0 0), .int (0 : Int32)] : List Value).toArray below meth c H locs 0 0 (MQ below (fw_Qv D vcls mCL cA mkd ad (mI b) (mf_Mo_pulse_0 v0)) ([.ref (ad 0 0), .int (0 : Int32)] : List Value).toArray s 0 0 (fw_A mCL ad)) (F0 m 222 ls [.int (0 : Int32), .int (2 : Int32)]) := by
    intro v  H locs ls hj  hI hP hS hl
    clear J25 J24 J27 J26 J23 J22 J28 J21 J20 J33 J34 J32 J31 J35 J30 J29 J19 J18 J36 J17 J16 J46 J45 J48 J47 J44 J43 J49 J42 J41 J54 J55 J53 J52 J56 J51 J50 J40 J39 J57 J37 J15 J14 J58 J13 J12
    refine lv_ior hx hb md_Mo_pulse_222 ?_
    refine fw_top (y := (2 : Int32)) (by decide) ?_
    refine lv_istore_n (lv' := [(2, .int (2 : Int32)), (0, .ref (ad 0 0)), (1, .int (0 : Int32)), (3, .int (3 : Int32))]) hx hb md_Mo_pulse_223 rfl hl (by decide) rfl (fun ls hl => ?_)
    refine lv_iinc (v := (4 : Int32)) (lv' := [(3, .int (4 : Int32)), (2, .int (2 : Int32)), (0, .ref (ad 0 0)), (1, .int (0 : Int32))]) hx hb md_Mo_pulse_224 hl (k := 3) rfl (by decide) (by decide) rfl (fun ls hl => ?_)
    refine lv_goto (tgt := 148) hx hb md_Mo_pulse_227 (by decide) ?_
    exact J38 v  _ _ _ (by rw [hj]; simp only [mf_Mo_pulse_0_j63])   hI hP hS (lv_sub hl [2, 3, 1, 0] rfl)
  have J64 : ∀ (v : fw_V)  (H : Heap) (locs : List Loc) (ls : Array Slot), mf_Mo_pulse_0 v0 = mf_Mo_pulse_0_j64 v → mI b v → va_P D vcls (fw_w mCL cA mkd ad v) H → va_S (fw_A mCL ad) s.heap H locs → lv_has ls 5 [(0, .ref (ad 0 0)), (1, .int (0 : Int32)), (3, .int (3 : Int32))] → W p l e (headSpec (Cond.code my_Mo_pulse mb_Mo_pulse 5 none :: vTB) mrm_Mo_pulse).room s m ([.ref (ad 0 0), .int (0 : Int32)] : List Value).toArray below meth c H locs 0 0 (MQ below (fw_Qv D vcls mCL cA mkd ad (mI b) (mf_Mo_pulse_0 v0)) ([.ref (ad 0 0), .int (0 : Int32)] : List Value).toArray s 0 0 (fw_A mCL ad)) (F0 m 222 ls [.int (2 : Int32), .int (2 : Int32)]) := by
    intro v  H locs ls hj  hI hP hS hl
    clear J25 J24 J27 J26 J23 J22 J28 J21 J20 J33 J34 J32 J31 J35 J30 J29 J19 J18 J36 J17 J16 J46 J45 J48 J47 J44 J43 J49 J42 J41 J54 J55 J53 J52 J56 J51 J50 J40 J39 J57 J37 J15 J14 J58 J13 J12 J63
    refine lv_ior hx hb md_Mo_pulse_222 ?_
    refine fw_top (y := (2 : Int32)) (by decide) ?_
    refine lv_istore_n (lv' := [(2, .int (2 : Int32)), (0, .ref (ad 0 0)), (1, .int (0 : Int32)), (3, .int (3 : Int32))]) hx hb md_Mo_pulse_223 rfl hl (by decide) rfl (fun ls hl => ?_)
    refine lv_iinc (v := (4 : Int32)) (lv' := [(3, .int (4 : Int32)), (2, .int (2 : Int32)), (0, .ref (ad 0 0)), (1, .int (0 : Int32))]) hx hb md_Mo_pulse_224 hl (k := 3) rfl (by decide) (by decide) rfl (fun ls hl => ?_)
    refine lv_goto (tgt := 148) hx hb md_Mo_pulse_227 (by decide) ?_
    exact J38 v  _ _ _ (by rw [hj]; simp only [mf_Mo_pulse_0_j64])   hI hP hS (lv_sub hl [2, 3, 1, 0] rfl)
  have J62 : ∀ (v : fw_V) (x4 : Int32) (H : Heap) (locs : List Loc) (ls : Array Slot), mf_Mo_pulse_0 v0 = mf_Mo_pulse_0_j62 v x4 → (x4 = 0 ∨ x4 = 1) → mI b v → va_P D vcls (fw_w mCL cA mkd ad v) H → va_S (fw_A mCL ad) s.heap H locs → lv_has ls 5 [(0, .ref (ad 0 0)), (1, .int (0 : Int32)), (2, .int (2 : Int32)), (3, .int (3 : Int32)), (4, .int x4)] → W p l e (headSpec (Cond.code my_Mo_pulse mb_Mo_pulse 5 none :: vTB) mrm_Mo_pulse).room s m ([.ref (ad 0 0), .int (0 : Int32)] : List Value).toArray below meth c H locs 0 0 (MQ below (fw_Qv D vcls mCL cA mkd ad (mI b) (mf_Mo_pulse_0 v0)) ([.ref (ad 0 0), .int (0 : Int32)] : List Value).toArray s 0 0 (fw_A mCL ad)) (F0 m 206 ls [.int (0 : Int32), .int (3 : Int32), .ref (ad 9 0)]) := by
    intro v x4 H locs ls hj hc0 hI hP hS hl
    clear J25 J24 J27 J26 J23 J22 J28 J21 J20 J33 J34 J32 J31 J35 J30 J29 J19 J18 J36 J17 J16 J46 J45 J48 J47 J44 J43 J49 J42 J41 J54 J55 J53 J52 J56 J51 J50 J40 J39 J57 J38 J37 J15 J14 J58 J13 J12
    refine fw_iast hx hb hK hD hP hS (mm_9 (by decide)) (mk_9 0) 0 rfl (j := 3) (by decide) (fw_inc (by decide)) md_Mo_pulse_206 (fun v111 H locs ev111 hP hS => ?_)
    have hI : mI b v111 := by rw [ev111]; exact mI_up hI trivial trivial
    refine lv_iload_n hx hb md_Mo_pulse_207 rfl (lv_at hl 2 rfl) ?_
    refine lv_iload hx hb md_Mo_pulse_208 (lv_at hl 4 rfl) ?_
    refine lv_if_eq (tgt := 221) hx hb md_Mo_pulse_210 (by decide) (fun c_112 => ?_) (fun c_112 => ?_)
    · refine lv_iconst (v := (0 : Int32)) hx hb md_Mo_pulse_221 (by decide) ?_
      exact J63 v111  _ _ _ (by rw [hj]; subst ev111; simp only [mf_Mo_pulse_0_j62, if_pos c_112])   hI hP hS (lv_sub hl [0, 1, 3] rfl)
    · refine lv_iconst (v := (1 : Int32)) hx hb md_Mo_pulse_213 (by decide) ?_
      refine lv_iload_n hx hb md_Mo_pulse_214 rfl (lv_at hl 3 rfl) ?_
      refine lv_iconst (v := (2 : Int32)) hx hb md_Mo_pulse_215 (by decide) ?_
      refine lv_idiv hx hb md_Mo_pulse_216 (by decide) ?_
      refine fw_top (y := (1 : Int32)) (by decide) ?_
      refine lv_ishl hx hb md_Mo_pulse_217 ?_
      refine fw_top (y := (2 : Int32)) (by decide) ?_
      refine lv_goto (tgt := 222) hx hb md_Mo_pulse_218 (by decide) ?_
      exact J64 v111  _ _ _ (by rw [hj]; subst ev111; simp only [mf_Mo_pulse_0_j62, if_neg c_112])   hI hP hS (lv_sub hl [0, 1, 3] rfl)
  have J61 : ∀ (v : fw_V) (x4 : Int32) (H : Heap) (locs : List Loc) (ls : Array Slot), mf_Mo_pulse_0 v0 = mf_Mo_pulse_0_j61 v x4 → (x4 = 0 ∨ x4 = 1) → mI b v → va_P D vcls (fw_w mCL cA mkd ad v) H → va_S (fw_A mCL ad) s.heap H locs → lv_has ls 5 [(0, .ref (ad 0 0)), (1, .int (0 : Int32)), (2, .int (2 : Int32)), (3, .int (3 : Int32)), (4, .int x4)] → W p l e (headSpec (Cond.code my_Mo_pulse mb_Mo_pulse 5 none :: vTB) mrm_Mo_pulse).room s m ([.ref (ad 0 0), .int (0 : Int32)] : List Value).toArray below meth c H locs 0 0 (MQ below (fw_Qv D vcls mCL cA mkd ad (mI b) (mf_Mo_pulse_0 v0)) ([.ref (ad 0 0), .int (0 : Int32)] : List Value).toArray s 0 0 (fw_A mCL ad)) (F0 m 205 ls [.int (3 : Int32), .ref (ad 9 0)]) := by
    intro v x4 H locs ls hj hc0 hI hP hS hl
    clear J25 J24 J27 J26 J23 J22 J28 J21 J20 J33 J34 J32 J31 J35 J30 J29 J19 J18 J36 J17 J16 J46 J45 J48 J47 J44 J43 J49 J42 J41 J54 J55 J53 J52 J56 J51 J50 J40 J39 J57 J38 J37 J15 J14 J58 J13 J12 J63 J64
    refine lv_iconst (v := (0 : Int32)) hx hb md_Mo_pulse_205 (by decide) ?_
    exact J62 v (x4) _ _ _ (by rw [hj]; simp only [mf_Mo_pulse_0_j61]) hc0  hI hP hS (lv_sub hl [0, 1, 2, 3, 4] rfl)
  have J65 : ∀ (v : fw_V) (x4 : Int32) (x90 : Int32) (H : Heap) (locs : List Loc) (ls : Array Slot), mf_Mo_pulse_0 v0 = mf_Mo_pulse_0_j65 v x4 x90 → (x4 = 0 ∨ x4 = 1) → mI b v → va_P D vcls (fw_w mCL cA mkd ad v) H → va_S (fw_A mCL ad) s.heap H locs → lv_has ls 5 [(0, .ref (ad 0 0)), (1, .int (0 : Int32)), (2, .int (2 : Int32)), (3, .int (3 : Int32)), (4, .int x4)] → W p l e (headSpec (Cond.code my_Mo_pulse mb_Mo_pulse 5 none :: vTB) mrm_Mo_pulse).room s m ([.ref (ad 0 0), .int (0 : Int32)] : List Value).toArray below meth c H locs 0 0 (MQ below (fw_Qv D vcls mCL cA mkd ad (mI b) (mf_Mo_pulse_0 v0)) ([.ref (ad 0 0), .int (0 : Int32)] : List Value).toArray s 0 0 (fw_A mCL ad)) (F0 m 206 ls [.int x90, .int (3 : Int32), .ref (ad 9 0)]) := by
    intro v x4 x90 H locs ls hj hc0 hI hP hS hl
    clear J25 J24 J27 J26 J23 J22 J28 J21 J20 J33 J34 J32 J31 J35 J30 J29 J19 J18 J36 J17 J16 J46 J45 J48 J47 J44 J43 J49 J42 J41 J54 J55 J53 J52 J56 J51 J50 J40 J39 J57 J38 J37 J15 J14 J58 J13 J12 J62 J61
    refine fw_iast hx hb hK hD hP hS (mm_9 (by decide)) (mk_9 0) 0 rfl (j := 3) (by decide) (fw_inc (by decide)) md_Mo_pulse_206 (fun v116 H locs ev116 hP hS => ?_)
    have hI : mI b v116 := by rw [ev116]; exact mI_up hI trivial trivial
    refine lv_iload_n hx hb md_Mo_pulse_207 rfl (lv_at hl 2 rfl) ?_
    refine lv_iload hx hb md_Mo_pulse_208 (lv_at hl 4 rfl) ?_
    refine lv_if_eq (tgt := 221) hx hb md_Mo_pulse_210 (by decide) (fun c_117 => ?_) (fun c_117 => ?_)
    · refine lv_iconst (v := (0 : Int32)) hx hb md_Mo_pulse_221 (by decide) ?_
      exact J63 v116  _ _ _ (by rw [hj]; subst ev116; simp only [mf_Mo_pulse_0_j65, if_pos c_117])   hI hP hS (lv_sub hl [0, 1, 3] rfl)
    · refine lv_iconst (v := (1 : Int32)) hx hb md_Mo_pulse_213 (by decide) ?_
      refine lv_iload_n hx hb md_Mo_pulse_214 rfl (lv_at hl 3 rfl) ?_
      refine lv_iconst (v := (2 : Int32)) hx hb md_Mo_pulse_215 (by decide) ?_
      refine lv_idiv hx hb md_Mo_pulse_216 (by decide) ?_
      refine fw_top (y := (1 : Int32)) (by decide) ?_
      refine lv_ishl hx hb md_Mo_pulse_217 ?_
      refine fw_top (y := (2 : Int32)) (by decide) ?_
      refine lv_goto (tgt := 222) hx hb md_Mo_pulse_218 (by decide) ?_
      exact J64 v116  _ _ _ (by rw [hj]; subst ev116; simp only [mf_Mo_pulse_0_j65, if_neg c_117])   hI hP hS (lv_sub hl [0, 1, 3] rfl)
  have J60 : ∀ (v : fw_V)  (H : Heap) (locs : List Loc) (ls : Array Slot), mf_Mo_pulse_0 v0 = mf_Mo_pulse_0_j60 v → mI b v → va_P D vcls (fw_w mCL cA mkd ad v) H → va_S (fw_A mCL ad) s.heap H locs → lv_has ls 5 [(0, .ref (ad 0 0)), (1, .int (0 : Int32)), (2, .int (2 : Int32)), (3, .int (3 : Int32))] → W p l e (headSpec (Cond.code my_Mo_pulse mb_Mo_pulse 5 none :: vTB) mrm_Mo_pulse).room s m ([.ref (ad 0 0), .int (0 : Int32)] : List Value).toArray below meth c H locs 0 0 (MQ below (fw_Qv D vcls mCL cA mkd ad (mI b) (mf_Mo_pulse_0 v0)) ([.ref (ad 0 0), .int (0 : Int32)] : List Value).toArray s 0 0 (fw_A mCL ad)) (F0 m 148 ls []) := by
    intro v  H locs ls hj  hI hP hS hl
    clear J25 J24 J27 J26 J23 J22 J28 J21 J20 J33 J34 J32 J31 J35 J30 J29 J19 J18 J36 J17 J16 J46 J45 J48 J47 J44 J43 J49 J42 J41 J54 J55 J53 J52 J56 J51 J50 J40 J39 J57 J38 J37 J15 J14 J58 J13 J12 J63 J64 J62
    refine lv_iload_n hx hb md_Mo_pulse_148 rfl (lv_at hl 3 rfl) ?_
    refine lv_bipush (v := (6 : Int32)) hx hb md_Mo_pulse_149 (by decide) ?_
    refine lv_icmp_ge (tgt := 230) hx hb md_Mo_pulse_151 (by decide) (fun c_108 => absurd c_108 (by decide)) (fun _ => ?_)
    refine lv_aload_n hx hb md_Mo_pulse_154 rfl (lv_at hl 0 rfl) ?_
    refine lv_iload_n hx hb md_Mo_pulse_155 rfl (lv_at hl 1 rfl) ?_
    refine lv_iload_n hx hb md_Mo_pulse_156 rfl (lv_at hl 3 rfl) ?_
    refine lv_iconst (v := (2 : Int32)) hx hb md_Mo_pulse_157 (by decide) ?_
    refine lv_idiv hx hb md_Mo_pulse_158 (by decide) ?_
    refine fw_top (y := (1 : Int32)) (by decide) ?_
    refine fw_cb (va_runV (As := [.int (0 : Int32), .int (1 : Int32)]) (rest := []) ⟨hx, hb, hml, hown, hts⟩ (mc_Mo_isGood_0 l hD v hI (1 : Int32) (fw_inc (by decide))) (mw_Mo_isGood hts L_Mo_250 ⟨Nat.le_of_ble_eq_true rfl, Nat.le_of_ble_eq_true rfl⟩) (fw_preV hN hK hP (mm_0 (by decide)) (mk_0 0) rfl) rfl rfl hl.1 rfl (lv_room (Nat.le_of_ble_eq_true rfl)) md_Mo_pulse_159 ⟨Nat.le_of_ble_eq_true rfl, Nat.le_of_ble_eq_true rfl⟩) hS (fun r109 H locs zr109 er109 hP hS => ?_)
    refine lv_istore (lv' := [(4, .int r109), (0, .ref (ad 0 0)), (1, .int (0 : Int32)), (2, .int (2 : Int32)), (3, .int (3 : Int32))]) hx hb md_Mo_pulse_162 hl (by decide) rfl (fun ls hl => ?_)
    refine lv_aload_n hx hb md_Mo_pulse_164 rfl (lv_at hl 1 rfl) ?_
    refine fw_getr hx hb hts i_Mo hown hK hP (mm_0 (by decide)) (mk_0 0) rfl 8 (by decide) (hts _ L_Mo_35) (fun _ h9 => h9) rfl md_Mo_pulse_165 ?_
    refine lv_iload_n hx hb md_Mo_pulse_168 rfl (lv_at hl 4 rfl) ?_
    refine lv_iload hx hb md_Mo_pulse_169 (lv_at hl 0 rfl) ?_
    refine lv_if_eq (tgt := 205) hx hb md_Mo_pulse_171 (by decide) (fun c_110 => ?_) (fun c_110 => ?_)
    · exact J61 v (r109) _ _ _ (by rw [hj]; subst er109; simp only [mf_Mo_pulse_0_j60, if_pos c_110]) zr109  hI hP hS (lv_sub hl [1, 2, 3, 4, 0] rfl)
    · have h_113 : vp_in (v 43 0 1) 8 := mp_isGood_0_1 er109 c_110 (hI.1 43 0 1)
      refine lv_iload_n hx hb md_Mo_pulse_174 rfl (lv_at hl 4 rfl) ?_
      refine lv_iconst (v := (2 : Int32)) hx hb md_Mo_pulse_175 (by decide) ?_
      refine lv_irem hx hb md_Mo_pulse_176 (by decide) ?_
      refine fw_top (y := (1 : Int32)) (by decide) ?_
      refine lv_aload_n hx hb md_Mo_pulse_177 rfl (lv_at hl 1 rfl) ?_
      refine lv_iconst (v := (3 : Int32)) hx hb md_Mo_pulse_178 (by decide) ?_
      refine lv_iload_n hx hb md_Mo_pulse_179 rfl (lv_at hl 2 rfl) ?_
      refine lv_imul hx hb md_Mo_pulse_180 ?_
      refine fw_top (y := (0 : Int32)) (by decide) ?_
      refine lv_iload_n hx hb md_Mo_pulse_181 rfl (lv_at hl 4 rfl) ?_
      refine lv_iconst (v := (2 : Int32)) hx hb md_Mo_pulse_182 (by decide) ?_
      refine lv_idiv hx hb md_Mo_pulse_183 (by decide) ?_
      refine fw_top (y := (1 : Int32)) (by decide) ?_
      refine lv_iadd hx hb md_Mo_pulse_184 ?_
      refine fw_top (y := (1 : Int32)) (by decide) ?_
      refine fw_co (va_runV (As := [.int (1 : Int32)]) (rest := [.int (1 : Int32), .int (3 : Int32), .ref (ad 9 0)]) ⟨hx, hb, hml, hown, hts⟩ (mc_Mo_insAt l hD v hI (1 : Int32) (fw_inc (by decide))) (mw_Mo_insAt hts L_Mo_263 ⟨Nat.le_of_ble_eq_true rfl, Nat.le_of_ble_eq_true rfl⟩) (fw_preV hN hK hP (mm_0 (by decide)) (mk_0 0) rfl) rfl rfl hl.1 rfl (lv_room (Nat.le_of_ble_eq_true rfl)) md_Mo_pulse_185 ⟨Nat.le_of_ble_eq_true rfl, Nat.le_of_ble_eq_true rfl⟩) hS (fun r114 H locs er114 hP hS => ?_)
      refine lv_icmp_ge (tgt := 205) hx hb md_Mo_pulse_188 (by decide) (fun c_115 => ?_) (fun c_115 => ?_)
      · exact J61 v (r109) _ _ _ (by rw [hj]; subst er109 er114; simp only [mf_Mo_pulse_0_j60, if_neg c_110, if_pos c_115]) zr109  hI hP hS (lv_sub hl [1, 2, 3, 4, 0] rfl)
      · refine lv_aload_n hx hb md_Mo_pulse_191 rfl (lv_at hl 1 rfl) ?_
        refine fw_getr hx hb hts i_Mo hown hK hP (mm_0 (by decide)) (mk_0 0) rfl 44 (by decide) (hts _ L_Mo_140) (fun _ h9 => h9) rfl md_Mo_pulse_192 ?_
        refine lv_bipush (v := (6 : Int32)) hx hb md_Mo_pulse_195 (by decide) ?_
        refine lv_iload_n hx hb md_Mo_pulse_197 rfl (lv_at hl 2 rfl) ?_
        refine lv_imul hx hb md_Mo_pulse_198 ?_
        refine fw_top (y := (0 : Int32)) (by decide) ?_
        refine lv_iload_n hx hb md_Mo_pulse_199 rfl (lv_at hl 4 rfl) ?_
        refine lv_iadd hx hb md_Mo_pulse_200 ?_
        refine fw_top (y := (3 : Int32)) (by decide) ?_
        refine fw_iald hx hb hK hP (mm_45 (by decide)) (mk_45 0) 0 rfl (j := 3) (by decide) (fw_inc (by decide)) md_Mo_pulse_201 ?_
        refine lv_goto (tgt := 206) hx hb md_Mo_pulse_202 (by decide) ?_
        exact J65 v (r109) ((v 45 0 3)) _ _ _ (by rw [hj]; subst er109 er114; simp only [mf_Mo_pulse_0_j60, if_neg c_110, if_neg c_115]) zr109  hI hP hS (lv_sub hl [1, 2, 3, 4, 0] rfl)
  have J59 : ∀ (v : fw_V)  (H : Heap) (locs : List Loc) (ls : Array Slot), mf_Mo_pulse_0 v0 = mf_Mo_pulse_0_j59 v → mI b v → va_P D vcls (fw_w mCL cA mkd ad v) H → va_S (fw_A mCL ad) s.heap H locs → lv_has ls 5 [(0, .ref (ad 0 0)), (1, .int (0 : Int32)), (3, .int (2 : Int32))] → W p l e (headSpec (Cond.code my_Mo_pulse mb_Mo_pulse 5 none :: vTB) mrm_Mo_pulse).room s m ([.ref (ad 0 0), .int (0 : Int32)] : List Value).toArray below meth c H locs 0 0 (MQ below (fw_Qv D vcls mCL cA mkd ad (mI b) (mf_Mo_pulse_0 v0)) ([.ref (ad 0 0), .int (0 : Int32)] : List Value).toArray s 0 0 (fw_A mCL ad)) (F0 m 222 ls [.int (2 : Int32), .int (0 : Int32)]) := by
    intro v  H locs ls hj  hI hP hS hl
    clear J25 J24 J27 J26 J23 J22 J28 J21 J20 J33 J34 J32 J31 J35 J30 J29 J19 J18 J36 J17 J16 J46 J45 J48 J47 J44 J43 J49 J42 J41 J54 J55 J53 J52 J56 J51 J50 J40 J39 J57 J38 J37 J15 J14 J58 J13 J12 J63 J64 J62 J61 J65
    refine lv_ior hx hb md_Mo_pulse_222 ?_
    refine fw_top (y := (2 : Int32)) (by decide) ?_
    refine lv_istore_n (lv' := [(2, .int (2 : Int32)), (0, .ref (ad 0 0)), (1, .int (0 : Int32)), (3, .int (2 : Int32))]) hx hb md_Mo_pulse_223 rfl hl (by decide) rfl (fun ls hl => ?_)
    refine lv_iinc (v := (3 : Int32)) (lv' := [(3, .int (3 : Int32)), (2, .int (2 : Int32)), (0, .ref (ad 0 0)), (1, .int (0 : Int32))]) hx hb md_Mo_pulse_224 hl (k := 3) rfl (by decide) (by decide) rfl (fun ls hl => ?_)
    refine lv_goto (tgt := 148) hx hb md_Mo_pulse_227 (by decide) ?_
    exact J60 v  _ _ _ (by rw [hj]; simp only [mf_Mo_pulse_0_j59])   hI hP hS (lv_sub hl [2, 3, 1, 0] rfl)
  have J11 : ∀ (v : fw_V) (x4 : Int32) (H : Heap) (locs : List Loc) (ls : Array Slot), mf_Mo_pulse_0 v0 = mf_Mo_pulse_0_j11 v x4 → (x4 = 0 ∨ x4 = 1) → mI b v → va_P D vcls (fw_w mCL cA mkd ad v) H → va_S (fw_A mCL ad) s.heap H locs → lv_has ls 5 [(0, .ref (ad 0 0)), (1, .int (0 : Int32)), (2, .int (0 : Int32)), (3, .int (2 : Int32)), (4, .int x4)] → W p l e (headSpec (Cond.code my_Mo_pulse mb_Mo_pulse 5 none :: vTB) mrm_Mo_pulse).room s m ([.ref (ad 0 0), .int (0 : Int32)] : List Value).toArray below meth c H locs 0 0 (MQ below (fw_Qv D vcls mCL cA mkd ad (mI b) (mf_Mo_pulse_0 v0)) ([.ref (ad 0 0), .int (0 : Int32)] : List Value).toArray s 0 0 (fw_A mCL ad)) (F0 m 206 ls [.int (0 : Int32), .int (2 : Int32), .ref (ad 9 0)]) := by
    intro v x4 H locs ls hj hc0 hI hP hS hl
    clear J25 J24 J27 J26 J23 J22 J28 J21 J20 J33 J34 J32 J31 J35 J30 J29 J19 J18 J36 J17 J16 J46 J45 J48 J47 J44 J43 J49 J42 J41 J54 J55 J53 J52 J56 J51 J50 J40 J39 J57 J38 J37 J15 J14 J58 J13 J63 J64 J62 J61 J65 J60
    refine fw_iast hx hb hK hD hP hS (mm_9 (by decide)) (mk_9 0) 0 rfl (j := 2) (by decide) (fw_inc (by decide)) md_Mo_pulse_206 (fun v20 H locs ev20 hP hS => ?_)
    have hI : mI b v20 := by rw [ev20]; exact mI_up hI trivial trivial
    refine lv_iload_n hx hb md_Mo_pulse_207 rfl (lv_at hl 2 rfl) ?_
    refine lv_iload hx hb md_Mo_pulse_208 (lv_at hl 4 rfl) ?_
    refine lv_if_eq (tgt := 221) hx hb md_Mo_pulse_210 (by decide) (fun c_21 => ?_) (fun c_21 => ?_)
    · refine lv_iconst (v := (0 : Int32)) hx hb md_Mo_pulse_221 (by decide) ?_
      exact J12 v20  _ _ _ (by rw [hj]; subst ev20; simp only [mf_Mo_pulse_0_j11, if_pos c_21])   hI hP hS (lv_sub hl [0, 1, 3] rfl)
    · refine lv_iconst (v := (1 : Int32)) hx hb md_Mo_pulse_213 (by decide) ?_
      refine lv_iload_n hx hb md_Mo_pulse_214 rfl (lv_at hl 3 rfl) ?_
      refine lv_iconst (v := (2 : Int32)) hx hb md_Mo_pulse_215 (by decide) ?_
      refine lv_idiv hx hb md_Mo_pulse_216 (by decide) ?_
      refine fw_top (y := (1 : Int32)) (by decide) ?_
      refine lv_ishl hx hb md_Mo_pulse_217 ?_
      refine fw_top (y := (2 : Int32)) (by decide) ?_
      refine lv_goto (tgt := 222) hx hb md_Mo_pulse_218 (by decide) ?_
      exact J59 v20  _ _ _ (by rw [hj]; subst ev20; simp only [mf_Mo_pulse_0_j11, if_neg c_21])   hI hP hS (lv_sub hl [0, 1, 3] rfl)
  have J10 : ∀ (v : fw_V) (x4 : Int32) (H : Heap) (locs : List Loc) (ls : Array Slot), mf_Mo_pulse_0 v0 = mf_Mo_pulse_0_j10 v x4 → (x4 = 0 ∨ x4 = 1) → mI b v → va_P D vcls (fw_w mCL cA mkd ad v) H → va_S (fw_A mCL ad) s.heap H locs → lv_has ls 5 [(0, .ref (ad 0 0)), (1, .int (0 : Int32)), (2, .int (0 : Int32)), (3, .int (2 : Int32)), (4, .int x4)] → W p l e (headSpec (Cond.code my_Mo_pulse mb_Mo_pulse 5 none :: vTB) mrm_Mo_pulse).room s m ([.ref (ad 0 0), .int (0 : Int32)] : List Value).toArray below meth c H locs 0 0 (MQ below (fw_Qv D vcls mCL cA mkd ad (mI b) (mf_Mo_pulse_0 v0)) ([.ref (ad 0 0), .int (0 : Int32)] : List Value).toArray s 0 0 (fw_A mCL ad)) (F0 m 205 ls [.int (2 : Int32), .ref (ad 9 0)]) := by
    intro v x4 H locs ls hj hc0 hI hP hS hl
    clear J25 J24 J27 J26 J23 J22 J28 J21 J20 J33 J34 J32 J31 J35 J30 J29 J19 J18 J36 J17 J16 J46 J45 J48 J47 J44 J43 J49 J42 J41 J54 J55 J53 J52 J56 J51 J50 J40 J39 J57 J38 J37 J15 J14 J58 J13 J12 J63 J64 J62 J61 J65 J60 J59
    refine lv_iconst (v := (0 : Int32)) hx hb md_Mo_pulse_205 (by decide) ?_
    exact J11 v (x4) _ _ _ (by rw [hj]; simp only [mf_Mo_pulse_0_j10]) hc0  hI hP hS (lv_sub hl [0, 1, 2, 3, 4] rfl)
  have J66 : ∀ (v : fw_V) (x4 : Int32) (x90 : Int32) (H : Heap) (locs : List Loc) (ls : Array Slot), mf_Mo_pulse_0 v0 = mf_Mo_pulse_0_j66 v x4 x90 → (x4 = 0 ∨ x4 = 1) → mI b v → va_P D vcls (fw_w mCL cA mkd ad v) H → va_S (fw_A mCL ad) s.heap H locs → lv_has ls 5 [(0, .ref (ad 0 0)), (1, .int (0 : Int32)), (2, .int (0 : Int32)), (3, .int (2 : Int32)), (4, .int x4)] → W p l e (headSpec (Cond.code my_Mo_pulse mb_Mo_pulse 5 none :: vTB) mrm_Mo_pulse).room s m ([.ref (ad 0 0), .int (0 : Int32)] : List Value).toArray below meth c H locs 0 0 (MQ below (fw_Qv D vcls mCL cA mkd ad (mI b) (mf_Mo_pulse_0 v0)) ([.ref (ad 0 0), .int (0 : Int32)] : List Value).toArray s 0 0 (fw_A mCL ad)) (F0 m 206 ls [.int x90, .int (2 : Int32), .ref (ad 9 0)]) := by
    intro v x4 x90 H locs ls hj hc0 hI hP hS hl
    clear J25 J24 J27 J26 J23 J22 J28 J21 J20 J33 J34 J32 J31 J35 J30 J29 J19 J18 J36 J17 J16 J46 J45 J48 J47 J44 J43 J49 J42 J41 J54 J55 J53 J52 J56 J51 J50 J40 J39 J57 J38 J37 J15 J14 J58 J13 J63 J64 J62 J61 J65 J60 J11 J10
    refine fw_iast hx hb hK hD hP hS (mm_9 (by decide)) (mk_9 0) 0 rfl (j := 2) (by decide) (fw_inc (by decide)) md_Mo_pulse_206 (fun v121 H locs ev121 hP hS => ?_)
    have hI : mI b v121 := by rw [ev121]; exact mI_up hI trivial trivial
    refine lv_iload_n hx hb md_Mo_pulse_207 rfl (lv_at hl 2 rfl) ?_
    refine lv_iload hx hb md_Mo_pulse_208 (lv_at hl 4 rfl) ?_
    refine lv_if_eq (tgt := 221) hx hb md_Mo_pulse_210 (by decide) (fun c_122 => ?_) (fun c_122 => ?_)
    · refine lv_iconst (v := (0 : Int32)) hx hb md_Mo_pulse_221 (by decide) ?_
      exact J12 v121  _ _ _ (by rw [hj]; subst ev121; simp only [mf_Mo_pulse_0_j66, if_pos c_122])   hI hP hS (lv_sub hl [0, 1, 3] rfl)
    · refine lv_iconst (v := (1 : Int32)) hx hb md_Mo_pulse_213 (by decide) ?_
      refine lv_iload_n hx hb md_Mo_pulse_214 rfl (lv_at hl 3 rfl) ?_
      refine lv_iconst (v := (2 : Int32)) hx hb md_Mo_pulse_215 (by decide) ?_
      refine lv_idiv hx hb md_Mo_pulse_216 (by decide) ?_
      refine fw_top (y := (1 : Int32)) (by decide) ?_
      refine lv_ishl hx hb md_Mo_pulse_217 ?_
      refine fw_top (y := (2 : Int32)) (by decide) ?_
      refine lv_goto (tgt := 222) hx hb md_Mo_pulse_218 (by decide) ?_
      exact J59 v121  _ _ _ (by rw [hj]; subst ev121; simp only [mf_Mo_pulse_0_j66, if_neg c_122])   hI hP hS (lv_sub hl [0, 1, 3] rfl)
  have J9 : ∀ (v : fw_V)  (H : Heap) (locs : List Loc) (ls : Array Slot), mf_Mo_pulse_0 v0 = mf_Mo_pulse_0_j9 v → mI b v → va_P D vcls (fw_w mCL cA mkd ad v) H → va_S (fw_A mCL ad) s.heap H locs → lv_has ls 5 [(0, .ref (ad 0 0)), (1, .int (0 : Int32)), (2, .int (0 : Int32)), (3, .int (2 : Int32))] → W p l e (headSpec (Cond.code my_Mo_pulse mb_Mo_pulse 5 none :: vTB) mrm_Mo_pulse).room s m ([.ref (ad 0 0), .int (0 : Int32)] : List Value).toArray below meth c H locs 0 0 (MQ below (fw_Qv D vcls mCL cA mkd ad (mI b) (mf_Mo_pulse_0 v0)) ([.ref (ad 0 0), .int (0 : Int32)] : List Value).toArray s 0 0 (fw_A mCL ad)) (F0 m 148 ls []) := by
    intro v  H locs ls hj  hI hP hS hl
    clear J25 J24 J27 J26 J23 J22 J28 J21 J20 J33 J34 J32 J31 J35 J30 J29 J19 J18 J36 J17 J16 J46 J45 J48 J47 J44 J43 J49 J42 J41 J54 J55 J53 J52 J56 J51 J50 J40 J39 J57 J38 J37 J15 J14 J58 J13 J12 J63 J64 J62 J61 J65 J60 J59 J11
    refine lv_iload_n hx hb md_Mo_pulse_148 rfl (lv_at hl 3 rfl) ?_
    refine lv_bipush (v := (6 : Int32)) hx hb md_Mo_pulse_149 (by decide) ?_
    refine lv_icmp_ge (tgt := 230) hx hb md_Mo_pulse_151 (by decide) (fun c_17 => absurd c_17 (by decide)) (fun _ => ?_)
    refine lv_aload_n hx hb md_Mo_pulse_154 rfl (lv_at hl 0 rfl) ?_
    refine lv_iload_n hx hb md_Mo_pulse_155 rfl (lv_at hl 1 rfl) ?_
    refine lv_iload_n hx hb md_Mo_pulse_156 rfl (lv_at hl 3 rfl) ?_
    refine lv_iconst (v := (2 : Int32)) hx hb md_Mo_pulse_157 (by decide) ?_
    refine lv_idiv hx hb md_Mo_pulse_158 (by decide) ?_
    refine fw_top (y := (1 : Int32)) (by decide) ?_
    refine fw_cb (va_runV (As := [.int (0 : Int32), .int (1 : Int32)]) (rest := []) ⟨hx, hb, hml, hown, hts⟩ (mc_Mo_isGood_0 l hD v hI (1 : Int32) (fw_inc (by decide))) (mw_Mo_isGood hts L_Mo_250 ⟨Nat.le_of_ble_eq_true rfl, Nat.le_of_ble_eq_true rfl⟩) (fw_preV hN hK hP (mm_0 (by decide)) (mk_0 0) rfl) rfl rfl hl.1 rfl (lv_room (Nat.le_of_ble_eq_true rfl)) md_Mo_pulse_159 ⟨Nat.le_of_ble_eq_true rfl, Nat.le_of_ble_eq_true rfl⟩) hS (fun r18 H locs zr18 er18 hP hS => ?_)
    refine lv_istore (lv' := [(4, .int r18), (0, .ref (ad 0 0)), (1, .int (0 : Int32)), (2, .int (0 : Int32)), (3, .int (2 : Int32))]) hx hb md_Mo_pulse_162 hl (by decide) rfl (fun ls hl => ?_)
    refine lv_aload_n hx hb md_Mo_pulse_164 rfl (lv_at hl 1 rfl) ?_
    refine fw_getr hx hb hts i_Mo hown hK hP (mm_0 (by decide)) (mk_0 0) rfl 8 (by decide) (hts _ L_Mo_35) (fun _ h9 => h9) rfl md_Mo_pulse_165 ?_
    refine lv_iload_n hx hb md_Mo_pulse_168 rfl (lv_at hl 4 rfl) ?_
    refine lv_iload hx hb md_Mo_pulse_169 (lv_at hl 0 rfl) ?_
    refine lv_if_eq (tgt := 205) hx hb md_Mo_pulse_171 (by decide) (fun c_19 => ?_) (fun c_19 => ?_)
    · exact J10 v (r18) _ _ _ (by rw [hj]; subst er18; simp only [mf_Mo_pulse_0_j9, if_pos c_19]) zr18  hI hP hS (lv_sub hl [1, 2, 3, 4, 0] rfl)
    · have h_118 : vp_in (v 43 0 1) 8 := mp_isGood_0_1 er18 c_19 (hI.1 43 0 1)
      refine lv_iload_n hx hb md_Mo_pulse_174 rfl (lv_at hl 4 rfl) ?_
      refine lv_iconst (v := (2 : Int32)) hx hb md_Mo_pulse_175 (by decide) ?_
      refine lv_irem hx hb md_Mo_pulse_176 (by decide) ?_
      refine fw_top (y := (0 : Int32)) (by decide) ?_
      refine lv_aload_n hx hb md_Mo_pulse_177 rfl (lv_at hl 1 rfl) ?_
      refine lv_iconst (v := (3 : Int32)) hx hb md_Mo_pulse_178 (by decide) ?_
      refine lv_iload_n hx hb md_Mo_pulse_179 rfl (lv_at hl 2 rfl) ?_
      refine lv_imul hx hb md_Mo_pulse_180 ?_
      refine fw_top (y := (0 : Int32)) (by decide) ?_
      refine lv_iload_n hx hb md_Mo_pulse_181 rfl (lv_at hl 4 rfl) ?_
      refine lv_iconst (v := (2 : Int32)) hx hb md_Mo_pulse_182 (by decide) ?_
      refine lv_idiv hx hb md_Mo_pulse_183 (by decide) ?_
      refine fw_top (y := (1 : Int32)) (by decide) ?_
      refine lv_iadd hx hb md_Mo_pulse_184 ?_
      refine fw_top (y := (1 : Int32)) (by decide) ?_
      refine fw_co (va_runV (As := [.int (1 : Int32)]) (rest := [.int (0 : Int32), .int (2 : Int32), .ref (ad 9 0)]) ⟨hx, hb, hml, hown, hts⟩ (mc_Mo_insAt l hD v hI (1 : Int32) (fw_inc (by decide))) (mw_Mo_insAt hts L_Mo_263 ⟨Nat.le_of_ble_eq_true rfl, Nat.le_of_ble_eq_true rfl⟩) (fw_preV hN hK hP (mm_0 (by decide)) (mk_0 0) rfl) rfl rfl hl.1 rfl (lv_room (Nat.le_of_ble_eq_true rfl)) md_Mo_pulse_185 ⟨Nat.le_of_ble_eq_true rfl, Nat.le_of_ble_eq_true rfl⟩) hS (fun r119 H locs er119 hP hS => ?_)
      refine lv_icmp_ge (tgt := 205) hx hb md_Mo_pulse_188 (by decide) (fun c_120 => ?_) (fun c_120 => ?_)
      · exact J10 v (r18) _ _ _ (by rw [hj]; subst er18 er119; simp only [mf_Mo_pulse_0_j9, if_neg c_19, if_pos c_120]) zr18  hI hP hS (lv_sub hl [1, 2, 3, 4, 0] rfl)
      · refine lv_aload_n hx hb md_Mo_pulse_191 rfl (lv_at hl 1 rfl) ?_
        refine fw_getr hx hb hts i_Mo hown hK hP (mm_0 (by decide)) (mk_0 0) rfl 44 (by decide) (hts _ L_Mo_140) (fun _ h9 => h9) rfl md_Mo_pulse_192 ?_
        refine lv_bipush (v := (6 : Int32)) hx hb md_Mo_pulse_195 (by decide) ?_
        refine lv_iload_n hx hb md_Mo_pulse_197 rfl (lv_at hl 2 rfl) ?_
        refine lv_imul hx hb md_Mo_pulse_198 ?_
        refine fw_top (y := (0 : Int32)) (by decide) ?_
        refine lv_iload_n hx hb md_Mo_pulse_199 rfl (lv_at hl 4 rfl) ?_
        refine lv_iadd hx hb md_Mo_pulse_200 ?_
        refine fw_top (y := (2 : Int32)) (by decide) ?_
        refine fw_iald hx hb hK hP (mm_45 (by decide)) (mk_45 0) 0 rfl (j := 2) (by decide) (fw_inc (by decide)) md_Mo_pulse_201 ?_
        refine lv_goto (tgt := 206) hx hb md_Mo_pulse_202 (by decide) ?_
        exact J66 v (r18) ((v 45 0 2)) _ _ _ (by rw [hj]; subst er18 er119; simp only [mf_Mo_pulse_0_j9, if_neg c_19, if_neg c_120]) zr18  hI hP hS (lv_sub hl [1, 2, 3, 4, 0] rfl)
  have J8 : ∀ (v : fw_V)  (H : Heap) (locs : List Loc) (ls : Array Slot), mf_Mo_pulse_0 v0 = mf_Mo_pulse_0_j8 v → mI b v → va_P D vcls (fw_w mCL cA mkd ad v) H → va_S (fw_A mCL ad) s.heap H locs → lv_has ls 5 [(0, .ref (ad 0 0)), (1, .int (0 : Int32)), (3, .int (1 : Int32))] → W p l e (headSpec (Cond.code my_Mo_pulse mb_Mo_pulse 5 none :: vTB) mrm_Mo_pulse).room s m ([.ref (ad 0 0), .int (0 : Int32)] : List Value).toArray below meth c H locs 0 0 (MQ below (fw_Qv D vcls mCL cA mkd ad (mI b) (mf_Mo_pulse_0 v0)) ([.ref (ad 0 0), .int (0 : Int32)] : List Value).toArray s 0 0 (fw_A mCL ad)) (F0 m 222 ls [.int (0 : Int32), .int (0 : Int32)]) := by
    intro v  H locs ls hj  hI hP hS hl
    clear J25 J24 J27 J26 J23 J22 J28 J21 J20 J33 J34 J32 J31 J35 J30 J29 J19 J18 J36 J17 J16 J46 J45 J48 J47 J44 J43 J49 J42 J41 J54 J55 J53 J52 J56 J51 J50 J40 J39 J57 J38 J37 J15 J14 J58 J13 J12 J63 J64 J62 J61 J65 J60 J59 J11 J10 J66
    refine lv_ior hx hb md_Mo_pulse_222 ?_
    refine fw_top (y := (0 : Int32)) (by decide) ?_
    refine lv_istore_n (lv' := [(2, .int (0 : Int32)), (0, .ref (ad 0 0)), (1, .int (0 : Int32)), (3, .int (1 : Int32))]) hx hb md_Mo_pulse_223 rfl hl (by decide) rfl (fun ls hl => ?_)
    refine lv_iinc (v := (2 : Int32)) (lv' := [(3, .int (2 : Int32)), (2, .int (0 : Int32)), (0, .ref (ad 0 0)), (1, .int (0 : Int32))]) hx hb md_Mo_pulse_224 hl (k := 3) rfl (by decide) (by decide) rfl (fun ls hl => ?_)
    refine lv_goto (tgt := 148) hx hb md_Mo_pulse_227 (by decide) ?_
    exact J9 v  _ _ _ (by rw [hj]; simp only [mf_Mo_pulse_0_j8])   hI hP hS (lv_sub hl [2, 3, 1, 0] rfl)
  have J84 : ∀ (v : fw_V)  (H : Heap) (locs : List Loc) (ls : Array Slot), mf_Mo_pulse_0 v0 = mf_Mo_pulse_0_j84 v → mI b v → va_P D vcls (fw_w mCL cA mkd ad v) H → va_S (fw_A mCL ad) s.heap H locs → lv_has ls 5 [(0, .ref (ad 0 0)), (1, .int (0 : Int32)), (2, .int (1 : Int32)), (3, .int (6 : Int32))] → W p l e (headSpec (Cond.code my_Mo_pulse mb_Mo_pulse 5 none :: vTB) mrm_Mo_pulse).room s m ([.ref (ad 0 0), .int (0 : Int32)] : List Value).toArray below meth c H locs 0 0 (MQ below (fw_Qv D vcls mCL cA mkd ad (mI b) (mf_Mo_pulse_0 v0)) ([.ref (ad 0 0), .int (0 : Int32)] : List Value).toArray s 0 0 (fw_A mCL ad)) (F0 m 148 ls []) := by
    intro v  H locs ls hj  hI hP hS hl
    clear J25 J24 J27 J26 J23 J22 J28 J21 J20 J33 J34 J32 J31 J35 J30 J29 J19 J18 J36 J17 J16 J46 J45 J48 J47 J44 J43 J49 J42 J41 J54 J55 J53 J52 J56 J51 J50 J40 J39 J57 J38 J37 J15 J14 J58 J13 J12 J63 J64 J62 J61 J65 J60 J59 J11 J10 J66 J9 J8
    refine lv_iload_n hx hb md_Mo_pulse_148 rfl (lv_at hl 3 rfl) ?_
    refine lv_bipush (v := (6 : Int32)) hx hb md_Mo_pulse_149 (by decide) ?_
    refine lv_icmp_ge (tgt := 230) hx hb md_Mo_pulse_151 (by decide) (fun _ => ?_) (fun c_143 => absurd (by decide) c_143)
    refine lv_aload_n hx hb md_Mo_pulse_230 rfl (lv_at hl 0 rfl) ?_
    refine fw_getr hx hb hts i_Mo hown hK hP (mm_0 (by decide)) (mk_0 0) rfl 8 (by decide) (hts _ L_Mo_35) (fun _ h9 => h9) rfl md_Mo_pulse_231 ?_
    refine lv_bipush (v := (6 : Int32)) hx hb md_Mo_pulse_234 (by decide) ?_
    refine lv_iload_n hx hb md_Mo_pulse_236 rfl (lv_at hl 2 rfl) ?_
    refine fw_iast hx hb hK hD hP hS (mm_9 (by decide)) (mk_9 0) 0 rfl (j := 6) (by decide) (fw_inc (by decide)) md_Mo_pulse_237 (fun v144 H locs ev144 hP hS => ?_)
    have hI : mI b v144 := by rw [ev144]; exact mI_up hI trivial trivial
    refine lv_aload_n hx hb md_Mo_pulse_238 rfl (lv_at hl 0 rfl) ?_
    refine lv_iload_n hx hb md_Mo_pulse_239 rfl (lv_at hl 1 rfl) ?_
    refine lv_bipush (v := (13 : Int32)) hx hb md_Mo_pulse_240 (by decide) ?_
    refine lv_aload_n hx hb md_Mo_pulse_242 rfl (lv_at hl 0 rfl) ?_
    refine fw_getr hx hb hts i_Mo hown hK hP (mm_0 (by decide)) (mk_0 0) rfl 33 (by decide) (hts _ L_Mo_107) (fun _ h9 => h9) rfl md_Mo_pulse_243 ?_
    refine lv_iload_n hx hb md_Mo_pulse_246 rfl (lv_at hl 1 rfl) ?_
    refine fw_iald hx hb hK hP (mm_34 (by decide)) (mk_34 0) 0 rfl (j := 0) (by decide) (fw_inc (by decide)) md_Mo_pulse_247 ?_
    refine fw_cv (va_runV (As := [.int (0 : Int32), .int (13 : Int32), .int (v144 34 0 0)]) (rest := []) ⟨hx, hb, hml, hown, hts⟩ (mc_Mo_reply_0 l hD v144 hI (13 : Int32) (v144 34 0 0) (fun q => absurd q (by decide)) (by decide) (by decide)) (mw_Mo_reply hts L_Mo_238 ⟨Nat.le_of_ble_eq_true rfl, Nat.le_of_ble_eq_true rfl⟩) (fw_preV hN hK hP (mm_0 (by decide)) (mk_0 0) rfl) rfl rfl hl.1 rfl (lv_room (Nat.le_of_ble_eq_true rfl)) md_Mo_pulse_248 ⟨Nat.le_of_ble_eq_true rfl, Nat.le_of_ble_eq_true rfl⟩) hS (fun v145 H locs ev145 hI hP hS => ?_)
    refine lv_aload_n hx hb md_Mo_pulse_251 rfl (lv_at hl 0 rfl) ?_
    refine fw_getr hx hb hts i_Mo hown hK hP (mm_0 (by decide)) (mk_0 0) rfl 33 (by decide) (hts _ L_Mo_107) (fun _ h9 => h9) rfl md_Mo_pulse_252 ?_
    refine lv_iload_n hx hb md_Mo_pulse_255 rfl (lv_at hl 1 rfl) ?_
    refine lv_aload_n hx hb md_Mo_pulse_256 rfl (lv_at hl 0 rfl) ?_
    refine fw_getr hx hb hts i_Mo hown hK hP (mm_0 (by decide)) (mk_0 0) rfl 33 (by decide) (hts _ L_Mo_107) (fun _ h9 => h9) rfl md_Mo_pulse_257 ?_
    refine lv_iload_n hx hb md_Mo_pulse_260 rfl (lv_at hl 1 rfl) ?_
    refine fw_iald hx hb hK hP (mm_34 (by decide)) (mk_34 0) 0 rfl (j := 0) (by decide) (fw_inc (by decide)) md_Mo_pulse_261 ?_
    refine lv_iconst (v := (1 : Int32)) hx hb md_Mo_pulse_262 (by decide) ?_
    refine lv_iadd hx hb md_Mo_pulse_263 ?_
    refine lv_sipush (v := (255 : Int32)) hx hb md_Mo_pulse_264 (by decide) ?_
    refine lv_iand hx hb md_Mo_pulse_267 ?_
    refine fw_iast hx hb hK hD hP hS (mm_34 (by decide)) (mk_34 0) 0 rfl (j := 0) (by decide) (fw_inc (by decide)) md_Mo_pulse_268 (fun v146 H locs ev146 hP hS => ?_)
    have hI : mI b v146 := by rw [ev146]; exact mI_up hI trivial trivial
    exact fw_vret hx hb hr hlocks hS hP hI md_Mo_pulse_269 (by rw [hj]; subst ev144 ev145 ev146; simp only [mf_Mo_pulse_0_j84])
  have J83 : ∀ (v : fw_V)  (H : Heap) (locs : List Loc) (ls : Array Slot), mf_Mo_pulse_0 v0 = mf_Mo_pulse_0_j83 v → mI b v → va_P D vcls (fw_w mCL cA mkd ad v) H → va_S (fw_A mCL ad) s.heap H locs → lv_has ls 5 [(0, .ref (ad 0 0)), (1, .int (0 : Int32)), (3, .int (5 : Int32))] → W p l e (headSpec (Cond.code my_Mo_pulse mb_Mo_pulse 5 none :: vTB) mrm_Mo_pulse).room s m ([.ref (ad 0 0), .int (0 : Int32)] : List Value).toArray below meth c H locs 0 0 (MQ below (fw_Qv D vcls mCL cA mkd ad (mI b) (mf_Mo_pulse_0 v0)) ([.ref (ad 0 0), .int (0 : Int32)] : List Value).toArray s 0 0 (fw_A mCL ad)) (F0 m 222 ls [.int (0 : Int32), .int (1 : Int32)]) := by
    intro v  H locs ls hj  hI hP hS hl
    clear J25 J24 J27 J26 J23 J22 J28 J21 J20 J33 J34 J32 J31 J35 J30 J29 J19 J18 J36 J17 J16 J46 J45 J48 J47 J44 J43 J49 J42 J41 J54 J55 J53 J52 J56 J51 J50 J40 J39 J57 J38 J37 J15 J14 J58 J13 J12 J63 J64 J62 J61 J65 J60 J59 J11 J10 J66 J9 J8
    refine lv_ior hx hb md_Mo_pulse_222 ?_
    refine fw_top (y := (1 : Int32)) (by decide) ?_
    refine lv_istore_n (lv' := [(2, .int (1 : Int32)), (0, .ref (ad 0 0)), (1, .int (0 : Int32)), (3, .int (5 : Int32))]) hx hb md_Mo_pulse_223 rfl hl (by decide) rfl (fun ls hl => ?_)
    refine lv_iinc (v := (6 : Int32)) (lv' := [(3, .int (6 : Int32)), (2, .int (1 : Int32)), (0, .ref (ad 0 0)), (1, .int (0 : Int32))]) hx hb md_Mo_pulse_224 hl (k := 3) rfl (by decide) (by decide) rfl (fun ls hl => ?_)
    refine lv_goto (tgt := 148) hx hb md_Mo_pulse_227 (by decide) ?_
    exact J84 v  _ _ _ (by rw [hj]; simp only [mf_Mo_pulse_0_j83])   hI hP hS (lv_sub hl [2, 3, 1, 0] rfl)
  have J86 : ∀ (v : fw_V)  (H : Heap) (locs : List Loc) (ls : Array Slot), mf_Mo_pulse_0 v0 = mf_Mo_pulse_0_j86 v → mI b v → va_P D vcls (fw_w mCL cA mkd ad v) H → va_S (fw_A mCL ad) s.heap H locs → lv_has ls 5 [(0, .ref (ad 0 0)), (1, .int (0 : Int32)), (2, .int (5 : Int32)), (3, .int (6 : Int32))] → W p l e (headSpec (Cond.code my_Mo_pulse mb_Mo_pulse 5 none :: vTB) mrm_Mo_pulse).room s m ([.ref (ad 0 0), .int (0 : Int32)] : List Value).toArray below meth c H locs 0 0 (MQ below (fw_Qv D vcls mCL cA mkd ad (mI b) (mf_Mo_pulse_0 v0)) ([.ref (ad 0 0), .int (0 : Int32)] : List Value).toArray s 0 0 (fw_A mCL ad)) (F0 m 148 ls []) := by
    intro v  H locs ls hj  hI hP hS hl
    clear J25 J24 J27 J26 J23 J22 J28 J21 J20 J33 J34 J32 J31 J35 J30 J29 J19 J18 J36 J17 J16 J46 J45 J48 J47 J44 J43 J49 J42 J41 J54 J55 J53 J52 J56 J51 J50 J40 J39 J57 J38 J37 J15 J14 J58 J13 J12 J63 J64 J62 J61 J65 J60 J59 J11 J10 J66 J9 J8 J84 J83
    refine lv_iload_n hx hb md_Mo_pulse_148 rfl (lv_at hl 3 rfl) ?_
    refine lv_bipush (v := (6 : Int32)) hx hb md_Mo_pulse_149 (by decide) ?_
    refine lv_icmp_ge (tgt := 230) hx hb md_Mo_pulse_151 (by decide) (fun _ => ?_) (fun c_147 => absurd (by decide) c_147)
    refine lv_aload_n hx hb md_Mo_pulse_230 rfl (lv_at hl 0 rfl) ?_
    refine fw_getr hx hb hts i_Mo hown hK hP (mm_0 (by decide)) (mk_0 0) rfl 8 (by decide) (hts _ L_Mo_35) (fun _ h9 => h9) rfl md_Mo_pulse_231 ?_
    refine lv_bipush (v := (6 : Int32)) hx hb md_Mo_pulse_234 (by decide) ?_
    refine lv_iload_n hx hb md_Mo_pulse_236 rfl (lv_at hl 2 rfl) ?_
    refine fw_iast hx hb hK hD hP hS (mm_9 (by decide)) (mk_9 0) 0 rfl (j := 6) (by decide) (fw_inc (by decide)) md_Mo_pulse_237 (fun v148 H locs ev148 hP hS => ?_)
    have hI : mI b v148 := by rw [ev148]; exact mI_up hI trivial trivial
    refine lv_aload_n hx hb md_Mo_pulse_238 rfl (lv_at hl 0 rfl) ?_
    refine lv_iload_n hx hb md_Mo_pulse_239 rfl (lv_at hl 1 rfl) ?_
    refine lv_bipush (v := (13 : Int32)) hx hb md_Mo_pulse_240 (by decide) ?_
    refine lv_aload_n hx hb md_Mo_pulse_242 rfl (lv_at hl 0 rfl) ?_
    refine fw_getr hx hb hts i_Mo hown hK hP (mm_0 (by decide)) (mk_0 0) rfl 33 (by decide) (hts _ L_Mo_107) (fun _ h9 => h9) rfl md_Mo_pulse_243 ?_
    refine lv_iload_n hx hb md_Mo_pulse_246 rfl (lv_at hl 1 rfl) ?_
    refine fw_iald hx hb hK hP (mm_34 (by decide)) (mk_34 0) 0 rfl (j := 0) (by decide) (fw_inc (by decide)) md_Mo_pulse_247 ?_
    refine fw_cv (va_runV (As := [.int (0 : Int32), .int (13 : Int32), .int (v148 34 0 0)]) (rest := []) ⟨hx, hb, hml, hown, hts⟩ (mc_Mo_reply_0 l hD v148 hI (13 : Int32) (v148 34 0 0) (fun q => absurd q (by decide)) (by decide) (by decide)) (mw_Mo_reply hts L_Mo_238 ⟨Nat.le_of_ble_eq_true rfl, Nat.le_of_ble_eq_true rfl⟩) (fw_preV hN hK hP (mm_0 (by decide)) (mk_0 0) rfl) rfl rfl hl.1 rfl (lv_room (Nat.le_of_ble_eq_true rfl)) md_Mo_pulse_248 ⟨Nat.le_of_ble_eq_true rfl, Nat.le_of_ble_eq_true rfl⟩) hS (fun v149 H locs ev149 hI hP hS => ?_)
    refine lv_aload_n hx hb md_Mo_pulse_251 rfl (lv_at hl 0 rfl) ?_
    refine fw_getr hx hb hts i_Mo hown hK hP (mm_0 (by decide)) (mk_0 0) rfl 33 (by decide) (hts _ L_Mo_107) (fun _ h9 => h9) rfl md_Mo_pulse_252 ?_
    refine lv_iload_n hx hb md_Mo_pulse_255 rfl (lv_at hl 1 rfl) ?_
    refine lv_aload_n hx hb md_Mo_pulse_256 rfl (lv_at hl 0 rfl) ?_
    refine fw_getr hx hb hts i_Mo hown hK hP (mm_0 (by decide)) (mk_0 0) rfl 33 (by decide) (hts _ L_Mo_107) (fun _ h9 => h9) rfl md_Mo_pulse_257 ?_
    refine lv_iload_n hx hb md_Mo_pulse_260 rfl (lv_at hl 1 rfl) ?_
    refine fw_iald hx hb hK hP (mm_34 (by decide)) (mk_34 0) 0 rfl (j := 0) (by decide) (fw_inc (by decide)) md_Mo_pulse_261 ?_
    refine lv_iconst (v := (1 : Int32)) hx hb md_Mo_pulse_262 (by decide) ?_
    refine lv_iadd hx hb md_Mo_pulse_263 ?_
    refine lv_sipush (v := (255 : Int32)) hx hb md_Mo_pulse_264 (by decide) ?_
    refine lv_iand hx hb md_Mo_pulse_267 ?_
    refine fw_iast hx hb hK hD hP hS (mm_34 (by decide)) (mk_34 0) 0 rfl (j := 0) (by decide) (fw_inc (by decide)) md_Mo_pulse_268 (fun v150 H locs ev150 hP hS => ?_)
    have hI : mI b v150 := by rw [ev150]; exact mI_up hI trivial trivial
    exact fw_vret hx hb hr hlocks hS hP hI md_Mo_pulse_269 (by rw [hj]; subst ev148 ev149 ev150; simp only [mf_Mo_pulse_0_j86])
  have J85 : ∀ (v : fw_V)  (H : Heap) (locs : List Loc) (ls : Array Slot), mf_Mo_pulse_0 v0 = mf_Mo_pulse_0_j85 v → mI b v → va_P D vcls (fw_w mCL cA mkd ad v) H → va_S (fw_A mCL ad) s.heap H locs → lv_has ls 5 [(0, .ref (ad 0 0)), (1, .int (0 : Int32)), (3, .int (5 : Int32))] → W p l e (headSpec (Cond.code my_Mo_pulse mb_Mo_pulse 5 none :: vTB) mrm_Mo_pulse).room s m ([.ref (ad 0 0), .int (0 : Int32)] : List Value).toArray below meth c H locs 0 0 (MQ below (fw_Qv D vcls mCL cA mkd ad (mI b) (mf_Mo_pulse_0 v0)) ([.ref (ad 0 0), .int (0 : Int32)] : List Value).toArray s 0 0 (fw_A mCL ad)) (F0 m 222 ls [.int (4 : Int32), .int (1 : Int32)]) := by
    intro v  H locs ls hj  hI hP hS hl
    clear J25 J24 J27 J26 J23 J22 J28 J21 J20 J33 J34 J32 J31 J35 J30 J29 J19 J18 J36 J17 J16 J46 J45 J48 J47 J44 J43 J49 J42 J41 J54 J55 J53 J52 J56 J51 J50 J40 J39 J57 J38 J37 J15 J14 J58 J13 J12 J63 J64 J62 J61 J65 J60 J59 J11 J10 J66 J9 J8 J84 J83
    refine lv_ior hx hb md_Mo_pulse_222 ?_
    refine fw_top (y := (5 : Int32)) (by decide) ?_
    refine lv_istore_n (lv' := [(2, .int (5 : Int32)), (0, .ref (ad 0 0)), (1, .int (0 : Int32)), (3, .int (5 : Int32))]) hx hb md_Mo_pulse_223 rfl hl (by decide) rfl (fun ls hl => ?_)
    refine lv_iinc (v := (6 : Int32)) (lv' := [(3, .int (6 : Int32)), (2, .int (5 : Int32)), (0, .ref (ad 0 0)), (1, .int (0 : Int32))]) hx hb md_Mo_pulse_224 hl (k := 3) rfl (by decide) (by decide) rfl (fun ls hl => ?_)
    refine lv_goto (tgt := 148) hx hb md_Mo_pulse_227 (by decide) ?_
    exact J86 v  _ _ _ (by rw [hj]; simp only [mf_Mo_pulse_0_j85])   hI hP hS (lv_sub hl [2, 3, 1, 0] rfl)
  have J82 : ∀ (v : fw_V) (x4 : Int32) (H : Heap) (locs : List Loc) (ls : Array Slot), mf_Mo_pulse_0 v0 = mf_Mo_pulse_0_j82 v x4 → (x4 = 0 ∨ x4 = 1) → mI b v → va_P D vcls (fw_w mCL cA mkd ad v) H → va_S (fw_A mCL ad) s.heap H locs → lv_has ls 5 [(0, .ref (ad 0 0)), (1, .int (0 : Int32)), (2, .int (1 : Int32)), (3, .int (5 : Int32)), (4, .int x4)] → W p l e (headSpec (Cond.code my_Mo_pulse mb_Mo_pulse 5 none :: vTB) mrm_Mo_pulse).room s m ([.ref (ad 0 0), .int (0 : Int32)] : List Value).toArray below meth c H locs 0 0 (MQ below (fw_Qv D vcls mCL cA mkd ad (mI b) (mf_Mo_pulse_0 v0)) ([.ref (ad 0 0), .int (0 : Int32)] : List Value).toArray s 0 0 (fw_A mCL ad)) (F0 m 206 ls [.int (0 : Int32), .int (5 : Int32), .ref (ad 9 0)]) := by
    intro v x4 H locs ls hj hc0 hI hP hS hl
    clear J25 J24 J27 J26 J23 J22 J28 J21 J20 J33 J34 J32 J31 J35 J30 J29 J19 J18 J36 J17 J16 J46 J45 J48 J47 J44 J43 J49 J42 J41 J54 J55 J53 J52 J56 J51 J50 J40 J39 J57 J38 J37 J15 J14 J58 J13 J12 J63 J64 J62 J61 J65 J60 J59 J11 J10 J66 J9 J8 J84 J86
    refine fw_iast hx hb hK hD hP hS (mm_9 (by decide)) (mk_9 0) 0 rfl (j := 5) (by decide) (fw_inc (by decide)) md_Mo_pulse_206 (fun v141 H locs ev141 hP hS => ?_)
    have hI : mI b v141 := by rw [ev141]; exact mI_up hI trivial trivial
    refine lv_iload_n hx hb md_Mo_pulse_207 rfl (lv_at hl 2 rfl) ?_
    refine lv_iload hx hb md_Mo_pulse_208 (lv_at hl 4 rfl) ?_
    refine lv_if_eq (tgt := 221) hx hb md_Mo_pulse_210 (by decide) (fun c_142 => ?_) (fun c_142 => ?_)
    · refine lv_iconst (v := (0 : Int32)) hx hb md_Mo_pulse_221 (by decide) ?_
      exact J83 v141  _ _ _ (by rw [hj]; subst ev141; simp only [mf_Mo_pulse_0_j82, if_pos c_142])   hI hP hS (lv_sub hl [0, 1, 3] rfl)
    · refine lv_iconst (v := (1 : Int32)) hx hb md_Mo_pulse_213 (by decide) ?_
      refine lv_iload_n hx hb md_Mo_pulse_214 rfl (lv_at hl 3 rfl) ?_
      refine lv_iconst (v := (2 : Int32)) hx hb md_Mo_pulse_215 (by decide) ?_
      refine lv_idiv hx hb md_Mo_pulse_216 (by decide) ?_
      refine fw_top (y := (2 : Int32)) (by decide) ?_
      refine lv_ishl hx hb md_Mo_pulse_217 ?_
      refine fw_top (y := (4 : Int32)) (by decide) ?_
      refine lv_goto (tgt := 222) hx hb md_Mo_pulse_218 (by decide) ?_
      exact J85 v141  _ _ _ (by rw [hj]; subst ev141; simp only [mf_Mo_pulse_0_j82, if_neg c_142])   hI hP hS (lv_sub hl [0, 1, 3] rfl)
  have J81 : ∀ (v : fw_V) (x4 : Int32) (H : Heap) (locs : List Loc) (ls : Array Slot), mf_Mo_pulse_0 v0 = mf_Mo_pulse_0_j81 v x4 → (x4 = 0 ∨ x4 = 1) → mI b v → va_P D vcls (fw_w mCL cA mkd ad v) H → va_S (fw_A mCL ad) s.heap H locs → lv_has ls 5 [(0, .ref (ad 0 0)), (1, .int (0 : Int32)), (2, .int (1 : Int32)), (3, .int (5 : Int32)), (4, .int x4)] → W p l e (headSpec (Cond.code my_Mo_pulse mb_Mo_pulse 5 none :: vTB) mrm_Mo_pulse).room s m ([.ref (ad 0 0), .int (0 : Int32)] : List Value).toArray below meth c H locs 0 0 (MQ below (fw_Qv D vcls mCL cA mkd ad (mI b) (mf_Mo_pulse_0 v0)) ([.ref (ad 0 0), .int (0 : Int32)] : List Value).toArray s 0 0 (fw_A mCL ad)) (F0 m 205 ls [.int (5 : Int32), .ref (ad 9 0)]) := by
    intro v x4 H locs ls hj hc0 hI hP hS hl
    clear J25 J24 J27 J26 J23 J22 J28 J21 J20 J33 J34 J32 J31 J35 J30 J29 J19 J18 J36 J17 J16 J46 J45 J48 J47 J44 J43 J49 J42 J41 J54 J55 J53 J52 J56 J51 J50 J40 J39 J57 J38 J37 J15 J14 J58 J13 J12 J63 J64 J62 J61 J65 J60 J59 J11 J10 J66 J9 J8 J84 J83 J86 J85
    refine lv_iconst (v := (0 : Int32)) hx hb md_Mo_pulse_205 (by decide) ?_
    exact J82 v (x4) _ _ _ (by rw [hj]; simp only [mf_Mo_pulse_0_j81]) hc0  hI hP hS (lv_sub hl [0, 1, 2, 3, 4] rfl)
  have J87 : ∀ (v : fw_V) (x4 : Int32) (x90 : Int32) (H : Heap) (locs : List Loc) (ls : Array Slot), mf_Mo_pulse_0 v0 = mf_Mo_pulse_0_j87 v x4 x90 → (x4 = 0 ∨ x4 = 1) → mI b v → va_P D vcls (fw_w mCL cA mkd ad v) H → va_S (fw_A mCL ad) s.heap H locs → lv_has ls 5 [(0, .ref (ad 0 0)), (1, .int (0 : Int32)), (2, .int (1 : Int32)), (3, .int (5 : Int32)), (4, .int x4)] → W p l e (headSpec (Cond.code my_Mo_pulse mb_Mo_pulse 5 none :: vTB) mrm_Mo_pulse).room s m ([.ref (ad 0 0), .int (0 : Int32)] : List Value).toArray below meth c H locs 0 0 (MQ below (fw_Qv D vcls mCL cA mkd ad (mI b) (mf_Mo_pulse_0 v0)) ([.ref (ad 0 0), .int (0 : Int32)] : List Value).toArray s 0 0 (fw_A mCL ad)) (F0 m 206 ls [.int x90, .int (5 : Int32), .ref (ad 9 0)]) := by
    intro v x4 x90 H locs ls hj hc0 hI hP hS hl
    clear J25 J24 J27 J26 J23 J22 J28 J21 J20 J33 J34 J32 J31 J35 J30 J29 J19 J18 J36 J17 J16 J46 J45 J48 J47 J44 J43 J49 J42 J41 J54 J55 J53 J52 J56 J51 J50 J40 J39 J57 J38 J37 J15 J14 J58 J13 J12 J63 J64 J62 J61 J65 J60 J59 J11 J10 J66 J9 J8 J84 J86 J82 J81
    refine fw_iast hx hb hK hD hP hS (mm_9 (by decide)) (mk_9 0) 0 rfl (j := 5) (by decide) (fw_inc (by decide)) md_Mo_pulse_206 (fun v154 H locs ev154 hP hS => ?_)
    have hI : mI b v154 := by rw [ev154]; exact mI_up hI trivial trivial
    refine lv_iload_n hx hb md_Mo_pulse_207 rfl (lv_at hl 2 rfl) ?_
    refine lv_iload hx hb md_Mo_pulse_208 (lv_at hl 4 rfl) ?_
    refine lv_if_eq (tgt := 221) hx hb md_Mo_pulse_210 (by decide) (fun c_155 => ?_) (fun c_155 => ?_)
    · refine lv_iconst (v := (0 : Int32)) hx hb md_Mo_pulse_221 (by decide) ?_
      exact J83 v154  _ _ _ (by rw [hj]; subst ev154; simp only [mf_Mo_pulse_0_j87, if_pos c_155])   hI hP hS (lv_sub hl [0, 1, 3] rfl)
    · refine lv_iconst (v := (1 : Int32)) hx hb md_Mo_pulse_213 (by decide) ?_
      refine lv_iload_n hx hb md_Mo_pulse_214 rfl (lv_at hl 3 rfl) ?_
      refine lv_iconst (v := (2 : Int32)) hx hb md_Mo_pulse_215 (by decide) ?_
      refine lv_idiv hx hb md_Mo_pulse_216 (by decide) ?_
      refine fw_top (y := (2 : Int32)) (by decide) ?_
      refine lv_ishl hx hb md_Mo_pulse_217 ?_
      refine fw_top (y := (4 : Int32)) (by decide) ?_
      refine lv_goto (tgt := 222) hx hb md_Mo_pulse_218 (by decide) ?_
      exact J85 v154  _ _ _ (by rw [hj]; subst ev154; simp only [mf_Mo_pulse_0_j87, if_neg c_155])   hI hP hS (lv_sub hl [0, 1, 3] rfl)
  have J80 : ∀ (v : fw_V)  (H : Heap) (locs : List Loc) (ls : Array Slot), mf_Mo_pulse_0 v0 = mf_Mo_pulse_0_j80 v → mI b v → va_P D vcls (fw_w mCL cA mkd ad v) H → va_S (fw_A mCL ad) s.heap H locs → lv_has ls 5 [(0, .ref (ad 0 0)), (1, .int (0 : Int32)), (2, .int (1 : Int32)), (3, .int (5 : Int32))] → W p l e (headSpec (Cond.code my_Mo_pulse mb_Mo_pulse 5 none :: vTB) mrm_Mo_pulse).room s m ([.ref (ad 0 0), .int (0 : Int32)] : List Value).toArray below meth c H locs 0 0 (MQ below (fw_Qv D vcls mCL cA mkd ad (mI b) (mf_Mo_pulse_0 v0)) ([.ref (ad 0 0), .int (0 : Int32)] : List Value).toArray s 0 0 (fw_A mCL ad)) (F0 m 148 ls []) := by
    intro v  H locs ls hj  hI hP hS hl
    clear J25 J24 J27 J26 J23 J22 J28 J21 J20 J33 J34 J32 J31 J35 J30 J29 J19 J18 J36 J17 J16 J46 J45 J48 J47 J44 J43 J49 J42 J41 J54 J55 J53 J52 J56 J51 J50 J40 J39 J57 J38 J37 J15 J14 J58 J13 J12 J63 J64 J62 J61 J65 J60 J59 J11 J10 J66 J9 J8 J84 J83 J86 J85 J82
    refine lv_iload_n hx hb md_Mo_pulse_148 rfl (lv_at hl 3 rfl) ?_
    refine lv_bipush (v := (6 : Int32)) hx hb md_Mo_pulse_149 (by decide) ?_
    refine lv_icmp_ge (tgt := 230) hx hb md_Mo_pulse_151 (by decide) (fun c_138 => absurd c_138 (by decide)) (fun _ => ?_)
    refine lv_aload_n hx hb md_Mo_pulse_154 rfl (lv_at hl 0 rfl) ?_
    refine lv_iload_n hx hb md_Mo_pulse_155 rfl (lv_at hl 1 rfl) ?_
    refine lv_iload_n hx hb md_Mo_pulse_156 rfl (lv_at hl 3 rfl) ?_
    refine lv_iconst (v := (2 : Int32)) hx hb md_Mo_pulse_157 (by decide) ?_
    refine lv_idiv hx hb md_Mo_pulse_158 (by decide) ?_
    refine fw_top (y := (2 : Int32)) (by decide) ?_
    refine fw_cb (va_runV (As := [.int (0 : Int32), .int (2 : Int32)]) (rest := []) ⟨hx, hb, hml, hown, hts⟩ (mc_Mo_isGood_0 l hD v hI (2 : Int32) (fw_inc (by decide))) (mw_Mo_isGood hts L_Mo_250 ⟨Nat.le_of_ble_eq_true rfl, Nat.le_of_ble_eq_true rfl⟩) (fw_preV hN hK hP (mm_0 (by decide)) (mk_0 0) rfl) rfl rfl hl.1 rfl (lv_room (Nat.le_of_ble_eq_true rfl)) md_Mo_pulse_159 ⟨Nat.le_of_ble_eq_true rfl, Nat.le_of_ble_eq_true rfl⟩) hS (fun r139 H locs zr139 er139 hP hS => ?_)
    refine lv_istore (lv' := [(4, .int r139), (0, .ref (ad 0 0)), (1, .int (0 : Int32)), (2, .int (1 : Int32)), (3, .int (5 : Int32))]) hx hb md_Mo_pulse_162 hl (by decide) rfl (fun ls hl => ?_)
    refine lv_aload_n hx hb md_Mo_pulse_164 rfl (lv_at hl 1 rfl) ?_
    refine fw_getr hx hb hts i_Mo hown hK hP (mm_0 (by decide)) (mk_0 0) rfl 8 (by decide) (hts _ L_Mo_35) (fun _ h9 => h9) rfl md_Mo_pulse_165 ?_
    refine lv_iload_n hx hb md_Mo_pulse_168 rfl (lv_at hl 4 rfl) ?_
    refine lv_iload hx hb md_Mo_pulse_169 (lv_at hl 0 rfl) ?_
    refine lv_if_eq (tgt := 205) hx hb md_Mo_pulse_171 (by decide) (fun c_140 => ?_) (fun c_140 => ?_)
    · exact J81 v (r139) _ _ _ (by rw [hj]; subst er139; simp only [mf_Mo_pulse_0_j80, if_pos c_140]) zr139  hI hP hS (lv_sub hl [1, 2, 3, 4, 0] rfl)
    · have h_151 : vp_in (v 43 0 2) 8 := mp_isGood_0_2 er139 c_140 (hI.1 43 0 2)
      refine lv_iload_n hx hb md_Mo_pulse_174 rfl (lv_at hl 4 rfl) ?_
      refine lv_iconst (v := (2 : Int32)) hx hb md_Mo_pulse_175 (by decide) ?_
      refine lv_irem hx hb md_Mo_pulse_176 (by decide) ?_
      refine fw_top (y := (1 : Int32)) (by decide) ?_
      refine lv_aload_n hx hb md_Mo_pulse_177 rfl (lv_at hl 1 rfl) ?_
      refine lv_iconst (v := (3 : Int32)) hx hb md_Mo_pulse_178 (by decide) ?_
      refine lv_iload_n hx hb md_Mo_pulse_179 rfl (lv_at hl 2 rfl) ?_
      refine lv_imul hx hb md_Mo_pulse_180 ?_
      refine fw_top (y := (0 : Int32)) (by decide) ?_
      refine lv_iload_n hx hb md_Mo_pulse_181 rfl (lv_at hl 4 rfl) ?_
      refine lv_iconst (v := (2 : Int32)) hx hb md_Mo_pulse_182 (by decide) ?_
      refine lv_idiv hx hb md_Mo_pulse_183 (by decide) ?_
      refine fw_top (y := (2 : Int32)) (by decide) ?_
      refine lv_iadd hx hb md_Mo_pulse_184 ?_
      refine fw_top (y := (2 : Int32)) (by decide) ?_
      refine fw_co (va_runV (As := [.int (2 : Int32)]) (rest := [.int (1 : Int32), .int (5 : Int32), .ref (ad 9 0)]) ⟨hx, hb, hml, hown, hts⟩ (mc_Mo_insAt l hD v hI (2 : Int32) (fw_inc (by decide))) (mw_Mo_insAt hts L_Mo_263 ⟨Nat.le_of_ble_eq_true rfl, Nat.le_of_ble_eq_true rfl⟩) (fw_preV hN hK hP (mm_0 (by decide)) (mk_0 0) rfl) rfl rfl hl.1 rfl (lv_room (Nat.le_of_ble_eq_true rfl)) md_Mo_pulse_185 ⟨Nat.le_of_ble_eq_true rfl, Nat.le_of_ble_eq_true rfl⟩) hS (fun r152 H locs er152 hP hS => ?_)
      refine lv_icmp_ge (tgt := 205) hx hb md_Mo_pulse_188 (by decide) (fun c_153 => ?_) (fun c_153 => ?_)
      · exact J81 v (r139) _ _ _ (by rw [hj]; subst er139 er152; simp only [mf_Mo_pulse_0_j80, if_neg c_140, if_pos c_153]) zr139  hI hP hS (lv_sub hl [1, 2, 3, 4, 0] rfl)
      · refine lv_aload_n hx hb md_Mo_pulse_191 rfl (lv_at hl 1 rfl) ?_
        refine fw_getr hx hb hts i_Mo hown hK hP (mm_0 (by decide)) (mk_0 0) rfl 44 (by decide) (hts _ L_Mo_140) (fun _ h9 => h9) rfl md_Mo_pulse_192 ?_
        refine lv_bipush (v := (6 : Int32)) hx hb md_Mo_pulse_195 (by decide) ?_
        refine lv_iload_n hx hb md_Mo_pulse_197 rfl (lv_at hl 2 rfl) ?_
        refine lv_imul hx hb md_Mo_pulse_198 ?_
        refine fw_top (y := (0 : Int32)) (by decide) ?_
        refine lv_iload_n hx hb md_Mo_pulse_199 rfl (lv_at hl 4 rfl) ?_
        refine lv_iadd hx hb md_Mo_pulse_200 ?_
        refine fw_top (y := (5 : Int32)) (by decide) ?_
        refine fw_iald hx hb hK hP (mm_45 (by decide)) (mk_45 0) 0 rfl (j := 5) (by decide) (fw_inc (by decide)) md_Mo_pulse_201 ?_
        refine lv_goto (tgt := 206) hx hb md_Mo_pulse_202 (by decide) ?_
        exact J87 v (r139) ((v 45 0 5)) _ _ _ (by rw [hj]; subst er139 er152; simp only [mf_Mo_pulse_0_j80, if_neg c_140, if_neg c_153]) zr139  hI hP hS (lv_sub hl [1, 2, 3, 4, 0] rfl)
  have J79 : ∀ (v : fw_V)  (H : Heap) (locs : List Loc) (ls : Array Slot), mf_Mo_pulse_0 v0 = mf_Mo_pulse_0_j79 v → mI b v → va_P D vcls (fw_w mCL cA mkd ad v) H → va_S (fw_A mCL ad) s.heap H locs → lv_has ls 5 [(0, .ref (ad 0 0)), (1, .int (0 : Int32)), (3, .int (4 : Int32))] → W p l e (headSpec (Cond.code my_Mo_pulse mb_Mo_pulse 5 none :: vTB) mrm_Mo_pulse).room s m ([.ref (ad 0 0), .int (0 : Int32)] : List Value).toArray below meth c H locs 0 0 (MQ below (fw_Qv D vcls mCL cA mkd ad (mI b) (mf_Mo_pulse_0 v0)) ([.ref (ad 0 0), .int (0 : Int32)] : List Value).toArray s 0 0 (fw_A mCL ad)) (F0 m 222 ls [.int (0 : Int32), .int (1 : Int32)]) := by
    intro v  H locs ls hj  hI hP hS hl
    clear J25 J24 J27 J26 J23 J22 J28 J21 J20 J33 J34 J32 J31 J35 J30 J29 J19 J18 J36 J17 J16 J46 J45 J48 J47 J44 J43 J49 J42 J41 J54 J55 J53 J52 J56 J51 J50 J40 J39 J57 J38 J37 J15 J14 J58 J13 J12 J63 J64 J62 J61 J65 J60 J59 J11 J10 J66 J9 J8 J84 J83 J86 J85 J82 J81 J87
    refine lv_ior hx hb md_Mo_pulse_222 ?_
    refine fw_top (y := (1 : Int32)) (by decide) ?_
    refine lv_istore_n (lv' := [(2, .int (1 : Int32)), (0, .ref (ad 0 0)), (1, .int (0 : Int32)), (3, .int (4 : Int32))]) hx hb md_Mo_pulse_223 rfl hl (by decide) rfl (fun ls hl => ?_)
    refine lv_iinc (v := (5 : Int32)) (lv' := [(3, .int (5 : Int32)), (2, .int (1 : Int32)), (0, .ref (ad 0 0)), (1, .int (0 : Int32))]) hx hb md_Mo_pulse_224 hl (k := 3) rfl (by decide) (by decide) rfl (fun ls hl => ?_)
    refine lv_goto (tgt := 148) hx hb md_Mo_pulse_227 (by decide) ?_
    exact J80 v  _ _ _ (by rw [hj]; simp only [mf_Mo_pulse_0_j79])   hI hP hS (lv_sub hl [2, 3, 1, 0] rfl)
  have J92 : ∀ (v : fw_V)  (H : Heap) (locs : List Loc) (ls : Array Slot), mf_Mo_pulse_0 v0 = mf_Mo_pulse_0_j92 v → mI b v → va_P D vcls (fw_w mCL cA mkd ad v) H → va_S (fw_A mCL ad) s.heap H locs → lv_has ls 5 [(0, .ref (ad 0 0)), (1, .int (0 : Int32)), (3, .int (5 : Int32))] → W p l e (headSpec (Cond.code my_Mo_pulse mb_Mo_pulse 5 none :: vTB) mrm_Mo_pulse).room s m ([.ref (ad 0 0), .int (0 : Int32)] : List Value).toArray below meth c H locs 0 0 (MQ below (fw_Qv D vcls mCL cA mkd ad (mI b) (mf_Mo_pulse_0 v0)) ([.ref (ad 0 0), .int (0 : Int32)] : List Value).toArray s 0 0 (fw_A mCL ad)) (F0 m 222 ls [.int (0 : Int32), .int (5 : Int32)]) := by
    intro v  H locs ls hj  hI hP hS hl
    clear J25 J24 J27 J26 J23 J22 J28 J21 J20 J33 J34 J32 J31 J35 J30 J29 J19 J18 J36 J17 J16 J46 J45 J48 J47 J44 J43 J49 J42 J41 J54 J55 J53 J52 J56 J51 J50 J40 J39 J57 J38 J37 J15 J14 J58 J13 J12 J63 J64 J62 J61 J65 J60 J59 J11 J10 J66 J9 J8 J84 J83 J85 J82 J81 J87 J80 J79
    refine lv_ior hx hb md_Mo_pulse_222 ?_
    refine fw_top (y := (5 : Int32)) (by decide) ?_
    refine lv_istore_n (lv' := [(2, .int (5 : Int32)), (0, .ref (ad 0 0)), (1, .int (0 : Int32)), (3, .int (5 : Int32))]) hx hb md_Mo_pulse_223 rfl hl (by decide) rfl (fun ls hl => ?_)
    refine lv_iinc (v := (6 : Int32)) (lv' := [(3, .int (6 : Int32)), (2, .int (5 : Int32)), (0, .ref (ad 0 0)), (1, .int (0 : Int32))]) hx hb md_Mo_pulse_224 hl (k := 3) rfl (by decide) (by decide) rfl (fun ls hl => ?_)
    refine lv_goto (tgt := 148) hx hb md_Mo_pulse_227 (by decide) ?_
    exact J86 v  _ _ _ (by rw [hj]; simp only [mf_Mo_pulse_0_j92])   hI hP hS (lv_sub hl [2, 3, 1, 0] rfl)
  have J93 : ∀ (v : fw_V)  (H : Heap) (locs : List Loc) (ls : Array Slot), mf_Mo_pulse_0 v0 = mf_Mo_pulse_0_j93 v → mI b v → va_P D vcls (fw_w mCL cA mkd ad v) H → va_S (fw_A mCL ad) s.heap H locs → lv_has ls 5 [(0, .ref (ad 0 0)), (1, .int (0 : Int32)), (3, .int (5 : Int32))] → W p l e (headSpec (Cond.code my_Mo_pulse mb_Mo_pulse 5 none :: vTB) mrm_Mo_pulse).room s m ([.ref (ad 0 0), .int (0 : Int32)] : List Value).toArray below meth c H locs 0 0 (MQ below (fw_Qv D vcls mCL cA mkd ad (mI b) (mf_Mo_pulse_0 v0)) ([.ref (ad 0 0), .int (0 : Int32)] : List Value).toArray s 0 0 (fw_A mCL ad)) (F0 m 222 ls [.int (4 : Int32), .int (5 : Int32)]) := by
    intro v  H locs ls hj  hI hP hS hl
    clear J25 J24 J27 J26 J23 J22 J28 J21 J20 J33 J34 J32 J31 J35 J30 J29 J19 J18 J36 J17 J16 J46 J45 J48 J47 J44 J43 J49 J42 J41 J54 J55 J53 J52 J56 J51 J50 J40 J39 J57 J38 J37 J15 J14 J58 J13 J12 J63 J64 J62 J61 J65 J60 J59 J11 J10 J66 J9 J8 J84 J83 J85 J82 J81 J87 J80 J79 J92
    refine lv_ior hx hb md_Mo_pulse_222 ?_
    refine fw_top (y := (5 : Int32)) (by decide) ?_
    refine lv_istore_n (lv' := [(2, .int (5 : Int32)), (0, .ref (ad 0 0)), (1, .int (0 : Int32)), (3, .int (5 : Int32))]) hx hb md_Mo_pulse_223 rfl hl (by decide) rfl (fun ls hl => ?_)
    refine lv_iinc (v := (6 : Int32)) (lv' := [(3, .int (6 : Int32)), (2, .int (5 : Int32)), (0, .ref (ad 0 0)), (1, .int (0 : Int32))]) hx hb md_Mo_pulse_224 hl (k := 3) rfl (by decide) (by decide) rfl (fun ls hl => ?_)
    refine lv_goto (tgt := 148) hx hb md_Mo_pulse_227 (by decide) ?_
    exact J86 v  _ _ _ (by rw [hj]; simp only [mf_Mo_pulse_0_j93])   hI hP hS (lv_sub hl [2, 3, 1, 0] rfl)
  have J91 : ∀ (v : fw_V) (x4 : Int32) (H : Heap) (locs : List Loc) (ls : Array Slot), mf_Mo_pulse_0 v0 = mf_Mo_pulse_0_j91 v x4 → (x4 = 0 ∨ x4 = 1) → mI b v → va_P D vcls (fw_w mCL cA mkd ad v) H → va_S (fw_A mCL ad) s.heap H locs → lv_has ls 5 [(0, .ref (ad 0 0)), (1, .int (0 : Int32)), (2, .int (5 : Int32)), (3, .int (5 : Int32)), (4, .int x4)] → W p l e (headSpec (Cond.code my_Mo_pulse mb_Mo_pulse 5 none :: vTB) mrm_Mo_pulse).room s m ([.ref (ad 0 0), .int (0 : Int32)] : List Value).toArray below meth c H locs 0 0 (MQ below (fw_Qv D vcls mCL cA mkd ad (mI b) (mf_Mo_pulse_0 v0)) ([.ref (ad 0 0), .int (0 : Int32)] : List Value).toArray s 0 0 (fw_A mCL ad)) (F0 m 206 ls [.int (0 : Int32), .int (5 : Int32), .ref (ad 9 0)]) := by
    intro v x4 H locs ls hj hc0 hI hP hS hl
    clear J25 J24 J27 J26 J23 J22 J28 J21 J20 J33 J34 J32 J31 J35 J30 J29 J19 J18 J36 J17 J16 J46 J45 J48 J47 J44 J43 J49 J42 J41 J54 J55 J53 J52 J56 J51 J50 J40 J39 J57 J38 J37 J15 J14 J58 J13 J12 J63 J64 J62 J61 J65 J60 J59 J11 J10 J66 J9 J8 J84 J83 J86 J85 J82 J81 J87 J80 J79
    refine fw_iast hx hb hK hD hP hS (mm_9 (by decide)) (mk_9 0) 0 rfl (j := 5) (by decide) (fw_inc (by decide)) md_Mo_pulse_206 (fun v159 H locs ev159 hP hS => ?_)
    have hI : mI b v159 := by rw [ev159]; exact mI_up hI trivial trivial
    refine lv_iload_n hx hb md_Mo_pulse_207 rfl (lv_at hl 2 rfl) ?_
    refine lv_iload hx hb md_Mo_pulse_208 (lv_at hl 4 rfl) ?_
    refine lv_if_eq (tgt := 221) hx hb md_Mo_pulse_210 (by decide) (fun c_160 => ?_) (fun c_160 => ?_)
    · refine lv_iconst (v := (0 : Int32)) hx hb md_Mo_pulse_221 (by decide) ?_
      exact J92 v159  _ _ _ (by rw [hj]; subst ev159; simp only [mf_Mo_pulse_0_j91, if_pos c_160])   hI hP hS (lv_sub hl [0, 1, 3] rfl)
    · refine lv_iconst (v := (1 : Int32)) hx hb md_Mo_pulse_213 (by decide) ?_
      refine lv_iload_n hx hb md_Mo_pulse_214 rfl (lv_at hl 3 rfl) ?_
      refine lv_iconst (v := (2 : Int32)) hx hb md_Mo_pulse_215 (by decide) ?_
      refine lv_idiv hx hb md_Mo_pulse_216 (by decide) ?_
      refine fw_top (y := (2 : Int32)) (by decide) ?_
      refine lv_ishl hx hb md_Mo_pulse_217 ?_
      refine fw_top (y := (4 : Int32)) (by decide) ?_
      refine lv_goto (tgt := 222) hx hb md_Mo_pulse_218 (by decide) ?_
      exact J93 v159  _ _ _ (by rw [hj]; subst ev159; simp only [mf_Mo_pulse_0_j91, if_neg c_160])   hI hP hS (lv_sub hl [0, 1, 3] rfl)
  have J90 : ∀ (v : fw_V) (x4 : Int32) (H : Heap) (locs : List Loc) (ls : Array Slot), mf_Mo_pulse_0 v0 = mf_Mo_pulse_0_j90 v x4 → (x4 = 0 ∨ x4 = 1) → mI b v → va_P D vcls (fw_w mCL cA mkd ad v) H → va_S (fw_A mCL ad) s.heap H locs → lv_has ls 5 [(0, .ref (ad 0 0)), (1, .int (0 : Int32)), (2, .int (5 : Int32)), (3, .int (5 : Int32)), (4, .int x4)] → W p l e (headSpec (Cond.code my_Mo_pulse mb_Mo_pulse 5 none :: vTB) mrm_Mo_pulse).room s m ([.ref (ad 0 0), .int (0 : Int32)] : List Value).toArray below meth c H locs 0 0 (MQ below (fw_Qv D vcls mCL cA mkd ad (mI b) (mf_Mo_pulse_0 v0)) ([.ref (ad 0 0), .int (0 : Int32)] : List Value).toArray s 0 0 (fw_A mCL ad)) (F0 m 205 ls [.int (5 : Int32), .ref (ad 9 0)]) := by
    intro v x4 H locs ls hj hc0 hI hP hS hl
    clear J25 J24 J27 J26 J23 J22 J28 J21 J20 J33 J34 J32 J31 J35 J30 J29 J19 J18 J36 J17 J16 J46 J45 J48 J47 J44 J43 J49 J42 J41 J54 J55 J53 J52 J56 J51 J50 J40 J39 J57 J38 J37 J15 J14 J58 J13 J12 J63 J64 J62 J61 J65 J60 J59 J11 J10 J66 J9 J8 J84 J83 J86 J85 J82 J81 J87 J80 J79 J92 J93
    refine lv_iconst (v := (0 : Int32)) hx hb md_Mo_pulse_205 (by decide) ?_
    exact J91 v (x4) _ _ _ (by rw [hj]; simp only [mf_Mo_pulse_0_j90]) hc0  hI hP hS (lv_sub hl [0, 1, 2, 3, 4] rfl)
  have J94 : ∀ (v : fw_V) (x4 : Int32) (x90 : Int32) (H : Heap) (locs : List Loc) (ls : Array Slot), mf_Mo_pulse_0 v0 = mf_Mo_pulse_0_j94 v x4 x90 → (x4 = 0 ∨ x4 = 1) → mI b v → va_P D vcls (fw_w mCL cA mkd ad v) H → va_S (fw_A mCL ad) s.heap H locs → lv_has ls 5 [(0, .ref (ad 0 0)), (1, .int (0 : Int32)), (2, .int (5 : Int32)), (3, .int (5 : Int32)), (4, .int x4)] → W p l e (headSpec (Cond.code my_Mo_pulse mb_Mo_pulse 5 none :: vTB) mrm_Mo_pulse).room s m ([.ref (ad 0 0), .int (0 : Int32)] : List Value).toArray below meth c H locs 0 0 (MQ below (fw_Qv D vcls mCL cA mkd ad (mI b) (mf_Mo_pulse_0 v0)) ([.ref (ad 0 0), .int (0 : Int32)] : List Value).toArray s 0 0 (fw_A mCL ad)) (F0 m 206 ls [.int x90, .int (5 : Int32), .ref (ad 9 0)]) := by
    intro v x4 x90 H locs ls hj hc0 hI hP hS hl
    clear J25 J24 J27 J26 J23 J22 J28 J21 J20 J33 J34 J32 J31 J35 J30 J29 J19 J18 J36 J17 J16 J46 J45 J48 J47 J44 J43 J49 J42 J41 J54 J55 J53 J52 J56 J51 J50 J40 J39 J57 J38 J37 J15 J14 J58 J13 J12 J63 J64 J62 J61 J65 J60 J59 J11 J10 J66 J9 J8 J84 J83 J86 J85 J82 J81 J87 J80 J79 J91 J90
    refine fw_iast hx hb hK hD hP hS (mm_9 (by decide)) (mk_9 0) 0 rfl (j := 5) (by decide) (fw_inc (by decide)) md_Mo_pulse_206 (fun v164 H locs ev164 hP hS => ?_)
    have hI : mI b v164 := by rw [ev164]; exact mI_up hI trivial trivial
    refine lv_iload_n hx hb md_Mo_pulse_207 rfl (lv_at hl 2 rfl) ?_
    refine lv_iload hx hb md_Mo_pulse_208 (lv_at hl 4 rfl) ?_
    refine lv_if_eq (tgt := 221) hx hb md_Mo_pulse_210 (by decide) (fun c_165 => ?_) (fun c_165 => ?_)
    · refine lv_iconst (v := (0 : Int32)) hx hb md_Mo_pulse_221 (by decide) ?_
      exact J92 v164  _ _ _ (by rw [hj]; subst ev164; simp only [mf_Mo_pulse_0_j94, if_pos c_165])   hI hP hS (lv_sub hl [0, 1, 3] rfl)
    · refine lv_iconst (v := (1 : Int32)) hx hb md_Mo_pulse_213 (by decide) ?_
      refine lv_iload_n hx hb md_Mo_pulse_214 rfl (lv_at hl 3 rfl) ?_
      refine lv_iconst (v := (2 : Int32)) hx hb md_Mo_pulse_215 (by decide) ?_
      refine lv_idiv hx hb md_Mo_pulse_216 (by decide) ?_
      refine fw_top (y := (2 : Int32)) (by decide) ?_
      refine lv_ishl hx hb md_Mo_pulse_217 ?_
      refine fw_top (y := (4 : Int32)) (by decide) ?_
      refine lv_goto (tgt := 222) hx hb md_Mo_pulse_218 (by decide) ?_
      exact J93 v164  _ _ _ (by rw [hj]; subst ev164; simp only [mf_Mo_pulse_0_j94, if_neg c_165])   hI hP hS (lv_sub hl [0, 1, 3] rfl)
  have J89 : ∀ (v : fw_V)  (H : Heap) (locs : List Loc) (ls : Array Slot), mf_Mo_pulse_0 v0 = mf_Mo_pulse_0_j89 v → mI b v → va_P D vcls (fw_w mCL cA mkd ad v) H → va_S (fw_A mCL ad) s.heap H locs → lv_has ls 5 [(0, .ref (ad 0 0)), (1, .int (0 : Int32)), (2, .int (5 : Int32)), (3, .int (5 : Int32))] → W p l e (headSpec (Cond.code my_Mo_pulse mb_Mo_pulse 5 none :: vTB) mrm_Mo_pulse).room s m ([.ref (ad 0 0), .int (0 : Int32)] : List Value).toArray below meth c H locs 0 0 (MQ below (fw_Qv D vcls mCL cA mkd ad (mI b) (mf_Mo_pulse_0 v0)) ([.ref (ad 0 0), .int (0 : Int32)] : List Value).toArray s 0 0 (fw_A mCL ad)) (F0 m 148 ls []) := by
    intro v  H locs ls hj  hI hP hS hl
    clear J25 J24 J27 J26 J23 J22 J28 J21 J20 J33 J34 J32 J31 J35 J30 J29 J19 J18 J36 J17 J16 J46 J45 J48 J47 J44 J43 J49 J42 J41 J54 J55 J53 J52 J56 J51 J50 J40 J39 J57 J38 J37 J15 J14 J58 J13 J12 J63 J64 J62 J61 J65 J60 J59 J11 J10 J66 J9 J8 J84 J83 J86 J85 J82 J81 J87 J80 J79 J92 J93 J91
    refine lv_iload_n hx hb md_Mo_pulse_148 rfl (lv_at hl 3 rfl) ?_
    refine lv_bipush (v := (6 : Int32)) hx hb md_Mo_pulse_149 (by decide) ?_
    refine lv_icmp_ge (tgt := 230) hx hb md_Mo_pulse_151 (by decide) (fun c_156 => absurd c_156 (by decide)) (fun _ => ?_)
    refine lv_aload_n hx hb md_Mo_pulse_154 rfl (lv_at hl 0 rfl) ?_
    refine lv_iload_n hx hb md_Mo_pulse_155 rfl (lv_at hl 1 rfl) ?_
    refine lv_iload_n hx hb md_Mo_pulse_156 rfl (lv_at hl 3 rfl) ?_
    refine lv_iconst (v := (2 : Int32)) hx hb md_Mo_pulse_157 (by decide) ?_
    refine lv_idiv hx hb md_Mo_pulse_158 (by decide) ?_
    refine fw_top (y := (2 : Int32)) (by decide) ?_
    refine fw_cb (va_runV (As := [.int (0 : Int32), .int (2 : Int32)]) (rest := []) ⟨hx, hb, hml, hown, hts⟩ (mc_Mo_isGood_0 l hD v hI (2 : Int32) (fw_inc (by decide))) (mw_Mo_isGood hts L_Mo_250 ⟨Nat.le_of_ble_eq_true rfl, Nat.le_of_ble_eq_true rfl⟩) (fw_preV hN hK hP (mm_0 (by decide)) (mk_0 0) rfl) rfl rfl hl.1 rfl (lv_room (Nat.le_of_ble_eq_true rfl)) md_Mo_pulse_159 ⟨Nat.le_of_ble_eq_true rfl, Nat.le_of_ble_eq_true rfl⟩) hS (fun r157 H locs zr157 er157 hP hS => ?_)
    refine lv_istore (lv' := [(4, .int r157), (0, .ref (ad 0 0)), (1, .int (0 : Int32)), (2, .int (5 : Int32)), (3, .int (5 : Int32))]) hx hb md_Mo_pulse_162 hl (by decide) rfl (fun ls hl => ?_)
    refine lv_aload_n hx hb md_Mo_pulse_164 rfl (lv_at hl 1 rfl) ?_
    refine fw_getr hx hb hts i_Mo hown hK hP (mm_0 (by decide)) (mk_0 0) rfl 8 (by decide) (hts _ L_Mo_35) (fun _ h9 => h9) rfl md_Mo_pulse_165 ?_
    refine lv_iload_n hx hb md_Mo_pulse_168 rfl (lv_at hl 4 rfl) ?_
    refine lv_iload hx hb md_Mo_pulse_169 (lv_at hl 0 rfl) ?_
    refine lv_if_eq (tgt := 205) hx hb md_Mo_pulse_171 (by decide) (fun c_158 => ?_) (fun c_158 => ?_)
    · exact J90 v (r157) _ _ _ (by rw [hj]; subst er157; simp only [mf_Mo_pulse_0_j89, if_pos c_158]) zr157  hI hP hS (lv_sub hl [1, 2, 3, 4, 0] rfl)
    · have h_161 : vp_in (v 43 0 2) 8 := mp_isGood_0_2 er157 c_158 (hI.1 43 0 2)
      refine lv_iload_n hx hb md_Mo_pulse_174 rfl (lv_at hl 4 rfl) ?_
      refine lv_iconst (v := (2 : Int32)) hx hb md_Mo_pulse_175 (by decide) ?_
      refine lv_irem hx hb md_Mo_pulse_176 (by decide) ?_
      refine fw_top (y := (1 : Int32)) (by decide) ?_
      refine lv_aload_n hx hb md_Mo_pulse_177 rfl (lv_at hl 1 rfl) ?_
      refine lv_iconst (v := (3 : Int32)) hx hb md_Mo_pulse_178 (by decide) ?_
      refine lv_iload_n hx hb md_Mo_pulse_179 rfl (lv_at hl 2 rfl) ?_
      refine lv_imul hx hb md_Mo_pulse_180 ?_
      refine fw_top (y := (0 : Int32)) (by decide) ?_
      refine lv_iload_n hx hb md_Mo_pulse_181 rfl (lv_at hl 4 rfl) ?_
      refine lv_iconst (v := (2 : Int32)) hx hb md_Mo_pulse_182 (by decide) ?_
      refine lv_idiv hx hb md_Mo_pulse_183 (by decide) ?_
      refine fw_top (y := (2 : Int32)) (by decide) ?_
      refine lv_iadd hx hb md_Mo_pulse_184 ?_
      refine fw_top (y := (2 : Int32)) (by decide) ?_
      refine fw_co (va_runV (As := [.int (2 : Int32)]) (rest := [.int (1 : Int32), .int (5 : Int32), .ref (ad 9 0)]) ⟨hx, hb, hml, hown, hts⟩ (mc_Mo_insAt l hD v hI (2 : Int32) (fw_inc (by decide))) (mw_Mo_insAt hts L_Mo_263 ⟨Nat.le_of_ble_eq_true rfl, Nat.le_of_ble_eq_true rfl⟩) (fw_preV hN hK hP (mm_0 (by decide)) (mk_0 0) rfl) rfl rfl hl.1 rfl (lv_room (Nat.le_of_ble_eq_true rfl)) md_Mo_pulse_185 ⟨Nat.le_of_ble_eq_true rfl, Nat.le_of_ble_eq_true rfl⟩) hS (fun r162 H locs er162 hP hS => ?_)
      refine lv_icmp_ge (tgt := 205) hx hb md_Mo_pulse_188 (by decide) (fun c_163 => ?_) (fun c_163 => ?_)
      · exact J90 v (r157) _ _ _ (by rw [hj]; subst er157 er162; simp only [mf_Mo_pulse_0_j89, if_neg c_158, if_pos c_163]) zr157  hI hP hS (lv_sub hl [1, 2, 3, 4, 0] rfl)
      · refine lv_aload_n hx hb md_Mo_pulse_191 rfl (lv_at hl 1 rfl) ?_
        refine fw_getr hx hb hts i_Mo hown hK hP (mm_0 (by decide)) (mk_0 0) rfl 44 (by decide) (hts _ L_Mo_140) (fun _ h9 => h9) rfl md_Mo_pulse_192 ?_
        refine lv_bipush (v := (6 : Int32)) hx hb md_Mo_pulse_195 (by decide) ?_
        refine lv_iload_n hx hb md_Mo_pulse_197 rfl (lv_at hl 2 rfl) ?_
        refine lv_imul hx hb md_Mo_pulse_198 ?_
        refine fw_top (y := (0 : Int32)) (by decide) ?_
        refine lv_iload_n hx hb md_Mo_pulse_199 rfl (lv_at hl 4 rfl) ?_
        refine lv_iadd hx hb md_Mo_pulse_200 ?_
        refine fw_top (y := (5 : Int32)) (by decide) ?_
        refine fw_iald hx hb hK hP (mm_45 (by decide)) (mk_45 0) 0 rfl (j := 5) (by decide) (fw_inc (by decide)) md_Mo_pulse_201 ?_
        refine lv_goto (tgt := 206) hx hb md_Mo_pulse_202 (by decide) ?_
        exact J94 v (r157) ((v 45 0 5)) _ _ _ (by rw [hj]; subst er157 er162; simp only [mf_Mo_pulse_0_j89, if_neg c_158, if_neg c_163]) zr157  hI hP hS (lv_sub hl [1, 2, 3, 4, 0] rfl)
  have J88 : ∀ (v : fw_V)  (H : Heap) (locs : List Loc) (ls : Array Slot), mf_Mo_pulse_0 v0 = mf_Mo_pulse_0_j88 v → mI b v → va_P D vcls (fw_w mCL cA mkd ad v) H → va_S (fw_A mCL ad) s.heap H locs → lv_has ls 5 [(0, .ref (ad 0 0)), (1, .int (0 : Int32)), (3, .int (4 : Int32))] → W p l e (headSpec (Cond.code my_Mo_pulse mb_Mo_pulse 5 none :: vTB) mrm_Mo_pulse).room s m ([.ref (ad 0 0), .int (0 : Int32)] : List Value).toArray below meth c H locs 0 0 (MQ below (fw_Qv D vcls mCL cA mkd ad (mI b) (mf_Mo_pulse_0 v0)) ([.ref (ad 0 0), .int (0 : Int32)] : List Value).toArray s 0 0 (fw_A mCL ad)) (F0 m 222 ls [.int (4 : Int32), .int (1 : Int32)]) := by
    intro v  H locs ls hj  hI hP hS hl
    clear J25 J24 J27 J26 J23 J22 J28 J21 J20 J33 J34 J32 J31 J35 J30 J29 J19 J18 J36 J17 J16 J46 J45 J48 J47 J44 J43 J49 J42 J41 J54 J55 J53 J52 J56 J51 J50 J40 J39 J57 J38 J37 J15 J14 J58 J13 J12 J63 J64 J62 J61 J65 J60 J59 J11 J10 J66 J9 J8 J84 J83 J86 J85 J82 J81 J87 J80 J79 J92 J93 J91 J90 J94
    refine lv_ior hx hb md_Mo_pulse_222 ?_
    refine fw_top (y := (5 : Int32)) (by decide) ?_
    refine lv_istore_n (lv' := [(2, .int (5 : Int32)), (0, .ref (ad 0 0)), (1, .int (0 : Int32)), (3, .int (4 : Int32))]) hx hb md_Mo_pulse_223 rfl hl (by decide) rfl (fun ls hl => ?_)
    refine lv_iinc (v := (5 : Int32)) (lv' := [(3, .int (5 : Int32)), (2, .int (5 : Int32)), (0, .ref (ad 0 0)), (1, .int (0 : Int32))]) hx hb md_Mo_pulse_224 hl (k := 3) rfl (by decide) (by decide) rfl (fun ls hl => ?_)
    refine lv_goto (tgt := 148) hx hb md_Mo_pulse_227 (by decide) ?_
    exact J89 v  _ _ _ (by rw [hj]; simp only [mf_Mo_pulse_0_j88])   hI hP hS (lv_sub hl [2, 3, 1, 0] rfl)
  have J78 : ∀ (v : fw_V) (x4 : Int32) (H : Heap) (locs : List Loc) (ls : Array Slot), mf_Mo_pulse_0 v0 = mf_Mo_pulse_0_j78 v x4 → (x4 = 0 ∨ x4 = 1) → mI b v → va_P D vcls (fw_w mCL cA mkd ad v) H → va_S (fw_A mCL ad) s.heap H locs → lv_has ls 5 [(0, .ref (ad 0 0)), (1, .int (0 : Int32)), (2, .int (1 : Int32)), (3, .int (4 : Int32)), (4, .int x4)] → W p l e (headSpec (Cond.code my_Mo_pulse mb_Mo_pulse 5 none :: vTB) mrm_Mo_pulse).room s m ([.ref (ad 0 0), .int (0 : Int32)] : List Value).toArray below meth c H locs 0 0 (MQ below (fw_Qv D vcls mCL cA mkd ad (mI b) (mf_Mo_pulse_0 v0)) ([.ref (ad 0 0), .int (0 : Int32)] : List Value).toArray s 0 0 (fw_A mCL ad)) (F0 m 206 ls [.int (0 : Int32), .int (4 : Int32), .ref (ad 9 0)]) := by
    intro v x4 H locs ls hj hc0 hI hP hS hl
    clear J25 J24 J27 J26 J23 J22 J28 J21 J20 J33 J34 J32 J31 J35 J30 J29 J19 J18 J36 J17 J16 J46 J45 J48 J47 J44 J43 J49 J42 J41 J54 J55 J53 J52 J56 J51 J50 J40 J39 J57 J38 J37 J15 J14 J58 J13 J12 J63 J64 J62 J61 J65 J60 J59 J11 J10 J66 J9 J8 J84 J83 J86 J85 J82 J81 J87 J80 J92 J93 J91 J90 J94 J89
    refine fw_iast hx hb hK hD hP hS (mm_9 (by decide)) (mk_9 0) 0 rfl (j := 4) (by decide) (fw_inc (by decide)) md_Mo_pulse_206 (fun v136 H locs ev136 hP hS => ?_)
    have hI : mI b v136 := by rw [ev136]; exact mI_up hI trivial trivial
    refine lv_iload_n hx hb md_Mo_pulse_207 rfl (lv_at hl 2 rfl) ?_
    refine lv_iload hx hb md_Mo_pulse_208 (lv_at hl 4 rfl) ?_
    refine lv_if_eq (tgt := 221) hx hb md_Mo_pulse_210 (by decide) (fun c_137 => ?_) (fun c_137 => ?_)
    · refine lv_iconst (v := (0 : Int32)) hx hb md_Mo_pulse_221 (by decide) ?_
      exact J79 v136  _ _ _ (by rw [hj]; subst ev136; simp only [mf_Mo_pulse_0_j78, if_pos c_137])   hI hP hS (lv_sub hl [0, 1, 3] rfl)
    · refine lv_iconst (v := (1 : Int32)) hx hb md_Mo_pulse_213 (by decide) ?_
      refine lv_iload_n hx hb md_Mo_pulse_214 rfl (lv_at hl 3 rfl) ?_
      refine lv_iconst (v := (2 : Int32)) hx hb md_Mo_pulse_215 (by decide) ?_
      refine lv_idiv hx hb md_Mo_pulse_216 (by decide) ?_
      refine fw_top (y := (2 : Int32)) (by decide) ?_
      refine lv_ishl hx hb md_Mo_pulse_217 ?_
      refine fw_top (y := (4 : Int32)) (by decide) ?_
      refine lv_goto (tgt := 222) hx hb md_Mo_pulse_218 (by decide) ?_
      exact J88 v136  _ _ _ (by rw [hj]; subst ev136; simp only [mf_Mo_pulse_0_j78, if_neg c_137])   hI hP hS (lv_sub hl [0, 1, 3] rfl)
  have J77 : ∀ (v : fw_V) (x4 : Int32) (H : Heap) (locs : List Loc) (ls : Array Slot), mf_Mo_pulse_0 v0 = mf_Mo_pulse_0_j77 v x4 → (x4 = 0 ∨ x4 = 1) → mI b v → va_P D vcls (fw_w mCL cA mkd ad v) H → va_S (fw_A mCL ad) s.heap H locs → lv_has ls 5 [(0, .ref (ad 0 0)), (1, .int (0 : Int32)), (2, .int (1 : Int32)), (3, .int (4 : Int32)), (4, .int x4)] → W p l e (headSpec (Cond.code my_Mo_pulse mb_Mo_pulse 5 none :: vTB) mrm_Mo_pulse).room s m ([.ref (ad 0 0), .int (0 : Int32)] : List Value).toArray below meth c H locs 0 0 (MQ below (fw_Qv D vcls mCL cA mkd ad (mI b) (mf_Mo_pulse_0 v0)) ([.ref (ad 0 0), .int (0 : Int32)] : List Value).toArray s 0 0 (fw_A mCL ad)) (F0 m 205 ls [.int (4 : Int32), .ref (ad 9 0)]) := by
    intro v x4 H locs ls hj hc0 hI hP hS hl
    clear J25 J24 J27 J26 J23 J22 J28 J21 J20 J33 J34 J32 J31 J35 J30 J29 J19 J18 J36 J17 J16 J46 J45 J48 J47 J44 J43 J49 J42 J41 J54 J55 J53 J52 J56 J51 J50 J40 J39 J57 J38 J37 J15 J14 J58 J13 J12 J63 J64 J62 J61 J65 J60 J59 J11 J10 J66 J9 J8 J84 J83 J86 J85 J82 J81 J87 J80 J79 J92 J93 J91 J90 J94 J89 J88
    refine lv_iconst (v := (0 : Int32)) hx hb md_Mo_pulse_205 (by decide) ?_
    exact J78 v (x4) _ _ _ (by rw [hj]; simp only [mf_Mo_pulse_0_j77]) hc0  hI hP hS (lv_sub hl [0, 1, 2, 3, 4] rfl)
  have J95 : ∀ (v : fw_V) (x4 : Int32) (x90 : Int32) (H : Heap) (locs : List Loc) (ls : Array Slot), mf_Mo_pulse_0 v0 = mf_Mo_pulse_0_j95 v x4 x90 → (x4 = 0 ∨ x4 = 1) → mI b v → va_P D vcls (fw_w mCL cA mkd ad v) H → va_S (fw_A mCL ad) s.heap H locs → lv_has ls 5 [(0, .ref (ad 0 0)), (1, .int (0 : Int32)), (2, .int (1 : Int32)), (3, .int (4 : Int32)), (4, .int x4)] → W p l e (headSpec (Cond.code my_Mo_pulse mb_Mo_pulse 5 none :: vTB) mrm_Mo_pulse).room s m ([.ref (ad 0 0), .int (0 : Int32)] : List Value).toArray below meth c H locs 0 0 (MQ below (fw_Qv D vcls mCL cA mkd ad (mI b) (mf_Mo_pulse_0 v0)) ([.ref (ad 0 0), .int (0 : Int32)] : List Value).toArray s 0 0 (fw_A mCL ad)) (F0 m 206 ls [.int x90, .int (4 : Int32), .ref (ad 9 0)]) := by
    intro v x4 x90 H locs ls hj hc0 hI hP hS hl
    clear J25 J24 J27 J26 J23 J22 J28 J21 J20 J33 J34 J32 J31 J35 J30 J29 J19 J18 J36 J17 J16 J46 J45 J48 J47 J44 J43 J49 J42 J41 J54 J55 J53 J52 J56 J51 J50 J40 J39 J57 J38 J37 J15 J14 J58 J13 J12 J63 J64 J62 J61 J65 J60 J59 J11 J10 J66 J9 J8 J84 J83 J86 J85 J82 J81 J87 J80 J92 J93 J91 J90 J94 J89 J78 J77
    refine fw_iast hx hb hK hD hP hS (mm_9 (by decide)) (mk_9 0) 0 rfl (j := 4) (by decide) (fw_inc (by decide)) md_Mo_pulse_206 (fun v169 H locs ev169 hP hS => ?_)
    have hI : mI b v169 := by rw [ev169]; exact mI_up hI trivial trivial
    refine lv_iload_n hx hb md_Mo_pulse_207 rfl (lv_at hl 2 rfl) ?_
    refine lv_iload hx hb md_Mo_pulse_208 (lv_at hl 4 rfl) ?_
    refine lv_if_eq (tgt := 221) hx hb md_Mo_pulse_210 (by decide) (fun c_170 => ?_) (fun c_170 => ?_)
    · refine lv_iconst (v := (0 : Int32)) hx hb md_Mo_pulse_221 (by decide) ?_
      exact J79 v169  _ _ _ (by rw [hj]; subst ev169; simp only [mf_Mo_pulse_0_j95, if_pos c_170])   hI hP hS (lv_sub hl [0, 1, 3] rfl)
    · refine lv_iconst (v := (1 : Int32)) hx hb md_Mo_pulse_213 (by decide) ?_
      refine lv_iload_n hx hb md_Mo_pulse_214 rfl (lv_at hl 3 rfl) ?_
      refine lv_iconst (v := (2 : Int32)) hx hb md_Mo_pulse_215 (by decide) ?_
      refine lv_idiv hx hb md_Mo_pulse_216 (by decide) ?_
      refine fw_top (y := (2 : Int32)) (by decide) ?_
      refine lv_ishl hx hb md_Mo_pulse_217 ?_
      refine fw_top (y := (4 : Int32)) (by decide) ?_
      refine lv_goto (tgt := 222) hx hb md_Mo_pulse_218 (by decide) ?_
      exact J88 v169  _ _ _ (by rw [hj]; subst ev169; simp only [mf_Mo_pulse_0_j95, if_neg c_170])   hI hP hS (lv_sub hl [0, 1, 3] rfl)
  have J76 : ∀ (v : fw_V)  (H : Heap) (locs : List Loc) (ls : Array Slot), mf_Mo_pulse_0 v0 = mf_Mo_pulse_0_j76 v → mI b v → va_P D vcls (fw_w mCL cA mkd ad v) H → va_S (fw_A mCL ad) s.heap H locs → lv_has ls 5 [(0, .ref (ad 0 0)), (1, .int (0 : Int32)), (2, .int (1 : Int32)), (3, .int (4 : Int32))] → W p l e (headSpec (Cond.code my_Mo_pulse mb_Mo_pulse 5 none :: vTB) mrm_Mo_pulse).room s m ([.ref (ad 0 0), .int (0 : Int32)] : List Value).toArray below meth c H locs 0 0 (MQ below (fw_Qv D vcls mCL cA mkd ad (mI b) (mf_Mo_pulse_0 v0)) ([.ref (ad 0 0), .int (0 : Int32)] : List Value).toArray s 0 0 (fw_A mCL ad)) (F0 m 148 ls []) := by
    intro v  H locs ls hj  hI hP hS hl
    clear J25 J24 J27 J26 J23 J22 J28 J21 J20 J33 J34 J32 J31 J35 J30 J29 J19 J18 J36 J17 J16 J46 J45 J48 J47 J44 J43 J49 J42 J41 J54 J55 J53 J52 J56 J51 J50 J40 J39 J57 J38 J37 J15 J14 J58 J13 J12 J63 J64 J62 J61 J65 J60 J59 J11 J10 J66 J9 J8 J84 J83 J86 J85 J82 J81 J87 J80 J79 J92 J93 J91 J90 J94 J89 J88 J78
    refine lv_iload_n hx hb md_Mo_pulse_148 rfl (lv_at hl 3 rfl) ?_
    refine lv_bipush (v := (6 : Int32)) hx hb md_Mo_pulse_149 (by decide) ?_
    refine lv_icmp_ge (tgt := 230) hx hb md_Mo_pulse_151 (by decide) (fun c_133 => absurd c_133 (by decide)) (fun _ => ?_)
    refine lv_aload_n hx hb md_Mo_pulse_154 rfl (lv_at hl 0 rfl) ?_
    refine lv_iload_n hx hb md_Mo_pulse_155 rfl (lv_at hl 1 rfl) ?_
    refine lv_iload_n hx hb md_Mo_pulse_156 rfl (lv_at hl 3 rfl) ?_
    refine lv_iconst (v := (2 : Int32)) hx hb md_Mo_pulse_157 (by decide) ?_
    refine lv_idiv hx hb md_Mo_pulse_158 (by decide) ?_
    refine fw_top (y := (2 : Int32)) (by decide) ?_
    refine fw_cb (va_runV (As := [.int (0 : Int32), .int (2 : Int32)]) (rest := []) ⟨hx, hb, hml, hown, hts⟩ (mc_Mo_isGood_0 l hD v hI (2 : Int32) (fw_inc (by decide))) (mw_Mo_isGood hts L_Mo_250 ⟨Nat.le_of_ble_eq_true rfl, Nat.le_of_ble_eq_true rfl⟩) (fw_preV hN hK hP (mm_0 (by decide)) (mk_0 0) rfl) rfl rfl hl.1 rfl (lv_room (Nat.le_of_ble_eq_true rfl)) md_Mo_pulse_159 ⟨Nat.le_of_ble_eq_true rfl, Nat.le_of_ble_eq_true rfl⟩) hS (fun r134 H locs zr134 er134 hP hS => ?_)
    refine lv_istore (lv' := [(4, .int r134), (0, .ref (ad 0 0)), (1, .int (0 : Int32)), (2, .int (1 : Int32)), (3, .int (4 : Int32))]) hx hb md_Mo_pulse_162 hl (by decide) rfl (fun ls hl => ?_)
    refine lv_aload_n hx hb md_Mo_pulse_164 rfl (lv_at hl 1 rfl) ?_
    refine fw_getr hx hb hts i_Mo hown hK hP (mm_0 (by decide)) (mk_0 0) rfl 8 (by decide) (hts _ L_Mo_35) (fun _ h9 => h9) rfl md_Mo_pulse_165 ?_
    refine lv_iload_n hx hb md_Mo_pulse_168 rfl (lv_at hl 4 rfl) ?_
    refine lv_iload hx hb md_Mo_pulse_169 (lv_at hl 0 rfl) ?_
    refine lv_if_eq (tgt := 205) hx hb md_Mo_pulse_171 (by decide) (fun c_135 => ?_) (fun c_135 => ?_)
    · exact J77 v (r134) _ _ _ (by rw [hj]; subst er134; simp only [mf_Mo_pulse_0_j76, if_pos c_135]) zr134  hI hP hS (lv_sub hl [1, 2, 3, 4, 0] rfl)
    · have h_166 : vp_in (v 43 0 2) 8 := mp_isGood_0_2 er134 c_135 (hI.1 43 0 2)
      refine lv_iload_n hx hb md_Mo_pulse_174 rfl (lv_at hl 4 rfl) ?_
      refine lv_iconst (v := (2 : Int32)) hx hb md_Mo_pulse_175 (by decide) ?_
      refine lv_irem hx hb md_Mo_pulse_176 (by decide) ?_
      refine fw_top (y := (0 : Int32)) (by decide) ?_
      refine lv_aload_n hx hb md_Mo_pulse_177 rfl (lv_at hl 1 rfl) ?_
      refine lv_iconst (v := (3 : Int32)) hx hb md_Mo_pulse_178 (by decide) ?_
      refine lv_iload_n hx hb md_Mo_pulse_179 rfl (lv_at hl 2 rfl) ?_
      refine lv_imul hx hb md_Mo_pulse_180 ?_
      refine fw_top (y := (0 : Int32)) (by decide) ?_
      refine lv_iload_n hx hb md_Mo_pulse_181 rfl (lv_at hl 4 rfl) ?_
      refine lv_iconst (v := (2 : Int32)) hx hb md_Mo_pulse_182 (by decide) ?_
      refine lv_idiv hx hb md_Mo_pulse_183 (by decide) ?_
      refine fw_top (y := (2 : Int32)) (by decide) ?_
      refine lv_iadd hx hb md_Mo_pulse_184 ?_
      refine fw_top (y := (2 : Int32)) (by decide) ?_
      refine fw_co (va_runV (As := [.int (2 : Int32)]) (rest := [.int (0 : Int32), .int (4 : Int32), .ref (ad 9 0)]) ⟨hx, hb, hml, hown, hts⟩ (mc_Mo_insAt l hD v hI (2 : Int32) (fw_inc (by decide))) (mw_Mo_insAt hts L_Mo_263 ⟨Nat.le_of_ble_eq_true rfl, Nat.le_of_ble_eq_true rfl⟩) (fw_preV hN hK hP (mm_0 (by decide)) (mk_0 0) rfl) rfl rfl hl.1 rfl (lv_room (Nat.le_of_ble_eq_true rfl)) md_Mo_pulse_185 ⟨Nat.le_of_ble_eq_true rfl, Nat.le_of_ble_eq_true rfl⟩) hS (fun r167 H locs er167 hP hS => ?_)
      refine lv_icmp_ge (tgt := 205) hx hb md_Mo_pulse_188 (by decide) (fun c_168 => ?_) (fun c_168 => ?_)
      · exact J77 v (r134) _ _ _ (by rw [hj]; subst er134 er167; simp only [mf_Mo_pulse_0_j76, if_neg c_135, if_pos c_168]) zr134  hI hP hS (lv_sub hl [1, 2, 3, 4, 0] rfl)
      · refine lv_aload_n hx hb md_Mo_pulse_191 rfl (lv_at hl 1 rfl) ?_
        refine fw_getr hx hb hts i_Mo hown hK hP (mm_0 (by decide)) (mk_0 0) rfl 44 (by decide) (hts _ L_Mo_140) (fun _ h9 => h9) rfl md_Mo_pulse_192 ?_
        refine lv_bipush (v := (6 : Int32)) hx hb md_Mo_pulse_195 (by decide) ?_
        refine lv_iload_n hx hb md_Mo_pulse_197 rfl (lv_at hl 2 rfl) ?_
        refine lv_imul hx hb md_Mo_pulse_198 ?_
        refine fw_top (y := (0 : Int32)) (by decide) ?_
        refine lv_iload_n hx hb md_Mo_pulse_199 rfl (lv_at hl 4 rfl) ?_
        refine lv_iadd hx hb md_Mo_pulse_200 ?_
        refine fw_top (y := (4 : Int32)) (by decide) ?_
        refine fw_iald hx hb hK hP (mm_45 (by decide)) (mk_45 0) 0 rfl (j := 4) (by decide) (fw_inc (by decide)) md_Mo_pulse_201 ?_
        refine lv_goto (tgt := 206) hx hb md_Mo_pulse_202 (by decide) ?_
        exact J95 v (r134) ((v 45 0 4)) _ _ _ (by rw [hj]; subst er134 er167; simp only [mf_Mo_pulse_0_j76, if_neg c_135, if_neg c_168]) zr134  hI hP hS (lv_sub hl [1, 2, 3, 4, 0] rfl)
  have J75 : ∀ (v : fw_V)  (H : Heap) (locs : List Loc) (ls : Array Slot), mf_Mo_pulse_0 v0 = mf_Mo_pulse_0_j75 v → mI b v → va_P D vcls (fw_w mCL cA mkd ad v) H → va_S (fw_A mCL ad) s.heap H locs → lv_has ls 5 [(0, .ref (ad 0 0)), (1, .int (0 : Int32)), (3, .int (3 : Int32))] → W p l e (headSpec (Cond.code my_Mo_pulse mb_Mo_pulse 5 none :: vTB) mrm_Mo_pulse).room s m ([.ref (ad 0 0), .int (0 : Int32)] : List Value).toArray below meth c H locs 0 0 (MQ below (fw_Qv D vcls mCL cA mkd ad (mI b) (mf_Mo_pulse_0 v0)) ([.ref (ad 0 0), .int (0 : Int32)] : List Value).toArray s 0 0 (fw_A mCL ad)) (F0 m 222 ls [.int (0 : Int32), .int (1 : Int32)]) := by
    intro v  H locs ls hj  hI hP hS hl
    clear J25 J24 J27 J26 J23 J22 J28 J21 J20 J33 J34 J32 J31 J35 J30 J29 J19 J18 J36 J17 J16 J46 J45 J48 J47 J44 J43 J49 J42 J41 J54 J55 J53 J52 J56 J51 J50 J40 J39 J57 J38 J37 J15 J14 J58 J13 J12 J63 J64 J62 J61 J65 J60 J59 J11 J10 J66 J9 J8 J84 J83 J86 J85 J82 J81 J87 J80 J79 J92 J93 J91 J90 J94 J89 J88 J78 J77 J95
    refine lv_ior hx hb md_Mo_pulse_222 ?_
    refine fw_top (y := (1 : Int32)) (by decide) ?_
    refine lv_istore_n (lv' := [(2, .int (1 : Int32)), (0, .ref (ad 0 0)), (1, .int (0 : Int32)), (3, .int (3 : Int32))]) hx hb md_Mo_pulse_223 rfl hl (by decide) rfl (fun ls hl => ?_)
    refine lv_iinc (v := (4 : Int32)) (lv' := [(3, .int (4 : Int32)), (2, .int (1 : Int32)), (0, .ref (ad 0 0)), (1, .int (0 : Int32))]) hx hb md_Mo_pulse_224 hl (k := 3) rfl (by decide) (by decide) rfl (fun ls hl => ?_)
    refine lv_goto (tgt := 148) hx hb md_Mo_pulse_227 (by decide) ?_
    exact J76 v  _ _ _ (by rw [hj]; simp only [mf_Mo_pulse_0_j75])   hI hP hS (lv_sub hl [2, 3, 1, 0] rfl)
  have J105 : ∀ (v : fw_V)  (H : Heap) (locs : List Loc) (ls : Array Slot), mf_Mo_pulse_0 v0 = mf_Mo_pulse_0_j105 v → mI b v → va_P D vcls (fw_w mCL cA mkd ad v) H → va_S (fw_A mCL ad) s.heap H locs → lv_has ls 5 [(0, .ref (ad 0 0)), (1, .int (0 : Int32)), (2, .int (3 : Int32)), (3, .int (6 : Int32))] → W p l e (headSpec (Cond.code my_Mo_pulse mb_Mo_pulse 5 none :: vTB) mrm_Mo_pulse).room s m ([.ref (ad 0 0), .int (0 : Int32)] : List Value).toArray below meth c H locs 0 0 (MQ below (fw_Qv D vcls mCL cA mkd ad (mI b) (mf_Mo_pulse_0 v0)) ([.ref (ad 0 0), .int (0 : Int32)] : List Value).toArray s 0 0 (fw_A mCL ad)) (F0 m 148 ls []) := by
    intro v  H locs ls hj  hI hP hS hl
    clear J25 J24 J27 J26 J23 J22 J28 J21 J20 J33 J34 J32 J31 J35 J30 J29 J19 J18 J36 J17 J16 J46 J45 J48 J47 J44 J43 J49 J42 J41 J54 J55 J53 J52 J56 J51 J50 J40 J39 J57 J38 J37 J15 J14 J58 J13 J12 J63 J64 J62 J61 J65 J60 J59 J11 J10 J66 J9 J8 J84 J83 J86 J85 J82 J81 J87 J80 J79 J92 J93 J91 J90 J94 J89 J88 J78 J77 J95 J76 J75
    refine lv_iload_n hx hb md_Mo_pulse_148 rfl (lv_at hl 3 rfl) ?_
    refine lv_bipush (v := (6 : Int32)) hx hb md_Mo_pulse_149 (by decide) ?_
    refine lv_icmp_ge (tgt := 230) hx hb md_Mo_pulse_151 (by decide) (fun _ => ?_) (fun c_181 => absurd (by decide) c_181)
    refine lv_aload_n hx hb md_Mo_pulse_230 rfl (lv_at hl 0 rfl) ?_
    refine fw_getr hx hb hts i_Mo hown hK hP (mm_0 (by decide)) (mk_0 0) rfl 8 (by decide) (hts _ L_Mo_35) (fun _ h9 => h9) rfl md_Mo_pulse_231 ?_
    refine lv_bipush (v := (6 : Int32)) hx hb md_Mo_pulse_234 (by decide) ?_
    refine lv_iload_n hx hb md_Mo_pulse_236 rfl (lv_at hl 2 rfl) ?_
    refine fw_iast hx hb hK hD hP hS (mm_9 (by decide)) (mk_9 0) 0 rfl (j := 6) (by decide) (fw_inc (by decide)) md_Mo_pulse_237 (fun v182 H locs ev182 hP hS => ?_)
    have hI : mI b v182 := by rw [ev182]; exact mI_up hI trivial trivial
    refine lv_aload_n hx hb md_Mo_pulse_238 rfl (lv_at hl 0 rfl) ?_
    refine lv_iload_n hx hb md_Mo_pulse_239 rfl (lv_at hl 1 rfl) ?_
    refine lv_bipush (v := (13 : Int32)) hx hb md_Mo_pulse_240 (by decide) ?_
    refine lv_aload_n hx hb md_Mo_pulse_242 rfl (lv_at hl 0 rfl) ?_
    refine fw_getr hx hb hts i_Mo hown hK hP (mm_0 (by decide)) (mk_0 0) rfl 33 (by decide) (hts _ L_Mo_107) (fun _ h9 => h9) rfl md_Mo_pulse_243 ?_
    refine lv_iload_n hx hb md_Mo_pulse_246 rfl (lv_at hl 1 rfl) ?_
    refine fw_iald hx hb hK hP (mm_34 (by decide)) (mk_34 0) 0 rfl (j := 0) (by decide) (fw_inc (by decide)) md_Mo_pulse_247 ?_
    refine fw_cv (va_runV (As := [.int (0 : Int32), .int (13 : Int32), .int (v182 34 0 0)]) (rest := []) ⟨hx, hb, hml, hown, hts⟩ (mc_Mo_reply_0 l hD v182 hI (13 : Int32) (v182 34 0 0) (fun q => absurd q (by decide)) (by decide) (by decide)) (mw_Mo_reply hts L_Mo_238 ⟨Nat.le_of_ble_eq_true rfl, Nat.le_of_ble_eq_true rfl⟩) (fw_preV hN hK hP (mm_0 (by decide)) (mk_0 0) rfl) rfl rfl hl.1 rfl (lv_room (Nat.le_of_ble_eq_true rfl)) md_Mo_pulse_248 ⟨Nat.le_of_ble_eq_true rfl, Nat.le_of_ble_eq_true rfl⟩) hS (fun v183 H locs ev183 hI hP hS => ?_)
    refine lv_aload_n hx hb md_Mo_pulse_251 rfl (lv_at hl 0 rfl) ?_
    refine fw_getr hx hb hts i_Mo hown hK hP (mm_0 (by decide)) (mk_0 0) rfl 33 (by decide) (hts _ L_Mo_107) (fun _ h9 => h9) rfl md_Mo_pulse_252 ?_
    refine lv_iload_n hx hb md_Mo_pulse_255 rfl (lv_at hl 1 rfl) ?_
    refine lv_aload_n hx hb md_Mo_pulse_256 rfl (lv_at hl 0 rfl) ?_
    refine fw_getr hx hb hts i_Mo hown hK hP (mm_0 (by decide)) (mk_0 0) rfl 33 (by decide) (hts _ L_Mo_107) (fun _ h9 => h9) rfl md_Mo_pulse_257 ?_
    refine lv_iload_n hx hb md_Mo_pulse_260 rfl (lv_at hl 1 rfl) ?_
    refine fw_iald hx hb hK hP (mm_34 (by decide)) (mk_34 0) 0 rfl (j := 0) (by decide) (fw_inc (by decide)) md_Mo_pulse_261 ?_
    refine lv_iconst (v := (1 : Int32)) hx hb md_Mo_pulse_262 (by decide) ?_
    refine lv_iadd hx hb md_Mo_pulse_263 ?_
    refine lv_sipush (v := (255 : Int32)) hx hb md_Mo_pulse_264 (by decide) ?_
    refine lv_iand hx hb md_Mo_pulse_267 ?_
    refine fw_iast hx hb hK hD hP hS (mm_34 (by decide)) (mk_34 0) 0 rfl (j := 0) (by decide) (fw_inc (by decide)) md_Mo_pulse_268 (fun v184 H locs ev184 hP hS => ?_)
    have hI : mI b v184 := by rw [ev184]; exact mI_up hI trivial trivial
    exact fw_vret hx hb hr hlocks hS hP hI md_Mo_pulse_269 (by rw [hj]; subst ev182 ev183 ev184; simp only [mf_Mo_pulse_0_j105])
  have J104 : ∀ (v : fw_V)  (H : Heap) (locs : List Loc) (ls : Array Slot), mf_Mo_pulse_0 v0 = mf_Mo_pulse_0_j104 v → mI b v → va_P D vcls (fw_w mCL cA mkd ad v) H → va_S (fw_A mCL ad) s.heap H locs → lv_has ls 5 [(0, .ref (ad 0 0)), (1, .int (0 : Int32)), (3, .int (5 : Int32))] → W p l e (headSpec (Cond.code my_Mo_pulse mb_Mo_pulse 5 none :: vTB) mrm_Mo_pulse).room s m ([.ref (ad 0 0), .int (0 : Int32)] : List Value).toArray below meth c H locs 0 0 (MQ below (fw_Qv D vcls mCL cA mkd ad (mI b) (mf_Mo_pulse_0 v0)) ([.ref (ad 0 0), .int (0 : Int32)] : List Value).toArray s 0 0 (fw_A mCL ad)) (F0 m 222 ls [.int (0 : Int32), .int (3 : Int32)]) := by
    intro v  H locs ls hj  hI hP hS hl
    clear J25 J24 J27 J26 J23 J22 J28 J21 J20 J33 J34 J32 J31 J35 J30 J29 J19 J18 J36 J17 J16 J46 J45 J48 J47 J44 J43 J49 J42 J41 J54 J55 J53 J52 J56 J51 J50 J40 J39 J57 J38 J37 J15 J14 J58 J13 J12 J63 J64 J62 J61 J65 J60 J59 J11 J10 J66 J9 J8 J84 J83 J86 J85 J82 J81 J87 J80 J79 J92 J93 J91 J90 J94 J89 J88 J78 J77 J95 J76 J75
    refine lv_ior hx hb md_Mo_pulse_222 ?_
    refine fw_top (y := (3 : Int32)) (by decide) ?_
    refine lv_istore_n (lv' := [(2, .int (3 : Int32)), (0, .ref (ad 0 0)), (1, .int (0 : Int32)), (3, .int (5 : Int32))]) hx hb md_Mo_pulse_223 rfl hl (by decide) rfl (fun ls hl => ?_)
    refine lv_iinc (v := (6 : Int32)) (lv' := [(3, .int (6 : Int32)), (2, .int (3 : Int32)), (0, .ref (ad 0 0)), (1, .int (0 : Int32))]) hx hb md_Mo_pulse_224 hl (k := 3) rfl (by decide) (by decide) rfl (fun ls hl => ?_)
    refine lv_goto (tgt := 148) hx hb md_Mo_pulse_227 (by decide) ?_
    exact J105 v  _ _ _ (by rw [hj]; simp only [mf_Mo_pulse_0_j104])   hI hP hS (lv_sub hl [2, 3, 1, 0] rfl)
  have J107 : ∀ (v : fw_V)  (H : Heap) (locs : List Loc) (ls : Array Slot), mf_Mo_pulse_0 v0 = mf_Mo_pulse_0_j107 v → mI b v → va_P D vcls (fw_w mCL cA mkd ad v) H → va_S (fw_A mCL ad) s.heap H locs → lv_has ls 5 [(0, .ref (ad 0 0)), (1, .int (0 : Int32)), (2, .int (7 : Int32)), (3, .int (6 : Int32))] → W p l e (headSpec (Cond.code my_Mo_pulse mb_Mo_pulse 5 none :: vTB) mrm_Mo_pulse).room s m ([.ref (ad 0 0), .int (0 : Int32)] : List Value).toArray below meth c H locs 0 0 (MQ below (fw_Qv D vcls mCL cA mkd ad (mI b) (mf_Mo_pulse_0 v0)) ([.ref (ad 0 0), .int (0 : Int32)] : List Value).toArray s 0 0 (fw_A mCL ad)) (F0 m 148 ls []) := by
    intro v  H locs ls hj  hI hP hS hl
    clear J25 J24 J27 J26 J23 J22 J28 J21 J20 J33 J34 J32 J31 J35 J30 J29 J19 J18 J36 J17 J16 J46 J45 J48 J47 J44 J43 J49 J42 J41 J54 J55 J53 J52 J56 J51 J50 J40 J39 J57 J38 J37 J15 J14 J58 J13 J12 J63 J64 J62 J61 J65 J60 J59 J11 J10 J66 J9 J8 J84 J83 J86 J85 J82 J81 J87 J80 J79 J92 J93 J91 J90 J94 J89 J88 J78 J77 J95 J76 J75 J105 J104
    refine lv_iload_n hx hb md_Mo_pulse_148 rfl (lv_at hl 3 rfl) ?_
    refine lv_bipush (v := (6 : Int32)) hx hb md_Mo_pulse_149 (by decide) ?_
    refine lv_icmp_ge (tgt := 230) hx hb md_Mo_pulse_151 (by decide) (fun _ => ?_) (fun c_185 => absurd (by decide) c_185)
    refine lv_aload_n hx hb md_Mo_pulse_230 rfl (lv_at hl 0 rfl) ?_
    refine fw_getr hx hb hts i_Mo hown hK hP (mm_0 (by decide)) (mk_0 0) rfl 8 (by decide) (hts _ L_Mo_35) (fun _ h9 => h9) rfl md_Mo_pulse_231 ?_
    refine lv_bipush (v := (6 : Int32)) hx hb md_Mo_pulse_234 (by decide) ?_
    refine lv_iload_n hx hb md_Mo_pulse_236 rfl (lv_at hl 2 rfl) ?_
    refine fw_iast hx hb hK hD hP hS (mm_9 (by decide)) (mk_9 0) 0 rfl (j := 6) (by decide) (fw_inc (by decide)) md_Mo_pulse_237 (fun v186 H locs ev186 hP hS => ?_)
    have hI : mI b v186 := by rw [ev186]; exact mI_up hI trivial trivial
    refine lv_aload_n hx hb md_Mo_pulse_238 rfl (lv_at hl 0 rfl) ?_
    refine lv_iload_n hx hb md_Mo_pulse_239 rfl (lv_at hl 1 rfl) ?_
    refine lv_bipush (v := (13 : Int32)) hx hb md_Mo_pulse_240 (by decide) ?_
    refine lv_aload_n hx hb md_Mo_pulse_242 rfl (lv_at hl 0 rfl) ?_
    refine fw_getr hx hb hts i_Mo hown hK hP (mm_0 (by decide)) (mk_0 0) rfl 33 (by decide) (hts _ L_Mo_107) (fun _ h9 => h9) rfl md_Mo_pulse_243 ?_
    refine lv_iload_n hx hb md_Mo_pulse_246 rfl (lv_at hl 1 rfl) ?_
    refine fw_iald hx hb hK hP (mm_34 (by decide)) (mk_34 0) 0 rfl (j := 0) (by decide) (fw_inc (by decide)) md_Mo_pulse_247 ?_
    refine fw_cv (va_runV (As := [.int (0 : Int32), .int (13 : Int32), .int (v186 34 0 0)]) (rest := []) ⟨hx, hb, hml, hown, hts⟩ (mc_Mo_reply_0 l hD v186 hI (13 : Int32) (v186 34 0 0) (fun q => absurd q (by decide)) (by decide) (by decide)) (mw_Mo_reply hts L_Mo_238 ⟨Nat.le_of_ble_eq_true rfl, Nat.le_of_ble_eq_true rfl⟩) (fw_preV hN hK hP (mm_0 (by decide)) (mk_0 0) rfl) rfl rfl hl.1 rfl (lv_room (Nat.le_of_ble_eq_true rfl)) md_Mo_pulse_248 ⟨Nat.le_of_ble_eq_true rfl, Nat.le_of_ble_eq_true rfl⟩) hS (fun v187 H locs ev187 hI hP hS => ?_)
    refine lv_aload_n hx hb md_Mo_pulse_251 rfl (lv_at hl 0 rfl) ?_
    refine fw_getr hx hb hts i_Mo hown hK hP (mm_0 (by decide)) (mk_0 0) rfl 33 (by decide) (hts _ L_Mo_107) (fun _ h9 => h9) rfl md_Mo_pulse_252 ?_
    refine lv_iload_n hx hb md_Mo_pulse_255 rfl (lv_at hl 1 rfl) ?_
    refine lv_aload_n hx hb md_Mo_pulse_256 rfl (lv_at hl 0 rfl) ?_
    refine fw_getr hx hb hts i_Mo hown hK hP (mm_0 (by decide)) (mk_0 0) rfl 33 (by decide) (hts _ L_Mo_107) (fun _ h9 => h9) rfl md_Mo_pulse_257 ?_
    refine lv_iload_n hx hb md_Mo_pulse_260 rfl (lv_at hl 1 rfl) ?_
    refine fw_iald hx hb hK hP (mm_34 (by decide)) (mk_34 0) 0 rfl (j := 0) (by decide) (fw_inc (by decide)) md_Mo_pulse_261 ?_
    refine lv_iconst (v := (1 : Int32)) hx hb md_Mo_pulse_262 (by decide) ?_
    refine lv_iadd hx hb md_Mo_pulse_263 ?_
    refine lv_sipush (v := (255 : Int32)) hx hb md_Mo_pulse_264 (by decide) ?_
    refine lv_iand hx hb md_Mo_pulse_267 ?_
    refine fw_iast hx hb hK hD hP hS (mm_34 (by decide)) (mk_34 0) 0 rfl (j := 0) (by decide) (fw_inc (by decide)) md_Mo_pulse_268 (fun v188 H locs ev188 hP hS => ?_)
    have hI : mI b v188 := by rw [ev188]; exact mI_up hI trivial trivial
    exact fw_vret hx hb hr hlocks hS hP hI md_Mo_pulse_269 (by rw [hj]; subst ev186 ev187 ev188; simp only [mf_Mo_pulse_0_j107])
  have J106 : ∀ (v : fw_V)  (H : Heap) (locs : List Loc) (ls : Array Slot), mf_Mo_pulse_0 v0 = mf_Mo_pulse_0_j106 v → mI b v → va_P D vcls (fw_w mCL cA mkd ad v) H → va_S (fw_A mCL ad) s.heap H locs → lv_has ls 5 [(0, .ref (ad 0 0)), (1, .int (0 : Int32)), (3, .int (5 : Int32))] → W p l e (headSpec (Cond.code my_Mo_pulse mb_Mo_pulse 5 none :: vTB) mrm_Mo_pulse).room s m ([.ref (ad 0 0), .int (0 : Int32)] : List Value).toArray below meth c H locs 0 0 (MQ below (fw_Qv D vcls mCL cA mkd ad (mI b) (mf_Mo_pulse_0 v0)) ([.ref (ad 0 0), .int (0 : Int32)] : List Value).toArray s 0 0 (fw_A mCL ad)) (F0 m 222 ls [.int (4 : Int32), .int (3 : Int32)]) := by
    intro v  H locs ls hj  hI hP hS hl
    clear J25 J24 J27 J26 J23 J22 J28 J21 J20 J33 J34 J32 J31 J35 J30 J29 J19 J18 J36 J17 J16 J46 J45 J48 J47 J44 J43 J49 J42 J41 J54 J55 J53 J52 J56 J51 J50 J40 J39 J57 J38 J37 J15 J14 J58 J13 J12 J63 J64 J62 J61 J65 J60 J59 J11 J10 J66 J9 J8 J84 J83 J86 J85 J82 J81 J87 J80 J79 J92 J93 J91 J90 J94 J89 J88 J78 J77 J95 J76 J75 J105 J104
    refine lv_ior hx hb md_Mo_pulse_222 ?_
    refine fw_top (y := (7 : Int32)) (by decide) ?_
    refine lv_istore_n (lv' := [(2, .int (7 : Int32)), (0, .ref (ad 0 0)), (1, .int (0 : Int32)), (3, .int (5 : Int32))]) hx hb md_Mo_pulse_223 rfl hl (by decide) rfl (fun ls hl => ?_)
    refine lv_iinc (v := (6 : Int32)) (lv' := [(3, .int (6 : Int32)), (2, .int (7 : Int32)), (0, .ref (ad 0 0)), (1, .int (0 : Int32))]) hx hb md_Mo_pulse_224 hl (k := 3) rfl (by decide) (by decide) rfl (fun ls hl => ?_)
    refine lv_goto (tgt := 148) hx hb md_Mo_pulse_227 (by decide) ?_
    exact J107 v  _ _ _ (by rw [hj]; simp only [mf_Mo_pulse_0_j106])   hI hP hS (lv_sub hl [2, 3, 1, 0] rfl)
  have J103 : ∀ (v : fw_V) (x4 : Int32) (H : Heap) (locs : List Loc) (ls : Array Slot), mf_Mo_pulse_0 v0 = mf_Mo_pulse_0_j103 v x4 → (x4 = 0 ∨ x4 = 1) → mI b v → va_P D vcls (fw_w mCL cA mkd ad v) H → va_S (fw_A mCL ad) s.heap H locs → lv_has ls 5 [(0, .ref (ad 0 0)), (1, .int (0 : Int32)), (2, .int (3 : Int32)), (3, .int (5 : Int32)), (4, .int x4)] → W p l e (headSpec (Cond.code my_Mo_pulse mb_Mo_pulse 5 none :: vTB) mrm_Mo_pulse).room s m ([.ref (ad 0 0), .int (0 : Int32)] : List Value).toArray below meth c H locs 0 0 (MQ below (fw_Qv D vcls mCL cA mkd ad (mI b) (mf_Mo_pulse_0 v0)) ([.ref (ad 0 0), .int (0 : Int32)] : List Value).toArray s 0 0 (fw_A mCL ad)) (F0 m 206 ls [.int (0 : Int32), .int (5 : Int32), .ref (ad 9 0)]) := by
    intro v x4 H locs ls hj hc0 hI hP hS hl
    clear J25 J24 J27 J26 J23 J22 J28 J21 J20 J33 J34 J32 J31 J35 J30 J29 J19 J18 J36 J17 J16 J46 J45 J48 J47 J44 J43 J49 J42 J41 J54 J55 J53 J52 J56 J51 J50 J40 J39 J57 J38 J37 J15 J14 J58 J13 J12 J63 J64 J62 J61 J65 J60 J59 J11 J10 J66 J9 J8 J84 J83 J86 J85 J82 J81 J87 J80 J79 J92 J93 J91 J90 J94 J89 J88 J78 J77 J95 J76 J75 J105 J107
    refine fw_iast hx hb hK hD hP hS (mm_9 (by decide)) (mk_9 0) 0 rfl (j := 5) (by decide) (fw_inc (by decide)) md_Mo_pulse_206 (fun v179 H locs ev179 hP hS => ?_)
    have hI : mI b v179 := by rw [ev179]; exact mI_up hI trivial trivial
    refine lv_iload_n hx hb md_Mo_pulse_207 rfl (lv_at hl 2 rfl) ?_
    refine lv_iload hx hb md_Mo_pulse_208 (lv_at hl 4 rfl) ?_
    refine lv_if_eq (tgt := 221) hx hb md_Mo_pulse_210 (by decide) (fun c_180 => ?_) (fun c_180 => ?_)
    · refine lv_iconst (v := (0 : Int32)) hx hb md_Mo_pulse_221 (by decide) ?_
      exact J104 v179  _ _ _ (by rw [hj]; subst ev179; simp only [mf_Mo_pulse_0_j103, if_pos c_180])   hI hP hS (lv_sub hl [0, 1, 3] rfl)
    · refine lv_iconst (v := (1 : Int32)) hx hb md_Mo_pulse_213 (by decide) ?_
      refine lv_iload_n hx hb md_Mo_pulse_214 rfl (lv_at hl 3 rfl) ?_
      refine lv_iconst (v := (2 : Int32)) hx hb md_Mo_pulse_215 (by decide) ?_
      refine lv_idiv hx hb md_Mo_pulse_216 (by decide) ?_
      refine fw_top (y := (2 : Int32)) (by decide) ?_
      refine lv_ishl hx hb md_Mo_pulse_217 ?_
      refine fw_top (y := (4 : Int32)) (by decide) ?_
      refine lv_goto (tgt := 222) hx hb md_Mo_pulse_218 (by decide) ?_
      exact J106 v179  _ _ _ (by rw [hj]; subst ev179; simp only [mf_Mo_pulse_0_j103, if_neg c_180])   hI hP hS (lv_sub hl [0, 1, 3] rfl)
  have J102 : ∀ (v : fw_V) (x4 : Int32) (H : Heap) (locs : List Loc) (ls : Array Slot), mf_Mo_pulse_0 v0 = mf_Mo_pulse_0_j102 v x4 → (x4 = 0 ∨ x4 = 1) → mI b v → va_P D vcls (fw_w mCL cA mkd ad v) H → va_S (fw_A mCL ad) s.heap H locs → lv_has ls 5 [(0, .ref (ad 0 0)), (1, .int (0 : Int32)), (2, .int (3 : Int32)), (3, .int (5 : Int32)), (4, .int x4)] → W p l e (headSpec (Cond.code my_Mo_pulse mb_Mo_pulse 5 none :: vTB) mrm_Mo_pulse).room s m ([.ref (ad 0 0), .int (0 : Int32)] : List Value).toArray below meth c H locs 0 0 (MQ below (fw_Qv D vcls mCL cA mkd ad (mI b) (mf_Mo_pulse_0 v0)) ([.ref (ad 0 0), .int (0 : Int32)] : List Value).toArray s 0 0 (fw_A mCL ad)) (F0 m 205 ls [.int (5 : Int32), .ref (ad 9 0)]) := by
    intro v x4 H locs ls hj hc0 hI hP hS hl
    clear J25 J24 J27 J26 J23 J22 J28 J21 J20 J33 J34 J32 J31 J35 J30 J29 J19 J18 J36 J17 J16 J46 J45 J48 J47 J44 J43 J49 J42 J41 J54 J55 J53 J52 J56 J51 J50 J40 J39 J57 J38 J37 J15 J14 J58 J13 J12 J63 J64 J62 J61 J65 J60 J59 J11 J10 J66 J9 J8 J84 J83 J86 J85 J82 J81 J87 J80 J79 J92 J93 J91 J90 J94 J89 J88 J78 J77 J95 J76 J75 J105 J104 J107 J106
    refine lv_iconst (v := (0 : Int32)) hx hb md_Mo_pulse_205 (by decide) ?_
    exact J103 v (x4) _ _ _ (by rw [hj]; simp only [mf_Mo_pulse_0_j102]) hc0  hI hP hS (lv_sub hl [0, 1, 2, 3, 4] rfl)
  have J108 : ∀ (v : fw_V) (x4 : Int32) (x90 : Int32) (H : Heap) (locs : List Loc) (ls : Array Slot), mf_Mo_pulse_0 v0 = mf_Mo_pulse_0_j108 v x4 x90 → (x4 = 0 ∨ x4 = 1) → mI b v → va_P D vcls (fw_w mCL cA mkd ad v) H → va_S (fw_A mCL ad) s.heap H locs → lv_has ls 5 [(0, .ref (ad 0 0)), (1, .int (0 : Int32)), (2, .int (3 : Int32)), (3, .int (5 : Int32)), (4, .int x4)] → W p l e (headSpec (Cond.code my_Mo_pulse mb_Mo_pulse 5 none :: vTB) mrm_Mo_pulse).room s m ([.ref (ad 0 0), .int (0 : Int32)] : List Value).toArray below meth c H locs 0 0 (MQ below (fw_Qv D vcls mCL cA mkd ad (mI b) (mf_Mo_pulse_0 v0)) ([.ref (ad 0 0), .int (0 : Int32)] : List Value).toArray s 0 0 (fw_A mCL ad)) (F0 m 206 ls [.int x90, .int (5 : Int32), .ref (ad 9 0)]) := by
    intro v x4 x90 H locs ls hj hc0 hI hP hS hl
    clear J25 J24 J27 J26 J23 J22 J28 J21 J20 J33 J34 J32 J31 J35 J30 J29 J19 J18 J36 J17 J16 J46 J45 J48 J47 J44 J43 J49 J42 J41 J54 J55 J53 J52 J56 J51 J50 J40 J39 J57 J38 J37 J15 J14 J58 J13 J12 J63 J64 J62 J61 J65 J60 J59 J11 J10 J66 J9 J8 J84 J83 J86 J85 J82 J81 J87 J80 J79 J92 J93 J91 J90 J94 J89 J88 J78 J77 J95 J76 J75 J105 J107 J103 J102
    refine fw_iast hx hb hK hD hP hS (mm_9 (by decide)) (mk_9 0) 0 rfl (j := 5) (by decide) (fw_inc (by decide)) md_Mo_pulse_206 (fun v192 H locs ev192 hP hS => ?_)
    have hI : mI b v192 := by rw [ev192]; exact mI_up hI trivial trivial
    refine lv_iload_n hx hb md_Mo_pulse_207 rfl (lv_at hl 2 rfl) ?_
    refine lv_iload hx hb md_Mo_pulse_208 (lv_at hl 4 rfl) ?_
    refine lv_if_eq (tgt := 221) hx hb md_Mo_pulse_210 (by decide) (fun c_193 => ?_) (fun c_193 => ?_)
    · refine lv_iconst (v := (0 : Int32)) hx hb md_Mo_pulse_221 (by decide) ?_
      exact J104 v192  _ _ _ (by rw [hj]; subst ev192; simp only [mf_Mo_pulse_0_j108, if_pos c_193])   hI hP hS (lv_sub hl [0, 1, 3] rfl)
    · refine lv_iconst (v := (1 : Int32)) hx hb md_Mo_pulse_213 (by decide) ?_
      refine lv_iload_n hx hb md_Mo_pulse_214 rfl (lv_at hl 3 rfl) ?_
      refine lv_iconst (v := (2 : Int32)) hx hb md_Mo_pulse_215 (by decide) ?_
      refine lv_idiv hx hb md_Mo_pulse_216 (by decide) ?_
      refine fw_top (y := (2 : Int32)) (by decide) ?_
      refine lv_ishl hx hb md_Mo_pulse_217 ?_
      refine fw_top (y := (4 : Int32)) (by decide) ?_
      refine lv_goto (tgt := 222) hx hb md_Mo_pulse_218 (by decide) ?_
      exact J106 v192  _ _ _ (by rw [hj]; subst ev192; simp only [mf_Mo_pulse_0_j108, if_neg c_193])   hI hP hS (lv_sub hl [0, 1, 3] rfl)
  have J101 : ∀ (v : fw_V)  (H : Heap) (locs : List Loc) (ls : Array Slot), mf_Mo_pulse_0 v0 = mf_Mo_pulse_0_j101 v → mI b v → va_P D vcls (fw_w mCL cA mkd ad v) H → va_S (fw_A mCL ad) s.heap H locs → lv_has ls 5 [(0, .ref (ad 0 0)), (1, .int (0 : Int32)), (2, .int (3 : Int32)), (3, .int (5 : Int32))] → W p l e (headSpec (Cond.code my_Mo_pulse mb_Mo_pulse 5 none :: vTB) mrm_Mo_pulse).room s m ([.ref (ad 0 0), .int (0 : Int32)] : List Value).toArray below meth c H locs 0 0 (MQ below (fw_Qv D vcls mCL cA mkd ad (mI b) (mf_Mo_pulse_0 v0)) ([.ref (ad 0 0), .int (0 : Int32)] : List Value).toArray s 0 0 (fw_A mCL ad)) (F0 m 148 ls []) := by
    intro v  H locs ls hj  hI hP hS hl
    clear J25 J24 J27 J26 J23 J22 J28 J21 J20 J33 J34 J32 J31 J35 J30 J29 J19 J18 J36 J17 J16 J46 J45 J48 J47 J44 J43 J49 J42 J41 J54 J55 J53 J52 J56 J51 J50 J40 J39 J57 J38 J37 J15 J14 J58 J13 J12 J63 J64 J62 J61 J65 J60 J59 J11 J10 J66 J9 J8 J84 J83 J86 J85 J82 J81 J87 J80 J79 J92 J93 J91 J90 J94 J89 J88 J78 J77 J95 J76 J75 J105 J104 J107 J106 J103
    refine lv_iload_n hx hb md_Mo_pulse_148 rfl (lv_at hl 3 rfl) ?_
    refine lv_bipush (v := (6 : Int32)) hx hb md_Mo_pulse_149 (by decide) ?_
    refine lv_icmp_ge (tgt := 230) hx hb md_Mo_pulse_151 (by decide) (fun c_176 => absurd c_176 (by decide)) (fun _ => ?_)
    refine lv_aload_n hx hb md_Mo_pulse_154 rfl (lv_at hl 0 rfl) ?_
    refine lv_iload_n hx hb md_Mo_pulse_155 rfl (lv_at hl 1 rfl) ?_
    refine lv_iload_n hx hb md_Mo_pulse_156 rfl (lv_at hl 3 rfl) ?_
    refine lv_iconst (v := (2 : Int32)) hx hb md_Mo_pulse_157 (by decide) ?_
    refine lv_idiv hx hb md_Mo_pulse_158 (by decide) ?_
    refine fw_top (y := (2 : Int32)) (by decide) ?_
    refine fw_cb (va_runV (As := [.int (0 : Int32), .int (2 : Int32)]) (rest := []) ⟨hx, hb, hml, hown, hts⟩ (mc_Mo_isGood_0 l hD v hI (2 : Int32) (fw_inc (by decide))) (mw_Mo_isGood hts L_Mo_250 ⟨Nat.le_of_ble_eq_true rfl, Nat.le_of_ble_eq_true rfl⟩) (fw_preV hN hK hP (mm_0 (by decide)) (mk_0 0) rfl) rfl rfl hl.1 rfl (lv_room (Nat.le_of_ble_eq_true rfl)) md_Mo_pulse_159 ⟨Nat.le_of_ble_eq_true rfl, Nat.le_of_ble_eq_true rfl⟩) hS (fun r177 H locs zr177 er177 hP hS => ?_)
    refine lv_istore (lv' := [(4, .int r177), (0, .ref (ad 0 0)), (1, .int (0 : Int32)), (2, .int (3 : Int32)), (3, .int (5 : Int32))]) hx hb md_Mo_pulse_162 hl (by decide) rfl (fun ls hl => ?_)
    refine lv_aload_n hx hb md_Mo_pulse_164 rfl (lv_at hl 1 rfl) ?_
    refine fw_getr hx hb hts i_Mo hown hK hP (mm_0 (by decide)) (mk_0 0) rfl 8 (by decide) (hts _ L_Mo_35) (fun _ h9 => h9) rfl md_Mo_pulse_165 ?_
    refine lv_iload_n hx hb md_Mo_pulse_168 rfl (lv_at hl 4 rfl) ?_
    refine lv_iload hx hb md_Mo_pulse_169 (lv_at hl 0 rfl) ?_
    refine lv_if_eq (tgt := 205) hx hb md_Mo_pulse_171 (by decide) (fun c_178 => ?_) (fun c_178 => ?_)
    · exact J102 v (r177) _ _ _ (by rw [hj]; subst er177; simp only [mf_Mo_pulse_0_j101, if_pos c_178]) zr177  hI hP hS (lv_sub hl [1, 2, 3, 4, 0] rfl)
    · have h_189 : vp_in (v 43 0 2) 8 := mp_isGood_0_2 er177 c_178 (hI.1 43 0 2)
      refine lv_iload_n hx hb md_Mo_pulse_174 rfl (lv_at hl 4 rfl) ?_
      refine lv_iconst (v := (2 : Int32)) hx hb md_Mo_pulse_175 (by decide) ?_
      refine lv_irem hx hb md_Mo_pulse_176 (by decide) ?_
      refine fw_top (y := (1 : Int32)) (by decide) ?_
      refine lv_aload_n hx hb md_Mo_pulse_177 rfl (lv_at hl 1 rfl) ?_
      refine lv_iconst (v := (3 : Int32)) hx hb md_Mo_pulse_178 (by decide) ?_
      refine lv_iload_n hx hb md_Mo_pulse_179 rfl (lv_at hl 2 rfl) ?_
      refine lv_imul hx hb md_Mo_pulse_180 ?_
      refine fw_top (y := (0 : Int32)) (by decide) ?_
      refine lv_iload_n hx hb md_Mo_pulse_181 rfl (lv_at hl 4 rfl) ?_
      refine lv_iconst (v := (2 : Int32)) hx hb md_Mo_pulse_182 (by decide) ?_
      refine lv_idiv hx hb md_Mo_pulse_183 (by decide) ?_
      refine fw_top (y := (2 : Int32)) (by decide) ?_
      refine lv_iadd hx hb md_Mo_pulse_184 ?_
      refine fw_top (y := (2 : Int32)) (by decide) ?_
      refine fw_co (va_runV (As := [.int (2 : Int32)]) (rest := [.int (1 : Int32), .int (5 : Int32), .ref (ad 9 0)]) ⟨hx, hb, hml, hown, hts⟩ (mc_Mo_insAt l hD v hI (2 : Int32) (fw_inc (by decide))) (mw_Mo_insAt hts L_Mo_263 ⟨Nat.le_of_ble_eq_true rfl, Nat.le_of_ble_eq_true rfl⟩) (fw_preV hN hK hP (mm_0 (by decide)) (mk_0 0) rfl) rfl rfl hl.1 rfl (lv_room (Nat.le_of_ble_eq_true rfl)) md_Mo_pulse_185 ⟨Nat.le_of_ble_eq_true rfl, Nat.le_of_ble_eq_true rfl⟩) hS (fun r190 H locs er190 hP hS => ?_)
      refine lv_icmp_ge (tgt := 205) hx hb md_Mo_pulse_188 (by decide) (fun c_191 => ?_) (fun c_191 => ?_)
      · exact J102 v (r177) _ _ _ (by rw [hj]; subst er177 er190; simp only [mf_Mo_pulse_0_j101, if_neg c_178, if_pos c_191]) zr177  hI hP hS (lv_sub hl [1, 2, 3, 4, 0] rfl)
      · refine lv_aload_n hx hb md_Mo_pulse_191 rfl (lv_at hl 1 rfl) ?_
        refine fw_getr hx hb hts i_Mo hown hK hP (mm_0 (by decide)) (mk_0 0) rfl 44 (by decide) (hts _ L_Mo_140) (fun _ h9 => h9) rfl md_Mo_pulse_192 ?_
        refine lv_bipush (v := (6 : Int32)) hx hb md_Mo_pulse_195 (by decide) ?_
        refine lv_iload_n hx hb md_Mo_pulse_197 rfl (lv_at hl 2 rfl) ?_
        refine lv_imul hx hb md_Mo_pulse_198 ?_
        refine fw_top (y := (0 : Int32)) (by decide) ?_
        refine lv_iload_n hx hb md_Mo_pulse_199 rfl (lv_at hl 4 rfl) ?_
        refine lv_iadd hx hb md_Mo_pulse_200 ?_
        refine fw_top (y := (5 : Int32)) (by decide) ?_
        refine fw_iald hx hb hK hP (mm_45 (by decide)) (mk_45 0) 0 rfl (j := 5) (by decide) (fw_inc (by decide)) md_Mo_pulse_201 ?_
        refine lv_goto (tgt := 206) hx hb md_Mo_pulse_202 (by decide) ?_
        exact J108 v (r177) ((v 45 0 5)) _ _ _ (by rw [hj]; subst er177 er190; simp only [mf_Mo_pulse_0_j101, if_neg c_178, if_neg c_191]) zr177  hI hP hS (lv_sub hl [1, 2, 3, 4, 0] rfl)
  have J100 : ∀ (v : fw_V)  (H : Heap) (locs : List Loc) (ls : Array Slot), mf_Mo_pulse_0 v0 = mf_Mo_pulse_0_j100 v → mI b v → va_P D vcls (fw_w mCL cA mkd ad v) H → va_S (fw_A mCL ad) s.heap H locs → lv_has ls 5 [(0, .ref (ad 0 0)), (1, .int (0 : Int32)), (3, .int (4 : Int32))] → W p l e (headSpec (Cond.code my_Mo_pulse mb_Mo_pulse 5 none :: vTB) mrm_Mo_pulse).room s m ([.ref (ad 0 0), .int (0 : Int32)] : List Value).toArray below meth c H locs 0 0 (MQ below (fw_Qv D vcls mCL cA mkd ad (mI b) (mf_Mo_pulse_0 v0)) ([.ref (ad 0 0), .int (0 : Int32)] : List Value).toArray s 0 0 (fw_A mCL ad)) (F0 m 222 ls [.int (0 : Int32), .int (3 : Int32)]) := by
    intro v  H locs ls hj  hI hP hS hl
    clear J25 J24 J27 J26 J23 J22 J28 J21 J20 J33 J34 J32 J31 J35 J30 J29 J19 J18 J36 J17 J16 J46 J45 J48 J47 J44 J43 J49 J42 J41 J54 J55 J53 J52 J56 J51 J50 J40 J39 J57 J38 J37 J15 J14 J58 J13 J12 J63 J64 J62 J61 J65 J60 J59 J11 J10 J66 J9 J8 J84 J83 J86 J85 J82 J81 J87 J80 J79 J92 J93 J91 J90 J94 J89 J88 J78 J77 J95 J76 J75 J105 J104 J107 J106 J103 J102 J108
    refine lv_ior hx hb md_Mo_pulse_222 ?_
    refine fw_top (y := (3 : Int32)) (by decide) ?_
    refine lv_istore_n (lv' := [(2, .int (3 : Int32)), (0, .ref (ad 0 0)), (1, .int (0 : Int32)), (3, .int (4 : Int32))]) hx hb md_Mo_pulse_223 rfl hl (by decide) rfl (fun ls hl => ?_)
    refine lv_iinc (v := (5 : Int32)) (lv' := [(3, .int (5 : Int32)), (2, .int (3 : Int32)), (0, .ref (ad 0 0)), (1, .int (0 : Int32))]) hx hb md_Mo_pulse_224 hl (k := 3) rfl (by decide) (by decide) rfl (fun ls hl => ?_)
    refine lv_goto (tgt := 148) hx hb md_Mo_pulse_227 (by decide) ?_
    exact J101 v  _ _ _ (by rw [hj]; simp only [mf_Mo_pulse_0_j100])   hI hP hS (lv_sub hl [2, 3, 1, 0] rfl)
  have J113 : ∀ (v : fw_V)  (H : Heap) (locs : List Loc) (ls : Array Slot), mf_Mo_pulse_0 v0 = mf_Mo_pulse_0_j113 v → mI b v → va_P D vcls (fw_w mCL cA mkd ad v) H → va_S (fw_A mCL ad) s.heap H locs → lv_has ls 5 [(0, .ref (ad 0 0)), (1, .int (0 : Int32)), (3, .int (5 : Int32))] → W p l e (headSpec (Cond.code my_Mo_pulse mb_Mo_pulse 5 none :: vTB) mrm_Mo_pulse).room s m ([.ref (ad 0 0), .int (0 : Int32)] : List Value).toArray below meth c H locs 0 0 (MQ below (fw_Qv D vcls mCL cA mkd ad (mI b) (mf_Mo_pulse_0 v0)) ([.ref (ad 0 0), .int (0 : Int32)] : List Value).toArray s 0 0 (fw_A mCL ad)) (F0 m 222 ls [.int (0 : Int32), .int (7 : Int32)]) := by
    intro v  H locs ls hj  hI hP hS hl
    clear J25 J24 J27 J26 J23 J22 J28 J21 J20 J33 J34 J32 J31 J35 J30 J29 J19 J18 J36 J17 J16 J46 J45 J48 J47 J44 J43 J49 J42 J41 J54 J55 J53 J52 J56 J51 J50 J40 J39 J57 J38 J37 J15 J14 J58 J13 J12 J63 J64 J62 J61 J65 J60 J59 J11 J10 J66 J9 J8 J84 J83 J86 J85 J82 J81 J87 J80 J79 J92 J93 J91 J90 J94 J89 J88 J78 J77 J95 J76 J75 J105 J104 J106 J103 J102 J108 J101 J100
    refine lv_ior hx hb md_Mo_pulse_222 ?_
    refine fw_top (y := (7 : Int32)) (by decide) ?_
    refine lv_istore_n (lv' := [(2, .int (7 : Int32)), (0, .ref (ad 0 0)), (1, .int (0 : Int32)), (3, .int (5 : Int32))]) hx hb md_Mo_pulse_223 rfl hl (by decide) rfl (fun ls hl => ?_)
    refine lv_iinc (v := (6 : Int32)) (lv' := [(3, .int (6 : Int32)), (2, .int (7 : Int32)), (0, .ref (ad 0 0)), (1, .int (0 : Int32))]) hx hb md_Mo_pulse_224 hl (k := 3) rfl (by decide) (by decide) rfl (fun ls hl => ?_)
    refine lv_goto (tgt := 148) hx hb md_Mo_pulse_227 (by decide) ?_
    exact J107 v  _ _ _ (by rw [hj]; simp only [mf_Mo_pulse_0_j113])   hI hP hS (lv_sub hl [2, 3, 1, 0] rfl)
  have J114 : ∀ (v : fw_V)  (H : Heap) (locs : List Loc) (ls : Array Slot), mf_Mo_pulse_0 v0 = mf_Mo_pulse_0_j114 v → mI b v → va_P D vcls (fw_w mCL cA mkd ad v) H → va_S (fw_A mCL ad) s.heap H locs → lv_has ls 5 [(0, .ref (ad 0 0)), (1, .int (0 : Int32)), (3, .int (5 : Int32))] → W p l e (headSpec (Cond.code my_Mo_pulse mb_Mo_pulse 5 none :: vTB) mrm_Mo_pulse).room s m ([.ref (ad 0 0), .int (0 : Int32)] : List Value).toArray below meth c H locs 0 0 (MQ below (fw_Qv D vcls mCL cA mkd ad (mI b) (mf_Mo_pulse_0 v0)) ([.ref (ad 0 0), .int (0 : Int32)] : List Value).toArray s 0 0 (fw_A mCL ad)) (F0 m 222 ls [.int (4 : Int32), .int (7 : Int32)]) := by
    intro v  H locs ls hj  hI hP hS hl
    clear J25 J24 J27 J26 J23 J22 J28 J21 J20 J33 J34 J32 J31 J35 J30 J29 J19 J18 J36 J17 J16 J46 J45 J48 J47 J44 J43 J49 J42 J41 J54 J55 J53 J52 J56 J51 J50 J40 J39 J57 J38 J37 J15 J14 J58 J13 J12 J63 J64 J62 J61 J65 J60 J59 J11 J10 J66 J9 J8 J84 J83 J86 J85 J82 J81 J87 J80 J79 J92 J93 J91 J90 J94 J89 J88 J78 J77 J95 J76 J75 J105 J104 J106 J103 J102 J108 J101 J100 J113
    refine lv_ior hx hb md_Mo_pulse_222 ?_
    refine fw_top (y := (7 : Int32)) (by decide) ?_
    refine lv_istore_n (lv' := [(2, .int (7 : Int32)), (0, .ref (ad 0 0)), (1, .int (0 : Int32)), (3, .int (5 : Int32))]) hx hb md_Mo_pulse_223 rfl hl (by decide) rfl (fun ls hl => ?_)
    refine lv_iinc (v := (6 : Int32)) (lv' := [(3, .int (6 : Int32)), (2, .int (7 : Int32)), (0, .ref (ad 0 0)), (1, .int (0 : Int32))]) hx hb md_Mo_pulse_224 hl (k := 3) rfl (by decide) (by decide) rfl (fun ls hl => ?_)
    refine lv_goto (tgt := 148) hx hb md_Mo_pulse_227 (by decide) ?_
    exact J107 v  _ _ _ (by rw [hj]; simp only [mf_Mo_pulse_0_j114])   hI hP hS (lv_sub hl [2, 3, 1, 0] rfl)
  have J112 : ∀ (v : fw_V) (x4 : Int32) (H : Heap) (locs : List Loc) (ls : Array Slot), mf_Mo_pulse_0 v0 = mf_Mo_pulse_0_j112 v x4 → (x4 = 0 ∨ x4 = 1) → mI b v → va_P D vcls (fw_w mCL cA mkd ad v) H → va_S (fw_A mCL ad) s.heap H locs → lv_has ls 5 [(0, .ref (ad 0 0)), (1, .int (0 : Int32)), (2, .int (7 : Int32)), (3, .int (5 : Int32)), (4, .int x4)] → W p l e (headSpec (Cond.code my_Mo_pulse mb_Mo_pulse 5 none :: vTB) mrm_Mo_pulse).room s m ([.ref (ad 0 0), .int (0 : Int32)] : List Value).toArray below meth c H locs 0 0 (MQ below (fw_Qv D vcls mCL cA mkd ad (mI b) (mf_Mo_pulse_0 v0)) ([.ref (ad 0 0), .int (0 : Int32)] : List Value).toArray s 0 0 (fw_A mCL ad)) (F0 m 206 ls [.int (0 : Int32), .int (5 : Int32), .ref (ad 9 0)]) := by
    intro v x4 H locs ls hj hc0 hI hP hS hl
    clear J25 J24 J27 J26 J23 J22 J28 J21 J20 J33 J34 J32 J31 J35 J30 J29 J19 J18 J36 J17 J16 J46 J45 J48 J47 J44 J43 J49 J42 J41 J54 J55 J53 J52 J56 J51 J50 J40 J39 J57 J38 J37 J15 J14 J58 J13 J12 J63 J64 J62 J61 J65 J60 J59 J11 J10 J66 J9 J8 J84 J83 J86 J85 J82 J81 J87 J80 J79 J92 J93 J91 J90 J94 J89 J88 J78 J77 J95 J76 J75 J105 J104 J107 J106 J103 J102 J108 J101 J100
    refine fw_iast hx hb hK hD hP hS (mm_9 (by decide)) (mk_9 0) 0 rfl (j := 5) (by decide) (fw_inc (by decide)) md_Mo_pulse_206 (fun v197 H locs ev197 hP hS => ?_)
    have hI : mI b v197 := by rw [ev197]; exact mI_up hI trivial trivial
    refine lv_iload_n hx hb md_Mo_pulse_207 rfl (lv_at hl 2 rfl) ?_
    refine lv_iload hx hb md_Mo_pulse_208 (lv_at hl 4 rfl) ?_
    refine lv_if_eq (tgt := 221) hx hb md_Mo_pulse_210 (by decide) (fun c_198 => ?_) (fun c_198 => ?_)
    · refine lv_iconst (v := (0 : Int32)) hx hb md_Mo_pulse_221 (by decide) ?_
      exact J113 v197  _ _ _ (by rw [hj]; subst ev197; simp only [mf_Mo_pulse_0_j112, if_pos c_198])   hI hP hS (lv_sub hl [0, 1, 3] rfl)
    · refine lv_iconst (v := (1 : Int32)) hx hb md_Mo_pulse_213 (by decide) ?_
      refine lv_iload_n hx hb md_Mo_pulse_214 rfl (lv_at hl 3 rfl) ?_
      refine lv_iconst (v := (2 : Int32)) hx hb md_Mo_pulse_215 (by decide) ?_
      refine lv_idiv hx hb md_Mo_pulse_216 (by decide) ?_
      refine fw_top (y := (2 : Int32)) (by decide) ?_
      refine lv_ishl hx hb md_Mo_pulse_217 ?_
      refine fw_top (y := (4 : Int32)) (by decide) ?_
      refine lv_goto (tgt := 222) hx hb md_Mo_pulse_218 (by decide) ?_
      exact J114 v197  _ _ _ (by rw [hj]; subst ev197; simp only [mf_Mo_pulse_0_j112, if_neg c_198])   hI hP hS (lv_sub hl [0, 1, 3] rfl)
  have J111 : ∀ (v : fw_V) (x4 : Int32) (H : Heap) (locs : List Loc) (ls : Array Slot), mf_Mo_pulse_0 v0 = mf_Mo_pulse_0_j111 v x4 → (x4 = 0 ∨ x4 = 1) → mI b v → va_P D vcls (fw_w mCL cA mkd ad v) H → va_S (fw_A mCL ad) s.heap H locs → lv_has ls 5 [(0, .ref (ad 0 0)), (1, .int (0 : Int32)), (2, .int (7 : Int32)), (3, .int (5 : Int32)), (4, .int x4)] → W p l e (headSpec (Cond.code my_Mo_pulse mb_Mo_pulse 5 none :: vTB) mrm_Mo_pulse).room s m ([.ref (ad 0 0), .int (0 : Int32)] : List Value).toArray below meth c H locs 0 0 (MQ below (fw_Qv D vcls mCL cA mkd ad (mI b) (mf_Mo_pulse_0 v0)) ([.ref (ad 0 0), .int (0 : Int32)] : List Value).toArray s 0 0 (fw_A mCL ad)) (F0 m 205 ls [.int (5 : Int32), .ref (ad 9 0)]) := by
    intro v x4 H locs ls hj hc0 hI hP hS hl
    clear J25 J24 J27 J26 J23 J22 J28 J21 J20 J33 J34 J32 J31 J35 J30 J29 J19 J18 J36 J17 J16 J46 J45 J48 J47 J44 J43 J49 J42 J41 J54 J55 J53 J52 J56 J51 J50 J40 J39 J57 J38 J37 J15 J14 J58 J13 J12 J63 J64 J62 J61 J65 J60 J59 J11 J10 J66 J9 J8 J84 J83 J86 J85 J82 J81 J87 J80 J79 J92 J93 J91 J90 J94 J89 J88 J78 J77 J95 J76 J75 J105 J104 J107 J106 J103 J102 J108 J101 J100 J113 J114
    refine lv_iconst (v := (0 : Int32)) hx hb md_Mo_pulse_205 (by decide) ?_
    exact J112 v (x4) _ _ _ (by rw [hj]; simp only [mf_Mo_pulse_0_j111]) hc0  hI hP hS (lv_sub hl [0, 1, 2, 3, 4] rfl)
  have J115 : ∀ (v : fw_V) (x4 : Int32) (x90 : Int32) (H : Heap) (locs : List Loc) (ls : Array Slot), mf_Mo_pulse_0 v0 = mf_Mo_pulse_0_j115 v x4 x90 → (x4 = 0 ∨ x4 = 1) → mI b v → va_P D vcls (fw_w mCL cA mkd ad v) H → va_S (fw_A mCL ad) s.heap H locs → lv_has ls 5 [(0, .ref (ad 0 0)), (1, .int (0 : Int32)), (2, .int (7 : Int32)), (3, .int (5 : Int32)), (4, .int x4)] → W p l e (headSpec (Cond.code my_Mo_pulse mb_Mo_pulse 5 none :: vTB) mrm_Mo_pulse).room s m ([.ref (ad 0 0), .int (0 : Int32)] : List Value).toArray below meth c H locs 0 0 (MQ below (fw_Qv D vcls mCL cA mkd ad (mI b) (mf_Mo_pulse_0 v0)) ([.ref (ad 0 0), .int (0 : Int32)] : List Value).toArray s 0 0 (fw_A mCL ad)) (F0 m 206 ls [.int x90, .int (5 : Int32), .ref (ad 9 0)]) := by
    intro v x4 x90 H locs ls hj hc0 hI hP hS hl
    clear J25 J24 J27 J26 J23 J22 J28 J21 J20 J33 J34 J32 J31 J35 J30 J29 J19 J18 J36 J17 J16 J46 J45 J48 J47 J44 J43 J49 J42 J41 J54 J55 J53 J52 J56 J51 J50 J40 J39 J57 J38 J37 J15 J14 J58 J13 J12 J63 J64 J62 J61 J65 J60 J59 J11 J10 J66 J9 J8 J84 J83 J86 J85 J82 J81 J87 J80 J79 J92 J93 J91 J90 J94 J89 J88 J78 J77 J95 J76 J75 J105 J104 J107 J106 J103 J102 J108 J101 J100 J112 J111
    refine fw_iast hx hb hK hD hP hS (mm_9 (by decide)) (mk_9 0) 0 rfl (j := 5) (by decide) (fw_inc (by decide)) md_Mo_pulse_206 (fun v202 H locs ev202 hP hS => ?_)
    have hI : mI b v202 := by rw [ev202]; exact mI_up hI trivial trivial
    refine lv_iload_n hx hb md_Mo_pulse_207 rfl (lv_at hl 2 rfl) ?_
    refine lv_iload hx hb md_Mo_pulse_208 (lv_at hl 4 rfl) ?_
    refine lv_if_eq (tgt := 221) hx hb md_Mo_pulse_210 (by decide) (fun c_203 => ?_) (fun c_203 => ?_)
    · refine lv_iconst (v := (0 : Int32)) hx hb md_Mo_pulse_221 (by decide) ?_
      exact J113 v202  _ _ _ (by rw [hj]; subst ev202; simp only [mf_Mo_pulse_0_j115, if_pos c_203])   hI hP hS (lv_sub hl [0, 1, 3] rfl)
    · refine lv_iconst (v := (1 : Int32)) hx hb md_Mo_pulse_213 (by decide) ?_
      refine lv_iload_n hx hb md_Mo_pulse_214 rfl (lv_at hl 3 rfl) ?_
      refine lv_iconst (v := (2 : Int32)) hx hb md_Mo_pulse_215 (by decide) ?_
      refine lv_idiv hx hb md_Mo_pulse_216 (by decide) ?_
      refine fw_top (y := (2 : Int32)) (by decide) ?_
      refine lv_ishl hx hb md_Mo_pulse_217 ?_
      refine fw_top (y := (4 : Int32)) (by decide) ?_
      refine lv_goto (tgt := 222) hx hb md_Mo_pulse_218 (by decide) ?_
      exact J114 v202  _ _ _ (by rw [hj]; subst ev202; simp only [mf_Mo_pulse_0_j115, if_neg c_203])   hI hP hS (lv_sub hl [0, 1, 3] rfl)
  have J110 : ∀ (v : fw_V)  (H : Heap) (locs : List Loc) (ls : Array Slot), mf_Mo_pulse_0 v0 = mf_Mo_pulse_0_j110 v → mI b v → va_P D vcls (fw_w mCL cA mkd ad v) H → va_S (fw_A mCL ad) s.heap H locs → lv_has ls 5 [(0, .ref (ad 0 0)), (1, .int (0 : Int32)), (2, .int (7 : Int32)), (3, .int (5 : Int32))] → W p l e (headSpec (Cond.code my_Mo_pulse mb_Mo_pulse 5 none :: vTB) mrm_Mo_pulse).room s m ([.ref (ad 0 0), .int (0 : Int32)] : List Value).toArray below meth c H locs 0 0 (MQ below (fw_Qv D vcls mCL cA mkd ad (mI b) (mf_Mo_pulse_0 v0)) ([.ref (ad 0 0), .int (0 : Int32)] : List Value).toArray s 0 0 (fw_A mCL ad)) (F0 m 148 ls []) := by
    intro v  H locs ls hj  hI hP hS hl
    clear J25 J24 J27 J26 J23 J22 J28 J21 J20 J33 J34 J32 J31 J35 J30 J29 J19 J18 J36 J17 J16 J46 J45 J48 J47 J44 J43 J49 J42 J41 J54 J55 J53 J52 J56 J51 J50 J40 J39 J57 J38 J37 J15 J14 J58 J13 J12 J63 J64 J62 J61 J65 J60 J59 J11 J10 J66 J9 J8 J84 J83 J86 J85 J82 J81 J87 J80 J79 J92 J93 J91 J90 J94 J89 J88 J78 J77 J95 J76 J75 J105 J104 J107 J106 J103 J102 J108 J101 J100 J113 J114 J112
    refine lv_iload_n hx hb md_Mo_pulse_148 rfl (lv_at hl 3 rfl) ?_
    refine lv_bipush (v := (6 : Int32)) hx hb md_Mo_pulse_149 (by decide) ?_
    refine lv_icmp_ge (tgt := 230) hx hb md_Mo_pulse_151 (by decide) (fun c_194 => absurd c_194 (by decide)) (fun _ => ?_)
    refine lv_aload_n hx hb md_Mo_pulse_154 rfl (lv_at hl 0 rfl) ?_
    refine lv_iload_n hx hb md_Mo_pulse_155 rfl (lv_at hl 1 rfl) ?_
    refine lv_iload_n hx hb md_Mo_pulse_156 rfl (lv_at hl 3 rfl) ?_
    refine lv_iconst (v := (2 : Int32)) hx hb md_Mo_pulse_157 (by decide) ?_
    refine lv_idiv hx hb md_Mo_pulse_158 (by decide) ?_
    refine fw_top (y := (2 : Int32)) (by decide) ?_
    refine fw_cb (va_runV (As := [.int (0 : Int32), .int (2 : Int32)]) (rest := []) ⟨hx, hb, hml, hown, hts⟩ (mc_Mo_isGood_0 l hD v hI (2 : Int32) (fw_inc (by decide))) (mw_Mo_isGood hts L_Mo_250 ⟨Nat.le_of_ble_eq_true rfl, Nat.le_of_ble_eq_true rfl⟩) (fw_preV hN hK hP (mm_0 (by decide)) (mk_0 0) rfl) rfl rfl hl.1 rfl (lv_room (Nat.le_of_ble_eq_true rfl)) md_Mo_pulse_159 ⟨Nat.le_of_ble_eq_true rfl, Nat.le_of_ble_eq_true rfl⟩) hS (fun r195 H locs zr195 er195 hP hS => ?_)
    refine lv_istore (lv' := [(4, .int r195), (0, .ref (ad 0 0)), (1, .int (0 : Int32)), (2, .int (7 : Int32)), (3, .int (5 : Int32))]) hx hb md_Mo_pulse_162 hl (by decide) rfl (fun ls hl => ?_)
    refine lv_aload_n hx hb md_Mo_pulse_164 rfl (lv_at hl 1 rfl) ?_
    refine fw_getr hx hb hts i_Mo hown hK hP (mm_0 (by decide)) (mk_0 0) rfl 8 (by decide) (hts _ L_Mo_35) (fun _ h9 => h9) rfl md_Mo_pulse_165 ?_
    refine lv_iload_n hx hb md_Mo_pulse_168 rfl (lv_at hl 4 rfl) ?_
    refine lv_iload hx hb md_Mo_pulse_169 (lv_at hl 0 rfl) ?_
    refine lv_if_eq (tgt := 205) hx hb md_Mo_pulse_171 (by decide) (fun c_196 => ?_) (fun c_196 => ?_)
    · exact J111 v (r195) _ _ _ (by rw [hj]; subst er195; simp only [mf_Mo_pulse_0_j110, if_pos c_196]) zr195  hI hP hS (lv_sub hl [1, 2, 3, 4, 0] rfl)
    · have h_199 : vp_in (v 43 0 2) 8 := mp_isGood_0_2 er195 c_196 (hI.1 43 0 2)
      refine lv_iload_n hx hb md_Mo_pulse_174 rfl (lv_at hl 4 rfl) ?_
      refine lv_iconst (v := (2 : Int32)) hx hb md_Mo_pulse_175 (by decide) ?_
      refine lv_irem hx hb md_Mo_pulse_176 (by decide) ?_
      refine fw_top (y := (1 : Int32)) (by decide) ?_
      refine lv_aload_n hx hb md_Mo_pulse_177 rfl (lv_at hl 1 rfl) ?_
      refine lv_iconst (v := (3 : Int32)) hx hb md_Mo_pulse_178 (by decide) ?_
      refine lv_iload_n hx hb md_Mo_pulse_179 rfl (lv_at hl 2 rfl) ?_
      refine lv_imul hx hb md_Mo_pulse_180 ?_
      refine fw_top (y := (0 : Int32)) (by decide) ?_
      refine lv_iload_n hx hb md_Mo_pulse_181 rfl (lv_at hl 4 rfl) ?_
      refine lv_iconst (v := (2 : Int32)) hx hb md_Mo_pulse_182 (by decide) ?_
      refine lv_idiv hx hb md_Mo_pulse_183 (by decide) ?_
      refine fw_top (y := (2 : Int32)) (by decide) ?_
      refine lv_iadd hx hb md_Mo_pulse_184 ?_
      refine fw_top (y := (2 : Int32)) (by decide) ?_
      refine fw_co (va_runV (As := [.int (2 : Int32)]) (rest := [.int (1 : Int32), .int (5 : Int32), .ref (ad 9 0)]) ⟨hx, hb, hml, hown, hts⟩ (mc_Mo_insAt l hD v hI (2 : Int32) (fw_inc (by decide))) (mw_Mo_insAt hts L_Mo_263 ⟨Nat.le_of_ble_eq_true rfl, Nat.le_of_ble_eq_true rfl⟩) (fw_preV hN hK hP (mm_0 (by decide)) (mk_0 0) rfl) rfl rfl hl.1 rfl (lv_room (Nat.le_of_ble_eq_true rfl)) md_Mo_pulse_185 ⟨Nat.le_of_ble_eq_true rfl, Nat.le_of_ble_eq_true rfl⟩) hS (fun r200 H locs er200 hP hS => ?_)
      refine lv_icmp_ge (tgt := 205) hx hb md_Mo_pulse_188 (by decide) (fun c_201 => ?_) (fun c_201 => ?_)
      · exact J111 v (r195) _ _ _ (by rw [hj]; subst er195 er200; simp only [mf_Mo_pulse_0_j110, if_neg c_196, if_pos c_201]) zr195  hI hP hS (lv_sub hl [1, 2, 3, 4, 0] rfl)
      · refine lv_aload_n hx hb md_Mo_pulse_191 rfl (lv_at hl 1 rfl) ?_
        refine fw_getr hx hb hts i_Mo hown hK hP (mm_0 (by decide)) (mk_0 0) rfl 44 (by decide) (hts _ L_Mo_140) (fun _ h9 => h9) rfl md_Mo_pulse_192 ?_
        refine lv_bipush (v := (6 : Int32)) hx hb md_Mo_pulse_195 (by decide) ?_
        refine lv_iload_n hx hb md_Mo_pulse_197 rfl (lv_at hl 2 rfl) ?_
        refine lv_imul hx hb md_Mo_pulse_198 ?_
        refine fw_top (y := (0 : Int32)) (by decide) ?_
        refine lv_iload_n hx hb md_Mo_pulse_199 rfl (lv_at hl 4 rfl) ?_
        refine lv_iadd hx hb md_Mo_pulse_200 ?_
        refine fw_top (y := (5 : Int32)) (by decide) ?_
        refine fw_iald hx hb hK hP (mm_45 (by decide)) (mk_45 0) 0 rfl (j := 5) (by decide) (fw_inc (by decide)) md_Mo_pulse_201 ?_
        refine lv_goto (tgt := 206) hx hb md_Mo_pulse_202 (by decide) ?_
        exact J115 v (r195) ((v 45 0 5)) _ _ _ (by rw [hj]; subst er195 er200; simp only [mf_Mo_pulse_0_j110, if_neg c_196, if_neg c_201]) zr195  hI hP hS (lv_sub hl [1, 2, 3, 4, 0] rfl)
  have J109 : ∀ (v : fw_V)  (H : Heap) (locs : List Loc) (ls : Array Slot), mf_Mo_pulse_0 v0 = mf_Mo_pulse_0_j109 v → mI b v → va_P D vcls (fw_w mCL cA mkd ad v) H → va_S (fw_A mCL ad) s.heap H locs → lv_has ls 5 [(0, .ref (ad 0 0)), (1, .int (0 : Int32)), (3, .int (4 : Int32))] → W p l e (headSpec (Cond.code my_Mo_pulse mb_Mo_pulse 5 none :: vTB) mrm_Mo_pulse).room s m ([.ref (ad 0 0), .int (0 : Int32)] : List Value).toArray below meth c H locs 0 0 (MQ below (fw_Qv D vcls mCL cA mkd ad (mI b) (mf_Mo_pulse_0 v0)) ([.ref (ad 0 0), .int (0 : Int32)] : List Value).toArray s 0 0 (fw_A mCL ad)) (F0 m 222 ls [.int (4 : Int32), .int (3 : Int32)]) := by
    intro v  H locs ls hj  hI hP hS hl
    clear J25 J24 J27 J26 J23 J22 J28 J21 J20 J33 J34 J32 J31 J35 J30 J29 J19 J18 J36 J17 J16 J46 J45 J48 J47 J44 J43 J49 J42 J41 J54 J55 J53 J52 J56 J51 J50 J40 J39 J57 J38 J37 J15 J14 J58 J13 J12 J63 J64 J62 J61 J65 J60 J59 J11 J10 J66 J9 J8 J84 J83 J86 J85 J82 J81 J87 J80 J79 J92 J93 J91 J90 J94 J89 J88 J78 J77 J95 J76 J75 J105 J104 J107 J106 J103 J102 J108 J101 J100 J113 J114 J112 J111 J115
    refine lv_ior hx hb md_Mo_pulse_222 ?_
    refine fw_top (y := (7 : Int32)) (by decide) ?_
    refine lv_istore_n (lv' := [(2, .int (7 : Int32)), (0, .ref (ad 0 0)), (1, .int (0 : Int32)), (3, .int (4 : Int32))]) hx hb md_Mo_pulse_223 rfl hl (by decide) rfl (fun ls hl => ?_)
    refine lv_iinc (v := (5 : Int32)) (lv' := [(3, .int (5 : Int32)), (2, .int (7 : Int32)), (0, .ref (ad 0 0)), (1, .int (0 : Int32))]) hx hb md_Mo_pulse_224 hl (k := 3) rfl (by decide) (by decide) rfl (fun ls hl => ?_)
    refine lv_goto (tgt := 148) hx hb md_Mo_pulse_227 (by decide) ?_
    exact J110 v  _ _ _ (by rw [hj]; simp only [mf_Mo_pulse_0_j109])   hI hP hS (lv_sub hl [2, 3, 1, 0] rfl)
  have J99 : ∀ (v : fw_V) (x4 : Int32) (H : Heap) (locs : List Loc) (ls : Array Slot), mf_Mo_pulse_0 v0 = mf_Mo_pulse_0_j99 v x4 → (x4 = 0 ∨ x4 = 1) → mI b v → va_P D vcls (fw_w mCL cA mkd ad v) H → va_S (fw_A mCL ad) s.heap H locs → lv_has ls 5 [(0, .ref (ad 0 0)), (1, .int (0 : Int32)), (2, .int (3 : Int32)), (3, .int (4 : Int32)), (4, .int x4)] → W p l e (headSpec (Cond.code my_Mo_pulse mb_Mo_pulse 5 none :: vTB) mrm_Mo_pulse).room s m ([.ref (ad 0 0), .int (0 : Int32)] : List Value).toArray below meth c H locs 0 0 (MQ below (fw_Qv D vcls mCL cA mkd ad (mI b) (mf_Mo_pulse_0 v0)) ([.ref (ad 0 0), .int (0 : Int32)] : List Value).toArray s 0 0 (fw_A mCL ad)) (F0 m 206 ls [.int (0 : Int32), .int (4 : Int32), .ref (ad 9 0)]) := by
    intro v x4 H locs ls hj hc0 hI hP hS hl
    clear J25 J24 J27 J26 J23 J22 J28 J21 J20 J33 J34 J32 J31 J35 J30 J29 J19 J18 J36 J17 J16 J46 J45 J48 J47 J44 J43 J49 J42 J41 J54 J55 J53 J52 J56 J51 J50 J40 J39 J57 J38 J37 J15 J14 J58 J13 J12 J63 J64 J62 J61 J65 J60 J59 J11 J10 J66 J9 J8 J84 J83 J86 J85 J82 J81 J87 J80 J79 J92 J93 J91 J90 J94 J89 J88 J78 J77 J95 J76 J75 J105 J104 J107 J106 J103 J102 J108 J101 J113 J114 J112 J111 J115 J110
    refine fw_iast hx hb hK hD hP hS (mm_9 (by decide)) (mk_9 0) 0 rfl (j := 4) (by decide) (fw_inc (by decide)) md_Mo_pulse_206 (fun v174 H locs ev174 hP hS => ?_)
    have hI : mI b v174 := by rw [ev174]; exact mI_up hI trivial trivial
    refine lv_iload_n hx hb md_Mo_pulse_207 rfl (lv_at hl 2 rfl) ?_
    refine lv_iload hx hb md_Mo_pulse_208 (lv_at hl 4 rfl) ?_
    refine lv_if_eq (tgt := 221) hx hb md_Mo_pulse_210 (by decide) (fun c_175 => ?_) (fun c_175 => ?_)
    · refine lv_iconst (v := (0 : Int32)) hx hb md_Mo_pulse_221 (by decide) ?_
      exact J100 v174  _ _ _ (by rw [hj]; subst ev174; simp only [mf_Mo_pulse_0_j99, if_pos c_175])   hI hP hS (lv_sub hl [0, 1, 3] rfl)
    · refine lv_iconst (v := (1 : Int32)) hx hb md_Mo_pulse_213 (by decide) ?_
      refine lv_iload_n hx hb md_Mo_pulse_214 rfl (lv_at hl 3 rfl) ?_
      refine lv_iconst (v := (2 : Int32)) hx hb md_Mo_pulse_215 (by decide) ?_
      refine lv_idiv hx hb md_Mo_pulse_216 (by decide) ?_
      refine fw_top (y := (2 : Int32)) (by decide) ?_
      refine lv_ishl hx hb md_Mo_pulse_217 ?_
      refine fw_top (y := (4 : Int32)) (by decide) ?_
      refine lv_goto (tgt := 222) hx hb md_Mo_pulse_218 (by decide) ?_
      exact J109 v174  _ _ _ (by rw [hj]; subst ev174; simp only [mf_Mo_pulse_0_j99, if_neg c_175])   hI hP hS (lv_sub hl [0, 1, 3] rfl)
  have J98 : ∀ (v : fw_V) (x4 : Int32) (H : Heap) (locs : List Loc) (ls : Array Slot), mf_Mo_pulse_0 v0 = mf_Mo_pulse_0_j98 v x4 → (x4 = 0 ∨ x4 = 1) → mI b v → va_P D vcls (fw_w mCL cA mkd ad v) H → va_S (fw_A mCL ad) s.heap H locs → lv_has ls 5 [(0, .ref (ad 0 0)), (1, .int (0 : Int32)), (2, .int (3 : Int32)), (3, .int (4 : Int32)), (4, .int x4)] → W p l e (headSpec (Cond.code my_Mo_pulse mb_Mo_pulse 5 none :: vTB) mrm_Mo_pulse).room s m ([.ref (ad 0 0), .int (0 : Int32)] : List Value).toArray below meth c H locs 0 0 (MQ below (fw_Qv D vcls mCL cA mkd ad (mI b) (mf_Mo_pulse_0 v0)) ([.ref (ad 0 0), .int (0 : Int32)] : List Value).toArray s 0 0 (fw_A mCL ad)) (F0 m 205 ls [.int (4 : Int32), .ref (ad 9 0)]) := by
    intro v x4 H locs ls hj hc0 hI hP hS hl
    clear J25 J24 J27 J26 J23 J22 J28 J21 J20 J33 J34 J32 J31 J35 J30 J29 J19 J18 J36 J17 J16 J46 J45 J48 J47 J44 J43 J49 J42 J41 J54 J55 J53 J52 J56 J51 J50 J40 J39 J57 J38 J37 J15 J14 J58 J13 J12 J63 J64 J62 J61 J65 J60 J59 J11 J10 J66 J9 J8 J84 J83 J86 J85 J82 J81 J87 J80 J79 J92 J93 J91 J90 J94 J89 J88 J78 J77 J95 J76 J75 J105 J104 J107 J106 J103 J102 J108 J101 J100 J113 J114 J112 J111 J115 J110 J109
    refine lv_iconst (v := (0 : Int32)) hx hb md_Mo_pulse_205 (by decide) ?_
    exact J99 v (x4) _ _ _ (by rw [hj]; simp only [mf_Mo_pulse_0_j98]) hc0  hI hP hS (lv_sub hl [0, 1, 2, 3, 4] rfl)
  have J116 : ∀ (v : fw_V) (x4 : Int32) (x90 : Int32) (H : Heap) (locs : List Loc) (ls : Array Slot), mf_Mo_pulse_0 v0 = mf_Mo_pulse_0_j116 v x4 x90 → (x4 = 0 ∨ x4 = 1) → mI b v → va_P D vcls (fw_w mCL cA mkd ad v) H → va_S (fw_A mCL ad) s.heap H locs → lv_has ls 5 [(0, .ref (ad 0 0)), (1, .int (0 : Int32)), (2, .int (3 : Int32)), (3, .int (4 : Int32)), (4, .int x4)] → W p l e (headSpec (Cond.code my_Mo_pulse mb_Mo_pulse 5 none :: vTB) mrm_Mo_pulse).room s m ([.ref (ad 0 0), .int (0 : Int32)] : List Value).toArray below meth c H locs 0 0 (MQ below (fw_Qv D vcls mCL cA mkd ad (mI b) (mf_Mo_pulse_0 v0)) ([.ref (ad 0 0), .int (0 : Int32)] : List Value).toArray s 0 0 (fw_A mCL ad)) (F0 m 206 ls [.int x90, .int (4 : Int32), .ref (ad 9 0)]) := by
    intro v x4 x90 H locs ls hj hc0 hI hP hS hl
    clear J25 J24 J27 J26 J23 J22 J28 J21 J20 J33 J34 J32 J31 J35 J30 J29 J19 J18 J36 J17 J16 J46 J45 J48 J47 J44 J43 J49 J42 J41 J54 J55 J53 J52 J56 J51 J50 J40 J39 J57 J38 J37 J15 J14 J58 J13 J12 J63 J64 J62 J61 J65 J60 J59 J11 J10 J66 J9 J8 J84 J83 J86 J85 J82 J81 J87 J80 J79 J92 J93 J91 J90 J94 J89 J88 J78 J77 J95 J76 J75 J105 J104 J107 J106 J103 J102 J108 J101 J113 J114 J112 J111 J115 J110 J99 J98
    refine fw_iast hx hb hK hD hP hS (mm_9 (by decide)) (mk_9 0) 0 rfl (j := 4) (by decide) (fw_inc (by decide)) md_Mo_pulse_206 (fun v207 H locs ev207 hP hS => ?_)
    have hI : mI b v207 := by rw [ev207]; exact mI_up hI trivial trivial
    refine lv_iload_n hx hb md_Mo_pulse_207 rfl (lv_at hl 2 rfl) ?_
    refine lv_iload hx hb md_Mo_pulse_208 (lv_at hl 4 rfl) ?_
    refine lv_if_eq (tgt := 221) hx hb md_Mo_pulse_210 (by decide) (fun c_208 => ?_) (fun c_208 => ?_)
    · refine lv_iconst (v := (0 : Int32)) hx hb md_Mo_pulse_221 (by decide) ?_
      exact J100 v207  _ _ _ (by rw [hj]; subst ev207; simp only [mf_Mo_pulse_0_j116, if_pos c_208])   hI hP hS (lv_sub hl [0, 1, 3] rfl)
    · refine lv_iconst (v := (1 : Int32)) hx hb md_Mo_pulse_213 (by decide) ?_
      refine lv_iload_n hx hb md_Mo_pulse_214 rfl (lv_at hl 3 rfl) ?_
      refine lv_iconst (v := (2 : Int32)) hx hb md_Mo_pulse_215 (by decide) ?_
      refine lv_idiv hx hb md_Mo_pulse_216 (by decide) ?_
      refine fw_top (y := (2 : Int32)) (by decide) ?_
      refine lv_ishl hx hb md_Mo_pulse_217 ?_
      refine fw_top (y := (4 : Int32)) (by decide) ?_
      refine lv_goto (tgt := 222) hx hb md_Mo_pulse_218 (by decide) ?_
      exact J109 v207  _ _ _ (by rw [hj]; subst ev207; simp only [mf_Mo_pulse_0_j116, if_neg c_208])   hI hP hS (lv_sub hl [0, 1, 3] rfl)
  have J97 : ∀ (v : fw_V)  (H : Heap) (locs : List Loc) (ls : Array Slot), mf_Mo_pulse_0 v0 = mf_Mo_pulse_0_j97 v → mI b v → va_P D vcls (fw_w mCL cA mkd ad v) H → va_S (fw_A mCL ad) s.heap H locs → lv_has ls 5 [(0, .ref (ad 0 0)), (1, .int (0 : Int32)), (2, .int (3 : Int32)), (3, .int (4 : Int32))] → W p l e (headSpec (Cond.code my_Mo_pulse mb_Mo_pulse 5 none :: vTB) mrm_Mo_pulse).room s m ([.ref (ad 0 0), .int (0 : Int32)] : List Value).toArray below meth c H locs 0 0 (MQ below (fw_Qv D vcls mCL cA mkd ad (mI b) (mf_Mo_pulse_0 v0)) ([.ref (ad 0 0), .int (0 : Int32)] : List Value).toArray s 0 0 (fw_A mCL ad)) (F0 m 148 ls []) := by
    intro v  H locs ls hj  hI hP hS hl
    clear J25 J24 J27 J26 J23 J22 J28 J21 J20 J33 J34 J32 J31 J35 J30 J29 J19 J18 J36 J17 J16 J46 J45 J48 J47 J44 J43 J49 J42 J41 J54 J55 J53 J52 J56 J51 J50 J40 J39 J57 J38 J37 J15 J14 J58 J13 J12 J63 J64 J62 J61 J65 J60 J59 J11 J10 J66 J9 J8 J84 J83 J86 J85 J82 J81 J87 J80 J79 J92 J93 J91 J90 J94 J89 J88 J78 J77 J95 J76 J75 J105 J104 J107 J106 J103 J102 J108 J101 J100 J113 J114 J112 J111 J115 J110 J109 J99
    refine lv_iload_n hx hb md_Mo_pulse_148 rfl (lv_at hl 3 rfl) ?_
    refine lv_bipush (v := (6 : Int32)) hx hb md_Mo_pulse_149 (by decide) ?_
    refine lv_icmp_ge (tgt := 230) hx hb md_Mo_pulse_151 (by decide) (fun c_171 => absurd c_171 (by decide)) (fun _ => ?_)
    refine lv_aload_n hx hb md_Mo_pulse_154 rfl (lv_at hl 0 rfl) ?_
    refine lv_iload_n hx hb md_Mo_pulse_155 rfl (lv_at hl 1 rfl) ?_
    refine lv_iload_n hx hb md_Mo_pulse_156 rfl (lv_at hl 3 rfl) ?_
    refine lv_iconst (v := (2 : Int32)) hx hb md_Mo_pulse_157 (by decide) ?_
    refine lv_idiv hx hb md_Mo_pulse_158 (by decide) ?_
    refine fw_top (y := (2 : Int32)) (by decide) ?_
    refine fw_cb (va_runV (As := [.int (0 : Int32), .int (2 : Int32)]) (rest := []) ⟨hx, hb, hml, hown, hts⟩ (mc_Mo_isGood_0 l hD v hI (2 : Int32) (fw_inc (by decide))) (mw_Mo_isGood hts L_Mo_250 ⟨Nat.le_of_ble_eq_true rfl, Nat.le_of_ble_eq_true rfl⟩) (fw_preV hN hK hP (mm_0 (by decide)) (mk_0 0) rfl) rfl rfl hl.1 rfl (lv_room (Nat.le_of_ble_eq_true rfl)) md_Mo_pulse_159 ⟨Nat.le_of_ble_eq_true rfl, Nat.le_of_ble_eq_true rfl⟩) hS (fun r172 H locs zr172 er172 hP hS => ?_)
    refine lv_istore (lv' := [(4, .int r172), (0, .ref (ad 0 0)), (1, .int (0 : Int32)), (2, .int (3 : Int32)), (3, .int (4 : Int32))]) hx hb md_Mo_pulse_162 hl (by decide) rfl (fun ls hl => ?_)
    refine lv_aload_n hx hb md_Mo_pulse_164 rfl (lv_at hl 1 rfl) ?_
    refine fw_getr hx hb hts i_Mo hown hK hP (mm_0 (by decide)) (mk_0 0) rfl 8 (by decide) (hts _ L_Mo_35) (fun _ h9 => h9) rfl md_Mo_pulse_165 ?_
    refine lv_iload_n hx hb md_Mo_pulse_168 rfl (lv_at hl 4 rfl) ?_
    refine lv_iload hx hb md_Mo_pulse_169 (lv_at hl 0 rfl) ?_
    refine lv_if_eq (tgt := 205) hx hb md_Mo_pulse_171 (by decide) (fun c_173 => ?_) (fun c_173 => ?_)
    · exact J98 v (r172) _ _ _ (by rw [hj]; subst er172; simp only [mf_Mo_pulse_0_j97, if_pos c_173]) zr172  hI hP hS (lv_sub hl [1, 2, 3, 4, 0] rfl)
    · have h_204 : vp_in (v 43 0 2) 8 := mp_isGood_0_2 er172 c_173 (hI.1 43 0 2)
      refine lv_iload_n hx hb md_Mo_pulse_174 rfl (lv_at hl 4 rfl) ?_
      refine lv_iconst (v := (2 : Int32)) hx hb md_Mo_pulse_175 (by decide) ?_
      refine lv_irem hx hb md_Mo_pulse_176 (by decide) ?_
      refine fw_top (y := (0 : Int32)) (by decide) ?_
      refine lv_aload_n hx hb md_Mo_pulse_177 rfl (lv_at hl 1 rfl) ?_
      refine lv_iconst (v := (3 : Int32)) hx hb md_Mo_pulse_178 (by decide) ?_
      refine lv_iload_n hx hb md_Mo_pulse_179 rfl (lv_at hl 2 rfl) ?_
      refine lv_imul hx hb md_Mo_pulse_180 ?_
      refine fw_top (y := (0 : Int32)) (by decide) ?_
      refine lv_iload_n hx hb md_Mo_pulse_181 rfl (lv_at hl 4 rfl) ?_
      refine lv_iconst (v := (2 : Int32)) hx hb md_Mo_pulse_182 (by decide) ?_
      refine lv_idiv hx hb md_Mo_pulse_183 (by decide) ?_
      refine fw_top (y := (2 : Int32)) (by decide) ?_
      refine lv_iadd hx hb md_Mo_pulse_184 ?_
      refine fw_top (y := (2 : Int32)) (by decide) ?_
      refine fw_co (va_runV (As := [.int (2 : Int32)]) (rest := [.int (0 : Int32), .int (4 : Int32), .ref (ad 9 0)]) ⟨hx, hb, hml, hown, hts⟩ (mc_Mo_insAt l hD v hI (2 : Int32) (fw_inc (by decide))) (mw_Mo_insAt hts L_Mo_263 ⟨Nat.le_of_ble_eq_true rfl, Nat.le_of_ble_eq_true rfl⟩) (fw_preV hN hK hP (mm_0 (by decide)) (mk_0 0) rfl) rfl rfl hl.1 rfl (lv_room (Nat.le_of_ble_eq_true rfl)) md_Mo_pulse_185 ⟨Nat.le_of_ble_eq_true rfl, Nat.le_of_ble_eq_true rfl⟩) hS (fun r205 H locs er205 hP hS => ?_)
      refine lv_icmp_ge (tgt := 205) hx hb md_Mo_pulse_188 (by decide) (fun c_206 => ?_) (fun c_206 => ?_)
      · exact J98 v (r172) _ _ _ (by rw [hj]; subst er172 er205; simp only [mf_Mo_pulse_0_j97, if_neg c_173, if_pos c_206]) zr172  hI hP hS (lv_sub hl [1, 2, 3, 4, 0] rfl)
      · refine lv_aload_n hx hb md_Mo_pulse_191 rfl (lv_at hl 1 rfl) ?_
        refine fw_getr hx hb hts i_Mo hown hK hP (mm_0 (by decide)) (mk_0 0) rfl 44 (by decide) (hts _ L_Mo_140) (fun _ h9 => h9) rfl md_Mo_pulse_192 ?_
        refine lv_bipush (v := (6 : Int32)) hx hb md_Mo_pulse_195 (by decide) ?_
        refine lv_iload_n hx hb md_Mo_pulse_197 rfl (lv_at hl 2 rfl) ?_
        refine lv_imul hx hb md_Mo_pulse_198 ?_
        refine fw_top (y := (0 : Int32)) (by decide) ?_
        refine lv_iload_n hx hb md_Mo_pulse_199 rfl (lv_at hl 4 rfl) ?_
        refine lv_iadd hx hb md_Mo_pulse_200 ?_
        refine fw_top (y := (4 : Int32)) (by decide) ?_
        refine fw_iald hx hb hK hP (mm_45 (by decide)) (mk_45 0) 0 rfl (j := 4) (by decide) (fw_inc (by decide)) md_Mo_pulse_201 ?_
        refine lv_goto (tgt := 206) hx hb md_Mo_pulse_202 (by decide) ?_
        exact J116 v (r172) ((v 45 0 4)) _ _ _ (by rw [hj]; subst er172 er205; simp only [mf_Mo_pulse_0_j97, if_neg c_173, if_neg c_206]) zr172  hI hP hS (lv_sub hl [1, 2, 3, 4, 0] rfl)
  have J96 : ∀ (v : fw_V)  (H : Heap) (locs : List Loc) (ls : Array Slot), mf_Mo_pulse_0 v0 = mf_Mo_pulse_0_j96 v → mI b v → va_P D vcls (fw_w mCL cA mkd ad v) H → va_S (fw_A mCL ad) s.heap H locs → lv_has ls 5 [(0, .ref (ad 0 0)), (1, .int (0 : Int32)), (3, .int (3 : Int32))] → W p l e (headSpec (Cond.code my_Mo_pulse mb_Mo_pulse 5 none :: vTB) mrm_Mo_pulse).room s m ([.ref (ad 0 0), .int (0 : Int32)] : List Value).toArray below meth c H locs 0 0 (MQ below (fw_Qv D vcls mCL cA mkd ad (mI b) (mf_Mo_pulse_0 v0)) ([.ref (ad 0 0), .int (0 : Int32)] : List Value).toArray s 0 0 (fw_A mCL ad)) (F0 m 222 ls [.int (2 : Int32), .int (1 : Int32)]) := by
    intro v  H locs ls hj  hI hP hS hl
    clear J25 J24 J27 J26 J23 J22 J28 J21 J20 J33 J34 J32 J31 J35 J30 J29 J19 J18 J36 J17 J16 J46 J45 J48 J47 J44 J43 J49 J42 J41 J54 J55 J53 J52 J56 J51 J50 J40 J39 J57 J38 J37 J15 J14 J58 J13 J12 J63 J64 J62 J61 J65 J60 J59 J11 J10 J66 J9 J8 J84 J83 J86 J85 J82 J81 J87 J80 J79 J92 J93 J91 J90 J94 J89 J88 J78 J77 J95 J76 J75 J105 J104 J107 J106 J103 J102 J108 J101 J100 J113 J114 J112 J111 J115 J110 J109 J99 J98 J116
    refine lv_ior hx hb md_Mo_pulse_222 ?_
    refine fw_top (y := (3 : Int32)) (by decide) ?_
    refine lv_istore_n (lv' := [(2, .int (3 : Int32)), (0, .ref (ad 0 0)), (1, .int (0 : Int32)), (3, .int (3 : Int32))]) hx hb md_Mo_pulse_223 rfl hl (by decide) rfl (fun ls hl => ?_)
    refine lv_iinc (v := (4 : Int32)) (lv' := [(3, .int (4 : Int32)), (2, .int (3 : Int32)), (0, .ref (ad 0 0)), (1, .int (0 : Int32))]) hx hb md_Mo_pulse_224 hl (k := 3) rfl (by decide) (by decide) rfl (fun ls hl => ?_)
    refine lv_goto (tgt := 148) hx hb md_Mo_pulse_227 (by decide) ?_
    exact J97 v  _ _ _ (by rw [hj]; simp only [mf_Mo_pulse_0_j96])   hI hP hS (lv_sub hl [2, 3, 1, 0] rfl)
  have J74 : ∀ (v : fw_V) (x4 : Int32) (H : Heap) (locs : List Loc) (ls : Array Slot), mf_Mo_pulse_0 v0 = mf_Mo_pulse_0_j74 v x4 → (x4 = 0 ∨ x4 = 1) → mI b v → va_P D vcls (fw_w mCL cA mkd ad v) H → va_S (fw_A mCL ad) s.heap H locs → lv_has ls 5 [(0, .ref (ad 0 0)), (1, .int (0 : Int32)), (2, .int (1 : Int32)), (3, .int (3 : Int32)), (4, .int x4)] → W p l e (headSpec (Cond.code my_Mo_pulse mb_Mo_pulse 5 none :: vTB) mrm_Mo_pulse).room s m ([.ref (ad 0 0), .int (0 : Int32)] : List Value).toArray below meth c H locs 0 0 (MQ below (fw_Qv D vcls mCL cA mkd ad (mI b) (mf_Mo_pulse_0 v0)) ([.ref (ad 0 0), .int (0 : Int32)] : List Value).toArray s 0 0 (fw_A mCL ad)) (F0 m 206 ls [.int (0 : Int32), .int (3 : Int32), .ref (ad 9 0)]) := by
    intro v x4 H locs ls hj hc0 hI hP hS hl
    clear J25 J24 J27 J26 J23 J22 J28 J21 J20 J33 J34 J32 J31 J35 J30 J29 J19 J18 J36 J17 J16 J46 J45 J48 J47 J44 J43 J49 J42 J41 J54 J55 J53 J52 J56 J51 J50 J40 J39 J57 J38 J37 J15 J14 J58 J13 J12 J63 J64 J62 J61 J65 J60 J59 J11 J10 J66 J9 J8 J84 J83 J86 J85 J82 J81 J87 J80 J79 J92 J93 J91 J90 J94 J89 J88 J78 J77 J95 J76 J105 J104 J107 J106 J103 J102 J108 J101 J100 J113 J114 J112 J111 J115 J110 J109 J99 J98 J116 J97
    refine fw_iast hx hb hK hD hP hS (mm_9 (by decide)) (mk_9 0) 0 rfl (j := 3) (by decide) (fw_inc (by decide)) md_Mo_pulse_206 (fun v131 H locs ev131 hP hS => ?_)
    have hI : mI b v131 := by rw [ev131]; exact mI_up hI trivial trivial
    refine lv_iload_n hx hb md_Mo_pulse_207 rfl (lv_at hl 2 rfl) ?_
    refine lv_iload hx hb md_Mo_pulse_208 (lv_at hl 4 rfl) ?_
    refine lv_if_eq (tgt := 221) hx hb md_Mo_pulse_210 (by decide) (fun c_132 => ?_) (fun c_132 => ?_)
    · refine lv_iconst (v := (0 : Int32)) hx hb md_Mo_pulse_221 (by decide) ?_
      exact J75 v131  _ _ _ (by rw [hj]; subst ev131; simp only [mf_Mo_pulse_0_j74, if_pos c_132])   hI hP hS (lv_sub hl [0, 1, 3] rfl)
    · refine lv_iconst (v := (1 : Int32)) hx hb md_Mo_pulse_213 (by decide) ?_
      refine lv_iload_n hx hb md_Mo_pulse_214 rfl (lv_at hl 3 rfl) ?_
      refine lv_iconst (v := (2 : Int32)) hx hb md_Mo_pulse_215 (by decide) ?_
      refine lv_idiv hx hb md_Mo_pulse_216 (by decide) ?_
      refine fw_top (y := (1 : Int32)) (by decide) ?_
      refine lv_ishl hx hb md_Mo_pulse_217 ?_
      refine fw_top (y := (2 : Int32)) (by decide) ?_
      refine lv_goto (tgt := 222) hx hb md_Mo_pulse_218 (by decide) ?_
      exact J96 v131  _ _ _ (by rw [hj]; subst ev131; simp only [mf_Mo_pulse_0_j74, if_neg c_132])   hI hP hS (lv_sub hl [0, 1, 3] rfl)
  have J73 : ∀ (v : fw_V) (x4 : Int32) (H : Heap) (locs : List Loc) (ls : Array Slot), mf_Mo_pulse_0 v0 = mf_Mo_pulse_0_j73 v x4 → (x4 = 0 ∨ x4 = 1) → mI b v → va_P D vcls (fw_w mCL cA mkd ad v) H → va_S (fw_A mCL ad) s.heap H locs → lv_has ls 5 [(0, .ref (ad 0 0)), (1, .int (0 : Int32)), (2, .int (1 : Int32)), (3, .int (3 : Int32)), (4, .int x4)] → W p l e (headSpec (Cond.code my_Mo_pulse mb_Mo_pulse 5 none :: vTB) mrm_Mo_pulse).room s m ([.ref (ad 0 0), .int (0 : Int32)] : List Value).toArray below meth c H locs 0 0 (MQ below (fw_Qv D vcls mCL cA mkd ad (mI b) (mf_Mo_pulse_0 v0)) ([.ref (ad 0 0), .int (0 : Int32)] : List Value).toArray s 0 0 (fw_A mCL ad)) (F0 m 205 ls [.int (3 : Int32), .ref (ad 9 0)]) := by
    intro v x4 H locs ls hj hc0 hI hP hS hl
    clear J25 J24 J27 J26 J23 J22 J28 J21 J20 J33 J34 J32 J31 J35 J30 J29 J19 J18 J36 J17 J16 J46 J45 J48 J47 J44 J43 J49 J42 J41 J54 J55 J53 J52 J56 J51 J50 J40 J39 J57 J38 J37 J15 J14 J58 J13 J12 J63 J64 J62 J61 J65 J60 J59 J11 J10 J66 J9 J8 J84 J83 J86 J85 J82 J81 J87 J80 J79 J92 J93 J91 J90 J94 J89 J88 J78 J77 J95 J76 J75 J105 J104 J107 J106 J103 J102 J108 J101 J100 J113 J114 J112 J111 J115 J110 J109 J99 J98 J116 J97 J96
    refine lv_iconst (v := (0 : Int32)) hx hb md_Mo_pulse_205 (by decide) ?_
    exact J74 v (x4) _ _ _ (by rw [hj]; simp only [mf_Mo_pulse_0_j73]) hc0  hI hP hS (lv_sub hl [0, 1, 2, 3, 4] rfl)
  have J117 : ∀ (v : fw_V) (x4 : Int32) (x90 : Int32) (H : Heap) (locs : List Loc) (ls : Array Slot), mf_Mo_pulse_0 v0 = mf_Mo_pulse_0_j117 v x4 x90 → (x4 = 0 ∨ x4 = 1) → mI b v → va_P D vcls (fw_w mCL cA mkd ad v) H → va_S (fw_A mCL ad) s.heap H locs → lv_has ls 5 [(0, .ref (ad 0 0)), (1, .int (0 : Int32)), (2, .int (1 : Int32)), (3, .int (3 : Int32)), (4, .int x4)] → W p l e (headSpec (Cond.code my_Mo_pulse mb_Mo_pulse 5 none :: vTB) mrm_Mo_pulse).room s m ([.ref (ad 0 0), .int (0 : Int32)] : List Value).toArray below meth c H locs 0 0 (MQ below (fw_Qv D vcls mCL cA mkd ad (mI b) (mf_Mo_pulse_0 v0)) ([.ref (ad 0 0), .int (0 : Int32)] : List Value).toArray s 0 0 (fw_A mCL ad)) (F0 m 206 ls [.int x90, .int (3 : Int32), .ref (ad 9 0)]) := by
    intro v x4 x90 H locs ls hj hc0 hI hP hS hl
    clear J25 J24 J27 J26 J23 J22 J28 J21 J20 J33 J34 J32 J31 J35 J30 J29 J19 J18 J36 J17 J16 J46 J45 J48 J47 J44 J43 J49 J42 J41 J54 J55 J53 J52 J56 J51 J50 J40 J39 J57 J38 J37 J15 J14 J58 J13 J12 J63 J64 J62 J61 J65 J60 J59 J11 J10 J66 J9 J8 J84 J83 J86 J85 J82 J81 J87 J80 J79 J92 J93 J91 J90 J94 J89 J88 J78 J77 J95 J76 J105 J104 J107 J106 J103 J102 J108 J101 J100 J113 J114 J112 J111 J115 J110 J109 J99 J98 J116 J97 J74 J73
    refine fw_iast hx hb hK hD hP hS (mm_9 (by decide)) (mk_9 0) 0 rfl (j := 3) (by decide) (fw_inc (by decide)) md_Mo_pulse_206 (fun v212 H locs ev212 hP hS => ?_)
    have hI : mI b v212 := by rw [ev212]; exact mI_up hI trivial trivial
    refine lv_iload_n hx hb md_Mo_pulse_207 rfl (lv_at hl 2 rfl) ?_
    refine lv_iload hx hb md_Mo_pulse_208 (lv_at hl 4 rfl) ?_
    refine lv_if_eq (tgt := 221) hx hb md_Mo_pulse_210 (by decide) (fun c_213 => ?_) (fun c_213 => ?_)
    · refine lv_iconst (v := (0 : Int32)) hx hb md_Mo_pulse_221 (by decide) ?_
      exact J75 v212  _ _ _ (by rw [hj]; subst ev212; simp only [mf_Mo_pulse_0_j117, if_pos c_213])   hI hP hS (lv_sub hl [0, 1, 3] rfl)
    · refine lv_iconst (v := (1 : Int32)) hx hb md_Mo_pulse_213 (by decide) ?_
      refine lv_iload_n hx hb md_Mo_pulse_214 rfl (lv_at hl 3 rfl) ?_
      refine lv_iconst (v := (2 : Int32)) hx hb md_Mo_pulse_215 (by decide) ?_
      refine lv_idiv hx hb md_Mo_pulse_216 (by decide) ?_
      refine fw_top (y := (1 : Int32)) (by decide) ?_
      refine lv_ishl hx hb md_Mo_pulse_217 ?_
      refine fw_top (y := (2 : Int32)) (by decide) ?_
      refine lv_goto (tgt := 222) hx hb md_Mo_pulse_218 (by decide) ?_
      exact J96 v212  _ _ _ (by rw [hj]; subst ev212; simp only [mf_Mo_pulse_0_j117, if_neg c_213])   hI hP hS (lv_sub hl [0, 1, 3] rfl)
  have J72 : ∀ (v : fw_V)  (H : Heap) (locs : List Loc) (ls : Array Slot), mf_Mo_pulse_0 v0 = mf_Mo_pulse_0_j72 v → mI b v → va_P D vcls (fw_w mCL cA mkd ad v) H → va_S (fw_A mCL ad) s.heap H locs → lv_has ls 5 [(0, .ref (ad 0 0)), (1, .int (0 : Int32)), (2, .int (1 : Int32)), (3, .int (3 : Int32))] → W p l e (headSpec (Cond.code my_Mo_pulse mb_Mo_pulse 5 none :: vTB) mrm_Mo_pulse).room s m ([.ref (ad 0 0), .int (0 : Int32)] : List Value).toArray below meth c H locs 0 0 (MQ below (fw_Qv D vcls mCL cA mkd ad (mI b) (mf_Mo_pulse_0 v0)) ([.ref (ad 0 0), .int (0 : Int32)] : List Value).toArray s 0 0 (fw_A mCL ad)) (F0 m 148 ls []) := by
    intro v  H locs ls hj  hI hP hS hl
    clear J25 J24 J27 J26 J23 J22 J28 J21 J20 J33 J34 J32 J31 J35 J30 J29 J19 J18 J36 J17 J16 J46 J45 J48 J47 J44 J43 J49 J42 J41 J54 J55 J53 J52 J56 J51 J50 J40 J39 J57 J38 J37 J15 J14 J58 J13 J12 J63 J64 J62 J61 J65 J60 J59 J11 J10 J66 J9 J8 J84 J83 J86 J85 J82 J81 J87 J80 J79 J92 J93 J91 J90 J94 J89 J88 J78 J77 J95 J76 J75 J105 J104 J107 J106 J103 J102 J108 J101 J100 J113 J114 J112 J111 J115 J110 J109 J99 J98 J116 J97 J96 J74
    refine lv_iload_n hx hb md_Mo_pulse_148 rfl (lv_at hl 3 rfl) ?_
    refine lv_bipush (v := (6 : Int32)) hx hb md_Mo_pulse_149 (by decide) ?_
    refine lv_icmp_ge (tgt := 230) hx hb md_Mo_pulse_151 (by decide) (fun c_128 => absurd c_128 (by decide)) (fun _ => ?_)
    refine lv_aload_n hx hb md_Mo_pulse_154 rfl (lv_at hl 0 rfl) ?_
    refine lv_iload_n hx hb md_Mo_pulse_155 rfl (lv_at hl 1 rfl) ?_
    refine lv_iload_n hx hb md_Mo_pulse_156 rfl (lv_at hl 3 rfl) ?_
    refine lv_iconst (v := (2 : Int32)) hx hb md_Mo_pulse_157 (by decide) ?_
    refine lv_idiv hx hb md_Mo_pulse_158 (by decide) ?_
    refine fw_top (y := (1 : Int32)) (by decide) ?_
    refine fw_cb (va_runV (As := [.int (0 : Int32), .int (1 : Int32)]) (rest := []) ⟨hx, hb, hml, hown, hts⟩ (mc_Mo_isGood_0 l hD v hI (1 : Int32) (fw_inc (by decide))) (mw_Mo_isGood hts L_Mo_250 ⟨Nat.le_of_ble_eq_true rfl, Nat.le_of_ble_eq_true rfl⟩) (fw_preV hN hK hP (mm_0 (by decide)) (mk_0 0) rfl) rfl rfl hl.1 rfl (lv_room (Nat.le_of_ble_eq_true rfl)) md_Mo_pulse_159 ⟨Nat.le_of_ble_eq_true rfl, Nat.le_of_ble_eq_true rfl⟩) hS (fun r129 H locs zr129 er129 hP hS => ?_)
    refine lv_istore (lv' := [(4, .int r129), (0, .ref (ad 0 0)), (1, .int (0 : Int32)), (2, .int (1 : Int32)), (3, .int (3 : Int32))]) hx hb md_Mo_pulse_162 hl (by decide) rfl (fun ls hl => ?_)
    refine lv_aload_n hx hb md_Mo_pulse_164 rfl (lv_at hl 1 rfl) ?_
    refine fw_getr hx hb hts i_Mo hown hK hP (mm_0 (by decide)) (mk_0 0) rfl 8 (by decide) (hts _ L_Mo_35) (fun _ h9 => h9) rfl md_Mo_pulse_165 ?_
    refine lv_iload_n hx hb md_Mo_pulse_168 rfl (lv_at hl 4 rfl) ?_
    refine lv_iload hx hb md_Mo_pulse_169 (lv_at hl 0 rfl) ?_
    refine lv_if_eq (tgt := 205) hx hb md_Mo_pulse_171 (by decide) (fun c_130 => ?_) (fun c_130 => ?_)
    · exact J73 v (r129) _ _ _ (by rw [hj]; subst er129; simp only [mf_Mo_pulse_0_j72, if_pos c_130]) zr129  hI hP hS (lv_sub hl [1, 2, 3, 4, 0] rfl)
    · have h_209 : vp_in (v 43 0 1) 8 := mp_isGood_0_1 er129 c_130 (hI.1 43 0 1)
      refine lv_iload_n hx hb md_Mo_pulse_174 rfl (lv_at hl 4 rfl) ?_
      refine lv_iconst (v := (2 : Int32)) hx hb md_Mo_pulse_175 (by decide) ?_
      refine lv_irem hx hb md_Mo_pulse_176 (by decide) ?_
      refine fw_top (y := (1 : Int32)) (by decide) ?_
      refine lv_aload_n hx hb md_Mo_pulse_177 rfl (lv_at hl 1 rfl) ?_
      refine lv_iconst (v := (3 : Int32)) hx hb md_Mo_pulse_178 (by decide) ?_
      refine lv_iload_n hx hb md_Mo_pulse_179 rfl (lv_at hl 2 rfl) ?_
      refine lv_imul hx hb md_Mo_pulse_180 ?_
      refine fw_top (y := (0 : Int32)) (by decide) ?_
      refine lv_iload_n hx hb md_Mo_pulse_181 rfl (lv_at hl 4 rfl) ?_
      refine lv_iconst (v := (2 : Int32)) hx hb md_Mo_pulse_182 (by decide) ?_
      refine lv_idiv hx hb md_Mo_pulse_183 (by decide) ?_
      refine fw_top (y := (1 : Int32)) (by decide) ?_
      refine lv_iadd hx hb md_Mo_pulse_184 ?_
      refine fw_top (y := (1 : Int32)) (by decide) ?_
      refine fw_co (va_runV (As := [.int (1 : Int32)]) (rest := [.int (1 : Int32), .int (3 : Int32), .ref (ad 9 0)]) ⟨hx, hb, hml, hown, hts⟩ (mc_Mo_insAt l hD v hI (1 : Int32) (fw_inc (by decide))) (mw_Mo_insAt hts L_Mo_263 ⟨Nat.le_of_ble_eq_true rfl, Nat.le_of_ble_eq_true rfl⟩) (fw_preV hN hK hP (mm_0 (by decide)) (mk_0 0) rfl) rfl rfl hl.1 rfl (lv_room (Nat.le_of_ble_eq_true rfl)) md_Mo_pulse_185 ⟨Nat.le_of_ble_eq_true rfl, Nat.le_of_ble_eq_true rfl⟩) hS (fun r210 H locs er210 hP hS => ?_)
      refine lv_icmp_ge (tgt := 205) hx hb md_Mo_pulse_188 (by decide) (fun c_211 => ?_) (fun c_211 => ?_)
      · exact J73 v (r129) _ _ _ (by rw [hj]; subst er129 er210; simp only [mf_Mo_pulse_0_j72, if_neg c_130, if_pos c_211]) zr129  hI hP hS (lv_sub hl [1, 2, 3, 4, 0] rfl)
      · refine lv_aload_n hx hb md_Mo_pulse_191 rfl (lv_at hl 1 rfl) ?_
        refine fw_getr hx hb hts i_Mo hown hK hP (mm_0 (by decide)) (mk_0 0) rfl 44 (by decide) (hts _ L_Mo_140) (fun _ h9 => h9) rfl md_Mo_pulse_192 ?_
        refine lv_bipush (v := (6 : Int32)) hx hb md_Mo_pulse_195 (by decide) ?_
        refine lv_iload_n hx hb md_Mo_pulse_197 rfl (lv_at hl 2 rfl) ?_
        refine lv_imul hx hb md_Mo_pulse_198 ?_
        refine fw_top (y := (0 : Int32)) (by decide) ?_
        refine lv_iload_n hx hb md_Mo_pulse_199 rfl (lv_at hl 4 rfl) ?_
        refine lv_iadd hx hb md_Mo_pulse_200 ?_
        refine fw_top (y := (3 : Int32)) (by decide) ?_
        refine fw_iald hx hb hK hP (mm_45 (by decide)) (mk_45 0) 0 rfl (j := 3) (by decide) (fw_inc (by decide)) md_Mo_pulse_201 ?_
        refine lv_goto (tgt := 206) hx hb md_Mo_pulse_202 (by decide) ?_
        exact J117 v (r129) ((v 45 0 3)) _ _ _ (by rw [hj]; subst er129 er210; simp only [mf_Mo_pulse_0_j72, if_neg c_130, if_neg c_211]) zr129  hI hP hS (lv_sub hl [1, 2, 3, 4, 0] rfl)
  have J71 : ∀ (v : fw_V)  (H : Heap) (locs : List Loc) (ls : Array Slot), mf_Mo_pulse_0 v0 = mf_Mo_pulse_0_j71 v → mI b v → va_P D vcls (fw_w mCL cA mkd ad v) H → va_S (fw_A mCL ad) s.heap H locs → lv_has ls 5 [(0, .ref (ad 0 0)), (1, .int (0 : Int32)), (3, .int (2 : Int32))] → W p l e (headSpec (Cond.code my_Mo_pulse mb_Mo_pulse 5 none :: vTB) mrm_Mo_pulse).room s m ([.ref (ad 0 0), .int (0 : Int32)] : List Value).toArray below meth c H locs 0 0 (MQ below (fw_Qv D vcls mCL cA mkd ad (mI b) (mf_Mo_pulse_0 v0)) ([.ref (ad 0 0), .int (0 : Int32)] : List Value).toArray s 0 0 (fw_A mCL ad)) (F0 m 222 ls [.int (0 : Int32), .int (1 : Int32)]) := by
    intro v  H locs ls hj  hI hP hS hl
    clear J25 J24 J27 J26 J23 J22 J28 J21 J20 J33 J34 J32 J31 J35 J30 J29 J19 J18 J36 J17 J16 J46 J45 J48 J47 J44 J43 J49 J42 J41 J54 J55 J53 J52 J56 J51 J50 J40 J39 J57 J38 J37 J15 J14 J58 J13 J12 J63 J64 J62 J61 J65 J60 J59 J11 J10 J66 J9 J8 J84 J83 J86 J85 J82 J81 J87 J80 J79 J92 J93 J91 J90 J94 J89 J88 J78 J77 J95 J76 J75 J105 J104 J107 J106 J103 J102 J108 J101 J100 J113 J114 J112 J111 J115 J110 J109 J99 J98 J116 J97 J96 J74 J73 J117
    refine lv_ior hx hb md_Mo_pulse_222 ?_
    refine fw_top (y := (1 : Int32)) (by decide) ?_
    refine lv_istore_n (lv' := [(2, .int (1 : Int32)), (0, .ref (ad 0 0)), (1, .int (0 : Int32)), (3, .int (2 : Int32))]) hx hb md_Mo_pulse_223 rfl hl (by decide) rfl (fun ls hl => ?_)
    refine lv_iinc (v := (3 : Int32)) (lv' := [(3, .int (3 : Int32)), (2, .int (1 : Int32)), (0, .ref (ad 0 0)), (1, .int (0 : Int32))]) hx hb md_Mo_pulse_224 hl (k := 3) rfl (by decide) (by decide) rfl (fun ls hl => ?_)
    refine lv_goto (tgt := 148) hx hb md_Mo_pulse_227 (by decide) ?_
    exact J72 v  _ _ _ (by rw [hj]; simp only [mf_Mo_pulse_0_j71])   hI hP hS (lv_sub hl [2, 3, 1, 0] rfl)
  have J122 : ∀ (v : fw_V)  (H : Heap) (locs : List Loc) (ls : Array Slot), mf_Mo_pulse_0 v0 = mf_Mo_pulse_0_j122 v → mI b v → va_P D vcls (fw_w mCL cA mkd ad v) H → va_S (fw_A mCL ad) s.heap H locs → lv_has ls 5 [(0, .ref (ad 0 0)), (1, .int (0 : Int32)), (3, .int (3 : Int32))] → W p l e (headSpec (Cond.code my_Mo_pulse mb_Mo_pulse 5 none :: vTB) mrm_Mo_pulse).room s m ([.ref (ad 0 0), .int (0 : Int32)] : List Value).toArray below meth c H locs 0 0 (MQ below (fw_Qv D vcls mCL cA mkd ad (mI b) (mf_Mo_pulse_0 v0)) ([.ref (ad 0 0), .int (0 : Int32)] : List Value).toArray s 0 0 (fw_A mCL ad)) (F0 m 222 ls [.int (0 : Int32), .int (3 : Int32)]) := by
    intro v  H locs ls hj  hI hP hS hl
    clear J25 J24 J27 J26 J23 J22 J28 J21 J20 J33 J34 J32 J31 J35 J30 J29 J19 J18 J36 J17 J16 J46 J45 J48 J47 J44 J43 J49 J42 J41 J54 J55 J53 J52 J56 J51 J50 J40 J39 J57 J38 J37 J15 J14 J58 J13 J12 J63 J64 J62 J61 J65 J60 J59 J11 J10 J66 J9 J8 J84 J83 J86 J85 J82 J81 J87 J80 J79 J92 J93 J91 J90 J94 J89 J88 J78 J77 J95 J76 J75 J105 J104 J107 J106 J103 J102 J108 J101 J100 J113 J114 J112 J111 J115 J110 J109 J99 J98 J116 J96 J74 J73 J117 J72 J71
    refine lv_ior hx hb md_Mo_pulse_222 ?_
    refine fw_top (y := (3 : Int32)) (by decide) ?_
    refine lv_istore_n (lv' := [(2, .int (3 : Int32)), (0, .ref (ad 0 0)), (1, .int (0 : Int32)), (3, .int (3 : Int32))]) hx hb md_Mo_pulse_223 rfl hl (by decide) rfl (fun ls hl => ?_)
    refine lv_iinc (v := (4 : Int32)) (lv' := [(3, .int (4 : Int32)), (2, .int (3 : Int32)), (0, .ref (ad 0 0)), (1, .int (0 : Int32))]) hx hb md_Mo_pulse_224 hl (k := 3) rfl (by decide) (by decide) rfl (fun ls hl => ?_)
    refine lv_goto (tgt := 148) hx hb md_Mo_pulse_227 (by decide) ?_
    exact J97 v  _ _ _ (by rw [hj]; simp only [mf_Mo_pulse_0_j122])   hI hP hS (lv_sub hl [2, 3, 1, 0] rfl)
  have J123 : ∀ (v : fw_V)  (H : Heap) (locs : List Loc) (ls : Array Slot), mf_Mo_pulse_0 v0 = mf_Mo_pulse_0_j123 v → mI b v → va_P D vcls (fw_w mCL cA mkd ad v) H → va_S (fw_A mCL ad) s.heap H locs → lv_has ls 5 [(0, .ref (ad 0 0)), (1, .int (0 : Int32)), (3, .int (3 : Int32))] → W p l e (headSpec (Cond.code my_Mo_pulse mb_Mo_pulse 5 none :: vTB) mrm_Mo_pulse).room s m ([.ref (ad 0 0), .int (0 : Int32)] : List Value).toArray below meth c H locs 0 0 (MQ below (fw_Qv D vcls mCL cA mkd ad (mI b) (mf_Mo_pulse_0 v0)) ([.ref (ad 0 0), .int (0 : Int32)] : List Value).toArray s 0 0 (fw_A mCL ad)) (F0 m 222 ls [.int (2 : Int32), .int (3 : Int32)]) := by
    intro v  H locs ls hj  hI hP hS hl
    clear J25 J24 J27 J26 J23 J22 J28 J21 J20 J33 J34 J32 J31 J35 J30 J29 J19 J18 J36 J17 J16 J46 J45 J48 J47 J44 J43 J49 J42 J41 J54 J55 J53 J52 J56 J51 J50 J40 J39 J57 J38 J37 J15 J14 J58 J13 J12 J63 J64 J62 J61 J65 J60 J59 J11 J10 J66 J9 J8 J84 J83 J86 J85 J82 J81 J87 J80 J79 J92 J93 J91 J90 J94 J89 J88 J78 J77 J95 J76 J75 J105 J104 J107 J106 J103 J102 J108 J101 J100 J113 J114 J112 J111 J115 J110 J109 J99 J98 J116 J96 J74 J73 J117 J72 J71 J122
    refine lv_ior hx hb md_Mo_pulse_222 ?_
    refine fw_top (y := (3 : Int32)) (by decide) ?_
    refine lv_istore_n (lv' := [(2, .int (3 : Int32)), (0, .ref (ad 0 0)), (1, .int (0 : Int32)), (3, .int (3 : Int32))]) hx hb md_Mo_pulse_223 rfl hl (by decide) rfl (fun ls hl => ?_)
    refine lv_iinc (v := (4 : Int32)) (lv' := [(3, .int (4 : Int32)), (2, .int (3 : Int32)), (0, .ref (ad 0 0)), (1, .int (0 : Int32))]) hx hb md_Mo_pulse_224 hl (k := 3) rfl (by decide) (by decide) rfl (fun ls hl => ?_)
    refine lv_goto (tgt := 148) hx hb md_Mo_pulse_227 (by decide) ?_
    exact J97 v  _ _ _ (by rw [hj]; simp only [mf_Mo_pulse_0_j123])   hI hP hS (lv_sub hl [2, 3, 1, 0] rfl)
  have J121 : ∀ (v : fw_V) (x4 : Int32) (H : Heap) (locs : List Loc) (ls : Array Slot), mf_Mo_pulse_0 v0 = mf_Mo_pulse_0_j121 v x4 → (x4 = 0 ∨ x4 = 1) → mI b v → va_P D vcls (fw_w mCL cA mkd ad v) H → va_S (fw_A mCL ad) s.heap H locs → lv_has ls 5 [(0, .ref (ad 0 0)), (1, .int (0 : Int32)), (2, .int (3 : Int32)), (3, .int (3 : Int32)), (4, .int x4)] → W p l e (headSpec (Cond.code my_Mo_pulse mb_Mo_pulse 5 none :: vTB) mrm_Mo_pulse).room s m ([.ref (ad 0 0), .int (0 : Int32)] : List Value).toArray below meth c H locs 0 0 (MQ below (fw_Qv D vcls mCL cA mkd ad (mI b) (mf_Mo_pulse_0 v0)) ([.ref (ad 0 0), .int (0 : Int32)] : List Value).toArray s 0 0 (fw_A mCL ad)) (F0 m 206 ls [.int (0 : Int32), .int (3 : Int32), .ref (ad 9 0)]) := by
    intro v x4 H locs ls hj hc0 hI hP hS hl
    clear J25 J24 J27 J26 J23 J22 J28 J21 J20 J33 J34 J32 J31 J35 J30 J29 J19 J18 J36 J17 J16 J46 J45 J48 J47 J44 J43 J49 J42 J41 J54 J55 J53 J52 J56 J51 J50 J40 J39 J57 J38 J37 J15 J14 J58 J13 J12 J63 J64 J62 J61 J65 J60 J59 J11 J10 J66 J9 J8 J84 J83 J86 J85 J82 J81 J87 J80 J79 J92 J93 J91 J90 J94 J89 J88 J78 J77 J95 J76 J75 J105 J104 J107 J106 J103 J102 J108 J101 J100 J113 J114 J112 J111 J115 J110 J109 J99 J98 J116 J97 J96 J74 J73 J117 J72 J71
    refine fw_iast hx hb hK hD hP hS (mm_9 (by decide)) (mk_9 0) 0 rfl (j := 3) (by decide) (fw_inc (by decide)) md_Mo_pulse_206 (fun v217 H locs ev217 hP hS => ?_)
    have hI : mI b v217 := by rw [ev217]; exact mI_up hI trivial trivial
    refine lv_iload_n hx hb md_Mo_pulse_207 rfl (lv_at hl 2 rfl) ?_
    refine lv_iload hx hb md_Mo_pulse_208 (lv_at hl 4 rfl) ?_
    refine lv_if_eq (tgt := 221) hx hb md_Mo_pulse_210 (by decide) (fun c_218 => ?_) (fun c_218 => ?_)
    · refine lv_iconst (v := (0 : Int32)) hx hb md_Mo_pulse_221 (by decide) ?_
      exact J122 v217  _ _ _ (by rw [hj]; subst ev217; simp only [mf_Mo_pulse_0_j121, if_pos c_218])   hI hP hS (lv_sub hl [0, 1, 3] rfl)
    · refine lv_iconst (v := (1 : Int32)) hx hb md_Mo_pulse_213 (by decide) ?_
      refine lv_iload_n hx hb md_Mo_pulse_214 rfl (lv_at hl 3 rfl) ?_
      refine lv_iconst (v := (2 : Int32)) hx hb md_Mo_pulse_215 (by decide) ?_
      refine lv_idiv hx hb md_Mo_pulse_216 (by decide) ?_
      refine fw_top (y := (1 : Int32)) (by decide) ?_
      refine lv_ishl hx hb md_Mo_pulse_217 ?_
      refine fw_top (y := (2 : Int32)) (by decide) ?_
      refine lv_goto (tgt := 222) hx hb md_Mo_pulse_218 (by decide) ?_
      exact J123 v217  _ _ _ (by rw [hj]; subst ev217; simp only [mf_Mo_pulse_0_j121, if_neg c_218])   hI hP hS (lv_sub hl [0, 1, 3] rfl)
  have J120 : ∀ (v : fw_V) (x4 : Int32) (H : Heap) (locs : List Loc) (ls : Array Slot), mf_Mo_pulse_0 v0 = mf_Mo_pulse_0_j120 v x4 → (x4 = 0 ∨ x4 = 1) → mI b v → va_P D vcls (fw_w mCL cA mkd ad v) H → va_S (fw_A mCL ad) s.heap H locs → lv_has ls 5 [(0, .ref (ad 0 0)), (1, .int (0 : Int32)), (2, .int (3 : Int32)), (3, .int (3 : Int32)), (4, .int x4)] → W p l e (headSpec (Cond.code my_Mo_pulse mb_Mo_pulse 5 none :: vTB) mrm_Mo_pulse).room s m ([.ref (ad 0 0), .int (0 : Int32)] : List Value).toArray below meth c H locs 0 0 (MQ below (fw_Qv D vcls mCL cA mkd ad (mI b) (mf_Mo_pulse_0 v0)) ([.ref (ad 0 0), .int (0 : Int32)] : List Value).toArray s 0 0 (fw_A mCL ad)) (F0 m 205 ls [.int (3 : Int32), .ref (ad 9 0)]) := by
    intro v x4 H locs ls hj hc0 hI hP hS hl
    clear J25 J24 J27 J26 J23 J22 J28 J21 J20 J33 J34 J32 J31 J35 J30 J29 J19 J18 J36 J17 J16 J46 J45 J48 J47 J44 J43 J49 J42 J41 J54 J55 J53 J52 J56 J51 J50 J40 J39 J57 J38 J37 J15 J14 J58 J13 J12 J63 J64 J62 J61 J65 J60 J59 J11 J10 J66 J9 J8 J84 J83 J86 J85 J82 J81 J87 J80 J79 J92 J93 J91 J90 J94 J89 J88 J78 J77 J95 J76 J75 J105 J104 J107 J106 J103 J102 J108 J101 J100 J113 J114 J112 J111 J115 J110 J109 J99 J98 J116 J97 J96 J74 J73 J117 J72 J71 J122 J123
    refine lv_iconst (v := (0 : Int32)) hx hb md_Mo_pulse_205 (by decide) ?_
    exact J121 v (x4) _ _ _ (by rw [hj]; simp only [mf_Mo_pulse_0_j120]) hc0  hI hP hS (lv_sub hl [0, 1, 2, 3, 4] rfl)
  have J124 : ∀ (v : fw_V) (x4 : Int32) (x90 : Int32) (H : Heap) (locs : List Loc) (ls : Array Slot), mf_Mo_pulse_0 v0 = mf_Mo_pulse_0_j124 v x4 x90 → (x4 = 0 ∨ x4 = 1) → mI b v → va_P D vcls (fw_w mCL cA mkd ad v) H → va_S (fw_A mCL ad) s.heap H locs → lv_has ls 5 [(0, .ref (ad 0 0)), (1, .int (0 : Int32)), (2, .int (3 : Int32)), (3, .int (3 : Int32)), (4, .int x4)] → W p l e (headSpec (Cond.code my_Mo_pulse mb_Mo_pulse 5 none :: vTB) mrm_Mo_pulse).room s m ([.ref (ad 0 0), .int (0 : Int32)] : List Value).toArray below meth c H locs 0 0 (MQ below (fw_Qv D vcls mCL cA mkd ad (mI b) (mf_Mo_pulse_0 v0)) ([.ref (ad 0 0), .int (0 : Int32)] : List Value).toArray s 0 0 (fw_A mCL ad)) (F0 m 206 ls [.int x90, .int (3 : Int32), .ref (ad 9 0)]) := by
    intro v x4 x90 H locs ls hj hc0 hI hP hS hl
    clear J25 J24 J27 J26 J23 J22 J28 J21 J20 J33 J34 J32 J31 J35 J30 J29 J19 J18 J36 J17 J16 J46 J45 J48 J47 J44 J43 J49 J42 J41 J54 J55 J53 J52 J56 J51 J50 J40 J39 J57 J38 J37 J15 J14 J58 J13 J12 J63 J64 J62 J61 J65 J60 J59 J11 J10 J66 J9 J8 J84 J83 J86 J85 J82 J81 J87 J80 J79 J92 J93 J91 J90 J94 J89 J88 J78 J77 J95 J76 J75 J105 J104 J107 J106 J103 J102 J108 J101 J100 J113 J114 J112 J111 J115 J110 J109 J99 J98 J116 J97 J96 J74 J73 J117 J72 J71 J121 J120
    refine fw_iast hx hb hK hD hP hS (mm_9 (by decide)) (mk_9 0) 0 rfl (j := 3) (by decide) (fw_inc (by decide)) md_Mo_pulse_206 (fun v222 H locs ev222 hP hS => ?_)
    have hI : mI b v222 := by rw [ev222]; exact mI_up hI trivial trivial
    refine lv_iload_n hx hb md_Mo_pulse_207 rfl (lv_at hl 2 rfl) ?_
    refine lv_iload hx hb md_Mo_pulse_208 (lv_at hl 4 rfl) ?_
    refine lv_if_eq (tgt := 221) hx hb md_Mo_pulse_210 (by decide) (fun c_223 => ?_) (fun c_223 => ?_)
    · refine lv_iconst (v := (0 : Int32)) hx hb md_Mo_pulse_221 (by decide) ?_
      exact J122 v222  _ _ _ (by rw [hj]; subst ev222; simp only [mf_Mo_pulse_0_j124, if_pos c_223])   hI hP hS (lv_sub hl [0, 1, 3] rfl)
    · refine lv_iconst (v := (1 : Int32)) hx hb md_Mo_pulse_213 (by decide) ?_
      refine lv_iload_n hx hb md_Mo_pulse_214 rfl (lv_at hl 3 rfl) ?_
      refine lv_iconst (v := (2 : Int32)) hx hb md_Mo_pulse_215 (by decide) ?_
      refine lv_idiv hx hb md_Mo_pulse_216 (by decide) ?_
      refine fw_top (y := (1 : Int32)) (by decide) ?_
      refine lv_ishl hx hb md_Mo_pulse_217 ?_
      refine fw_top (y := (2 : Int32)) (by decide) ?_
      refine lv_goto (tgt := 222) hx hb md_Mo_pulse_218 (by decide) ?_
      exact J123 v222  _ _ _ (by rw [hj]; subst ev222; simp only [mf_Mo_pulse_0_j124, if_neg c_223])   hI hP hS (lv_sub hl [0, 1, 3] rfl)
  have J119 : ∀ (v : fw_V)  (H : Heap) (locs : List Loc) (ls : Array Slot), mf_Mo_pulse_0 v0 = mf_Mo_pulse_0_j119 v → mI b v → va_P D vcls (fw_w mCL cA mkd ad v) H → va_S (fw_A mCL ad) s.heap H locs → lv_has ls 5 [(0, .ref (ad 0 0)), (1, .int (0 : Int32)), (2, .int (3 : Int32)), (3, .int (3 : Int32))] → W p l e (headSpec (Cond.code my_Mo_pulse mb_Mo_pulse 5 none :: vTB) mrm_Mo_pulse).room s m ([.ref (ad 0 0), .int (0 : Int32)] : List Value).toArray below meth c H locs 0 0 (MQ below (fw_Qv D vcls mCL cA mkd ad (mI b) (mf_Mo_pulse_0 v0)) ([.ref (ad 0 0), .int (0 : Int32)] : List Value).toArray s 0 0 (fw_A mCL ad)) (F0 m 148 ls []) := by
    intro v  H locs ls hj  hI hP hS hl
    clear J25 J24 J27 J26 J23 J22 J28 J21 J20 J33 J34 J32 J31 J35 J30 J29 J19 J18 J36 J17 J16 J46 J45 J48 J47 J44 J43 J49 J42 J41 J54 J55 J53 J52 J56 J51 J50 J40 J39 J57 J38 J37 J15 J14 J58 J13 J12 J63 J64 J62 J61 J65 J60 J59 J11 J10 J66 J9 J8 J84 J83 J86 J85 J82 J81 J87 J80 J79 J92 J93 J91 J90 J94 J89 J88 J78 J77 J95 J76 J75 J105 J104 J107 J106 J103 J102 J108 J101 J100 J113 J114 J112 J111 J115 J110 J109 J99 J98 J116 J97 J96 J74 J73 J117 J72 J71 J122 J123 J121
    refine lv_iload_n hx hb md_Mo_pulse_148 rfl (lv_at hl 3 rfl) ?_
    refine lv_bipush (v := (6 : Int32)) hx hb md_Mo_pulse_149 (by decide) ?_
    refine lv_icmp_ge (tgt := 230) hx hb md_Mo_pulse_151 (by decide) (fun c_214 => absurd c_214 (by decide)) (fun _ => ?_)
    refine lv_aload_n hx hb md_Mo_pulse_154 rfl (lv_at hl 0 rfl) ?_
    refine lv_iload_n hx hb md_Mo_pulse_155 rfl (lv_at hl 1 rfl) ?_
    refine lv_iload_n hx hb md_Mo_pulse_156 rfl (lv_at hl 3 rfl) ?_
    refine lv_iconst (v := (2 : Int32)) hx hb md_Mo_pulse_157 (by decide) ?_
    refine lv_idiv hx hb md_Mo_pulse_158 (by decide) ?_
    refine fw_top (y := (1 : Int32)) (by decide) ?_
    refine fw_cb (va_runV (As := [.int (0 : Int32), .int (1 : Int32)]) (rest := []) ⟨hx, hb, hml, hown, hts⟩ (mc_Mo_isGood_0 l hD v hI (1 : Int32) (fw_inc (by decide))) (mw_Mo_isGood hts L_Mo_250 ⟨Nat.le_of_ble_eq_true rfl, Nat.le_of_ble_eq_true rfl⟩) (fw_preV hN hK hP (mm_0 (by decide)) (mk_0 0) rfl) rfl rfl hl.1 rfl (lv_room (Nat.le_of_ble_eq_true rfl)) md_Mo_pulse_159 ⟨Nat.le_of_ble_eq_true rfl, Nat.le_of_ble_eq_true rfl⟩) hS (fun r215 H locs zr215 er215 hP hS => ?_)
    refine lv_istore (lv' := [(4, .int r215), (0, .ref (ad 0 0)), (1, .int (0 : Int32)), (2, .int (3 : Int32)), (3, .int (3 : Int32))]) hx hb md_Mo_pulse_162 hl (by decide) rfl (fun ls hl => ?_)
    refine lv_aload_n hx hb md_Mo_pulse_164 rfl (lv_at hl 1 rfl) ?_
    refine fw_getr hx hb hts i_Mo hown hK hP (mm_0 (by decide)) (mk_0 0) rfl 8 (by decide) (hts _ L_Mo_35) (fun _ h9 => h9) rfl md_Mo_pulse_165 ?_
    refine lv_iload_n hx hb md_Mo_pulse_168 rfl (lv_at hl 4 rfl) ?_
    refine lv_iload hx hb md_Mo_pulse_169 (lv_at hl 0 rfl) ?_
    refine lv_if_eq (tgt := 205) hx hb md_Mo_pulse_171 (by decide) (fun c_216 => ?_) (fun c_216 => ?_)
    · exact J120 v (r215) _ _ _ (by rw [hj]; subst er215; simp only [mf_Mo_pulse_0_j119, if_pos c_216]) zr215  hI hP hS (lv_sub hl [1, 2, 3, 4, 0] rfl)
    · have h_219 : vp_in (v 43 0 1) 8 := mp_isGood_0_1 er215 c_216 (hI.1 43 0 1)
      refine lv_iload_n hx hb md_Mo_pulse_174 rfl (lv_at hl 4 rfl) ?_
      refine lv_iconst (v := (2 : Int32)) hx hb md_Mo_pulse_175 (by decide) ?_
      refine lv_irem hx hb md_Mo_pulse_176 (by decide) ?_
      refine fw_top (y := (1 : Int32)) (by decide) ?_
      refine lv_aload_n hx hb md_Mo_pulse_177 rfl (lv_at hl 1 rfl) ?_
      refine lv_iconst (v := (3 : Int32)) hx hb md_Mo_pulse_178 (by decide) ?_
      refine lv_iload_n hx hb md_Mo_pulse_179 rfl (lv_at hl 2 rfl) ?_
      refine lv_imul hx hb md_Mo_pulse_180 ?_
      refine fw_top (y := (0 : Int32)) (by decide) ?_
      refine lv_iload_n hx hb md_Mo_pulse_181 rfl (lv_at hl 4 rfl) ?_
      refine lv_iconst (v := (2 : Int32)) hx hb md_Mo_pulse_182 (by decide) ?_
      refine lv_idiv hx hb md_Mo_pulse_183 (by decide) ?_
      refine fw_top (y := (1 : Int32)) (by decide) ?_
      refine lv_iadd hx hb md_Mo_pulse_184 ?_
      refine fw_top (y := (1 : Int32)) (by decide) ?_
      refine fw_co (va_runV (As := [.int (1 : Int32)]) (rest := [.int (1 : Int32), .int (3 : Int32), .ref (ad 9 0)]) ⟨hx, hb, hml, hown, hts⟩ (mc_Mo_insAt l hD v hI (1 : Int32) (fw_inc (by decide))) (mw_Mo_insAt hts L_Mo_263 ⟨Nat.le_of_ble_eq_true rfl, Nat.le_of_ble_eq_true rfl⟩) (fw_preV hN hK hP (mm_0 (by decide)) (mk_0 0) rfl) rfl rfl hl.1 rfl (lv_room (Nat.le_of_ble_eq_true rfl)) md_Mo_pulse_185 ⟨Nat.le_of_ble_eq_true rfl, Nat.le_of_ble_eq_true rfl⟩) hS (fun r220 H locs er220 hP hS => ?_)
      refine lv_icmp_ge (tgt := 205) hx hb md_Mo_pulse_188 (by decide) (fun c_221 => ?_) (fun c_221 => ?_)
      · exact J120 v (r215) _ _ _ (by rw [hj]; subst er215 er220; simp only [mf_Mo_pulse_0_j119, if_neg c_216, if_pos c_221]) zr215  hI hP hS (lv_sub hl [1, 2, 3, 4, 0] rfl)
      · refine lv_aload_n hx hb md_Mo_pulse_191 rfl (lv_at hl 1 rfl) ?_
        refine fw_getr hx hb hts i_Mo hown hK hP (mm_0 (by decide)) (mk_0 0) rfl 44 (by decide) (hts _ L_Mo_140) (fun _ h9 => h9) rfl md_Mo_pulse_192 ?_
        refine lv_bipush (v := (6 : Int32)) hx hb md_Mo_pulse_195 (by decide) ?_
        refine lv_iload_n hx hb md_Mo_pulse_197 rfl (lv_at hl 2 rfl) ?_
        refine lv_imul hx hb md_Mo_pulse_198 ?_
        refine fw_top (y := (0 : Int32)) (by decide) ?_
        refine lv_iload_n hx hb md_Mo_pulse_199 rfl (lv_at hl 4 rfl) ?_
        refine lv_iadd hx hb md_Mo_pulse_200 ?_
        refine fw_top (y := (3 : Int32)) (by decide) ?_
        refine fw_iald hx hb hK hP (mm_45 (by decide)) (mk_45 0) 0 rfl (j := 3) (by decide) (fw_inc (by decide)) md_Mo_pulse_201 ?_
        refine lv_goto (tgt := 206) hx hb md_Mo_pulse_202 (by decide) ?_
        exact J124 v (r215) ((v 45 0 3)) _ _ _ (by rw [hj]; subst er215 er220; simp only [mf_Mo_pulse_0_j119, if_neg c_216, if_neg c_221]) zr215  hI hP hS (lv_sub hl [1, 2, 3, 4, 0] rfl)
  have J118 : ∀ (v : fw_V)  (H : Heap) (locs : List Loc) (ls : Array Slot), mf_Mo_pulse_0 v0 = mf_Mo_pulse_0_j118 v → mI b v → va_P D vcls (fw_w mCL cA mkd ad v) H → va_S (fw_A mCL ad) s.heap H locs → lv_has ls 5 [(0, .ref (ad 0 0)), (1, .int (0 : Int32)), (3, .int (2 : Int32))] → W p l e (headSpec (Cond.code my_Mo_pulse mb_Mo_pulse 5 none :: vTB) mrm_Mo_pulse).room s m ([.ref (ad 0 0), .int (0 : Int32)] : List Value).toArray below meth c H locs 0 0 (MQ below (fw_Qv D vcls mCL cA mkd ad (mI b) (mf_Mo_pulse_0 v0)) ([.ref (ad 0 0), .int (0 : Int32)] : List Value).toArray s 0 0 (fw_A mCL ad)) (F0 m 222 ls [.int (2 : Int32), .int (1 : Int32)]) := by
    intro v  H locs ls hj  hI hP hS hl
    clear J25 J24 J27 J26 J23 J22 J28 J21 J20 J33 J34 J32 J31 J35 J30 J29 J19 J18 J36 J17 J16 J46 J45 J48 J47 J44 J43 J49 J42 J41 J54 J55 J53 J52 J56 J51 J50 J40 J39 J57 J38 J37 J15 J14 J58 J13 J12 J63 J64 J62 J61 J65 J60 J59 J11 J10 J66 J9 J8 J84 J83 J86 J85 J82 J81 J87 J80 J79 J92 J93 J91 J90 J94 J89 J88 J78 J77 J95 J76 J75 J105 J104 J107 J106 J103 J102 J108 J101 J100 J113 J114 J112 J111 J115 J110 J109 J99 J98 J116 J97 J96 J74 J73 J117 J72 J71 J122 J123 J121 J120 J124
    refine lv_ior hx hb md_Mo_pulse_222 ?_
    refine fw_top (y := (3 : Int32)) (by decide) ?_
    refine lv_istore_n (lv' := [(2, .int (3 : Int32)), (0, .ref (ad 0 0)), (1, .int (0 : Int32)), (3, .int (2 : Int32))]) hx hb md_Mo_pulse_223 rfl hl (by decide) rfl (fun ls hl => ?_)
    refine lv_iinc (v := (3 : Int32)) (lv' := [(3, .int (3 : Int32)), (2, .int (3 : Int32)), (0, .ref (ad 0 0)), (1, .int (0 : Int32))]) hx hb md_Mo_pulse_224 hl (k := 3) rfl (by decide) (by decide) rfl (fun ls hl => ?_)
    refine lv_goto (tgt := 148) hx hb md_Mo_pulse_227 (by decide) ?_
    exact J119 v  _ _ _ (by rw [hj]; simp only [mf_Mo_pulse_0_j118])   hI hP hS (lv_sub hl [2, 3, 1, 0] rfl)
  have J70 : ∀ (v : fw_V) (x4 : Int32) (H : Heap) (locs : List Loc) (ls : Array Slot), mf_Mo_pulse_0 v0 = mf_Mo_pulse_0_j70 v x4 → (x4 = 0 ∨ x4 = 1) → mI b v → va_P D vcls (fw_w mCL cA mkd ad v) H → va_S (fw_A mCL ad) s.heap H locs → lv_has ls 5 [(0, .ref (ad 0 0)), (1, .int (0 : Int32)), (2, .int (1 : Int32)), (3, .int (2 : Int32)), (4, .int x4)] → W p l e (headSpec (Cond.code my_Mo_pulse mb_Mo_pulse 5 none :: vTB) mrm_Mo_pulse).room s m ([.ref (ad 0 0), .int (0 : Int32)] : List Value).toArray below meth c H locs 0 0 (MQ below (fw_Qv D vcls mCL cA mkd ad (mI b) (mf_Mo_pulse_0 v0)) ([.ref (ad 0 0), .int (0 : Int32)] : List Value).toArray s 0 0 (fw_A mCL ad)) (F0 m 206 ls [.int (0 : Int32), .int (2 : Int32), .ref (ad 9 0)]) := by
    intro v x4 H locs ls hj hc0 hI hP hS hl
    clear J25 J24 J27 J26 J23 J22 J28 J21 J20 J33 J34 J32 J31 J35 J30 J29 J19 J18 J36 J17 J16 J46 J45 J48 J47 J44 J43 J49 J42 J41 J54 J55 J53 J52 J56 J51 J50 J40 J39 J57 J38 J37 J15 J14 J58 J13 J12 J63 J64 J62 J61 J65 J60 J59 J11 J10 J66 J9 J8 J84 J83 J86 J85 J82 J81 J87 J80 J79 J92 J93 J91 J90 J94 J89 J88 J78 J77 J95 J76 J75 J105 J104 J107 J106 J103 J102 J108 J101 J100 J113 J114 J112 J111 J115 J110 J109 J99 J98 J116 J97 J96 J74 J73 J117 J72 J122 J123 J121 J120 J124 J119
    refine fw_iast hx hb hK hD hP hS (mm_9 (by decide)) (mk_9 0) 0 rfl (j := 2) (by decide) (fw_inc (by decide)) md_Mo_pulse_206 (fun v126 H locs ev126 hP hS => ?_)
    have hI : mI b v126 := by rw [ev126]; exact mI_up hI trivial trivial
    refine lv_iload_n hx hb md_Mo_pulse_207 rfl (lv_at hl 2 rfl) ?_
    refine lv_iload hx hb md_Mo_pulse_208 (lv_at hl 4 rfl) ?_
    refine lv_if_eq (tgt := 221) hx hb md_Mo_pulse_210 (by decide) (fun c_127 => ?_) (fun c_127 => ?_)
    · refine lv_iconst (v := (0 : Int32)) hx hb md_Mo_pulse_221 (by decide) ?_
      exact J71 v126  _ _ _ (by rw [hj]; subst ev126; simp only [mf_Mo_pulse_0_j70, if_pos c_127])   hI hP hS (lv_sub hl [0, 1, 3] rfl)
    · refine lv_iconst (v := (1 : Int32)) hx hb md_Mo_pulse_213 (by decide) ?_
      refine lv_iload_n hx hb md_Mo_pulse_214 rfl (lv_at hl 3 rfl) ?_
      refine lv_iconst (v := (2 : Int32)) hx hb md_Mo_pulse_215 (by decide) ?_
      refine lv_idiv hx hb md_Mo_pulse_216 (by decide) ?_
      refine fw_top (y := (1 : Int32)) (by decide) ?_
      refine lv_ishl hx hb md_Mo_pulse_217 ?_
      refine fw_top (y := (2 : Int32)) (by decide) ?_
      refine lv_goto (tgt := 222) hx hb md_Mo_pulse_218 (by decide) ?_
      exact J118 v126  _ _ _ (by rw [hj]; subst ev126; simp only [mf_Mo_pulse_0_j70, if_neg c_127])   hI hP hS (lv_sub hl [0, 1, 3] rfl)
  have J69 : ∀ (v : fw_V) (x4 : Int32) (H : Heap) (locs : List Loc) (ls : Array Slot), mf_Mo_pulse_0 v0 = mf_Mo_pulse_0_j69 v x4 → (x4 = 0 ∨ x4 = 1) → mI b v → va_P D vcls (fw_w mCL cA mkd ad v) H → va_S (fw_A mCL ad) s.heap H locs → lv_has ls 5 [(0, .ref (ad 0 0)), (1, .int (0 : Int32)), (2, .int (1 : Int32)), (3, .int (2 : Int32)), (4, .int x4)] → W p l e (headSpec (Cond.code my_Mo_pulse mb_Mo_pulse 5 none :: vTB) mrm_Mo_pulse).room s m ([.ref (ad 0 0), .int (0 : Int32)] : List Value).toArray below meth c H locs 0 0 (MQ below (fw_Qv D vcls mCL cA mkd ad (mI b) (mf_Mo_pulse_0 v0)) ([.ref (ad 0 0), .int (0 : Int32)] : List Value).toArray s 0 0 (fw_A mCL ad)) (F0 m 205 ls [.int (2 : Int32), .ref (ad 9 0)]) := by
    intro v x4 H locs ls hj hc0 hI hP hS hl
    clear J25 J24 J27 J26 J23 J22 J28 J21 J20 J33 J34 J32 J31 J35 J30 J29 J19 J18 J36 J17 J16 J46 J45 J48 J47 J44 J43 J49 J42 J41 J54 J55 J53 J52 J56 J51 J50 J40 J39 J57 J38 J37 J15 J14 J58 J13 J12 J63 J64 J62 J61 J65 J60 J59 J11 J10 J66 J9 J8 J84 J83 J86 J85 J82 J81 J87 J80 J79 J92 J93 J91 J90 J94 J89 J88 J78 J77 J95 J76 J75 J105 J104 J107 J106 J103 J102 J108 J101 J100 J113 J114 J112 J111 J115 J110 J109 J99 J98 J116 J97 J96 J74 J73 J117 J72 J71 J122 J123 J121 J120 J124 J119 J118
    refine lv_iconst (v := (0 : Int32)) hx hb md_Mo_pulse_205 (by decide) ?_
    exact J70 v (x4) _ _ _ (by rw [hj]; simp only [mf_Mo_pulse_0_j69]) hc0  hI hP hS (lv_sub hl [0, 1, 2, 3, 4] rfl)
  have J125 : ∀ (v : fw_V) (x4 : Int32) (x90 : Int32) (H : Heap) (locs : List Loc) (ls : Array Slot), mf_Mo_pulse_0 v0 = mf_Mo_pulse_0_j125 v x4 x90 → (x4 = 0 ∨ x4 = 1) → mI b v → va_P D vcls (fw_w mCL cA mkd ad v) H → va_S (fw_A mCL ad) s.heap H locs → lv_has ls 5 [(0, .ref (ad 0 0)), (1, .int (0 : Int32)), (2, .int (1 : Int32)), (3, .int (2 : Int32)), (4, .int x4)] → W p l e (headSpec (Cond.code my_Mo_pulse mb_Mo_pulse 5 none :: vTB) mrm_Mo_pulse).room s m ([.ref (ad 0 0), .int (0 : Int32)] : List Value).toArray below meth c H locs 0 0 (MQ below (fw_Qv D vcls mCL cA mkd ad (mI b) (mf_Mo_pulse_0 v0)) ([.ref (ad 0 0), .int (0 : Int32)] : List Value).toArray s 0 0 (fw_A mCL ad)) (F0 m 206 ls [.int x90, .int (2 : Int32), .ref (ad 9 0)]) := by
    intro v x4 x90 H locs ls hj hc0 hI hP hS hl
    clear J25 J24 J27 J26 J23 J22 J28 J21 J20 J33 J34 J32 J31 J35 J30 J29 J19 J18 J36 J17 J16 J46 J45 J48 J47 J44 J43 J49 J42 J41 J54 J55 J53 J52 J56 J51 J50 J40 J39 J57 J38 J37 J15 J14 J58 J13 J12 J63 J64 J62 J61 J65 J60 J59 J11 J10 J66 J9 J8 J84 J83 J86 J85 J82 J81 J87 J80 J79 J92 J93 J91 J90 J94 J89 J88 J78 J77 J95 J76 J75 J105 J104 J107 J106 J103 J102 J108 J101 J100 J113 J114 J112 J111 J115 J110 J109 J99 J98 J116 J97 J96 J74 J73 J117 J72 J122 J123 J121 J120 J124 J119 J70 J69
    refine fw_iast hx hb hK hD hP hS (mm_9 (by decide)) (mk_9 0) 0 rfl (j := 2) (by decide) (fw_inc (by decide)) md_Mo_pulse_206 (fun v227 H locs ev227 hP hS => ?_)
    have hI : mI b v227 := by rw [ev227]; exact mI_up hI trivial trivial
    refine lv_iload_n hx hb md_Mo_pulse_207 rfl (lv_at hl 2 rfl) ?_
    refine lv_iload hx hb md_Mo_pulse_208 (lv_at hl 4 rfl) ?_
    refine lv_if_eq (tgt := 221) hx hb md_Mo_pulse_210 (by decide) (fun c_228 => ?_) (fun c_228 => ?_)
    · refine lv_iconst (v := (0 : Int32)) hx hb md_Mo_pulse_221 (by decide) ?_
      exact J71 v227  _ _ _ (by rw [hj]; subst ev227; simp only [mf_Mo_pulse_0_j125, if_pos c_228])   hI hP hS (lv_sub hl [0, 1, 3] rfl)
    · refine lv_iconst (v := (1 : Int32)) hx hb md_Mo_pulse_213 (by decide) ?_
      refine lv_iload_n hx hb md_Mo_pulse_214 rfl (lv_at hl 3 rfl) ?_
      refine lv_iconst (v := (2 : Int32)) hx hb md_Mo_pulse_215 (by decide) ?_
      refine lv_idiv hx hb md_Mo_pulse_216 (by decide) ?_
      refine fw_top (y := (1 : Int32)) (by decide) ?_
      refine lv_ishl hx hb md_Mo_pulse_217 ?_
      refine fw_top (y := (2 : Int32)) (by decide) ?_
      refine lv_goto (tgt := 222) hx hb md_Mo_pulse_218 (by decide) ?_
      exact J118 v227  _ _ _ (by rw [hj]; subst ev227; simp only [mf_Mo_pulse_0_j125, if_neg c_228])   hI hP hS (lv_sub hl [0, 1, 3] rfl)
  have J68 : ∀ (v : fw_V)  (H : Heap) (locs : List Loc) (ls : Array Slot), mf_Mo_pulse_0 v0 = mf_Mo_pulse_0_j68 v → mI b v → va_P D vcls (fw_w mCL cA mkd ad v) H → va_S (fw_A mCL ad) s.heap H locs → lv_has ls 5 [(0, .ref (ad 0 0)), (1, .int (0 : Int32)), (2, .int (1 : Int32)), (3, .int (2 : Int32))] → W p l e (headSpec (Cond.code my_Mo_pulse mb_Mo_pulse 5 none :: vTB) mrm_Mo_pulse).room s m ([.ref (ad 0 0), .int (0 : Int32)] : List Value).toArray below meth c H locs 0 0 (MQ below (fw_Qv D vcls mCL cA mkd ad (mI b) (mf_Mo_pulse_0 v0)) ([.ref (ad 0 0), .int (0 : Int32)] : List Value).toArray s 0 0 (fw_A mCL ad)) (F0 m 148 ls []) := by
    intro v  H locs ls hj  hI hP hS hl
    clear J25 J24 J27 J26 J23 J22 J28 J21 J20 J33 J34 J32 J31 J35 J30 J29 J19 J18 J36 J17 J16 J46 J45 J48 J47 J44 J43 J49 J42 J41 J54 J55 J53 J52 J56 J51 J50 J40 J39 J57 J38 J37 J15 J14 J58 J13 J12 J63 J64 J62 J61 J65 J60 J59 J11 J10 J66 J9 J8 J84 J83 J86 J85 J82 J81 J87 J80 J79 J92 J93 J91 J90 J94 J89 J88 J78 J77 J95 J76 J75 J105 J104 J107 J106 J103 J102 J108 J101 J100 J113 J114 J112 J111 J115 J110 J109 J99 J98 J116 J97 J96 J74 J73 J117 J72 J71 J122 J123 J121 J120 J124 J119 J118 J70
    refine lv_iload_n hx hb md_Mo_pulse_148 rfl (lv_at hl 3 rfl) ?_
    refine lv_bipush (v := (6 : Int32)) hx hb md_Mo_pulse_149 (by decide) ?_
    refine lv_icmp_ge (tgt := 230) hx hb md_Mo_pulse_151 (by decide) (fun c_123 => absurd c_123 (by decide)) (fun _ => ?_)
    refine lv_aload_n hx hb md_Mo_pulse_154 rfl (lv_at hl 0 rfl) ?_
    refine lv_iload_n hx hb md_Mo_pulse_155 rfl (lv_at hl 1 rfl) ?_
    refine lv_iload_n hx hb md_Mo_pulse_156 rfl (lv_at hl 3 rfl) ?_
    refine lv_iconst (v := (2 : Int32)) hx hb md_Mo_pulse_157 (by decide) ?_
    refine lv_idiv hx hb md_Mo_pulse_158 (by decide) ?_
    refine fw_top (y := (1 : Int32)) (by decide) ?_
    refine fw_cb (va_runV (As := [.int (0 : Int32), .int (1 : Int32)]) (rest := []) ⟨hx, hb, hml, hown, hts⟩ (mc_Mo_isGood_0 l hD v hI (1 : Int32) (fw_inc (by decide))) (mw_Mo_isGood hts L_Mo_250 ⟨Nat.le_of_ble_eq_true rfl, Nat.le_of_ble_eq_true rfl⟩) (fw_preV hN hK hP (mm_0 (by decide)) (mk_0 0) rfl) rfl rfl hl.1 rfl (lv_room (Nat.le_of_ble_eq_true rfl)) md_Mo_pulse_159 ⟨Nat.le_of_ble_eq_true rfl, Nat.le_of_ble_eq_true rfl⟩) hS (fun r124 H locs zr124 er124 hP hS => ?_)
    refine lv_istore (lv' := [(4, .int r124), (0, .ref (ad 0 0)), (1, .int (0 : Int32)), (2, .int (1 : Int32)), (3, .int (2 : Int32))]) hx hb md_Mo_pulse_162 hl (by decide) rfl (fun ls hl => ?_)
    refine lv_aload_n hx hb md_Mo_pulse_164 rfl (lv_at hl 1 rfl) ?_
    refine fw_getr hx hb hts i_Mo hown hK hP (mm_0 (by decide)) (mk_0 0) rfl 8 (by decide) (hts _ L_Mo_35) (fun _ h9 => h9) rfl md_Mo_pulse_165 ?_
    refine lv_iload_n hx hb md_Mo_pulse_168 rfl (lv_at hl 4 rfl) ?_
    refine lv_iload hx hb md_Mo_pulse_169 (lv_at hl 0 rfl) ?_
    refine lv_if_eq (tgt := 205) hx hb md_Mo_pulse_171 (by decide) (fun c_125 => ?_) (fun c_125 => ?_)
    · exact J69 v (r124) _ _ _ (by rw [hj]; subst er124; simp only [mf_Mo_pulse_0_j68, if_pos c_125]) zr124  hI hP hS (lv_sub hl [1, 2, 3, 4, 0] rfl)
    · have h_224 : vp_in (v 43 0 1) 8 := mp_isGood_0_1 er124 c_125 (hI.1 43 0 1)
      refine lv_iload_n hx hb md_Mo_pulse_174 rfl (lv_at hl 4 rfl) ?_
      refine lv_iconst (v := (2 : Int32)) hx hb md_Mo_pulse_175 (by decide) ?_
      refine lv_irem hx hb md_Mo_pulse_176 (by decide) ?_
      refine fw_top (y := (0 : Int32)) (by decide) ?_
      refine lv_aload_n hx hb md_Mo_pulse_177 rfl (lv_at hl 1 rfl) ?_
      refine lv_iconst (v := (3 : Int32)) hx hb md_Mo_pulse_178 (by decide) ?_
      refine lv_iload_n hx hb md_Mo_pulse_179 rfl (lv_at hl 2 rfl) ?_
      refine lv_imul hx hb md_Mo_pulse_180 ?_
      refine fw_top (y := (0 : Int32)) (by decide) ?_
      refine lv_iload_n hx hb md_Mo_pulse_181 rfl (lv_at hl 4 rfl) ?_
      refine lv_iconst (v := (2 : Int32)) hx hb md_Mo_pulse_182 (by decide) ?_
      refine lv_idiv hx hb md_Mo_pulse_183 (by decide) ?_
      refine fw_top (y := (1 : Int32)) (by decide) ?_
      refine lv_iadd hx hb md_Mo_pulse_184 ?_
      refine fw_top (y := (1 : Int32)) (by decide) ?_
      refine fw_co (va_runV (As := [.int (1 : Int32)]) (rest := [.int (0 : Int32), .int (2 : Int32), .ref (ad 9 0)]) ⟨hx, hb, hml, hown, hts⟩ (mc_Mo_insAt l hD v hI (1 : Int32) (fw_inc (by decide))) (mw_Mo_insAt hts L_Mo_263 ⟨Nat.le_of_ble_eq_true rfl, Nat.le_of_ble_eq_true rfl⟩) (fw_preV hN hK hP (mm_0 (by decide)) (mk_0 0) rfl) rfl rfl hl.1 rfl (lv_room (Nat.le_of_ble_eq_true rfl)) md_Mo_pulse_185 ⟨Nat.le_of_ble_eq_true rfl, Nat.le_of_ble_eq_true rfl⟩) hS (fun r225 H locs er225 hP hS => ?_)
      refine lv_icmp_ge (tgt := 205) hx hb md_Mo_pulse_188 (by decide) (fun c_226 => ?_) (fun c_226 => ?_)
      · exact J69 v (r124) _ _ _ (by rw [hj]; subst er124 er225; simp only [mf_Mo_pulse_0_j68, if_neg c_125, if_pos c_226]) zr124  hI hP hS (lv_sub hl [1, 2, 3, 4, 0] rfl)
      · refine lv_aload_n hx hb md_Mo_pulse_191 rfl (lv_at hl 1 rfl) ?_
        refine fw_getr hx hb hts i_Mo hown hK hP (mm_0 (by decide)) (mk_0 0) rfl 44 (by decide) (hts _ L_Mo_140) (fun _ h9 => h9) rfl md_Mo_pulse_192 ?_
        refine lv_bipush (v := (6 : Int32)) hx hb md_Mo_pulse_195 (by decide) ?_
        refine lv_iload_n hx hb md_Mo_pulse_197 rfl (lv_at hl 2 rfl) ?_
        refine lv_imul hx hb md_Mo_pulse_198 ?_
        refine fw_top (y := (0 : Int32)) (by decide) ?_
        refine lv_iload_n hx hb md_Mo_pulse_199 rfl (lv_at hl 4 rfl) ?_
        refine lv_iadd hx hb md_Mo_pulse_200 ?_
        refine fw_top (y := (2 : Int32)) (by decide) ?_
        refine fw_iald hx hb hK hP (mm_45 (by decide)) (mk_45 0) 0 rfl (j := 2) (by decide) (fw_inc (by decide)) md_Mo_pulse_201 ?_
        refine lv_goto (tgt := 206) hx hb md_Mo_pulse_202 (by decide) ?_
        exact J125 v (r124) ((v 45 0 2)) _ _ _ (by rw [hj]; subst er124 er225; simp only [mf_Mo_pulse_0_j68, if_neg c_125, if_neg c_226]) zr124  hI hP hS (lv_sub hl [1, 2, 3, 4, 0] rfl)
  have J67 : ∀ (v : fw_V)  (H : Heap) (locs : List Loc) (ls : Array Slot), mf_Mo_pulse_0 v0 = mf_Mo_pulse_0_j67 v → mI b v → va_P D vcls (fw_w mCL cA mkd ad v) H → va_S (fw_A mCL ad) s.heap H locs → lv_has ls 5 [(0, .ref (ad 0 0)), (1, .int (0 : Int32)), (3, .int (1 : Int32))] → W p l e (headSpec (Cond.code my_Mo_pulse mb_Mo_pulse 5 none :: vTB) mrm_Mo_pulse).room s m ([.ref (ad 0 0), .int (0 : Int32)] : List Value).toArray below meth c H locs 0 0 (MQ below (fw_Qv D vcls mCL cA mkd ad (mI b) (mf_Mo_pulse_0 v0)) ([.ref (ad 0 0), .int (0 : Int32)] : List Value).toArray s 0 0 (fw_A mCL ad)) (F0 m 222 ls [.int (1 : Int32), .int (0 : Int32)]) := by
    intro v  H locs ls hj  hI hP hS hl
    clear J25 J24 J27 J26 J23 J22 J28 J21 J20 J33 J34 J32 J31 J35 J30 J29 J19 J18 J36 J17 J16 J46 J45 J48 J47 J44 J43 J49 J42 J41 J54 J55 J53 J52 J56 J51 J50 J40 J39 J57 J38 J37 J15 J14 J58 J13 J12 J63 J64 J62 J61 J65 J60 J59 J11 J10 J66 J9 J8 J84 J83 J86 J85 J82 J81 J87 J80 J79 J92 J93 J91 J90 J94 J89 J88 J78 J77 J95 J76 J75 J105 J104 J107 J106 J103 J102 J108 J101 J100 J113 J114 J112 J111 J115 J110 J109 J99 J98 J116 J97 J96 J74 J73 J117 J72 J71 J122 J123 J121 J120 J124 J119 J118 J70 J69 J125
    refine lv_ior hx hb md_Mo_pulse_222 ?_
    refine fw_top (y := (1 : Int32)) (by decide) ?_
    refine lv_istore_n (lv' := [(2, .int (1 : Int32)), (0, .ref (ad 0 0)), (1, .int (0 : Int32)), (3, .int (1 : Int32))]) hx hb md_Mo_pulse_223 rfl hl (by decide) rfl (fun ls hl => ?_)
    refine lv_iinc (v := (2 : Int32)) (lv' := [(3, .int (2 : Int32)), (2, .int (1 : Int32)), (0, .ref (ad 0 0)), (1, .int (0 : Int32))]) hx hb md_Mo_pulse_224 hl (k := 3) rfl (by decide) (by decide) rfl (fun ls hl => ?_)
    refine lv_goto (tgt := 148) hx hb md_Mo_pulse_227 (by decide) ?_
    exact J68 v  _ _ _ (by rw [hj]; simp only [mf_Mo_pulse_0_j67])   hI hP hS (lv_sub hl [2, 3, 1, 0] rfl)
  have J7 : ∀ (v : fw_V) (x4 : Int32) (H : Heap) (locs : List Loc) (ls : Array Slot), mf_Mo_pulse_0 v0 = mf_Mo_pulse_0_j7 v x4 → (x4 = 0 ∨ x4 = 1) → mI b v → va_P D vcls (fw_w mCL cA mkd ad v) H → va_S (fw_A mCL ad) s.heap H locs → lv_has ls 5 [(0, .ref (ad 0 0)), (1, .int (0 : Int32)), (2, .int (0 : Int32)), (3, .int (1 : Int32)), (4, .int x4)] → W p l e (headSpec (Cond.code my_Mo_pulse mb_Mo_pulse 5 none :: vTB) mrm_Mo_pulse).room s m ([.ref (ad 0 0), .int (0 : Int32)] : List Value).toArray below meth c H locs 0 0 (MQ below (fw_Qv D vcls mCL cA mkd ad (mI b) (mf_Mo_pulse_0 v0)) ([.ref (ad 0 0), .int (0 : Int32)] : List Value).toArray s 0 0 (fw_A mCL ad)) (F0 m 206 ls [.int (0 : Int32), .int (1 : Int32), .ref (ad 9 0)]) := by
    intro v x4 H locs ls hj hc0 hI hP hS hl
    clear J25 J24 J27 J26 J23 J22 J28 J21 J20 J33 J34 J32 J31 J35 J30 J29 J19 J18 J36 J17 J16 J46 J45 J48 J47 J44 J43 J49 J42 J41 J54 J55 J53 J52 J56 J51 J50 J40 J39 J57 J38 J37 J15 J14 J58 J13 J12 J63 J64 J62 J61 J65 J60 J59 J11 J10 J66 J9 J84 J83 J86 J85 J82 J81 J87 J80 J79 J92 J93 J91 J90 J94 J89 J88 J78 J77 J95 J76 J75 J105 J104 J107 J106 J103 J102 J108 J101 J100 J113 J114 J112 J111 J115 J110 J109 J99 J98 J116 J97 J96 J74 J73 J117 J72 J71 J122 J123 J121 J120 J124 J119 J118 J70 J69 J125 J68
    refine fw_iast hx hb hK hD hP hS (mm_9 (by decide)) (mk_9 0) 0 rfl (j := 1) (by decide) (fw_inc (by decide)) md_Mo_pulse_206 (fun v15 H locs ev15 hP hS => ?_)
    have hI : mI b v15 := by rw [ev15]; exact mI_up hI trivial trivial
    refine lv_iload_n hx hb md_Mo_pulse_207 rfl (lv_at hl 2 rfl) ?_
    refine lv_iload hx hb md_Mo_pulse_208 (lv_at hl 4 rfl) ?_
    refine lv_if_eq (tgt := 221) hx hb md_Mo_pulse_210 (by decide) (fun c_16 => ?_) (fun c_16 => ?_)
    · refine lv_iconst (v := (0 : Int32)) hx hb md_Mo_pulse_221 (by decide) ?_
      exact J8 v15  _ _ _ (by rw [hj]; subst ev15; simp only [mf_Mo_pulse_0_j7, if_pos c_16])   hI hP hS (lv_sub hl [0, 1, 3] rfl)
    · refine lv_iconst (v := (1 : Int32)) hx hb md_Mo_pulse_213 (by decide) ?_
      refine lv_iload_n hx hb md_Mo_pulse_214 rfl (lv_at hl 3 rfl) ?_
      refine lv_iconst (v := (2 : Int32)) hx hb md_Mo_pulse_215 (by decide) ?_
      refine lv_idiv hx hb md_Mo_pulse_216 (by decide) ?_
      refine fw_top (y := (0 : Int32)) (by decide) ?_
      refine lv_ishl hx hb md_Mo_pulse_217 ?_
      refine fw_top (y := (1 : Int32)) (by decide) ?_
      refine lv_goto (tgt := 222) hx hb md_Mo_pulse_218 (by decide) ?_
      exact J67 v15  _ _ _ (by rw [hj]; subst ev15; simp only [mf_Mo_pulse_0_j7, if_neg c_16])   hI hP hS (lv_sub hl [0, 1, 3] rfl)
  have J6 : ∀ (v : fw_V) (x4 : Int32) (H : Heap) (locs : List Loc) (ls : Array Slot), mf_Mo_pulse_0 v0 = mf_Mo_pulse_0_j6 v x4 → (x4 = 0 ∨ x4 = 1) → mI b v → va_P D vcls (fw_w mCL cA mkd ad v) H → va_S (fw_A mCL ad) s.heap H locs → lv_has ls 5 [(0, .ref (ad 0 0)), (1, .int (0 : Int32)), (2, .int (0 : Int32)), (3, .int (1 : Int32)), (4, .int x4)] → W p l e (headSpec (Cond.code my_Mo_pulse mb_Mo_pulse 5 none :: vTB) mrm_Mo_pulse).room s m ([.ref (ad 0 0), .int (0 : Int32)] : List Value).toArray below meth c H locs 0 0 (MQ below (fw_Qv D vcls mCL cA mkd ad (mI b) (mf_Mo_pulse_0 v0)) ([.ref (ad 0 0), .int (0 : Int32)] : List Value).toArray s 0 0 (fw_A mCL ad)) (F0 m 205 ls [.int (1 : Int32), .ref (ad 9 0)]) := by
    intro v x4 H locs ls hj hc0 hI hP hS hl
    clear J25 J24 J27 J26 J23 J22 J28 J21 J20 J33 J34 J32 J31 J35 J30 J29 J19 J18 J36 J17 J16 J46 J45 J48 J47 J44 J43 J49 J42 J41 J54 J55 J53 J52 J56 J51 J50 J40 J39 J57 J38 J37 J15 J14 J58 J13 J12 J63 J64 J62 J61 J65 J60 J59 J11 J10 J66 J9 J8 J84 J83 J86 J85 J82 J81 J87 J80 J79 J92 J93 J91 J90 J94 J89 J88 J78 J77 J95 J76 J75 J105 J104 J107 J106 J103 J102 J108 J101 J100 J113 J114 J112 J111 J115 J110 J109 J99 J98 J116 J97 J96 J74 J73 J117 J72 J71 J122 J123 J121 J120 J124 J119 J118 J70 J69 J125 J68 J67
    refine lv_iconst (v := (0 : Int32)) hx hb md_Mo_pulse_205 (by decide) ?_
    exact J7 v (x4) _ _ _ (by rw [hj]; simp only [mf_Mo_pulse_0_j6]) hc0  hI hP hS (lv_sub hl [0, 1, 2, 3, 4] rfl)
  have J126 : ∀ (v : fw_V) (x4 : Int32) (x90 : Int32) (H : Heap) (locs : List Loc) (ls : Array Slot), mf_Mo_pulse_0 v0 = mf_Mo_pulse_0_j126 v x4 x90 → (x4 = 0 ∨ x4 = 1) → mI b v → va_P D vcls (fw_w mCL cA mkd ad v) H → va_S (fw_A mCL ad) s.heap H locs → lv_has ls 5 [(0, .ref (ad 0 0)), (1, .int (0 : Int32)), (2, .int (0 : Int32)), (3, .int (1 : Int32)), (4, .int x4)] → W p l e (headSpec (Cond.code my_Mo_pulse mb_Mo_pulse 5 none :: vTB) mrm_Mo_pulse).room s m ([.ref (ad 0 0), .int (0 : Int32)] : List Value).toArray below meth c H locs 0 0 (MQ below (fw_Qv D vcls mCL cA mkd ad (mI b) (mf_Mo_pulse_0 v0)) ([.ref (ad 0 0), .int (0 : Int32)] : List Value).toArray s 0 0 (fw_A mCL ad)) (F0 m 206 ls [.int x90, .int (1 : Int32), .ref (ad 9 0)]) := by
    intro v x4 x90 H locs ls hj hc0 hI hP hS hl
    clear J25 J24 J27 J26 J23 J22 J28 J21 J20 J33 J34 J32 J31 J35 J30 J29 J19 J18 J36 J17 J16 J46 J45 J48 J47 J44 J43 J49 J42 J41 J54 J55 J53 J52 J56 J51 J50 J40 J39 J57 J38 J37 J15 J14 J58 J13 J12 J63 J64 J62 J61 J65 J60 J59 J11 J10 J66 J9 J84 J83 J86 J85 J82 J81 J87 J80 J79 J92 J93 J91 J90 J94 J89 J88 J78 J77 J95 J76 J75 J105 J104 J107 J106 J103 J102 J108 J101 J100 J113 J114 J112 J111 J115 J110 J109 J99 J98 J116 J97 J96 J74 J73 J117 J72 J71 J122 J123 J121 J120 J124 J119 J118 J70 J69 J125 J68 J7 J6
    refine fw_iast hx hb hK hD hP hS (mm_9 (by decide)) (mk_9 0) 0 rfl (j := 1) (by decide) (fw_inc (by decide)) md_Mo_pulse_206 (fun v232 H locs ev232 hP hS => ?_)
    have hI : mI b v232 := by rw [ev232]; exact mI_up hI trivial trivial
    refine lv_iload_n hx hb md_Mo_pulse_207 rfl (lv_at hl 2 rfl) ?_
    refine lv_iload hx hb md_Mo_pulse_208 (lv_at hl 4 rfl) ?_
    refine lv_if_eq (tgt := 221) hx hb md_Mo_pulse_210 (by decide) (fun c_233 => ?_) (fun c_233 => ?_)
    · refine lv_iconst (v := (0 : Int32)) hx hb md_Mo_pulse_221 (by decide) ?_
      exact J8 v232  _ _ _ (by rw [hj]; subst ev232; simp only [mf_Mo_pulse_0_j126, if_pos c_233])   hI hP hS (lv_sub hl [0, 1, 3] rfl)
    · refine lv_iconst (v := (1 : Int32)) hx hb md_Mo_pulse_213 (by decide) ?_
      refine lv_iload_n hx hb md_Mo_pulse_214 rfl (lv_at hl 3 rfl) ?_
      refine lv_iconst (v := (2 : Int32)) hx hb md_Mo_pulse_215 (by decide) ?_
      refine lv_idiv hx hb md_Mo_pulse_216 (by decide) ?_
      refine fw_top (y := (0 : Int32)) (by decide) ?_
      refine lv_ishl hx hb md_Mo_pulse_217 ?_
      refine fw_top (y := (1 : Int32)) (by decide) ?_
      refine lv_goto (tgt := 222) hx hb md_Mo_pulse_218 (by decide) ?_
      exact J67 v232  _ _ _ (by rw [hj]; subst ev232; simp only [mf_Mo_pulse_0_j126, if_neg c_233])   hI hP hS (lv_sub hl [0, 1, 3] rfl)
  have J5 : ∀ (v : fw_V)  (H : Heap) (locs : List Loc) (ls : Array Slot), mf_Mo_pulse_0 v0 = mf_Mo_pulse_0_j5 v → mI b v → va_P D vcls (fw_w mCL cA mkd ad v) H → va_S (fw_A mCL ad) s.heap H locs → lv_has ls 5 [(0, .ref (ad 0 0)), (1, .int (0 : Int32)), (2, .int (0 : Int32)), (3, .int (1 : Int32))] → W p l e (headSpec (Cond.code my_Mo_pulse mb_Mo_pulse 5 none :: vTB) mrm_Mo_pulse).room s m ([.ref (ad 0 0), .int (0 : Int32)] : List Value).toArray below meth c H locs 0 0 (MQ below (fw_Qv D vcls mCL cA mkd ad (mI b) (mf_Mo_pulse_0 v0)) ([.ref (ad 0 0), .int (0 : Int32)] : List Value).toArray s 0 0 (fw_A mCL ad)) (F0 m 148 ls []) := by
    intro v  H locs ls hj  hI hP hS hl
    clear J25 J24 J27 J26 J23 J22 J28 J21 J20 J33 J34 J32 J31 J35 J30 J29 J19 J18 J36 J17 J16 J46 J45 J48 J47 J44 J43 J49 J42 J41 J54 J55 J53 J52 J56 J51 J50 J40 J39 J57 J38 J37 J15 J14 J58 J13 J12 J63 J64 J62 J61 J65 J60 J59 J11 J10 J66 J9 J8 J84 J83 J86 J85 J82 J81 J87 J80 J79 J92 J93 J91 J90 J94 J89 J88 J78 J77 J95 J76 J75 J105 J104 J107 J106 J103 J102 J108 J101 J100 J113 J114 J112 J111 J115 J110 J109 J99 J98 J116 J97 J96 J74 J73 J117 J72 J71 J122 J123 J121 J120 J124 J119 J118 J70 J69 J125 J68 J67 J7
    refine lv_iload_n hx hb md_Mo_pulse_148 rfl (lv_at hl 3 rfl) ?_
    refine lv_bipush (v := (6 : Int32)) hx hb md_Mo_pulse_149 (by decide) ?_
    refine lv_icmp_ge (tgt := 230) hx hb md_Mo_pulse_151 (by decide) (fun c_12 => absurd c_12 (by decide)) (fun _ => ?_)
    refine lv_aload_n hx hb md_Mo_pulse_154 rfl (lv_at hl 0 rfl) ?_
    refine lv_iload_n hx hb md_Mo_pulse_155 rfl (lv_at hl 1 rfl) ?_
    refine lv_iload_n hx hb md_Mo_pulse_156 rfl (lv_at hl 3 rfl) ?_
    refine lv_iconst (v := (2 : Int32)) hx hb md_Mo_pulse_157 (by decide) ?_
    refine lv_idiv hx hb md_Mo_pulse_158 (by decide) ?_
    refine fw_top (y := (0 : Int32)) (by decide) ?_
    refine fw_cb (va_runV (As := [.int (0 : Int32), .int (0 : Int32)]) (rest := []) ⟨hx, hb, hml, hown, hts⟩ (mc_Mo_isGood_0 l hD v hI (0 : Int32) (fw_inc (by decide))) (mw_Mo_isGood hts L_Mo_250 ⟨Nat.le_of_ble_eq_true rfl, Nat.le_of_ble_eq_true rfl⟩) (fw_preV hN hK hP (mm_0 (by decide)) (mk_0 0) rfl) rfl rfl hl.1 rfl (lv_room (Nat.le_of_ble_eq_true rfl)) md_Mo_pulse_159 ⟨Nat.le_of_ble_eq_true rfl, Nat.le_of_ble_eq_true rfl⟩) hS (fun r13 H locs zr13 er13 hP hS => ?_)
    refine lv_istore (lv' := [(4, .int r13), (0, .ref (ad 0 0)), (1, .int (0 : Int32)), (2, .int (0 : Int32)), (3, .int (1 : Int32))]) hx hb md_Mo_pulse_162 hl (by decide) rfl (fun ls hl => ?_)
    refine lv_aload_n hx hb md_Mo_pulse_164 rfl (lv_at hl 1 rfl) ?_
    refine fw_getr hx hb hts i_Mo hown hK hP (mm_0 (by decide)) (mk_0 0) rfl 8 (by decide) (hts _ L_Mo_35) (fun _ h9 => h9) rfl md_Mo_pulse_165 ?_
    refine lv_iload_n hx hb md_Mo_pulse_168 rfl (lv_at hl 4 rfl) ?_
    refine lv_iload hx hb md_Mo_pulse_169 (lv_at hl 0 rfl) ?_
    refine lv_if_eq (tgt := 205) hx hb md_Mo_pulse_171 (by decide) (fun c_14 => ?_) (fun c_14 => ?_)
    · exact J6 v (r13) _ _ _ (by rw [hj]; subst er13; simp only [mf_Mo_pulse_0_j5, if_pos c_14]) zr13  hI hP hS (lv_sub hl [1, 2, 3, 4, 0] rfl)
    · have h_229 : vp_in (v 43 0 0) 8 := mp_isGood_0_0 er13 c_14 (hI.1 43 0 0)
      refine lv_iload_n hx hb md_Mo_pulse_174 rfl (lv_at hl 4 rfl) ?_
      refine lv_iconst (v := (2 : Int32)) hx hb md_Mo_pulse_175 (by decide) ?_
      refine lv_irem hx hb md_Mo_pulse_176 (by decide) ?_
      refine fw_top (y := (1 : Int32)) (by decide) ?_
      refine lv_aload_n hx hb md_Mo_pulse_177 rfl (lv_at hl 1 rfl) ?_
      refine lv_iconst (v := (3 : Int32)) hx hb md_Mo_pulse_178 (by decide) ?_
      refine lv_iload_n hx hb md_Mo_pulse_179 rfl (lv_at hl 2 rfl) ?_
      refine lv_imul hx hb md_Mo_pulse_180 ?_
      refine fw_top (y := (0 : Int32)) (by decide) ?_
      refine lv_iload_n hx hb md_Mo_pulse_181 rfl (lv_at hl 4 rfl) ?_
      refine lv_iconst (v := (2 : Int32)) hx hb md_Mo_pulse_182 (by decide) ?_
      refine lv_idiv hx hb md_Mo_pulse_183 (by decide) ?_
      refine fw_top (y := (0 : Int32)) (by decide) ?_
      refine lv_iadd hx hb md_Mo_pulse_184 ?_
      refine fw_top (y := (0 : Int32)) (by decide) ?_
      refine fw_co (va_runV (As := [.int (0 : Int32)]) (rest := [.int (1 : Int32), .int (1 : Int32), .ref (ad 9 0)]) ⟨hx, hb, hml, hown, hts⟩ (mc_Mo_insAt l hD v hI (0 : Int32) (fw_inc (by decide))) (mw_Mo_insAt hts L_Mo_263 ⟨Nat.le_of_ble_eq_true rfl, Nat.le_of_ble_eq_true rfl⟩) (fw_preV hN hK hP (mm_0 (by decide)) (mk_0 0) rfl) rfl rfl hl.1 rfl (lv_room (Nat.le_of_ble_eq_true rfl)) md_Mo_pulse_185 ⟨Nat.le_of_ble_eq_true rfl, Nat.le_of_ble_eq_true rfl⟩) hS (fun r230 H locs er230 hP hS => ?_)
      refine lv_icmp_ge (tgt := 205) hx hb md_Mo_pulse_188 (by decide) (fun c_231 => ?_) (fun c_231 => ?_)
      · exact J6 v (r13) _ _ _ (by rw [hj]; subst er13 er230; simp only [mf_Mo_pulse_0_j5, if_neg c_14, if_pos c_231]) zr13  hI hP hS (lv_sub hl [1, 2, 3, 4, 0] rfl)
      · refine lv_aload_n hx hb md_Mo_pulse_191 rfl (lv_at hl 1 rfl) ?_
        refine fw_getr hx hb hts i_Mo hown hK hP (mm_0 (by decide)) (mk_0 0) rfl 44 (by decide) (hts _ L_Mo_140) (fun _ h9 => h9) rfl md_Mo_pulse_192 ?_
        refine lv_bipush (v := (6 : Int32)) hx hb md_Mo_pulse_195 (by decide) ?_
        refine lv_iload_n hx hb md_Mo_pulse_197 rfl (lv_at hl 2 rfl) ?_
        refine lv_imul hx hb md_Mo_pulse_198 ?_
        refine fw_top (y := (0 : Int32)) (by decide) ?_
        refine lv_iload_n hx hb md_Mo_pulse_199 rfl (lv_at hl 4 rfl) ?_
        refine lv_iadd hx hb md_Mo_pulse_200 ?_
        refine fw_top (y := (1 : Int32)) (by decide) ?_
        refine fw_iald hx hb hK hP (mm_45 (by decide)) (mk_45 0) 0 rfl (j := 1) (by decide) (fw_inc (by decide)) md_Mo_pulse_201 ?_
        refine lv_goto (tgt := 206) hx hb md_Mo_pulse_202 (by decide) ?_
        exact J126 v (r13) ((v 45 0 1)) _ _ _ (by rw [hj]; subst er13 er230; simp only [mf_Mo_pulse_0_j5, if_neg c_14, if_neg c_231]) zr13  hI hP hS (lv_sub hl [1, 2, 3, 4, 0] rfl)
  have J4 : ∀ (v : fw_V)  (H : Heap) (locs : List Loc) (ls : Array Slot), mf_Mo_pulse_0 v0 = mf_Mo_pulse_0_j4 v → mI b v → va_P D vcls (fw_w mCL cA mkd ad v) H → va_S (fw_A mCL ad) s.heap H locs → lv_has ls 5 [(0, .ref (ad 0 0)), (1, .int (0 : Int32)), (3, .int (0 : Int32))] → W p l e (headSpec (Cond.code my_Mo_pulse mb_Mo_pulse 5 none :: vTB) mrm_Mo_pulse).room s m ([.ref (ad 0 0), .int (0 : Int32)] : List Value).toArray below meth c H locs 0 0 (MQ below (fw_Qv D vcls mCL cA mkd ad (mI b) (mf_Mo_pulse_0 v0)) ([.ref (ad 0 0), .int (0 : Int32)] : List Value).toArray s 0 0 (fw_A mCL ad)) (F0 m 222 ls [.int (0 : Int32), .int (0 : Int32)]) := by
    intro v  H locs ls hj  hI hP hS hl
    clear J25 J24 J27 J26 J23 J22 J28 J21 J20 J33 J34 J32 J31 J35 J30 J29 J19 J18 J36 J17 J16 J46 J45 J48 J47 J44 J43 J49 J42 J41 J54 J55 J53 J52 J56 J51 J50 J40 J39 J57 J38 J37 J15 J14 J58 J13 J12 J63 J64 J62 J61 J65 J60 J59 J11 J10 J66 J9 J8 J84 J83 J86 J85 J82 J81 J87 J80 J79 J92 J93 J91 J90 J94 J89 J88 J78 J77 J95 J76 J75 J105 J104 J107 J106 J103 J102 J108 J101 J100 J113 J114 J112 J111 J115 J110 J109 J99 J98 J116 J97 J96 J74 J73 J117 J72 J71 J122 J123 J121 J120 J124 J119 J118 J70 J69 J125 J68 J67 J7 J6 J126
    refine lv_ior hx hb md_Mo_pulse_222 ?_
    refine fw_top (y := (0 : Int32)) (by decide) ?_
    refine lv_istore_n (lv' := [(2, .int (0 : Int32)), (0, .ref (ad 0 0)), (1, .int (0 : Int32)), (3, .int (0 : Int32))]) hx hb md_Mo_pulse_223 rfl hl (by decide) rfl (fun ls hl => ?_)
    refine lv_iinc (v := (1 : Int32)) (lv' := [(3, .int (1 : Int32)), (2, .int (0 : Int32)), (0, .ref (ad 0 0)), (1, .int (0 : Int32))]) hx hb md_Mo_pulse_224 hl (k := 3) rfl (by decide) (by decide) rfl (fun ls hl => ?_)
    refine lv_goto (tgt := 148) hx hb md_Mo_pulse_227 (by decide) ?_
    exact J5 v  _ _ _ (by rw [hj]; simp only [mf_Mo_pulse_0_j4])   hI hP hS (lv_sub hl [2, 3, 1, 0] rfl)
  have J131 : ∀ (v : fw_V)  (H : Heap) (locs : List Loc) (ls : Array Slot), mf_Mo_pulse_0 v0 = mf_Mo_pulse_0_j131 v → mI b v → va_P D vcls (fw_w mCL cA mkd ad v) H → va_S (fw_A mCL ad) s.heap H locs → lv_has ls 5 [(0, .ref (ad 0 0)), (1, .int (0 : Int32)), (3, .int (1 : Int32))] → W p l e (headSpec (Cond.code my_Mo_pulse mb_Mo_pulse 5 none :: vTB) mrm_Mo_pulse).room s m ([.ref (ad 0 0), .int (0 : Int32)] : List Value).toArray below meth c H locs 0 0 (MQ below (fw_Qv D vcls mCL cA mkd ad (mI b) (mf_Mo_pulse_0 v0)) ([.ref (ad 0 0), .int (0 : Int32)] : List Value).toArray s 0 0 (fw_A mCL ad)) (F0 m 222 ls [.int (0 : Int32), .int (1 : Int32)]) := by
    intro v  H locs ls hj  hI hP hS hl
    clear J25 J24 J27 J26 J23 J22 J28 J21 J20 J33 J34 J32 J31 J35 J30 J29 J19 J18 J36 J17 J16 J46 J45 J48 J47 J44 J43 J49 J42 J41 J54 J55 J53 J52 J56 J51 J50 J40 J39 J57 J38 J37 J15 J14 J58 J13 J12 J63 J64 J62 J61 J65 J60 J59 J11 J10 J66 J9 J8 J84 J83 J86 J85 J82 J81 J87 J80 J79 J92 J93 J91 J90 J94 J89 J88 J78 J77 J95 J76 J75 J105 J104 J107 J106 J103 J102 J108 J101 J100 J113 J114 J112 J111 J115 J110 J109 J99 J98 J116 J97 J96 J74 J73 J117 J72 J71 J122 J123 J121 J120 J124 J119 J118 J70 J69 J125 J67 J7 J6 J126 J5 J4
    refine lv_ior hx hb md_Mo_pulse_222 ?_
    refine fw_top (y := (1 : Int32)) (by decide) ?_
    refine lv_istore_n (lv' := [(2, .int (1 : Int32)), (0, .ref (ad 0 0)), (1, .int (0 : Int32)), (3, .int (1 : Int32))]) hx hb md_Mo_pulse_223 rfl hl (by decide) rfl (fun ls hl => ?_)
    refine lv_iinc (v := (2 : Int32)) (lv' := [(3, .int (2 : Int32)), (2, .int (1 : Int32)), (0, .ref (ad 0 0)), (1, .int (0 : Int32))]) hx hb md_Mo_pulse_224 hl (k := 3) rfl (by decide) (by decide) rfl (fun ls hl => ?_)
    refine lv_goto (tgt := 148) hx hb md_Mo_pulse_227 (by decide) ?_
    exact J68 v  _ _ _ (by rw [hj]; simp only [mf_Mo_pulse_0_j131])   hI hP hS (lv_sub hl [2, 3, 1, 0] rfl)
  have J132 : ∀ (v : fw_V)  (H : Heap) (locs : List Loc) (ls : Array Slot), mf_Mo_pulse_0 v0 = mf_Mo_pulse_0_j132 v → mI b v → va_P D vcls (fw_w mCL cA mkd ad v) H → va_S (fw_A mCL ad) s.heap H locs → lv_has ls 5 [(0, .ref (ad 0 0)), (1, .int (0 : Int32)), (3, .int (1 : Int32))] → W p l e (headSpec (Cond.code my_Mo_pulse mb_Mo_pulse 5 none :: vTB) mrm_Mo_pulse).room s m ([.ref (ad 0 0), .int (0 : Int32)] : List Value).toArray below meth c H locs 0 0 (MQ below (fw_Qv D vcls mCL cA mkd ad (mI b) (mf_Mo_pulse_0 v0)) ([.ref (ad 0 0), .int (0 : Int32)] : List Value).toArray s 0 0 (fw_A mCL ad)) (F0 m 222 ls [.int (1 : Int32), .int (1 : Int32)]) := by
    intro v  H locs ls hj  hI hP hS hl
    clear J25 J24 J27 J26 J23 J22 J28 J21 J20 J33 J34 J32 J31 J35 J30 J29 J19 J18 J36 J17 J16 J46 J45 J48 J47 J44 J43 J49 J42 J41 J54 J55 J53 J52 J56 J51 J50 J40 J39 J57 J38 J37 J15 J14 J58 J13 J12 J63 J64 J62 J61 J65 J60 J59 J11 J10 J66 J9 J8 J84 J83 J86 J85 J82 J81 J87 J80 J79 J92 J93 J91 J90 J94 J89 J88 J78 J77 J95 J76 J75 J105 J104 J107 J106 J103 J102 J108 J101 J100 J113 J114 J112 J111 J115 J110 J109 J99 J98 J116 J97 J96 J74 J73 J117 J72 J71 J122 J123 J121 J120 J124 J119 J118 J70 J69 J125 J67 J7 J6 J126 J5 J4 J131
    refine lv_ior hx hb md_Mo_pulse_222 ?_
    refine fw_top (y := (1 : Int32)) (by decide) ?_
    refine lv_istore_n (lv' := [(2, .int (1 : Int32)), (0, .ref (ad 0 0)), (1, .int (0 : Int32)), (3, .int (1 : Int32))]) hx hb md_Mo_pulse_223 rfl hl (by decide) rfl (fun ls hl => ?_)
    refine lv_iinc (v := (2 : Int32)) (lv' := [(3, .int (2 : Int32)), (2, .int (1 : Int32)), (0, .ref (ad 0 0)), (1, .int (0 : Int32))]) hx hb md_Mo_pulse_224 hl (k := 3) rfl (by decide) (by decide) rfl (fun ls hl => ?_)
    refine lv_goto (tgt := 148) hx hb md_Mo_pulse_227 (by decide) ?_
    exact J68 v  _ _ _ (by rw [hj]; simp only [mf_Mo_pulse_0_j132])   hI hP hS (lv_sub hl [2, 3, 1, 0] rfl)
  have J130 : ∀ (v : fw_V) (x4 : Int32) (H : Heap) (locs : List Loc) (ls : Array Slot), mf_Mo_pulse_0 v0 = mf_Mo_pulse_0_j130 v x4 → (x4 = 0 ∨ x4 = 1) → mI b v → va_P D vcls (fw_w mCL cA mkd ad v) H → va_S (fw_A mCL ad) s.heap H locs → lv_has ls 5 [(0, .ref (ad 0 0)), (1, .int (0 : Int32)), (2, .int (1 : Int32)), (3, .int (1 : Int32)), (4, .int x4)] → W p l e (headSpec (Cond.code my_Mo_pulse mb_Mo_pulse 5 none :: vTB) mrm_Mo_pulse).room s m ([.ref (ad 0 0), .int (0 : Int32)] : List Value).toArray below meth c H locs 0 0 (MQ below (fw_Qv D vcls mCL cA mkd ad (mI b) (mf_Mo_pulse_0 v0)) ([.ref (ad 0 0), .int (0 : Int32)] : List Value).toArray s 0 0 (fw_A mCL ad)) (F0 m 206 ls [.int (0 : Int32), .int (1 : Int32), .ref (ad 9 0)]) := by
    intro v x4 H locs ls hj hc0 hI hP hS hl
    clear J25 J24 J27 J26 J23 J22 J28 J21 J20 J33 J34 J32 J31 J35 J30 J29 J19 J18 J36 J17 J16 J46 J45 J48 J47 J44 J43 J49 J42 J41 J54 J55 J53 J52 J56 J51 J50 J40 J39 J57 J38 J37 J15 J14 J58 J13 J12 J63 J64 J62 J61 J65 J60 J59 J11 J10 J66 J9 J8 J84 J83 J86 J85 J82 J81 J87 J80 J79 J92 J93 J91 J90 J94 J89 J88 J78 J77 J95 J76 J75 J105 J104 J107 J106 J103 J102 J108 J101 J100 J113 J114 J112 J111 J115 J110 J109 J99 J98 J116 J97 J96 J74 J73 J117 J72 J71 J122 J123 J121 J120 J124 J119 J118 J70 J69 J125 J68 J67 J7 J6 J126 J5 J4
    refine fw_iast hx hb hK hD hP hS (mm_9 (by decide)) (mk_9 0) 0 rfl (j := 1) (by decide) (fw_inc (by decide)) md_Mo_pulse_206 (fun v237 H locs ev237 hP hS => ?_)
    have hI : mI b v237 := by rw [ev237]; exact mI_up hI trivial trivial
    refine lv_iload_n hx hb md_Mo_pulse_207 rfl (lv_at hl 2 rfl) ?_
    refine lv_iload hx hb md_Mo_pulse_208 (lv_at hl 4 rfl) ?_
    refine lv_if_eq (tgt := 221) hx hb md_Mo_pulse_210 (by decide) (fun c_238 => ?_) (fun c_238 => ?_)
    · refine lv_iconst (v := (0 : Int32)) hx hb md_Mo_pulse_221 (by decide) ?_
      exact J131 v237  _ _ _ (by rw [hj]; subst ev237; simp only [mf_Mo_pulse_0_j130, if_pos c_238])   hI hP hS (lv_sub hl [0, 1, 3] rfl)
    · refine lv_iconst (v := (1 : Int32)) hx hb md_Mo_pulse_213 (by decide) ?_
      refine lv_iload_n hx hb md_Mo_pulse_214 rfl (lv_at hl 3 rfl) ?_
      refine lv_iconst (v := (2 : Int32)) hx hb md_Mo_pulse_215 (by decide) ?_
      refine lv_idiv hx hb md_Mo_pulse_216 (by decide) ?_
      refine fw_top (y := (0 : Int32)) (by decide) ?_
      refine lv_ishl hx hb md_Mo_pulse_217 ?_
      refine fw_top (y := (1 : Int32)) (by decide) ?_
      refine lv_goto (tgt := 222) hx hb md_Mo_pulse_218 (by decide) ?_
      exact J132 v237  _ _ _ (by rw [hj]; subst ev237; simp only [mf_Mo_pulse_0_j130, if_neg c_238])   hI hP hS (lv_sub hl [0, 1, 3] rfl)
  have J129 : ∀ (v : fw_V) (x4 : Int32) (H : Heap) (locs : List Loc) (ls : Array Slot), mf_Mo_pulse_0 v0 = mf_Mo_pulse_0_j129 v x4 → (x4 = 0 ∨ x4 = 1) → mI b v → va_P D vcls (fw_w mCL cA mkd ad v) H → va_S (fw_A mCL ad) s.heap H locs → lv_has ls 5 [(0, .ref (ad 0 0)), (1, .int (0 : Int32)), (2, .int (1 : Int32)), (3, .int (1 : Int32)), (4, .int x4)] → W p l e (headSpec (Cond.code my_Mo_pulse mb_Mo_pulse 5 none :: vTB) mrm_Mo_pulse).room s m ([.ref (ad 0 0), .int (0 : Int32)] : List Value).toArray below meth c H locs 0 0 (MQ below (fw_Qv D vcls mCL cA mkd ad (mI b) (mf_Mo_pulse_0 v0)) ([.ref (ad 0 0), .int (0 : Int32)] : List Value).toArray s 0 0 (fw_A mCL ad)) (F0 m 205 ls [.int (1 : Int32), .ref (ad 9 0)]) := by
    intro v x4 H locs ls hj hc0 hI hP hS hl
    clear J25 J24 J27 J26 J23 J22 J28 J21 J20 J33 J34 J32 J31 J35 J30 J29 J19 J18 J36 J17 J16 J46 J45 J48 J47 J44 J43 J49 J42 J41 J54 J55 J53 J52 J56 J51 J50 J40 J39 J57 J38 J37 J15 J14 J58 J13 J12 J63 J64 J62 J61 J65 J60 J59 J11 J10 J66 J9 J8 J84 J83 J86 J85 J82 J81 J87 J80 J79 J92 J93 J91 J90 J94 J89 J88 J78 J77 J95 J76 J75 J105 J104 J107 J106 J103 J102 J108 J101 J100 J113 J114 J112 J111 J115 J110 J109 J99 J98 J116 J97 J96 J74 J73 J117 J72 J71 J122 J123 J121 J120 J124 J119 J118 J70 J69 J125 J68 J67 J7 J6 J126 J5 J4 J131 J132
    refine lv_iconst (v := (0 : Int32)) hx hb md_Mo_pulse_205 (by decide) ?_
    exact J130 v (x4) _ _ _ (by rw [hj]; simp only [mf_Mo_pulse_0_j129]) hc0  hI hP hS (lv_sub hl [0, 1, 2, 3, 4] rfl)
  have J133 : ∀ (v : fw_V) (x4 : Int32) (x90 : Int32) (H : Heap) (locs : List Loc) (ls : Array Slot), mf_Mo_pulse_0 v0 = mf_Mo_pulse_0_j133 v x4 x90 → (x4 = 0 ∨ x4 = 1) → mI b v → va_P D vcls (fw_w mCL cA mkd ad v) H → va_S (fw_A mCL ad) s.heap H locs → lv_has ls 5 [(0, .ref (ad 0 0)), (1, .int (0 : Int32)), (2, .int (1 : Int32)), (3, .int (1 : Int32)), (4, .int x4)] → W p l e (headSpec (Cond.code my_Mo_pulse mb_Mo_pulse 5 none :: vTB) mrm_Mo_pulse).room s m ([.ref (ad 0 0), .int (0 : Int32)] : List Value).toArray below meth c H locs 0 0 (MQ below (fw_Qv D vcls mCL cA mkd ad (mI b) (mf_Mo_pulse_0 v0)) ([.ref (ad 0 0), .int (0 : Int32)] : List Value).toArray s 0 0 (fw_A mCL ad)) (F0 m 206 ls [.int x90, .int (1 : Int32), .ref (ad 9 0)]) := by
    intro v x4 x90 H locs ls hj hc0 hI hP hS hl
    clear J25 J24 J27 J26 J23 J22 J28 J21 J20 J33 J34 J32 J31 J35 J30 J29 J19 J18 J36 J17 J16 J46 J45 J48 J47 J44 J43 J49 J42 J41 J54 J55 J53 J52 J56 J51 J50 J40 J39 J57 J38 J37 J15 J14 J58 J13 J12 J63 J64 J62 J61 J65 J60 J59 J11 J10 J66 J9 J8 J84 J83 J86 J85 J82 J81 J87 J80 J79 J92 J93 J91 J90 J94 J89 J88 J78 J77 J95 J76 J75 J105 J104 J107 J106 J103 J102 J108 J101 J100 J113 J114 J112 J111 J115 J110 J109 J99 J98 J116 J97 J96 J74 J73 J117 J72 J71 J122 J123 J121 J120 J124 J119 J118 J70 J69 J125 J68 J67 J7 J6 J126 J5 J4 J130 J129
    refine fw_iast hx hb hK hD hP hS (mm_9 (by decide)) (mk_9 0) 0 rfl (j := 1) (by decide) (fw_inc (by decide)) md_Mo_pulse_206 (fun v242 H locs ev242 hP hS => ?_)
    have hI : mI b v242 := by rw [ev242]; exact mI_up hI trivial trivial
    refine lv_iload_n hx hb md_Mo_pulse_207 rfl (lv_at hl 2 rfl) ?_
    refine lv_iload hx hb md_Mo_pulse_208 (lv_at hl 4 rfl) ?_
    refine lv_if_eq (tgt := 221) hx hb md_Mo_pulse_210 (by decide) (fun c_243 => ?_) (fun c_243 => ?_)
    · refine lv_iconst (v := (0 : Int32)) hx hb md_Mo_pulse_221 (by decide) ?_
      exact J131 v242  _ _ _ (by rw [hj]; subst ev242; simp only [mf_Mo_pulse_0_j133, if_pos c_243])   hI hP hS (lv_sub hl [0, 1, 3] rfl)
    · refine lv_iconst (v := (1 : Int32)) hx hb md_Mo_pulse_213 (by decide) ?_
      refine lv_iload_n hx hb md_Mo_pulse_214 rfl (lv_at hl 3 rfl) ?_
      refine lv_iconst (v := (2 : Int32)) hx hb md_Mo_pulse_215 (by decide) ?_
      refine lv_idiv hx hb md_Mo_pulse_216 (by decide) ?_
      refine fw_top (y := (0 : Int32)) (by decide) ?_
      refine lv_ishl hx hb md_Mo_pulse_217 ?_
      refine fw_top (y := (1 : Int32)) (by decide) ?_
      refine lv_goto (tgt := 222) hx hb md_Mo_pulse_218 (by decide) ?_
      exact J132 v242  _ _ _ (by rw [hj]; subst ev242; simp only [mf_Mo_pulse_0_j133, if_neg c_243])   hI hP hS (lv_sub hl [0, 1, 3] rfl)
  have J128 : ∀ (v : fw_V)  (H : Heap) (locs : List Loc) (ls : Array Slot), mf_Mo_pulse_0 v0 = mf_Mo_pulse_0_j128 v → mI b v → va_P D vcls (fw_w mCL cA mkd ad v) H → va_S (fw_A mCL ad) s.heap H locs → lv_has ls 5 [(0, .ref (ad 0 0)), (1, .int (0 : Int32)), (2, .int (1 : Int32)), (3, .int (1 : Int32))] → W p l e (headSpec (Cond.code my_Mo_pulse mb_Mo_pulse 5 none :: vTB) mrm_Mo_pulse).room s m ([.ref (ad 0 0), .int (0 : Int32)] : List Value).toArray below meth c H locs 0 0 (MQ below (fw_Qv D vcls mCL cA mkd ad (mI b) (mf_Mo_pulse_0 v0)) ([.ref (ad 0 0), .int (0 : Int32)] : List Value).toArray s 0 0 (fw_A mCL ad)) (F0 m 148 ls []) := by
    intro v  H locs ls hj  hI hP hS hl
    clear J25 J24 J27 J26 J23 J22 J28 J21 J20 J33 J34 J32 J31 J35 J30 J29 J19 J18 J36 J17 J16 J46 J45 J48 J47 J44 J43 J49 J42 J41 J54 J55 J53 J52 J56 J51 J50 J40 J39 J57 J38 J37 J15 J14 J58 J13 J12 J63 J64 J62 J61 J65 J60 J59 J11 J10 J66 J9 J8 J84 J83 J86 J85 J82 J81 J87 J80 J79 J92 J93 J91 J90 J94 J89 J88 J78 J77 J95 J76 J75 J105 J104 J107 J106 J103 J102 J108 J101 J100 J113 J114 J112 J111 J115 J110 J109 J99 J98 J116 J97 J96 J74 J73 J117 J72 J71 J122 J123 J121 J120 J124 J119 J118 J70 J69 J125 J68 J67 J7 J6 J126 J5 J4 J131 J132 J130
    refine lv_iload_n hx hb md_Mo_pulse_148 rfl (lv_at hl 3 rfl) ?_
    refine lv_bipush (v := (6 : Int32)) hx hb md_Mo_pulse_149 (by decide) ?_
    refine lv_icmp_ge (tgt := 230) hx hb md_Mo_pulse_151 (by decide) (fun c_234 => absurd c_234 (by decide)) (fun _ => ?_)
    refine lv_aload_n hx hb md_Mo_pulse_154 rfl (lv_at hl 0 rfl) ?_
    refine lv_iload_n hx hb md_Mo_pulse_155 rfl (lv_at hl 1 rfl) ?_
    refine lv_iload_n hx hb md_Mo_pulse_156 rfl (lv_at hl 3 rfl) ?_
    refine lv_iconst (v := (2 : Int32)) hx hb md_Mo_pulse_157 (by decide) ?_
    refine lv_idiv hx hb md_Mo_pulse_158 (by decide) ?_
    refine fw_top (y := (0 : Int32)) (by decide) ?_
    refine fw_cb (va_runV (As := [.int (0 : Int32), .int (0 : Int32)]) (rest := []) ⟨hx, hb, hml, hown, hts⟩ (mc_Mo_isGood_0 l hD v hI (0 : Int32) (fw_inc (by decide))) (mw_Mo_isGood hts L_Mo_250 ⟨Nat.le_of_ble_eq_true rfl, Nat.le_of_ble_eq_true rfl⟩) (fw_preV hN hK hP (mm_0 (by decide)) (mk_0 0) rfl) rfl rfl hl.1 rfl (lv_room (Nat.le_of_ble_eq_true rfl)) md_Mo_pulse_159 ⟨Nat.le_of_ble_eq_true rfl, Nat.le_of_ble_eq_true rfl⟩) hS (fun r235 H locs zr235 er235 hP hS => ?_)
    refine lv_istore (lv' := [(4, .int r235), (0, .ref (ad 0 0)), (1, .int (0 : Int32)), (2, .int (1 : Int32)), (3, .int (1 : Int32))]) hx hb md_Mo_pulse_162 hl (by decide) rfl (fun ls hl => ?_)
    refine lv_aload_n hx hb md_Mo_pulse_164 rfl (lv_at hl 1 rfl) ?_
    refine fw_getr hx hb hts i_Mo hown hK hP (mm_0 (by decide)) (mk_0 0) rfl 8 (by decide) (hts _ L_Mo_35) (fun _ h9 => h9) rfl md_Mo_pulse_165 ?_
    refine lv_iload_n hx hb md_Mo_pulse_168 rfl (lv_at hl 4 rfl) ?_
    refine lv_iload hx hb md_Mo_pulse_169 (lv_at hl 0 rfl) ?_
    refine lv_if_eq (tgt := 205) hx hb md_Mo_pulse_171 (by decide) (fun c_236 => ?_) (fun c_236 => ?_)
    · exact J129 v (r235) _ _ _ (by rw [hj]; subst er235; simp only [mf_Mo_pulse_0_j128, if_pos c_236]) zr235  hI hP hS (lv_sub hl [1, 2, 3, 4, 0] rfl)
    · have h_239 : vp_in (v 43 0 0) 8 := mp_isGood_0_0 er235 c_236 (hI.1 43 0 0)
      refine lv_iload_n hx hb md_Mo_pulse_174 rfl (lv_at hl 4 rfl) ?_
      refine lv_iconst (v := (2 : Int32)) hx hb md_Mo_pulse_175 (by decide) ?_
      refine lv_irem hx hb md_Mo_pulse_176 (by decide) ?_
      refine fw_top (y := (1 : Int32)) (by decide) ?_
      refine lv_aload_n hx hb md_Mo_pulse_177 rfl (lv_at hl 1 rfl) ?_
      refine lv_iconst (v := (3 : Int32)) hx hb md_Mo_pulse_178 (by decide) ?_
      refine lv_iload_n hx hb md_Mo_pulse_179 rfl (lv_at hl 2 rfl) ?_
      refine lv_imul hx hb md_Mo_pulse_180 ?_
      refine fw_top (y := (0 : Int32)) (by decide) ?_
      refine lv_iload_n hx hb md_Mo_pulse_181 rfl (lv_at hl 4 rfl) ?_
      refine lv_iconst (v := (2 : Int32)) hx hb md_Mo_pulse_182 (by decide) ?_
      refine lv_idiv hx hb md_Mo_pulse_183 (by decide) ?_
      refine fw_top (y := (0 : Int32)) (by decide) ?_
      refine lv_iadd hx hb md_Mo_pulse_184 ?_
      refine fw_top (y := (0 : Int32)) (by decide) ?_
      refine fw_co (va_runV (As := [.int (0 : Int32)]) (rest := [.int (1 : Int32), .int (1 : Int32), .ref (ad 9 0)]) ⟨hx, hb, hml, hown, hts⟩ (mc_Mo_insAt l hD v hI (0 : Int32) (fw_inc (by decide))) (mw_Mo_insAt hts L_Mo_263 ⟨Nat.le_of_ble_eq_true rfl, Nat.le_of_ble_eq_true rfl⟩) (fw_preV hN hK hP (mm_0 (by decide)) (mk_0 0) rfl) rfl rfl hl.1 rfl (lv_room (Nat.le_of_ble_eq_true rfl)) md_Mo_pulse_185 ⟨Nat.le_of_ble_eq_true rfl, Nat.le_of_ble_eq_true rfl⟩) hS (fun r240 H locs er240 hP hS => ?_)
      refine lv_icmp_ge (tgt := 205) hx hb md_Mo_pulse_188 (by decide) (fun c_241 => ?_) (fun c_241 => ?_)
      · exact J129 v (r235) _ _ _ (by rw [hj]; subst er235 er240; simp only [mf_Mo_pulse_0_j128, if_neg c_236, if_pos c_241]) zr235  hI hP hS (lv_sub hl [1, 2, 3, 4, 0] rfl)
      · refine lv_aload_n hx hb md_Mo_pulse_191 rfl (lv_at hl 1 rfl) ?_
        refine fw_getr hx hb hts i_Mo hown hK hP (mm_0 (by decide)) (mk_0 0) rfl 44 (by decide) (hts _ L_Mo_140) (fun _ h9 => h9) rfl md_Mo_pulse_192 ?_
        refine lv_bipush (v := (6 : Int32)) hx hb md_Mo_pulse_195 (by decide) ?_
        refine lv_iload_n hx hb md_Mo_pulse_197 rfl (lv_at hl 2 rfl) ?_
        refine lv_imul hx hb md_Mo_pulse_198 ?_
        refine fw_top (y := (0 : Int32)) (by decide) ?_
        refine lv_iload_n hx hb md_Mo_pulse_199 rfl (lv_at hl 4 rfl) ?_
        refine lv_iadd hx hb md_Mo_pulse_200 ?_
        refine fw_top (y := (1 : Int32)) (by decide) ?_
        refine fw_iald hx hb hK hP (mm_45 (by decide)) (mk_45 0) 0 rfl (j := 1) (by decide) (fw_inc (by decide)) md_Mo_pulse_201 ?_
        refine lv_goto (tgt := 206) hx hb md_Mo_pulse_202 (by decide) ?_
        exact J133 v (r235) ((v 45 0 1)) _ _ _ (by rw [hj]; subst er235 er240; simp only [mf_Mo_pulse_0_j128, if_neg c_236, if_neg c_241]) zr235  hI hP hS (lv_sub hl [1, 2, 3, 4, 0] rfl)
  have J127 : ∀ (v : fw_V)  (H : Heap) (locs : List Loc) (ls : Array Slot), mf_Mo_pulse_0 v0 = mf_Mo_pulse_0_j127 v → mI b v → va_P D vcls (fw_w mCL cA mkd ad v) H → va_S (fw_A mCL ad) s.heap H locs → lv_has ls 5 [(0, .ref (ad 0 0)), (1, .int (0 : Int32)), (3, .int (0 : Int32))] → W p l e (headSpec (Cond.code my_Mo_pulse mb_Mo_pulse 5 none :: vTB) mrm_Mo_pulse).room s m ([.ref (ad 0 0), .int (0 : Int32)] : List Value).toArray below meth c H locs 0 0 (MQ below (fw_Qv D vcls mCL cA mkd ad (mI b) (mf_Mo_pulse_0 v0)) ([.ref (ad 0 0), .int (0 : Int32)] : List Value).toArray s 0 0 (fw_A mCL ad)) (F0 m 222 ls [.int (1 : Int32), .int (0 : Int32)]) := by
    intro v  H locs ls hj  hI hP hS hl
    clear J25 J24 J27 J26 J23 J22 J28 J21 J20 J33 J34 J32 J31 J35 J30 J29 J19 J18 J36 J17 J16 J46 J45 J48 J47 J44 J43 J49 J42 J41 J54 J55 J53 J52 J56 J51 J50 J40 J39 J57 J38 J37 J15 J14 J58 J13 J12 J63 J64 J62 J61 J65 J60 J59 J11 J10 J66 J9 J8 J84 J83 J86 J85 J82 J81 J87 J80 J79 J92 J93 J91 J90 J94 J89 J88 J78 J77 J95 J76 J75 J105 J104 J107 J106 J103 J102 J108 J101 J100 J113 J114 J112 J111 J115 J110 J109 J99 J98 J116 J97 J96 J74 J73 J117 J72 J71 J122 J123 J121 J120 J124 J119 J118 J70 J69 J125 J68 J67 J7 J6 J126 J5 J4 J131 J132 J130 J129 J133
    refine lv_ior hx hb md_Mo_pulse_222 ?_
    refine fw_top (y := (1 : Int32)) (by decide) ?_
    refine lv_istore_n (lv' := [(2, .int (1 : Int32)), (0, .ref (ad 0 0)), (1, .int (0 : Int32)), (3, .int (0 : Int32))]) hx hb md_Mo_pulse_223 rfl hl (by decide) rfl (fun ls hl => ?_)
    refine lv_iinc (v := (1 : Int32)) (lv' := [(3, .int (1 : Int32)), (2, .int (1 : Int32)), (0, .ref (ad 0 0)), (1, .int (0 : Int32))]) hx hb md_Mo_pulse_224 hl (k := 3) rfl (by decide) (by decide) rfl (fun ls hl => ?_)
    refine lv_goto (tgt := 148) hx hb md_Mo_pulse_227 (by decide) ?_
    exact J128 v  _ _ _ (by rw [hj]; simp only [mf_Mo_pulse_0_j127])   hI hP hS (lv_sub hl [2, 3, 1, 0] rfl)
  have J3 : ∀ (v : fw_V) (x4 : Int32) (H : Heap) (locs : List Loc) (ls : Array Slot), mf_Mo_pulse_0 v0 = mf_Mo_pulse_0_j3 v x4 → (x4 = 0 ∨ x4 = 1) → mI b v → va_P D vcls (fw_w mCL cA mkd ad v) H → va_S (fw_A mCL ad) s.heap H locs → lv_has ls 5 [(0, .ref (ad 0 0)), (1, .int (0 : Int32)), (2, .int (0 : Int32)), (3, .int (0 : Int32)), (4, .int x4)] → W p l e (headSpec (Cond.code my_Mo_pulse mb_Mo_pulse 5 none :: vTB) mrm_Mo_pulse).room s m ([.ref (ad 0 0), .int (0 : Int32)] : List Value).toArray below meth c H locs 0 0 (MQ below (fw_Qv D vcls mCL cA mkd ad (mI b) (mf_Mo_pulse_0 v0)) ([.ref (ad 0 0), .int (0 : Int32)] : List Value).toArray s 0 0 (fw_A mCL ad)) (F0 m 206 ls [.int (0 : Int32), .int (0 : Int32), .ref (ad 9 0)]) := by
    intro v x4 H locs ls hj hc0 hI hP hS hl
    clear J25 J24 J27 J26 J23 J22 J28 J21 J20 J33 J34 J32 J31 J35 J30 J29 J19 J18 J36 J17 J16 J46 J45 J48 J47 J44 J43 J49 J42 J41 J54 J55 J53 J52 J56 J51 J50 J40 J39 J57 J38 J37 J15 J14 J58 J13 J12 J63 J64 J62 J61 J65 J60 J59 J11 J10 J66 J9 J8 J84 J83 J86 J85 J82 J81 J87 J80 J79 J92 J93 J91 J90 J94 J89 J88 J78 J77 J95 J76 J75 J105 J104 J107 J106 J103 J102 J108 J101 J100 J113 J114 J112 J111 J115 J110 J109 J99 J98 J116 J97 J96 J74 J73 J117 J72 J71 J122 J123 J121 J120 J124 J119 J118 J70 J69 J125 J68 J67 J7 J6 J126 J5 J131 J132 J130 J129 J133 J128
    refine fw_iast hx hb hK hD hP hS (mm_9 (by decide)) (mk_9 0) 0 rfl (j := 0) (by decide) (fw_inc (by decide)) md_Mo_pulse_206 (fun v10 H locs ev10 hP hS => ?_)
    have hI : mI b v10 := by rw [ev10]; exact mI_up hI trivial trivial
    refine lv_iload_n hx hb md_Mo_pulse_207 rfl (lv_at hl 2 rfl) ?_
    refine lv_iload hx hb md_Mo_pulse_208 (lv_at hl 4 rfl) ?_
    refine lv_if_eq (tgt := 221) hx hb md_Mo_pulse_210 (by decide) (fun c_11 => ?_) (fun c_11 => ?_)
    · refine lv_iconst (v := (0 : Int32)) hx hb md_Mo_pulse_221 (by decide) ?_
      exact J4 v10  _ _ _ (by rw [hj]; subst ev10; simp only [mf_Mo_pulse_0_j3, if_pos c_11])   hI hP hS (lv_sub hl [0, 1, 3] rfl)
    · refine lv_iconst (v := (1 : Int32)) hx hb md_Mo_pulse_213 (by decide) ?_
      refine lv_iload_n hx hb md_Mo_pulse_214 rfl (lv_at hl 3 rfl) ?_
      refine lv_iconst (v := (2 : Int32)) hx hb md_Mo_pulse_215 (by decide) ?_
      refine lv_idiv hx hb md_Mo_pulse_216 (by decide) ?_
      refine fw_top (y := (0 : Int32)) (by decide) ?_
      refine lv_ishl hx hb md_Mo_pulse_217 ?_
      refine fw_top (y := (1 : Int32)) (by decide) ?_
      refine lv_goto (tgt := 222) hx hb md_Mo_pulse_218 (by decide) ?_
      exact J127 v10  _ _ _ (by rw [hj]; subst ev10; simp only [mf_Mo_pulse_0_j3, if_neg c_11])   hI hP hS (lv_sub hl [0, 1, 3] rfl)
  have J2 : ∀ (v : fw_V) (x4 : Int32) (H : Heap) (locs : List Loc) (ls : Array Slot), mf_Mo_pulse_0 v0 = mf_Mo_pulse_0_j2 v x4 → (x4 = 0 ∨ x4 = 1) → mI b v → va_P D vcls (fw_w mCL cA mkd ad v) H → va_S (fw_A mCL ad) s.heap H locs → lv_has ls 5 [(0, .ref (ad 0 0)), (1, .int (0 : Int32)), (2, .int (0 : Int32)), (3, .int (0 : Int32)), (4, .int x4)] → W p l e (headSpec (Cond.code my_Mo_pulse mb_Mo_pulse 5 none :: vTB) mrm_Mo_pulse).room s m ([.ref (ad 0 0), .int (0 : Int32)] : List Value).toArray below meth c H locs 0 0 (MQ below (fw_Qv D vcls mCL cA mkd ad (mI b) (mf_Mo_pulse_0 v0)) ([.ref (ad 0 0), .int (0 : Int32)] : List Value).toArray s 0 0 (fw_A mCL ad)) (F0 m 205 ls [.int (0 : Int32), .ref (ad 9 0)]) := by
    intro v x4 H locs ls hj hc0 hI hP hS hl
    clear J25 J24 J27 J26 J23 J22 J28 J21 J20 J33 J34 J32 J31 J35 J30 J29 J19 J18 J36 J17 J16 J46 J45 J48 J47 J44 J43 J49 J42 J41 J54 J55 J53 J52 J56 J51 J50 J40 J39 J57 J38 J37 J15 J14 J58 J13 J12 J63 J64 J62 J61 J65 J60 J59 J11 J10 J66 J9 J8 J84 J83 J86 J85 J82 J81 J87 J80 J79 J92 J93 J91 J90 J94 J89 J88 J78 J77 J95 J76 J75 J105 J104 J107 J106 J103 J102 J108 J101 J100 J113 J114 J112 J111 J115 J110 J109 J99 J98 J116 J97 J96 J74 J73 J117 J72 J71 J122 J123 J121 J120 J124 J119 J118 J70 J69 J125 J68 J67 J7 J6 J126 J5 J4 J131 J132 J130 J129 J133 J128 J127
    refine lv_iconst (v := (0 : Int32)) hx hb md_Mo_pulse_205 (by decide) ?_
    exact J3 v (x4) _ _ _ (by rw [hj]; simp only [mf_Mo_pulse_0_j2]) hc0  hI hP hS (lv_sub hl [0, 1, 2, 3, 4] rfl)
  have J134 : ∀ (v : fw_V) (x4 : Int32) (x90 : Int32) (H : Heap) (locs : List Loc) (ls : Array Slot), mf_Mo_pulse_0 v0 = mf_Mo_pulse_0_j134 v x4 x90 → (x4 = 0 ∨ x4 = 1) → mI b v → va_P D vcls (fw_w mCL cA mkd ad v) H → va_S (fw_A mCL ad) s.heap H locs → lv_has ls 5 [(0, .ref (ad 0 0)), (1, .int (0 : Int32)), (2, .int (0 : Int32)), (3, .int (0 : Int32)), (4, .int x4)] → W p l e (headSpec (Cond.code my_Mo_pulse mb_Mo_pulse 5 none :: vTB) mrm_Mo_pulse).room s m ([.ref (ad 0 0), .int (0 : Int32)] : List Value).toArray below meth c H locs 0 0 (MQ below (fw_Qv D vcls mCL cA mkd ad (mI b) (mf_Mo_pulse_0 v0)) ([.ref (ad 0 0), .int (0 : Int32)] : List Value).toArray s 0 0 (fw_A mCL ad)) (F0 m 206 ls [.int x90, .int (0 : Int32), .ref (ad 9 0)]) := by
    intro v x4 x90 H locs ls hj hc0 hI hP hS hl
    clear J25 J24 J27 J26 J23 J22 J28 J21 J20 J33 J34 J32 J31 J35 J30 J29 J19 J18 J36 J17 J16 J46 J45 J48 J47 J44 J43 J49 J42 J41 J54 J55 J53 J52 J56 J51 J50 J40 J39 J57 J38 J37 J15 J14 J58 J13 J12 J63 J64 J62 J61 J65 J60 J59 J11 J10 J66 J9 J8 J84 J83 J86 J85 J82 J81 J87 J80 J79 J92 J93 J91 J90 J94 J89 J88 J78 J77 J95 J76 J75 J105 J104 J107 J106 J103 J102 J108 J101 J100 J113 J114 J112 J111 J115 J110 J109 J99 J98 J116 J97 J96 J74 J73 J117 J72 J71 J122 J123 J121 J120 J124 J119 J118 J70 J69 J125 J68 J67 J7 J6 J126 J5 J131 J132 J130 J129 J133 J128 J3 J2
    refine fw_iast hx hb hK hD hP hS (mm_9 (by decide)) (mk_9 0) 0 rfl (j := 0) (by decide) (fw_inc (by decide)) md_Mo_pulse_206 (fun v247 H locs ev247 hP hS => ?_)
    have hI : mI b v247 := by rw [ev247]; exact mI_up hI trivial trivial
    refine lv_iload_n hx hb md_Mo_pulse_207 rfl (lv_at hl 2 rfl) ?_
    refine lv_iload hx hb md_Mo_pulse_208 (lv_at hl 4 rfl) ?_
    refine lv_if_eq (tgt := 221) hx hb md_Mo_pulse_210 (by decide) (fun c_248 => ?_) (fun c_248 => ?_)
    · refine lv_iconst (v := (0 : Int32)) hx hb md_Mo_pulse_221 (by decide) ?_
      exact J4 v247  _ _ _ (by rw [hj]; subst ev247; simp only [mf_Mo_pulse_0_j134, if_pos c_248])   hI hP hS (lv_sub hl [0, 1, 3] rfl)
    · refine lv_iconst (v := (1 : Int32)) hx hb md_Mo_pulse_213 (by decide) ?_
      refine lv_iload_n hx hb md_Mo_pulse_214 rfl (lv_at hl 3 rfl) ?_
      refine lv_iconst (v := (2 : Int32)) hx hb md_Mo_pulse_215 (by decide) ?_
      refine lv_idiv hx hb md_Mo_pulse_216 (by decide) ?_
      refine fw_top (y := (0 : Int32)) (by decide) ?_
      refine lv_ishl hx hb md_Mo_pulse_217 ?_
      refine fw_top (y := (1 : Int32)) (by decide) ?_
      refine lv_goto (tgt := 222) hx hb md_Mo_pulse_218 (by decide) ?_
      exact J127 v247  _ _ _ (by rw [hj]; subst ev247; simp only [mf_Mo_pulse_0_j134, if_neg c_248])   hI hP hS (lv_sub hl [0, 1, 3] rfl)
  have J1 : ∀ (v : fw_V)  (H : Heap) (locs : List Loc) (ls : Array Slot), mf_Mo_pulse_0 v0 = mf_Mo_pulse_0_j1 v → mI b v → va_P D vcls (fw_w mCL cA mkd ad v) H → va_S (fw_A mCL ad) s.heap H locs → lv_has ls 5 [(0, .ref (ad 0 0)), (1, .int (0 : Int32)), (2, .int (0 : Int32)), (3, .int (0 : Int32))] → W p l e (headSpec (Cond.code my_Mo_pulse mb_Mo_pulse 5 none :: vTB) mrm_Mo_pulse).room s m ([.ref (ad 0 0), .int (0 : Int32)] : List Value).toArray below meth c H locs 0 0 (MQ below (fw_Qv D vcls mCL cA mkd ad (mI b) (mf_Mo_pulse_0 v0)) ([.ref (ad 0 0), .int (0 : Int32)] : List Value).toArray s 0 0 (fw_A mCL ad)) (F0 m 148 ls []) := by
    intro v  H locs ls hj  hI hP hS hl
    clear J25 J24 J27 J26 J23 J22 J28 J21 J20 J33 J34 J32 J31 J35 J30 J29 J19 J18 J36 J17 J16 J46 J45 J48 J47 J44 J43 J49 J42 J41 J54 J55 J53 J52 J56 J51 J50 J40 J39 J57 J38 J37 J15 J14 J58 J13 J12 J63 J64 J62 J61 J65 J60 J59 J11 J10 J66 J9 J8 J84 J83 J86 J85 J82 J81 J87 J80 J79 J92 J93 J91 J90 J94 J89 J88 J78 J77 J95 J76 J75 J105 J104 J107 J106 J103 J102 J108 J101 J100 J113 J114 J112 J111 J115 J110 J109 J99 J98 J116 J97 J96 J74 J73 J117 J72 J71 J122 J123 J121 J120 J124 J119 J118 J70 J69 J125 J68 J67 J7 J6 J126 J5 J4 J131 J132 J130 J129 J133 J128 J127 J3
    refine lv_iload_n hx hb md_Mo_pulse_148 rfl (lv_at hl 3 rfl) ?_
    refine lv_bipush (v := (6 : Int32)) hx hb md_Mo_pulse_149 (by decide) ?_
    refine lv_icmp_ge (tgt := 230) hx hb md_Mo_pulse_151 (by decide) (fun c_7 => absurd c_7 (by decide)) (fun _ => ?_)
    refine lv_aload_n hx hb md_Mo_pulse_154 rfl (lv_at hl 0 rfl) ?_
    refine lv_iload_n hx hb md_Mo_pulse_155 rfl (lv_at hl 1 rfl) ?_
    refine lv_iload_n hx hb md_Mo_pulse_156 rfl (lv_at hl 3 rfl) ?_
    refine lv_iconst (v := (2 : Int32)) hx hb md_Mo_pulse_157 (by decide) ?_
    refine lv_idiv hx hb md_Mo_pulse_158 (by decide) ?_
    refine fw_top (y := (0 : Int32)) (by decide) ?_
    refine fw_cb (va_runV (As := [.int (0 : Int32), .int (0 : Int32)]) (rest := []) ⟨hx, hb, hml, hown, hts⟩ (mc_Mo_isGood_0 l hD v hI (0 : Int32) (fw_inc (by decide))) (mw_Mo_isGood hts L_Mo_250 ⟨Nat.le_of_ble_eq_true rfl, Nat.le_of_ble_eq_true rfl⟩) (fw_preV hN hK hP (mm_0 (by decide)) (mk_0 0) rfl) rfl rfl hl.1 rfl (lv_room (Nat.le_of_ble_eq_true rfl)) md_Mo_pulse_159 ⟨Nat.le_of_ble_eq_true rfl, Nat.le_of_ble_eq_true rfl⟩) hS (fun r8 H locs zr8 er8 hP hS => ?_)
    refine lv_istore (lv' := [(4, .int r8), (0, .ref (ad 0 0)), (1, .int (0 : Int32)), (2, .int (0 : Int32)), (3, .int (0 : Int32))]) hx hb md_Mo_pulse_162 hl (by decide) rfl (fun ls hl => ?_)
    refine lv_aload_n hx hb md_Mo_pulse_164 rfl (lv_at hl 1 rfl) ?_
    refine fw_getr hx hb hts i_Mo hown hK hP (mm_0 (by decide)) (mk_0 0) rfl 8 (by decide) (hts _ L_Mo_35) (fun _ h9 => h9) rfl md_Mo_pulse_165 ?_
    refine lv_iload_n hx hb md_Mo_pulse_168 rfl (lv_at hl 4 rfl) ?_
    refine lv_iload hx hb md_Mo_pulse_169 (lv_at hl 0 rfl) ?_
    refine lv_if_eq (tgt := 205) hx hb md_Mo_pulse_171 (by decide) (fun c_9 => ?_) (fun c_9 => ?_)
    · exact J2 v (r8) _ _ _ (by rw [hj]; subst er8; simp only [mf_Mo_pulse_0_j1, if_pos c_9]) zr8  hI hP hS (lv_sub hl [1, 2, 3, 4, 0] rfl)
    · have h_244 : vp_in (v 43 0 0) 8 := mp_isGood_0_0 er8 c_9 (hI.1 43 0 0)
      refine lv_iload_n hx hb md_Mo_pulse_174 rfl (lv_at hl 4 rfl) ?_
      refine lv_iconst (v := (2 : Int32)) hx hb md_Mo_pulse_175 (by decide) ?_
      refine lv_irem hx hb md_Mo_pulse_176 (by decide) ?_
      refine fw_top (y := (0 : Int32)) (by decide) ?_
      refine lv_aload_n hx hb md_Mo_pulse_177 rfl (lv_at hl 1 rfl) ?_
      refine lv_iconst (v := (3 : Int32)) hx hb md_Mo_pulse_178 (by decide) ?_
      refine lv_iload_n hx hb md_Mo_pulse_179 rfl (lv_at hl 2 rfl) ?_
      refine lv_imul hx hb md_Mo_pulse_180 ?_
      refine fw_top (y := (0 : Int32)) (by decide) ?_
      refine lv_iload_n hx hb md_Mo_pulse_181 rfl (lv_at hl 4 rfl) ?_
      refine lv_iconst (v := (2 : Int32)) hx hb md_Mo_pulse_182 (by decide) ?_
      refine lv_idiv hx hb md_Mo_pulse_183 (by decide) ?_
      refine fw_top (y := (0 : Int32)) (by decide) ?_
      refine lv_iadd hx hb md_Mo_pulse_184 ?_
      refine fw_top (y := (0 : Int32)) (by decide) ?_
      refine fw_co (va_runV (As := [.int (0 : Int32)]) (rest := [.int (0 : Int32), .int (0 : Int32), .ref (ad 9 0)]) ⟨hx, hb, hml, hown, hts⟩ (mc_Mo_insAt l hD v hI (0 : Int32) (fw_inc (by decide))) (mw_Mo_insAt hts L_Mo_263 ⟨Nat.le_of_ble_eq_true rfl, Nat.le_of_ble_eq_true rfl⟩) (fw_preV hN hK hP (mm_0 (by decide)) (mk_0 0) rfl) rfl rfl hl.1 rfl (lv_room (Nat.le_of_ble_eq_true rfl)) md_Mo_pulse_185 ⟨Nat.le_of_ble_eq_true rfl, Nat.le_of_ble_eq_true rfl⟩) hS (fun r245 H locs er245 hP hS => ?_)
      refine lv_icmp_ge (tgt := 205) hx hb md_Mo_pulse_188 (by decide) (fun c_246 => ?_) (fun c_246 => ?_)
      · exact J2 v (r8) _ _ _ (by rw [hj]; subst er8 er245; simp only [mf_Mo_pulse_0_j1, if_neg c_9, if_pos c_246]) zr8  hI hP hS (lv_sub hl [1, 2, 3, 4, 0] rfl)
      · refine lv_aload_n hx hb md_Mo_pulse_191 rfl (lv_at hl 1 rfl) ?_
        refine fw_getr hx hb hts i_Mo hown hK hP (mm_0 (by decide)) (mk_0 0) rfl 44 (by decide) (hts _ L_Mo_140) (fun _ h9 => h9) rfl md_Mo_pulse_192 ?_
        refine lv_bipush (v := (6 : Int32)) hx hb md_Mo_pulse_195 (by decide) ?_
        refine lv_iload_n hx hb md_Mo_pulse_197 rfl (lv_at hl 2 rfl) ?_
        refine lv_imul hx hb md_Mo_pulse_198 ?_
        refine fw_top (y := (0 : Int32)) (by decide) ?_
        refine lv_iload_n hx hb md_Mo_pulse_199 rfl (lv_at hl 4 rfl) ?_
        refine lv_iadd hx hb md_Mo_pulse_200 ?_
        refine fw_top (y := (0 : Int32)) (by decide) ?_
        refine fw_iald hx hb hK hP (mm_45 (by decide)) (mk_45 0) 0 rfl (j := 0) (by decide) (fw_inc (by decide)) md_Mo_pulse_201 ?_
        refine lv_goto (tgt := 206) hx hb md_Mo_pulse_202 (by decide) ?_
        exact J134 v (r8) ((v 45 0 0)) _ _ _ (by rw [hj]; subst er8 er245; simp only [mf_Mo_pulse_0_j1, if_neg c_9, if_neg c_246]) zr8  hI hP hS (lv_sub hl [1, 2, 3, 4, 0] rfl)
  clear J25 J24 J27 J26 J23 J22 J28 J21 J20 J33 J34 J32 J31 J35 J30 J29 J19 J18 J36 J17 J16 J46 J45 J48 J47 J44 J43 J49 J42 J41 J54 J55 J53 J52 J56 J51 J50 J40 J39 J57 J38 J37 J15 J14 J58 J13 J12 J63 J64 J62 J61 J65 J60 J59 J11 J10 J66 J9 J8 J84 J83 J86 J85 J82 J81 J87 J80 J79 J92 J93 J91 J90 J94 J89 J88 J78 J77 J95 J76 J75 J105 J104 J107 J106 J103 J102 J108 J101 J100 J113 J114 J112 J111 J115 J110 J109 J99 J98 J116 J97 J96 J74 J73 J117 J72 J71 J122 J123 J121 J120 J124 J119 J118 J70 J69 J125 J68 J67 J7 J6 J126 J5 J4 J131 J132 J130 J129 J133 J128 J127 J3 J2 J134
  have hl := lv_entry ([.ref (ad 0 0), .int (0 : Int32)]) (n := 5) (Nat.le_of_ble_eq_true rfl)
  rw [lg_entry_eq]
  generalize (lg_sl ([.ref (ad 0 0), .int (0 : Int32)]) ++ List.replicate (5 - (lg_sl ([.ref (ad 0 0), .int (0 : Int32)])).length) Slot.unset).toArray = ls at hl ⊢
  have hl : lv_has ls 5 [(0, .ref (ad 0 0)), (1, .int (0 : Int32))] := hl
  refine lv_aload_n hx hb md_Mo_pulse_0 rfl (lv_at hl 0 rfl) ?_
  refine fw_getr hx hb hts i_Mo hown hK hP (mm_0 (by decide)) (mk_0 0) rfl 27 (by decide) (hts _ L_Mo_89) (fun _ h9 => h9) rfl md_Mo_pulse_1 ?_
  refine lv_iload_n hx hb md_Mo_pulse_4 rfl (lv_at hl 1 rfl) ?_
  refine fw_iald hx hb hK hP (mm_28 (by decide)) (mk_28 0) 0 rfl (j := 0) (by decide) (fw_inc (by decide)) md_Mo_pulse_5 ?_
  refine lv_if_ne (tgt := 10) hx hb md_Mo_pulse_6 (by decide) (fun c_1 => ?_) (fun c_1 => ?_)
  · refine lv_aload_n hx hb md_Mo_pulse_10 rfl (lv_at hl 0 rfl) ?_
    refine fw_getr hx hb hts i_Mo hown hK hP (mm_0 (by decide)) (mk_0 0) rfl 31 (by decide) (hts _ L_Mo_101) (fun _ h9 => h9) rfl md_Mo_pulse_11 ?_
    refine lv_iload_n hx hb md_Mo_pulse_14 rfl (lv_at hl 1 rfl) ?_
    refine lv_dup2_11 hx hb md_Mo_pulse_15 rfl rfl ?_
    refine fw_iald hx hb hK hP (mm_32 (by decide)) (mk_32 0) 0 rfl (j := 0) (by decide) (fw_inc (by decide)) md_Mo_pulse_16 ?_
    refine lv_iconst (v := (1 : Int32)) hx hb md_Mo_pulse_17 (by decide) ?_
    refine lv_iadd hx hb md_Mo_pulse_18 ?_
    refine fw_iast hx hb hK hD hP hS (mm_32 (by decide)) (mk_32 0) 0 rfl (j := 0) (by decide) (fw_inc (by decide)) md_Mo_pulse_19 (fun v2 H locs ev2 hP hS => ?_)
    have hI : mI b v2 := by rw [ev2]; exact mI_up hI trivial trivial
    refine lv_aload_n hx hb md_Mo_pulse_20 rfl (lv_at hl 0 rfl) ?_
    refine fw_getr hx hb hts i_Mo hown hK hP (mm_0 (by decide)) (mk_0 0) rfl 27 (by decide) (hts _ L_Mo_89) (fun _ h9 => h9) rfl md_Mo_pulse_21 ?_
    refine lv_iload_n hx hb md_Mo_pulse_24 rfl (lv_at hl 1 rfl) ?_
    refine fw_iald hx hb hK hP (mm_28 (by decide)) (mk_28 0) 0 rfl (j := 0) (by decide) (fw_inc (by decide)) md_Mo_pulse_25 ?_
    refine lv_iconst (v := (1 : Int32)) hx hb md_Mo_pulse_26 (by decide) ?_
    refine lv_icmp_ne (tgt := 49) hx hb md_Mo_pulse_27 (by decide) (fun c_3 => ?_) (fun c_3 => ?_)
    · refine lv_aload_n hx hb md_Mo_pulse_49 rfl (lv_at hl 0 rfl) ?_
      refine fw_getr hx hb hts i_Mo hown hK hP (mm_0 (by decide)) (mk_0 0) rfl 27 (by decide) (hts _ L_Mo_89) (fun _ h9 => h9) rfl md_Mo_pulse_50 ?_
      refine lv_iload_n hx hb md_Mo_pulse_53 rfl (lv_at hl 1 rfl) ?_
      refine fw_iald hx hb hK hP (mm_28 (by decide)) (mk_28 0) 0 rfl (j := 0) (by decide) (fw_inc (by decide)) md_Mo_pulse_54 ?_
      refine lv_iconst (v := (2 : Int32)) hx hb md_Mo_pulse_55 (by decide) ?_
      refine lv_icmp_ne (tgt := 111) hx hb md_Mo_pulse_56 (by decide) (fun c_4 => ?_) (fun c_4 => ?_)
      · refine lv_aload_n hx hb md_Mo_pulse_111 rfl (lv_at hl 0 rfl) ?_
        refine fw_getr hx hb hts i_Mo hown hK hP (mm_0 (by decide)) (mk_0 0) rfl 31 (by decide) (hts _ L_Mo_101) (fun _ h9 => h9) rfl md_Mo_pulse_112 ?_
        refine lv_iload_n hx hb md_Mo_pulse_115 rfl (lv_at hl 1 rfl) ?_
        refine fw_iald hx hb hK hP (mm_32 (by decide)) (mk_32 0) 0 rfl (j := 0) (by decide) (fw_inc (by decide)) md_Mo_pulse_116 ?_
        refine lv_iconst (v := (4 : Int32)) hx hb md_Mo_pulse_117 (by decide) ?_
        refine lv_icmp_ne (tgt := 139) hx hb md_Mo_pulse_118 (by decide) (fun c_5 => ?_) (fun c_5 => ?_)
        · refine lv_aload_n hx hb md_Mo_pulse_139 rfl (lv_at hl 0 rfl) ?_
          refine lv_iload_n hx hb md_Mo_pulse_140 rfl (lv_at hl 1 rfl) ?_
          refine fw_cv (va_runV (As := [.int (0 : Int32)]) (rest := []) ⟨hx, hb, hml, hown, hts⟩ (mc_Mo_alarm_0 l hD v2 hI ) (mw_Mo_alarm hts L_Mo_260 ⟨Nat.le_of_ble_eq_true rfl, Nat.le_of_ble_eq_true rfl⟩) (fw_preV hN hK hP (mm_0 (by decide)) (mk_0 0) rfl) rfl rfl hl.1 rfl (lv_room (Nat.le_of_ble_eq_true rfl)) md_Mo_pulse_141 ⟨Nat.le_of_ble_eq_true rfl, Nat.le_of_ble_eq_true rfl⟩) hS (fun v6 H locs ev6 hI hP hS => ?_)
          refine lv_iconst (v := (0 : Int32)) hx hb md_Mo_pulse_144 (by decide) ?_
          refine lv_istore_n (lv' := [(2, .int (0 : Int32)), (0, .ref (ad 0 0)), (1, .int (0 : Int32))]) hx hb md_Mo_pulse_145 rfl hl (by decide) rfl (fun ls hl => ?_)
          refine lv_iconst (v := (0 : Int32)) hx hb md_Mo_pulse_146 (by decide) ?_
          refine lv_istore_n (lv' := [(3, .int (0 : Int32)), (2, .int (0 : Int32)), (0, .ref (ad 0 0)), (1, .int (0 : Int32))]) hx hb md_Mo_pulse_147 rfl hl (by decide) rfl (fun ls hl => ?_)
          exact J1 v6  _ _ _ (by subst ev2 ev6; simp only [mf_Mo_pulse_0, if_neg c_1, if_neg c_3, if_neg c_4, if_neg c_5])   hI hP hS (lv_sub hl [2, 3, 1, 0] rfl)
        · refine lv_aload_n hx hb md_Mo_pulse_121 rfl (lv_at hl 0 rfl) ?_
          refine lv_dup hx hb md_Mo_pulse_122 rfl ?_
          refine fw_geti hx hb hts i_Mo hown hK hP (mm_0 (by decide)) (mk_0 0) rfl 56 (by decide) (hts _ L_Mo_235) (fun _ h9 => h9) rfl md_Mo_pulse_123 ?_
          refine lv_iconst (v := (1 : Int32)) hx hb md_Mo_pulse_126 (by decide) ?_
          refine lv_iadd hx hb md_Mo_pulse_127 ?_
          refine fw_puti hx hb hts i_Mo t_Mo t_Mo_ok n_Mo hown hK hD hP hS (mm_0 (by decide)) (mk_0 0) rfl 56 (by decide) (hts _ L_Mo_235) (fun _ h9 => h9) rfl fw_pdI rfl rfl rfl md_Mo_pulse_128 (fun v249 H locs ev249 hP hS => ?_)
          have hI : mI b v249 := by rw [ev249]; exact mI_up hI trivial trivial
          refine lv_aload_n hx hb md_Mo_pulse_131 rfl (lv_at hl 0 rfl) ?_
          refine lv_iload_n hx hb md_Mo_pulse_132 rfl (lv_at hl 1 rfl) ?_
          refine fw_cv (va_runV (As := [.int (0 : Int32)]) (rest := []) ⟨hx, hb, hml, hown, hts⟩ (mc_Mo_quit_0 l hD v249 hI ) (mw_Mo_quit hts L_Mo_253 ⟨Nat.le_of_ble_eq_true rfl, Nat.le_of_ble_eq_true rfl⟩) (fw_preV hN hK hP (mm_0 (by decide)) (mk_0 0) rfl) rfl rfl hl.1 rfl (lv_room (Nat.le_of_ble_eq_true rfl)) md_Mo_pulse_133 ⟨Nat.le_of_ble_eq_true rfl, Nat.le_of_ble_eq_true rfl⟩) hS (fun v250 H locs ev250 hI hP hS => ?_)
          refine lv_goto (tgt := 269) hx hb md_Mo_pulse_136 (by decide) ?_
          exact fw_vret hx hb hr hlocks hS hP hI md_Mo_pulse_269 (by subst ev2 ev249 ev250; simp only [mf_Mo_pulse_0, if_neg c_1, if_neg c_3, if_neg c_4, if_pos c_5])
      · refine lv_aload_n hx hb md_Mo_pulse_59 rfl (lv_at hl 0 rfl) ?_
        refine fw_getr hx hb hts i_Mo hown hK hP (mm_0 (by decide)) (mk_0 0) rfl 31 (by decide) (hts _ L_Mo_101) (fun _ h9 => h9) rfl md_Mo_pulse_60 ?_
        refine lv_iload_n hx hb md_Mo_pulse_63 rfl (lv_at hl 1 rfl) ?_
        refine fw_iald hx hb hK hP (mm_32 (by decide)) (mk_32 0) 0 rfl (j := 0) (by decide) (fw_inc (by decide)) md_Mo_pulse_64 ?_
        refine lv_iconst (v := (3 : Int32)) hx hb md_Mo_pulse_65 (by decide) ?_
        refine lv_icmp_ge (tgt := 70) hx hb md_Mo_pulse_66 (by decide) (fun c_251 => ?_) (fun c_251 => ?_)
        · refine lv_aload_n hx hb md_Mo_pulse_70 rfl (lv_at hl 0 rfl) ?_
          refine fw_getr hx hb hts i_Mo hown hK hP (mm_0 (by decide)) (mk_0 0) rfl 32 (by decide) (hts _ L_Mo_104) (fun _ h9 => h9) rfl md_Mo_pulse_71 ?_
          refine lv_iload_n hx hb md_Mo_pulse_74 rfl (lv_at hl 1 rfl) ?_
          refine lv_dup2_11 hx hb md_Mo_pulse_75 rfl rfl ?_
          refine fw_iald hx hb hK hP (mm_33 (by decide)) (mk_33 0) 0 rfl (j := 0) (by decide) (fw_inc (by decide)) md_Mo_pulse_76 ?_
          refine lv_dup_x2 hx hb md_Mo_pulse_77 rfl rfl rfl ?_
          refine lv_iconst (v := (1 : Int32)) hx hb md_Mo_pulse_78 (by decide) ?_
          refine lv_iadd hx hb md_Mo_pulse_79 ?_
          refine fw_iast hx hb hK hD hP hS (mm_33 (by decide)) (mk_33 0) 0 rfl (j := 0) (by decide) (fw_inc (by decide)) md_Mo_pulse_80 (fun v252 H locs ev252 hP hS => ?_)
          have hI : mI b v252 := by rw [ev252]; exact mI_up hI trivial trivial
          refine lv_iconst (v := (3 : Int32)) hx hb md_Mo_pulse_81 (by decide) ?_
          refine lv_icmp_ne (tgt := 93) hx hb md_Mo_pulse_82 (by decide) (fun c_253 => ?_) (fun c_253 => ?_)
          · refine lv_aload_n hx hb md_Mo_pulse_93 rfl (lv_at hl 0 rfl) ?_
            refine fw_getr hx hb hts i_Mo hown hK hP (mm_0 (by decide)) (mk_0 0) rfl 31 (by decide) (hts _ L_Mo_101) (fun _ h9 => h9) rfl md_Mo_pulse_94 ?_
            refine lv_iload_n hx hb md_Mo_pulse_97 rfl (lv_at hl 1 rfl) ?_
            refine lv_iconst (v := (0 : Int32)) hx hb md_Mo_pulse_98 (by decide) ?_
            refine fw_iast hx hb hK hD hP hS (mm_32 (by decide)) (mk_32 0) 0 rfl (j := 0) (by decide) (fw_inc (by decide)) md_Mo_pulse_99 (fun v254 H locs ev254 hP hS => ?_)
            have hI : mI b v254 := by rw [ev254]; exact mI_up hI trivial trivial
            refine lv_aload_n hx hb md_Mo_pulse_100 rfl (lv_at hl 0 rfl) ?_
            refine lv_iload_n hx hb md_Mo_pulse_101 rfl (lv_at hl 1 rfl) ?_
            refine lv_bipush (v := (10 : Int32)) hx hb md_Mo_pulse_102 (by decide) ?_
            refine lv_iconst (v := (0 : Int32)) hx hb md_Mo_pulse_104 (by decide) ?_
            refine fw_cv (va_runV (As := [.int (0 : Int32), .int (10 : Int32), .int (0 : Int32)]) (rest := []) ⟨hx, hb, hml, hown, hts⟩ (mc_Mo_reply_0 l hD v254 hI (10 : Int32) (0 : Int32) (fun q => absurd q (by decide)) (by decide) (by decide)) (mw_Mo_reply hts L_Mo_238 ⟨Nat.le_of_ble_eq_true rfl, Nat.le_of_ble_eq_true rfl⟩) (fw_preV hN hK hP (mm_0 (by decide)) (mk_0 0) rfl) rfl rfl hl.1 rfl (lv_room (Nat.le_of_ble_eq_true rfl)) md_Mo_pulse_105 ⟨Nat.le_of_ble_eq_true rfl, Nat.le_of_ble_eq_true rfl⟩) hS (fun v255 H locs ev255 hI hP hS => ?_)
            refine lv_goto (tgt := 269) hx hb md_Mo_pulse_108 (by decide) ?_
            exact fw_vret hx hb hr hlocks hS hP hI md_Mo_pulse_269 (by subst ev2 ev252 ev254 ev255; simp only [mf_Mo_pulse_0, if_neg c_1, if_neg c_3, if_pos c_4, if_pos c_251, if_neg c_253])
          · refine lv_aload_n hx hb md_Mo_pulse_85 rfl (lv_at hl 0 rfl) ?_
            refine lv_iload_n hx hb md_Mo_pulse_86 rfl (lv_at hl 1 rfl) ?_
            refine fw_cv (va_runV (As := [.int (0 : Int32)]) (rest := []) ⟨hx, hb, hml, hown, hts⟩ (mc_Mo_quit_0 l hD v252 hI ) (mw_Mo_quit hts L_Mo_253 ⟨Nat.le_of_ble_eq_true rfl, Nat.le_of_ble_eq_true rfl⟩) (fw_preV hN hK hP (mm_0 (by decide)) (mk_0 0) rfl) rfl rfl hl.1 rfl (lv_room (Nat.le_of_ble_eq_true rfl)) md_Mo_pulse_87 ⟨Nat.le_of_ble_eq_true rfl, Nat.le_of_ble_eq_true rfl⟩) hS (fun v256 H locs ev256 hI hP hS => ?_)
            refine lv_goto (tgt := 269) hx hb md_Mo_pulse_90 (by decide) ?_
            exact fw_vret hx hb hr hlocks hS hP hI md_Mo_pulse_269 (by subst ev2 ev252 ev256; simp only [mf_Mo_pulse_0, if_neg c_1, if_neg c_3, if_pos c_4, if_pos c_251, if_pos c_253])
        · exact fw_vret hx hb hr hlocks hS hP hI md_Mo_pulse_69 (by subst ev2; simp only [mf_Mo_pulse_0, if_neg c_1, if_neg c_3, if_pos c_4, if_neg c_251])
    · refine lv_aload_n hx hb md_Mo_pulse_30 rfl (lv_at hl 0 rfl) ?_
      refine fw_getr hx hb hts i_Mo hown hK hP (mm_0 (by decide)) (mk_0 0) rfl 31 (by decide) (hts _ L_Mo_101) (fun _ h9 => h9) rfl md_Mo_pulse_31 ?_
      refine lv_iload_n hx hb md_Mo_pulse_34 rfl (lv_at hl 1 rfl) ?_
      refine fw_iald hx hb hK hP (mm_32 (by decide)) (mk_32 0) 0 rfl (j := 0) (by decide) (fw_inc (by decide)) md_Mo_pulse_35 ?_
      refine lv_bipush (v := (16 : Int32)) hx hb md_Mo_pulse_36 (by decide) ?_
      refine lv_icmp_ne (tgt := 269) hx hb md_Mo_pulse_38 (by decide) (fun c_258 => ?_) (fun c_258 => ?_)
      · exact fw_vret hx hb hr hlocks hS hP hI md_Mo_pulse_269 (by subst ev2; simp only [mf_Mo_pulse_0, if_neg c_1, if_pos c_3, if_neg c_258])
      · refine lv_aload_n hx hb md_Mo_pulse_41 rfl (lv_at hl 0 rfl) ?_
        refine lv_iload_n hx hb md_Mo_pulse_42 rfl (lv_at hl 1 rfl) ?_
        refine fw_cv (va_runV (As := [.int (0 : Int32)]) (rest := []) ⟨hx, hb, hml, hown, hts⟩ (mc_Mo_rest_0 l hD v2 hI ) (mw_Mo_rest hts L_Mo_241 ⟨Nat.le_of_ble_eq_true rfl, Nat.le_of_ble_eq_true rfl⟩) (fw_preV hN hK hP (mm_0 (by decide)) (mk_0 0) rfl) rfl rfl hl.1 rfl (lv_room (Nat.le_of_ble_eq_true rfl)) md_Mo_pulse_43 ⟨Nat.le_of_ble_eq_true rfl, Nat.le_of_ble_eq_true rfl⟩) hS (fun v259 H locs ev259 hI hP hS => ?_)
        refine lv_goto (tgt := 269) hx hb md_Mo_pulse_46 (by decide) ?_
        exact fw_vret hx hb hr hlocks hS hP hI md_Mo_pulse_269 (by subst ev2 ev259; simp only [mf_Mo_pulse_0, if_neg c_1, if_pos c_3, if_pos c_258])
  · exact fw_vret hx hb hr hlocks hS hP hI md_Mo_pulse_9 (by simp only [mf_Mo_pulse_0, if_pos c_1])

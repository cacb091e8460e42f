def mf_Mo_arrives_0 (v0 : fw_V) (a2 : Int32) (a3 : Int32) (a4 : Int32) : fw_V :=
  if a2 = (1 : Int32) then
    if (v0 30 0 0) = (0 : Int32) then
      v0
    else
      if (v0 30 0 0) = a4 then
        let v9 := fw_up v0 9 0 (0) a4
        let v10 := mf_Mo_send v9 (2 : Int32) (0 : Int32) (0 : Int32) (2 : Int32)
        v10
      else
        v0
  else
    if a2 = (3 : Int32) then
      let v6 := mf_Mo_connect_0 v0 a3
      v6
    else
      if (v0 28 0 0) = (0 : Int32) then
        v0
      else
        if (v0 29 0 0) = a3 then
          let v5 := mf_Mo_obeys_0 v0 a2 a4
          v5
        else
          v0

theorem mca_Mo_arrives_0 {v0 : fw_V} {a2 : Int32} {a3 : Int32} {a4 : Int32} {i k : Nat} : mf_Mo_arrives_0 v0 a2 a3 a4 10 i k = v0 10 i k := by
  unfold mf_Mo_arrives_0
  try dsimp only
  all_goals ((repeat' split) <;> simp [fw_up, fw_row, mca_Mo_send, mca_Mo_connect_0, mca_Mo_obeys_0])
set_option maxHeartbeats 4000000 in
set_option maxRecDepth 100000 in
theorem mc_Mo_arrives_0 (l : Launch) {D : va_G} {cA : Nat → ClassId} {ad : Nat → Nat → Nat} (hD : fw_D mCL ad) {b : Nat} (v0 : fw_V) (hI : mI b v0) (a2 : Int32) (a3 : Int32) (a4 : Int32) (hq0 : a2 = (6 : Int32) → vp_in a4 3) (hq1 : a2 = (3 : Int32) → (vp_in (v0 10 0 0) 9 ∧ vp_in (v0 10 0 1) 9 ∧ vp_in (v0 10 0 2) 9)) : Met l my_Mo_arrives (Cond.code my_Mo_arrives mb_Mo_arrives 5 none :: vTB) mrm_Mo_arrives (fw_Pc vNL D vcls (vtys cA) mCL cA mkd ad v0 [.ref (ad 0 0), .int (0 : Int32), .int a2, .int a3, .int a4]) (fw_Qv D vcls mCL cA mkd ad (mI b) (mf_Mo_arrives_0 v0 a2 a3 a4)) 0 0 (fw_A mCL ad) := by
  refine Met.ofW (cc := mb_Mo_arrives) (maxL := 5) (ret := none) (by decide) rfl ?_
  intro p e s m args below meth c s₁ B hml hv
  obtain ⟨rfl, hP, hK, hN⟩ := hv
  have hx := B.exec
  have hb := B.bytes
  have hr := B.returns
  have hts : ∀ w ∈ vTB, w.before ([.ref (ad 0 0), .int (0 : Int32), .int a2, .int a3, .int a4] : List Value).toArray s = true := fun w h => atoms_spec (ws := (Cond.code my_Mo_arrives mb_Mo_arrives 5 none :: vTB)) B.pre w (List.mem_cons_of_mem _ h)
  have hown : s.vm.findClass R_Mo = some m.cls := findClass_of_methodNamed B.named
  have hlocks := B.notSynchronized
  have hS : va_S (fw_A mCL ad) s.heap s.heap [] := va_S.rf
  skip
  have hl := lv_entry ([.ref (ad 0 0), .int (0 : Int32), .int a2, .int a3, .int a4]) (n := 5) (Nat.le_of_ble_eq_true rfl)
  rw [lg_entry_eq]
  generalize (lg_sl ([.ref (ad 0 0), .int (0 : Int32), .int a2, .int a3, .int a4]) ++ List.replicate (5 - (lg_sl ([.ref (ad 0 0), .int (0 : Int32), .int a2, .int a3, .int a4])).length) Slot.unset).toArray = ls at hl ⊢
  have hl : lv_has ls 5 [(0, .ref (ad 0 0)), (1, .int (0 : Int32)), (2, .int a2), (3, .int a3), (4, .int a4)] := hl
  refine lv_iload_n hx hb md_Mo_arrives_0 rfl (lv_at hl 2 rfl) ?_
  refine lv_iconst (v := (1 : Int32)) hx hb md_Mo_arrives_1 (by decide) ?_
  refine lv_icmp_ne (tgt := 45) hx hb md_Mo_arrives_2 (by decide) (fun c_1 => ?_) (fun c_1 => ?_)
  · refine lv_iload_n hx hb md_Mo_arrives_45 rfl (lv_at hl 2 rfl) ?_
    refine lv_iconst (v := (3 : Int32)) hx hb md_Mo_arrives_46 (by decide) ?_
    refine lv_icmp_ne (tgt := 59) hx hb md_Mo_arrives_47 (by decide) (fun c_2 => ?_) (fun c_2 => ?_)
    · refine lv_aload_n hx hb md_Mo_arrives_59 rfl (lv_at hl 0 rfl) ?_
      refine fw_getr hx hb hts i_Mo hown hK hP (mm_0 (by decide)) (mk_0 0) rfl 27 (by decide) (hts _ L_Mo_89) (fun _ h9 => h9) rfl md_Mo_arrives_60 ?_
      refine lv_iload_n hx hb md_Mo_arrives_63 rfl (lv_at hl 1 rfl) ?_
      refine fw_iald hx hb hK hP (mm_28 (by decide)) (mk_28 0) 0 rfl (j := 0) (by decide) (fw_inc (by decide)) md_Mo_arrives_64 ?_
      refine lv_if_eq (tgt := 86) hx hb md_Mo_arrives_65 (by decide) (fun c_3 => ?_) (fun c_3 => ?_)
      · exact fw_vret hx hb hr hlocks hS hP hI md_Mo_arrives_86 (by simp only [mf_Mo_arrives_0, if_neg c_1, if_neg c_2, if_pos c_3])
      · refine lv_aload_n hx hb md_Mo_arrives_68 rfl (lv_at hl 0 rfl) ?_
        refine fw_getr hx hb hts i_Mo hown hK hP (mm_0 (by decide)) (mk_0 0) rfl 28 (by decide) (hts _ L_Mo_92) (fun _ h9 => h9) rfl md_Mo_arrives_69 ?_
        refine lv_iload_n hx hb md_Mo_arrives_72 rfl (lv_at hl 1 rfl) ?_
        refine fw_iald hx hb hK hP (mm_29 (by decide)) (mk_29 0) 0 rfl (j := 0) (by decide) (fw_inc (by decide)) md_Mo_arrives_73 ?_
        refine lv_iload_n hx hb md_Mo_arrives_74 rfl (lv_at hl 3 rfl) ?_
        refine lv_icmp_ne (tgt := 86) hx hb md_Mo_arrives_75 (by decide) (fun c_4 => ?_) (fun c_4 => ?_)
        · exact fw_vret hx hb hr hlocks hS hP hI md_Mo_arrives_86 (by simp only [mf_Mo_arrives_0, if_neg c_1, if_neg c_2, if_neg c_3, if_neg c_4])
        · refine lv_aload_n hx hb md_Mo_arrives_78 rfl (lv_at hl 0 rfl) ?_
          refine lv_iload_n hx hb md_Mo_arrives_79 rfl (lv_at hl 1 rfl) ?_
          refine lv_iload_n hx hb md_Mo_arrives_80 rfl (lv_at hl 2 rfl) ?_
          refine lv_iload hx hb md_Mo_arrives_81 (lv_at hl 4 rfl) ?_
          refine fw_cv (va_runV (As := [.int (0 : Int32), .int a2, .int a4]) (rest := []) ⟨hx, hb, hml, hown, hts⟩ (mc_Mo_obeys_0 l hD v0 hI a2 a4 hq0) (mw_Mo_obeys hts L_Mo_247 ⟨Nat.le_of_ble_eq_true rfl, Nat.le_of_ble_eq_true rfl⟩) (fw_preV hN hK hP (mm_0 (by decide)) (mk_0 0) rfl) rfl rfl hl.1 rfl (lv_room (Nat.le_of_ble_eq_true rfl)) md_Mo_arrives_83 ⟨Nat.le_of_ble_eq_true rfl, Nat.le_of_ble_eq_true rfl⟩) hS (fun v5 H locs ev5 hI hP hS => ?_)
          exact fw_vret hx hb hr hlocks hS hP hI md_Mo_arrives_86 (by subst ev5; simp only [mf_Mo_arrives_0, if_neg c_1, if_neg c_2, if_neg c_3, if_pos c_4])
    · refine lv_aload_n hx hb md_Mo_arrives_50 rfl (lv_at hl 0 rfl) ?_
      refine lv_iload_n hx hb md_Mo_arrives_51 rfl (lv_at hl 1 rfl) ?_
      refine lv_iload_n hx hb md_Mo_arrives_52 rfl (lv_at hl 3 rfl) ?_
      refine fw_cv (va_runV (As := [.int (0 : Int32), .int a3]) (rest := []) ⟨hx, hb, hml, hown, hts⟩ (mc_Mo_connect_0 l hD v0 hI a3 (hq1 c_2)) (mw_Mo_connect hts L_Mo_244 ⟨Nat.le_of_ble_eq_true rfl, Nat.le_of_ble_eq_true rfl⟩) (fw_preV hN hK hP (mm_0 (by decide)) (mk_0 0) rfl) rfl rfl hl.1 rfl (lv_room (Nat.le_of_ble_eq_true rfl)) md_Mo_arrives_53 ⟨Nat.le_of_ble_eq_true rfl, Nat.le_of_ble_eq_true rfl⟩) hS (fun v6 H locs ev6 hI hP hS => ?_)
      refine lv_goto (tgt := 86) hx hb md_Mo_arrives_56 (by decide) ?_
      exact fw_vret hx hb hr hlocks hS hP hI md_Mo_arrives_86 (by subst ev6; simp only [mf_Mo_arrives_0, if_neg c_1, if_pos c_2])
  · refine lv_aload_n hx hb md_Mo_arrives_5 rfl (lv_at hl 0 rfl) ?_
    refine fw_getr hx hb hts i_Mo hown hK hP (mm_0 (by decide)) (mk_0 0) rfl 29 (by decide) (hts _ L_Mo_95) (fun _ h9 => h9) rfl md_Mo_arrives_6 ?_
    refine lv_iload_n hx hb md_Mo_arrives_9 rfl (lv_at hl 1 rfl) ?_
    refine fw_iald hx hb hK hP (mm_30 (by decide)) (mk_30 0) 0 rfl (j := 0) (by decide) (fw_inc (by decide)) md_Mo_arrives_10 ?_
    refine lv_if_eq (tgt := 25) hx hb md_Mo_arrives_11 (by decide) (fun c_7 => ?_) (fun c_7 => ?_)
    · exact fw_vret hx hb hr hlocks hS hP hI md_Mo_arrives_25 (by simp only [mf_Mo_arrives_0, if_pos c_1, if_pos c_7])
    · refine lv_aload_n hx hb md_Mo_arrives_14 rfl (lv_at hl 0 rfl) ?_
      refine fw_getr hx hb hts i_Mo hown hK hP (mm_0 (by decide)) (mk_0 0) rfl 29 (by decide) (hts _ L_Mo_95) (fun _ h9 => h9) rfl md_Mo_arrives_15 ?_
      refine lv_iload_n hx hb md_Mo_arrives_18 rfl (lv_at hl 1 rfl) ?_
      refine fw_iald hx hb hK hP (mm_30 (by decide)) (mk_30 0) 0 rfl (j := 0) (by decide) (fw_inc (by decide)) md_Mo_arrives_19 ?_
      refine lv_iload hx hb md_Mo_arrives_20 (lv_at hl 4 rfl) ?_
      refine lv_icmp_eq (tgt := 26) hx hb md_Mo_arrives_22 (by decide) (fun c_8 => ?_) (fun c_8 => ?_)
      · refine lv_aload_n hx hb md_Mo_arrives_26 rfl (lv_at hl 0 rfl) ?_
        refine fw_getr hx hb hts i_Mo hown hK hP (mm_0 (by decide)) (mk_0 0) rfl 8 (by decide) (hts _ L_Mo_35) (fun _ h9 => h9) rfl md_Mo_arrives_27 ?_
        refine lv_iconst (v := (0 : Int32)) hx hb md_Mo_arrives_30 (by decide) ?_
        refine lv_iload hx hb md_Mo_arrives_31 (lv_at hl 4 rfl) ?_
        refine fw_iast hx hb hK hD hP hS (mm_9 (by decide)) (mk_9 0) 0 rfl (j := 0) (by decide) (fw_inc (by decide)) md_Mo_arrives_33 (fun v9 H locs ev9 hP hS => ?_)
        have hI : mI b v9 := by rw [ev9]; exact mI_up hI trivial trivial
        refine lv_aload_n hx hb md_Mo_arrives_34 rfl (lv_at hl 0 rfl) ?_
        refine lv_iconst (v := (2 : Int32)) hx hb md_Mo_arrives_35 (by decide) ?_
        refine lv_iconst (v := (0 : Int32)) hx hb md_Mo_arrives_36 (by decide) ?_
        refine lv_iload_n hx hb md_Mo_arrives_37 rfl (lv_at hl 1 rfl) ?_
        refine lv_iconst (v := (2 : Int32)) hx hb md_Mo_arrives_38 (by decide) ?_
        refine fw_cv (va_runV (As := [.int (2 : Int32), .int (0 : Int32), .int (0 : Int32), .int (2 : Int32)]) (rest := []) ⟨hx, hb, hml, hown, hts⟩ (mc_Mo_send l hD v9 hI (2 : Int32) (0 : Int32) (0 : Int32) (2 : Int32) (fun q => absurd q (by decide)) (fun q => absurd q (by decide)) (fun q => absurd q (by decide))) (mw_Mo_send hts L_Mo_197 ⟨Nat.le_of_ble_eq_true rfl, Nat.le_of_ble_eq_true rfl⟩) (fw_preV hN hK hP (mm_0 (by decide)) (mk_0 0) rfl) rfl rfl hl.1 rfl (lv_room (Nat.le_of_ble_eq_true rfl)) md_Mo_arrives_39 ⟨Nat.le_of_ble_eq_true rfl, Nat.le_of_ble_eq_true rfl⟩) hS (fun v10 H locs ev10 hI hP hS => ?_)
        refine lv_goto (tgt := 86) hx hb md_Mo_arrives_42 (by decide) ?_
        exact fw_vret hx hb hr hlocks hS hP hI md_Mo_arrives_86 (by subst ev9 ev10; simp only [mf_Mo_arrives_0, if_pos c_1, if_neg c_7, if_pos c_8])
      · exact fw_vret hx hb hr hlocks hS hP hI md_Mo_arrives_25 (by simp only [mf_Mo_arrives_0, if_pos c_1, if_neg c_7, if_neg c_8])
def mf_Mo_arrives_1 (v0 : fw_V) (a2 : Int32) (a3 : Int32) (a4 : Int32) : fw_V :=
  if a2 = (1 : Int32) then
    if (v0 30 0 1) = (0 : Int32) then
      v0
    else
      if (v0 30 0 1) = a4 then
        let v9 := fw_up v0 9 0 (0) a4
        let v10 := mf_Mo_send v9 (2 : Int32) (0 : Int32) (1 : Int32) (2 : Int32)
        v10
      else
        v0
  else
    if a2 = (3 : Int32) then
      let v6 := mf_Mo_connect_1 v0 a3
      v6
    else
      if (v0 28 0 1) = (0 : Int32) then
        v0
      else
        if (v0 29 0 1) = a3 then
          let v5 := mf_Mo_obeys_1 v0 a2 a4
          v5
        else
          v0

theorem mca_Mo_arrives_1 {v0 : fw_V} {a2 : Int32} {a3 : Int32} {a4 : Int32} {i k : Nat} : mf_Mo_arrives_1 v0 a2 a3 a4 10 i k = v0 10 i k := by
  unfold mf_Mo_arrives_1
  try dsimp only
  all_goals ((repeat' split) <;> simp [fw_up, fw_row, mca_Mo_send, mca_Mo_connect_1, mca_Mo_obeys_1])
set_option maxHeartbeats 4000000 in
set_option maxRecDepth 100000 in
theorem mc_Mo_arrives_1 (l : Launch) {D : va_G} {cA : Nat → ClassId} {ad : Nat → Nat → Nat} (hD : fw_D mCL ad) {b : Nat} (v0 : fw_V) (hI : mI b v0) (a2 : Int32) (a3 : Int32) (a4 : Int32) (hq0 : a2 = (6 : Int32) → vp_in a4 3) (hq1 : a2 = (3 : Int32) → (vp_in (v0 10 0 0) 9 ∧ vp_in (v0 10 0 1) 9 ∧ vp_in (v0 10 0 2) 9)) : Met l my_Mo_arrives (Cond.code my_Mo_arrives mb_Mo_arrives 5 none :: vTB) mrm_Mo_arrives (fw_Pc vNL D vcls (vtys cA) mCL cA mkd ad v0 [.ref (ad 0 0), .int (1 : Int32), .int a2, .int a3, .int a4]) (fw_Qv D vcls mCL cA mkd ad (mI b) (mf_Mo_arrives_1 v0 a2 a3 a4)) 0 0 (fw_A mCL ad) := by
  refine Met.ofW (cc := mb_Mo_arrives) (maxL := 5) (ret := none) (by decide) rfl ?_
  intro p e s m args below meth c s₁ B hml hv
  obtain ⟨rfl, hP, hK, hN⟩ := hv
  have hx := B.exec
  have hb := B.bytes
  have hr := B.returns
  have hts : ∀ w ∈ vTB, w.before ([.ref (ad 0 0), .int (1 : Int32), .int a2, .int a3, .int a4] : List Value).toArray s = true := fun w h => atoms_spec (ws := (Cond.code my_Mo_arrives mb_Mo_arrives 5 none :: vTB)) B.pre w (List.mem_cons_of_mem _ h)
  have hown : s.vm.findClass R_Mo = some m.cls := findClass_of_methodNamed B.named
  have hlocks := B.notSynchronized
  have hS : va_S (fw_A mCL ad) s.heap s.heap [] := va_S.rf
  skip
  have hl := lv_entry ([.ref (ad 0 0), .int (1 : Int32), .int a2, .int a3, .int a4]) (n := 5) (Nat.le_of_ble_eq_true rfl)
  rw [lg_entry_eq]
  generalize (lg_sl ([.ref (ad 0 0), .int (1 : Int32), .int a2, .int a3, .int a4]) ++ List.replicate (5 - (lg_sl ([.ref (ad 0 0), .int (1 : Int32), .int a2, .int a3, .int a4])).length) Slot.unset).toArray = ls at hl ⊢
  have hl : lv_has ls 5 [(0, .ref (ad 0 0)), (1, .int (1 : Int32)), (2, .int a2), (3, .int a3), (4, .int a4)] := hl
  refine lv_iload_n hx hb md_Mo_arrives_0 rfl (lv_at hl 2 rfl) ?_
  refine lv_iconst (v := (1 : Int32)) hx hb md_Mo_arrives_1 (by decide) ?_
  refine lv_icmp_ne (tgt := 45) hx hb md_Mo_arrives_2 (by decide) (fun c_1 => ?_) (fun c_1 => ?_)
  · refine lv_iload_n hx hb md_Mo_arrives_45 rfl (lv_at hl 2 rfl) ?_
    refine lv_iconst (v := (3 : Int32)) hx hb md_Mo_arrives_46 (by decide) ?_
    refine lv_icmp_ne (tgt := 59) hx hb md_Mo_arrives_47 (by decide) (fun c_2 => ?_) (fun c_2 => ?_)
    · refine lv_aload_n hx hb md_Mo_arrives_59 rfl (lv_at hl 0 rfl) ?_
      refine fw_getr hx hb hts i_Mo hown hK hP (mm_0 (by decide)) (mk_0 0) rfl 27 (by decide) (hts _ L_Mo_89) (fun _ h9 => h9) rfl md_Mo_arrives_60 ?_
      refine lv_iload_n hx hb md_Mo_arrives_63 rfl (lv_at hl 1 rfl) ?_
      refine fw_iald hx hb hK hP (mm_28 (by decide)) (mk_28 0) 0 rfl (j := 1) (by decide) (fw_inc (by decide)) md_Mo_arrives_64 ?_
      refine lv_if_eq (tgt := 86) hx hb md_Mo_arrives_65 (by decide) (fun c_3 => ?_) (fun c_3 => ?_)
      · exact fw_vret hx hb hr hlocks hS hP hI md_Mo_arrives_86 (by simp only [mf_Mo_arrives_1, if_neg c_1, if_neg c_2, if_pos c_3])
      · refine lv_aload_n hx hb md_Mo_arrives_68 rfl (lv_at hl 0 rfl) ?_
        refine fw_getr hx hb hts i_Mo hown hK hP (mm_0 (by decide)) (mk_0 0) rfl 28 (by decide) (hts _ L_Mo_92) (fun _ h9 => h9) rfl md_Mo_arrives_69 ?_
        refine lv_iload_n hx hb md_Mo_arrives_72 rfl (lv_at hl 1 rfl) ?_
        refine fw_iald hx hb hK hP (mm_29 (by decide)) (mk_29 0) 0 rfl (j := 1) (by decide) (fw_inc (by decide)) md_Mo_arrives_73 ?_
        refine lv_iload_n hx hb md_Mo_arrives_74 rfl (lv_at hl 3 rfl) ?_
        refine lv_icmp_ne (tgt := 86) hx hb md_Mo_arrives_75 (by decide) (fun c_4 => ?_) (fun c_4 => ?_)
        · exact fw_vret hx hb hr hlocks hS hP hI md_Mo_arrives_86 (by simp only [mf_Mo_arrives_1, if_neg c_1, if_neg c_2, if_neg c_3, if_neg c_4])
        · refine lv_aload_n hx hb md_Mo_arrives_78 rfl (lv_at hl 0 rfl) ?_
          refine lv_iload_n hx hb md_Mo_arrives_79 rfl (lv_at hl 1 rfl) ?_
          refine lv_iload_n hx hb md_Mo_arrives_80 rfl (lv_at hl 2 rfl) ?_
          refine lv_iload hx hb md_Mo_arrives_81 (lv_at hl 4 rfl) ?_
          refine fw_cv (va_runV (As := [.int (1 : Int32), .int a2, .int a4]) (rest := []) ⟨hx, hb, hml, hown, hts⟩ (mc_Mo_obeys_1 l hD v0 hI a2 a4 hq0) (mw_Mo_obeys hts L_Mo_247 ⟨Nat.le_of_ble_eq_true rfl, Nat.le_of_ble_eq_true rfl⟩) (fw_preV hN hK hP (mm_0 (by decide)) (mk_0 0) rfl) rfl rfl hl.1 rfl (lv_room (Nat.le_of_ble_eq_true rfl)) md_Mo_arrives_83 ⟨Nat.le_of_ble_eq_true rfl, Nat.le_of_ble_eq_true rfl⟩) hS (fun v5 H locs ev5 hI hP hS => ?_)
          exact fw_vret hx hb hr hlocks hS hP hI md_Mo_arrives_86 (by subst ev5; simp only [mf_Mo_arrives_1, if_neg c_1, if_neg c_2, if_neg c_3, if_pos c_4])
    · refine lv_aload_n hx hb md_Mo_arrives_50 rfl (lv_at hl 0 rfl) ?_
      refine lv_iload_n hx hb md_Mo_arrives_51 rfl (lv_at hl 1 rfl) ?_
      refine lv_iload_n hx hb md_Mo_arrives_52 rfl (lv_at hl 3 rfl) ?_
      refine fw_cv (va_runV (As := [.int (1 : Int32), .int a3]) (rest := []) ⟨hx, hb, hml, hown, hts⟩ (mc_Mo_connect_1 l hD v0 hI a3 (hq1 c_2)) (mw_Mo_connect hts L_Mo_244 ⟨Nat.le_of_ble_eq_true rfl, Nat.le_of_ble_eq_true rfl⟩) (fw_preV hN hK hP (mm_0 (by decide)) (mk_0 0) rfl) rfl rfl hl.1 rfl (lv_room (Nat.le_of_ble_eq_true rfl)) md_Mo_arrives_53 ⟨Nat.le_of_ble_eq_true rfl, Nat.le_of_ble_eq_true rfl⟩) hS (fun v6 H locs ev6 hI hP hS => ?_)
      refine lv_goto (tgt := 86) hx hb md_Mo_arrives_56 (by decide) ?_
      exact fw_vret hx hb hr hlocks hS hP hI md_Mo_arrives_86 (by subst ev6; simp only [mf_Mo_arrives_1, if_neg c_1, if_pos c_2])
  · refine lv_aload_n hx hb md_Mo_arrives_5 rfl (lv_at hl 0 rfl) ?_
    refine fw_getr hx hb hts i_Mo hown hK hP (mm_0 (by decide)) (mk_0 0) rfl 29 (by decide) (hts _ L_Mo_95) (fun _ h9 => h9) rfl md_Mo_arrives_6 ?_
    refine lv_iload_n hx hb md_Mo_arrives_9 rfl (lv_at hl 1 rfl) ?_
    refine fw_iald hx hb hK hP (mm_30 (by decide)) (mk_30 0) 0 rfl (j := 1) (by decide) (fw_inc (by decide)) md_Mo_arrives_10 ?_
    refine lv_if_eq (tgt := 25) hx hb md_Mo_arrives_11 (by decide) (fun c_7 => ?_) (fun c_7 => ?_)
    · exact fw_vret hx hb hr hlocks hS hP hI md_Mo_arrives_25 (by simp only [mf_Mo_arrives_1, if_pos c_1, if_pos c_7])
    · refine lv_aload_n hx hb md_Mo_arrives_14 rfl (lv_at hl 0 rfl) ?_
      refine fw_getr hx hb hts i_Mo hown hK hP (mm_0 (by decide)) (mk_0 0) rfl 29 (by decide) (hts _ L_Mo_95) (fun _ h9 => h9) rfl md_Mo_arrives_15 ?_
      refine lv_iload_n hx hb md_Mo_arrives_18 rfl (lv_at hl 1 rfl) ?_
      refine fw_iald hx hb hK hP (mm_30 (by decide)) (mk_30 0) 0 rfl (j := 1) (by decide) (fw_inc (by decide)) md_Mo_arrives_19 ?_
      refine lv_iload hx hb md_Mo_arrives_20 (lv_at hl 4 rfl) ?_
      refine lv_icmp_eq (tgt := 26) hx hb md_Mo_arrives_22 (by decide) (fun c_8 => ?_) (fun c_8 => ?_)
      · refine lv_aload_n hx hb md_Mo_arrives_26 rfl (lv_at hl 0 rfl) ?_
        refine fw_getr hx hb hts i_Mo hown hK hP (mm_0 (by decide)) (mk_0 0) rfl 8 (by decide) (hts _ L_Mo_35) (fun _ h9 => h9) rfl md_Mo_arrives_27 ?_
        refine lv_iconst (v := (0 : Int32)) hx hb md_Mo_arrives_30 (by decide) ?_
        refine lv_iload hx hb md_Mo_arrives_31 (lv_at hl 4 rfl) ?_
        refine fw_iast hx hb hK hD hP hS (mm_9 (by decide)) (mk_9 0) 0 rfl (j := 0) (by decide) (fw_inc (by decide)) md_Mo_arrives_33 (fun v9 H locs ev9 hP hS => ?_)
        have hI : mI b v9 := by rw [ev9]; exact mI_up hI trivial trivial
        refine lv_aload_n hx hb md_Mo_arrives_34 rfl (lv_at hl 0 rfl) ?_
        refine lv_iconst (v := (2 : Int32)) hx hb md_Mo_arrives_35 (by decide) ?_
        refine lv_iconst (v := (0 : Int32)) hx hb md_Mo_arrives_36 (by decide) ?_
        refine lv_iload_n hx hb md_Mo_arrives_37 rfl (lv_at hl 1 rfl) ?_
        refine lv_iconst (v := (2 : Int32)) hx hb md_Mo_arrives_38 (by decide) ?_
        refine fw_cv (va_runV (As := [.int (2 : Int32), .int (0 : Int32), .int (1 : Int32), .int (2 : Int32)]) (rest := []) ⟨hx, hb, hml, hown, hts⟩ (mc_Mo_send l hD v9 hI (2 : Int32) (0 : Int32) (1 : Int32) (2 : Int32) (fun q => absurd q (by decide)) (fun q => absurd q (by decide)) (fun q => absurd q (by decide))) (mw_Mo_send hts L_Mo_197 ⟨Nat.le_of_ble_eq_true rfl, Nat.le_of_ble_eq_true rfl⟩) (fw_preV hN hK hP (mm_0 (by decide)) (mk_0 0) rfl) rfl rfl hl.1 rfl (lv_room (Nat.le_of_ble_eq_true rfl)) md_Mo_arrives_39 ⟨Nat.le_of_ble_eq_true rfl, Nat.le_of_ble_eq_true rfl⟩) hS (fun v10 H locs ev10 hI hP hS => ?_)
        refine lv_goto (tgt := 86) hx hb md_Mo_arrives_42 (by decide) ?_
        exact fw_vret hx hb hr hlocks hS hP hI md_Mo_arrives_86 (by subst ev9 ev10; simp only [mf_Mo_arrives_1, if_pos c_1, if_neg c_7, if_pos c_8])
      · exact fw_vret hx hb hr hlocks hS hP hI md_Mo_arrives_25 (by simp only [mf_Mo_arrives_1, if_pos c_1, if_neg c_7, if_neg c_8])
def mf_Mo_deliver_j7 (v : fw_V) (a1 : Int32) (x2 : Int32) (x3 : Int32) (x4 : Int32) (x5 : Int32) : Int32 × fw_V :=
  ((v 0 0 10), v)
def mf_Mo_deliver_j6 (v : fw_V) (a1 : Int32) (x2 : Int32) (x3 : Int32) (x4 : Int32) (x5 : Int32) : Int32 × fw_V :=
  mf_Mo_deliver_j7 v a1 (x2) (x3) (x4) (x5)
def mf_Mo_deliver_j5 (v : fw_V) (a1 : Int32) (x2 : Int32) (x3 : Int32) (x4 : Int32) (x5 : Int32) : Int32 × fw_V :=
  let v30 := mf_Mo_arrives_1 v x2 x3 x4
  mf_Mo_deliver_j6 v30 a1 (x2) (x3) (x4) (x5)
def mf_Mo_deliver_j4 (v : fw_V) (a1 : Int32) (x2 : Int32) (x3 : Int32) (x4 : Int32) (x5 : Int32) : Int32 × fw_V :=
  if x5 = (1 : Int32) then
    mf_Mo_deliver_j5 v a1 (x2) (x3) (x4) (x5)
  else
    if x5 = (3 : Int32) then
      mf_Mo_deliver_j5 v a1 (x2) (x3) (x4) (x5)
    else
      mf_Mo_deliver_j6 v a1 (x2) (x3) (x4) (x5)
def mf_Mo_deliver_j3 (v : fw_V) (a1 : Int32) (x2 : Int32) (x3 : Int32) (x4 : Int32) (x5 : Int32) : Int32 × fw_V :=
  mf_Mo_deliver_j4 v a1 (x2) (x3) (x4) (x5)
def mf_Mo_deliver_j2 (v : fw_V) (a1 : Int32) (x2 : Int32) (x3 : Int32) (x4 : Int32) (x5 : Int32) : Int32 × fw_V :=
  let v27 := mf_Mo_arrives_0 v x2 x3 x4
  mf_Mo_deliver_j3 v27 a1 (x2) (x3) (x4) (x5)
def mf_Mo_deliver_j1 (v : fw_V) (a1 : Int32) (x2 : Int32) (x3 : Int32) (x4 : Int32) (x5 : Int32) : Int32 × fw_V :=
  if x5 = (0 : Int32) then
    mf_Mo_deliver_j2 v a1 (x2) (x3) (x4) (x5)
  else
    if x5 = (3 : Int32) then
      mf_Mo_deliver_j2 v a1 (x2) (x3) (x4) (x5)
    else
      mf_Mo_deliver_j3 v a1 (x2) (x3) (x4) (x5)
def mf_Mo_deliver (v0 : fw_V) (a1 : Int32) : Int32 × fw_V :=
  let r2 := mf_Mo_is a1 (0 : Int32) ((v0 0 0 10) - (1 : Int32))
  if r2 = (0 : Int32) then
    ((-2 : Int32), v0)
  else
    let v8 := fw_up v0 10 0 (0) (v0 8 0 (((7 : Int32) * a1) + (0 : Int32)).toNatClampNeg)
    let v10 := fw_up v8 10 0 (1) (v8 8 0 (((7 : Int32) * a1) + (1 : Int32)).toNatClampNeg)
    let v12 := fw_up v10 10 0 (2) (v10 8 0 (((7 : Int32) * a1) + (2 : Int32)).toNatClampNeg)
    let v14 := fw_up v12 10 0 (3) (v12 8 0 (((7 : Int32) * a1) + (3 : Int32)).toNatClampNeg)
    let v16 := fw_up v14 10 0 (4) (v14 8 0 (((7 : Int32) * a1) + (4 : Int32)).toNatClampNeg)
    let v18 := fw_up v16 10 0 (5) (v16 8 0 (((7 : Int32) * a1) + (5 : Int32)).toNatClampNeg)
    let v20 := fw_up v18 10 0 (6) (v18 8 0 (((7 : Int32) * a1) + (6 : Int32)).toNatClampNeg)
    let v22 := mf_Mo_remove v20 a1
    let v23 := fw_up v22 0 0 52 ((v22 0 0 52) + (1 : Int32))
    if (v0 7 0 a1.toNatClampNeg) = (2 : Int32) then
      let v35 := mf_Mo_controller v23 (v0 4 0 a1.toNatClampNeg) (v0 5 0 a1.toNatClampNeg) (v0 6 0 a1.toNatClampNeg)
      ((v35 0 0 10), v35)
    else
      mf_Mo_deliver_j1 v23 a1 ((v0 4 0 a1.toNatClampNeg)) ((v0 5 0 a1.toNatClampNeg)) ((v0 6 0 a1.toNatClampNeg)) ((v0 7 0 a1.toNatClampNeg))

set_option maxHeartbeats 4000000 in
set_option maxRecDepth 100000 in
theorem mc_Mo_deliver (l : Launch) {D : va_G} {cA : Nat → ClassId} {ad : Nat → Nat → Nat} (hD : fw_D mCL ad) {b : Nat} (v0 : fw_V) (hI : mI b v0) (a1 : Int32)  : Met l my_Mo_deliver (Cond.code my_Mo_deliver mb_Mo_deliver 7 (some .int) :: vTB) mrm_Mo_deliver (fw_Pc vNL D vcls (vtys cA) mCL cA mkd ad v0 [.ref (ad 0 0), .int a1]) (fw_Qi D vcls mCL cA mkd ad (mI b) (mf_Mo_deliver v0 a1)) 0 0 (fw_A mCL ad) := by
  refine Met.ofW (cc := mb_Mo_deliver) (maxL := 7) (ret := (some .int)) (by decide) rfl ?_
  intro p e s m args below meth c s₁ B hml hv
  obtain ⟨rfl, hP, hK, hN⟩ := hv
  have hx := B.exec
  have hb := B.bytes
  have hr := B.returns
  have hts : ∀ w ∈ vTB, w.before ([.ref (ad 0 0), .int a1] : List Value).toArray s = true := fun w h => atoms_spec (ws := (Cond.code my_Mo_deliver mb_Mo_deliver 7 (some .int) :: vTB)) B.pre w (List.mem_cons_of_mem _ h)
  have hown : s.vm.findClass R_Mo = some m.cls := findClass_of_methodNamed B.named
  have hlocks := B.notSynchronized
  have hS : va_S (fw_A mCL ad) s.heap s.heap [] := va_S.rf
  have hq0 : vp_in a1 16 → (v0 4 0 a1.toNatClampNeg) = (14 : Int32) → vp_in (v0 8 0 (((7 : Int32) * a1) + (0 : Int32)).toNatClampNeg) 3 := mF_14 hI
  have hq1 : vp_in a1 16 → (v0 4 0 a1.toNatClampNeg) = (6 : Int32) → vp_in (v0 6 0 a1.toNatClampNeg) 3 := mF_6 hI
  have hq2 : vp_in a1 16 → (v0 4 0 a1.toNatClampNeg) = (3 : Int32) → (vp_in (v0 8 0 (((7 : Int32) * a1) + (0 : Int32)).toNatClampNeg) 9 ∧ vp_in (v0 8 0 (((7 : Int32) * a1) + (1 : Int32)).toNatClampNeg) 9 ∧ vp_in (v0 8 0 (((7 : Int32) * a1) + (2 : Int32)).toNatClampNeg) 9) := mF_3 hI
  have J7 : ∀ (v : fw_V) (x2 : Int32) (x3 : Int32) (x4 : Int32) (x5 : Int32) (H : Heap) (locs : List Loc) (ls : Array Slot), mf_Mo_deliver v0 a1 = mf_Mo_deliver_j7 v a1 x2 x3 x4 x5 → (x2 = (6 : Int32) → vp_in x4 3) → (x2 = (3 : Int32) → (vp_in (v 10 0 0) 9 ∧ vp_in (v 10 0 1) 9 ∧ vp_in (v 10 0 2) 9)) → mI b v → va_P D vcls (fw_w mCL cA mkd ad v) H → va_S (fw_A mCL ad) s.heap H locs → lv_has ls 7 [(0, .ref (ad 0 0)), (2, .int x2), (3, .int x3), (4, .int x4), (5, .int x5), (6, .int (2 : Int32))] → W p l e (headSpec (Cond.code my_Mo_deliver mb_Mo_deliver 7 (some .int) :: vTB) mrm_Mo_deliver).room s m ([.ref (ad 0 0), .int a1] : List Value).toArray below meth c H locs 0 0 (MQ below (fw_Qi D vcls mCL cA mkd ad (mI b) (mf_Mo_deliver v0 a1)) ([.ref (ad 0 0), .int a1] : List Value).toArray s 0 0 (fw_A mCL ad)) (F0 m 117 ls []) := by
    intro v x2 x3 x4 x5 H locs ls hj hkh0 hkh1 hI hP hS hl
    refine lv_iload hx hb md_Mo_deliver_117 (lv_at hl 5 rfl) ?_
    refine lv_iconst (v := (2 : Int32)) hx hb md_Mo_deliver_119 (by decide) ?_
    refine lv_icmp_ge (tgt := 152) hx hb md_Mo_deliver_120 (by decide) (fun _ => ?_) (fun c_31 => absurd (by decide) c_31)
    refine lv_aload_n hx hb md_Mo_deliver_152 rfl (lv_at hl 0 rfl) ?_
    refine fw_geti hx hb hts i_Mo hown hK hP (mm_0 (by decide)) (mk_0 0) rfl 10 (by decide) (hts _ L_Mo_170) (fun _ h9 => h9) rfl md_Mo_deliver_153 ?_
    have h_32 : vp_in (v 0 0 10) 17 := hI.1 0 0 10
    exact fw_iret hx hb hr hlocks hS hP hI md_Mo_deliver_156 (by rw [hj]; simp only [mf_Mo_deliver_j7])
  have J6 : ∀ (v : fw_V) (x2 : Int32) (x3 : Int32) (x4 : Int32) (x5 : Int32) (H : Heap) (locs : List Loc) (ls : Array Slot), mf_Mo_deliver v0 a1 = mf_Mo_deliver_j6 v a1 x2 x3 x4 x5 → (x2 = (6 : Int32) → vp_in x4 3) → (x2 = (3 : Int32) → (vp_in (v 10 0 0) 9 ∧ vp_in (v 10 0 1) 9 ∧ vp_in (v 10 0 2) 9)) → mI b v → va_P D vcls (fw_w mCL cA mkd ad v) H → va_S (fw_A mCL ad) s.heap H locs → lv_has ls 7 [(0, .ref (ad 0 0)), (2, .int x2), (3, .int x3), (4, .int x4), (5, .int x5), (6, .int (1 : Int32))] → W p l e (headSpec (Cond.code my_Mo_deliver mb_Mo_deliver 7 (some .int) :: vTB) mrm_Mo_deliver).room s m ([.ref (ad 0 0), .int a1] : List Value).toArray below meth c H locs 0 0 (MQ below (fw_Qi D vcls mCL cA mkd ad (mI b) (mf_Mo_deliver v0 a1)) ([.ref (ad 0 0), .int a1] : List Value).toArray s 0 0 (fw_A mCL ad)) (F0 m 146 ls []) := by
    intro v x2 x3 x4 x5 H locs ls hj hkh0 hkh1 hI hP hS hl
    refine lv_iinc (v := (2 : Int32)) (lv' := [(6, .int (2 : Int32)), (0, .ref (ad 0 0)), (2, .int x2), (3, .int x3), (4, .int x4), (5, .int x5)]) hx hb md_Mo_deliver_146 hl (k := 5) rfl (by decide) (by decide) rfl (fun ls hl => ?_)
    refine lv_goto (tgt := 117) hx hb md_Mo_deliver_149 (by decide) ?_
    exact J7 v (x2) (x3) (x4) (x5) _ _ _ (by rw [hj]; simp only [mf_Mo_deliver_j6])  hkh0 (fun q => ⟨(hkh1 q).1, (hkh1 q).2.1, (hkh1 q).2.2⟩) hI hP hS (lv_sub hl [1, 2, 3, 4, 5, 0] rfl)
  have J5 : ∀ (v : fw_V) (x2 : Int32) (x3 : Int32) (x4 : Int32) (x5 : Int32) (H : Heap) (locs : List Loc) (ls : Array Slot), mf_Mo_deliver v0 a1 = mf_Mo_deliver_j5 v a1 x2 x3 x4 x5 → (x2 = (6 : Int32) → vp_in x4 3) → (x2 = (3 : Int32) → (vp_in (v 10 0 0) 9 ∧ vp_in (v 10 0 1) 9 ∧ vp_in (v 10 0 2) 9)) → mI b v → va_P D vcls (fw_w mCL cA mkd ad v) H → va_S (fw_A mCL ad) s.heap H locs → lv_has ls 7 [(0, .ref (ad 0 0)), (2, .int x2), (3, .int x3), (4, .int x4), (5, .int x5), (6, .int (1 : Int32))] → W p l e (headSpec (Cond.code my_Mo_deliver mb_Mo_deliver 7 (some .int) :: vTB) mrm_Mo_deliver).room s m ([.ref (ad 0 0), .int a1] : List Value).toArray below meth c H locs 0 0 (MQ below (fw_Qi D vcls mCL cA mkd ad (mI b) (mf_Mo_deliver v0 a1)) ([.ref (ad 0 0), .int a1] : List Value).toArray s 0 0 (fw_A mCL ad)) (F0 m 136 ls []) := by
    intro v x2 x3 x4 x5 H locs ls hj hkh0 hkh1 hI hP hS hl
    clear J7
    refine lv_aload_n hx hb md_Mo_deliver_136 rfl (lv_at hl 0 rfl) ?_
    refine lv_iload hx hb md_Mo_deliver_137 (lv_at hl 5 rfl) ?_
    refine lv_iload_n hx hb md_Mo_deliver_139 rfl (lv_at hl 1 rfl) ?_
    refine lv_iload_n hx hb md_Mo_deliver_140 rfl (lv_at hl 2 rfl) ?_
    refine lv_iload hx hb md_Mo_deliver_141 (lv_at hl 3 rfl) ?_
    refine fw_cv (va_runV (As := [.int (1 : Int32), .int x2, .int x3, .int x4]) (rest := []) ⟨hx, hb, hml, hown, hts⟩ (mc_Mo_arrives_1 l hD v hI x2 x3 x4 hkh0 (fun q => ⟨(hkh1 q).1, (hkh1 q).2.1, (hkh1 q).2.2⟩)) (mw_Mo_arrives hts L_Mo_193 ⟨Nat.le_of_ble_eq_true rfl, Nat.le_of_ble_eq_true rfl⟩) (fw_preV hN hK hP (mm_0 (by decide)) (mk_0 0) rfl) rfl rfl hl.1 rfl (lv_room (Nat.le_of_ble_eq_true rfl)) md_Mo_deliver_143 ⟨Nat.le_of_ble_eq_true rfl, Nat.le_of_ble_eq_true rfl⟩) hS (fun v30 H locs ev30 hI hP hS => ?_)
    exact J6 v30 (x2) (x3) (x4) (x5) _ _ _ (by rw [hj]; subst ev30; simp only [mf_Mo_deliver_j5])  hkh0 (fun q => ⟨by rw [ev30, mca_Mo_arrives_1]; exact (hkh1 q).1, by rw [ev30, mca_Mo_arrives_1]; exact (hkh1 q).2.1, by rw [ev30, mca_Mo_arrives_1]; exact (hkh1 q).2.2⟩) hI hP hS (lv_sub hl [0, 1, 2, 3, 4, 5] rfl)
  have J4 : ∀ (v : fw_V) (x2 : Int32) (x3 : Int32) (x4 : Int32) (x5 : Int32) (H : Heap) (locs : List Loc) (ls : Array Slot), mf_Mo_deliver v0 a1 = mf_Mo_deliver_j4 v a1 x2 x3 x4 x5 → (x2 = (6 : Int32) → vp_in x4 3) → (x2 = (3 : Int32) → (vp_in (v 10 0 0) 9 ∧ vp_in (v 10 0 1) 9 ∧ vp_in (v 10 0 2) 9)) → mI b v → va_P D vcls (fw_w mCL cA mkd ad v) H → va_S (fw_A mCL ad) s.heap H locs → lv_has ls 7 [(0, .ref (ad 0 0)), (2, .int x2), (3, .int x3), (4, .int x4), (5, .int x5), (6, .int (1 : Int32))] → W p l e (headSpec (Cond.code my_Mo_deliver mb_Mo_deliver 7 (some .int) :: vTB) mrm_Mo_deliver).room s m ([.ref (ad 0 0), .int a1] : List Value).toArray below meth c H locs 0 0 (MQ below (fw_Qi D vcls mCL cA mkd ad (mI b) (mf_Mo_deliver v0 a1)) ([.ref (ad 0 0), .int a1] : List Value).toArray s 0 0 (fw_A mCL ad)) (F0 m 117 ls []) := by
    intro v x2 x3 x4 x5 H locs ls hj hkh0 hkh1 hI hP hS hl
    clear J7
    refine lv_iload hx hb md_Mo_deliver_117 (lv_at hl 5 rfl) ?_
    refine lv_iconst (v := (2 : Int32)) hx hb md_Mo_deliver_119 (by decide) ?_
    refine lv_icmp_ge (tgt := 152) hx hb md_Mo_deliver_120 (by decide) (fun c_28 => absurd c_28 (by decide)) (fun _ => ?_)
    refine lv_iload hx hb md_Mo_deliver_123 (lv_at hl 4 rfl) ?_
    refine lv_iload hx hb md_Mo_deliver_125 (lv_at hl 5 rfl) ?_
    refine lv_icmp_eq (tgt := 136) hx hb md_Mo_deliver_127 (by decide) (fun c_29 => ?_) (fun c_29 => ?_)
    · exact J5 v (x2) (x3) (x4) (x5) _ _ _ (by rw [hj]; simp only [mf_Mo_deliver_j4, if_pos c_29])  hkh0 (fun q => ⟨(hkh1 q).1, (hkh1 q).2.1, (hkh1 q).2.2⟩) hI hP hS (lv_sub hl [0, 1, 2, 3, 4, 5] rfl)
    · refine lv_iload hx hb md_Mo_deliver_130 (lv_at hl 4 rfl) ?_
      refine lv_iconst (v := (3 : Int32)) hx hb md_Mo_deliver_132 (by decide) ?_
      refine lv_icmp_ne (tgt := 146) hx hb md_Mo_deliver_133 (by decide) (fun c_33 => ?_) (fun c_33 => ?_)
      · exact J6 v (x2) (x3) (x4) (x5) _ _ _ (by rw [hj]; simp only [mf_Mo_deliver_j4, if_neg c_29, if_neg c_33])  hkh0 (fun q => ⟨(hkh1 q).1, (hkh1 q).2.1, (hkh1 q).2.2⟩) hI hP hS (lv_sub hl [0, 1, 2, 3, 4, 5] rfl)
      · exact J5 v (x2) (x3) (x4) (x5) _ _ _ (by rw [hj]; simp only [mf_Mo_deliver_j4, if_neg c_29, if_pos c_33])  hkh0 (fun q => ⟨(hkh1 q).1, (hkh1 q).2.1, (hkh1 q).2.2⟩) hI hP hS (lv_sub hl [0, 1, 2, 3, 4, 5] rfl)
  have J3 : ∀ (v : fw_V) (x2 : Int32) (x3 : Int32) (x4 : Int32) (x5 : Int32) (H : Heap) (locs : List Loc) (ls : Array Slot), mf_Mo_deliver v0 a1 = mf_Mo_deliver_j3 v a1 x2 x3 x4 x5 → (x2 = (6 : Int32) → vp_in x4 3) → (x2 = (3 : Int32) → (vp_in (v 10 0 0) 9 ∧ vp_in (v 10 0 1) 9 ∧ vp_in (v 10 0 2) 9)) → mI b v → va_P D vcls (fw_w mCL cA mkd ad v) H → va_S (fw_A mCL ad) s.heap H locs → lv_has ls 7 [(0, .ref (ad 0 0)), (2, .int x2), (3, .int x3), (4, .int x4), (5, .int x5), (6, .int (0 : Int32))] → W p l e (headSpec (Cond.code my_Mo_deliver mb_Mo_deliver 7 (some .int) :: vTB) mrm_Mo_deliver).room s m ([.ref (ad 0 0), .int a1] : List Value).toArray below meth c H locs 0 0 (MQ below (fw_Qi D vcls mCL cA mkd ad (mI b) (mf_Mo_deliver v0 a1)) ([.ref (ad 0 0), .int a1] : List Value).toArray s 0 0 (fw_A mCL ad)) (F0 m 146 ls []) := by
    intro v x2 x3 x4 x5 H locs ls hj hkh0 hkh1 hI hP hS hl
    clear J7 J6 J5
    refine lv_iinc (v := (1 : Int32)) (lv' := [(6, .int (1 : Int32)), (0, .ref (ad 0 0)), (2, .int x2), (3, .int x3), (4, .int x4), (5, .int x5)]) hx hb md_Mo_deliver_146 hl (k := 5) rfl (by decide) (by decide) rfl (fun ls hl => ?_)
    refine lv_goto (tgt := 117) hx hb md_Mo_deliver_149 (by decide) ?_
    exact J4 v (x2) (x3) (x4) (x5) _ _ _ (by rw [hj]; simp only [mf_Mo_deliver_j3])  hkh0 (fun q => ⟨(hkh1 q).1, (hkh1 q).2.1, (hkh1 q).2.2⟩) hI hP hS (lv_sub hl [1, 2, 3, 4, 5, 0] rfl)
  have J2 : ∀ (v : fw_V) (x2 : Int32) (x3 : Int32) (x4 : Int32) (x5 : Int32) (H : Heap) (locs : List Loc) (ls : Array Slot), mf_Mo_deliver v0 a1 = mf_Mo_deliver_j2 v a1 x2 x3 x4 x5 → (x2 = (6 : Int32) → vp_in x4 3) → (x2 = (3 : Int32) → (vp_in (v 10 0 0) 9 ∧ vp_in (v 10 0 1) 9 ∧ vp_in (v 10 0 2) 9)) → mI b v → va_P D vcls (fw_w mCL cA mkd ad v) H → va_S (fw_A mCL ad) s.heap H locs → lv_has ls 7 [(0, .ref (ad 0 0)), (2, .int x2), (3, .int x3), (4, .int x4), (5, .int x5), (6, .int (0 : Int32))] → W p l e (headSpec (Cond.code my_Mo_deliver mb_Mo_deliver 7 (some .int) :: vTB) mrm_Mo_deliver).room s m ([.ref (ad 0 0), .int a1] : List Value).toArray below meth c H locs 0 0 (MQ below (fw_Qi D vcls mCL cA mkd ad (mI b) (mf_Mo_deliver v0 a1)) ([.ref (ad 0 0), .int a1] : List Value).toArray s 0 0 (fw_A mCL ad)) (F0 m 136 ls []) := by
    intro v x2 x3 x4 x5 H locs ls hj hkh0 hkh1 hI hP hS hl
    clear J7 J6 J5 J4
    refine lv_aload_n hx hb md_Mo_deliver_136 rfl (lv_at hl 0 rfl) ?_
    refine lv_iload hx hb md_Mo_deliver_137 (lv_at hl 5 rfl) ?_
    refine lv_iload_n hx hb md_Mo_deliver_139 rfl (lv_at hl 1 rfl) ?_
    refine lv_iload_n hx hb md_Mo_deliver_140 rfl (lv_at hl 2 rfl) ?_
    refine lv_iload hx hb md_Mo_deliver_141 (lv_at hl 3 rfl) ?_
    refine fw_cv (va_runV (As := [.int (0 : Int32), .int x2, .int x3, .int x4]) (rest := []) ⟨hx, hb, hml, hown, hts⟩ (mc_Mo_arrives_0 l hD v hI x2 x3 x4 hkh0 (fun q => ⟨(hkh1 q).1, (hkh1 q).2.1, (hkh1 q).2.2⟩)) (mw_Mo_arrives hts L_Mo_193 ⟨Nat.le_of_ble_eq_true rfl, Nat.le_of_ble_eq_true rfl⟩) (fw_preV hN hK hP (mm_0 (by decide)) (mk_0 0) rfl) rfl rfl hl.1 rfl (lv_room (Nat.le_of_ble_eq_true rfl)) md_Mo_deliver_143 ⟨Nat.le_of_ble_eq_true rfl, Nat.le_of_ble_eq_true rfl⟩) hS (fun v27 H locs ev27 hI hP hS => ?_)
    exact J3 v27 (x2) (x3) (x4) (x5) _ _ _ (by rw [hj]; subst ev27; simp only [mf_Mo_deliver_j2])  hkh0 (fun q => ⟨by rw [ev27, mca_Mo_arrives_0]; exact (hkh1 q).1, by rw [ev27, mca_Mo_arrives_0]; exact (hkh1 q).2.1, by rw [ev27, mca_Mo_arrives_0]; exact (hkh1 q).2.2⟩) hI hP hS (lv_sub hl [0, 1, 2, 3, 4, 5] rfl)
  have J1 : ∀ (v : fw_V) (x2 : Int32) (x3 : Int32) (x4 : Int32) (x5 : Int32) (H : Heap) (locs : List Loc) (ls : Array Slot), mf_Mo_deliver v0 a1 = mf_Mo_deliver_j1 v a1 x2 x3 x4 x5 → (x2 = (6 : Int32) → vp_in x4 3) → (x2 = (3 : Int32) → (vp_in (v 10 0 0) 9 ∧ vp_in (v 10 0 1) 9 ∧ vp_in (v 10 0 2) 9)) → mI b v → va_P D vcls (fw_w mCL cA mkd ad v) H → va_S (fw_A mCL ad) s.heap H locs → lv_has ls 7 [(0, .ref (ad 0 0)), (2, .int x2), (3, .int x3), (4, .int x4), (5, .int x5), (6, .int (0 : Int32))] → W p l e (headSpec (Cond.code my_Mo_deliver mb_Mo_deliver 7 (some .int) :: vTB) mrm_Mo_deliver).room s m ([.ref (ad 0 0), .int a1] : List Value).toArray below meth c H locs 0 0 (MQ below (fw_Qi D vcls mCL cA mkd ad (mI b) (mf_Mo_deliver v0 a1)) ([.ref (ad 0 0), .int a1] : List Value).toArray s 0 0 (fw_A mCL ad)) (F0 m 117 ls []) := by
    intro v x2 x3 x4 x5 H locs ls hj hkh0 hkh1 hI hP hS hl
    clear J7 J6 J5 J4
    refine lv_iload hx hb md_Mo_deliver_117 (lv_at hl 5 rfl) ?_
    refine lv_iconst (v := (2 : Int32)) hx hb md_Mo_deliver_119 (by decide) ?_
    refine lv_icmp_ge (tgt := 152) hx hb md_Mo_deliver_120 (by decide) (fun c_25 => absurd c_25 (by decide)) (fun _ => ?_)
    refine lv_iload hx hb md_Mo_deliver_123 (lv_at hl 4 rfl) ?_
    refine lv_iload hx hb md_Mo_deliver_125 (lv_at hl 5 rfl) ?_
    refine lv_icmp_eq (tgt := 136) hx hb md_Mo_deliver_127 (by decide) (fun c_26 => ?_) (fun c_26 => ?_)
    · exact J2 v (x2) (x3) (x4) (x5) _ _ _ (by rw [hj]; simp only [mf_Mo_deliver_j1, if_pos c_26])  hkh0 (fun q => ⟨(hkh1 q).1, (hkh1 q).2.1, (hkh1 q).2.2⟩) hI hP hS (lv_sub hl [0, 1, 2, 3, 4, 5] rfl)
    · refine lv_iload hx hb md_Mo_deliver_130 (lv_at hl 4 rfl) ?_
      refine lv_iconst (v := (3 : Int32)) hx hb md_Mo_deliver_132 (by decide) ?_
      refine lv_icmp_ne (tgt := 146) hx hb md_Mo_deliver_133 (by decide) (fun c_34 => ?_) (fun c_34 => ?_)
      · exact J3 v (x2) (x3) (x4) (x5) _ _ _ (by rw [hj]; simp only [mf_Mo_deliver_j1, if_neg c_26, if_neg c_34])  hkh0 (fun q => ⟨(hkh1 q).1, (hkh1 q).2.1, (hkh1 q).2.2⟩) hI hP hS (lv_sub hl [0, 1, 2, 3, 4, 5] rfl)
      · exact J2 v (x2) (x3) (x4) (x5) _ _ _ (by rw [hj]; simp only [mf_Mo_deliver_j1, if_neg c_26, if_pos c_34])  hkh0 (fun q => ⟨(hkh1 q).1, (hkh1 q).2.1, (hkh1 q).2.2⟩) hI hP hS (lv_sub hl [0, 1, 2, 3, 4, 5] rfl)
  clear J7 J6 J5 J4 J3 J2
  have hl := lv_entry ([.ref (ad 0 0), .int a1]) (n := 7) (Nat.le_of_ble_eq_true rfl)
  rw [lg_entry_eq]
  generalize (lg_sl ([.ref (ad 0 0), .int a1]) ++ List.replicate (7 - (lg_sl ([.ref (ad 0 0), .int a1])).length) Slot.unset).toArray = ls at hl ⊢
  have hl : lv_has ls 7 [(0, .ref (ad 0 0)), (1, .int a1)] := hl
  refine lv_iload_n hx hb md_Mo_deliver_0 rfl (lv_at hl 1 rfl) ?_
  refine lv_iconst (v := (0 : Int32)) hx hb md_Mo_deliver_1 (by decide) ?_
  refine lv_aload_n hx hb md_Mo_deliver_2 rfl (lv_at hl 0 rfl) ?_
  refine fw_geti hx hb hts i_Mo hown hK hP (mm_0 (by decide)) (mk_0 0) rfl 10 (by decide) (hts _ L_Mo_170) (fun _ h9 => h9) rfl md_Mo_deliver_3 ?_
  have h_1 : vp_in (v0 0 0 10) 17 := hI.1 0 0 10
  refine lv_iconst (v := (1 : Int32)) hx hb md_Mo_deliver_6 (by decide) ?_
  refine lv_isub hx hb md_Mo_deliver_7 ?_
  refine fw_cb (va_runS (As := [.int a1, .int (0 : Int32), .int ((v0 0 0 10) - (1 : Int32))]) (rest := []) ⟨hx, hb, hml, hown, hts⟩ (mc_Mo_is l hD v0 hI a1 (0 : Int32) ((v0 0 0 10) - (1 : Int32))) (mw_Mo_is hts L_Mo_155 ⟨Nat.le_of_ble_eq_true rfl, Nat.le_of_ble_eq_true rfl⟩) (fw_preS hN hK hP) rfl rfl hl.1 rfl (lv_room (Nat.le_of_ble_eq_true rfl)) md_Mo_deliver_8 ⟨Nat.le_of_ble_eq_true rfl, Nat.le_of_ble_eq_true rfl⟩) hS (fun r2 H locs zr2 er2 hP hS => ?_)
  refine lv_if_ne (tgt := 17) hx hb md_Mo_deliver_11 (by decide) (fun c_3 => ?_) (fun c_3 => ?_)
  · have h_4 : vp_in a1 16 := mp_has er2 c_3 (hI.1 0 0 10)
    have h_5 : 0 < (v0 0 0 10).toInt := mp_hasPos er2 c_3 (hI.1 0 0 10)
    have h_6 : a1.toInt < (v0 0 0 10).toInt := mp_hasLt er2 c_3 (hI.1 0 0 10)
    refine lv_aload_n hx hb md_Mo_deliver_17 rfl (lv_at hl 0 rfl) ?_
    refine fw_getr hx hb hts i_Mo hown hK hP (mm_0 (by decide)) (mk_0 0) rfl 3 (by decide) (hts _ L_Mo_20) (fun _ h9 => h9) rfl md_Mo_deliver_18 ?_
    refine lv_iload_n hx hb md_Mo_deliver_21 rfl (lv_at hl 1 rfl) ?_
    refine fw_iald hx hb hK hP (mm_4 (by decide)) (mk_4 0) 0 rfl (j := a1.toNatClampNeg) rfl h_4 md_Mo_deliver_22 ?_
    refine lv_istore_n (lv' := [(2, .int (v0 4 0 a1.toNatClampNeg)), (0, .ref (ad 0 0)), (1, .int a1)]) hx hb md_Mo_deliver_23 rfl hl (by decide) rfl (fun ls hl => ?_)
    refine lv_aload_n hx hb md_Mo_deliver_24 rfl (lv_at hl 1 rfl) ?_
    refine fw_getr hx hb hts i_Mo hown hK hP (mm_0 (by decide)) (mk_0 0) rfl 4 (by decide) (hts _ L_Mo_23) (fun _ h9 => h9) rfl md_Mo_deliver_25 ?_
    refine lv_iload_n hx hb md_Mo_deliver_28 rfl (lv_at hl 2 rfl) ?_
    refine fw_iald hx hb hK hP (mm_5 (by decide)) (mk_5 0) 0 rfl (j := a1.toNatClampNeg) rfl h_4 md_Mo_deliver_29 ?_
    refine lv_istore_n (lv' := [(3, .int (v0 5 0 a1.toNatClampNeg)), (2, .int (v0 4 0 a1.toNatClampNeg)), (0, .ref (ad 0 0)), (1, .int a1)]) hx hb md_Mo_deliver_30 rfl hl (by decide) rfl (fun ls hl => ?_)
    refine lv_aload_n hx hb md_Mo_deliver_31 rfl (lv_at hl 2 rfl) ?_
    refine fw_getr hx hb hts i_Mo hown hK hP (mm_0 (by decide)) (mk_0 0) rfl 5 (by decide) (hts _ L_Mo_26) (fun _ h9 => h9) rfl md_Mo_deliver_32 ?_
    refine lv_iload_n hx hb md_Mo_deliver_35 rfl (lv_at hl 3 rfl) ?_
    refine fw_iald hx hb hK hP (mm_6 (by decide)) (mk_6 0) 0 rfl (j := a1.toNatClampNeg) rfl h_4 md_Mo_deliver_36 ?_
    refine lv_istore (lv' := [(4, .int (v0 6 0 a1.toNatClampNeg)), (3, .int (v0 5 0 a1.toNatClampNeg)), (2, .int (v0 4 0 a1.toNatClampNeg)), (0, .ref (ad 0 0)), (1, .int a1)]) hx hb md_Mo_deliver_37 hl (by decide) rfl (fun ls hl => ?_)
    refine lv_aload_n hx hb md_Mo_deliver_39 rfl (lv_at hl 3 rfl) ?_
    refine fw_getr hx hb hts i_Mo hown hK hP (mm_0 (by decide)) (mk_0 0) rfl 6 (by decide) (hts _ L_Mo_29) (fun _ h9 => h9) rfl md_Mo_deliver_40 ?_
    refine lv_iload_n hx hb md_Mo_deliver_43 rfl (lv_at hl 4 rfl) ?_
    refine fw_iald hx hb hK hP (mm_7 (by decide)) (mk_7 0) 0 rfl (j := a1.toNatClampNeg) rfl h_4 md_Mo_deliver_44 ?_
    refine lv_istore (lv' := [(5, .int (v0 7 0 a1.toNatClampNeg)), (4, .int (v0 6 0 a1.toNatClampNeg)), (3, .int (v0 5 0 a1.toNatClampNeg)), (2, .int (v0 4 0 a1.toNatClampNeg)), (0, .ref (ad 0 0)), (1, .int a1)]) hx hb md_Mo_deliver_45 hl (by decide) rfl (fun ls hl => ?_)
    refine lv_iconst (v := (0 : Int32)) hx hb md_Mo_deliver_47 (by decide) ?_
    refine lv_istore (lv' := [(6, .int (0 : Int32)), (5, .int (v0 7 0 a1.toNatClampNeg)), (4, .int (v0 6 0 a1.toNatClampNeg)), (3, .int (v0 5 0 a1.toNatClampNeg)), (2, .int (v0 4 0 a1.toNatClampNeg)), (0, .ref (ad 0 0)), (1, .int a1)]) hx hb md_Mo_deliver_48 hl (by decide) rfl (fun ls hl => ?_)
    refine lv_iload hx hb md_Mo_deliver_50 (lv_at hl 0 rfl) ?_
    refine lv_bipush (v := (7 : Int32)) hx hb md_Mo_deliver_52 (by decide) ?_
    refine lv_icmp_ge (tgt := 82) hx hb md_Mo_deliver_54 (by decide) (fun c_7 => absurd c_7 (by decide)) (fun _ => ?_)
    refine lv_aload_n hx hb md_Mo_deliver_57 rfl (lv_at hl 5 rfl) ?_
    refine fw_getr hx hb hts i_Mo hown hK hP (mm_0 (by decide)) (mk_0 0) rfl 9 (by decide) (hts _ L_Mo_38) (fun _ h9 => h9) rfl md_Mo_deliver_58 ?_
    refine lv_iload hx hb md_Mo_deliver_61 (lv_at hl 0 rfl) ?_
    refine lv_aload_n hx hb md_Mo_deliver_63 rfl (lv_at hl 5 rfl) ?_
    refine fw_getr hx hb hts i_Mo hown hK hP (mm_0 (by decide)) (mk_0 0) rfl 7 (by decide) (hts _ L_Mo_32) (fun _ h9 => h9) rfl md_Mo_deliver_64 ?_
    refine lv_bipush (v := (7 : Int32)) hx hb md_Mo_deliver_67 (by decide) ?_
    refine lv_iload_n hx hb md_Mo_deliver_69 rfl (lv_at hl 6 rfl) ?_
    refine lv_imul hx hb md_Mo_deliver_70 ?_
    refine lv_iload hx hb md_Mo_deliver_71 (lv_at hl 0 rfl) ?_
    refine lv_iadd hx hb md_Mo_deliver_73 ?_
    refine fw_iald hx hb hK hP (mm_8 (by decide)) (mk_8 0) 0 rfl (j := (((7 : Int32) * a1) + (0 : Int32)).toNatClampNeg) rfl (fw_inm (fw_inadd2 (n := 106) (m := 1) (t := 106) (fw_inmul (c := (7 : Int32)) (k := 7) (n := 16) (m := 106) rfl h_4 (by decide) (by decide)) (fw_inc (by decide)) (by decide)) (by decide)) md_Mo_deliver_74 ?_
    refine fw_iast hx hb hK hD hP hS (mm_10 (by decide)) (mk_10 0) 0 rfl (j := 0) (by decide) (fw_inc (by decide)) md_Mo_deliver_75 (fun v8 H locs ev8 hP hS => ?_)
    have hI : mI b v8 := by rw [ev8]; exact mI_up hI trivial trivial
    refine lv_iinc (v := (1 : Int32)) (lv' := [(6, .int (1 : Int32)), (5, .int (v0 7 0 a1.toNatClampNeg)), (4, .int (v0 6 0 a1.toNatClampNeg)), (3, .int (v0 5 0 a1.toNatClampNeg)), (2, .int (v0 4 0 a1.toNatClampNeg)), (0, .ref (ad 0 0)), (1, .int a1)]) hx hb md_Mo_deliver_76 hl (k := 0) rfl (by decide) (by decide) rfl (fun ls hl => ?_)
    refine lv_goto (tgt := 50) hx hb md_Mo_deliver_79 (by decide) ?_
    refine lv_iload hx hb md_Mo_deliver_50 (lv_at hl 0 rfl) ?_
    refine lv_bipush (v := (7 : Int32)) hx hb md_Mo_deliver_52 (by decide) ?_
    refine lv_icmp_ge (tgt := 82) hx hb md_Mo_deliver_54 (by decide) (fun c_9 => absurd c_9 (by decide)) (fun _ => ?_)
    refine lv_aload_n hx hb md_Mo_deliver_57 rfl (lv_at hl 5 rfl) ?_
    refine fw_getr hx hb hts i_Mo hown hK hP (mm_0 (by decide)) (mk_0 0) rfl 9 (by decide) (hts _ L_Mo_38) (fun _ h9 => h9) rfl md_Mo_deliver_58 ?_
    refine lv_iload hx hb md_Mo_deliver_61 (lv_at hl 0 rfl) ?_
    refine lv_aload_n hx hb md_Mo_deliver_63 rfl (lv_at hl 5 rfl) ?_
    refine fw_getr hx hb hts i_Mo hown hK hP (mm_0 (by decide)) (mk_0 0) rfl 7 (by decide) (hts _ L_Mo_32) (fun _ h9 => h9) rfl md_Mo_deliver_64 ?_
    refine lv_bipush (v := (7 : Int32)) hx hb md_Mo_deliver_67 (by decide) ?_
    refine lv_iload_n hx hb md_Mo_deliver_69 rfl (lv_at hl 6 rfl) ?_
    refine lv_imul hx hb md_Mo_deliver_70 ?_
    refine lv_iload hx hb md_Mo_deliver_71 (lv_at hl 0 rfl) ?_
    refine lv_iadd hx hb md_Mo_deliver_73 ?_
    refine fw_iald hx hb hK hP (mm_8 (by decide)) (mk_8 0) 0 rfl (j := (((7 : Int32) * a1) + (1 : Int32)).toNatClampNeg) rfl (fw_inp1 (fw_inm (fw_inmul (c := (7 : Int32)) (k := 7) (n := 16) (m := 106) rfl h_4 (by decide) (by decide)) (by decide)) (by decide)) md_Mo_deliver_74 ?_
    refine fw_iast hx hb hK hD hP hS (mm_10 (by decide)) (mk_10 0) 0 rfl (j := 1) (by decide) (fw_inc (by decide)) md_Mo_deliver_75 (fun v10 H locs ev10 hP hS => ?_)
    have hI : mI b v10 := by rw [ev10]; exact mI_up hI trivial trivial
    refine lv_iinc (v := (2 : Int32)) (lv' := [(6, .int (2 : Int32)), (5, .int (v0 7 0 a1.toNatClampNeg)), (4, .int (v0 6 0 a1.toNatClampNeg)), (3, .int (v0 5 0 a1.toNatClampNeg)), (2, .int (v0 4 0 a1.toNatClampNeg)), (0, .ref (ad 0 0)), (1, .int a1)]) hx hb md_Mo_deliver_76 hl (k := 0) rfl (by decide) (by decide) rfl (fun ls hl => ?_)
    refine lv_goto (tgt := 50) hx hb md_Mo_deliver_79 (by decide) ?_
    refine lv_iload hx hb md_Mo_deliver_50 (lv_at hl 0 rfl) ?_
    refine lv_bipush (v := (7 : Int32)) hx hb md_Mo_deliver_52 (by decide) ?_
    refine lv_icmp_ge (tgt := 82) hx hb md_Mo_deliver_54 (by decide) (fun c_11 => absurd c_11 (by decide)) (fun _ => ?_)
    refine lv_aload_n hx hb md_Mo_deliver_57 rfl (lv_at hl 5 rfl) ?_
    refine fw_getr hx hb hts i_Mo hown hK hP (mm_0 (by decide)) (mk_0 0) rfl 9 (by decide) (hts _ L_Mo_38) (fun _ h9 => h9) rfl md_Mo_deliver_58 ?_
    refine lv_iload hx hb md_Mo_deliver_61 (lv_at hl 0 rfl) ?_
    refine lv_aload_n hx hb md_Mo_deliver_63 rfl (lv_at hl 5 rfl) ?_
    refine fw_getr hx hb hts i_Mo hown hK hP (mm_0 (by decide)) (mk_0 0) rfl 7 (by decide) (hts _ L_Mo_32) (fun _ h9 => h9) rfl md_Mo_deliver_64 ?_
    refine lv_bipush (v := (7 : Int32)) hx hb md_Mo_deliver_67 (by decide) ?_
    refine lv_iload_n hx hb md_Mo_deliver_69 rfl (lv_at hl 6 rfl) ?_
    refine lv_imul hx hb md_Mo_deliver_70 ?_
    refine lv_iload hx hb md_Mo_deliver_71 (lv_at hl 0 rfl) ?_
    refine lv_iadd hx hb md_Mo_deliver_73 ?_
    refine fw_iald hx hb hK hP (mm_8 (by decide)) (mk_8 0) 0 rfl (j := (((7 : Int32) * a1) + (2 : Int32)).toNatClampNeg) rfl (fw_inm (fw_inadd2 (n := 106) (m := 3) (t := 108) (fw_inmul (c := (7 : Int32)) (k := 7) (n := 16) (m := 106) rfl h_4 (by decide) (by decide)) (fw_inc (by decide)) (by decide)) (by decide)) md_Mo_deliver_74 ?_
    refine fw_iast hx hb hK hD hP hS (mm_10 (by decide)) (mk_10 0) 0 rfl (j := 2) (by decide) (fw_inc (by decide)) md_Mo_deliver_75 (fun v12 H locs ev12 hP hS => ?_)
    have hI : mI b v12 := by rw [ev12]; exact mI_up hI trivial trivial
    refine lv_iinc (v := (3 : Int32)) (lv' := [(6, .int (3 : Int32)), (5, .int (v0 7 0 a1.toNatClampNeg)), (4, .int (v0 6 0 a1.toNatClampNeg)), (3, .int (v0 5 0 a1.toNatClampNeg)), (2, .int (v0 4 0 a1.toNatClampNeg)), (0, .ref (ad 0 0)), (1, .int a1)]) hx hb md_Mo_deliver_76 hl (k := 0) rfl (by decide) (by decide) rfl (fun ls hl => ?_)
    refine lv_goto (tgt := 50) hx hb md_Mo_deliver_79 (by decide) ?_
    refine lv_iload hx hb md_Mo_deliver_50 (lv_at hl 0 rfl) ?_
    refine lv_bipush (v := (7 : Int32)) hx hb md_Mo_deliver_52 (by decide) ?_
    refine lv_icmp_ge (tgt := 82) hx hb md_Mo_deliver_54 (by decide) (fun c_13 => absurd c_13 (by decide)) (fun _ => ?_)
    refine lv_aload_n hx hb md_Mo_deliver_57 rfl (lv_at hl 5 rfl) ?_
    refine fw_getr hx hb hts i_Mo hown hK hP (mm_0 (by decide)) (mk_0 0) rfl 9 (by decide) (hts _ L_Mo_38) (fun _ h9 => h9) rfl md_Mo_deliver_58 ?_
    refine lv_iload hx hb md_Mo_deliver_61 (lv_at hl 0 rfl) ?_
    refine lv_aload_n hx hb md_Mo_deliver_63 rfl (lv_at hl 5 rfl) ?_
    refine fw_getr hx hb hts i_Mo hown hK hP (mm_0 (by decide)) (mk_0 0) rfl 7 (by decide) (hts _ L_Mo_32) (fun _ h9 => h9) rfl md_Mo_deliver_64 ?_
    refine lv_bipush (v := (7 : Int32)) hx hb md_Mo_deliver_67 (by decide) ?_
    refine lv_iload_n hx hb md_Mo_deliver_69 rfl (lv_at hl 6 rfl) ?_
    refine lv_imul hx hb md_Mo_deliver_70 ?_
    refine lv_iload hx hb md_Mo_deliver_71 (lv_at hl 0 rfl) ?_
    refine lv_iadd hx hb md_Mo_deliver_73 ?_
    refine fw_iald hx hb hK hP (mm_8 (by decide)) (mk_8 0) 0 rfl (j := (((7 : Int32) * a1) + (3 : Int32)).toNatClampNeg) rfl (fw_inm (fw_inadd2 (n := 106) (m := 4) (t := 109) (fw_inmul (c := (7 : Int32)) (k := 7) (n := 16) (m := 106) rfl h_4 (by decide) (by decide)) (fw_inc (by decide)) (by decide)) (by decide)) md_Mo_deliver_74 ?_
    refine fw_iast hx hb hK hD hP hS (mm_10 (by decide)) (mk_10 0) 0 rfl (j := 3) (by decide) (fw_inc (by decide)) md_Mo_deliver_75 (fun v14 H locs ev14 hP hS => ?_)
    have hI : mI b v14 := by rw [ev14]; exact mI_up hI trivial trivial
    refine lv_iinc (v := (4 : Int32)) (lv' := [(6, .int (4 : Int32)), (5, .int (v0 7 0 a1.toNatClampNeg)), (4, .int (v0 6 0 a1.toNatClampNeg)), (3, .int (v0 5 0 a1.toNatClampNeg)), (2, .int (v0 4 0 a1.toNatClampNeg)), (0, .ref (ad 0 0)), (1, .int a1)]) hx hb md_Mo_deliver_76 hl (k := 0) rfl (by decide) (by decide) rfl (fun ls hl => ?_)
    refine lv_goto (tgt := 50) hx hb md_Mo_deliver_79 (by decide) ?_
    refine lv_iload hx hb md_Mo_deliver_50 (lv_at hl 0 rfl) ?_
    refine lv_bipush (v := (7 : Int32)) hx hb md_Mo_deliver_52 (by decide) ?_
    refine lv_icmp_ge (tgt := 82) hx hb md_Mo_deliver_54 (by decide) (fun c_15 => absurd c_15 (by decide)) (fun _ => ?_)
    refine lv_aload_n hx hb md_Mo_deliver_57 rfl (lv_at hl 5 rfl) ?_
    refine fw_getr hx hb hts i_Mo hown hK hP (mm_0 (by decide)) (mk_0 0) rfl 9 (by decide) (hts _ L_Mo_38) (fun _ h9 => h9) rfl md_Mo_deliver_58 ?_
    refine lv_iload hx hb md_Mo_deliver_61 (lv_at hl 0 rfl) ?_
    refine lv_aload_n hx hb md_Mo_deliver_63 rfl (lv_at hl 5 rfl) ?_
    refine fw_getr hx hb hts i_Mo hown hK hP (mm_0 (by decide)) (mk_0 0) rfl 7 (by decide) (hts _ L_Mo_32) (fun _ h9 => h9) rfl md_Mo_deliver_64 ?_
    refine lv_bipush (v := (7 : Int32)) hx hb md_Mo_deliver_67 (by decide) ?_
    refine lv_iload_n hx hb md_Mo_deliver_69 rfl (lv_at hl 6 rfl) ?_
    refine lv_imul hx hb md_Mo_deliver_70 ?_
    refine lv_iload hx hb md_Mo_deliver_71 (lv_at hl 0 rfl) ?_
    refine lv_iadd hx hb md_Mo_deliver_73 ?_
    refine fw_iald hx hb hK hP (mm_8 (by decide)) (mk_8 0) 0 rfl (j := (((7 : Int32) * a1) + (4 : Int32)).toNatClampNeg) rfl (fw_inm (fw_inadd2 (n := 106) (m := 5) (t := 110) (fw_inmul (c := (7 : Int32)) (k := 7) (n := 16) (m := 106) rfl h_4 (by decide) (by decide)) (fw_inc (by decide)) (by decide)) (by decide)) md_Mo_deliver_74 ?_
    refine fw_iast hx hb hK hD hP hS (mm_10 (by decide)) (mk_10 0) 0 rfl (j := 4) (by decide) (fw_inc (by decide)) md_Mo_deliver_75 (fun v16 H locs ev16 hP hS => ?_)
    have hI : mI b v16 := by rw [ev16]; exact mI_up hI trivial trivial
    refine lv_iinc (v := (5 : Int32)) (lv' := [(6, .int (5 : Int32)), (5, .int (v0 7 0 a1.toNatClampNeg)), (4, .int (v0 6 0 a1.toNatClampNeg)), (3, .int (v0 5 0 a1.toNatClampNeg)), (2, .int (v0 4 0 a1.toNatClampNeg)), (0, .ref (ad 0 0)), (1, .int a1)]) hx hb md_Mo_deliver_76 hl (k := 0) rfl (by decide) (by decide) rfl (fun ls hl => ?_)
    refine lv_goto (tgt := 50) hx hb md_Mo_deliver_79 (by decide) ?_
    refine lv_iload hx hb md_Mo_deliver_50 (lv_at hl 0 rfl) ?_
    refine lv_bipush (v := (7 : Int32)) hx hb md_Mo_deliver_52 (by decide) ?_
    refine lv_icmp_ge (tgt := 82) hx hb md_Mo_deliver_54 (by decide) (fun c_17 => absurd c_17 (by decide)) (fun _ => ?_)
    refine lv_aload_n hx hb md_Mo_deliver_57 rfl (lv_at hl 5 rfl) ?_
    refine fw_getr hx hb hts i_Mo hown hK hP (mm_0 (by decide)) (mk_0 0) rfl 9 (by decide) (hts _ L_Mo_38) (fun _ h9 => h9) rfl md_Mo_deliver_58 ?_
    refine lv_iload hx hb md_Mo_deliver_61 (lv_at hl 0 rfl) ?_
    refine lv_aload_n hx hb md_Mo_deliver_63 rfl (lv_at hl 5 rfl) ?_
    refine fw_getr hx hb hts i_Mo hown hK hP (mm_0 (by decide)) (mk_0 0) rfl 7 (by decide) (hts _ L_Mo_32) (fun _ h9 => h9) rfl md_Mo_deliver_64 ?_
    refine lv_bipush (v := (7 : Int32)) hx hb md_Mo_deliver_67 (by decide) ?_
    refine lv_iload_n hx hb md_Mo_deliver_69 rfl (lv_at hl 6 rfl) ?_
    refine lv_imul hx hb md_Mo_deliver_70 ?_
    refine lv_iload hx hb md_Mo_deliver_71 (lv_at hl 0 rfl) ?_
    refine lv_iadd hx hb md_Mo_deliver_73 ?_
    refine fw_iald hx hb hK hP (mm_8 (by decide)) (mk_8 0) 0 rfl (j := (((7 : Int32) * a1) + (5 : Int32)).toNatClampNeg) rfl (fw_inm (fw_inadd2 (n := 106) (m := 6) (t := 111) (fw_inmul (c := (7 : Int32)) (k := 7) (n := 16) (m := 106) rfl h_4 (by decide) (by decide)) (fw_inc (by decide)) (by decide)) (by decide)) md_Mo_deliver_74 ?_
    refine fw_iast hx hb hK hD hP hS (mm_10 (by decide)) (mk_10 0) 0 rfl (j := 5) (by decide) (fw_inc (by decide)) md_Mo_deliver_75 (fun v18 H locs ev18 hP hS => ?_)
    have hI : mI b v18 := by rw [ev18]; exact mI_up hI trivial trivial
    refine lv_iinc (v := (6 : Int32)) (lv' := [(6, .int (6 : Int32)), (5, .int (v0 7 0 a1.toNatClampNeg)), (4, .int (v0 6 0 a1.toNatClampNeg)), (3, .int (v0 5 0 a1.toNatClampNeg)), (2, .int (v0 4 0 a1.toNatClampNeg)), (0, .ref (ad 0 0)), (1, .int a1)]) hx hb md_Mo_deliver_76 hl (k := 0) rfl (by decide) (by decide) rfl (fun ls hl => ?_)
    refine lv_goto (tgt := 50) hx hb md_Mo_deliver_79 (by decide) ?_
    refine lv_iload hx hb md_Mo_deliver_50 (lv_at hl 0 rfl) ?_
    refine lv_bipush (v := (7 : Int32)) hx hb md_Mo_deliver_52 (by decide) ?_
    refine lv_icmp_ge (tgt := 82) hx hb md_Mo_deliver_54 (by decide) (fun c_19 => absurd c_19 (by decide)) (fun _ => ?_)
    refine lv_aload_n hx hb md_Mo_deliver_57 rfl (lv_at hl 5 rfl) ?_
    refine fw_getr hx hb hts i_Mo hown hK hP (mm_0 (by decide)) (mk_0 0) rfl 9 (by decide) (hts _ L_Mo_38) (fun _ h9 => h9) rfl md_Mo_deliver_58 ?_
    refine lv_iload hx hb md_Mo_deliver_61 (lv_at hl 0 rfl) ?_
    refine lv_aload_n hx hb md_Mo_deliver_63 rfl (lv_at hl 5 rfl) ?_
    refine fw_getr hx hb hts i_Mo hown hK hP (mm_0 (by decide)) (mk_0 0) rfl 7 (by decide) (hts _ L_Mo_32) (fun _ h9 => h9) rfl md_Mo_deliver_64 ?_
    refine lv_bipush (v := (7 : Int32)) hx hb md_Mo_deliver_67 (by decide) ?_
    refine lv_iload_n hx hb md_Mo_deliver_69 rfl (lv_at hl 6 rfl) ?_
    refine lv_imul hx hb md_Mo_deliver_70 ?_
    refine lv_iload hx hb md_Mo_deliver_71 (lv_at hl 0 rfl) ?_
    refine lv_iadd hx hb md_Mo_deliver_73 ?_
    refine fw_iald hx hb hK hP (mm_8 (by decide)) (mk_8 0) 0 rfl (j := (((7 : Int32) * a1) + (6 : Int32)).toNatClampNeg) rfl (fw_inadd2 (n := 106) (m := 7) (t := 112) (fw_inmul (c := (7 : Int32)) (k := 7) (n := 16) (m := 106) rfl h_4 (by decide) (by decide)) (fw_inc (by decide)) (by decide)) md_Mo_deliver_74 ?_
    refine fw_iast hx hb hK hD hP hS (mm_10 (by decide)) (mk_10 0) 0 rfl (j := 6) (by decide) (fw_inc (by decide)) md_Mo_deliver_75 (fun v20 H locs ev20 hP hS => ?_)
    have hI : mI b v20 := by rw [ev20]; exact mI_up hI trivial trivial
    refine lv_iinc (v := (7 : Int32)) (lv' := [(6, .int (7 : Int32)), (5, .int (v0 7 0 a1.toNatClampNeg)), (4, .int (v0 6 0 a1.toNatClampNeg)), (3, .int (v0 5 0 a1.toNatClampNeg)), (2, .int (v0 4 0 a1.toNatClampNeg)), (0, .ref (ad 0 0)), (1, .int a1)]) hx hb md_Mo_deliver_76 hl (k := 0) rfl (by decide) (by decide) rfl (fun ls hl => ?_)
    refine lv_goto (tgt := 50) hx hb md_Mo_deliver_79 (by decide) ?_
    refine lv_iload hx hb md_Mo_deliver_50 (lv_at hl 0 rfl) ?_
    refine lv_bipush (v := (7 : Int32)) hx hb md_Mo_deliver_52 (by decide) ?_
    refine lv_icmp_ge (tgt := 82) hx hb md_Mo_deliver_54 (by decide) (fun _ => ?_) (fun c_21 => absurd (by decide) c_21)
    refine lv_aload_n hx hb md_Mo_deliver_82 rfl (lv_at hl 5 rfl) ?_
    refine lv_iload_n hx hb md_Mo_deliver_83 rfl (lv_at hl 6 rfl) ?_
    refine fw_cv (va_runV (As := [.int a1]) (rest := []) ⟨hx, hb, hml, hown, hts⟩ (mc_Mo_remove l hD v20 hI a1 h_4 (by rw [ev20, fw_up_c (c := 10) (c' := 0) (by decide), ev18, fw_up_c (c := 10) (c' := 0) (by decide), ev16, fw_up_c (c := 10) (c' := 0) (by decide), ev14, fw_up_c (c := 10) (c' := 0) (by decide), ev12, fw_up_c (c := 10) (c' := 0) (by decide), ev10, fw_up_c (c := 10) (c' := 0) (by decide), ev8, fw_up_c (c := 10) (c' := 0) (by decide)]; exact h_6)) (mw_Mo_remove hts L_Mo_182 ⟨Nat.le_of_ble_eq_true rfl, Nat.le_of_ble_eq_true rfl⟩) (fw_preV hN hK hP (mm_0 (by decide)) (mk_0 0) rfl) rfl rfl hl.1 rfl (lv_room (Nat.le_of_ble_eq_true rfl)) md_Mo_deliver_84 ⟨Nat.le_of_ble_eq_true rfl, Nat.le_of_ble_eq_true rfl⟩) hS (fun v22 H locs ev22 hI hP hS => ?_)
    refine lv_aload_n hx hb md_Mo_deliver_87 rfl (lv_at hl 5 rfl) ?_
    refine lv_dup hx hb md_Mo_deliver_88 rfl ?_
    refine fw_geti hx hb hts i_Mo hown hK hP (mm_0 (by decide)) (mk_0 0) rfl 52 (by decide) (hts _ L_Mo_186) (fun _ h9 => h9) rfl md_Mo_deliver_89 ?_
    refine lv_iconst (v := (1 : Int32)) hx hb md_Mo_deliver_92 (by decide) ?_
    refine lv_iadd hx hb md_Mo_deliver_93 ?_
    refine fw_puti hx hb hts i_Mo t_Mo t_Mo_ok n_Mo hown hK hD hP hS (mm_0 (by decide)) (mk_0 0) rfl 52 (by decide) (hts _ L_Mo_186) (fun _ h9 => h9) rfl fw_pdI rfl rfl rfl md_Mo_deliver_94 (fun v23 H locs ev23 hP hS => ?_)
    have hI : mI b v23 := by rw [ev23]; exact mI_up hI trivial trivial
    refine lv_iload hx hb md_Mo_deliver_97 (lv_at hl 1 rfl) ?_
    refine lv_iconst (v := (2 : Int32)) hx hb md_Mo_deliver_99 (by decide) ?_
    refine lv_icmp_ne (tgt := 114) hx hb md_Mo_deliver_100 (by decide) (fun c_24 => ?_) (fun c_24 => ?_)
    · refine lv_iconst (v := (0 : Int32)) hx hb md_Mo_deliver_114 (by decide) ?_
      refine lv_istore (lv' := [(6, .int (0 : Int32)), (5, .int (v0 7 0 a1.toNatClampNeg)), (4, .int (v0 6 0 a1.toNatClampNeg)), (3, .int (v0 5 0 a1.toNatClampNeg)), (2, .int (v0 4 0 a1.toNatClampNeg)), (0, .ref (ad 0 0)), (1, .int a1)]) hx hb md_Mo_deliver_115 hl (by decide) rfl (fun ls hl => ?_)
      exact J1 v23 ((v0 4 0 a1.toNatClampNeg)) ((v0 5 0 a1.toNatClampNeg)) ((v0 6 0 a1.toNatClampNeg)) ((v0 7 0 a1.toNatClampNeg)) _ _ _ (by subst er2 ev8 ev10 ev12 ev14 ev16 ev18 ev20 ev22 ev23; simp only [mf_Mo_deliver, if_neg c_3, if_neg c_24])  (hq1 h_4) (fun q => ⟨by rw [ev23, fw_up_c (c := 0) (c' := 10) (by decide), ev22, mfr_Mo_remove (c := 10) (by decide), ev20, fw_up_k (k := 6) (k' := 0) (by decide), ev18, fw_up_k (k := 5) (k' := 0) (by decide), ev16, fw_up_k (k := 4) (k' := 0) (by decide), ev14, fw_up_k (k := 3) (k' := 0) (by decide), ev12, fw_up_k (k := 2) (k' := 0) (by decide), ev10, fw_up_k (k := 1) (k' := 0) (by decide), ev8, fw_up_s]; exact (hq2 h_4 q).1, by rw [ev23, fw_up_c (c := 0) (c' := 10) (by decide), ev22, mfr_Mo_remove (c := 10) (by decide), ev20, fw_up_k (k := 6) (k' := 1) (by decide), ev18, fw_up_k (k := 5) (k' := 1) (by decide), ev16, fw_up_k (k := 4) (k' := 1) (by decide), ev14, fw_up_k (k := 3) (k' := 1) (by decide), ev12, fw_up_k (k := 2) (k' := 1) (by decide), ev10, fw_up_s, ev8, fw_up_c (c := 10) (c' := 8) (by decide)]; exact (hq2 h_4 q).2.1, by rw [ev23, fw_up_c (c := 0) (c' := 10) (by decide), ev22, mfr_Mo_remove (c := 10) (by decide), ev20, fw_up_k (k := 6) (k' := 2) (by decide), ev18, fw_up_k (k := 5) (k' := 2) (by decide), ev16, fw_up_k (k := 4) (k' := 2) (by decide), ev14, fw_up_k (k := 3) (k' := 2) (by decide), ev12, fw_up_s, ev10, fw_up_c (c := 10) (c' := 8) (by decide), ev8, fw_up_c (c := 10) (c' := 8) (by decide)]; exact (hq2 h_4 q).2.2⟩) hI hP hS (lv_sub hl [5, 4, 3, 2, 1, 0] rfl)
    · refine lv_aload_n hx hb md_Mo_deliver_103 rfl (lv_at hl 5 rfl) ?_
      refine lv_iload_n hx hb md_Mo_deliver_104 rfl (lv_at hl 4 rfl) ?_
      refine lv_iload_n hx hb md_Mo_deliver_105 rfl (lv_at hl 3 rfl) ?_
      refine lv_iload hx hb md_Mo_deliver_106 (lv_at hl 2 rfl) ?_
      refine fw_cv (va_runV (As := [.int (v0 4 0 a1.toNatClampNeg), .int (v0 5 0 a1.toNatClampNeg), .int (v0 6 0 a1.toNatClampNeg)]) (rest := []) ⟨hx, hb, hml, hown, hts⟩ (mc_Mo_controller l hD v23 hI (v0 4 0 a1.toNatClampNeg) (v0 5 0 a1.toNatClampNeg) (v0 6 0 a1.toNatClampNeg) (fun q => by rw [ev23, fw_up_c (c := 0) (c' := 10) (by decide), ev22, mfr_Mo_remove (c := 10) (by decide), ev20, fw_up_k (k := 6) (k' := 0) (by decide), ev18, fw_up_k (k := 5) (k' := 0) (by decide), ev16, fw_up_k (k := 4) (k' := 0) (by decide), ev14, fw_up_k (k := 3) (k' := 0) (by decide), ev12, fw_up_k (k := 2) (k' := 0) (by decide), ev10, fw_up_k (k := 1) (k' := 0) (by decide), ev8, fw_up_s]; exact hq0 h_4 q)) (mw_Mo_controller hts L_Mo_189 ⟨Nat.le_of_ble_eq_true rfl, Nat.le_of_ble_eq_true rfl⟩) (fw_preV hN hK hP (mm_0 (by decide)) (mk_0 0) rfl) rfl rfl hl.1 rfl (lv_room (Nat.le_of_ble_eq_true rfl)) md_Mo_deliver_108 ⟨Nat.le_of_ble_eq_true rfl, Nat.le_of_ble_eq_true rfl⟩) hS (fun v35 H locs ev35 hI hP hS => ?_)
      refine lv_goto (tgt := 152) hx hb md_Mo_deliver_111 (by decide) ?_
      refine lv_aload_n hx hb md_Mo_deliver_152 rfl (lv_at hl 5 rfl) ?_
      refine fw_geti hx hb hts i_Mo hown hK hP (mm_0 (by decide)) (mk_0 0) rfl 10 (by decide) (hts _ L_Mo_170) (fun _ h9 => h9) rfl md_Mo_deliver_153 ?_
      have h_36 : vp_in (v35 0 0 10) 17 := hI.1 0 0 10
      exact fw_iret hx hb hr hlocks hS hP hI md_Mo_deliver_156 (by subst er2 ev8 ev10 ev12 ev14 ev16 ev18 ev20 ev22 ev23 ev35; simp only [mf_Mo_deliver, if_neg c_3, if_pos c_24])
  · refine lv_bipush (v := (-2 : Int32)) hx hb md_Mo_deliver_14 (by decide) ?_
    exact fw_iret hx hb hr hlocks hS hP hI md_Mo_deliver_16 (by subst er2; simp only [mf_Mo_deliver, if_pos c_3])
def mf_Mo_breakOff_0 (v0 : fw_V) : fw_V :=
  if (v0 12 0 0) ≤ (1 : Int32) then
    let v2 := mf_Mo_shut_0 v0
    v2
  else
    let v3 := mf_Mo_send v0 (16 : Int32) (v0 13 0 0) (0 : Int32) (v0 15 0 0)
    let v4 := mf_Mo_shut_0 v3
    v4

theorem mca_Mo_breakOff_0 {v0 : fw_V} {i k : Nat} : mf_Mo_breakOff_0 v0 10 i k = v0 10 i k := by
  unfold mf_Mo_breakOff_0
  try dsimp only
  all_goals ((repeat' split) <;> simp [fw_up, fw_row, mca_Mo_shut_0, mca_Mo_send])
set_option maxHeartbeats 4000000 in
set_option maxRecDepth 100000 in
theorem mc_Mo_breakOff_0 (l : Launch) {D : va_G} {cA : Nat → ClassId} {ad : Nat → Nat → Nat} (hD : fw_D mCL ad) {b : Nat} (v0 : fw_V) (hI : mI b v0)   : Met l my_Mo_breakOff (Cond.code my_Mo_breakOff mb_Mo_breakOff 2 none :: vTB) mrm_Mo_breakOff (fw_Pc vNL D vcls (vtys cA) mCL cA mkd ad v0 [.ref (ad 0 0), .int (0 : Int32)]) (fw_Qv D vcls mCL cA mkd ad (mI b) (mf_Mo_breakOff_0 v0)) 0 0 (fw_A mCL ad) := by
  refine Met.ofW (cc := mb_Mo_breakOff) (maxL := 2) (ret := none) (by decide) rfl ?_
  intro p e s m args below meth c s₁ B hml hv
  obtain ⟨rfl, hP, hK, hN⟩ := hv
  have hx := B.exec
  have hb := B.bytes
  have hr := B.returns
  have hts : ∀ w ∈ vTB, w.before ([.ref (ad 0 0), .int (0 : Int32)] : List Value).toArray s = true := fun w h => atoms_spec (ws := (Cond.code my_Mo_breakOff mb_Mo_breakOff 2 none :: vTB)) B.pre w (List.mem_cons_of_mem _ h)
  have hown : s.vm.findClass R_Mo = some m.cls := findClass_of_methodNamed B.named
  have hlocks := B.notSynchronized
  have hS : va_S (fw_A mCL ad) s.heap s.heap [] := va_S.rf
  skip
  have hl := lv_entry ([.ref (ad 0 0), .int (0 : Int32)]) (n := 2) (Nat.le_of_ble_eq_true rfl)
  rw [lg_entry_eq]
  generalize (lg_sl ([.ref (ad 0 0), .int (0 : Int32)]) ++ List.replicate (2 - (lg_sl ([.ref (ad 0 0), .int (0 : Int32)])).length) Slot.unset).toArray = ls at hl ⊢
  have hl : lv_has ls 2 [(0, .ref (ad 0 0)), (1, .int (0 : Int32))] := hl
  refine lv_aload_n hx hb md_Mo_breakOff_0 rfl (lv_at hl 0 rfl) ?_
  refine fw_getr hx hb hts i_Mo hown hK hP (mm_0 (by decide)) (mk_0 0) rfl 11 (by decide) (hts _ L_Mo_41) (fun _ h9 => h9) rfl md_Mo_breakOff_1 ?_
  refine lv_iload_n hx hb md_Mo_breakOff_4 rfl (lv_at hl 1 rfl) ?_
  refine fw_iald hx hb hK hP (mm_12 (by decide)) (mk_12 0) 0 rfl (j := 0) (by decide) (fw_inc (by decide)) md_Mo_breakOff_5 ?_
  refine lv_iconst (v := (1 : Int32)) hx hb md_Mo_breakOff_6 (by decide) ?_
  refine lv_icmp_le (tgt := 29) hx hb md_Mo_breakOff_7 (by decide) (fun c_1 => ?_) (fun c_1 => ?_)
  · refine lv_aload_n hx hb md_Mo_breakOff_29 rfl (lv_at hl 0 rfl) ?_
    refine lv_iload_n hx hb md_Mo_breakOff_30 rfl (lv_at hl 1 rfl) ?_
    refine fw_cv (va_runV (As := [.int (0 : Int32)]) (rest := []) ⟨hx, hb, hml, hown, hts⟩ (mc_Mo_shut_0 l hD v0 hI ) (mw_Mo_shut hts L_Mo_203 ⟨Nat.le_of_ble_eq_true rfl, Nat.le_of_ble_eq_true rfl⟩) (fw_preV hN hK hP (mm_0 (by decide)) (mk_0 0) rfl) rfl rfl hl.1 rfl (lv_room (Nat.le_of_ble_eq_true rfl)) md_Mo_breakOff_31 ⟨Nat.le_of_ble_eq_true rfl, Nat.le_of_ble_eq_true rfl⟩) hS (fun v2 H locs ev2 hI hP hS => ?_)
    exact fw_vret hx hb hr hlocks hS hP hI md_Mo_breakOff_34 (by subst ev2; simp only [mf_Mo_breakOff_0, if_pos c_1])
  · refine lv_aload_n hx hb md_Mo_breakOff_10 rfl (lv_at hl 0 rfl) ?_
    refine lv_bipush (v := (16 : Int32)) hx hb md_Mo_breakOff_11 (by decide) ?_
    refine lv_aload_n hx hb md_Mo_breakOff_13 rfl (lv_at hl 0 rfl) ?_
    refine fw_getr hx hb hts i_Mo hown hK hP (mm_0 (by decide)) (mk_0 0) rfl 12 (by decide) (hts _ L_Mo_44) (fun _ h9 => h9) rfl md_Mo_breakOff_14 ?_
    refine lv_iload_n hx hb md_Mo_breakOff_17 rfl (lv_at hl 1 rfl) ?_
    refine fw_iald hx hb hK hP (mm_13 (by decide)) (mk_13 0) 0 rfl (j := 0) (by decide) (fw_inc (by decide)) md_Mo_breakOff_18 ?_
    refine lv_iconst (v := (0 : Int32)) hx hb md_Mo_breakOff_19 (by decide) ?_
    refine lv_aload_n hx hb md_Mo_breakOff_20 rfl (lv_at hl 0 rfl) ?_
    refine fw_getr hx hb hts i_Mo hown hK hP (mm_0 (by decide)) (mk_0 0) rfl 14 (by decide) (hts _ L_Mo_50) (fun _ h9 => h9) rfl md_Mo_breakOff_21 ?_
    refine lv_iload_n hx hb md_Mo_breakOff_24 rfl (lv_at hl 1 rfl) ?_
    refine fw_iald hx hb hK hP (mm_15 (by decide)) (mk_15 0) 0 rfl (j := 0) (by decide) (fw_inc (by decide)) md_Mo_breakOff_25 ?_
    refine fw_cv (va_runV (As := [.int (16 : Int32), .int (v0 13 0 0), .int (0 : Int32), .int (v0 15 0 0)]) (rest := []) ⟨hx, hb, hml, hown, hts⟩ (mc_Mo_send l hD v0 hI (16 : Int32) (v0 13 0 0) (0 : Int32) (v0 15 0 0) (fun q => absurd q (by decide)) (fun q => absurd q (by decide)) (fun q => absurd q (by decide))) (mw_Mo_send hts L_Mo_197 ⟨Nat.le_of_ble_eq_true rfl, Nat.le_of_ble_eq_true rfl⟩) (fw_preV hN hK hP (mm_0 (by decide)) (mk_0 0) rfl) rfl rfl hl.1 rfl (lv_room (Nat.le_of_ble_eq_true rfl)) md_Mo_breakOff_26 ⟨Nat.le_of_ble_eq_true rfl, Nat.le_of_ble_eq_true rfl⟩) hS (fun v3 H locs ev3 hI hP hS => ?_)
    refine lv_aload_n hx hb md_Mo_breakOff_29 rfl (lv_at hl 0 rfl) ?_
    refine lv_iload_n hx hb md_Mo_breakOff_30 rfl (lv_at hl 1 rfl) ?_
    refine fw_cv (va_runV (As := [.int (0 : Int32)]) (rest := []) ⟨hx, hb, hml, hown, hts⟩ (mc_Mo_shut_0 l hD v3 hI ) (mw_Mo_shut hts L_Mo_203 ⟨Nat.le_of_ble_eq_true rfl, Nat.le_of_ble_eq_true rfl⟩) (fw_preV hN hK hP (mm_0 (by decide)) (mk_0 0) rfl) rfl rfl hl.1 rfl (lv_room (Nat.le_of_ble_eq_true rfl)) md_Mo_breakOff_31 ⟨Nat.le_of_ble_eq_true rfl, Nat.le_of_ble_eq_true rfl⟩) hS (fun v4 H locs ev4 hI hP hS => ?_)
    exact fw_vret hx hb hr hlocks hS hP hI md_Mo_breakOff_34 (by subst ev3 ev4; simp only [mf_Mo_breakOff_0, if_neg c_1])
def mf_Mo_breakOff_1 (v0 : fw_V) : fw_V :=
  if (v0 12 0 1) ≤ (1 : Int32) then
    let v2 := mf_Mo_shut_1 v0
    v2
  else
    let v3 := mf_Mo_send v0 (16 : Int32) (v0 13 0 1) (0 : Int32) (v0 15 0 1)
    let v4 := mf_Mo_shut_1 v3
    v4

theorem mca_Mo_breakOff_1 {v0 : fw_V} {i k : Nat} : mf_Mo_breakOff_1 v0 10 i k = v0 10 i k := by
  unfold mf_Mo_breakOff_1
  try dsimp only
  all_goals ((repeat' split) <;> simp [fw_up, fw_row, mca_Mo_shut_1, mca_Mo_send])
set_option maxHeartbeats 4000000 in
set_option maxRecDepth 100000 in
theorem mc_Mo_breakOff_1 (l : Launch) {D : va_G} {cA : Nat → ClassId} {ad : Nat → Nat → Nat} (hD : fw_D mCL ad) {b : Nat} (v0 : fw_V) (hI : mI b v0)   : Met l my_Mo_breakOff (Cond.code my_Mo_breakOff mb_Mo_breakOff 2 none :: vTB) mrm_Mo_breakOff (fw_Pc vNL D vcls (vtys cA) mCL cA mkd ad v0 [.ref (ad 0 0), .int (1 : Int32)]) (fw_Qv D vcls mCL cA mkd ad (mI b) (mf_Mo_breakOff_1 v0)) 0 0 (fw_A mCL ad) := by
  refine Met.ofW (cc := mb_Mo_breakOff) (maxL := 2) (ret := none) (by decide) rfl ?_
  intro p e s m args below meth c s₁ B hml hv
  obtain ⟨rfl, hP, hK, hN⟩ := hv
  have hx := B.exec
  have hb := B.bytes
  have hr := B.returns
  have hts : ∀ w ∈ vTB, w.before ([.ref (ad 0 0), .int (1 : Int32)] : List Value).toArray s = true := fun w h => atoms_spec (ws := (Cond.code my_Mo_breakOff mb_Mo_breakOff 2 none :: vTB)) B.pre w (List.mem_cons_of_mem _ h)
  have hown : s.vm.findClass R_Mo = some m.cls := findClass_of_methodNamed B.named
  have hlocks := B.notSynchronized
  have hS : va_S (fw_A mCL ad) s.heap s.heap [] := va_S.rf
  skip
  have hl := lv_entry ([.ref (ad 0 0), .int (1 : Int32)]) (n := 2) (Nat.le_of_ble_eq_true rfl)
  rw [lg_entry_eq]
  generalize (lg_sl ([.ref (ad 0 0), .int (1 : Int32)]) ++ List.replicate (2 - (lg_sl ([.ref (ad 0 0), .int (1 : Int32)])).length) Slot.unset).toArray = ls at hl ⊢
  have hl : lv_has ls 2 [(0, .ref (ad 0 0)), (1, .int (1 : Int32))] := hl
  refine lv_aload_n hx hb md_Mo_breakOff_0 rfl (lv_at hl 0 rfl) ?_
  refine fw_getr hx hb hts i_Mo hown hK hP (mm_0 (by decide)) (mk_0 0) rfl 11 (by decide) (hts _ L_Mo_41) (fun _ h9 => h9) rfl md_Mo_breakOff_1 ?_
  refine lv_iload_n hx hb md_Mo_breakOff_4 rfl (lv_at hl 1 rfl) ?_
  refine fw_iald hx hb hK hP (mm_12 (by decide)) (mk_12 0) 0 rfl (j := 1) (by decide) (fw_inc (by decide)) md_Mo_breakOff_5 ?_
  refine lv_iconst (v := (1 : Int32)) hx hb md_Mo_breakOff_6 (by decide) ?_
  refine lv_icmp_le (tgt := 29) hx hb md_Mo_breakOff_7 (by decide) (fun c_1 => ?_) (fun c_1 => ?_)
  · refine lv_aload_n hx hb md_Mo_breakOff_29 rfl (lv_at hl 0 rfl) ?_
    refine lv_iload_n hx hb md_Mo_breakOff_30 rfl (lv_at hl 1 rfl) ?_
    refine fw_cv (va_runV (As := [.int (1 : Int32)]) (rest := []) ⟨hx, hb, hml, hown, hts⟩ (mc_Mo_shut_1 l hD v0 hI ) (mw_Mo_shut hts L_Mo_203 ⟨Nat.le_of_ble_eq_true rfl, Nat.le_of_ble_eq_true rfl⟩) (fw_preV hN hK hP (mm_0 (by decide)) (mk_0 0) rfl) rfl rfl hl.1 rfl (lv_room (Nat.le_of_ble_eq_true rfl)) md_Mo_breakOff_31 ⟨Nat.le_of_ble_eq_true rfl, Nat.le_of_ble_eq_true rfl⟩) hS (fun v2 H locs ev2 hI hP hS => ?_)
    exact fw_vret hx hb hr hlocks hS hP hI md_Mo_breakOff_34 (by subst ev2; simp only [mf_Mo_breakOff_1, if_pos c_1])
  · refine lv_aload_n hx hb md_Mo_breakOff_10 rfl (lv_at hl 0 rfl) ?_
    refine lv_bipush (v := (16 : Int32)) hx hb md_Mo_breakOff_11 (by decide) ?_
    refine lv_aload_n hx hb md_Mo_breakOff_13 rfl (lv_at hl 0 rfl) ?_
    refine fw_getr hx hb hts i_Mo hown hK hP (mm_0 (by decide)) (mk_0 0) rfl 12 (by decide) (hts _ L_Mo_44) (fun _ h9 => h9) rfl md_Mo_breakOff_14 ?_
    refine lv_iload_n hx hb md_Mo_breakOff_17 rfl (lv_at hl 1 rfl) ?_
    refine fw_iald hx hb hK hP (mm_13 (by decide)) (mk_13 0) 0 rfl (j := 1) (by decide) (fw_inc (by decide)) md_Mo_breakOff_18 ?_
    refine lv_iconst (v := (0 : Int32)) hx hb md_Mo_breakOff_19 (by decide) ?_
    refine lv_aload_n hx hb md_Mo_breakOff_20 rfl (lv_at hl 0 rfl) ?_
    refine fw_getr hx hb hts i_Mo hown hK hP (mm_0 (by decide)) (mk_0 0) rfl 14 (by decide) (hts _ L_Mo_50) (fun _ h9 => h9) rfl md_Mo_breakOff_21 ?_
    refine lv_iload_n hx hb md_Mo_breakOff_24 rfl (lv_at hl 1 rfl) ?_
    refine fw_iald hx hb hK hP (mm_15 (by decide)) (mk_15 0) 0 rfl (j := 1) (by decide) (fw_inc (by decide)) md_Mo_breakOff_25 ?_
    refine fw_cv (va_runV (As := [.int (16 : Int32), .int (v0 13 0 1), .int (0 : Int32), .int (v0 15 0 1)]) (rest := []) ⟨hx, hb, hml, hown, hts⟩ (mc_Mo_send l hD v0 hI (16 : Int32) (v0 13 0 1) (0 : Int32) (v0 15 0 1) (fun q => absurd q (by decide)) (fun q => absurd q (by decide)) (fun q => absurd q (by decide))) (mw_Mo_send hts L_Mo_197 ⟨Nat.le_of_ble_eq_true rfl, Nat.le_of_ble_eq_true rfl⟩) (fw_preV hN hK hP (mm_0 (by decide)) (mk_0 0) rfl) rfl rfl hl.1 rfl (lv_room (Nat.le_of_ble_eq_true rfl)) md_Mo_breakOff_26 ⟨Nat.le_of_ble_eq_true rfl, Nat.le_of_ble_eq_true rfl⟩) hS (fun v3 H locs ev3 hI hP hS => ?_)
    refine lv_aload_n hx hb md_Mo_breakOff_29 rfl (lv_at hl 0 rfl) ?_
    refine lv_iload_n hx hb md_Mo_breakOff_30 rfl (lv_at hl 1 rfl) ?_
    refine fw_cv (va_runV (As := [.int (1 : Int32)]) (rest := []) ⟨hx, hb, hml, hown, hts⟩ (mc_Mo_shut_1 l hD v3 hI ) (mw_Mo_shut hts L_Mo_203 ⟨Nat.le_of_ble_eq_true rfl, Nat.le_of_ble_eq_true rfl⟩) (fw_preV hN hK hP (mm_0 (by decide)) (mk_0 0) rfl) rfl rfl hl.1 rfl (lv_room (Nat.le_of_ble_eq_true rfl)) md_Mo_breakOff_31 ⟨Nat.le_of_ble_eq_true rfl, Nat.le_of_ble_eq_true rfl⟩) hS (fun v4 H locs ev4 hI hP hS => ?_)
    exact fw_vret hx hb hr hlocks hS hP hI md_Mo_breakOff_34 (by subst ev3 ev4; simp only [mf_Mo_breakOff_1, if_neg c_1])
def mf_Mo_open_j1 (v0 : fw_V) (a1 : Int32)  : Int32 × fw_V :=
  let v7 := fw_up v0 0 0 54 ((v0 0 0 54) + (1 : Int32))
  let v8 := fw_up v7 0 0 53 ((v7 0 0 53) + (1 : Int32))
  if a1 = (0 : Int32) then
    let v10 := mf_Mo_enter_0 v8 (1 : Int32)
    let v11 := fw_up v10 13 0 (a1.toNatClampNeg) (v10 0 0 54)
    let v12 := fw_up v11 23 0 (a1.toNatClampNeg) (0 : Int32)
    let v13 := mf_Mo_ask_0 v12
    ((v13 0 0 54), v13)
  else
    let v15 := mf_Mo_enter_1 v8 (1 : Int32)
    let v16 := fw_up v15 13 0 (a1.toNatClampNeg) (v15 0 0 54)
    let v17 := fw_up v16 23 0 (a1.toNatClampNeg) (0 : Int32)
    let v18 := mf_Mo_ask_1 v17
    ((v18 0 0 54), v18)
def mf_Mo_open_j2 (v0 : fw_V) (a1 : Int32)  : Int32 × fw_V :=
  let v19 := fw_up v0 0 0 54 (1 : Int32)
  let v20 := fw_up v19 0 0 53 ((v19 0 0 53) + (1 : Int32))
  if a1 = (0 : Int32) then
    let v22 := mf_Mo_enter_0 v20 (1 : Int32)
    let v23 := fw_up v22 13 0 (a1.toNatClampNeg) (v22 0 0 54)
    let v24 := fw_up v23 23 0 (a1.toNatClampNeg) (0 : Int32)
    let v25 := mf_Mo_ask_0 v24
    ((v25 0 0 54), v25)
  else
    let v27 := mf_Mo_enter_1 v20 (1 : Int32)
    let v28 := fw_up v27 13 0 (a1.toNatClampNeg) (v27 0 0 54)
    let v29 := fw_up v28 23 0 (a1.toNatClampNeg) (0 : Int32)
    let v30 := mf_Mo_ask_1 v29
    ((v30 0 0 54), v30)
def mf_Mo_open (v0 : fw_V) (a1 : Int32) : Int32 × fw_V :=
  let r1 := mf_Mo_is a1 (0 : Int32) (1 : Int32)
  if r1 = (0 : Int32) then
    ((-1 : Int32), v0)
  else
    if (v0 12 0 a1.toNatClampNeg) = (0 : Int32) then
      if (v0 14 0 a1.toNatClampNeg) = (0 : Int32) then
        ((-2 : Int32), v0)
      else
        if (v0 0 0 54) = (65535 : Int32) then
          mf_Mo_open_j2 v0 a1
        else
          mf_Mo_open_j1 v0 a1
    else
      ((-2 : Int32), v0)

set_option maxHeartbeats 4000000 in
set_option maxRecDepth 100000 in
theorem mc_Mo_open (l : Launch) {D : va_G} {cA : Nat → ClassId} {ad : Nat → Nat → Nat} (hD : fw_D mCL ad) {b : Nat} (v0 : fw_V) (hI : mI b v0) (a1 : Int32)  : Met l my_Mo_open (Cond.code my_Mo_open mb_Mo_open 2 (some .int) :: vTB) mrm_Mo_open (fw_Pc vNL D vcls (vtys cA) mCL cA mkd ad v0 [.ref (ad 0 0), .int a1]) (fw_Qi D vcls mCL cA mkd ad (mI b) (mf_Mo_open v0 a1)) 0 0 (fw_A mCL ad) := by
  refine Met.ofW (cc := mb_Mo_open) (maxL := 2) (ret := (some .int)) (by decide) rfl ?_
  intro p e s m args below meth c s₁ B hml hv
  obtain ⟨rfl, hP, hK, hN⟩ := hv
  have hx := B.exec
  have hb := B.bytes
  have hr := B.returns
  have hts : ∀ w ∈ vTB, w.before ([.ref (ad 0 0), .int a1] : List Value).toArray s = true := fun w h => atoms_spec (ws := (Cond.code my_Mo_open mb_Mo_open 2 (some .int) :: vTB)) B.pre w (List.mem_cons_of_mem _ h)
  have hown : s.vm.findClass R_Mo = some m.cls := findClass_of_methodNamed B.named
  have hlocks := B.notSynchronized
  have hS : va_S (fw_A mCL ad) s.heap s.heap [] := va_S.rf
  have J1 : ∀  (H : Heap) (locs : List Loc) (ls : Array Slot), mf_Mo_open v0 a1 = mf_Mo_open_j1 v0 a1 → vp_in a1 2 → mI b v0 → va_P D vcls (fw_w mCL cA mkd ad v0) H → va_S (fw_A mCL ad) s.heap H locs → lv_has ls 2 [(0, .ref (ad 0 0)), (1, .int a1)] → W p l e (headSpec (Cond.code my_Mo_open mb_Mo_open 2 (some .int) :: vTB) mrm_Mo_open).room s m ([.ref (ad 0 0), .int a1] : List Value).toArray below meth c H locs 0 0 (MQ below (fw_Qi D vcls mCL cA mkd ad (mI b) (mf_Mo_open v0 a1)) ([.ref (ad 0 0), .int a1] : List Value).toArray s 0 0 (fw_A mCL ad)) (F0 m 52 ls [.int ((v0 0 0 54) + (1 : Int32)), .ref (ad 0 0)]) := by
    intro  H locs ls hj hc0 hI hP hS hl
    refine fw_puti hx hb hts i_Mo t_Mo t_Mo_ok n_Mo hown hK hD hP hS (mm_0 (by decide)) (mk_0 0) rfl 54 (by decide) (hts _ L_Mo_206) (fun _ h9 => h9) rfl fw_pdI rfl rfl rfl md_Mo_open_52 (fun v7 H locs ev7 hP hS => ?_)
    have hI : mI b v7 := by rw [ev7]; exact mI_up hI trivial trivial
    refine lv_aload_n hx hb md_Mo_open_55 rfl (lv_at hl 0 rfl) ?_
    refine lv_dup hx hb md_Mo_open_56 rfl ?_
    refine fw_geti hx hb hts i_Mo hown hK hP (mm_0 (by decide)) (mk_0 0) rfl 53 (by decide) (hts _ L_Mo_210) (fun _ h9 => h9) rfl md_Mo_open_57 ?_
    refine lv_iconst (v := (1 : Int32)) hx hb md_Mo_open_60 (by decide) ?_
    refine lv_iadd hx hb md_Mo_open_61 ?_
    refine fw_puti hx hb hts i_Mo t_Mo t_Mo_ok n_Mo hown hK hD hP hS (mm_0 (by decide)) (mk_0 0) rfl 53 (by decide) (hts _ L_Mo_210) (fun _ h9 => h9) rfl fw_pdI rfl rfl rfl md_Mo_open_62 (fun v8 H locs ev8 hP hS => ?_)
    have hI : mI b v8 := by rw [ev8]; exact mI_up hI trivial trivial
    refine lv_aload_n hx hb md_Mo_open_65 rfl (lv_at hl 0 rfl) ?_
    refine lv_iload_n hx hb md_Mo_open_66 rfl (lv_at hl 1 rfl) ?_
    refine lv_iconst (v := (1 : Int32)) hx hb md_Mo_open_67 (by decide) ?_
    by_cases c_9 : a1 = (0 : Int32)
    · refine W.eq (g2 := F0 m 68 ls [.int (1 : Int32), .int (0 : Int32), .ref (ad 0 0)]) (by rw [c_9]) ?_
      refine fw_cv (va_runV (As := [.int (0 : Int32), .int (1 : Int32)]) (rest := []) ⟨hx, hb, hml, hown, hts⟩ (mc_Mo_enter_0 l hD (b := b) v8 (1 : Int32) (mI b) (mI_enter_0 hI (1 : Int32) (by decide))) (mw_Mo_enter hts L_Mo_200 ⟨Nat.le_of_ble_eq_true rfl, Nat.le_of_ble_eq_true rfl⟩) (fw_preV hN hK hP (mm_0 (by decide)) (mk_0 0) rfl) rfl rfl hl.1 rfl (lv_room (Nat.le_of_ble_eq_true rfl)) md_Mo_open_68 ⟨Nat.le_of_ble_eq_true rfl, Nat.le_of_ble_eq_true rfl⟩) hS (fun v10 H locs ev10 hI hP hS => ?_)
      refine lv_aload_n hx hb md_Mo_open_71 rfl (lv_at hl 0 rfl) ?_
      refine fw_getr hx hb hts i_Mo hown hK hP (mm_0 (by decide)) (mk_0 0) rfl 12 (by decide) (hts _ L_Mo_44) (fun _ h9 => h9) rfl md_Mo_open_72 ?_
      refine lv_iload_n hx hb md_Mo_open_75 rfl (lv_at hl 1 rfl) ?_
      refine lv_aload_n hx hb md_Mo_open_76 rfl (lv_at hl 0 rfl) ?_
      refine fw_geti hx hb hts i_Mo hown hK hP (mm_0 (by decide)) (mk_0 0) rfl 54 (by decide) (hts _ L_Mo_206) (fun _ h9 => h9) rfl md_Mo_open_77 ?_
      refine fw_iast hx hb hK hD hP hS (mm_13 (by decide)) (mk_13 0) 0 rfl (j := a1.toNatClampNeg) rfl hc0 md_Mo_open_80 (fun v11 H locs ev11 hP hS => ?_)
      have hI : mI b v11 := by rw [ev11]; exact mI_up hI trivial trivial
      refine lv_aload_n hx hb md_Mo_open_81 rfl (lv_at hl 0 rfl) ?_
      refine fw_getr hx hb hts i_Mo hown hK hP (mm_0 (by decide)) (mk_0 0) rfl 22 (by decide) (hts _ L_Mo_74) (fun _ h9 => h9) rfl md_Mo_open_82 ?_
      refine lv_iload_n hx hb md_Mo_open_85 rfl (lv_at hl 1 rfl) ?_
      refine lv_iconst (v := (0 : Int32)) hx hb md_Mo_open_86 (by decide) ?_
      refine fw_iast hx hb hK hD hP hS (mm_23 (by decide)) (mk_23 0) 0 rfl (j := a1.toNatClampNeg) rfl hc0 md_Mo_open_87 (fun v12 H locs ev12 hP hS => ?_)
      have hI : mI b v12 := by rw [ev12]; exact mI_up hI trivial trivial
      refine lv_aload_n hx hb md_Mo_open_88 rfl (lv_at hl 0 rfl) ?_
      refine lv_iload_n hx hb md_Mo_open_89 rfl (lv_at hl 1 rfl) ?_
      refine W.eq (g2 := F0 m 90 ls [.int (0 : Int32), .ref (ad 0 0)]) (by rw [c_9]) ?_
      refine fw_cv (va_runV (As := [.int (0 : Int32)]) (rest := []) ⟨hx, hb, hml, hown, hts⟩ (mc_Mo_ask_0 l hD v12 hI ) (mw_Mo_ask hts L_Mo_213 ⟨Nat.le_of_ble_eq_true rfl, Nat.le_of_ble_eq_true rfl⟩) (fw_preV hN hK hP (mm_0 (by decide)) (mk_0 0) rfl) rfl rfl hl.1 rfl (lv_room (Nat.le_of_ble_eq_true rfl)) md_Mo_open_90 ⟨Nat.le_of_ble_eq_true rfl, Nat.le_of_ble_eq_true rfl⟩) hS (fun v13 H locs ev13 hI hP hS => ?_)
      refine lv_aload_n hx hb md_Mo_open_93 rfl (lv_at hl 0 rfl) ?_
      refine fw_geti hx hb hts i_Mo hown hK hP (mm_0 (by decide)) (mk_0 0) rfl 54 (by decide) (hts _ L_Mo_206) (fun _ h9 => h9) rfl md_Mo_open_94 ?_
      exact fw_iret hx hb hr hlocks hS hP hI md_Mo_open_97 (by rw [hj]; subst ev7 ev8 ev10 ev11 ev12 ev13; simp only [mf_Mo_open_j1, if_pos c_9])
    · have h_14 : a1 = (1 : Int32) := fw_one hc0 c_9
      refine W.eq (g2 := F0 m 68 ls [.int (1 : Int32), .int (1 : Int32), .ref (ad 0 0)]) (by rw [h_14]) ?_
      refine fw_cv (va_runV (As := [.int (1 : Int32), .int (1 : Int32)]) (rest := []) ⟨hx, hb, hml, hown, hts⟩ (mc_Mo_enter_1 l hD (b := b) v8 (1 : Int32) (mI b) (mI_enter_1 hI (1 : Int32) (by decide))) (mw_Mo_enter hts L_Mo_200 ⟨Nat.le_of_ble_eq_true rfl, Nat.le_of_ble_eq_true rfl⟩) (fw_preV hN hK hP (mm_0 (by decide)) (mk_0 0) rfl) rfl rfl hl.1 rfl (lv_room (Nat.le_of_ble_eq_true rfl)) md_Mo_open_68 ⟨Nat.le_of_ble_eq_true rfl, Nat.le_of_ble_eq_true rfl⟩) hS (fun v15 H locs ev15 hI hP hS => ?_)
      refine lv_aload_n hx hb md_Mo_open_71 rfl (lv_at hl 0 rfl) ?_
      refine fw_getr hx hb hts i_Mo hown hK hP (mm_0 (by decide)) (mk_0 0) rfl 12 (by decide) (hts _ L_Mo_44) (fun _ h9 => h9) rfl md_Mo_open_72 ?_
      refine lv_iload_n hx hb md_Mo_open_75 rfl (lv_at hl 1 rfl) ?_
      refine lv_aload_n hx hb md_Mo_open_76 rfl (lv_at hl 0 rfl) ?_
      refine fw_geti hx hb hts i_Mo hown hK hP (mm_0 (by decide)) (mk_0 0) rfl 54 (by decide) (hts _ L_Mo_206) (fun _ h9 => h9) rfl md_Mo_open_77 ?_
      refine fw_iast hx hb hK hD hP hS (mm_13 (by decide)) (mk_13 0) 0 rfl (j := a1.toNatClampNeg) rfl hc0 md_Mo_open_80 (fun v16 H locs ev16 hP hS => ?_)
      have hI : mI b v16 := by rw [ev16]; exact mI_up hI trivial trivial
      refine lv_aload_n hx hb md_Mo_open_81 rfl (lv_at hl 0 rfl) ?_
      refine fw_getr hx hb hts i_Mo hown hK hP (mm_0 (by decide)) (mk_0 0) rfl 22 (by decide) (hts _ L_Mo_74) (fun _ h9 => h9) rfl md_Mo_open_82 ?_
      refine lv_iload_n hx hb md_Mo_open_85 rfl (lv_at hl 1 rfl) ?_
      refine lv_iconst (v := (0 : Int32)) hx hb md_Mo_open_86 (by decide) ?_
      refine fw_iast hx hb hK hD hP hS (mm_23 (by decide)) (mk_23 0) 0 rfl (j := a1.toNatClampNeg) rfl hc0 md_Mo_open_87 (fun v17 H locs ev17 hP hS => ?_)
      have hI : mI b v17 := by rw [ev17]; exact mI_up hI trivial trivial
      refine lv_aload_n hx hb md_Mo_open_88 rfl (lv_at hl 0 rfl) ?_
      refine lv_iload_n hx hb md_Mo_open_89 rfl (lv_at hl 1 rfl) ?_
      refine W.eq (g2 := F0 m 90 ls [.int (1 : Int32), .ref (ad 0 0)]) (by rw [h_14]) ?_
      refine fw_cv (va_runV (As := [.int (1 : Int32)]) (rest := []) ⟨hx, hb, hml, hown, hts⟩ (mc_Mo_ask_1 l hD v17 hI ) (mw_Mo_ask hts L_Mo_213 ⟨Nat.le_of_ble_eq_true rfl, Nat.le_of_ble_eq_true rfl⟩) (fw_preV hN hK hP (mm_0 (by decide)) (mk_0 0) rfl) rfl rfl hl.1 rfl (lv_room (Nat.le_of_ble_eq_true rfl)) md_Mo_open_90 ⟨Nat.le_of_ble_eq_true rfl, Nat.le_of_ble_eq_true rfl⟩) hS (fun v18 H locs ev18 hI hP hS => ?_)
      refine lv_aload_n hx hb md_Mo_open_93 rfl (lv_at hl 0 rfl) ?_
      refine fw_geti hx hb hts i_Mo hown hK hP (mm_0 (by decide)) (mk_0 0) rfl 54 (by decide) (hts _ L_Mo_206) (fun _ h9 => h9) rfl md_Mo_open_94 ?_
      exact fw_iret hx hb hr hlocks hS hP hI md_Mo_open_97 (by rw [hj]; subst ev7 ev8 ev15 ev16 ev17 ev18; simp only [mf_Mo_open_j1, if_neg c_9])
  have J2 : ∀  (H : Heap) (locs : List Loc) (ls : Array Slot), mf_Mo_open v0 a1 = mf_Mo_open_j2 v0 a1 → vp_in a1 2 → mI b v0 → va_P D vcls (fw_w mCL cA mkd ad v0) H → va_S (fw_A mCL ad) s.heap H locs → lv_has ls 2 [(0, .ref (ad 0 0)), (1, .int a1)] → W p l e (headSpec (Cond.code my_Mo_open mb_Mo_open 2 (some .int) :: vTB) mrm_Mo_open).room s m ([.ref (ad 0 0), .int a1] : List Value).toArray below meth c H locs 0 0 (MQ below (fw_Qi D vcls mCL cA mkd ad (mI b) (mf_Mo_open v0 a1)) ([.ref (ad 0 0), .int a1] : List Value).toArray s 0 0 (fw_A mCL ad)) (F0 m 52 ls [.int (1 : Int32), .ref (ad 0 0)]) := by
    intro  H locs ls hj hc0 hI hP hS hl
    clear J1
    refine fw_puti hx hb hts i_Mo t_Mo t_Mo_ok n_Mo hown hK hD hP hS (mm_0 (by decide)) (mk_0 0) rfl 54 (by decide) (hts _ L_Mo_206) (fun _ h9 => h9) rfl fw_pdI rfl rfl rfl md_Mo_open_52 (fun v19 H locs ev19 hP hS => ?_)
    have hI : mI b v19 := by rw [ev19]; exact mI_up hI trivial trivial
    refine lv_aload_n hx hb md_Mo_open_55 rfl (lv_at hl 0 rfl) ?_
    refine lv_dup hx hb md_Mo_open_56 rfl ?_
    refine fw_geti hx hb hts i_Mo hown hK hP (mm_0 (by decide)) (mk_0 0) rfl 53 (by decide) (hts _ L_Mo_210) (fun _ h9 => h9) rfl md_Mo_open_57 ?_
    refine lv_iconst (v := (1 : Int32)) hx hb md_Mo_open_60 (by decide) ?_
    refine lv_iadd hx hb md_Mo_open_61 ?_
    refine fw_puti hx hb hts i_Mo t_Mo t_Mo_ok n_Mo hown hK hD hP hS (mm_0 (by decide)) (mk_0 0) rfl 53 (by decide) (hts _ L_Mo_210) (fun _ h9 => h9) rfl fw_pdI rfl rfl rfl md_Mo_open_62 (fun v20 H locs ev20 hP hS => ?_)
    have hI : mI b v20 := by rw [ev20]; exact mI_up hI trivial trivial
    refine lv_aload_n hx hb md_Mo_open_65 rfl (lv_at hl 0 rfl) ?_
    refine lv_iload_n hx hb md_Mo_open_66 rfl (lv_at hl 1 rfl) ?_
    refine lv_iconst (v := (1 : Int32)) hx hb md_Mo_open_67 (by decide) ?_
    by_cases c_21 : a1 = (0 : Int32)
    · refine W.eq (g2 := F0 m 68 ls [.int (1 : Int32), .int (0 : Int32), .ref (ad 0 0)]) (by rw [c_21]) ?_
      refine fw_cv (va_runV (As := [.int (0 : Int32), .int (1 : Int32)]) (rest := []) ⟨hx, hb, hml, hown, hts⟩ (mc_Mo_enter_0 l hD (b := b) v20 (1 : Int32) (mI b) (mI_enter_0 hI (1 : Int32) (by decide))) (mw_Mo_enter hts L_Mo_200 ⟨Nat.le_of_ble_eq_true rfl, Nat.le_of_ble_eq_true rfl⟩) (fw_preV hN hK hP (mm_0 (by decide)) (mk_0 0) rfl) rfl rfl hl.1 rfl (lv_room (Nat.le_of_ble_eq_true rfl)) md_Mo_open_68 ⟨Nat.le_of_ble_eq_true rfl, Nat.le_of_ble_eq_true rfl⟩) hS (fun v22 H locs ev22 hI hP hS => ?_)
      refine lv_aload_n hx hb md_Mo_open_71 rfl (lv_at hl 0 rfl) ?_
      refine fw_getr hx hb hts i_Mo hown hK hP (mm_0 (by decide)) (mk_0 0) rfl 12 (by decide) (hts _ L_Mo_44) (fun _ h9 => h9) rfl md_Mo_open_72 ?_
      refine lv_iload_n hx hb md_Mo_open_75 rfl (lv_at hl 1 rfl) ?_
      refine lv_aload_n hx hb md_Mo_open_76 rfl (lv_at hl 0 rfl) ?_
      refine fw_geti hx hb hts i_Mo hown hK hP (mm_0 (by decide)) (mk_0 0) rfl 54 (by decide) (hts _ L_Mo_206) (fun _ h9 => h9) rfl md_Mo_open_77 ?_
      refine fw_iast hx hb hK hD hP hS (mm_13 (by decide)) (mk_13 0) 0 rfl (j := a1.toNatClampNeg) rfl hc0 md_Mo_open_80 (fun v23 H locs ev23 hP hS => ?_)
      have hI : mI b v23 := by rw [ev23]; exact mI_up hI trivial trivial
      refine lv_aload_n hx hb md_Mo_open_81 rfl (lv_at hl 0 rfl) ?_
      refine fw_getr hx hb hts i_Mo hown hK hP (mm_0 (by decide)) (mk_0 0) rfl 22 (by decide) (hts _ L_Mo_74) (fun _ h9 => h9) rfl md_Mo_open_82 ?_
      refine lv_iload_n hx hb md_Mo_open_85 rfl (lv_at hl 1 rfl) ?_
      refine lv_iconst (v := (0 : Int32)) hx hb md_Mo_open_86 (by decide) ?_
      refine fw_iast hx hb hK hD hP hS (mm_23 (by decide)) (mk_23 0) 0 rfl (j := a1.toNatClampNeg) rfl hc0 md_Mo_open_87 (fun v24 H locs ev24 hP hS => ?_)
      have hI : mI b v24 := by rw [ev24]; exact mI_up hI trivial trivial
      refine lv_aload_n hx hb md_Mo_open_88 rfl (lv_at hl 0 rfl) ?_
      refine lv_iload_n hx hb md_Mo_open_89 rfl (lv_at hl 1 rfl) ?_
      refine W.eq (g2 := F0 m 90 ls [.int (0 : Int32), .ref (ad 0 0)]) (by rw [c_21]) ?_
      refine fw_cv (va_runV (As := [.int (0 : Int32)]) (rest := []) ⟨hx, hb, hml, hown, hts⟩ (mc_Mo_ask_0 l hD v24 hI ) (mw_Mo_ask hts L_Mo_213 ⟨Nat.le_of_ble_eq_true rfl, Nat.le_of_ble_eq_true rfl⟩) (fw_preV hN hK hP (mm_0 (by decide)) (mk_0 0) rfl) rfl rfl hl.1 rfl (lv_room (Nat.le_of_ble_eq_true rfl)) md_Mo_open_90 ⟨Nat.le_of_ble_eq_true rfl, Nat.le_of_ble_eq_true rfl⟩) hS (fun v25 H locs ev25 hI hP hS => ?_)
      refine lv_aload_n hx hb md_Mo_open_93 rfl (lv_at hl 0 rfl) ?_
      refine fw_geti hx hb hts i_Mo hown hK hP (mm_0 (by decide)) (mk_0 0) rfl 54 (by decide) (hts _ L_Mo_206) (fun _ h9 => h9) rfl md_Mo_open_94 ?_
      exact fw_iret hx hb hr hlocks hS hP hI md_Mo_open_97 (by rw [hj]; subst ev19 ev20 ev22 ev23 ev24 ev25; simp only [mf_Mo_open_j2, if_pos c_21])
    · have h_26 : a1 = (1 : Int32) := fw_one hc0 c_21
      refine W.eq (g2 := F0 m 68 ls [.int (1 : Int32), .int (1 : Int32), .ref (ad 0 0)]) (by rw [h_26]) ?_
      refine fw_cv (va_runV (As := [.int (1 : Int32), .int (1 : Int32)]) (rest := []) ⟨hx, hb, hml, hown, hts⟩ (mc_Mo_enter_1 l hD (b := b) v20 (1 : Int32) (mI b) (mI_enter_1 hI (1 : Int32) (by decide))) (mw_Mo_enter hts L_Mo_200 ⟨Nat.le_of_ble_eq_true rfl, Nat.le_of_ble_eq_true rfl⟩) (fw_preV hN hK hP (mm_0 (by decide)) (mk_0 0) rfl) rfl rfl hl.1 rfl (lv_room (Nat.le_of_ble_eq_true rfl)) md_Mo_open_68 ⟨Nat.le_of_ble_eq_true rfl, Nat.le_of_ble_eq_true rfl⟩) hS (fun v27 H locs ev27 hI hP hS => ?_)
      refine lv_aload_n hx hb md_Mo_open_71 rfl (lv_at hl 0 rfl) ?_
      refine fw_getr hx hb hts i_Mo hown hK hP (mm_0 (by decide)) (mk_0 0) rfl 12 (by decide) (hts _ L_Mo_44) (fun _ h9 => h9) rfl md_Mo_open_72 ?_
      refine lv_iload_n hx hb md_Mo_open_75 rfl (lv_at hl 1 rfl) ?_
      refine lv_aload_n hx hb md_Mo_open_76 rfl (lv_at hl 0 rfl) ?_
      refine fw_geti hx hb hts i_Mo hown hK hP (mm_0 (by decide)) (mk_0 0) rfl 54 (by decide) (hts _ L_Mo_206) (fun _ h9 => h9) rfl md_Mo_open_77 ?_
      refine fw_iast hx hb hK hD hP hS (mm_13 (by decide)) (mk_13 0) 0 rfl (j := a1.toNatClampNeg) rfl hc0 md_Mo_open_80 (fun v28 H locs ev28 hP hS => ?_)
      have hI : mI b v28 := by rw [ev28]; exact mI_up hI trivial trivial
      refine lv_aload_n hx hb md_Mo_open_81 rfl (lv_at hl 0 rfl) ?_
      refine fw_getr hx hb hts i_Mo hown hK hP (mm_0 (by decide)) (mk_0 0) rfl 22 (by decide) (hts _ L_Mo_74) (fun _ h9 => h9) rfl md_Mo_open_82 ?_
      refine lv_iload_n hx hb md_Mo_open_85 rfl (lv_at hl 1 rfl) ?_
      refine lv_iconst (v := (0 : Int32)) hx hb md_Mo_open_86 (by decide) ?_
      refine fw_iast hx hb hK hD hP hS (mm_23 (by decide)) (mk_23 0) 0 rfl (j := a1.toNatClampNeg) rfl hc0 md_Mo_open_87 (fun v29 H locs ev29 hP hS => ?_)
      have hI : mI b v29 := by rw [ev29]; exact mI_up hI trivial trivial
      refine lv_aload_n hx hb md_Mo_open_88 rfl (lv_at hl 0 rfl) ?_
      refine lv_iload_n hx hb md_Mo_open_89 rfl (lv_at hl 1 rfl) ?_
      refine W.eq (g2 := F0 m 90 ls [.int (1 : Int32), .ref (ad 0 0)]) (by rw [h_26]) ?_
      refine fw_cv (va_runV (As := [.int (1 : Int32)]) (rest := []) ⟨hx, hb, hml, hown, hts⟩ (mc_Mo_ask_1 l hD v29 hI ) (mw_Mo_ask hts L_Mo_213 ⟨Nat.le_of_ble_eq_true rfl, Nat.le_of_ble_eq_true rfl⟩) (fw_preV hN hK hP (mm_0 (by decide)) (mk_0 0) rfl) rfl rfl hl.1 rfl (lv_room (Nat.le_of_ble_eq_true rfl)) md_Mo_open_90 ⟨Nat.le_of_ble_eq_true rfl, Nat.le_of_ble_eq_true rfl⟩) hS (fun v30 H locs ev30 hI hP hS => ?_)
      refine lv_aload_n hx hb md_Mo_open_93 rfl (lv_at hl 0 rfl) ?_
      refine fw_geti hx hb hts i_Mo hown hK hP (mm_0 (by decide)) (mk_0 0) rfl 54 (by decide) (hts _ L_Mo_206) (fun _ h9 => h9) rfl md_Mo_open_94 ?_
      exact fw_iret hx hb hr hlocks hS hP hI md_Mo_open_97 (by rw [hj]; subst ev19 ev20 ev27 ev28 ev29 ev30; simp only [mf_Mo_open_j2, if_neg c_21])
  skip
  have hl := lv_entry ([.ref (ad 0 0), .int a1]) (n := 2) (Nat.le_of_ble_eq_true rfl)
  rw [lg_entry_eq]
  generalize (lg_sl ([.ref (ad 0 0), .int a1]) ++ List.replicate (2 - (lg_sl ([.ref (ad 0 0), .int a1])).length) Slot.unset).toArray = ls at hl ⊢
  have hl : lv_has ls 2 [(0, .ref (ad 0 0)), (1, .int a1)] := hl
  refine lv_iload_n hx hb md_Mo_open_0 rfl (lv_at hl 1 rfl) ?_
  refine lv_iconst (v := (0 : Int32)) hx hb md_Mo_open_1 (by decide) ?_
  refine lv_iconst (v := (1 : Int32)) hx hb md_Mo_open_2 (by decide) ?_
  refine fw_cb (va_runS (As := [.int a1, .int (0 : Int32), .int (1 : Int32)]) (rest := []) ⟨hx, hb, hml, hown, hts⟩ (mc_Mo_is l hD v0 hI a1 (0 : Int32) (1 : Int32)) (mw_Mo_is hts L_Mo_155 ⟨Nat.le_of_ble_eq_true rfl, Nat.le_of_ble_eq_true rfl⟩) (fw_preS hN hK hP) rfl rfl hl.1 rfl (lv_room (Nat.le_of_ble_eq_true rfl)) md_Mo_open_3 ⟨Nat.le_of_ble_eq_true rfl, Nat.le_of_ble_eq_true rfl⟩) hS (fun r1 H locs zr1 er1 hP hS => ?_)
  refine lv_if_ne (tgt := 11) hx hb md_Mo_open_6 (by decide) (fun c_2 => ?_) (fun c_2 => ?_)
  · have h_3 : vp_in a1 2 := mp_in er1 c_2 (by decide)
    refine lv_aload_n hx hb md_Mo_open_11 rfl (lv_at hl 0 rfl) ?_
    refine fw_getr hx hb hts i_Mo hown hK hP (mm_0 (by decide)) (mk_0 0) rfl 11 (by decide) (hts _ L_Mo_41) (fun _ h9 => h9) rfl md_Mo_open_12 ?_
    refine lv_iload_n hx hb md_Mo_open_15 rfl (lv_at hl 1 rfl) ?_
    refine fw_iald hx hb hK hP (mm_12 (by decide)) (mk_12 0) 0 rfl (j := a1.toNatClampNeg) rfl h_3 md_Mo_open_16 ?_
    refine lv_if_ne (tgt := 29) hx hb md_Mo_open_17 (by decide) (fun c_4 => ?_) (fun c_4 => ?_)
    · refine lv_bipush (v := (-2 : Int32)) hx hb md_Mo_open_29 (by decide) ?_
      exact fw_iret hx hb hr hlocks hS hP hI md_Mo_open_31 (by subst er1; simp only [mf_Mo_open, if_neg c_2, if_neg c_4])
    · refine lv_aload_n hx hb md_Mo_open_20 rfl (lv_at hl 0 rfl) ?_
      refine fw_getr hx hb hts i_Mo hown hK hP (mm_0 (by decide)) (mk_0 0) rfl 13 (by decide) (hts _ L_Mo_47) (fun _ h9 => h9) rfl md_Mo_open_21 ?_
      refine lv_iload_n hx hb md_Mo_open_24 rfl (lv_at hl 1 rfl) ?_
      refine fw_iald hx hb hK hP (mm_14 (by decide)) (mk_14 0) 0 rfl (j := a1.toNatClampNeg) rfl h_3 md_Mo_open_25 ?_
      refine lv_if_ne (tgt := 32) hx hb md_Mo_open_26 (by decide) (fun c_5 => ?_) (fun c_5 => ?_)
      · refine lv_aload_n hx hb md_Mo_open_32 rfl (lv_at hl 0 rfl) ?_
        refine lv_aload_n hx hb md_Mo_open_33 rfl (lv_at hl 0 rfl) ?_
        refine fw_geti hx hb hts i_Mo hown hK hP (mm_0 (by decide)) (mk_0 0) rfl 54 (by decide) (hts _ L_Mo_206) (fun _ h9 => h9) rfl md_Mo_open_34 ?_
        refine lv_ldc (v := (65535 : Int32)) hx hb hown (hts _ L_Mo_209) md_Mo_open_37 ?_
        refine lv_icmp_ne (tgt := 46) hx hb md_Mo_open_39 (by decide) (fun c_6 => ?_) (fun c_6 => ?_)
        · refine lv_aload_n hx hb md_Mo_open_46 rfl (lv_at hl 0 rfl) ?_
          refine fw_geti hx hb hts i_Mo hown hK hP (mm_0 (by decide)) (mk_0 0) rfl 54 (by decide) (hts _ L_Mo_206) (fun _ h9 => h9) rfl md_Mo_open_47 ?_
          refine lv_iconst (v := (1 : Int32)) hx hb md_Mo_open_50 (by decide) ?_
          refine lv_iadd hx hb md_Mo_open_51 ?_
          exact J1  _ _ _ (by subst er1; simp only [mf_Mo_open, if_neg c_2, if_pos c_4, if_neg c_5, if_neg c_6]) h_3  hI hP hS (lv_sub hl [0, 1] rfl)
        · refine lv_iconst (v := (1 : Int32)) hx hb md_Mo_open_42 (by decide) ?_
          refine lv_goto (tgt := 52) hx hb md_Mo_open_43 (by decide) ?_
          exact J2  _ _ _ (by subst er1; simp only [mf_Mo_open, if_neg c_2, if_pos c_4, if_neg c_5, if_pos c_6]) h_3  hI hP hS (lv_sub hl [0, 1] rfl)
      · refine lv_bipush (v := (-2 : Int32)) hx hb md_Mo_open_29 (by decide) ?_
        exact fw_iret hx hb hr hlocks hS hP hI md_Mo_open_31 (by subst er1; simp only [mf_Mo_open, if_neg c_2, if_pos c_4, if_pos c_5])
  · refine lv_iconst (v := (-1 : Int32)) hx hb md_Mo_open_9 (by decide) ?_
    exact fw_iret hx hb hr hlocks hS hP hI md_Mo_open_10 (by subst er1; simp only [mf_Mo_open, if_pos c_2])
def mf_Mo_close (v0 : fw_V) (a1 : Int32) : Int32 × fw_V :=
  let r1 := mf_Mo_is a1 (0 : Int32) (1 : Int32)
  if r1 = (0 : Int32) then
    ((-1 : Int32), v0)
  else
    if (v0 12 0 a1.toNatClampNeg) = (0 : Int32) then
      ((v0 12 0 a1.toNatClampNeg), v0)
    else
      if a1 = (0 : Int32) then
        let v6 := mf_Mo_breakOff_0 v0
        ((v0 12 0 a1.toNatClampNeg), v6)
      else
        let v8 := mf_Mo_breakOff_1 v0
        ((v0 12 0 a1.toNatClampNeg), v8)

set_option maxHeartbeats 4000000 in
set_option maxRecDepth 100000 in
theorem mc_Mo_close (l : Launch) {D : va_G} {cA : Nat → ClassId} {ad : Nat → Nat → Nat} (hD : fw_D mCL ad) {b : Nat} (v0 : fw_V) (hI : mI b v0) (a1 : Int32)  : Met l my_Mo_close (Cond.code my_Mo_close mb_Mo_close 3 (some .int) :: vTB) mrm_Mo_close (fw_Pc vNL D vcls (vtys cA) mCL cA mkd ad v0 [.ref (ad 0 0), .int a1]) (fw_Qi D vcls mCL cA mkd ad (mI b) (mf_Mo_close v0 a1)) 0 0 (fw_A mCL ad) := by
  refine Met.ofW (cc := mb_Mo_close) (maxL := 3) (ret := (some .int)) (by decide) rfl ?_
  intro p e s m args below meth c s₁ B hml hv
  obtain ⟨rfl, hP, hK, hN⟩ := hv
  have hx := B.exec
  have hb := B.bytes
  have hr := B.returns
  have hts : ∀ w ∈ vTB, w.before ([.ref (ad 0 0), .int a1] : List Value).toArray s = true := fun w h => atoms_spec (ws := (Cond.code my_Mo_close mb_Mo_close 3 (some .int) :: vTB)) B.pre w (List.mem_cons_of_mem _ h)
  have hown : s.vm.findClass R_Mo = some m.cls := findClass_of_methodNamed B.named
  have hlocks := B.notSynchronized
  have hS : va_S (fw_A mCL ad) s.heap s.heap [] := va_S.rf
  skip
  have hl := lv_entry ([.ref (ad 0 0), .int a1]) (n := 3) (Nat.le_of_ble_eq_true rfl)
  rw [lg_entry_eq]
  generalize (lg_sl ([.ref (ad 0 0), .int a1]) ++ List.replicate (3 - (lg_sl ([.ref (ad 0 0), .int a1])).length) Slot.unset).toArray = ls at hl ⊢
  have hl : lv_has ls 3 [(0, .ref (ad 0 0)), (1, .int a1)] := hl
  refine lv_iload_n hx hb md_Mo_close_0 rfl (lv_at hl 1 rfl) ?_
  refine lv_iconst (v := (0 : Int32)) hx hb md_Mo_close_1 (by decide) ?_
  refine lv_iconst (v := (1 : Int32)) hx hb md_Mo_close_2 (by decide) ?_
  refine fw_cb (va_runS (As := [.int a1, .int (0 : Int32), .int (1 : Int32)]) (rest := []) ⟨hx, hb, hml, hown, hts⟩ (mc_Mo_is l hD v0 hI a1 (0 : Int32) (1 : Int32)) (mw_Mo_is hts L_Mo_155 ⟨Nat.le_of_ble_eq_true rfl, Nat.le_of_ble_eq_true rfl⟩) (fw_preS hN hK hP) rfl rfl hl.1 rfl (lv_room (Nat.le_of_ble_eq_true rfl)) md_Mo_close_3 ⟨Nat.le_of_ble_eq_true rfl, Nat.le_of_ble_eq_true rfl⟩) hS (fun r1 H locs zr1 er1 hP hS => ?_)
  refine lv_if_ne (tgt := 11) hx hb md_Mo_close_6 (by decide) (fun c_2 => ?_) (fun c_2 => ?_)
  · have h_3 : vp_in a1 2 := mp_in er1 c_2 (by decide)
    refine lv_aload_n hx hb md_Mo_close_11 rfl (lv_at hl 0 rfl) ?_
    refine fw_getr hx hb hts i_Mo hown hK hP (mm_0 (by decide)) (mk_0 0) rfl 11 (by decide) (hts _ L_Mo_41) (fun _ h9 => h9) rfl md_Mo_close_12 ?_
    refine lv_iload_n hx hb md_Mo_close_15 rfl (lv_at hl 1 rfl) ?_
    refine fw_iald hx hb hK hP (mm_12 (by decide)) (mk_12 0) 0 rfl (j := a1.toNatClampNeg) rfl h_3 md_Mo_close_16 ?_
    refine lv_istore_n (lv' := [(2, .int (v0 12 0 a1.toNatClampNeg)), (0, .ref (ad 0 0)), (1, .int a1)]) hx hb md_Mo_close_17 rfl hl (by decide) rfl (fun ls hl => ?_)
    refine lv_iload_n hx hb md_Mo_close_18 rfl (lv_at hl 0 rfl) ?_
    refine lv_if_eq (tgt := 27) hx hb md_Mo_close_19 (by decide) (fun c_4 => ?_) (fun c_4 => ?_)
    · refine lv_iload_n hx hb md_Mo_close_27 rfl (lv_at hl 0 rfl) ?_
      exact fw_iret hx hb hr hlocks hS hP hI md_Mo_close_28 (by subst er1; simp only [mf_Mo_close, if_neg c_2, if_pos c_4])
    · refine lv_aload_n hx hb md_Mo_close_22 rfl (lv_at hl 1 rfl) ?_
      refine lv_iload_n hx hb md_Mo_close_23 rfl (lv_at hl 2 rfl) ?_
      by_cases c_5 : a1 = (0 : Int32)
      · refine W.eq (g2 := F0 m 24 ls [.int (0 : Int32), .ref (ad 0 0)]) (by rw [c_5]) ?_
        refine fw_cv (va_runV (As := [.int (0 : Int32)]) (rest := []) ⟨hx, hb, hml, hown, hts⟩ (mc_Mo_breakOff_0 l hD v0 hI ) (mw_Mo_breakOff hts L_Mo_216 ⟨Nat.le_of_ble_eq_true rfl, Nat.le_of_ble_eq_true rfl⟩) (fw_preV hN hK hP (mm_0 (by decide)) (mk_0 0) rfl) rfl rfl hl.1 rfl (lv_room (Nat.le_of_ble_eq_true rfl)) md_Mo_close_24 ⟨Nat.le_of_ble_eq_true rfl, Nat.le_of_ble_eq_true rfl⟩) hS (fun v6 H locs ev6 hI hP hS => ?_)
        refine lv_iload_n hx hb md_Mo_close_27 rfl (lv_at hl 0 rfl) ?_
        exact fw_iret hx hb hr hlocks hS hP hI md_Mo_close_28 (by subst er1 ev6; simp only [mf_Mo_close, if_neg c_2, if_neg c_4, if_pos c_5])
      · have h_7 : a1 = (1 : Int32) := fw_one h_3 c_5
        refine W.eq (g2 := F0 m 24 ls [.int (1 : Int32), .ref (ad 0 0)]) (by rw [h_7]) ?_
        refine fw_cv (va_runV (As := [.int (1 : Int32)]) (rest := []) ⟨hx, hb, hml, hown, hts⟩ (mc_Mo_breakOff_1 l hD v0 hI ) (mw_Mo_breakOff hts L_Mo_216 ⟨Nat.le_of_ble_eq_true rfl, Nat.le_of_ble_eq_true rfl⟩) (fw_preV hN hK hP (mm_0 (by decide)) (mk_0 0) rfl) rfl rfl hl.1 rfl (lv_room (Nat.le_of_ble_eq_true rfl)) md_Mo_close_24 ⟨Nat.le_of_ble_eq_true rfl, Nat.le_of_ble_eq_true rfl⟩) hS (fun v8 H locs ev8 hI hP hS => ?_)
        refine lv_iload_n hx hb md_Mo_close_27 rfl (lv_at hl 0 rfl) ?_
        exact fw_iret hx hb hr hlocks hS hP hI md_Mo_close_28 (by subst er1 ev8; simp only [mf_Mo_close, if_neg c_2, if_neg c_4, if_neg c_5])
  · refine lv_iconst (v := (-1 : Int32)) hx hb md_Mo_close_9 (by decide) ?_
    exact fw_iret hx hb hr hlocks hS hP hI md_Mo_close_10 (by subst er1; simp only [mf_Mo_close, if_pos c_2])
def mf_Mo_beat_0_j25 (v : fw_V)   : fw_V :=
  let v44 := mf_Mo_send v (12 : Int32) (v 13 0 0) (v 21 0 0) (v 15 0 0)
  let v45 := fw_up v44 21 0 (0) (((v44 21 0 0) + (1 : Int32)) &&& (255 : Int32))
  v45
def mf_Mo_beat_0_j24 (v : fw_V)   : fw_V :=
  let v42 := fw_up v 9 0 (5) (0 : Int32)
  mf_Mo_beat_0_j25 v42
def mf_Mo_beat_0_j23 (v : fw_V)   : fw_V :=
  mf_Mo_beat_0_j24 v
def mf_Mo_beat_0_j22 (v : fw_V)   : fw_V :=
  mf_Mo_beat_0_j23 v
def mf_Mo_beat_0_j27 (v : fw_V)  (x90 : Int32) : fw_V :=
  let v50 := fw_up v 9 0 (5) x90
  mf_Mo_beat_0_j25 v50
def mf_Mo_beat_0_j26 (v : fw_V)   : fw_V :=
  mf_Mo_beat_0_j27 v ((v 26 0 5))
def mf_Mo_beat_0_j21 (v : fw_V)   : fw_V :=
  if (v 24 0 2) < (0 : Int32) then
    mf_Mo_beat_0_j22 v
  else
    if (((v 16 0 0) >>> ((2 : Int32) &&& 31)) &&& (1 : Int32)) = (0 : Int32) then
      if (v 2 0 (v 24 0 2).toNatClampNeg) ≤ (1 : Int32) then
        mf_Mo_beat_0_j22 v
      else
        mf_Mo_beat_0_j26 v
    else
      mf_Mo_beat_0_j22 v
def mf_Mo_beat_0_j20 (v : fw_V)   : fw_V :=
  let v37 := fw_up v 9 0 (4) (0 : Int32)
  mf_Mo_beat_0_j21 v37
def mf_Mo_beat_0_j19 (v : fw_V)   : fw_V :=
  mf_Mo_beat_0_j20 v
def mf_Mo_beat_0_j18 (v : fw_V)   : fw_V :=
  mf_Mo_beat_0_j19 v
def mf_Mo_beat_0_j29 (v : fw_V)  (x90 : Int32) : fw_V :=
  let v55 := fw_up v 9 0 (4) x90
  mf_Mo_beat_0_j21 v55
def mf_Mo_beat_0_j28 (v : fw_V)   : fw_V :=
  mf_Mo_beat_0_j29 v ((v 26 0 4))
def mf_Mo_beat_0_j17 (v : fw_V)   : fw_V :=
  if (v 24 0 2) < (0 : Int32) then
    mf_Mo_beat_0_j18 v
  else
    if (((v 16 0 0) >>> ((2 : Int32) &&& 31)) &&& (1 : Int32)) = (0 : Int32) then
      if (v 2 0 (v 24 0 2).toNatClampNeg) ≤ (0 : Int32) then
        mf_Mo_beat_0_j18 v
      else
        mf_Mo_beat_0_j28 v
    else
      mf_Mo_beat_0_j18 v
def mf_Mo_beat_0_j16 (v : fw_V)   : fw_V :=
  let v32 := fw_up v 9 0 (3) (0 : Int32)
  mf_Mo_beat_0_j17 v32
def mf_Mo_beat_0_j15 (v : fw_V)   : fw_V :=
  mf_Mo_beat_0_j16 v
def mf_Mo_beat_0_j14 (v : fw_V)   : fw_V :=
  mf_Mo_beat_0_j15 v
def mf_Mo_beat_0_j31 (v : fw_V)  (x90 : Int32) : fw_V :=
  let v60 := fw_up v 9 0 (3) x90
  mf_Mo_beat_0_j17 v60
def mf_Mo_beat_0_j30 (v : fw_V)   : fw_V :=
  mf_Mo_beat_0_j31 v ((v 26 0 3))
def mf_Mo_beat_0_j13 (v : fw_V)   : fw_V :=
  if (v 24 0 1) < (0 : Int32) then
    mf_Mo_beat_0_j14 v
  else
    if (((v 16 0 0) >>> ((1 : Int32) &&& 31)) &&& (1 : Int32)) = (0 : Int32) then
      if (v 2 0 (v 24 0 1).toNatClampNeg) ≤ (1 : Int32) then
        mf_Mo_beat_0_j14 v
      else
        mf_Mo_beat_0_j30 v
    else
      mf_Mo_beat_0_j14 v
def mf_Mo_beat_0_j12 (v : fw_V)   : fw_V :=
  let v27 := fw_up v 9 0 (2) (0 : Int32)
  mf_Mo_beat_0_j13 v27
def mf_Mo_beat_0_j11 (v : fw_V)   : fw_V :=
  mf_Mo_beat_0_j12 v
def mf_Mo_beat_0_j10 (v : fw_V)   : fw_V :=
  mf_Mo_beat_0_j11 v
def mf_Mo_beat_0_j33 (v : fw_V)  (x90 : Int32) : fw_V :=
  let v65 := fw_up v 9 0 (2) x90
  mf_Mo_beat_0_j13 v65
def mf_Mo_beat_0_j32 (v : fw_V)   : fw_V :=
  mf_Mo_beat_0_j33 v ((v 26 0 2))
def mf_Mo_beat_0_j9 (v : fw_V)   : fw_V :=
  if (v 24 0 1) < (0 : Int32) then
    mf_Mo_beat_0_j10 v
  else
    if (((v 16 0 0) >>> ((1 : Int32) &&& 31)) &&& (1 : Int32)) = (0 : Int32) then
      if (v 2 0 (v 24 0 1).toNatClampNeg) ≤ (0 : Int32) then
        mf_Mo_beat_0_j10 v
      else
        mf_Mo_beat_0_j32 v
    else
      mf_Mo_beat_0_j10 v
def mf_Mo_beat_0_j8 (v : fw_V)   : fw_V :=
  let v22 := fw_up v 9 0 (1) (0 : Int32)
  mf_Mo_beat_0_j9 v22
def mf_Mo_beat_0_j7 (v : fw_V)   : fw_V :=
  mf_Mo_beat_0_j8 v
def mf_Mo_beat_0_j6 (v : fw_V)   : fw_V :=
  mf_Mo_beat_0_j7 v
def mf_Mo_beat_0_j35 (v : fw_V)  (x90 : Int32) : fw_V :=
  let v70 := fw_up v 9 0 (1) x90
  mf_Mo_beat_0_j9 v70
def mf_Mo_beat_0_j34 (v : fw_V)   : fw_V :=
  mf_Mo_beat_0_j35 v ((v 26 0 1))
def mf_Mo_beat_0_j5 (v : fw_V)   : fw_V :=
  if (v 24 0 0) < (0 : Int32) then
    mf_Mo_beat_0_j6 v
  else
    if (((v 16 0 0) >>> ((0 : Int32) &&& 31)) &&& (1 : Int32)) = (0 : Int32) then
      if (v 2 0 (v 24 0 0).toNatClampNeg) ≤ (1 : Int32) then
        mf_Mo_beat_0_j6 v
      else
        mf_Mo_beat_0_j34 v
    else
      mf_Mo_beat_0_j6 v
def mf_Mo_beat_0_j4 (v : fw_V)   : fw_V :=
  let v17 := fw_up v 9 0 (0) (0 : Int32)
  mf_Mo_beat_0_j5 v17
def mf_Mo_beat_0_j3 (v : fw_V)   : fw_V :=
  mf_Mo_beat_0_j4 v
def mf_Mo_beat_0_j2 (v : fw_V)   : fw_V :=
  mf_Mo_beat_0_j3 v
def mf_Mo_beat_0_j37 (v : fw_V)  (x90 : Int32) : fw_V :=
  let v75 := fw_up v 9 0 (0) x90
  mf_Mo_beat_0_j5 v75
def mf_Mo_beat_0_j36 (v : fw_V)   : fw_V :=
  mf_Mo_beat_0_j37 v ((v 26 0 0))
def mf_Mo_beat_0_j1 (v : fw_V)   : fw_V :=
  if (v 24 0 0) < (0 : Int32) then
    mf_Mo_beat_0_j2 v
  else
    if (((v 16 0 0) >>> ((0 : Int32) &&& 31)) &&& (1 : Int32)) = (0 : Int32) then
      if (v 2 0 (v 24 0 0).toNatClampNeg) ≤ (0 : Int32) then
        mf_Mo_beat_0_j2 v
      else
        mf_Mo_beat_0_j36 v
    else
      mf_Mo_beat_0_j2 v
def mf_Mo_beat_0 (v0 : fw_V) : fw_V :=
  if (v0 12 0 0) = (0 : Int32) then
    v0
  else
    let v2 := fw_up v0 18 0 (0) ((v0 18 0 0) + (1 : Int32))
    if (v2 12 0 0) = (6 : Int32) then
      if (v2 18 0 0) = (4 : Int32) then
        let v76 := fw_up v2 0 0 56 ((v2 0 0 56) + (1 : Int32))
        let v77 := mf_Mo_breakOff_0 v76
        v77
      else
        mf_Mo_beat_0_j1 v2
    else
      if (v2 12 0 0) = (5 : Int32) then
        if (v2 18 0 0) = (12 : Int32) then
          let v11 := mf_Mo_breakOff_0 v2
          v11
        else
          v2
      else
        if (v2 18 0 0) = (4 : Int32) then
          let v6 := fw_up v2 19 0 (0) ((v2 19 0 0) + (1 : Int32))
          if (v2 19 0 0) = (2 : Int32) then
            let v9 := mf_Mo_breakOff_0 v6
            v9
          else
            let v8 := mf_Mo_ask_0 v6
            v8
        else
          v2

theorem mca_Mo_beat_0_j25 {v : fw_V} {i k : Nat} : mf_Mo_beat_0_j25 v 10 i k = v 10 i k := by
  unfold mf_Mo_beat_0_j25
  try dsimp only
  all_goals ((repeat' split) <;> simp [fw_up, fw_row, mca_Mo_send])
theorem mca_Mo_beat_0_j24 {v : fw_V} {i k : Nat} : mf_Mo_beat_0_j24 v 10 i k = v 10 i k := by
  unfold mf_Mo_beat_0_j24
  try dsimp only
  all_goals ((repeat' split) <;> simp [fw_up, fw_row, mca_Mo_beat_0_j25])
theorem mca_Mo_beat_0_j23 {v : fw_V} {i k : Nat} : mf_Mo_beat_0_j23 v 10 i k = v 10 i k := by
  unfold mf_Mo_beat_0_j23
  try dsimp only
  all_goals ((repeat' split) <;> simp [fw_up, fw_row, mca_Mo_beat_0_j24])
theorem mca_Mo_beat_0_j22 {v : fw_V} {i k : Nat} : mf_Mo_beat_0_j22 v 10 i k = v 10 i k := by
  unfold mf_Mo_beat_0_j22
  try dsimp only
  all_goals ((repeat' split) <;> simp [fw_up, fw_row, mca_Mo_beat_0_j23])
theorem mca_Mo_beat_0_j27 {v : fw_V} {x90 : Int32} {i k : Nat} : mf_Mo_beat_0_j27 v x90 10 i k = v 10 i k := by
  unfold mf_Mo_beat_0_j27
  try dsimp only
  all_goals ((repeat' split) <;> simp [fw_up, fw_row, mca_Mo_beat_0_j25])
theorem mca_Mo_beat_0_j26 {v : fw_V} {i k : Nat} : mf_Mo_beat_0_j26 v 10 i k = v 10 i k := by
  unfold mf_Mo_beat_0_j26
  try dsimp only
  all_goals ((repeat' split) <;> simp [fw_up, fw_row, mca_Mo_beat_0_j27])
theorem mca_Mo_beat_0_j21 {v : fw_V} {i k : Nat} : mf_Mo_beat_0_j21 v 10 i k = v 10 i k := by
  unfold mf_Mo_beat_0_j21
  try dsimp only
  all_goals ((repeat' split) <;> simp [fw_up, fw_row, mca_Mo_beat_0_j22, mca_Mo_beat_0_j26])
theorem mca_Mo_beat_0_j20 {v : fw_V} {i k : Nat} : mf_Mo_beat_0_j20 v 10 i k = v 10 i k := by
  unfold mf_Mo_beat_0_j20
  try dsimp only
  all_goals ((repeat' split) <;> simp [fw_up, fw_row, mca_Mo_beat_0_j21])
theorem mca_Mo_beat_0_j19 {v : fw_V} {i k : Nat} : mf_Mo_beat_0_j19 v 10 i k = v 10 i k := by
  unfold mf_Mo_beat_0_j19
  try dsimp only
  all_goals ((repeat' split) <;> simp [fw_up, fw_row, mca_Mo_beat_0_j20])
theorem mca_Mo_beat_0_j18 {v : fw_V} {i k : Nat} : mf_Mo_beat_0_j18 v 10 i k = v 10 i k := by
  unfold mf_Mo_beat_0_j18
  try dsimp only
  all_goals ((repeat' split) <;> simp [fw_up, fw_row, mca_Mo_beat_0_j19])
theorem mca_Mo_beat_0_j29 {v : fw_V} {x90 : Int32} {i k : Nat} : mf_Mo_beat_0_j29 v x90 10 i k = v 10 i k := by
  unfold mf_Mo_beat_0_j29
  try dsimp only
  all_goals ((repeat' split) <;> simp [fw_up, fw_row, mca_Mo_beat_0_j21])
theorem mca_Mo_beat_0_j28 {v : fw_V} {i k : Nat} : mf_Mo_beat_0_j28 v 10 i k = v 10 i k := by
  unfold mf_Mo_beat_0_j28
  try dsimp only
  all_goals ((repeat' split) <;> simp [fw_up, fw_row, mca_Mo_beat_0_j29])
theorem mca_Mo_beat_0_j17 {v : fw_V} {i k : Nat} : mf_Mo_beat_0_j17 v 10 i k = v 10 i k := by
  unfold mf_Mo_beat_0_j17
  try dsimp only
  all_goals ((repeat' split) <;> simp [fw_up, fw_row, mca_Mo_beat_0_j18, mca_Mo_beat_0_j28])
theorem mca_Mo_beat_0_j16 {v : fw_V} {i k : Nat} : mf_Mo_beat_0_j16 v 10 i k = v 10 i k := by
  unfold mf_Mo_beat_0_j16
  try dsimp only
  all_goals ((repeat' split) <;> simp [fw_up, fw_row, mca_Mo_beat_0_j17])
theorem mca_Mo_beat_0_j15 {v : fw_V} {i k : Nat} : mf_Mo_beat_0_j15 v 10 i k = v 10 i k := by
  unfold mf_Mo_beat_0_j15
  try dsimp only
  all_goals ((repeat' split) <;> simp [fw_up, fw_row, mca_Mo_beat_0_j16])
theorem mca_Mo_beat_0_j14 {v : fw_V} {i k : Nat} : mf_Mo_beat_0_j14 v 10 i k = v 10 i k := by
  unfold mf_Mo_beat_0_j14
  try dsimp only
  all_goals ((repeat' split) <;> simp [fw_up, fw_row, mca_Mo_beat_0_j15])
theorem mca_Mo_beat_0_j31 {v : fw_V} {x90 : Int32} {i k : Nat} : mf_Mo_beat_0_j31 v x90 10 i k = v 10 i k := by
  unfold mf_Mo_beat_0_j31
  try dsimp only
  all_goals ((repeat' split) <;> simp [fw_up, fw_row, mca_Mo_beat_0_j17])
theorem mca_Mo_beat_0_j30 {v : fw_V} {i k : Nat} : mf_Mo_beat_0_j30 v 10 i k = v 10 i k := by
  unfold mf_Mo_beat_0_j30
  try dsimp only
  all_goals ((repeat' split) <;> simp [fw_up, fw_row, mca_Mo_beat_0_j31])
theorem mca_Mo_beat_0_j13 {v : fw_V} {i k : Nat} : mf_Mo_beat_0_j13 v 10 i k = v 10 i k := by
  unfold mf_Mo_beat_0_j13
  try dsimp only
  all_goals ((repeat' split) <;> simp [fw_up, fw_row, mca_Mo_beat_0_j14, mca_Mo_beat_0_j30])
theorem mca_Mo_beat_0_j12 {v : fw_V} {i k : Nat} : mf_Mo_beat_0_j12 v 10 i k = v 10 i k := by
  unfold mf_Mo_beat_0_j12
  try dsimp only
  all_goals ((repeat' split) <;> simp [fw_up, fw_row, mca_Mo_beat_0_j13])
theorem mca_Mo_beat_0_j11 {v : fw_V} {i k : Nat} : mf_Mo_beat_0_j11 v 10 i k = v 10 i k := by
  unfold mf_Mo_beat_0_j11
  try dsimp only
  all_goals ((repeat' split) <;> simp [fw_up, fw_row, mca_Mo_beat_0_j12])
theorem mca_Mo_beat_0_j10 {v : fw_V} {i k : Nat} : mf_Mo_beat_0_j10 v 10 i k = v 10 i k := by
  unfold mf_Mo_beat_0_j10
  try dsimp only
  all_goals ((repeat' split) <;> simp [fw_up, fw_row, mca_Mo_beat_0_j11])
theorem mca_Mo_beat_0_j33 {v : fw_V} {x90 : Int32} {i k : Nat} : mf_Mo_beat_0_j33 v x90 10 i k = v 10 i k := by
  unfold mf_Mo_beat_0_j33
  try dsimp only
  all_goals ((repeat' split) <;> simp [fw_up, fw_row, mca_Mo_beat_0_j13])
theorem mca_Mo_beat_0_j32 {v : fw_V} {i k : Nat} : mf_Mo_beat_0_j32 v 10 i k = v 10 i k := by
  unfold mf_Mo_beat_0_j32
  try dsimp only
  all_goals ((repeat' split) <;> simp [fw_up, fw_row, mca_Mo_beat_0_j33])
theorem mca_Mo_beat_0_j9 {v : fw_V} {i k : Nat} : mf_Mo_beat_0_j9 v 10 i k = v 10 i k := by
  unfold mf_Mo_beat_0_j9
  try dsimp only
  all_goals ((repeat' split) <;> simp [fw_up, fw_row, mca_Mo_beat_0_j10, mca_Mo_beat_0_j32])
theorem mca_Mo_beat_0_j8 {v : fw_V} {i k : Nat} : mf_Mo_beat_0_j8 v 10 i k = v 10 i k := by
  unfold mf_Mo_beat_0_j8
  try dsimp only
  all_goals ((repeat' split) <;> simp [fw_up, fw_row, mca_Mo_beat_0_j9])
theorem mca_Mo_beat_0_j7 {v : fw_V} {i k : Nat} : mf_Mo_beat_0_j7 v 10 i k = v 10 i k := by
  unfold mf_Mo_beat_0_j7
  try dsimp only
  all_goals ((repeat' split) <;> simp [fw_up, fw_row, mca_Mo_beat_0_j8])
theorem mca_Mo_beat_0_j6 {v : fw_V} {i k : Nat} : mf_Mo_beat_0_j6 v 10 i k = v 10 i k := by
  unfold mf_Mo_beat_0_j6
  try dsimp only
  all_goals ((repeat' split) <;> simp [fw_up, fw_row, mca_Mo_beat_0_j7])
theorem mca_Mo_beat_0_j35 {v : fw_V} {x90 : Int32} {i k : Nat} : mf_Mo_beat_0_j35 v x90 10 i k = v 10 i k := by
  unfold mf_Mo_beat_0_j35
  try dsimp only
  all_goals ((repeat' split) <;> simp [fw_up, fw_row, mca_Mo_beat_0_j9])
theorem mca_Mo_beat_0_j34 {v : fw_V} {i k : Nat} : mf_Mo_beat_0_j34 v 10 i k = v 10 i k := by
  unfold mf_Mo_beat_0_j34
  try dsimp only
  all_goals ((repeat' split) <;> simp [fw_up, fw_row, mca_Mo_beat_0_j35])
theorem mca_Mo_beat_0_j5 {v : fw_V} {i k : Nat} : mf_Mo_beat_0_j5 v 10 i k = v 10 i k := by
  unfold mf_Mo_beat_0_j5
  try dsimp only
  all_goals ((repeat' split) <;> simp [fw_up, fw_row, mca_Mo_beat_0_j6, mca_Mo_beat_0_j34])
theorem mca_Mo_beat_0_j4 {v : fw_V} {i k : Nat} : mf_Mo_beat_0_j4 v 10 i k = v 10 i k := by
  unfold mf_Mo_beat_0_j4
  try dsimp only
  all_goals ((repeat' split) <;> simp [fw_up, fw_row, mca_Mo_beat_0_j5])
theorem mca_Mo_beat_0_j3 {v : fw_V} {i k : Nat} : mf_Mo_beat_0_j3 v 10 i k = v 10 i k := by
  unfold mf_Mo_beat_0_j3
  try dsimp only
  all_goals ((repeat' split) <;> simp [fw_up, fw_row, mca_Mo_beat_0_j4])
theorem mca_Mo_beat_0_j2 {v : fw_V} {i k : Nat} : mf_Mo_beat_0_j2 v 10 i k = v 10 i k := by
  unfold mf_Mo_beat_0_j2
  try dsimp only
  all_goals ((repeat' split) <;> simp [fw_up, fw_row, mca_Mo_beat_0_j3])
theorem mca_Mo_beat_0_j37 {v : fw_V} {x90 : Int32} {i k : Nat} : mf_Mo_beat_0_j37 v x90 10 i k = v 10 i k := by
  unfold mf_Mo_beat_0_j37
  try dsimp only
  all_goals ((repeat' split) <;> simp [fw_up, fw_row, mca_Mo_beat_0_j5])
theorem mca_Mo_beat_0_j36 {v : fw_V} {i k : Nat} : mf_Mo_beat_0_j36 v 10 i k = v 10 i k := by
  unfold mf_Mo_beat_0_j36
  try dsimp only
  all_goals ((repeat' split) <;> simp [fw_up, fw_row, mca_Mo_beat_0_j37])
theorem mca_Mo_beat_0_j1 {v : fw_V} {i k : Nat} : mf_Mo_beat_0_j1 v 10 i k = v 10 i k := by
  unfold mf_Mo_beat_0_j1
  try dsimp only
  all_goals ((repeat' split) <;> simp [fw_up, fw_row, mca_Mo_beat_0_j2, mca_Mo_beat_0_j36])
theorem mca_Mo_beat_0 {v0 : fw_V} {i k : Nat} : mf_Mo_beat_0 v0 10 i k = v0 10 i k := by
  unfold mf_Mo_beat_0
  try dsimp only
  all_goals ((repeat' split) <;> simp [fw_up, fw_row, mca_Mo_breakOff_0, mca_Mo_beat_0_j1, mca_Mo_ask_0])
set_option maxHeartbeats 4000000 in
set_option maxRecDepth 100000 in
theorem mc_Mo_beat_0 (l : Launch) {D : va_G} {cA : Nat → ClassId} {ad : Nat → Nat → Nat} (hD : fw_D mCL ad) {b : Nat} (v0 : fw_V) (hI : mI b v0)   : Met l my_Mo_beat (Cond.code my_Mo_beat mb_Mo_beat 5 none :: vTB) mrm_Mo_beat (fw_Pc vNL D vcls (vtys cA) mCL cA mkd ad v0 [.ref (ad 0 0), .int (0 : Int32)]) (fw_Qv D vcls mCL cA mkd ad (mI b) (mf_Mo_beat_0 v0)) 0 0 (fw_A mCL ad) := by
  refine Met.ofW (cc := mb_Mo_beat) (maxL := 5) (ret := none) (by decide) rfl ?_
  intro p e s m args below meth c s₁ B hml hv
  obtain ⟨rfl, hP, hK, hN⟩ := hv
  have hx := B.exec
  have hb := B.bytes
  have hr := B.returns
  have hts : ∀ w ∈ vTB, w.before ([.ref (ad 0 0), .int (0 : Int32)] : List Value).toArray s = true := fun w h => atoms_spec (ws := (Cond.code my_Mo_beat mb_Mo_beat 5 none :: vTB)) B.pre w (List.mem_cons_of_mem _ h)
  have hown : s.vm.findClass R_Mo = some m.cls := findClass_of_methodNamed B.named
  have hlocks := B.notSynchronized
  have hS : va_S (fw_A mCL ad) s.heap s.heap [] := va_S.rf
  have J25 : ∀ (v : fw_V)  (H : Heap) (locs : List Loc) (ls : Array Slot), mf_Mo_beat_0 v0 = mf_Mo_beat_0_j25 v → mI b v → va_P D vcls (fw_w mCL cA mkd ad v) H → va_S (fw_A mCL ad) s.heap H locs → lv_has ls 5 [(0, .ref (ad 0 0)), (1, .int (0 : Int32)), (2, .int (6 : Int32))] → W p l e (headSpec (Cond.code my_Mo_beat mb_Mo_beat 5 none :: vTB) mrm_Mo_beat).room s m ([.ref (ad 0 0), .int (0 : Int32)] : List Value).toArray below meth c H locs 0 0 (MQ below (fw_Qv D vcls mCL cA mkd ad (mI b) (mf_Mo_beat_0 v0)) ([.ref (ad 0 0), .int (0 : Int32)] : List Value).toArray s 0 0 (fw_A mCL ad)) (F0 m 59 ls []) := by
    intro v  H locs ls hj  hI hP hS hl
    refine lv_iload_n hx hb md_Mo_beat_59 rfl (lv_at hl 2 rfl) ?_
    refine lv_bipush (v := (6 : Int32)) hx hb md_Mo_beat_60 (by decide) ?_
    refine lv_icmp_ge (tgt := 148) hx hb md_Mo_beat_62 (by decide) (fun _ => ?_) (fun c_43 => absurd (by decide) c_43)
    refine lv_aload_n hx hb md_Mo_beat_148 rfl (lv_at hl 0 rfl) ?_
    refine lv_bipush (v := (12 : Int32)) hx hb md_Mo_beat_149 (by decide) ?_
    refine lv_aload_n hx hb md_Mo_beat_151 rfl (lv_at hl 0 rfl) ?_
    refine fw_getr hx hb hts i_Mo hown hK hP (mm_0 (by decide)) (mk_0 0) rfl 12 (by decide) (hts _ L_Mo_44) (fun _ h9 => h9) rfl md_Mo_beat_152 ?_
    refine lv_iload_n hx hb md_Mo_beat_155 rfl (lv_at hl 1 rfl) ?_
    refine fw_iald hx hb hK hP (mm_13 (by decide)) (mk_13 0) 0 rfl (j := 0) (by decide) (fw_inc (by decide)) md_Mo_beat_156 ?_
    refine lv_aload_n hx hb md_Mo_beat_157 rfl (lv_at hl 0 rfl) ?_
    refine fw_getr hx hb hts i_Mo hown hK hP (mm_0 (by decide)) (mk_0 0) rfl 20 (by decide) (hts _ L_Mo_68) (fun _ h9 => h9) rfl md_Mo_beat_158 ?_
    refine lv_iload_n hx hb md_Mo_beat_161 rfl (lv_at hl 1 rfl) ?_
    refine fw_iald hx hb hK hP (mm_21 (by decide)) (mk_21 0) 0 rfl (j := 0) (by decide) (fw_inc (by decide)) md_Mo_beat_162 ?_
    refine lv_aload_n hx hb md_Mo_beat_163 rfl (lv_at hl 0 rfl) ?_
    refine fw_getr hx hb hts i_Mo hown hK hP (mm_0 (by decide)) (mk_0 0) rfl 14 (by decide) (hts _ L_Mo_50) (fun _ h9 => h9) rfl md_Mo_beat_164 ?_
    refine lv_iload_n hx hb md_Mo_beat_167 rfl (lv_at hl 1 rfl) ?_
    refine fw_iald hx hb hK hP (mm_15 (by decide)) (mk_15 0) 0 rfl (j := 0) (by decide) (fw_inc (by decide)) md_Mo_beat_168 ?_
    refine fw_cv (va_runV (As := [.int (12 : Int32), .int (v 13 0 0), .int (v 21 0 0), .int (v 15 0 0)]) (rest := []) ⟨hx, hb, hml, hown, hts⟩ (mc_Mo_send l hD v hI (12 : Int32) (v 13 0 0) (v 21 0 0) (v 15 0 0) (fun q => absurd q (by decide)) (fun q => absurd q (by decide)) (fun q => absurd q (by decide))) (mw_Mo_send hts L_Mo_197 ⟨Nat.le_of_ble_eq_true rfl, Nat.le_of_ble_eq_true rfl⟩) (fw_preV hN hK hP (mm_0 (by decide)) (mk_0 0) rfl) rfl rfl hl.1 rfl (lv_room (Nat.le_of_ble_eq_true rfl)) md_Mo_beat_169 ⟨Nat.le_of_ble_eq_true rfl, Nat.le_of_ble_eq_true rfl⟩) hS (fun v44 H locs ev44 hI hP hS => ?_)
    refine lv_aload_n hx hb md_Mo_beat_172 rfl (lv_at hl 0 rfl) ?_
    refine fw_getr hx hb hts i_Mo hown hK hP (mm_0 (by decide)) (mk_0 0) rfl 20 (by decide) (hts _ L_Mo_68) (fun _ h9 => h9) rfl md_Mo_beat_173 ?_
    refine lv_iload_n hx hb md_Mo_beat_176 rfl (lv_at hl 1 rfl) ?_
    refine lv_aload_n hx hb md_Mo_beat_177 rfl (lv_at hl 0 rfl) ?_
    refine fw_getr hx hb hts i_Mo hown hK hP (mm_0 (by decide)) (mk_0 0) rfl 20 (by decide) (hts _ L_Mo_68) (fun _ h9 => h9) rfl md_Mo_beat_178 ?_
    refine lv_iload_n hx hb md_Mo_beat_181 rfl (lv_at hl 1 rfl) ?_
    refine fw_iald hx hb hK hP (mm_21 (by decide)) (mk_21 0) 0 rfl (j := 0) (by decide) (fw_inc (by decide)) md_Mo_beat_182 ?_
    refine lv_iconst (v := (1 : Int32)) hx hb md_Mo_beat_183 (by decide) ?_
    refine lv_iadd hx hb md_Mo_beat_184 ?_
    refine lv_sipush (v := (255 : Int32)) hx hb md_Mo_beat_185 (by decide) ?_
    refine lv_iand hx hb md_Mo_beat_188 ?_
    refine fw_iast hx hb hK hD hP hS (mm_21 (by decide)) (mk_21 0) 0 rfl (j := 0) (by decide) (fw_inc (by decide)) md_Mo_beat_189 (fun v45 H locs ev45 hP hS => ?_)
    have hI : mI b v45 := by rw [ev45]; exact mI_up hI trivial trivial
    refine lv_goto (tgt := 260) hx hb md_Mo_beat_190 (by decide) ?_
    exact fw_vret hx hb hr hlocks hS hP hI md_Mo_beat_260 (by rw [hj]; subst ev44 ev45; simp only [mf_Mo_beat_0_j25])
  have J24 : ∀ (v : fw_V)  (H : Heap) (locs : List Loc) (ls : Array Slot), mf_Mo_beat_0 v0 = mf_Mo_beat_0_j24 v → mI b v → va_P D vcls (fw_w mCL cA mkd ad v) H → va_S (fw_A mCL ad) s.heap H locs → lv_has ls 5 [(0, .ref (ad 0 0)), (1, .int (0 : Int32)), (2, .int (5 : Int32))] → W p l e (headSpec (Cond.code my_Mo_beat mb_Mo_beat 5 none :: vTB) mrm_Mo_beat).room s m ([.ref (ad 0 0), .int (0 : Int32)] : List Value).toArray below meth c H locs 0 0 (MQ below (fw_Qv D vcls mCL cA mkd ad (mI b) (mf_Mo_beat_0 v0)) ([.ref (ad 0 0), .int (0 : Int32)] : List Value).toArray s 0 0 (fw_A mCL ad)) (F0 m 141 ls [.int (0 : Int32), .int (5 : Int32), .ref (ad 9 0)]) := by
    intro v  H locs ls hj  hI hP hS hl
    refine fw_iast hx hb hK hD hP hS (mm_9 (by decide)) (mk_9 0) 0 rfl (j := 5) (by decide) (fw_inc (by decide)) md_Mo_beat_141 (fun v42 H locs ev42 hP hS => ?_)
    have hI : mI b v42 := by rw [ev42]; exact mI_up hI trivial trivial
    refine lv_iinc (v := (6 : Int32)) (lv' := [(2, .int (6 : Int32)), (0, .ref (ad 0 0)), (1, .int (0 : Int32))]) hx hb md_Mo_beat_142 hl (k := 2) rfl (by decide) (by decide) rfl (fun ls hl => ?_)
    refine lv_goto (tgt := 59) hx hb md_Mo_beat_145 (by decide) ?_
    exact J25 v42  _ _ _ (by rw [hj]; subst ev42; simp only [mf_Mo_beat_0_j24])   hI hP hS (lv_sub hl [1, 2, 0] rfl)
  have J23 : ∀ (v : fw_V)  (H : Heap) (locs : List Loc) (ls : Array Slot), mf_Mo_beat_0 v0 = mf_Mo_beat_0_j23 v → mI b v → va_P D vcls (fw_w mCL cA mkd ad v) H → va_S (fw_A mCL ad) s.heap H locs → lv_has ls 5 [(0, .ref (ad 0 0)), (1, .int (0 : Int32)), (2, .int (5 : Int32))] → W p l e (headSpec (Cond.code my_Mo_beat mb_Mo_beat 5 none :: vTB) mrm_Mo_beat).room s m ([.ref (ad 0 0), .int (0 : Int32)] : List Value).toArray below meth c H locs 0 0 (MQ below (fw_Qv D vcls mCL cA mkd ad (mI b) (mf_Mo_beat_0 v0)) ([.ref (ad 0 0), .int (0 : Int32)] : List Value).toArray s 0 0 (fw_A mCL ad)) (F0 m 114 ls [.int (0 : Int32)]) := by
    intro v  H locs ls hj  hI hP hS hl
    clear J25
    refine lv_istore (lv' := [(4, .int (0 : Int32)), (0, .ref (ad 0 0)), (1, .int (0 : Int32)), (2, .int (5 : Int32))]) hx hb md_Mo_beat_114 hl (by decide) rfl (fun ls hl => ?_)
    refine lv_aload_n hx hb md_Mo_beat_116 rfl (lv_at hl 1 rfl) ?_
    refine fw_getr hx hb hts i_Mo hown hK hP (mm_0 (by decide)) (mk_0 0) rfl 8 (by decide) (hts _ L_Mo_35) (fun _ h9 => h9) rfl md_Mo_beat_117 ?_
    refine lv_iload_n hx hb md_Mo_beat_120 rfl (lv_at hl 3 rfl) ?_
    refine lv_iload hx hb md_Mo_beat_121 (lv_at hl 0 rfl) ?_
    refine lv_if_eq (tgt := 140) hx hb md_Mo_beat_123 (by decide) (fun _ => ?_) (fun c_41 => absurd (by decide) c_41)
    refine lv_iconst (v := (0 : Int32)) hx hb md_Mo_beat_140 (by decide) ?_
    exact J24 v  _ _ _ (by rw [hj]; simp only [mf_Mo_beat_0_j23])   hI hP hS (lv_sub hl [1, 2, 3] rfl)
  have J22 : ∀ (v : fw_V)  (H : Heap) (locs : List Loc) (ls : Array Slot), mf_Mo_beat_0 v0 = mf_Mo_beat_0_j22 v → mI b v → va_P D vcls (fw_w mCL cA mkd ad v) H → va_S (fw_A mCL ad) s.heap H locs → lv_has ls 5 [(0, .ref (ad 0 0)), (1, .int (0 : Int32)), (2, .int (5 : Int32))] → W p l e (headSpec (Cond.code my_Mo_beat mb_Mo_beat 5 none :: vTB) mrm_Mo_beat).room s m ([.ref (ad 0 0), .int (0 : Int32)] : List Value).toArray below meth c H locs 0 0 (MQ below (fw_Qv D vcls mCL cA mkd ad (mI b) (mf_Mo_beat_0 v0)) ([.ref (ad 0 0), .int (0 : Int32)] : List Value).toArray s 0 0 (fw_A mCL ad)) (F0 m 113 ls []) := by
    intro v  H locs ls hj  hI hP hS hl
    clear J25 J24
    refine lv_iconst (v := (0 : Int32)) hx hb md_Mo_beat_113 (by decide) ?_
    exact J23 v  _ _ _ (by rw [hj]; simp only [mf_Mo_beat_0_j22])   hI hP hS (lv_sub hl [0, 1, 2] rfl)
  have J27 : ∀ (v : fw_V) (x90 : Int32) (H : Heap) (locs : List Loc) (ls : Array Slot), mf_Mo_beat_0 v0 = mf_Mo_beat_0_j27 v x90 → mI b v → va_P D vcls (fw_w mCL cA mkd ad v) H → va_S (fw_A mCL ad) s.heap H locs → lv_has ls 5 [(0, .ref (ad 0 0)), (1, .int (0 : Int32)), (2, .int (5 : Int32))] → W p l e (headSpec (Cond.code my_Mo_beat mb_Mo_beat 5 none :: vTB) mrm_Mo_beat).room s m ([.ref (ad 0 0), .int (0 : Int32)] : List Value).toArray below meth c H locs 0 0 (MQ below (fw_Qv D vcls mCL cA mkd ad (mI b) (mf_Mo_beat_0 v0)) ([.ref (ad 0 0), .int (0 : Int32)] : List Value).toArray s 0 0 (fw_A mCL ad)) (F0 m 141 ls [.int x90, .int (5 : Int32), .ref (ad 9 0)]) := by
    intro v x90 H locs ls hj  hI hP hS hl
    clear J24 J23 J22
    refine fw_iast hx hb hK hD hP hS (mm_9 (by decide)) (mk_9 0) 0 rfl (j := 5) (by decide) (fw_inc (by decide)) md_Mo_beat_141 (fun v50 H locs ev50 hP hS => ?_)
    have hI : mI b v50 := by rw [ev50]; exact mI_up hI trivial trivial
    refine lv_iinc (v := (6 : Int32)) (lv' := [(2, .int (6 : Int32)), (0, .ref (ad 0 0)), (1, .int (0 : Int32))]) hx hb md_Mo_beat_142 hl (k := 2) rfl (by decide) (by decide) rfl (fun ls hl => ?_)
    refine lv_goto (tgt := 59) hx hb md_Mo_beat_145 (by decide) ?_
    exact J25 v50  _ _ _ (by rw [hj]; subst ev50; simp only [mf_Mo_beat_0_j27])   hI hP hS (lv_sub hl [1, 2, 0] rfl)
  have J26 : ∀ (v : fw_V)  (H : Heap) (locs : List Loc) (ls : Array Slot), mf_Mo_beat_0 v0 = mf_Mo_beat_0_j26 v → mI b v → va_P D vcls (fw_w mCL cA mkd ad v) H → va_S (fw_A mCL ad) s.heap H locs → lv_has ls 5 [(0, .ref (ad 0 0)), (1, .int (0 : Int32)), (2, .int (5 : Int32))] → W p l e (headSpec (Cond.code my_Mo_beat mb_Mo_beat 5 none :: vTB) mrm_Mo_beat).room s m ([.ref (ad 0 0), .int (0 : Int32)] : List Value).toArray below meth c H locs 0 0 (MQ below (fw_Qv D vcls mCL cA mkd ad (mI b) (mf_Mo_beat_0 v0)) ([.ref (ad 0 0), .int (0 : Int32)] : List Value).toArray s 0 0 (fw_A mCL ad)) (F0 m 114 ls [.int (1 : Int32)]) := by
    intro v  H locs ls hj  hI hP hS hl
    clear J25 J24 J23 J22
    refine lv_istore (lv' := [(4, .int (1 : Int32)), (0, .ref (ad 0 0)), (1, .int (0 : Int32)), (2, .int (5 : Int32))]) hx hb md_Mo_beat_114 hl (by decide) rfl (fun ls hl => ?_)
    refine lv_aload_n hx hb md_Mo_beat_116 rfl (lv_at hl 1 rfl) ?_
    refine fw_getr hx hb hts i_Mo hown hK hP (mm_0 (by decide)) (mk_0 0) rfl 8 (by decide) (hts _ L_Mo_35) (fun _ h9 => h9) rfl md_Mo_beat_117 ?_
    refine lv_iload_n hx hb md_Mo_beat_120 rfl (lv_at hl 3 rfl) ?_
    refine lv_iload hx hb md_Mo_beat_121 (lv_at hl 0 rfl) ?_
    refine lv_if_eq (tgt := 140) hx hb md_Mo_beat_123 (by decide) (fun c_49 => absurd c_49 (by decide)) (fun _ => ?_)
    refine lv_aload_n hx hb md_Mo_beat_126 rfl (lv_at hl 1 rfl) ?_
    refine fw_getr hx hb hts i_Mo hown hK hP (mm_0 (by decide)) (mk_0 0) rfl 25 (by decide) (hts _ L_Mo_83) (fun _ h9 => h9) rfl md_Mo_beat_127 ?_
    refine lv_bipush (v := (6 : Int32)) hx hb md_Mo_beat_130 (by decide) ?_
    refine lv_iload_n hx hb md_Mo_beat_132 rfl (lv_at hl 2 rfl) ?_
    refine lv_imul hx hb md_Mo_beat_133 ?_
    refine fw_top (y := (0 : Int32)) (by decide) ?_
    refine lv_iload_n hx hb md_Mo_beat_134 rfl (lv_at hl 3 rfl) ?_
    refine lv_iadd hx hb md_Mo_beat_135 ?_
    refine fw_top (y := (5 : Int32)) (by decide) ?_
    refine fw_iald hx hb hK hP (mm_26 (by decide)) (mk_26 0) 0 rfl (j := 5) (by decide) (fw_inc (by decide)) md_Mo_beat_136 ?_
    refine lv_goto (tgt := 141) hx hb md_Mo_beat_137 (by decide) ?_
    exact J27 v ((v 26 0 5)) _ _ _ (by rw [hj]; simp only [mf_Mo_beat_0_j26])   hI hP hS (lv_sub hl [1, 2, 3] rfl)
  have J21 : ∀ (v : fw_V)  (H : Heap) (locs : List Loc) (ls : Array Slot), mf_Mo_beat_0 v0 = mf_Mo_beat_0_j21 v → mI b v → va_P D vcls (fw_w mCL cA mkd ad v) H → va_S (fw_A mCL ad) s.heap H locs → lv_has ls 5 [(0, .ref (ad 0 0)), (1, .int (0 : Int32)), (2, .int (5 : Int32))] → W p l e (headSpec (Cond.code my_Mo_beat mb_Mo_beat 5 none :: vTB) mrm_Mo_beat).room s m ([.ref (ad 0 0), .int (0 : Int32)] : List Value).toArray below meth c H locs 0 0 (MQ below (fw_Qv D vcls mCL cA mkd ad (mI b) (mf_Mo_beat_0 v0)) ([.ref (ad 0 0), .int (0 : Int32)] : List Value).toArray s 0 0 (fw_A mCL ad)) (F0 m 59 ls []) := by
    intro v  H locs ls hj  hI hP hS hl
    clear J25 J24 J23 J27
    refine lv_iload_n hx hb md_Mo_beat_59 rfl (lv_at hl 2 rfl) ?_
    refine lv_bipush (v := (6 : Int32)) hx hb md_Mo_beat_60 (by decide) ?_
    refine lv_icmp_ge (tgt := 148) hx hb md_Mo_beat_62 (by decide) (fun c_38 => absurd c_38 (by decide)) (fun _ => ?_)
    refine lv_aload_n hx hb md_Mo_beat_65 rfl (lv_at hl 0 rfl) ?_
    refine fw_getr hx hb hts i_Mo hown hK hP (mm_0 (by decide)) (mk_0 0) rfl 23 (by decide) (hts _ L_Mo_77) (fun _ h9 => h9) rfl md_Mo_beat_66 ?_
    refine lv_iconst (v := (3 : Int32)) hx hb md_Mo_beat_69 (by decide) ?_
    refine lv_iload_n hx hb md_Mo_beat_70 rfl (lv_at hl 1 rfl) ?_
    refine lv_imul hx hb md_Mo_beat_71 ?_
    refine fw_top (y := (0 : Int32)) (by decide) ?_
    refine lv_iload_n hx hb md_Mo_beat_72 rfl (lv_at hl 2 rfl) ?_
    refine lv_iconst (v := (2 : Int32)) hx hb md_Mo_beat_73 (by decide) ?_
    refine lv_idiv hx hb md_Mo_beat_74 (by decide) ?_
    refine fw_top (y := (2 : Int32)) (by decide) ?_
    refine lv_iadd hx hb md_Mo_beat_75 ?_
    refine fw_top (y := (2 : Int32)) (by decide) ?_
    refine fw_iald hx hb hK hP (mm_24 (by decide)) (mk_24 0) 0 rfl (j := 2) (by decide) (fw_inc (by decide)) md_Mo_beat_76 ?_
    have h_39 : vp_in ((v 24 0 2) + 1) 9 := hI.1 24 0 (2)
    refine lv_istore_n (lv' := [(3, .int (v 24 0 2)), (0, .ref (ad 0 0)), (1, .int (0 : Int32)), (2, .int (5 : Int32))]) hx hb md_Mo_beat_77 rfl hl (by decide) rfl (fun ls hl => ?_)
    refine lv_iload_n hx hb md_Mo_beat_78 rfl (lv_at hl 0 rfl) ?_
    refine lv_if_lt (tgt := 113) hx hb md_Mo_beat_79 (by decide) (fun c_40 => ?_) (fun c_40 => ?_)
    · exact J22 v  _ _ _ (by rw [hj]; simp only [mf_Mo_beat_0_j21, if_pos c_40])   hI hP hS (lv_sub hl [1, 2, 3] rfl)
    · have h_46 : vp_in (v 24 0 2) 8 := fw_m8 h_39 c_40
      refine lv_aload_n hx hb md_Mo_beat_82 rfl (lv_at hl 1 rfl) ?_
      refine fw_getr hx hb hts i_Mo hown hK hP (mm_0 (by decide)) (mk_0 0) rfl 15 (by decide) (hts _ L_Mo_53) (fun _ h9 => h9) rfl md_Mo_beat_83 ?_
      refine lv_iload_n hx hb md_Mo_beat_86 rfl (lv_at hl 2 rfl) ?_
      refine fw_iald hx hb hK hP (mm_16 (by decide)) (mk_16 0) 0 rfl (j := 0) (by decide) (fw_inc (by decide)) md_Mo_beat_87 ?_
      refine lv_iload_n hx hb md_Mo_beat_88 rfl (lv_at hl 3 rfl) ?_
      refine lv_iconst (v := (2 : Int32)) hx hb md_Mo_beat_89 (by decide) ?_
      refine lv_idiv hx hb md_Mo_beat_90 (by decide) ?_
      refine fw_top (y := (2 : Int32)) (by decide) ?_
      refine lv_ishr hx hb md_Mo_beat_91 ?_
      refine lv_iconst (v := (1 : Int32)) hx hb md_Mo_beat_92 (by decide) ?_
      refine lv_iand hx hb md_Mo_beat_93 ?_
      refine lv_if_ne (tgt := 113) hx hb md_Mo_beat_94 (by decide) (fun c_47 => ?_) (fun c_47 => ?_)
      · exact J22 v  _ _ _ (by rw [hj]; simp only [mf_Mo_beat_0_j21, if_neg c_40, if_neg c_47])   hI hP hS (lv_sub hl [1, 2, 3] rfl)
      · refine lv_iload_n hx hb md_Mo_beat_97 rfl (lv_at hl 3 rfl) ?_
        refine lv_iconst (v := (2 : Int32)) hx hb md_Mo_beat_98 (by decide) ?_
        refine lv_irem hx hb md_Mo_beat_99 (by decide) ?_
        refine fw_top (y := (1 : Int32)) (by decide) ?_
        refine lv_aload_n hx hb md_Mo_beat_100 rfl (lv_at hl 1 rfl) ?_
        refine fw_getr hx hb hts i_Mo hown hK hP (mm_0 (by decide)) (mk_0 0) rfl 1 (by decide) (hts _ L_Mo_13) (fun _ h9 => h9) rfl md_Mo_beat_101 ?_
        refine lv_iload_n hx hb md_Mo_beat_104 rfl (lv_at hl 0 rfl) ?_
        refine fw_iald hx hb hK hP (mm_2 (by decide)) (mk_2 0) 0 rfl (j := (v 24 0 2).toNatClampNeg) rfl h_46 md_Mo_beat_105 ?_
        refine lv_icmp_ge (tgt := 113) hx hb md_Mo_beat_106 (by decide) (fun c_48 => ?_) (fun c_48 => ?_)
        · exact J22 v  _ _ _ (by rw [hj]; simp only [mf_Mo_beat_0_j21, if_neg c_40, if_pos c_47, if_pos c_48])   hI hP hS (lv_sub hl [1, 2, 3] rfl)
        · refine lv_iconst (v := (1 : Int32)) hx hb md_Mo_beat_109 (by decide) ?_
          refine lv_goto (tgt := 114) hx hb md_Mo_beat_110 (by decide) ?_
          exact J26 v  _ _ _ (by rw [hj]; simp only [mf_Mo_beat_0_j21, if_neg c_40, if_pos c_47, if_neg c_48])   hI hP hS (lv_sub hl [1, 2, 3] rfl)
  have J20 : ∀ (v : fw_V)  (H : Heap) (locs : List Loc) (ls : Array Slot), mf_Mo_beat_0 v0 = mf_Mo_beat_0_j20 v → mI b v → va_P D vcls (fw_w mCL cA mkd ad v) H → va_S (fw_A mCL ad) s.heap H locs → lv_has ls 5 [(0, .ref (ad 0 0)), (1, .int (0 : Int32)), (2, .int (4 : Int32))] → W p l e (headSpec (Cond.code my_Mo_beat mb_Mo_beat 5 none :: vTB) mrm_Mo_beat).room s m ([.ref (ad 0 0), .int (0 : Int32)] : List Value).toArray below meth c H locs 0 0 (MQ below (fw_Qv D vcls mCL cA mkd ad (mI b) (mf_Mo_beat_0 v0)) ([.ref (ad 0 0), .int (0 : Int32)] : List Value).toArray s 0 0 (fw_A mCL ad)) (F0 m 141 ls [.int (0 : Int32), .int (4 : Int32), .ref (ad 9 0)]) := by
    intro v  H locs ls hj  hI hP hS hl
    clear J25 J24 J23 J22 J27 J26
    refine fw_iast hx hb hK hD hP hS (mm_9 (by decide)) (mk_9 0) 0 rfl (j := 4) (by decide) (fw_inc (by decide)) md_Mo_beat_141 (fun v37 H locs ev37 hP hS => ?_)
    have hI : mI b v37 := by rw [ev37]; exact mI_up hI trivial trivial
    refine lv_iinc (v := (5 : Int32)) (lv' := [(2, .int (5 : Int32)), (0, .ref (ad 0 0)), (1, .int (0 : Int32))]) hx hb md_Mo_beat_142 hl (k := 2) rfl (by decide) (by decide) rfl (fun ls hl => ?_)
    refine lv_goto (tgt := 59) hx hb md_Mo_beat_145 (by decide) ?_
    exact J21 v37  _ _ _ (by rw [hj]; subst ev37; simp only [mf_Mo_beat_0_j20])   hI hP hS (lv_sub hl [1, 2, 0] rfl)
  have J19 : ∀ (v : fw_V)  (H : Heap) (locs : List Loc) (ls : Array Slot), mf_Mo_beat_0 v0 = mf_Mo_beat_0_j19 v → mI b v → va_P D vcls (fw_w mCL cA mkd ad v) H → va_S (fw_A mCL ad) s.heap H locs → lv_has ls 5 [(0, .ref (ad 0 0)), (1, .int (0 : Int32)), (2, .int (4 : Int32))] → W p l e (headSpec (Cond.code my_Mo_beat mb_Mo_beat 5 none :: vTB) mrm_Mo_beat).room s m ([.ref (ad 0 0), .int (0 : Int32)] : List Value).toArray below meth c H locs 0 0 (MQ below (fw_Qv D vcls mCL cA mkd ad (mI b) (mf_Mo_beat_0 v0)) ([.ref (ad 0 0), .int (0 : Int32)] : List Value).toArray s 0 0 (fw_A mCL ad)) (F0 m 114 ls [.int (0 : Int32)]) := by
    intro v  H locs ls hj  hI hP hS hl
    clear J25 J24 J23 J22 J27 J26 J21
    refine lv_istore (lv' := [(4, .int (0 : Int32)), (0, .ref (ad 0 0)), (1, .int (0 : Int32)), (2, .int (4 : Int32))]) hx hb md_Mo_beat_114 hl (by decide) rfl (fun ls hl => ?_)
    refine lv_aload_n hx hb md_Mo_beat_116 rfl (lv_at hl 1 rfl) ?_
    refine fw_getr hx hb hts i_Mo hown hK hP (mm_0 (by decide)) (mk_0 0) rfl 8 (by decide) (hts _ L_Mo_35) (fun _ h9 => h9) rfl md_Mo_beat_117 ?_
    refine lv_iload_n hx hb md_Mo_beat_120 rfl (lv_at hl 3 rfl) ?_
    refine lv_iload hx hb md_Mo_beat_121 (lv_at hl 0 rfl) ?_
    refine lv_if_eq (tgt := 140) hx hb md_Mo_beat_123 (by decide) (fun _ => ?_) (fun c_36 => absurd (by decide) c_36)
    refine lv_iconst (v := (0 : Int32)) hx hb md_Mo_beat_140 (by decide) ?_
    exact J20 v  _ _ _ (by rw [hj]; simp only [mf_Mo_beat_0_j19])   hI hP hS (lv_sub hl [1, 2, 3] rfl)
  have J18 : ∀ (v : fw_V)  (H : Heap) (locs : List Loc) (ls : Array Slot), mf_Mo_beat_0 v0 = mf_Mo_beat_0_j18 v → mI b v → va_P D vcls (fw_w mCL cA mkd ad v) H → va_S (fw_A mCL ad) s.heap H locs → lv_has ls 5 [(0, .ref (ad 0 0)), (1, .int (0 : Int32)), (2, .int (4 : Int32))] → W p l e (headSpec (Cond.code my_Mo_beat mb_Mo_beat 5 none :: vTB) mrm_Mo_beat).room s m ([.ref (ad 0 0), .int (0 : Int32)] : List Value).toArray below meth c H locs 0 0 (MQ below (fw_Qv D vcls mCL cA mkd ad (mI b) (mf_Mo_beat_0 v0)) ([.ref (ad 0 0), .int (0 : Int32)] : List Value).toArray s 0 0 (fw_A mCL ad)) (F0 m 113 ls []) := by
    intro v  H locs ls hj  hI hP hS hl
    clear J25 J24 J23 J22 J27 J26 J21 J20
    refine lv_iconst (v := (0 : Int32)) hx hb md_Mo_beat_113 (by decide) ?_
    exact J19 v  _ _ _ (by rw [hj]; simp only [mf_Mo_beat_0_j18])   hI hP hS (lv_sub hl [0, 1, 2] rfl)
  have J29 : ∀ (v : fw_V) (x90 : Int32) (H : Heap) (locs : List Loc) (ls : Array Slot), mf_Mo_beat_0 v0 = mf_Mo_beat_0_j29 v x90 → mI b v → va_P D vcls (fw_w mCL cA mkd ad v) H → va_S (fw_A mCL ad) s.heap H locs → lv_has ls 5 [(0, .ref (ad 0 0)), (1, .int (0 : Int32)), (2, .int (4 : Int32))] → W p l e (headSpec (Cond.code my_Mo_beat mb_Mo_beat 5 none :: vTB) mrm_Mo_beat).room s m ([.ref (ad 0 0), .int (0 : Int32)] : List Value).toArray below meth c H locs 0 0 (MQ below (fw_Qv D vcls mCL cA mkd ad (mI b) (mf_Mo_beat_0 v0)) ([.ref (ad 0 0), .int (0 : Int32)] : List Value).toArray s 0 0 (fw_A mCL ad)) (F0 m 141 ls [.int x90, .int (4 : Int32), .ref (ad 9 0)]) := by
    intro v x90 H locs ls hj  hI hP hS hl
    clear J25 J24 J23 J22 J27 J26 J20 J19 J18
    refine fw_iast hx hb hK hD hP hS (mm_9 (by decide)) (mk_9 0) 0 rfl (j := 4) (by decide) (fw_inc (by decide)) md_Mo_beat_141 (fun v55 H locs ev55 hP hS => ?_)
    have hI : mI b v55 := by rw [ev55]; exact mI_up hI trivial trivial
    refine lv_iinc (v := (5 : Int32)) (lv' := [(2, .int (5 : Int32)), (0, .ref (ad 0 0)), (1, .int (0 : Int32))]) hx hb md_Mo_beat_142 hl (k := 2) rfl (by decide) (by decide) rfl (fun ls hl => ?_)
    refine lv_goto (tgt := 59) hx hb md_Mo_beat_145 (by decide) ?_
    exact J21 v55  _ _ _ (by rw [hj]; subst ev55; simp only [mf_Mo_beat_0_j29])   hI hP hS (lv_sub hl [1, 2, 0] rfl)
  have J28 : ∀ (v : fw_V)  (H : Heap) (locs : List Loc) (ls : Array Slot), mf_Mo_beat_0 v0 = mf_Mo_beat_0_j28 v → mI b v → va_P D vcls (fw_w mCL cA mkd ad v) H → va_S (fw_A mCL ad) s.heap H locs → lv_has ls 5 [(0, .ref (ad 0 0)), (1, .int (0 : Int32)), (2, .int (4 : Int32))] → W p l e (headSpec (Cond.code my_Mo_beat mb_Mo_beat 5 none :: vTB) mrm_Mo_beat).room s m ([.ref (ad 0 0), .int (0 : Int32)] : List Value).toArray below meth c H locs 0 0 (MQ below (fw_Qv D vcls mCL cA mkd ad (mI b) (mf_Mo_beat_0 v0)) ([.ref (ad 0 0), .int (0 : Int32)] : List Value).toArray s 0 0 (fw_A mCL ad)) (F0 m 114 ls [.int (1 : Int32)]) := by
    intro v  H locs ls hj  hI hP hS hl
    clear J25 J24 J23 J22 J27 J26 J21 J20 J19 J18
    refine lv_istore (lv' := [(4, .int (1 : Int32)), (0, .ref (ad 0 0)), (1, .int (0 : Int32)), (2, .int (4 : Int32))]) hx hb md_Mo_beat_114 hl (by decide) rfl (fun ls hl => ?_)
    refine lv_aload_n hx hb md_Mo_beat_116 rfl (lv_at hl 1 rfl) ?_
    refine fw_getr hx hb hts i_Mo hown hK hP (mm_0 (by decide)) (mk_0 0) rfl 8 (by decide) (hts _ L_Mo_35) (fun _ h9 => h9) rfl md_Mo_beat_117 ?_
    refine lv_iload_n hx hb md_Mo_beat_120 rfl (lv_at hl 3 rfl) ?_
    refine lv_iload hx hb md_Mo_beat_121 (lv_at hl 0 rfl) ?_
    refine lv_if_eq (tgt := 140) hx hb md_Mo_beat_123 (by decide) (fun c_54 => absurd c_54 (by decide)) (fun _ => ?_)
    refine lv_aload_n hx hb md_Mo_beat_126 rfl (lv_at hl 1 rfl) ?_
    refine fw_getr hx hb hts i_Mo hown hK hP (mm_0 (by decide)) (mk_0 0) rfl 25 (by decide) (hts _ L_Mo_83) (fun _ h9 => h9) rfl md_Mo_beat_127 ?_
    refine lv_bipush (v := (6 : Int32)) hx hb md_Mo_beat_130 (by decide) ?_
    refine lv_iload_n hx hb md_Mo_beat_132 rfl (lv_at hl 2 rfl) ?_
    refine lv_imul hx hb md_Mo_beat_133 ?_
    refine fw_top (y := (0 : Int32)) (by decide) ?_
    refine lv_iload_n hx hb md_Mo_beat_134 rfl (lv_at hl 3 rfl) ?_
    refine lv_iadd hx hb md_Mo_beat_135 ?_
    refine fw_top (y := (4 : Int32)) (by decide) ?_
    refine fw_iald hx hb hK hP (mm_26 (by decide)) (mk_26 0) 0 rfl (j := 4) (by decide) (fw_inc (by decide)) md_Mo_beat_136 ?_
    refine lv_goto (tgt := 141) hx hb md_Mo_beat_137 (by decide) ?_
    exact J29 v ((v 26 0 4)) _ _ _ (by rw [hj]; simp only [mf_Mo_beat_0_j28])   hI hP hS (lv_sub hl [1, 2, 3] rfl)
  have J17 : ∀ (v : fw_V)  (H : Heap) (locs : List Loc) (ls : Array Slot), mf_Mo_beat_0 v0 = mf_Mo_beat_0_j17 v → mI b v → va_P D vcls (fw_w mCL cA mkd ad v) H → va_S (fw_A mCL ad) s.heap H locs → lv_has ls 5 [(0, .ref (ad 0 0)), (1, .int (0 : Int32)), (2, .int (4 : Int32))] → W p l e (headSpec (Cond.code my_Mo_beat mb_Mo_beat 5 none :: vTB) mrm_Mo_beat).room s m ([.ref (ad 0 0), .int (0 : Int32)] : List Value).toArray below meth c H locs 0 0 (MQ below (fw_Qv D vcls mCL cA mkd ad (mI b) (mf_Mo_beat_0 v0)) ([.ref (ad 0 0), .int (0 : Int32)] : List Value).toArray s 0 0 (fw_A mCL ad)) (F0 m 59 ls []) := by
    intro v  H locs ls hj  hI hP hS hl
    clear J25 J24 J23 J22 J27 J26 J21 J20 J19 J29
    refine lv_iload_n hx hb md_Mo_beat_59 rfl (lv_at hl 2 rfl) ?_
    refine lv_bipush (v := (6 : Int32)) hx hb md_Mo_beat_60 (by decide) ?_
    refine lv_icmp_ge (tgt := 148) hx hb md_Mo_beat_62 (by decide) (fun c_33 => absurd c_33 (by decide)) (fun _ => ?_)
    refine lv_aload_n hx hb md_Mo_beat_65 rfl (lv_at hl 0 rfl) ?_
    refine fw_getr hx hb hts i_Mo hown hK hP (mm_0 (by decide)) (mk_0 0) rfl 23 (by decide) (hts _ L_Mo_77) (fun _ h9 => h9) rfl md_Mo_beat_66 ?_
    refine lv_iconst (v := (3 : Int32)) hx hb md_Mo_beat_69 (by decide) ?_
    refine lv_iload_n hx hb md_Mo_beat_70 rfl (lv_at hl 1 rfl) ?_
    refine lv_imul hx hb md_Mo_beat_71 ?_
    refine fw_top (y := (0 : Int32)) (by decide) ?_
    refine lv_iload_n hx hb md_Mo_beat_72 rfl (lv_at hl 2 rfl) ?_
    refine lv_iconst (v := (2 : Int32)) hx hb md_Mo_beat_73 (by decide) ?_
    refine lv_idiv hx hb md_Mo_beat_74 (by decide) ?_
    refine fw_top (y := (2 : Int32)) (by decide) ?_
    refine lv_iadd hx hb md_Mo_beat_75 ?_
    refine fw_top (y := (2 : Int32)) (by decide) ?_
    refine fw_iald hx hb hK hP (mm_24 (by decide)) (mk_24 0) 0 rfl (j := 2) (by decide) (fw_inc (by decide)) md_Mo_beat_76 ?_
    have h_34 : vp_in ((v 24 0 2) + 1) 9 := hI.1 24 0 (2)
    refine lv_istore_n (lv' := [(3, .int (v 24 0 2)), (0, .ref (ad 0 0)), (1, .int (0 : Int32)), (2, .int (4 : Int32))]) hx hb md_Mo_beat_77 rfl hl (by decide) rfl (fun ls hl => ?_)
    refine lv_iload_n hx hb md_Mo_beat_78 rfl (lv_at hl 0 rfl) ?_
    refine lv_if_lt (tgt := 113) hx hb md_Mo_beat_79 (by decide) (fun c_35 => ?_) (fun c_35 => ?_)
    · exact J18 v  _ _ _ (by rw [hj]; simp only [mf_Mo_beat_0_j17, if_pos c_35])   hI hP hS (lv_sub hl [1, 2, 3] rfl)
    · have h_51 : vp_in (v 24 0 2) 8 := fw_m8 h_34 c_35
      refine lv_aload_n hx hb md_Mo_beat_82 rfl (lv_at hl 1 rfl) ?_
      refine fw_getr hx hb hts i_Mo hown hK hP (mm_0 (by decide)) (mk_0 0) rfl 15 (by decide) (hts _ L_Mo_53) (fun _ h9 => h9) rfl md_Mo_beat_83 ?_
      refine lv_iload_n hx hb md_Mo_beat_86 rfl (lv_at hl 2 rfl) ?_
      refine fw_iald hx hb hK hP (mm_16 (by decide)) (mk_16 0) 0 rfl (j := 0) (by decide) (fw_inc (by decide)) md_Mo_beat_87 ?_
      refine lv_iload_n hx hb md_Mo_beat_88 rfl (lv_at hl 3 rfl) ?_
      refine lv_iconst (v := (2 : Int32)) hx hb md_Mo_beat_89 (by decide) ?_
      refine lv_idiv hx hb md_Mo_beat_90 (by decide) ?_
      refine fw_top (y := (2 : Int32)) (by decide) ?_
      refine lv_ishr hx hb md_Mo_beat_91 ?_
      refine lv_iconst (v := (1 : Int32)) hx hb md_Mo_beat_92 (by decide) ?_
      refine lv_iand hx hb md_Mo_beat_93 ?_
      refine lv_if_ne (tgt := 113) hx hb md_Mo_beat_94 (by decide) (fun c_52 => ?_) (fun c_52 => ?_)
      · exact J18 v  _ _ _ (by rw [hj]; simp only [mf_Mo_beat_0_j17, if_neg c_35, if_neg c_52])   hI hP hS (lv_sub hl [1, 2, 3] rfl)
      · refine lv_iload_n hx hb md_Mo_beat_97 rfl (lv_at hl 3 rfl) ?_
        refine lv_iconst (v := (2 : Int32)) hx hb md_Mo_beat_98 (by decide) ?_
        refine lv_irem hx hb md_Mo_beat_99 (by decide) ?_
        refine fw_top (y := (0 : Int32)) (by decide) ?_
        refine lv_aload_n hx hb md_Mo_beat_100 rfl (lv_at hl 1 rfl) ?_
        refine fw_getr hx hb hts i_Mo hown hK hP (mm_0 (by decide)) (mk_0 0) rfl 1 (by decide) (hts _ L_Mo_13) (fun _ h9 => h9) rfl md_Mo_beat_101 ?_
        refine lv_iload_n hx hb md_Mo_beat_104 rfl (lv_at hl 0 rfl) ?_
        refine fw_iald hx hb hK hP (mm_2 (by decide)) (mk_2 0) 0 rfl (j := (v 24 0 2).toNatClampNeg) rfl h_51 md_Mo_beat_105 ?_
        refine lv_icmp_ge (tgt := 113) hx hb md_Mo_beat_106 (by decide) (fun c_53 => ?_) (fun c_53 => ?_)
        · exact J18 v  _ _ _ (by rw [hj]; simp only [mf_Mo_beat_0_j17, if_neg c_35, if_pos c_52, if_pos c_53])   hI hP hS (lv_sub hl [1, 2, 3] rfl)
        · refine lv_iconst (v := (1 : Int32)) hx hb md_Mo_beat_109 (by decide) ?_
          refine lv_goto (tgt := 114) hx hb md_Mo_beat_110 (by decide) ?_
          exact J28 v  _ _ _ (by rw [hj]; simp only [mf_Mo_beat_0_j17, if_neg c_35, if_pos c_52, if_neg c_53])   hI hP hS (lv_sub hl [1, 2, 3] rfl)
  have J16 : ∀ (v : fw_V)  (H : Heap) (locs : List Loc) (ls : Array Slot), mf_Mo_beat_0 v0 = mf_Mo_beat_0_j16 v → mI b v → va_P D vcls (fw_w mCL cA mkd ad v) H → va_S (fw_A mCL ad) s.heap H locs → lv_has ls 5 [(0, .ref (ad 0 0)), (1, .int (0 : Int32)), (2, .int (3 : Int32))] → W p l e (headSpec (Cond.code my_Mo_beat mb_Mo_beat 5 none :: vTB) mrm_Mo_beat).room s m ([.ref (ad 0 0), .int (0 : Int32)] : List Value).toArray below meth c H locs 0 0 (MQ below (fw_Qv D vcls mCL cA mkd ad (mI b) (mf_Mo_beat_0 v0)) ([.ref (ad 0 0), .int (0 : Int32)] : List Value).toArray s 0 0 (fw_A mCL ad)) (F0 m 141 ls [.int (0 : Int32), .int (3 : Int32), .ref (ad 9 0)]) := by
    intro v  H locs ls hj  hI hP hS hl
    clear J25 J24 J23 J22 J27 J26 J21 J20 J19 J18 J29 J28
    refine fw_iast hx hb hK hD hP hS (mm_9 (by decide)) (mk_9 0) 0 rfl (j := 3) (by decide) (fw_inc (by decide)) md_Mo_beat_141 (fun v32 H locs ev32 hP hS => ?_)
    have hI : mI b v32 := by rw [ev32]; exact mI_up hI trivial trivial
    refine lv_iinc (v := (4 : Int32)) (lv' := [(2, .int (4 : Int32)), (0, .ref (ad 0 0)), (1, .int (0 : Int32))]) hx hb md_Mo_beat_142 hl (k := 2) rfl (by decide) (by decide) rfl (fun ls hl => ?_)
    refine lv_goto (tgt := 59) hx hb md_Mo_beat_145 (by decide) ?_
    exact J17 v32  _ _ _ (by rw [hj]; subst ev32; simp only [mf_Mo_beat_0_j16])   hI hP hS (lv_sub hl [1, 2, 0] rfl)
  have J15 : ∀ (v : fw_V)  (H : Heap) (locs : List Loc) (ls : Array Slot), mf_Mo_beat_0 v0 = mf_Mo_beat_0_j15 v → mI b v → va_P D vcls (fw_w mCL cA mkd ad v) H → va_S (fw_A mCL ad) s.heap H locs → lv_has ls 5 [(0, .ref (ad 0 0)), (1, .int (0 : Int32)), (2, .int (3 : Int32))] → W p l e (headSpec (Cond.code my_Mo_beat mb_Mo_beat 5 none :: vTB) mrm_Mo_beat).room s m ([.ref (ad 0 0), .int (0 : Int32)] : List Value).toArray below meth c H locs 0 0 (MQ below (fw_Qv D vcls mCL cA mkd ad (mI b) (mf_Mo_beat_0 v0)) ([.ref (ad 0 0), .int (0 : Int32)] : List Value).toArray s 0 0 (fw_A mCL ad)) (F0 m 114 ls [.int (0 : Int32)]) := by
    intro v  H locs ls hj  hI hP hS hl
    clear J25 J24 J23 J22 J27 J26 J21 J20 J19 J18 J29 J28 J17
    refine lv_istore (lv' := [(4, .int (0 : Int32)), (0, .ref (ad 0 0)), (1, .int (0 : Int32)), (2, .int (3 : Int32))]) hx hb md_Mo_beat_114 hl (by decide) rfl (fun ls hl => ?_)
    refine lv_aload_n hx hb md_Mo_beat_116 rfl (lv_at hl 1 rfl) ?_
    refine fw_getr hx hb hts i_Mo hown hK hP (mm_0 (by decide)) (mk_0 0) rfl 8 (by decide) (hts _ L_Mo_35) (fun _ h9 => h9) rfl md_Mo_beat_117 ?_
    refine lv_iload_n hx hb md_Mo_beat_120 rfl (lv_at hl 3 rfl) ?_
    refine lv_iload hx hb md_Mo_beat_121 (lv_at hl 0 rfl) ?_
    refine lv_if_eq (tgt := 140) hx hb md_Mo_beat_123 (by decide) (fun _ => ?_) (fun c_31 => absurd (by decide) c_31)
    refine lv_iconst (v := (0 : Int32)) hx hb md_Mo_beat_140 (by decide) ?_
    exact J16 v  _ _ _ (by rw [hj]; simp only [mf_Mo_beat_0_j15])   hI hP hS (lv_sub hl [1, 2, 3] rfl)
  have J14 : ∀ (v : fw_V)  (H : Heap) (locs : List Loc) (ls : Array Slot), mf_Mo_beat_0 v0 = mf_Mo_beat_0_j14 v → mI b v → va_P D vcls (fw_w mCL cA mkd ad v) H → va_S (fw_A mCL ad) s.heap H locs → lv_has ls 5 [(0, .ref (ad 0 0)), (1, .int (0 : Int32)), (2, .int (3 : Int32))] → W p l e (headSpec (Cond.code my_Mo_beat mb_Mo_beat 5 none :: vTB) mrm_Mo_beat).room s m ([.ref (ad 0 0), .int (0 : Int32)] : List Value).toArray below meth c H locs 0 0 (MQ below (fw_Qv D vcls mCL cA mkd ad (mI b) (mf_Mo_beat_0 v0)) ([.ref (ad 0 0), .int (0 : Int32)] : List Value).toArray s 0 0 (fw_A mCL ad)) (F0 m 113 ls []) := by
    intro v  H locs ls hj  hI hP hS hl
    clear J25 J24 J23 J22 J27 J26 J21 J20 J19 J18 J29 J28 J17 J16
    refine lv_iconst (v := (0 : Int32)) hx hb md_Mo_beat_113 (by decide) ?_
    exact J15 v  _ _ _ (by rw [hj]; simp only [mf_Mo_beat_0_j14])   hI hP hS (lv_sub hl [0, 1, 2] rfl)
  have J31 : ∀ (v : fw_V) (x90 : Int32) (H : Heap) (locs : List Loc) (ls : Array Slot), mf_Mo_beat_0 v0 = mf_Mo_beat_0_j31 v x90 → mI b v → va_P D vcls (fw_w mCL cA mkd ad v) H → va_S (fw_A mCL ad) s.heap H locs → lv_has ls 5 [(0, .ref (ad 0 0)), (1, .int (0 : Int32)), (2, .int (3 : Int32))] → W p l e (headSpec (Cond.code my_Mo_beat mb_Mo_beat 5 none :: vTB) mrm_Mo_beat).room s m ([.ref (ad 0 0), .int (0 : Int32)] : List Value).toArray below meth c H locs 0 0 (MQ below (fw_Qv D vcls mCL cA mkd ad (mI b) (mf_Mo_beat_0 v0)) ([.ref (ad 0 0), .int (0 : Int32)] : List Value).toArray s 0 0 (fw_A mCL ad)) (F0 m 141 ls [.int x90, .int (3 : Int32), .ref (ad 9 0)]) := by
    intro v x90 H locs ls hj  hI hP hS hl
    clear J25 J24 J23 J22 J27 J26 J21 J20 J19 J18 J29 J28 J16 J15 J14
    refine fw_iast hx hb hK hD hP hS (mm_9 (by decide)) (mk_9 0) 0 rfl (j := 3) (by decide) (fw_inc (by decide)) md_Mo_beat_141 (fun v60 H locs ev60 hP hS => ?_)
    have hI : mI b v60 := by rw [ev60]; exact mI_up hI trivial trivial
    refine lv_iinc (v := (4 : Int32)) (lv' := [(2, .int (4 : Int32)), (0, .ref (ad 0 0)), (1, .int (0 : Int32))]) hx hb md_Mo_beat_142 hl (k := 2) rfl (by decide) (by decide) rfl (fun ls hl => ?_)
    refine lv_goto (tgt := 59) hx hb md_Mo_beat_145 (by decide) ?_
    exact J17 v60  _ _ _ (by rw [hj]; subst ev60; simp only [mf_Mo_beat_0_j31])   hI hP hS (lv_sub hl [1, 2, 0] rfl)
  have J30 : ∀ (v : fw_V)  (H : Heap) (locs : List Loc) (ls : Array Slot), mf_Mo_beat_0 v0 = mf_Mo_beat_0_j30 v → mI b v → va_P D vcls (fw_w mCL cA mkd ad v) H → va_S (fw_A mCL ad) s.heap H locs → lv_has ls 5 [(0, .ref (ad 0 0)), (1, .int (0 : Int32)), (2, .int (3 : Int32))] → W p l e (headSpec (Cond.code my_Mo_beat mb_Mo_beat 5 none :: vTB) mrm_Mo_beat).room s m ([.ref (ad 0 0), .int (0 : Int32)] : List Value).toArray below meth c H locs 0 0 (MQ below (fw_Qv D vcls mCL cA mkd ad (mI b) (mf_Mo_beat_0 v0)) ([.ref (ad 0 0), .int (0 : Int32)] : List Value).toArray s 0 0 (fw_A mCL ad)) (F0 m 114 ls [.int (1 : Int32)]) := by
    intro v  H locs ls hj  hI hP hS hl
    clear J25 J24 J23 J22 J27 J26 J21 J20 J19 J18 J29 J28 J17 J16 J15 J14
    refine lv_istore (lv' := [(4, .int (1 : Int32)), (0, .ref (ad 0 0)), (1, .int (0 : Int32)), (2, .int (3 : Int32))]) hx hb md_Mo_beat_114 hl (by decide) rfl (fun ls hl => ?_)
    refine lv_aload_n hx hb md_Mo_beat_116 rfl (lv_at hl 1 rfl) ?_
    refine fw_getr hx hb hts i_Mo hown hK hP (mm_0 (by decide)) (mk_0 0) rfl 8 (by decide) (hts _ L_Mo_35) (fun _ h9 => h9) rfl md_Mo_beat_117 ?_
    refine lv_iload_n hx hb md_Mo_beat_120 rfl (lv_at hl 3 rfl) ?_
    refine lv_iload hx hb md_Mo_beat_121 (lv_at hl 0 rfl) ?_
    refine lv_if_eq (tgt := 140) hx hb md_Mo_beat_123 (by decide) (fun c_59 => absurd c_59 (by decide)) (fun _ => ?_)
    refine lv_aload_n hx hb md_Mo_beat_126 rfl (lv_at hl 1 rfl) ?_
    refine fw_getr hx hb hts i_Mo hown hK hP (mm_0 (by decide)) (mk_0 0) rfl 25 (by decide) (hts _ L_Mo_83) (fun _ h9 => h9) rfl md_Mo_beat_127 ?_
    refine lv_bipush (v := (6 : Int32)) hx hb md_Mo_beat_130 (by decide) ?_
    refine lv_iload_n hx hb md_Mo_beat_132 rfl (lv_at hl 2 rfl) ?_
    refine lv_imul hx hb md_Mo_beat_133 ?_
    refine fw_top (y := (0 : Int32)) (by decide) ?_
    refine lv_iload_n hx hb md_Mo_beat_134 rfl (lv_at hl 3 rfl) ?_
    refine lv_iadd hx hb md_Mo_beat_135 ?_
    refine fw_top (y := (3 : Int32)) (by decide) ?_
    refine fw_iald hx hb hK hP (mm_26 (by decide)) (mk_26 0) 0 rfl (j := 3) (by decide) (fw_inc (by decide)) md_Mo_beat_136 ?_
    refine lv_goto (tgt := 141) hx hb md_Mo_beat_137 (by decide) ?_
    exact J31 v ((v 26 0 3)) _ _ _ (by rw [hj]; simp only [mf_Mo_beat_0_j30])   hI hP hS (lv_sub hl [1, 2, 3] rfl)
  have J13 : ∀ (v : fw_V)  (H : Heap) (locs : List Loc) (ls : Array Slot), mf_Mo_beat_0 v0 = mf_Mo_beat_0_j13 v → mI b v → va_P D vcls (fw_w mCL cA mkd ad v) H → va_S (fw_A mCL ad) s.heap H locs → lv_has ls 5 [(0, .ref (ad 0 0)), (1, .int (0 : Int32)), (2, .int (3 : Int32))] → W p l e (headSpec (Cond.code my_Mo_beat mb_Mo_beat 5 none :: vTB) mrm_Mo_beat).room s m ([.ref (ad 0 0), .int (0 : Int32)] : List Value).toArray below meth c H locs 0 0 (MQ below (fw_Qv D vcls mCL cA mkd ad (mI b) (mf_Mo_beat_0 v0)) ([.ref (ad 0 0), .int (0 : Int32)] : List Value).toArray s 0 0 (fw_A mCL ad)) (F0 m 59 ls []) := by
    intro v  H locs ls hj  hI hP hS hl
    clear J25 J24 J23 J22 J27 J26 J21 J20 J19 J18 J29 J28 J17 J16 J15 J31
    refine lv_iload_n hx hb md_Mo_beat_59 rfl (lv_at hl 2 rfl) ?_
    refine lv_bipush (v := (6 : Int32)) hx hb md_Mo_beat_60 (by decide) ?_
    refine lv_icmp_ge (tgt := 148) hx hb md_Mo_beat_62 (by decide) (fun c_28 => absurd c_28 (by decide)) (fun _ => ?_)
    refine lv_aload_n hx hb md_Mo_beat_65 rfl (lv_at hl 0 rfl) ?_
    refine fw_getr hx hb hts i_Mo hown hK hP (mm_0 (by decide)) (mk_0 0) rfl 23 (by decide) (hts _ L_Mo_77) (fun _ h9 => h9) rfl md_Mo_beat_66 ?_
    refine lv_iconst (v := (3 : Int32)) hx hb md_Mo_beat_69 (by decide) ?_
    refine lv_iload_n hx hb md_Mo_beat_70 rfl (lv_at hl 1 rfl) ?_
    refine lv_imul hx hb md_Mo_beat_71 ?_
    refine fw_top (y := (0 : Int32)) (by decide) ?_
    refine lv_iload_n hx hb md_Mo_beat_72 rfl (lv_at hl 2 rfl) ?_
    refine lv_iconst (v := (2 : Int32)) hx hb md_Mo_beat_73 (by decide) ?_
    refine lv_idiv hx hb md_Mo_beat_74 (by decide) ?_
    refine fw_top (y := (1 : Int32)) (by decide) ?_
    refine lv_iadd hx hb md_Mo_beat_75 ?_
    refine fw_top (y := (1 : Int32)) (by decide) ?_
    refine fw_iald hx hb hK hP (mm_24 (by decide)) (mk_24 0) 0 rfl (j := 1) (by decide) (fw_inc (by decide)) md_Mo_beat_76 ?_
    have h_29 : vp_in ((v 24 0 1) + 1) 9 := hI.1 24 0 (1)
    refine lv_istore_n (lv' := [(3, .int (v 24 0 1)), (0, .ref (ad 0 0)), (1, .int (0 : Int32)), (2, .int (3 : Int32))]) hx hb md_Mo_beat_77 rfl hl (by decide) rfl (fun ls hl => ?_)
    refine lv_iload_n hx hb md_Mo_beat_78 rfl (lv_at hl 0 rfl) ?_
    refine lv_if_lt (tgt := 113) hx hb md_Mo_beat_79 (by decide) (fun c_30 => ?_) (fun c_30 => ?_)
    · exact J14 v  _ _ _ (by rw [hj]; simp only [mf_Mo_beat_0_j13, if_pos c_30])   hI hP hS (lv_sub hl [1, 2, 3] rfl)
    · have h_56 : vp_in (v 24 0 1) 8 := fw_m8 h_29 c_30
      refine lv_aload_n hx hb md_Mo_beat_82 rfl (lv_at hl 1 rfl) ?_
      refine fw_getr hx hb hts i_Mo hown hK hP (mm_0 (by decide)) (mk_0 0) rfl 15 (by decide) (hts _ L_Mo_53) (fun _ h9 => h9) rfl md_Mo_beat_83 ?_
      refine lv_iload_n hx hb md_Mo_beat_86 rfl (lv_at hl 2 rfl) ?_
      refine fw_iald hx hb hK hP (mm_16 (by decide)) (mk_16 0) 0 rfl (j := 0) (by decide) (fw_inc (by decide)) md_Mo_beat_87 ?_
      refine lv_iload_n hx hb md_Mo_beat_88 rfl (lv_at hl 3 rfl) ?_
      refine lv_iconst (v := (2 : Int32)) hx hb md_Mo_beat_89 (by decide) ?_
      refine lv_idiv hx hb md_Mo_beat_90 (by decide) ?_
      refine fw_top (y := (1 : Int32)) (by decide) ?_
      refine lv_ishr hx hb md_Mo_beat_91 ?_
      refine lv_iconst (v := (1 : Int32)) hx hb md_Mo_beat_92 (by decide) ?_
      refine lv_iand hx hb md_Mo_beat_93 ?_
      refine lv_if_ne (tgt := 113) hx hb md_Mo_beat_94 (by decide) (fun c_57 => ?_) (fun c_57 => ?_)
      · exact J14 v  _ _ _ (by rw [hj]; simp only [mf_Mo_beat_0_j13, if_neg c_30, if_neg c_57])   hI hP hS (lv_sub hl [1, 2, 3] rfl)
      · refine lv_iload_n hx hb md_Mo_beat_97 rfl (lv_at hl 3 rfl) ?_
        refine lv_iconst (v := (2 : Int32)) hx hb md_Mo_beat_98 (by decide) ?_
        refine lv_irem hx hb md_Mo_beat_99 (by decide) ?_
        refine fw_top (y := (1 : Int32)) (by decide) ?_
        refine lv_aload_n hx hb md_Mo_beat_100 rfl (lv_at hl 1 rfl) ?_
        refine fw_getr hx hb hts i_Mo hown hK hP (mm_0 (by decide)) (mk_0 0) rfl 1 (by decide) (hts _ L_Mo_13) (fun _ h9 => h9) rfl md_Mo_beat_101 ?_
        refine lv_iload_n hx hb md_Mo_beat_104 rfl (lv_at hl 0 rfl) ?_
        refine fw_iald hx hb hK hP (mm_2 (by decide)) (mk_2 0) 0 rfl (j := (v 24 0 1).toNatClampNeg) rfl h_56 md_Mo_beat_105 ?_
        refine lv_icmp_ge (tgt := 113) hx hb md_Mo_beat_106 (by decide) (fun c_58 => ?_) (fun c_58 => ?_)
        · exact J14 v  _ _ _ (by rw [hj]; simp only [mf_Mo_beat_0_j13, if_neg c_30, if_pos c_57, if_pos c_58])   hI hP hS (lv_sub hl [1, 2, 3] rfl)
        · refine lv_iconst (v := (1 : Int32)) hx hb md_Mo_beat_109 (by decide) ?_
          refine lv_goto (tgt := 114) hx hb md_Mo_beat_110 (by decide) ?_
          exact J30 v  _ _ _ (by rw [hj]; simp only [mf_Mo_beat_0_j13, if_neg c_30, if_pos c_57, if_neg c_58])   hI hP hS (lv_sub hl [1, 2, 3] rfl)
  have J12 : ∀ (v : fw_V)  (H : Heap) (locs : List Loc) (ls : Array Slot), mf_Mo_beat_0 v0 = mf_Mo_beat_0_j12 v → mI b v → va_P D vcls (fw_w mCL cA mkd ad v) H → va_S (fw_A mCL ad) s.heap H locs → lv_has ls 5 [(0, .ref (ad 0 0)), (1, .int (0 : Int32)), (2, .int (2 : Int32))] → W p l e (headSpec (Cond.code my_Mo_beat mb_Mo_beat 5 none :: vTB) mrm_Mo_beat).room s m ([.ref (ad 0 0), .int (0 : Int32)] : List Value).toArray below meth c H locs 0 0 (MQ below (fw_Qv D vcls mCL cA mkd ad (mI b) (mf_Mo_beat_0 v0)) ([.ref (ad 0 0), .int (0 : Int32)] : List Value).toArray s 0 0 (fw_A mCL ad)) (F0 m 141 ls [.int (0 : Int32), .int (2 : Int32), .ref (ad 9 0)]) := by
    intro v  H locs ls hj  hI hP hS hl
    clear J25 J24 J23 J22 J27 J26 J21 J20 J19 J18 J29 J28 J17 J16 J15 J14 J31 J30
    refine fw_iast hx hb hK hD hP hS (mm_9 (by decide)) (mk_9 0) 0 rfl (j := 2) (by decide) (fw_inc (by decide)) md_Mo_beat_141 (fun v27 H locs ev27 hP hS => ?_)
    have hI : mI b v27 := by rw [ev27]; exact mI_up hI trivial trivial
    refine lv_iinc (v := (3 : Int32)) (lv' := [(2, .int (3 : Int32)), (0, .ref (ad 0 0)), (1, .int (0 : Int32))]) hx hb md_Mo_beat_142 hl (k := 2) rfl (by decide) (by decide) rfl (fun ls hl => ?_)
    refine lv_goto (tgt := 59) hx hb md_Mo_beat_145 (by decide) ?_
    exact J13 v27  _ _ _ (by rw [hj]; subst ev27; simp only [mf_Mo_beat_0_j12])   hI hP hS (lv_sub hl [1, 2, 0] rfl)
  have J11 : ∀ (v : fw_V)  (H : Heap) (locs : List Loc) (ls : Array Slot), mf_Mo_beat_0 v0 = mf_Mo_beat_0_j11 v → mI b v → va_P D vcls (fw_w mCL cA mkd ad v) H → va_S (fw_A mCL ad) s.heap H locs → lv_has ls 5 [(0, .ref (ad 0 0)), (1, .int (0 : Int32)), (2, .int (2 : Int32))] → W p l e (headSpec (Cond.code my_Mo_beat mb_Mo_beat 5 none :: vTB) mrm_Mo_beat).room s m ([.ref (ad 0 0), .int (0 : Int32)] : List Value).toArray below meth c H locs 0 0 (MQ below (fw_Qv D vcls mCL cA mkd ad (mI b) (mf_Mo_beat_0 v0)) ([.ref (ad 0 0), .int (0 : Int32)] : List Value).toArray s 0 0 (fw_A mCL ad)) (F0 m 114 ls [.int (0 : Int32)]) := by
    intro v  H locs ls hj  hI hP hS hl
    clear J25 J24 J23 J22 J27 J26 J21 J20 J19 J18 J29 J28 J17 J16 J15 J14 J31 J30 J13
    refine lv_istore (lv' := [(4, .int (0 : Int32)), (0, .ref (ad 0 0)), (1, .int (0 : Int32)), (2, .int (2 : Int32))]) hx hb md_Mo_beat_114 hl (by decide) rfl (fun ls hl => ?_)
    refine lv_aload_n hx hb md_Mo_beat_116 rfl (lv_at hl 1 rfl) ?_
    refine fw_getr hx hb hts i_Mo hown hK hP (mm_0 (by decide)) (mk_0 0) rfl 8 (by decide) (hts _ L_Mo_35) (fun _ h9 => h9) rfl md_Mo_beat_117 ?_
    refine lv_iload_n hx hb md_Mo_beat_120 rfl (lv_at hl 3 rfl) ?_
    refine lv_iload hx hb md_Mo_beat_121 (lv_at hl 0 rfl) ?_
    refine lv_if_eq (tgt := 140) hx hb md_Mo_beat_123 (by decide) (fun _ => ?_) (fun c_26 => absurd (by decide) c_26)
    refine lv_iconst (v := (0 : Int32)) hx hb md_Mo_beat_140 (by decide) ?_
    exact J12 v  _ _ _ (by rw [hj]; simp only [mf_Mo_beat_0_j11])   hI hP hS (lv_sub hl [1, 2, 3] rfl)
  have J10 : ∀ (v : fw_V)  (H : Heap) (locs : List Loc) (ls : Array Slot), mf_Mo_beat_0 v0 = mf_Mo_beat_0_j10 v → mI b v → va_P D vcls (fw_w mCL cA mkd ad v) H → va_S (fw_A mCL ad) s.heap H locs → lv_has ls 5 [(0, .ref (ad 0 0)), (1, .int (0 : Int32)), (2, .int (2 : Int32))] → W p l e (headSpec (Cond.code my_Mo_beat mb_Mo_beat 5 none :: vTB) mrm_Mo_beat).room s m ([.ref (ad 0 0), .int (0 : Int32)] : List Value).toArray below meth c H locs 0 0 (MQ below (fw_Qv D vcls mCL cA mkd ad (mI b) (mf_Mo_beat_0 v0)) ([.ref (ad 0 0), .int (0 : Int32)] : List Value).toArray s 0 0 (fw_A mCL ad)) (F0 m 113 ls []) := by
    intro v  H locs ls hj  hI hP hS hl
    clear J25 J24 J23 J22 J27 J26 J21 J20 J19 J18 J29 J28 J17 J16 J15 J14 J31 J30 J13 J12
    refine lv_iconst (v := (0 : Int32)) hx hb md_Mo_beat_113 (by decide) ?_
    exact J11 v  _ _ _ (by rw [hj]; simp only [mf_Mo_beat_0_j10])   hI hP hS (lv_sub hl [0, 1, 2] rfl)
  have J33 : ∀ (v : fw_V) (x90 : Int32) (H : Heap) (locs : List Loc) (ls : Array Slot), mf_Mo_beat_0 v0 = mf_Mo_beat_0_j33 v x90 → mI b v → va_P D vcls (fw_w mCL cA mkd ad v) H → va_S (fw_A mCL ad) s.heap H locs → lv_has ls 5 [(0, .ref (ad 0 0)), (1, .int (0 : Int32)), (2, .int (2 : Int32))] → W p l e (headSpec (Cond.code my_Mo_beat mb_Mo_beat 5 none :: vTB) mrm_Mo_beat).room s m ([.ref (ad 0 0), .int (0 : Int32)] : List Value).toArray below meth c H locs 0 0 (MQ below (fw_Qv D vcls mCL cA mkd ad (mI b) (mf_Mo_beat_0 v0)) ([.ref (ad 0 0), .int (0 : Int32)] : List Value).toArray s 0 0 (fw_A mCL ad)) (F0 m 141 ls [.int x90, .int (2 : Int32), .ref (ad 9 0)]) := by
    intro v x90 H locs ls hj  hI hP hS hl
    clear J25 J24 J23 J22 J27 J26 J21 J20 J19 J18 J29 J28 J17 J16 J15 J14 J31 J30 J12 J11 J10
    refine fw_iast hx hb hK hD hP hS (mm_9 (by decide)) (mk_9 0) 0 rfl (j := 2) (by decide) (fw_inc (by decide)) md_Mo_beat_141 (fun v65 H locs ev65 hP hS => ?_)
    have hI : mI b v65 := by rw [ev65]; exact mI_up hI trivial trivial
    refine lv_iinc (v := (3 : Int32)) (lv' := [(2, .int (3 : Int32)), (0, .ref (ad 0 0)), (1, .int (0 : Int32))]) hx hb md_Mo_beat_142 hl (k := 2) rfl (by decide) (by decide) rfl (fun ls hl => ?_)
    refine lv_goto (tgt := 59) hx hb md_Mo_beat_145 (by decide) ?_
    exact J13 v65  _ _ _ (by rw [hj]; subst ev65; simp only [mf_Mo_beat_0_j33])   hI hP hS (lv_sub hl [1, 2, 0] rfl)
  have J32 : ∀ (v : fw_V)  (H : Heap) (locs : List Loc) (ls : Array Slot), mf_Mo_beat_0 v0 = mf_Mo_beat_0_j32 v → mI b v → va_P D vcls (fw_w mCL cA mkd ad v) H → va_S (fw_A mCL ad) s.heap H locs → lv_has ls 5 [(0, .ref (ad 0 0)), (1, .int (0 : Int32)), (2, .int (2 : Int32))] → W p l e (headSpec (Cond.code my_Mo_beat mb_Mo_beat 5 none :: vTB) mrm_Mo_beat).room s m ([.ref (ad 0 0), .int (0 : Int32)] : List Value).toArray below meth c H locs 0 0 (MQ below (fw_Qv D vcls mCL cA mkd ad (mI b) (mf_Mo_beat_0 v0)) ([.ref (ad 0 0), .int (0 : Int32)] : List Value).toArray s 0 0 (fw_A mCL ad)) (F0 m 114 ls [.int (1 : Int32)]) := by
    intro v  H locs ls hj  hI hP hS hl
    clear J25 J24 J23 J22 J27 J26 J21 J20 J19 J18 J29 J28 J17 J16 J15 J14 J31 J30 J13 J12 J11 J10
    refine lv_istore (lv' := [(4, .int (1 : Int32)), (0, .ref (ad 0 0)), (1, .int (0 : Int32)), (2, .int (2 : Int32))]) hx hb md_Mo_beat_114 hl (by decide) rfl (fun ls hl => ?_)
    refine lv_aload_n hx hb md_Mo_beat_116 rfl (lv_at hl 1 rfl) ?_
    refine fw_getr hx hb hts i_Mo hown hK hP (mm_0 (by decide)) (mk_0 0) rfl 8 (by decide) (hts _ L_Mo_35) (fun _ h9 => h9) rfl md_Mo_beat_117 ?_
    refine lv_iload_n hx hb md_Mo_beat_120 rfl (lv_at hl 3 rfl) ?_
    refine lv_iload hx hb md_Mo_beat_121 (lv_at hl 0 rfl) ?_
    refine lv_if_eq (tgt := 140) hx hb md_Mo_beat_123 (by decide) (fun c_64 => absurd c_64 (by decide)) (fun _ => ?_)
    refine lv_aload_n hx hb md_Mo_beat_126 rfl (lv_at hl 1 rfl) ?_
    refine fw_getr hx hb hts i_Mo hown hK hP (mm_0 (by decide)) (mk_0 0) rfl 25 (by decide) (hts _ L_Mo_83) (fun _ h9 => h9) rfl md_Mo_beat_127 ?_
    refine lv_bipush (v := (6 : Int32)) hx hb md_Mo_beat_130 (by decide) ?_
    refine lv_iload_n hx hb md_Mo_beat_132 rfl (lv_at hl 2 rfl) ?_
    refine lv_imul hx hb md_Mo_beat_133 ?_
    refine fw_top (y := (0 : Int32)) (by decide) ?_
    refine lv_iload_n hx hb md_Mo_beat_134 rfl (lv_at hl 3 rfl) ?_
    refine lv_iadd hx hb md_Mo_beat_135 ?_
    refine fw_top (y := (2 : Int32)) (by decide) ?_
    refine fw_iald hx hb hK hP (mm_26 (by decide)) (mk_26 0) 0 rfl (j := 2) (by decide) (fw_inc (by decide)) md_Mo_beat_136 ?_
    refine lv_goto (tgt := 141) hx hb md_Mo_beat_137 (by decide) ?_
    exact J33 v ((v 26 0 2)) _ _ _ (by rw [hj]; simp only [mf_Mo_beat_0_j32])   hI hP hS (lv_sub hl [1, 2, 3] rfl)
  have J9 : ∀ (v : fw_V)  (H : Heap) (locs : List Loc) (ls : Array Slot), mf_Mo_beat_0 v0 = mf_Mo_beat_0_j9 v → mI b v → va_P D vcls (fw_w mCL cA mkd ad v) H → va_S (fw_A mCL ad) s.heap H locs → lv_has ls 5 [(0, .ref (ad 0 0)), (1, .int (0 : Int32)), (2, .int (2 : Int32))] → W p l e (headSpec (Cond.code my_Mo_beat mb_Mo_beat 5 none :: vTB) mrm_Mo_beat).room s m ([.ref (ad 0 0), .int (0 : Int32)] : List Value).toArray below meth c H locs 0 0 (MQ below (fw_Qv D vcls mCL cA mkd ad (mI b) (mf_Mo_beat_0 v0)) ([.ref (ad 0 0), .int (0 : Int32)] : List Value).toArray s 0 0 (fw_A mCL ad)) (F0 m 59 ls []) := by
    intro v  H locs ls hj  hI hP hS hl
    clear J25 J24 J23 J22 J27 J26 J21 J20 J19 J18 J29 J28 J17 J16 J15 J14 J31 J30 J13 J12 J11 J33
    refine lv_iload_n hx hb md_Mo_beat_59 rfl (lv_at hl 2 rfl) ?_
    refine lv_bipush (v := (6 : Int32)) hx hb md_Mo_beat_60 (by decide) ?_
    refine lv_icmp_ge (tgt := 148) hx hb md_Mo_beat_62 (by decide) (fun c_23 => absurd c_23 (by decide)) (fun _ => ?_)
    refine lv_aload_n hx hb md_Mo_beat_65 rfl (lv_at hl 0 rfl) ?_
    refine fw_getr hx hb hts i_Mo hown hK hP (mm_0 (by decide)) (mk_0 0) rfl 23 (by decide) (hts _ L_Mo_77) (fun _ h9 => h9) rfl md_Mo_beat_66 ?_
    refine lv_iconst (v := (3 : Int32)) hx hb md_Mo_beat_69 (by decide) ?_
    refine lv_iload_n hx hb md_Mo_beat_70 rfl (lv_at hl 1 rfl) ?_
    refine lv_imul hx hb md_Mo_beat_71 ?_
    refine fw_top (y := (0 : Int32)) (by decide) ?_
    refine lv_iload_n hx hb md_Mo_beat_72 rfl (lv_at hl 2 rfl) ?_
    refine lv_iconst (v := (2 : Int32)) hx hb md_Mo_beat_73 (by decide) ?_
    refine lv_idiv hx hb md_Mo_beat_74 (by decide) ?_
    refine fw_top (y := (1 : Int32)) (by decide) ?_
    refine lv_iadd hx hb md_Mo_beat_75 ?_
    refine fw_top (y := (1 : Int32)) (by decide) ?_
    refine fw_iald hx hb hK hP (mm_24 (by decide)) (mk_24 0) 0 rfl (j := 1) (by decide) (fw_inc (by decide)) md_Mo_beat_76 ?_
    have h_24 : vp_in ((v 24 0 1) + 1) 9 := hI.1 24 0 (1)
    refine lv_istore_n (lv' := [(3, .int (v 24 0 1)), (0, .ref (ad 0 0)), (1, .int (0 : Int32)), (2, .int (2 : Int32))]) hx hb md_Mo_beat_77 rfl hl (by decide) rfl (fun ls hl => ?_)
    refine lv_iload_n hx hb md_Mo_beat_78 rfl (lv_at hl 0 rfl) ?_
    refine lv_if_lt (tgt := 113) hx hb md_Mo_beat_79 (by decide) (fun c_25 => ?_) (fun c_25 => ?_)
    · exact J10 v  _ _ _ (by rw [hj]; simp only [mf_Mo_beat_0_j9, if_pos c_25])   hI hP hS (lv_sub hl [1, 2, 3] rfl)
    · have h_61 : vp_in (v 24 0 1) 8 := fw_m8 h_24 c_25
      refine lv_aload_n hx hb md_Mo_beat_82 rfl (lv_at hl 1 rfl) ?_
      refine fw_getr hx hb hts i_Mo hown hK hP (mm_0 (by decide)) (mk_0 0) rfl 15 (by decide) (hts _ L_Mo_53) (fun _ h9 => h9) rfl md_Mo_beat_83 ?_
      refine lv_iload_n hx hb md_Mo_beat_86 rfl (lv_at hl 2 rfl) ?_
      refine fw_iald hx hb hK hP (mm_16 (by decide)) (mk_16 0) 0 rfl (j := 0) (by decide) (fw_inc (by decide)) md_Mo_beat_87 ?_
      refine lv_iload_n hx hb md_Mo_beat_88 rfl (lv_at hl 3 rfl) ?_
      refine lv_iconst (v := (2 : Int32)) hx hb md_Mo_beat_89 (by decide) ?_
      refine lv_idiv hx hb md_Mo_beat_90 (by decide) ?_
      refine fw_top (y := (1 : Int32)) (by decide) ?_
      refine lv_ishr hx hb md_Mo_beat_91 ?_
      refine lv_iconst (v := (1 : Int32)) hx hb md_Mo_beat_92 (by decide) ?_
      refine lv_iand hx hb md_Mo_beat_93 ?_
      refine lv_if_ne (tgt := 113) hx hb md_Mo_beat_94 (by decide) (fun c_62 => ?_) (fun c_62 => ?_)
      · exact J10 v  _ _ _ (by rw [hj]; simp only [mf_Mo_beat_0_j9, if_neg c_25, if_neg c_62])   hI hP hS (lv_sub hl [1, 2, 3] rfl)
      · refine lv_iload_n hx hb md_Mo_beat_97 rfl (lv_at hl 3 rfl) ?_
        refine lv_iconst (v := (2 : Int32)) hx hb md_Mo_beat_98 (by decide) ?_
        refine lv_irem hx hb md_Mo_beat_99 (by decide) ?_
        refine fw_top (y := (0 : Int32)) (by decide) ?_
        refine lv_aload_n hx hb md_Mo_beat_100 rfl (lv_at hl 1 rfl) ?_
        refine fw_getr hx hb hts i_Mo hown hK hP (mm_0 (by decide)) (mk_0 0) rfl 1 (by decide) (hts _ L_Mo_13) (fun _ h9 => h9) rfl md_Mo_beat_101 ?_
        refine lv_iload_n hx hb md_Mo_beat_104 rfl (lv_at hl 0 rfl) ?_
        refine fw_iald hx hb hK hP (mm_2 (by decide)) (mk_2 0) 0 rfl (j := (v 24 0 1).toNatClampNeg) rfl h_61 md_Mo_beat_105 ?_
        refine lv_icmp_ge (tgt := 113) hx hb md_Mo_beat_106 (by decide) (fun c_63 => ?_) (fun c_63 => ?_)
        · exact J10 v  _ _ _ (by rw [hj]; simp only [mf_Mo_beat_0_j9, if_neg c_25, if_pos c_62, if_pos c_63])   hI hP hS (lv_sub hl [1, 2, 3] rfl)
        · refine lv_iconst (v := (1 : Int32)) hx hb md_Mo_beat_109 (by decide) ?_
          refine lv_goto (tgt := 114) hx hb md_Mo_beat_110 (by decide) ?_
          exact J32 v  _ _ _ (by rw [hj]; simp only [mf_Mo_beat_0_j9, if_neg c_25, if_pos c_62, if_neg c_63])   hI hP hS (lv_sub hl [1, 2, 3] rfl)
  have J8 : ∀ (v : fw_V)  (H : Heap) (locs : List Loc) (ls : Array Slot), mf_Mo_beat_0 v0 = mf_Mo_beat_0_j8 v → mI b v → va_P D vcls (fw_w mCL cA mkd ad v) H → va_S (fw_A mCL ad) s.heap H locs → lv_has ls 5 [(0, .ref (ad 0 0)), (1, .int (0 : Int32)), (2, .int (1 : Int32))] → W p l e (headSpec (Cond.code my_Mo_beat mb_Mo_beat 5 none :: vTB) mrm_Mo_beat).room s m ([.ref (ad 0 0), .int (0 : Int32)] : List Value).toArray below meth c H locs 0 0 (MQ below (fw_Qv D vcls mCL cA mkd ad (mI b) (mf_Mo_beat_0 v0)) ([.ref (ad 0 0), .int (0 : Int32)] : List Value).toArray s 0 0 (fw_A mCL ad)) (F0 m 141 ls [.int (0 : Int32), .int (1 : Int32), .ref (ad 9 0)]) := by
    intro v  H locs ls hj  hI hP hS hl
    clear J25 J24 J23 J22 J27 J26 J21 J20 J19 J18 J29 J28 J17 J16 J15 J14 J31 J30 J13 J12 J11 J10 J33 J32
    refine fw_iast hx hb hK hD hP hS (mm_9 (by decide)) (mk_9 0) 0 rfl (j := 1) (by decide) (fw_inc (by decide)) md_Mo_beat_141 (fun v22 H locs ev22 hP hS => ?_)
    have hI : mI b v22 := by rw [ev22]; exact mI_up hI trivial trivial
    refine lv_iinc (v := (2 : Int32)) (lv' := [(2, .int (2 : Int32)), (0, .ref (ad 0 0)), (1, .int (0 : Int32))]) hx hb md_Mo_beat_142 hl (k := 2) rfl (by decide) (by decide) rfl (fun ls hl => ?_)
    refine lv_goto (tgt := 59) hx hb md_Mo_beat_145 (by decide) ?_
    exact J9 v22  _ _ _ (by rw [hj]; subst ev22; simp only [mf_Mo_beat_0_j8])   hI hP hS (lv_sub hl [1, 2, 0] rfl)
  have J7 : ∀ (v : fw_V)  (H : Heap) (locs : List Loc) (ls : Array Slot), mf_Mo_beat_0 v0 = mf_Mo_beat_0_j7 v → mI b v → va_P D vcls (fw_w mCL cA mkd ad v) H → va_S (fw_A mCL ad) s.heap H locs → lv_has ls 5 [(0, .ref (ad 0 0)), (1, .int (0 : Int32)), (2, .int (1 : Int32))] → W p l e (headSpec (Cond.code my_Mo_beat mb_Mo_beat 5 none :: vTB) mrm_Mo_beat).room s m ([.ref (ad 0 0), .int (0 : Int32)] : List Value).toArray below meth c H locs 0 0 (MQ below (fw_Qv D vcls mCL cA mkd ad (mI b) (mf_Mo_beat_0 v0)) ([.ref (ad 0 0), .int (0 : Int32)] : List Value).toArray s 0 0 (fw_A mCL ad)) (F0 m 114 ls [.int (0 : Int32)]) := by
    intro v  H locs ls hj  hI hP hS hl
    clear J25 J24 J23 J22 J27 J26 J21 J20 J19 J18 J29 J28 J17 J16 J15 J14 J31 J30 J13 J12 J11 J10 J33 J32 J9
    refine lv_istore (lv' := [(4, .int (0 : Int32)), (0, .ref (ad 0 0)), (1, .int (0 : Int32)), (2, .int (1 : Int32))]) hx hb md_Mo_beat_114 hl (by decide) rfl (fun ls hl => ?_)
    refine lv_aload_n hx hb md_Mo_beat_116 rfl (lv_at hl 1 rfl) ?_
    refine fw_getr hx hb hts i_Mo hown hK hP (mm_0 (by decide)) (mk_0 0) rfl 8 (by decide) (hts _ L_Mo_35) (fun _ h9 => h9) rfl md_Mo_beat_117 ?_
    refine lv_iload_n hx hb md_Mo_beat_120 rfl (lv_at hl 3 rfl) ?_
    refine lv_iload hx hb md_Mo_beat_121 (lv_at hl 0 rfl) ?_
    refine lv_if_eq (tgt := 140) hx hb md_Mo_beat_123 (by decide) (fun _ => ?_) (fun c_21 => absurd (by decide) c_21)
    refine lv_iconst (v := (0 : Int32)) hx hb md_Mo_beat_140 (by decide) ?_
    exact J8 v  _ _ _ (by rw [hj]; simp only [mf_Mo_beat_0_j7])   hI hP hS (lv_sub hl [1, 2, 3] rfl)
  have J6 : ∀ (v : fw_V)  (H : Heap) (locs : List Loc) (ls : Array Slot), mf_Mo_beat_0 v0 = mf_Mo_beat_0_j6 v → mI b v → va_P D vcls (fw_w mCL cA mkd ad v) H → va_S (fw_A mCL ad) s.heap H locs → lv_has ls 5 [(0, .ref (ad 0 0)), (1, .int (0 : Int32)), (2, .int (1 : Int32))] → W p l e (headSpec (Cond.code my_Mo_beat mb_Mo_beat 5 none :: vTB) mrm_Mo_beat).room s m ([.ref (ad 0 0), .int (0 : Int32)] : List Value).toArray below meth c H locs 0 0 (MQ below (fw_Qv D vcls mCL cA mkd ad (mI b) (mf_Mo_beat_0 v0)) ([.ref (ad 0 0), .int (0 : Int32)] : List Value).toArray s 0 0 (fw_A mCL ad)) (F0 m 113 ls []) := by
    intro v  H locs ls hj  hI hP hS hl
    clear J25 J24 J23 J22 J27 J26 J21 J20 J19 J18 J29 J28 J17 J16 J15 J14 J31 J30 J13 J12 J11 J10 J33 J32 J9 J8
    refine lv_iconst (v := (0 : Int32)) hx hb md_Mo_beat_113 (by decide) ?_
    exact J7 v  _ _ _ (by rw [hj]; simp only [mf_Mo_beat_0_j6])   hI hP hS (lv_sub hl [0, 1, 2] rfl)
  have J35 : ∀ (v : fw_V) (x90 : Int32) (H : Heap) (locs : List Loc) (ls : Array Slot), mf_Mo_beat_0 v0 = mf_Mo_beat_0_j35 v x90 → mI b v → va_P D vcls (fw_w mCL cA mkd ad v) H → va_S (fw_A mCL ad) s.heap H locs → lv_has ls 5 [(0, .ref (ad 0 0)), (1, .int (0 : Int32)), (2, .int (1 : Int32))] → W p l e (headSpec (Cond.code my_Mo_beat mb_Mo_beat 5 none :: vTB) mrm_Mo_beat).room s m ([.ref (ad 0 0), .int (0 : Int32)] : List Value).toArray below meth c H locs 0 0 (MQ below (fw_Qv D vcls mCL cA mkd ad (mI b) (mf_Mo_beat_0 v0)) ([.ref (ad 0 0), .int (0 : Int32)] : List Value).toArray s 0 0 (fw_A mCL ad)) (F0 m 141 ls [.int x90, .int (1 : Int32), .ref (ad 9 0)]) := by
    intro v x90 H locs ls hj  hI hP hS hl
    clear J25 J24 J23 J22 J27 J26 J21 J20 J19 J18 J29 J28 J17 J16 J15 J14 J31 J30 J13 J12 J11 J10 J33 J32 J8 J7 J6
    refine fw_iast hx hb hK hD hP hS (mm_9 (by decide)) (mk_9 0) 0 rfl (j := 1) (by decide) (fw_inc (by decide)) md_Mo_beat_141 (fun v70 H locs ev70 hP hS => ?_)
    have hI : mI b v70 := by rw [ev70]; exact mI_up hI trivial trivial
    refine lv_iinc (v := (2 : Int32)) (lv' := [(2, .int (2 : Int32)), (0, .ref (ad 0 0)), (1, .int (0 : Int32))]) hx hb md_Mo_beat_142 hl (k := 2) rfl (by decide) (by decide) rfl (fun ls hl => ?_)
    refine lv_goto (tgt := 59) hx hb md_Mo_beat_145 (by decide) ?_
    exact J9 v70  _ _ _ (by rw [hj]; subst ev70; simp only [mf_Mo_beat_0_j35])   hI hP hS (lv_sub hl [1, 2, 0] rfl)
  have J34 : ∀ (v : fw_V)  (H : Heap) (locs : List Loc) (ls : Array Slot), mf_Mo_beat_0 v0 = mf_Mo_beat_0_j34 v → mI b v → va_P D vcls (fw_w mCL cA mkd ad v) H → va_S (fw_A mCL ad) s.heap H locs → lv_has ls 5 [(0, .ref (ad 0 0)), (1, .int (0 : Int32)), (2, .int (1 : Int32))] → W p l e (headSpec (Cond.code my_Mo_beat mb_Mo_beat 5 none :: vTB) mrm_Mo_beat).room s m ([.ref (ad 0 0), .int (0 : Int32)] : List Value).toArray below meth c H locs 0 0 (MQ below (fw_Qv D vcls mCL cA mkd ad (mI b) (mf_Mo_beat_0 v0)) ([.ref (ad 0 0), .int (0 : Int32)] : List Value).toArray s 0 0 (fw_A mCL ad)) (F0 m 114 ls [.int (1 : Int32)]) := by
    intro v  H locs ls hj  hI hP hS hl
    clear J25 J24 J23 J22 J27 J26 J21 J20 J19 J18 J29 J28 J17 J16 J15 J14 J31 J30 J13 J12 J11 J10 J33 J32 J9 J8 J7 J6
    refine lv_istore (lv' := [(4, .int (1 : Int32)), (0, .ref (ad 0 0)), (1, .int (0 : Int32)), (2, .int (1 : Int32))]) hx hb md_Mo_beat_114 hl (by decide) rfl (fun ls hl => ?_)
    refine lv_aload_n hx hb md_Mo_beat_116 rfl (lv_at hl 1 rfl) ?_
    refine fw_getr hx hb hts i_Mo hown hK hP (mm_0 (by decide)) (mk_0 0) rfl 8 (by decide) (hts _ L_Mo_35) (fun _ h9 => h9) rfl md_Mo_beat_117 ?_
    refine lv_iload_n hx hb md_Mo_beat_120 rfl (lv_at hl 3 rfl) ?_
    refine lv_iload hx hb md_Mo_beat_121 (lv_at hl 0 rfl) ?_
    refine lv_if_eq (tgt := 140) hx hb md_Mo_beat_123 (by decide) (fun c_69 => absurd c_69 (by decide)) (fun _ => ?_)
    refine lv_aload_n hx hb md_Mo_beat_126 rfl (lv_at hl 1 rfl) ?_
    refine fw_getr hx hb hts i_Mo hown hK hP (mm_0 (by decide)) (mk_0 0) rfl 25 (by decide) (hts _ L_Mo_83) (fun _ h9 => h9) rfl md_Mo_beat_127 ?_
    refine lv_bipush (v := (6 : Int32)) hx hb md_Mo_beat_130 (by decide) ?_
    refine lv_iload_n hx hb md_Mo_beat_132 rfl (lv_at hl 2 rfl) ?_
    refine lv_imul hx hb md_Mo_beat_133 ?_
    refine fw_top (y := (0 : Int32)) (by decide) ?_
    refine lv_iload_n hx hb md_Mo_beat_134 rfl (lv_at hl 3 rfl) ?_
    refine lv_iadd hx hb md_Mo_beat_135 ?_
    refine fw_top (y := (1 : Int32)) (by decide) ?_
    refine fw_iald hx hb hK hP (mm_26 (by decide)) (mk_26 0) 0 rfl (j := 1) (by decide) (fw_inc (by decide)) md_Mo_beat_136 ?_
    refine lv_goto (tgt := 141) hx hb md_Mo_beat_137 (by decide) ?_
    exact J35 v ((v 26 0 1)) _ _ _ (by rw [hj]; simp only [mf_Mo_beat_0_j34])   hI hP hS (lv_sub hl [1, 2, 3] rfl)
  have J5 : ∀ (v : fw_V)  (H : Heap) (locs : List Loc) (ls : Array Slot), mf_Mo_beat_0 v0 = mf_Mo_beat_0_j5 v → mI b v → va_P D vcls (fw_w mCL cA mkd ad v) H → va_S (fw_A mCL ad) s.heap H locs → lv_has ls 5 [(0, .ref (ad 0 0)), (1, .int (0 : Int32)), (2, .int (1 : Int32))] → W p l e (headSpec (Cond.code my_Mo_beat mb_Mo_beat 5 none :: vTB) mrm_Mo_beat).room s m ([.ref (ad 0 0), .int (0 : Int32)] : List Value).toArray below meth c H locs 0 0 (MQ below (fw_Qv D vcls mCL cA mkd ad (mI b) (mf_Mo_beat_0 v0)) ([.ref (ad 0 0), .int (0 : Int32)] : List Value).toArray s 0 0 (fw_A mCL ad)) (F0 m 59 ls []) := by
    intro v  H locs ls hj  hI hP hS hl
    clear J25 J24 J23 J22 J27 J26 J21 J20 J19 J18 J29 J28 J17 J16 J15 J14 J31 J30 J13 J12 J11 J10 J33 J32 J9 J8 J7 J35
    refine lv_iload_n hx hb md_Mo_beat_59 rfl (lv_at hl 2 rfl) ?_
    refine lv_bipush (v := (6 : Int32)) hx hb md_Mo_beat_60 (by decide) ?_
    refine lv_icmp_ge (tgt := 148) hx hb md_Mo_beat_62 (by decide) (fun c_18 => absurd c_18 (by decide)) (fun _ => ?_)
    refine lv_aload_n hx hb md_Mo_beat_65 rfl (lv_at hl 0 rfl) ?_
    refine fw_getr hx hb hts i_Mo hown hK hP (mm_0 (by decide)) (mk_0 0) rfl 23 (by decide) (hts _ L_Mo_77) (fun _ h9 => h9) rfl md_Mo_beat_66 ?_
    refine lv_iconst (v := (3 : Int32)) hx hb md_Mo_beat_69 (by decide) ?_
    refine lv_iload_n hx hb md_Mo_beat_70 rfl (lv_at hl 1 rfl) ?_
    refine lv_imul hx hb md_Mo_beat_71 ?_
    refine fw_top (y := (0 : Int32)) (by decide) ?_
    refine lv_iload_n hx hb md_Mo_beat_72 rfl (lv_at hl 2 rfl) ?_
    refine lv_iconst (v := (2 : Int32)) hx hb md_Mo_beat_73 (by decide) ?_
    refine lv_idiv hx hb md_Mo_beat_74 (by decide) ?_
    refine fw_top (y := (0 : Int32)) (by decide) ?_
    refine lv_iadd hx hb md_Mo_beat_75 ?_
    refine fw_top (y := (0 : Int32)) (by decide) ?_
    refine fw_iald hx hb hK hP (mm_24 (by decide)) (mk_24 0) 0 rfl (j := 0) (by decide) (fw_inc (by decide)) md_Mo_beat_76 ?_
    have h_19 : vp_in ((v 24 0 0) + 1) 9 := hI.1 24 0 (0)
    refine lv_istore_n (lv' := [(3, .int (v 24 0 0)), (0, .ref (ad 0 0)), (1, .int (0 : Int32)), (2, .int (1 : Int32))]) hx hb md_Mo_beat_77 rfl hl (by decide) rfl (fun ls hl => ?_)
    refine lv_iload_n hx hb md_Mo_beat_78 rfl (lv_at hl 0 rfl) ?_
    refine lv_if_lt (tgt := 113) hx hb md_Mo_beat_79 (by decide) (fun c_20 => ?_) (fun c_20 => ?_)
    · exact J6 v  _ _ _ (by rw [hj]; simp only [mf_Mo_beat_0_j5, if_pos c_20])   hI hP hS (lv_sub hl [1, 2, 3] rfl)
    · have h_66 : vp_in (v 24 0 0) 8 := fw_m8 h_19 c_20
      refine lv_aload_n hx hb md_Mo_beat_82 rfl (lv_at hl 1 rfl) ?_
      refine fw_getr hx hb hts i_Mo hown hK hP (mm_0 (by decide)) (mk_0 0) rfl 15 (by decide) (hts _ L_Mo_53) (fun _ h9 => h9) rfl md_Mo_beat_83 ?_
      refine lv_iload_n hx hb md_Mo_beat_86 rfl (lv_at hl 2 rfl) ?_
      refine fw_iald hx hb hK hP (mm_16 (by decide)) (mk_16 0) 0 rfl (j := 0) (by decide) (fw_inc (by decide)) md_Mo_beat_87 ?_
      refine lv_iload_n hx hb md_Mo_beat_88 rfl (lv_at hl 3 rfl) ?_
      refine lv_iconst (v := (2 : Int32)) hx hb md_Mo_beat_89 (by decide) ?_
      refine lv_idiv hx hb md_Mo_beat_90 (by decide) ?_
      refine fw_top (y := (0 : Int32)) (by decide) ?_
      refine lv_ishr hx hb md_Mo_beat_91 ?_
      refine lv_iconst (v := (1 : Int32)) hx hb md_Mo_beat_92 (by decide) ?_
      refine lv_iand hx hb md_Mo_beat_93 ?_
      refine lv_if_ne (tgt := 113) hx hb md_Mo_beat_94 (by decide) (fun c_67 => ?_) (fun c_67 => ?_)
      · exact J6 v  _ _ _ (by rw [hj]; simp only [mf_Mo_beat_0_j5, if_neg c_20, if_neg c_67])   hI hP hS (lv_sub hl [1, 2, 3] rfl)
      · refine lv_iload_n hx hb md_Mo_beat_97 rfl (lv_at hl 3 rfl) ?_
        refine lv_iconst (v := (2 : Int32)) hx hb md_Mo_beat_98 (by decide) ?_
        refine lv_irem hx hb md_Mo_beat_99 (by decide) ?_
        refine fw_top (y := (1 : Int32)) (by decide) ?_
        refine lv_aload_n hx hb md_Mo_beat_100 rfl (lv_at hl 1 rfl) ?_
        refine fw_getr hx hb hts i_Mo hown hK hP (mm_0 (by decide)) (mk_0 0) rfl 1 (by decide) (hts _ L_Mo_13) (fun _ h9 => h9) rfl md_Mo_beat_101 ?_
        refine lv_iload_n hx hb md_Mo_beat_104 rfl (lv_at hl 0 rfl) ?_
        refine fw_iald hx hb hK hP (mm_2 (by decide)) (mk_2 0) 0 rfl (j := (v 24 0 0).toNatClampNeg) rfl h_66 md_Mo_beat_105 ?_
        refine lv_icmp_ge (tgt := 113) hx hb md_Mo_beat_106 (by decide) (fun c_68 => ?_) (fun c_68 => ?_)
        · exact J6 v  _ _ _ (by rw [hj]; simp only [mf_Mo_beat_0_j5, if_neg c_20, if_pos c_67, if_pos c_68])   hI hP hS (lv_sub hl [1, 2, 3] rfl)
        · refine lv_iconst (v := (1 : Int32)) hx hb md_Mo_beat_109 (by decide) ?_
          refine lv_goto (tgt := 114) hx hb md_Mo_beat_110 (by decide) ?_
          exact J34 v  _ _ _ (by rw [hj]; simp only [mf_Mo_beat_0_j5, if_neg c_20, if_pos c_67, if_neg c_68])   hI hP hS (lv_sub hl [1, 2, 3] rfl)
  have J4 : ∀ (v : fw_V)  (H : Heap) (locs : List Loc) (ls : Array Slot), mf_Mo_beat_0 v0 = mf_Mo_beat_0_j4 v → mI b v → va_P D vcls (fw_w mCL cA mkd ad v) H → va_S (fw_A mCL ad) s.heap H locs → lv_has ls 5 [(0, .ref (ad 0 0)), (1, .int (0 : Int32)), (2, .int (0 : Int32))] → W p l e (headSpec (Cond.code my_Mo_beat mb_Mo_beat 5 none :: vTB) mrm_Mo_beat).room s m ([.ref (ad 0 0), .int (0 : Int32)] : List Value).toArray below meth c H locs 0 0 (MQ below (fw_Qv D vcls mCL cA mkd ad (mI b) (mf_Mo_beat_0 v0)) ([.ref (ad 0 0), .int (0 : Int32)] : List Value).toArray s 0 0 (fw_A mCL ad)) (F0 m 141 ls [.int (0 : Int32), .int (0 : Int32), .ref (ad 9 0)]) := by
    intro v  H locs ls hj  hI hP hS hl
    clear J25 J24 J23 J22 J27 J26 J21 J20 J19 J18 J29 J28 J17 J16 J15 J14 J31 J30 J13 J12 J11 J10 J33 J32 J9 J8 J7 J6 J35 J34
    refine fw_iast hx hb hK hD hP hS (mm_9 (by decide)) (mk_9 0) 0 rfl (j := 0) (by decide) (fw_inc (by decide)) md_Mo_beat_141 (fun v17 H locs ev17 hP hS => ?_)
    have hI : mI b v17 := by rw [ev17]; exact mI_up hI trivial trivial
    refine lv_iinc (v := (1 : Int32)) (lv' := [(2, .int (1 : Int32)), (0, .ref (ad 0 0)), (1, .int (0 : Int32))]) hx hb md_Mo_beat_142 hl (k := 2) rfl (by decide) (by decide) rfl (fun ls hl => ?_)
    refine lv_goto (tgt := 59) hx hb md_Mo_beat_145 (by decide) ?_
    exact J5 v17  _ _ _ (by rw [hj]; subst ev17; simp only [mf_Mo_beat_0_j4])   hI hP hS (lv_sub hl [1, 2, 0] rfl)
  have J3 : ∀ (v : fw_V)  (H : Heap) (locs : List Loc) (ls : Array Slot), mf_Mo_beat_0 v0 = mf_Mo_beat_0_j3 v → mI b v → va_P D vcls (fw_w mCL cA mkd ad v) H → va_S (fw_A mCL ad) s.heap H locs → lv_has ls 5 [(0, .ref (ad 0 0)), (1, .int (0 : Int32)), (2, .int (0 : Int32))] → W p l e (headSpec (Cond.code my_Mo_beat mb_Mo_beat 5 none :: vTB) mrm_Mo_beat).room s m ([.ref (ad 0 0), .int (0 : Int32)] : List Value).toArray below meth c H locs 0 0 (MQ below (fw_Qv D vcls mCL cA mkd ad (mI b) (mf_Mo_beat_0 v0)) ([.ref (ad 0 0), .int (0 : Int32)] : List Value).toArray s 0 0 (fw_A mCL ad)) (F0 m 114 ls [.int (0 : Int32)]) := by
    intro v  H locs ls hj  hI hP hS hl
    clear J25 J24 J23 J22 J27 J26 J21 J20 J19 J18 J29 J28 J17 J16 J15 J14 J31 J30 J13 J12 J11 J10 J33 J32 J9 J8 J7 J6 J35 J34 J5
    refine lv_istore (lv' := [(4, .int (0 : Int32)), (0, .ref (ad 0 0)), (1, .int (0 : Int32)), (2, .int (0 : Int32))]) hx hb md_Mo_beat_114 hl (by decide) rfl (fun ls hl => ?_)
    refine lv_aload_n hx hb md_Mo_beat_116 rfl (lv_at hl 1 rfl) ?_
    refine fw_getr hx hb hts i_Mo hown hK hP (mm_0 (by decide)) (mk_0 0) rfl 8 (by decide) (hts _ L_Mo_35) (fun _ h9 => h9) rfl md_Mo_beat_117 ?_
    refine lv_iload_n hx hb md_Mo_beat_120 rfl (lv_at hl 3 rfl) ?_
    refine lv_iload hx hb md_Mo_beat_121 (lv_at hl 0 rfl) ?_
    refine lv_if_eq (tgt := 140) hx hb md_Mo_beat_123 (by decide) (fun _ => ?_) (fun c_16 => absurd (by decide) c_16)
    refine lv_iconst (v := (0 : Int32)) hx hb md_Mo_beat_140 (by decide) ?_
    exact J4 v  _ _ _ (by rw [hj]; simp only [mf_Mo_beat_0_j3])   hI hP hS (lv_sub hl [1, 2, 3] rfl)
  have J2 : ∀ (v : fw_V)  (H : Heap) (locs : List Loc) (ls : Array Slot), mf_Mo_beat_0 v0 = mf_Mo_beat_0_j2 v → mI b v → va_P D vcls (fw_w mCL cA mkd ad v) H → va_S (fw_A mCL ad) s.heap H locs → lv_has ls 5 [(0, .ref (ad 0 0)), (1, .int (0 : Int32)), (2, .int (0 : Int32))] → W p l e (headSpec (Cond.code my_Mo_beat mb_Mo_beat 5 none :: vTB) mrm_Mo_beat).room s m ([.ref (ad 0 0), .int (0 : Int32)] : List Value).toArray below meth c H locs 0 0 (MQ below (fw_Qv D vcls mCL cA mkd ad (mI b) (mf_Mo_beat_0 v0)) ([.ref (ad 0 0), .int (0 : Int32)] : List Value).toArray s 0 0 (fw_A mCL ad)) (F0 m 113 ls []) := by
    intro v  H locs ls hj  hI hP hS hl
    clear J25 J24 J23 J22 J27 J26 J21 J20 J19 J18 J29 J28 J17 J16 J15 J14 J31 J30 J13 J12 J11 J10 J33 J32 J9 J8 J7 J6 J35 J34 J5 J4
    refine lv_iconst (v := (0 : Int32)) hx hb md_Mo_beat_113 (by decide) ?_
    exact J3 v  _ _ _ (by rw [hj]; simp only [mf_Mo_beat_0_j2])   hI hP hS (lv_sub hl [0, 1, 2] rfl)
  have J37 : ∀ (v : fw_V) (x90 : Int32) (H : Heap) (locs : List Loc) (ls : Array Slot), mf_Mo_beat_0 v0 = mf_Mo_beat_0_j37 v x90 → mI b v → va_P D vcls (fw_w mCL cA mkd ad v) H → va_S (fw_A mCL ad) s.heap H locs → lv_has ls 5 [(0, .ref (ad 0 0)), (1, .int (0 : Int32)), (2, .int (0 : Int32))] → W p l e (headSpec (Cond.code my_Mo_beat mb_Mo_beat 5 none :: vTB) mrm_Mo_beat).room s m ([.ref (ad 0 0), .int (0 : Int32)] : List Value).toArray below meth c H locs 0 0 (MQ below (fw_Qv D vcls mCL cA mkd ad (mI b) (mf_Mo_beat_0 v0)) ([.ref (ad 0 0), .int (0 : Int32)] : List Value).toArray s 0 0 (fw_A mCL ad)) (F0 m 141 ls [.int x90, .int (0 : Int32), .ref (ad 9 0)]) := by
    intro v x90 H locs ls hj  hI hP hS hl
    clear J25 J24 J23 J22 J27 J26 J21 J20 J19 J18 J29 J28 J17 J16 J15 J14 J31 J30 J13 J12 J11 J10 J33 J32 J9 J8 J7 J6 J35 J34 J4 J3 J2
    refine fw_iast hx hb hK hD hP hS (mm_9 (by decide)) (mk_9 0) 0 rfl (j := 0) (by decide) (fw_inc (by decide)) md_Mo_beat_141 (fun v75 H locs ev75 hP hS => ?_)
    have hI : mI b v75 := by rw [ev75]; exact mI_up hI trivial trivial
    refine lv_iinc (v := (1 : Int32)) (lv' := [(2, .int (1 : Int32)), (0, .ref (ad 0 0)), (1, .int (0 : Int32))]) hx hb md_Mo_beat_142 hl (k := 2) rfl (by decide) (by decide) rfl (fun ls hl => ?_)
    refine lv_goto (tgt := 59) hx hb md_Mo_beat_145 (by decide) ?_
    exact J5 v75  _ _ _ (by rw [hj]; subst ev75; simp only [mf_Mo_beat_0_j37])   hI hP hS (lv_sub hl [1, 2, 0] rfl)
  have J36 : ∀ (v : fw_V)  (H : Heap) (locs : List Loc) (ls : Array Slot), mf_Mo_beat_0 v0 = mf_Mo_beat_0_j36 v → mI b v → va_P D vcls (fw_w mCL cA mkd ad v) H → va_S (fw_A mCL ad) s.heap H locs → lv_has ls 5 [(0, .ref (ad 0 0)), (1, .int (0 : Int32)), (2, .int (0 : Int32))] → W p l e (headSpec (Cond.code my_Mo_beat mb_Mo_beat 5 none :: vTB) mrm_Mo_beat).room s m ([.ref (ad 0 0), .int (0 : Int32)] : List Value).toArray below meth c H locs 0 0 (MQ below (fw_Qv D vcls mCL cA mkd ad (mI b) (mf_Mo_beat_0 v0)) ([.ref (ad 0 0), .int (0 : Int32)] : List Value).toArray s 0 0 (fw_A mCL ad)) (F0 m 114 ls [.int (1 : Int32)]) := by
    intro v  H locs ls hj  hI hP hS hl
    clear J25 J24 J23 J22 J27 J26 J21 J20 J19 J18 J29 J28 J17 J16 J15 J14 J31 J30 J13 J12 J11 J10 J33 J32 J9 J8 J7 J6 J35 J34 J5 J4 J3 J2
    refine lv_istore (lv' := [(4, .int (1 : Int32)), (0, .ref (ad 0 0)), (1, .int (0 : Int32)), (2, .int (0 : Int32))]) hx hb md_Mo_beat_114 hl (by decide) rfl (fun ls hl => ?_)
    refine lv_aload_n hx hb md_Mo_beat_116 rfl (lv_at hl 1 rfl) ?_
    refine fw_getr hx hb hts i_Mo hown hK hP (mm_0 (by decide)) (mk_0 0) rfl 8 (by decide) (hts _ L_Mo_35) (fun _ h9 => h9) rfl md_Mo_beat_117 ?_
    refine lv_iload_n hx hb md_Mo_beat_120 rfl (lv_at hl 3 rfl) ?_
    refine lv_iload hx hb md_Mo_beat_121 (lv_at hl 0 rfl) ?_
    refine lv_if_eq (tgt := 140) hx hb md_Mo_beat_123 (by decide) (fun c_74 => absurd c_74 (by decide)) (fun _ => ?_)
    refine lv_aload_n hx hb md_Mo_beat_126 rfl (lv_at hl 1 rfl) ?_
    refine fw_getr hx hb hts i_Mo hown hK hP (mm_0 (by decide)) (mk_0 0) rfl 25 (by decide) (hts _ L_Mo_83) (fun _ h9 => h9) rfl md_Mo_beat_127 ?_
    refine lv_bipush (v := (6 : Int32)) hx hb md_Mo_beat_130 (by decide) ?_
    refine lv_iload_n hx hb md_Mo_beat_132 rfl (lv_at hl 2 rfl) ?_
    refine lv_imul hx hb md_Mo_beat_133 ?_
    refine fw_top (y := (0 : Int32)) (by decide) ?_
    refine lv_iload_n hx hb md_Mo_beat_134 rfl (lv_at hl 3 rfl) ?_
    refine lv_iadd hx hb md_Mo_beat_135 ?_
    refine fw_top (y := (0 : Int32)) (by decide) ?_
    refine fw_iald hx hb hK hP (mm_26 (by decide)) (mk_26 0) 0 rfl (j := 0) (by decide) (fw_inc (by decide)) md_Mo_beat_136 ?_
    refine lv_goto (tgt := 141) hx hb md_Mo_beat_137 (by decide) ?_
    exact J37 v ((v 26 0 0)) _ _ _ (by rw [hj]; simp only [mf_Mo_beat_0_j36])   hI hP hS (lv_sub hl [1, 2, 3] rfl)
  have J1 : ∀ (v : fw_V)  (H : Heap) (locs : List Loc) (ls : Array Slot), mf_Mo_beat_0 v0 = mf_Mo_beat_0_j1 v → mI b v → va_P D vcls (fw_w mCL cA mkd ad v) H → va_S (fw_A mCL ad) s.heap H locs → lv_has ls 5 [(0, .ref (ad 0 0)), (1, .int (0 : Int32)), (2, .int (0 : Int32))] → W p l e (headSpec (Cond.code my_Mo_beat mb_Mo_beat 5 none :: vTB) mrm_Mo_beat).room s m ([.ref (ad 0 0), .int (0 : Int32)] : List Value).toArray below meth c H locs 0 0 (MQ below (fw_Qv D vcls mCL cA mkd ad (mI b) (mf_Mo_beat_0 v0)) ([.ref (ad 0 0), .int (0 : Int32)] : List Value).toArray s 0 0 (fw_A mCL ad)) (F0 m 59 ls []) := by
    intro v  H locs ls hj  hI hP hS hl
    clear J25 J24 J23 J22 J27 J26 J21 J20 J19 J18 J29 J28 J17 J16 J15 J14 J31 J30 J13 J12 J11 J10 J33 J32 J9 J8 J7 J6 J35 J34 J5 J4 J3 J37
    refine lv_iload_n hx hb md_Mo_beat_59 rfl (lv_at hl 2 rfl) ?_
    refine lv_bipush (v := (6 : Int32)) hx hb md_Mo_beat_60 (by decide) ?_
    refine lv_icmp_ge (tgt := 148) hx hb md_Mo_beat_62 (by decide) (fun c_13 => absurd c_13 (by decide)) (fun _ => ?_)
    refine lv_aload_n hx hb md_Mo_beat_65 rfl (lv_at hl 0 rfl) ?_
    refine fw_getr hx hb hts i_Mo hown hK hP (mm_0 (by decide)) (mk_0 0) rfl 23 (by decide) (hts _ L_Mo_77) (fun _ h9 => h9) rfl md_Mo_beat_66 ?_
    refine lv_iconst (v := (3 : Int32)) hx hb md_Mo_beat_69 (by decide) ?_
    refine lv_iload_n hx hb md_Mo_beat_70 rfl (lv_at hl 1 rfl) ?_
    refine lv_imul hx hb md_Mo_beat_71 ?_
    refine fw_top (y := (0 : Int32)) (by decide) ?_
    refine lv_iload_n hx hb md_Mo_beat_72 rfl (lv_at hl 2 rfl) ?_
    refine lv_iconst (v := (2 : Int32)) hx hb md_Mo_beat_73 (by decide) ?_
    refine lv_idiv hx hb md_Mo_beat_74 (by decide) ?_
    refine fw_top (y := (0 : Int32)) (by decide) ?_
    refine lv_iadd hx hb md_Mo_beat_75 ?_
    refine fw_top (y := (0 : Int32)) (by decide) ?_
    refine fw_iald hx hb hK hP (mm_24 (by decide)) (mk_24 0) 0 rfl (j := 0) (by decide) (fw_inc (by decide)) md_Mo_beat_76 ?_
    have h_14 : vp_in ((v 24 0 0) + 1) 9 := hI.1 24 0 (0)
    refine lv_istore_n (lv' := [(3, .int (v 24 0 0)), (0, .ref (ad 0 0)), (1, .int (0 : Int32)), (2, .int (0 : Int32))]) hx hb md_Mo_beat_77 rfl hl (by decide) rfl (fun ls hl => ?_)
    refine lv_iload_n hx hb md_Mo_beat_78 rfl (lv_at hl 0 rfl) ?_
    refine lv_if_lt (tgt := 113) hx hb md_Mo_beat_79 (by decide) (fun c_15 => ?_) (fun c_15 => ?_)
    · exact J2 v  _ _ _ (by rw [hj]; simp only [mf_Mo_beat_0_j1, if_pos c_15])   hI hP hS (lv_sub hl [1, 2, 3] rfl)
    · have h_71 : vp_in (v 24 0 0) 8 := fw_m8 h_14 c_15
      refine lv_aload_n hx hb md_Mo_beat_82 rfl (lv_at hl 1 rfl) ?_
      refine fw_getr hx hb hts i_Mo hown hK hP (mm_0 (by decide)) (mk_0 0) rfl 15 (by decide) (hts _ L_Mo_53) (fun _ h9 => h9) rfl md_Mo_beat_83 ?_
      refine lv_iload_n hx hb md_Mo_beat_86 rfl (lv_at hl 2 rfl) ?_
      refine fw_iald hx hb hK hP (mm_16 (by decide)) (mk_16 0) 0 rfl (j := 0) (by decide) (fw_inc (by decide)) md_Mo_beat_87 ?_
      refine lv_iload_n hx hb md_Mo_beat_88 rfl (lv_at hl 3 rfl) ?_
      refine lv_iconst (v := (2 : Int32)) hx hb md_Mo_beat_89 (by decide) ?_
      refine lv_idiv hx hb md_Mo_beat_90 (by decide) ?_
      refine fw_top (y := (0 : Int32)) (by decide) ?_
      refine lv_ishr hx hb md_Mo_beat_91 ?_
      refine lv_iconst (v := (1 : Int32)) hx hb md_Mo_beat_92 (by decide) ?_
      refine lv_iand hx hb md_Mo_beat_93 ?_
      refine lv_if_ne (tgt := 113) hx hb md_Mo_beat_94 (by decide) (fun c_72 => ?_) (fun c_72 => ?_)
      · exact J2 v  _ _ _ (by rw [hj]; simp only [mf_Mo_beat_0_j1, if_neg c_15, if_neg c_72])   hI hP hS (lv_sub hl [1, 2, 3] rfl)
      · refine lv_iload_n hx hb md_Mo_beat_97 rfl (lv_at hl 3 rfl) ?_
        refine lv_iconst (v := (2 : Int32)) hx hb md_Mo_beat_98 (by decide) ?_
        refine lv_irem hx hb md_Mo_beat_99 (by decide) ?_
        refine fw_top (y := (0 : Int32)) (by decide) ?_
        refine lv_aload_n hx hb md_Mo_beat_100 rfl (lv_at hl 1 rfl) ?_
        refine fw_getr hx hb hts i_Mo hown hK hP (mm_0 (by decide)) (mk_0 0) rfl 1 (by decide) (hts _ L_Mo_13) (fun _ h9 => h9) rfl md_Mo_beat_101 ?_
        refine lv_iload_n hx hb md_Mo_beat_104 rfl (lv_at hl 0 rfl) ?_
        refine fw_iald hx hb hK hP (mm_2 (by decide)) (mk_2 0) 0 rfl (j := (v 24 0 0).toNatClampNeg) rfl h_71 md_Mo_beat_105 ?_
        refine lv_icmp_ge (tgt := 113) hx hb md_Mo_beat_106 (by decide) (fun c_73 => ?_) (fun c_73 => ?_)
        · exact J2 v  _ _ _ (by rw [hj]; simp only [mf_Mo_beat_0_j1, if_neg c_15, if_pos c_72, if_pos c_73])   hI hP hS (lv_sub hl [1, 2, 3] rfl)
        · refine lv_iconst (v := (1 : Int32)) hx hb md_Mo_beat_109 (by decide) ?_
          refine lv_goto (tgt := 114) hx hb md_Mo_beat_110 (by decide) ?_
          exact J36 v  _ _ _ (by rw [hj]; simp only [mf_Mo_beat_0_j1, if_neg c_15, if_pos c_72, if_neg c_73])   hI hP hS (lv_sub hl [1, 2, 3] rfl)
  clear J25 J24 J23 J22 J27 J26 J21 J20 J19 J18 J29 J28 J17 J16 J15 J14 J31 J30 J13 J12 J11 J10 J33 J32 J9 J8 J7 J6 J35 J34 J5 J4 J3 J2 J37 J36
  have hl := lv_entry ([.ref (ad 0 0), .int (0 : Int32)]) (n := 5) (Nat.le_of_ble_eq_true rfl)
  rw [lg_entry_eq]
  generalize (lg_sl ([.ref (ad 0 0), .int (0 : Int32)]) ++ List.replicate (5 - (lg_sl ([.ref (ad 0 0), .int (0 : Int32)])).length) Slot.unset).toArray = ls at hl ⊢
  have hl : lv_has ls 5 [(0, .ref (ad 0 0)), (1, .int (0 : Int32))] := hl
  refine lv_aload_n hx hb md_Mo_beat_0 rfl (lv_at hl 0 rfl) ?_
  refine fw_getr hx hb hts i_Mo hown hK hP (mm_0 (by decide)) (mk_0 0) rfl 11 (by decide) (hts _ L_Mo_41) (fun _ h9 => h9) rfl md_Mo_beat_1 ?_
  refine lv_iload_n hx hb md_Mo_beat_4 rfl (lv_at hl 1 rfl) ?_
  refine fw_iald hx hb hK hP (mm_12 (by decide)) (mk_12 0) 0 rfl (j := 0) (by decide) (fw_inc (by decide)) md_Mo_beat_5 ?_
  refine lv_if_ne (tgt := 10) hx hb md_Mo_beat_6 (by decide) (fun c_1 => ?_) (fun c_1 => ?_)
  · refine lv_aload_n hx hb md_Mo_beat_10 rfl (lv_at hl 0 rfl) ?_
    refine fw_getr hx hb hts i_Mo hown hK hP (mm_0 (by decide)) (mk_0 0) rfl 17 (by decide) (hts _ L_Mo_59) (fun _ h9 => h9) rfl md_Mo_beat_11 ?_
    refine lv_iload_n hx hb md_Mo_beat_14 rfl (lv_at hl 1 rfl) ?_
    refine lv_dup2_11 hx hb md_Mo_beat_15 rfl rfl ?_
    refine fw_iald hx hb hK hP (mm_18 (by decide)) (mk_18 0) 0 rfl (j := 0) (by decide) (fw_inc (by decide)) md_Mo_beat_16 ?_
    refine lv_iconst (v := (1 : Int32)) hx hb md_Mo_beat_17 (by decide) ?_
    refine lv_iadd hx hb md_Mo_beat_18 ?_
    refine fw_iast hx hb hK hD hP hS (mm_18 (by decide)) (mk_18 0) 0 rfl (j := 0) (by decide) (fw_inc (by decide)) md_Mo_beat_19 (fun v2 H locs ev2 hP hS => ?_)
    have hI : mI b v2 := by rw [ev2]; exact mI_up hI trivial trivial
    refine lv_aload_n hx hb md_Mo_beat_20 rfl (lv_at hl 0 rfl) ?_
    refine fw_getr hx hb hts i_Mo hown hK hP (mm_0 (by decide)) (mk_0 0) rfl 11 (by decide) (hts _ L_Mo_41) (fun _ h9 => h9) rfl md_Mo_beat_21 ?_
    refine lv_iload_n hx hb md_Mo_beat_24 rfl (lv_at hl 1 rfl) ?_
    refine fw_iald hx hb hK hP (mm_12 (by decide)) (mk_12 0) 0 rfl (j := 0) (by decide) (fw_inc (by decide)) md_Mo_beat_25 ?_
    refine lv_bipush (v := (6 : Int32)) hx hb md_Mo_beat_26 (by decide) ?_
    refine lv_icmp_ne (tgt := 193) hx hb md_Mo_beat_28 (by decide) (fun c_3 => ?_) (fun c_3 => ?_)
    · refine lv_aload_n hx hb md_Mo_beat_193 rfl (lv_at hl 0 rfl) ?_
      refine fw_getr hx hb hts i_Mo hown hK hP (mm_0 (by decide)) (mk_0 0) rfl 11 (by decide) (hts _ L_Mo_41) (fun _ h9 => h9) rfl md_Mo_beat_194 ?_
      refine lv_iload_n hx hb md_Mo_beat_197 rfl (lv_at hl 1 rfl) ?_
      refine fw_iald hx hb hK hP (mm_12 (by decide)) (mk_12 0) 0 rfl (j := 0) (by decide) (fw_inc (by decide)) md_Mo_beat_198 ?_
      refine lv_iconst (v := (5 : Int32)) hx hb md_Mo_beat_199 (by decide) ?_
      refine lv_icmp_ne (tgt := 222) hx hb md_Mo_beat_200 (by decide) (fun c_4 => ?_) (fun c_4 => ?_)
      · refine lv_aload_n hx hb md_Mo_beat_222 rfl (lv_at hl 0 rfl) ?_
        refine fw_getr hx hb hts i_Mo hown hK hP (mm_0 (by decide)) (mk_0 0) rfl 17 (by decide) (hts _ L_Mo_59) (fun _ h9 => h9) rfl md_Mo_beat_223 ?_
        refine lv_iload_n hx hb md_Mo_beat_226 rfl (lv_at hl 1 rfl) ?_
        refine fw_iald hx hb hK hP (mm_18 (by decide)) (mk_18 0) 0 rfl (j := 0) (by decide) (fw_inc (by decide)) md_Mo_beat_227 ?_
        refine lv_iconst (v := (4 : Int32)) hx hb md_Mo_beat_228 (by decide) ?_
        refine lv_icmp_ne (tgt := 260) hx hb md_Mo_beat_229 (by decide) (fun c_5 => ?_) (fun c_5 => ?_)
        · exact fw_vret hx hb hr hlocks hS hP hI md_Mo_beat_260 (by subst ev2; simp only [mf_Mo_beat_0, if_neg c_1, if_neg c_3, if_neg c_4, if_neg c_5])
        · refine lv_aload_n hx hb md_Mo_beat_232 rfl (lv_at hl 0 rfl) ?_
          refine fw_getr hx hb hts i_Mo hown hK hP (mm_0 (by decide)) (mk_0 0) rfl 18 (by decide) (hts _ L_Mo_62) (fun _ h9 => h9) rfl md_Mo_beat_233 ?_
          refine lv_iload_n hx hb md_Mo_beat_236 rfl (lv_at hl 1 rfl) ?_
          refine lv_dup2_11 hx hb md_Mo_beat_237 rfl rfl ?_
          refine fw_iald hx hb hK hP (mm_19 (by decide)) (mk_19 0) 0 rfl (j := 0) (by decide) (fw_inc (by decide)) md_Mo_beat_238 ?_
          refine lv_dup_x2 hx hb md_Mo_beat_239 rfl rfl rfl ?_
          refine lv_iconst (v := (1 : Int32)) hx hb md_Mo_beat_240 (by decide) ?_
          refine lv_iadd hx hb md_Mo_beat_241 ?_
          refine fw_iast hx hb hK hD hP hS (mm_19 (by decide)) (mk_19 0) 0 rfl (j := 0) (by decide) (fw_inc (by decide)) md_Mo_beat_242 (fun v6 H locs ev6 hP hS => ?_)
          have hI : mI b v6 := by rw [ev6]; exact mI_up hI trivial trivial
          refine lv_iconst (v := (2 : Int32)) hx hb md_Mo_beat_243 (by decide) ?_
          refine lv_icmp_ne (tgt := 255) hx hb md_Mo_beat_244 (by decide) (fun c_7 => ?_) (fun c_7 => ?_)
          · refine lv_aload_n hx hb md_Mo_beat_255 rfl (lv_at hl 0 rfl) ?_
            refine lv_iload_n hx hb md_Mo_beat_256 rfl (lv_at hl 1 rfl) ?_
            refine fw_cv (va_runV (As := [.int (0 : Int32)]) (rest := []) ⟨hx, hb, hml, hown, hts⟩ (mc_Mo_ask_0 l hD v6 hI ) (mw_Mo_ask hts L_Mo_213 ⟨Nat.le_of_ble_eq_true rfl, Nat.le_of_ble_eq_true rfl⟩) (fw_preV hN hK hP (mm_0 (by decide)) (mk_0 0) rfl) rfl rfl hl.1 rfl (lv_room (Nat.le_of_ble_eq_true rfl)) md_Mo_beat_257 ⟨Nat.le_of_ble_eq_true rfl, Nat.le_of_ble_eq_true rfl⟩) hS (fun v8 H locs ev8 hI hP hS => ?_)
            exact fw_vret hx hb hr hlocks hS hP hI md_Mo_beat_260 (by subst ev2 ev6 ev8; simp only [mf_Mo_beat_0, if_neg c_1, if_neg c_3, if_neg c_4, if_pos c_5, if_neg c_7])
          · refine lv_aload_n hx hb md_Mo_beat_247 rfl (lv_at hl 0 rfl) ?_
            refine lv_iload_n hx hb md_Mo_beat_248 rfl (lv_at hl 1 rfl) ?_
            refine fw_cv (va_runV (As := [.int (0 : Int32)]) (rest := []) ⟨hx, hb, hml, hown, hts⟩ (mc_Mo_breakOff_0 l hD v6 hI ) (mw_Mo_breakOff hts L_Mo_216 ⟨Nat.le_of_ble_eq_true rfl, Nat.le_of_ble_eq_true rfl⟩) (fw_preV hN hK hP (mm_0 (by decide)) (mk_0 0) rfl) rfl rfl hl.1 rfl (lv_room (Nat.le_of_ble_eq_true rfl)) md_Mo_beat_249 ⟨Nat.le_of_ble_eq_true rfl, Nat.le_of_ble_eq_true rfl⟩) hS (fun v9 H locs ev9 hI hP hS => ?_)
            refine lv_goto (tgt := 260) hx hb md_Mo_beat_252 (by decide) ?_
            exact fw_vret hx hb hr hlocks hS hP hI md_Mo_beat_260 (by subst ev2 ev6 ev9; simp only [mf_Mo_beat_0, if_neg c_1, if_neg c_3, if_neg c_4, if_pos c_5, if_pos c_7])
      · refine lv_aload_n hx hb md_Mo_beat_203 rfl (lv_at hl 0 rfl) ?_
        refine fw_getr hx hb hts i_Mo hown hK hP (mm_0 (by decide)) (mk_0 0) rfl 17 (by decide) (hts _ L_Mo_59) (fun _ h9 => h9) rfl md_Mo_beat_204 ?_
        refine lv_iload_n hx hb md_Mo_beat_207 rfl (lv_at hl 1 rfl) ?_
        refine fw_iald hx hb hK hP (mm_18 (by decide)) (mk_18 0) 0 rfl (j := 0) (by decide) (fw_inc (by decide)) md_Mo_beat_208 ?_
        refine lv_bipush (v := (12 : Int32)) hx hb md_Mo_beat_209 (by decide) ?_
        refine lv_icmp_ne (tgt := 260) hx hb md_Mo_beat_211 (by decide) (fun c_10 => ?_) (fun c_10 => ?_)
        · exact fw_vret hx hb hr hlocks hS hP hI md_Mo_beat_260 (by subst ev2; simp only [mf_Mo_beat_0, if_neg c_1, if_neg c_3, if_pos c_4, if_neg c_10])
        · refine lv_aload_n hx hb md_Mo_beat_214 rfl (lv_at hl 0 rfl) ?_
          refine lv_iload_n hx hb md_Mo_beat_215 rfl (lv_at hl 1 rfl) ?_
          refine fw_cv (va_runV (As := [.int (0 : Int32)]) (rest := []) ⟨hx, hb, hml, hown, hts⟩ (mc_Mo_breakOff_0 l hD v2 hI ) (mw_Mo_breakOff hts L_Mo_216 ⟨Nat.le_of_ble_eq_true rfl, Nat.le_of_ble_eq_true rfl⟩) (fw_preV hN hK hP (mm_0 (by decide)) (mk_0 0) rfl) rfl rfl hl.1 rfl (lv_room (Nat.le_of_ble_eq_true rfl)) md_Mo_beat_216 ⟨Nat.le_of_ble_eq_true rfl, Nat.le_of_ble_eq_true rfl⟩) hS (fun v11 H locs ev11 hI hP hS => ?_)
          refine lv_goto (tgt := 260) hx hb md_Mo_beat_219 (by decide) ?_
          exact fw_vret hx hb hr hlocks hS hP hI md_Mo_beat_260 (by subst ev2 ev11; simp only [mf_Mo_beat_0, if_neg c_1, if_neg c_3, if_pos c_4, if_pos c_10])
    · refine lv_aload_n hx hb md_Mo_beat_31 rfl (lv_at hl 0 rfl) ?_
      refine fw_getr hx hb hts i_Mo hown hK hP (mm_0 (by decide)) (mk_0 0) rfl 17 (by decide) (hts _ L_Mo_59) (fun _ h9 => h9) rfl md_Mo_beat_32 ?_
      refine lv_iload_n hx hb md_Mo_beat_35 rfl (lv_at hl 1 rfl) ?_
      refine fw_iald hx hb hK hP (mm_18 (by decide)) (mk_18 0) 0 rfl (j := 0) (by decide) (fw_inc (by decide)) md_Mo_beat_36 ?_
      refine lv_iconst (v := (4 : Int32)) hx hb md_Mo_beat_37 (by decide) ?_
      refine lv_icmp_ne (tgt := 57) hx hb md_Mo_beat_38 (by decide) (fun c_12 => ?_) (fun c_12 => ?_)
      · refine lv_iconst (v := (0 : Int32)) hx hb md_Mo_beat_57 (by decide) ?_
        refine lv_istore_n (lv' := [(2, .int (0 : Int32)), (0, .ref (ad 0 0)), (1, .int (0 : Int32))]) hx hb md_Mo_beat_58 rfl hl (by decide) rfl (fun ls hl => ?_)
        exact J1 v2  _ _ _ (by subst ev2; simp only [mf_Mo_beat_0, if_neg c_1, if_pos c_3, if_neg c_12])   hI hP hS (lv_sub hl [1, 2, 0] rfl)
      · refine lv_aload_n hx hb md_Mo_beat_41 rfl (lv_at hl 0 rfl) ?_
        refine lv_dup hx hb md_Mo_beat_42 rfl ?_
        refine fw_geti hx hb hts i_Mo hown hK hP (mm_0 (by decide)) (mk_0 0) rfl 56 (by decide) (hts _ L_Mo_235) (fun _ h9 => h9) rfl md_Mo_beat_43 ?_
        refine lv_iconst (v := (1 : Int32)) hx hb md_Mo_beat_46 (by decide) ?_
        refine lv_iadd hx hb md_Mo_beat_47 ?_
        refine fw_puti hx hb hts i_Mo t_Mo t_Mo_ok n_Mo hown hK hD hP hS (mm_0 (by decide)) (mk_0 0) rfl 56 (by decide) (hts _ L_Mo_235) (fun _ h9 => h9) rfl fw_pdI rfl rfl rfl md_Mo_beat_48 (fun v76 H locs ev76 hP hS => ?_)
        have hI : mI b v76 := by rw [ev76]; exact mI_up hI trivial trivial
        refine lv_aload_n hx hb md_Mo_beat_51 rfl (lv_at hl 0 rfl) ?_
        refine lv_iload_n hx hb md_Mo_beat_52 rfl (lv_at hl 1 rfl) ?_
        refine fw_cv (va_runV (As := [.int (0 : Int32)]) (rest := []) ⟨hx, hb, hml, hown, hts⟩ (mc_Mo_breakOff_0 l hD v76 hI ) (mw_Mo_breakOff hts L_Mo_216 ⟨Nat.le_of_ble_eq_true rfl, Nat.le_of_ble_eq_true rfl⟩) (fw_preV hN hK hP (mm_0 (by decide)) (mk_0 0) rfl) rfl rfl hl.1 rfl (lv_room (Nat.le_of_ble_eq_true rfl)) md_Mo_beat_53 ⟨Nat.le_of_ble_eq_true rfl, Nat.le_of_ble_eq_true rfl⟩) hS (fun v77 H locs ev77 hI hP hS => ?_)
        exact fw_vret hx hb hr hlocks hS hP hI md_Mo_beat_56 (by subst ev2 ev76 ev77; simp only [mf_Mo_beat_0, if_neg c_1, if_pos c_3, if_pos c_12])
  · exact fw_vret hx hb hr hlocks hS hP hI md_Mo_beat_9 (by simp only [mf_Mo_beat_0, if_pos c_1])

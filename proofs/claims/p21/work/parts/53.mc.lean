def mf_Mo_shut_1 (v0 : fw_V) : fw_V :=
  let v1 := mf_Mo_enter_1 v0 (0 : Int32)
  let v2 := fw_up v1 13 0 (1) (0 : Int32)
  let v3 := fw_up v2 15 0 (1) (-1 : Int32)
  let v4 := fw_up v3 16 0 (1) (0 : Int32)
  let v5 := fw_up v4 17 0 (1) (0 : Int32)
  let v7 := fw_up v5 27 0 (6) (0 : Int32)
  let v9 := fw_up v7 27 0 (7) (0 : Int32)
  let v11 := fw_up v9 27 0 (8) (0 : Int32)
  let v13 := fw_up v11 27 0 (9) (0 : Int32)
  let v15 := fw_up v13 27 0 (10) (0 : Int32)
  let v17 := fw_up v15 27 0 (11) (0 : Int32)
  v17

theorem mca_Mo_shut_1 {v0 : fw_V} {i k : Nat} : mf_Mo_shut_1 v0 10 i k = v0 10 i k := by
  unfold mf_Mo_shut_1
  try dsimp only
  all_goals ((repeat' split) <;> simp [fw_up, fw_row, mca_Mo_enter_1])
set_option maxHeartbeats 4000000 in
set_option maxRecDepth 100000 in
theorem mc_Mo_shut_1 (l : Launch) {D : va_G} {cA : Nat → ClassId} {ad : Nat → Nat → Nat} (hD : fw_D mCL ad) {b : Nat} (v0 : fw_V) (hI : mI b v0)   : Met l my_Mo_shut (Cond.code my_Mo_shut mb_Mo_shut 3 none :: vTB) mrm_Mo_shut (fw_Pc vNL D vcls (vtys cA) mCL cA mkd ad v0 [.ref (ad 0 0), .int (1 : Int32)]) (fw_Qv D vcls mCL cA mkd ad (mI b) (mf_Mo_shut_1 v0)) 0 0 (fw_A mCL ad) := by
  refine Met.ofW (cc := mb_Mo_shut) (maxL := 3) (ret := none) (by decide) rfl ?_
  intro p e s m args below meth c s₁ B hml hv
  obtain ⟨rfl, hP, hK, hN⟩ := hv
  have hx := B.exec
  have hb := B.bytes
  have hr := B.returns
  have hts : ∀ w ∈ vTB, w.before ([.ref (ad 0 0), .int (1 : Int32)] : List Value).toArray s = true := fun w h => atoms_spec (ws := (Cond.code my_Mo_shut mb_Mo_shut 3 none :: vTB)) B.pre w (List.mem_cons_of_mem _ h)
  have hown : s.vm.findClass R_Mo = some m.cls := findClass_of_methodNamed B.named
  have hlocks := B.notSynchronized
  have hS : va_S (fw_A mCL ad) s.heap s.heap [] := va_S.rf
  skip
  have hl := lv_entry ([.ref (ad 0 0), .int (1 : Int32)]) (n := 3) (Nat.le_of_ble_eq_true rfl)
  rw [lg_entry_eq]
  generalize (lg_sl ([.ref (ad 0 0), .int (1 : Int32)]) ++ List.replicate (3 - (lg_sl ([.ref (ad 0 0), .int (1 : Int32)])).length) Slot.unset).toArray = ls at hl ⊢
  have hl : lv_has ls 3 [(0, .ref (ad 0 0)), (1, .int (1 : Int32))] := hl
  refine lv_aload_n hx hb md_Mo_shut_0 rfl (lv_at hl 0 rfl) ?_
  refine lv_iload_n hx hb md_Mo_shut_1 rfl (lv_at hl 1 rfl) ?_
  refine lv_iconst (v := (0 : Int32)) hx hb md_Mo_shut_2 (by decide) ?_
  refine fw_cv (va_runV (As := [.int (1 : Int32), .int (0 : Int32)]) (rest := []) ⟨hx, hb, hml, hown, hts⟩ (mc_Mo_enter_1 l hD (b := b) v0 (0 : Int32) (mI b) (mI_enter_1 hI (0 : Int32) (by decide))) (mw_Mo_enter hts L_Mo_200 ⟨Nat.le_of_ble_eq_true rfl, Nat.le_of_ble_eq_true rfl⟩) (fw_preV hN hK hP (mm_0 (by decide)) (mk_0 0) rfl) rfl rfl hl.1 rfl (lv_room (Nat.le_of_ble_eq_true rfl)) md_Mo_shut_3 ⟨Nat.le_of_ble_eq_true rfl, Nat.le_of_ble_eq_true rfl⟩) hS (fun v1 H locs ev1 hI hP hS => ?_)
  refine lv_aload_n hx hb md_Mo_shut_6 rfl (lv_at hl 0 rfl) ?_
  refine fw_getr hx hb hts i_Mo hown hK hP (mm_0 (by decide)) (mk_0 0) rfl 12 (by decide) (hts _ L_Mo_44) (fun _ h9 => h9) rfl md_Mo_shut_7 ?_
  refine lv_iload_n hx hb md_Mo_shut_10 rfl (lv_at hl 1 rfl) ?_
  refine lv_iconst (v := (0 : Int32)) hx hb md_Mo_shut_11 (by decide) ?_
  refine fw_iast hx hb hK hD hP hS (mm_13 (by decide)) (mk_13 0) 0 rfl (j := 1) (by decide) (fw_inc (by decide)) md_Mo_shut_12 (fun v2 H locs ev2 hP hS => ?_)
  have hI : mI b v2 := by rw [ev2]; exact mI_up hI trivial trivial
  refine lv_aload_n hx hb md_Mo_shut_13 rfl (lv_at hl 0 rfl) ?_
  refine fw_getr hx hb hts i_Mo hown hK hP (mm_0 (by decide)) (mk_0 0) rfl 14 (by decide) (hts _ L_Mo_50) (fun _ h9 => h9) rfl md_Mo_shut_14 ?_
  refine lv_iload_n hx hb md_Mo_shut_17 rfl (lv_at hl 1 rfl) ?_
  refine lv_iconst (v := (-1 : Int32)) hx hb md_Mo_shut_18 (by decide) ?_
  refine fw_iast hx hb hK hD hP hS (mm_15 (by decide)) (mk_15 0) 0 rfl (j := 1) (by decide) (fw_inc (by decide)) md_Mo_shut_19 (fun v3 H locs ev3 hP hS => ?_)
  have hI : mI b v3 := by rw [ev3]; exact mI_up hI trivial trivial
  refine lv_aload_n hx hb md_Mo_shut_20 rfl (lv_at hl 0 rfl) ?_
  refine fw_getr hx hb hts i_Mo hown hK hP (mm_0 (by decide)) (mk_0 0) rfl 15 (by decide) (hts _ L_Mo_53) (fun _ h9 => h9) rfl md_Mo_shut_21 ?_
  refine lv_iload_n hx hb md_Mo_shut_24 rfl (lv_at hl 1 rfl) ?_
  refine lv_iconst (v := (0 : Int32)) hx hb md_Mo_shut_25 (by decide) ?_
  refine fw_iast hx hb hK hD hP hS (mm_16 (by decide)) (mk_16 0) 0 rfl (j := 1) (by decide) (fw_inc (by decide)) md_Mo_shut_26 (fun v4 H locs ev4 hP hS => ?_)
  have hI : mI b v4 := by rw [ev4]; exact mI_up hI trivial trivial
  refine lv_aload_n hx hb md_Mo_shut_27 rfl (lv_at hl 0 rfl) ?_
  refine fw_getr hx hb hts i_Mo hown hK hP (mm_0 (by decide)) (mk_0 0) rfl 16 (by decide) (hts _ L_Mo_56) (fun _ h9 => h9) rfl md_Mo_shut_28 ?_
  refine lv_iload_n hx hb md_Mo_shut_31 rfl (lv_at hl 1 rfl) ?_
  refine lv_iconst (v := (0 : Int32)) hx hb md_Mo_shut_32 (by decide) ?_
  refine fw_iast hx hb hK hD hP hS (mm_17 (by decide)) (mk_17 0) 0 rfl (j := 1) (by decide) (fw_inc (by decide)) md_Mo_shut_33 (fun v5 H locs ev5 hP hS => ?_)
  have hI : mI b v5 := by rw [ev5]; exact mI_up hI trivial trivial
  refine lv_bipush (v := (6 : Int32)) hx hb md_Mo_shut_34 (by decide) ?_
  refine lv_iload_n hx hb md_Mo_shut_36 rfl (lv_at hl 1 rfl) ?_
  refine lv_imul hx hb md_Mo_shut_37 ?_
  refine fw_top (y := (6 : Int32)) (by decide) ?_
  refine lv_istore_n (lv' := [(2, .int (6 : Int32)), (0, .ref (ad 0 0)), (1, .int (1 : Int32))]) hx hb md_Mo_shut_38 rfl hl (by decide) rfl (fun ls hl => ?_)
  refine lv_iload_n hx hb md_Mo_shut_39 rfl (lv_at hl 0 rfl) ?_
  refine lv_bipush (v := (6 : Int32)) hx hb md_Mo_shut_40 (by decide) ?_
  refine lv_iload_n hx hb md_Mo_shut_42 rfl (lv_at hl 2 rfl) ?_
  refine lv_imul hx hb md_Mo_shut_43 ?_
  refine fw_top (y := (6 : Int32)) (by decide) ?_
  refine lv_bipush (v := (6 : Int32)) hx hb md_Mo_shut_44 (by decide) ?_
  refine lv_iadd hx hb md_Mo_shut_46 ?_
  refine fw_top (y := (12 : Int32)) (by decide) ?_
  refine lv_icmp_ge (tgt := 63) hx hb md_Mo_shut_47 (by decide) (fun c_6 => absurd c_6 (by decide)) (fun _ => ?_)
  refine lv_aload_n hx hb md_Mo_shut_50 rfl (lv_at hl 1 rfl) ?_
  refine fw_getr hx hb hts i_Mo hown hK hP (mm_0 (by decide)) (mk_0 0) rfl 26 (by decide) (hts _ L_Mo_86) (fun _ h9 => h9) rfl md_Mo_shut_51 ?_
  refine lv_iload_n hx hb md_Mo_shut_54 rfl (lv_at hl 0 rfl) ?_
  refine lv_iconst (v := (0 : Int32)) hx hb md_Mo_shut_55 (by decide) ?_
  refine fw_iast hx hb hK hD hP hS (mm_27 (by decide)) (mk_27 0) 0 rfl (j := 6) (by decide) (fw_inc (by decide)) md_Mo_shut_56 (fun v7 H locs ev7 hP hS => ?_)
  have hI : mI b v7 := by rw [ev7]; exact mI_up hI trivial trivial
  refine lv_iinc (v := (7 : Int32)) (lv' := [(2, .int (7 : Int32)), (0, .ref (ad 0 0)), (1, .int (1 : Int32))]) hx hb md_Mo_shut_57 hl (k := 0) rfl (by decide) (by decide) rfl (fun ls hl => ?_)
  refine lv_goto (tgt := 39) hx hb md_Mo_shut_60 (by decide) ?_
  refine lv_iload_n hx hb md_Mo_shut_39 rfl (lv_at hl 0 rfl) ?_
  refine lv_bipush (v := (6 : Int32)) hx hb md_Mo_shut_40 (by decide) ?_
  refine lv_iload_n hx hb md_Mo_shut_42 rfl (lv_at hl 2 rfl) ?_
  refine lv_imul hx hb md_Mo_shut_43 ?_
  refine fw_top (y := (6 : Int32)) (by decide) ?_
  refine lv_bipush (v := (6 : Int32)) hx hb md_Mo_shut_44 (by decide) ?_
  refine lv_iadd hx hb md_Mo_shut_46 ?_
  refine fw_top (y := (12 : Int32)) (by decide) ?_
  refine lv_icmp_ge (tgt := 63) hx hb md_Mo_shut_47 (by decide) (fun c_8 => absurd c_8 (by decide)) (fun _ => ?_)
  refine lv_aload_n hx hb md_Mo_shut_50 rfl (lv_at hl 1 rfl) ?_
  refine fw_getr hx hb hts i_Mo hown hK hP (mm_0 (by decide)) (mk_0 0) rfl 26 (by decide) (hts _ L_Mo_86) (fun _ h9 => h9) rfl md_Mo_shut_51 ?_
  refine lv_iload_n hx hb md_Mo_shut_54 rfl (lv_at hl 0 rfl) ?_
  refine lv_iconst (v := (0 : Int32)) hx hb md_Mo_shut_55 (by decide) ?_
  refine fw_iast hx hb hK hD hP hS (mm_27 (by decide)) (mk_27 0) 0 rfl (j := 7) (by decide) (fw_inc (by decide)) md_Mo_shut_56 (fun v9 H locs ev9 hP hS => ?_)
  have hI : mI b v9 := by rw [ev9]; exact mI_up hI trivial trivial
  refine lv_iinc (v := (8 : Int32)) (lv' := [(2, .int (8 : Int32)), (0, .ref (ad 0 0)), (1, .int (1 : Int32))]) hx hb md_Mo_shut_57 hl (k := 0) rfl (by decide) (by decide) rfl (fun ls hl => ?_)
  refine lv_goto (tgt := 39) hx hb md_Mo_shut_60 (by decide) ?_
  refine lv_iload_n hx hb md_Mo_shut_39 rfl (lv_at hl 0 rfl) ?_
  refine lv_bipush (v := (6 : Int32)) hx hb md_Mo_shut_40 (by decide) ?_
  refine lv_iload_n hx hb md_Mo_shut_42 rfl (lv_at hl 2 rfl) ?_
  refine lv_imul hx hb md_Mo_shut_43 ?_
  refine fw_top (y := (6 : Int32)) (by decide) ?_
  refine lv_bipush (v := (6 : Int32)) hx hb md_Mo_shut_44 (by decide) ?_
  refine lv_iadd hx hb md_Mo_shut_46 ?_
  refine fw_top (y := (12 : Int32)) (by decide) ?_
  refine lv_icmp_ge (tgt := 63) hx hb md_Mo_shut_47 (by decide) (fun c_10 => absurd c_10 (by decide)) (fun _ => ?_)
  refine lv_aload_n hx hb md_Mo_shut_50 rfl (lv_at hl 1 rfl) ?_
  refine fw_getr hx hb hts i_Mo hown hK hP (mm_0 (by decide)) (mk_0 0) rfl 26 (by decide) (hts _ L_Mo_86) (fun _ h9 => h9) rfl md_Mo_shut_51 ?_
  refine lv_iload_n hx hb md_Mo_shut_54 rfl (lv_at hl 0 rfl) ?_
  refine lv_iconst (v := (0 : Int32)) hx hb md_Mo_shut_55 (by decide) ?_
  refine fw_iast hx hb hK hD hP hS (mm_27 (by decide)) (mk_27 0) 0 rfl (j := 8) (by decide) (fw_inc (by decide)) md_Mo_shut_56 (fun v11 H locs ev11 hP hS => ?_)
  have hI : mI b v11 := by rw [ev11]; exact mI_up hI trivial trivial
  refine lv_iinc (v := (9 : Int32)) (lv' := [(2, .int (9 : Int32)), (0, .ref (ad 0 0)), (1, .int (1 : Int32))]) hx hb md_Mo_shut_57 hl (k := 0) rfl (by decide) (by decide) rfl (fun ls hl => ?_)
  refine lv_goto (tgt := 39) hx hb md_Mo_shut_60 (by decide) ?_
  refine lv_iload_n hx hb md_Mo_shut_39 rfl (lv_at hl 0 rfl) ?_
  refine lv_bipush (v := (6 : Int32)) hx hb md_Mo_shut_40 (by decide) ?_
  refine lv_iload_n hx hb md_Mo_shut_42 rfl (lv_at hl 2 rfl) ?_
  refine lv_imul hx hb md_Mo_shut_43 ?_
  refine fw_top (y := (6 : Int32)) (by decide) ?_
  refine lv_bipush (v := (6 : Int32)) hx hb md_Mo_shut_44 (by decide) ?_
  refine lv_iadd hx hb md_Mo_shut_46 ?_
  refine fw_top (y := (12 : Int32)) (by decide) ?_
  refine lv_icmp_ge (tgt := 63) hx hb md_Mo_shut_47 (by decide) (fun c_12 => absurd c_12 (by decide)) (fun _ => ?_)
  refine lv_aload_n hx hb md_Mo_shut_50 rfl (lv_at hl 1 rfl) ?_
  refine fw_getr hx hb hts i_Mo hown hK hP (mm_0 (by decide)) (mk_0 0) rfl 26 (by decide) (hts _ L_Mo_86) (fun _ h9 => h9) rfl md_Mo_shut_51 ?_
  refine lv_iload_n hx hb md_Mo_shut_54 rfl (lv_at hl 0 rfl) ?_
  refine lv_iconst (v := (0 : Int32)) hx hb md_Mo_shut_55 (by decide) ?_
  refine fw_iast hx hb hK hD hP hS (mm_27 (by decide)) (mk_27 0) 0 rfl (j := 9) (by decide) (fw_inc (by decide)) md_Mo_shut_56 (fun v13 H locs ev13 hP hS => ?_)
  have hI : mI b v13 := by rw [ev13]; exact mI_up hI trivial trivial
  refine lv_iinc (v := (10 : Int32)) (lv' := [(2, .int (10 : Int32)), (0, .ref (ad 0 0)), (1, .int (1 : Int32))]) hx hb md_Mo_shut_57 hl (k := 0) rfl (by decide) (by decide) rfl (fun ls hl => ?_)
  refine lv_goto (tgt := 39) hx hb md_Mo_shut_60 (by decide) ?_
  refine lv_iload_n hx hb md_Mo_shut_39 rfl (lv_at hl 0 rfl) ?_
  refine lv_bipush (v := (6 : Int32)) hx hb md_Mo_shut_40 (by decide) ?_
  refine lv_iload_n hx hb md_Mo_shut_42 rfl (lv_at hl 2 rfl) ?_
  refine lv_imul hx hb md_Mo_shut_43 ?_
  refine fw_top (y := (6 : Int32)) (by decide) ?_
  refine lv_bipush (v := (6 : Int32)) hx hb md_Mo_shut_44 (by decide) ?_
  refine lv_iadd hx hb md_Mo_shut_46 ?_
  refine fw_top (y := (12 : Int32)) (by decide) ?_
  refine lv_icmp_ge (tgt := 63) hx hb md_Mo_shut_47 (by decide) (fun c_14 => absurd c_14 (by decide)) (fun _ => ?_)
  refine lv_aload_n hx hb md_Mo_shut_50 rfl (lv_at hl 1 rfl) ?_
  refine fw_getr hx hb hts i_Mo hown hK hP (mm_0 (by decide)) (mk_0 0) rfl 26 (by decide) (hts _ L_Mo_86) (fun _ h9 => h9) rfl md_Mo_shut_51 ?_
  refine lv_iload_n hx hb md_Mo_shut_54 rfl (lv_at hl 0 rfl) ?_
  refine lv_iconst (v := (0 : Int32)) hx hb md_Mo_shut_55 (by decide) ?_
  refine fw_iast hx hb hK hD hP hS (mm_27 (by decide)) (mk_27 0) 0 rfl (j := 10) (by decide) (fw_inc (by decide)) md_Mo_shut_56 (fun v15 H locs ev15 hP hS => ?_)
  have hI : mI b v15 := by rw [ev15]; exact mI_up hI trivial trivial
  refine lv_iinc (v := (11 : Int32)) (lv' := [(2, .int (11 : Int32)), (0, .ref (ad 0 0)), (1, .int (1 : Int32))]) hx hb md_Mo_shut_57 hl (k := 0) rfl (by decide) (by decide) rfl (fun ls hl => ?_)
  refine lv_goto (tgt := 39) hx hb md_Mo_shut_60 (by decide) ?_
  refine lv_iload_n hx hb md_Mo_shut_39 rfl (lv_at hl 0 rfl) ?_
  refine lv_bipush (v := (6 : Int32)) hx hb md_Mo_shut_40 (by decide) ?_
  refine lv_iload_n hx hb md_Mo_shut_42 rfl (lv_at hl 2 rfl) ?_
  refine lv_imul hx hb md_Mo_shut_43 ?_
  refine fw_top (y := (6 : Int32)) (by decide) ?_
  refine lv_bipush (v := (6 : Int32)) hx hb md_Mo_shut_44 (by decide) ?_
  refine lv_iadd hx hb md_Mo_shut_46 ?_
  refine fw_top (y := (12 : Int32)) (by decide) ?_
  refine lv_icmp_ge (tgt := 63) hx hb md_Mo_shut_47 (by decide) (fun c_16 => absurd c_16 (by decide)) (fun _ => ?_)
  refine lv_aload_n hx hb md_Mo_shut_50 rfl (lv_at hl 1 rfl) ?_
  refine fw_getr hx hb hts i_Mo hown hK hP (mm_0 (by decide)) (mk_0 0) rfl 26 (by decide) (hts _ L_Mo_86) (fun _ h9 => h9) rfl md_Mo_shut_51 ?_
  refine lv_iload_n hx hb md_Mo_shut_54 rfl (lv_at hl 0 rfl) ?_
  refine lv_iconst (v := (0 : Int32)) hx hb md_Mo_shut_55 (by decide) ?_
  refine fw_iast hx hb hK hD hP hS (mm_27 (by decide)) (mk_27 0) 0 rfl (j := 11) (by decide) (fw_inc (by decide)) md_Mo_shut_56 (fun v17 H locs ev17 hP hS => ?_)
  have hI : mI b v17 := by rw [ev17]; exact mI_up hI trivial trivial
  refine lv_iinc (v := (12 : Int32)) (lv' := [(2, .int (12 : Int32)), (0, .ref (ad 0 0)), (1, .int (1 : Int32))]) hx hb md_Mo_shut_57 hl (k := 0) rfl (by decide) (by decide) rfl (fun ls hl => ?_)
  refine lv_goto (tgt := 39) hx hb md_Mo_shut_60 (by decide) ?_
  refine lv_iload_n hx hb md_Mo_shut_39 rfl (lv_at hl 0 rfl) ?_
  refine lv_bipush (v := (6 : Int32)) hx hb md_Mo_shut_40 (by decide) ?_
  refine lv_iload_n hx hb md_Mo_shut_42 rfl (lv_at hl 2 rfl) ?_
  refine lv_imul hx hb md_Mo_shut_43 ?_
  refine fw_top (y := (6 : Int32)) (by decide) ?_
  refine lv_bipush (v := (6 : Int32)) hx hb md_Mo_shut_44 (by decide) ?_
  refine lv_iadd hx hb md_Mo_shut_46 ?_
  refine fw_top (y := (12 : Int32)) (by decide) ?_
  refine lv_icmp_ge (tgt := 63) hx hb md_Mo_shut_47 (by decide) (fun _ => ?_) (fun c_18 => absurd (by decide) c_18)
  exact fw_vret hx hb hr hlocks hS hP hI md_Mo_shut_63 (by subst ev1 ev2 ev3 ev4 ev5 ev7 ev9 ev11 ev13 ev15 ev17; simp only [mf_Mo_shut_1])
def mf_Mo_isNewer (a1 : Int32) (a2 : Int32) : Int32 :=
  if a2 < (0 : Int32) then
    (1 : Int32)
  else
    let r2 := mf_Mo_is ((a1 - a2) &&& (255 : Int32)) (1 : Int32) (127 : Int32)
    if r2 = (0 : Int32) then
      (0 : Int32)
    else
      (1 : Int32)

set_option maxHeartbeats 4000000 in
set_option maxRecDepth 100000 in
theorem mc_Mo_isNewer (l : Launch) {D : va_G} {cA : Nat → ClassId} {ad : Nat → Nat → Nat} (hD : fw_D mCL ad) {b : Nat} (v0 : fw_V) (hI : mI b v0) (a1 : Int32) (a2 : Int32)  : Met l my_Mo_isNewer (Cond.code my_Mo_isNewer mb_Mo_isNewer 2 (some .boolean) :: vTB) mrm_Mo_isNewer (fw_Pc vNL D vcls (vtys cA) mCL cA mkd ad v0 [.int a1, .int a2]) (fw_Qb D vcls mCL cA mkd ad v0 (mf_Mo_isNewer a1 a2)) 0 0 (fw_A mCL ad) := by
  refine Met.ofW (cc := mb_Mo_isNewer) (maxL := 2) (ret := (some .boolean)) (by decide) rfl ?_
  intro p e s m args below meth c s₁ B hml hv
  obtain ⟨rfl, hP, hK, hN⟩ := hv
  have hx := B.exec
  have hb := B.bytes
  have hr := B.returns
  have hts : ∀ w ∈ vTB, w.before ([.int a1, .int a2] : List Value).toArray s = true := fun w h => atoms_spec (ws := (Cond.code my_Mo_isNewer mb_Mo_isNewer 2 (some .boolean) :: vTB)) B.pre w (List.mem_cons_of_mem _ h)
  have hown : s.vm.findClass R_Mo = some m.cls := findClass_of_methodNamed B.named
  have hlocks := B.notSynchronized
  have hS : va_S (fw_A mCL ad) s.heap s.heap [] := va_S.rf
  skip
  have hl := lv_entry ([.int a1, .int a2]) (n := 2) (Nat.le_of_ble_eq_true rfl)
  rw [lg_entry_eq]
  generalize (lg_sl ([.int a1, .int a2]) ++ List.replicate (2 - (lg_sl ([.int a1, .int a2])).length) Slot.unset).toArray = ls at hl ⊢
  have hl : lv_has ls 2 [(0, .int a1), (1, .int a2)] := hl
  refine lv_iload_n hx hb md_Mo_isNewer_0 rfl (lv_at hl 1 rfl) ?_
  refine lv_if_lt (tgt := 20) hx hb md_Mo_isNewer_1 (by decide) (fun c_1 => ?_) (fun c_1 => ?_)
  · refine lv_iconst (v := (1 : Int32)) hx hb md_Mo_isNewer_20 (by decide) ?_
    refine lv_goto (tgt := 25) hx hb md_Mo_isNewer_21 (by decide) ?_
    exact fw_bret hx hb hr hlocks hS hP md_Mo_isNewer_25 (by decide) (by simp only [mf_Mo_isNewer, if_pos c_1])
  · refine lv_iload_n hx hb md_Mo_isNewer_4 rfl (lv_at hl 0 rfl) ?_
    refine lv_iload_n hx hb md_Mo_isNewer_5 rfl (lv_at hl 1 rfl) ?_
    refine lv_isub hx hb md_Mo_isNewer_6 ?_
    refine lv_sipush (v := (255 : Int32)) hx hb md_Mo_isNewer_7 (by decide) ?_
    refine lv_iand hx hb md_Mo_isNewer_10 ?_
    refine lv_iconst (v := (1 : Int32)) hx hb md_Mo_isNewer_11 (by decide) ?_
    refine lv_bipush (v := (127 : Int32)) hx hb md_Mo_isNewer_12 (by decide) ?_
    refine fw_cb (va_runS (As := [.int ((a1 - a2) &&& (255 : Int32)), .int (1 : Int32), .int (127 : Int32)]) (rest := []) ⟨hx, hb, hml, hown, hts⟩ (mc_Mo_is l hD v0 hI ((a1 - a2) &&& (255 : Int32)) (1 : Int32) (127 : Int32)) (mw_Mo_is hts L_Mo_155 ⟨Nat.le_of_ble_eq_true rfl, Nat.le_of_ble_eq_true rfl⟩) (fw_preS hN hK hP) rfl rfl hl.1 rfl (lv_room (Nat.le_of_ble_eq_true rfl)) md_Mo_isNewer_14 ⟨Nat.le_of_ble_eq_true rfl, Nat.le_of_ble_eq_true rfl⟩) hS (fun r2 H locs zr2 er2 hP hS => ?_)
    refine lv_if_eq (tgt := 24) hx hb md_Mo_isNewer_17 (by decide) (fun c_3 => ?_) (fun c_3 => ?_)
    · refine lv_iconst (v := (0 : Int32)) hx hb md_Mo_isNewer_24 (by decide) ?_
      exact fw_bret hx hb hr hlocks hS hP md_Mo_isNewer_25 (by decide) (by subst er2; simp only [mf_Mo_isNewer, if_neg c_1, if_pos c_3])
    · refine lv_iconst (v := (1 : Int32)) hx hb md_Mo_isNewer_20 (by decide) ?_
      refine lv_goto (tgt := 25) hx hb md_Mo_isNewer_21 (by decide) ?_
      exact fw_bret hx hb hr hlocks hS hP md_Mo_isNewer_25 (by decide) (by subst er2; simp only [mf_Mo_isNewer, if_neg c_1, if_neg c_3])
def mf_Mo_tell_0_j2 (v : fw_V) (a2 : Int32) (x3 : Int32) (x4 : Int32) (x90 : Int32) : fw_V :=
  let v4 := fw_up v 16 0 (0) x90
  let v6 := fw_up v4 49 0 (7) (v4 49 0 6)
  let v8 := fw_up v6 49 0 (6) (v6 49 0 5)
  let v10 := fw_up v8 49 0 (5) (v8 49 0 4)
  let v12 := fw_up v10 49 0 (4) (v10 49 0 3)
  let v14 := fw_up v12 49 0 (3) (v12 49 0 2)
  let v16 := fw_up v14 49 0 (2) (v14 49 0 1)
  let v18 := fw_up v16 49 0 (1) (v16 49 0 0)
  let v20 := fw_up v18 49 0 (0) (((0 : Int32) + ((16 : Int32) * x3)) + x4)
  let v21 := fw_up v20 0 0 55 ((v20 0 0 55) + (1 : Int32))
  v21
def mf_Mo_tell_0_j1 (v : fw_V) (a2 : Int32) (x3 : Int32) (x4 : Int32) : fw_V :=
  mf_Mo_tell_0_j2 v a2 (x3) (x4) (((v 16 0 0) &&& (((1 : Int32) <<< (x3 &&& 31)) ^^^ (-1 : Int32))))
def mf_Mo_tell_0 (v0 : fw_V) (a2 : Int32) : fw_V :=
  let v1 := fw_up v0 23 0 (0) a2
  if (v1 24 0 ((0 : Int32) + (v0 10 0 0)).toNatClampNeg) < (0 : Int32) then
    mf_Mo_tell_0_j1 v1 a2 ((v0 10 0 0)) ((v0 10 0 1))
  else
    if (v0 10 0 1) = ((v1 24 0 ((0 : Int32) + (v0 10 0 0)).toNatClampNeg) + (1 : Int32)) then
      mf_Mo_tell_0_j1 v1 a2 ((v0 10 0 0)) ((v0 10 0 1))
    else
      mf_Mo_tell_0_j2 v1 a2 ((v0 10 0 0)) ((v0 10 0 1)) (((v1 16 0 0) ||| ((1 : Int32) <<< ((v0 10 0 0) &&& 31))))

theorem mca_Mo_tell_0_j2 {v : fw_V} {a2 : Int32} {x3 : Int32} {x4 : Int32} {x90 : Int32} {i k : Nat} : mf_Mo_tell_0_j2 v a2 x3 x4 x90 10 i k = v 10 i k := by
  unfold mf_Mo_tell_0_j2
  try dsimp only
  all_goals ((repeat' split) <;> simp [fw_up, fw_row])
theorem mca_Mo_tell_0_j1 {v : fw_V} {a2 : Int32} {x3 : Int32} {x4 : Int32} {i k : Nat} : mf_Mo_tell_0_j1 v a2 x3 x4 10 i k = v 10 i k := by
  unfold mf_Mo_tell_0_j1
  try dsimp only
  all_goals ((repeat' split) <;> simp [fw_up, fw_row, mca_Mo_tell_0_j2])
theorem mca_Mo_tell_0 {v0 : fw_V} {a2 : Int32} {i k : Nat} : mf_Mo_tell_0 v0 a2 10 i k = v0 10 i k := by
  unfold mf_Mo_tell_0
  try dsimp only
  all_goals ((repeat' split) <;> simp [fw_up, fw_row, mca_Mo_tell_0_j1, mca_Mo_tell_0_j2])
set_option maxHeartbeats 4000000 in
set_option maxRecDepth 100000 in
theorem mc_Mo_tell_0 (l : Launch) {D : va_G} {cA : Nat → ClassId} {ad : Nat → Nat → Nat} (hD : fw_D mCL ad) {b : Nat} (v0 : fw_V) (hI : mI b v0) (a2 : Int32) (hq0 : vp_in (v0 10 0 0) 3) : Met l my_Mo_tell (Cond.code my_Mo_tell mb_Mo_tell 6 none :: vTB) mrm_Mo_tell (fw_Pc vNL D vcls (vtys cA) mCL cA mkd ad v0 [.ref (ad 0 0), .int (0 : Int32), .int a2]) (fw_Qv D vcls mCL cA mkd ad (mI b) (mf_Mo_tell_0 v0 a2)) 0 0 (fw_A mCL ad) := by
  refine Met.ofW (cc := mb_Mo_tell) (maxL := 6) (ret := none) (by decide) rfl ?_
  intro p e s m args below meth c s₁ B hml hv
  obtain ⟨rfl, hP, hK, hN⟩ := hv
  have hx := B.exec
  have hb := B.bytes
  have hr := B.returns
  have hts : ∀ w ∈ vTB, w.before ([.ref (ad 0 0), .int (0 : Int32), .int a2] : List Value).toArray s = true := fun w h => atoms_spec (ws := (Cond.code my_Mo_tell mb_Mo_tell 6 none :: vTB)) B.pre w (List.mem_cons_of_mem _ h)
  have hown : s.vm.findClass R_Mo = some m.cls := findClass_of_methodNamed B.named
  have hlocks := B.notSynchronized
  have hS : va_S (fw_A mCL ad) s.heap s.heap [] := va_S.rf
  have J2 : ∀ (v : fw_V) (x3 : Int32) (x4 : Int32) (x90 : Int32) (H : Heap) (locs : List Loc) (ls : Array Slot), mf_Mo_tell_0 v0 a2 = mf_Mo_tell_0_j2 v a2 x3 x4 x90 → vp_in x3 3 → mI b v → va_P D vcls (fw_w mCL cA mkd ad v) H → va_S (fw_A mCL ad) s.heap H locs → lv_has ls 6 [(0, .ref (ad 0 0)), (1, .int (0 : Int32)), (3, .int x3), (4, .int x4)] → W p l e (headSpec (Cond.code my_Mo_tell mb_Mo_tell 6 none :: vTB) mrm_Mo_tell).room s m ([.ref (ad 0 0), .int (0 : Int32), .int a2] : List Value).toArray below meth c H locs 0 0 (MQ below (fw_Qv D vcls mCL cA mkd ad (mI b) (mf_Mo_tell_0 v0 a2)) ([.ref (ad 0 0), .int (0 : Int32), .int a2] : List Value).toArray s 0 0 (fw_A mCL ad)) (F0 m 82 ls [.int x90, .int (0 : Int32), .ref (ad 16 0)]) := by
    intro v x3 x4 x90 H locs ls hj hc0 hI hP hS hl
    refine fw_iast hx hb hK hD hP hS (mm_16 (by decide)) (mk_16 0) 0 rfl (j := 0) (by decide) (fw_inc (by decide)) md_Mo_tell_82 (fun v4 H locs ev4 hP hS => ?_)
    have hI : mI b v4 := by rw [ev4]; exact mI_up hI trivial trivial
    refine lv_bipush (v := (7 : Int32)) hx hb md_Mo_tell_83 (by decide) ?_
    refine lv_istore (lv' := [(5, .int (7 : Int32)), (0, .ref (ad 0 0)), (1, .int (0 : Int32)), (3, .int x3), (4, .int x4)]) hx hb md_Mo_tell_85 hl (by decide) rfl (fun ls hl => ?_)
    refine lv_iload hx hb md_Mo_tell_87 (lv_at hl 0 rfl) ?_
    refine lv_if_le (tgt := 114) hx hb md_Mo_tell_89 (by decide) (fun c_5 => absurd c_5 (by decide)) (fun _ => ?_)
    refine lv_aload_n hx hb md_Mo_tell_92 rfl (lv_at hl 1 rfl) ?_
    refine fw_getr hx hb hts i_Mo hown hK hP (mm_0 (by decide)) (mk_0 0) rfl 48 (by decide) (hts _ L_Mo_152) (fun _ h9 => h9) rfl md_Mo_tell_93 ?_
    refine lv_iload hx hb md_Mo_tell_96 (lv_at hl 0 rfl) ?_
    refine lv_aload_n hx hb md_Mo_tell_98 rfl (lv_at hl 1 rfl) ?_
    refine fw_getr hx hb hts i_Mo hown hK hP (mm_0 (by decide)) (mk_0 0) rfl 48 (by decide) (hts _ L_Mo_152) (fun _ h9 => h9) rfl md_Mo_tell_99 ?_
    refine lv_iload hx hb md_Mo_tell_102 (lv_at hl 0 rfl) ?_
    refine lv_iconst (v := (1 : Int32)) hx hb md_Mo_tell_104 (by decide) ?_
    refine lv_isub hx hb md_Mo_tell_105 ?_
    refine fw_top (y := (6 : Int32)) (by decide) ?_
    refine fw_iald hx hb hK hP (mm_49 (by decide)) (mk_49 0) 0 rfl (j := 6) (by decide) (fw_inc (by decide)) md_Mo_tell_106 ?_
    refine fw_iast hx hb hK hD hP hS (mm_49 (by decide)) (mk_49 0) 0 rfl (j := 7) (by decide) (fw_inc (by decide)) md_Mo_tell_107 (fun v6 H locs ev6 hP hS => ?_)
    have hI : mI b v6 := by rw [ev6]; exact mI_up hI trivial trivial
    refine lv_iinc (v := (6 : Int32)) (lv' := [(5, .int (6 : Int32)), (0, .ref (ad 0 0)), (1, .int (0 : Int32)), (3, .int x3), (4, .int x4)]) hx hb md_Mo_tell_108 hl (k := 0) rfl (by decide) (by decide) rfl (fun ls hl => ?_)
    refine lv_goto (tgt := 87) hx hb md_Mo_tell_111 (by decide) ?_
    refine lv_iload hx hb md_Mo_tell_87 (lv_at hl 0 rfl) ?_
    refine lv_if_le (tgt := 114) hx hb md_Mo_tell_89 (by decide) (fun c_7 => absurd c_7 (by decide)) (fun _ => ?_)
    refine lv_aload_n hx hb md_Mo_tell_92 rfl (lv_at hl 1 rfl) ?_
    refine fw_getr hx hb hts i_Mo hown hK hP (mm_0 (by decide)) (mk_0 0) rfl 48 (by decide) (hts _ L_Mo_152) (fun _ h9 => h9) rfl md_Mo_tell_93 ?_
    refine lv_iload hx hb md_Mo_tell_96 (lv_at hl 0 rfl) ?_
    refine lv_aload_n hx hb md_Mo_tell_98 rfl (lv_at hl 1 rfl) ?_
    refine fw_getr hx hb hts i_Mo hown hK hP (mm_0 (by decide)) (mk_0 0) rfl 48 (by decide) (hts _ L_Mo_152) (fun _ h9 => h9) rfl md_Mo_tell_99 ?_
    refine lv_iload hx hb md_Mo_tell_102 (lv_at hl 0 rfl) ?_
    refine lv_iconst (v := (1 : Int32)) hx hb md_Mo_tell_104 (by decide) ?_
    refine lv_isub hx hb md_Mo_tell_105 ?_
    refine fw_top (y := (5 : Int32)) (by decide) ?_
    refine fw_iald hx hb hK hP (mm_49 (by decide)) (mk_49 0) 0 rfl (j := 5) (by decide) (fw_inc (by decide)) md_Mo_tell_106 ?_
    refine fw_iast hx hb hK hD hP hS (mm_49 (by decide)) (mk_49 0) 0 rfl (j := 6) (by decide) (fw_inc (by decide)) md_Mo_tell_107 (fun v8 H locs ev8 hP hS => ?_)
    have hI : mI b v8 := by rw [ev8]; exact mI_up hI trivial trivial
    refine lv_iinc (v := (5 : Int32)) (lv' := [(5, .int (5 : Int32)), (0, .ref (ad 0 0)), (1, .int (0 : Int32)), (3, .int x3), (4, .int x4)]) hx hb md_Mo_tell_108 hl (k := 0) rfl (by decide) (by decide) rfl (fun ls hl => ?_)
    refine lv_goto (tgt := 87) hx hb md_Mo_tell_111 (by decide) ?_
    refine lv_iload hx hb md_Mo_tell_87 (lv_at hl 0 rfl) ?_
    refine lv_if_le (tgt := 114) hx hb md_Mo_tell_89 (by decide) (fun c_9 => absurd c_9 (by decide)) (fun _ => ?_)
    refine lv_aload_n hx hb md_Mo_tell_92 rfl (lv_at hl 1 rfl) ?_
    refine fw_getr hx hb hts i_Mo hown hK hP (mm_0 (by decide)) (mk_0 0) rfl 48 (by decide) (hts _ L_Mo_152) (fun _ h9 => h9) rfl md_Mo_tell_93 ?_
    refine lv_iload hx hb md_Mo_tell_96 (lv_at hl 0 rfl) ?_
    refine lv_aload_n hx hb md_Mo_tell_98 rfl (lv_at hl 1 rfl) ?_
    refine fw_getr hx hb hts i_Mo hown hK hP (mm_0 (by decide)) (mk_0 0) rfl 48 (by decide) (hts _ L_Mo_152) (fun _ h9 => h9) rfl md_Mo_tell_99 ?_
    refine lv_iload hx hb md_Mo_tell_102 (lv_at hl 0 rfl) ?_
    refine lv_iconst (v := (1 : Int32)) hx hb md_Mo_tell_104 (by decide) ?_
    refine lv_isub hx hb md_Mo_tell_105 ?_
    refine fw_top (y := (4 : Int32)) (by decide) ?_
    refine fw_iald hx hb hK hP (mm_49 (by decide)) (mk_49 0) 0 rfl (j := 4) (by decide) (fw_inc (by decide)) md_Mo_tell_106 ?_
    refine fw_iast hx hb hK hD hP hS (mm_49 (by decide)) (mk_49 0) 0 rfl (j := 5) (by decide) (fw_inc (by decide)) md_Mo_tell_107 (fun v10 H locs ev10 hP hS => ?_)
    have hI : mI b v10 := by rw [ev10]; exact mI_up hI trivial trivial
    refine lv_iinc (v := (4 : Int32)) (lv' := [(5, .int (4 : Int32)), (0, .ref (ad 0 0)), (1, .int (0 : Int32)), (3, .int x3), (4, .int x4)]) hx hb md_Mo_tell_108 hl (k := 0) rfl (by decide) (by decide) rfl (fun ls hl => ?_)
    refine lv_goto (tgt := 87) hx hb md_Mo_tell_111 (by decide) ?_
    refine lv_iload hx hb md_Mo_tell_87 (lv_at hl 0 rfl) ?_
    refine lv_if_le (tgt := 114) hx hb md_Mo_tell_89 (by decide) (fun c_11 => absurd c_11 (by decide)) (fun _ => ?_)
    refine lv_aload_n hx hb md_Mo_tell_92 rfl (lv_at hl 1 rfl) ?_
    refine fw_getr hx hb hts i_Mo hown hK hP (mm_0 (by decide)) (mk_0 0) rfl 48 (by decide) (hts _ L_Mo_152) (fun _ h9 => h9) rfl md_Mo_tell_93 ?_
    refine lv_iload hx hb md_Mo_tell_96 (lv_at hl 0 rfl) ?_
    refine lv_aload_n hx hb md_Mo_tell_98 rfl (lv_at hl 1 rfl) ?_
    refine fw_getr hx hb hts i_Mo hown hK hP (mm_0 (by decide)) (mk_0 0) rfl 48 (by decide) (hts _ L_Mo_152) (fun _ h9 => h9) rfl md_Mo_tell_99 ?_
    refine lv_iload hx hb md_Mo_tell_102 (lv_at hl 0 rfl) ?_
    refine lv_iconst (v := (1 : Int32)) hx hb md_Mo_tell_104 (by decide) ?_
    refine lv_isub hx hb md_Mo_tell_105 ?_
    refine fw_top (y := (3 : Int32)) (by decide) ?_
    refine fw_iald hx hb hK hP (mm_49 (by decide)) (mk_49 0) 0 rfl (j := 3) (by decide) (fw_inc (by decide)) md_Mo_tell_106 ?_
    refine fw_iast hx hb hK hD hP hS (mm_49 (by decide)) (mk_49 0) 0 rfl (j := 4) (by decide) (fw_inc (by decide)) md_Mo_tell_107 (fun v12 H locs ev12 hP hS => ?_)
    have hI : mI b v12 := by rw [ev12]; exact mI_up hI trivial trivial
    refine lv_iinc (v := (3 : Int32)) (lv' := [(5, .int (3 : Int32)), (0, .ref (ad 0 0)), (1, .int (0 : Int32)), (3, .int x3), (4, .int x4)]) hx hb md_Mo_tell_108 hl (k := 0) rfl (by decide) (by decide) rfl (fun ls hl => ?_)
    refine lv_goto (tgt := 87) hx hb md_Mo_tell_111 (by decide) ?_
    refine lv_iload hx hb md_Mo_tell_87 (lv_at hl 0 rfl) ?_
    refine lv_if_le (tgt := 114) hx hb md_Mo_tell_89 (by decide) (fun c_13 => absurd c_13 (by decide)) (fun _ => ?_)
    refine lv_aload_n hx hb md_Mo_tell_92 rfl (lv_at hl 1 rfl) ?_
    refine fw_getr hx hb hts i_Mo hown hK hP (mm_0 (by decide)) (mk_0 0) rfl 48 (by decide) (hts _ L_Mo_152) (fun _ h9 => h9) rfl md_Mo_tell_93 ?_
    refine lv_iload hx hb md_Mo_tell_96 (lv_at hl 0 rfl) ?_
    refine lv_aload_n hx hb md_Mo_tell_98 rfl (lv_at hl 1 rfl) ?_
    refine fw_getr hx hb hts i_Mo hown hK hP (mm_0 (by decide)) (mk_0 0) rfl 48 (by decide) (hts _ L_Mo_152) (fun _ h9 => h9) rfl md_Mo_tell_99 ?_
    refine lv_iload hx hb md_Mo_tell_102 (lv_at hl 0 rfl) ?_
    refine lv_iconst (v := (1 : Int32)) hx hb md_Mo_tell_104 (by decide) ?_
    refine lv_isub hx hb md_Mo_tell_105 ?_
    refine fw_top (y := (2 : Int32)) (by decide) ?_
    refine fw_iald hx hb hK hP (mm_49 (by decide)) (mk_49 0) 0 rfl (j := 2) (by decide) (fw_inc (by decide)) md_Mo_tell_106 ?_
    refine fw_iast hx hb hK hD hP hS (mm_49 (by decide)) (mk_49 0) 0 rfl (j := 3) (by decide) (fw_inc (by decide)) md_Mo_tell_107 (fun v14 H locs ev14 hP hS => ?_)
    have hI : mI b v14 := by rw [ev14]; exact mI_up hI trivial trivial
    refine lv_iinc (v := (2 : Int32)) (lv' := [(5, .int (2 : Int32)), (0, .ref (ad 0 0)), (1, .int (0 : Int32)), (3, .int x3), (4, .int x4)]) hx hb md_Mo_tell_108 hl (k := 0) rfl (by decide) (by decide) rfl (fun ls hl => ?_)
    refine lv_goto (tgt := 87) hx hb md_Mo_tell_111 (by decide) ?_
    refine lv_iload hx hb md_Mo_tell_87 (lv_at hl 0 rfl) ?_
    refine lv_if_le (tgt := 114) hx hb md_Mo_tell_89 (by decide) (fun c_15 => absurd c_15 (by decide)) (fun _ => ?_)
    refine lv_aload_n hx hb md_Mo_tell_92 rfl (lv_at hl 1 rfl) ?_
    refine fw_getr hx hb hts i_Mo hown hK hP (mm_0 (by decide)) (mk_0 0) rfl 48 (by decide) (hts _ L_Mo_152) (fun _ h9 => h9) rfl md_Mo_tell_93 ?_
    refine lv_iload hx hb md_Mo_tell_96 (lv_at hl 0 rfl) ?_
    refine lv_aload_n hx hb md_Mo_tell_98 rfl (lv_at hl 1 rfl) ?_
    refine fw_getr hx hb hts i_Mo hown hK hP (mm_0 (by decide)) (mk_0 0) rfl 48 (by decide) (hts _ L_Mo_152) (fun _ h9 => h9) rfl md_Mo_tell_99 ?_
    refine lv_iload hx hb md_Mo_tell_102 (lv_at hl 0 rfl) ?_
    refine lv_iconst (v := (1 : Int32)) hx hb md_Mo_tell_104 (by decide) ?_
    refine lv_isub hx hb md_Mo_tell_105 ?_
    refine fw_top (y := (1 : Int32)) (by decide) ?_
    refine fw_iald hx hb hK hP (mm_49 (by decide)) (mk_49 0) 0 rfl (j := 1) (by decide) (fw_inc (by decide)) md_Mo_tell_106 ?_
    refine fw_iast hx hb hK hD hP hS (mm_49 (by decide)) (mk_49 0) 0 rfl (j := 2) (by decide) (fw_inc (by decide)) md_Mo_tell_107 (fun v16 H locs ev16 hP hS => ?_)
    have hI : mI b v16 := by rw [ev16]; exact mI_up hI trivial trivial
    refine lv_iinc (v := (1 : Int32)) (lv' := [(5, .int (1 : Int32)), (0, .ref (ad 0 0)), (1, .int (0 : Int32)), (3, .int x3), (4, .int x4)]) hx hb md_Mo_tell_108 hl (k := 0) rfl (by decide) (by decide) rfl (fun ls hl => ?_)
    refine lv_goto (tgt := 87) hx hb md_Mo_tell_111 (by decide) ?_
    refine lv_iload hx hb md_Mo_tell_87 (lv_at hl 0 rfl) ?_
    refine lv_if_le (tgt := 114) hx hb md_Mo_tell_89 (by decide) (fun c_17 => absurd c_17 (by decide)) (fun _ => ?_)
    refine lv_aload_n hx hb md_Mo_tell_92 rfl (lv_at hl 1 rfl) ?_
    refine fw_getr hx hb hts i_Mo hown hK hP (mm_0 (by decide)) (mk_0 0) rfl 48 (by decide) (hts _ L_Mo_152) (fun _ h9 => h9) rfl md_Mo_tell_93 ?_
    refine lv_iload hx hb md_Mo_tell_96 (lv_at hl 0 rfl) ?_
    refine lv_aload_n hx hb md_Mo_tell_98 rfl (lv_at hl 1 rfl) ?_
    refine fw_getr hx hb hts i_Mo hown hK hP (mm_0 (by decide)) (mk_0 0) rfl 48 (by decide) (hts _ L_Mo_152) (fun _ h9 => h9) rfl md_Mo_tell_99 ?_
    refine lv_iload hx hb md_Mo_tell_102 (lv_at hl 0 rfl) ?_
    refine lv_iconst (v := (1 : Int32)) hx hb md_Mo_tell_104 (by decide) ?_
    refine lv_isub hx hb md_Mo_tell_105 ?_
    refine fw_top (y := (0 : Int32)) (by decide) ?_
    refine fw_iald hx hb hK hP (mm_49 (by decide)) (mk_49 0) 0 rfl (j := 0) (by decide) (fw_inc (by decide)) md_Mo_tell_106 ?_
    refine fw_iast hx hb hK hD hP hS (mm_49 (by decide)) (mk_49 0) 0 rfl (j := 1) (by decide) (fw_inc (by decide)) md_Mo_tell_107 (fun v18 H locs ev18 hP hS => ?_)
    have hI : mI b v18 := by rw [ev18]; exact mI_up hI trivial trivial
    refine lv_iinc (v := (0 : Int32)) (lv' := [(5, .int (0 : Int32)), (0, .ref (ad 0 0)), (1, .int (0 : Int32)), (3, .int x3), (4, .int x4)]) hx hb md_Mo_tell_108 hl (k := 0) rfl (by decide) (by decide) rfl (fun ls hl => ?_)
    refine lv_goto (tgt := 87) hx hb md_Mo_tell_111 (by decide) ?_
    refine lv_iload hx hb md_Mo_tell_87 (lv_at hl 0 rfl) ?_
    refine lv_if_le (tgt := 114) hx hb md_Mo_tell_89 (by decide) (fun _ => ?_) (fun c_19 => absurd (by decide) c_19)
    refine lv_aload_n hx hb md_Mo_tell_114 rfl (lv_at hl 1 rfl) ?_
    refine fw_getr hx hb hts i_Mo hown hK hP (mm_0 (by decide)) (mk_0 0) rfl 48 (by decide) (hts _ L_Mo_152) (fun _ h9 => h9) rfl md_Mo_tell_115 ?_
    refine lv_iconst (v := (0 : Int32)) hx hb md_Mo_tell_118 (by decide) ?_
    refine lv_bipush (v := (64 : Int32)) hx hb md_Mo_tell_119 (by decide) ?_
    refine lv_iload_n hx hb md_Mo_tell_121 rfl (lv_at hl 2 rfl) ?_
    refine lv_imul hx hb md_Mo_tell_122 ?_
    refine fw_top (y := (0 : Int32)) (by decide) ?_
    refine lv_bipush (v := (16 : Int32)) hx hb md_Mo_tell_123 (by decide) ?_
    refine lv_iload_n hx hb md_Mo_tell_125 rfl (lv_at hl 3 rfl) ?_
    refine lv_imul hx hb md_Mo_tell_126 ?_
    refine lv_iadd hx hb md_Mo_tell_127 ?_
    refine lv_iload hx hb md_Mo_tell_128 (lv_at hl 4 rfl) ?_
    refine lv_iadd hx hb md_Mo_tell_130 ?_
    refine fw_iast hx hb hK hD hP hS (mm_49 (by decide)) (mk_49 0) 0 rfl (j := 0) (by decide) (fw_inc (by decide)) md_Mo_tell_131 (fun v20 H locs ev20 hP hS => ?_)
    have hI : mI b v20 := by rw [ev20]; exact mI_up hI trivial trivial
    refine lv_aload_n hx hb md_Mo_tell_132 rfl (lv_at hl 1 rfl) ?_
    refine lv_dup hx hb md_Mo_tell_133 rfl ?_
    refine fw_geti hx hb hts i_Mo hown hK hP (mm_0 (by decide)) (mk_0 0) rfl 55 (by decide) (hts _ L_Mo_232) (fun _ h9 => h9) rfl md_Mo_tell_134 ?_
    refine lv_iconst (v := (1 : Int32)) hx hb md_Mo_tell_137 (by decide) ?_
    refine lv_iadd hx hb md_Mo_tell_138 ?_
    refine fw_puti hx hb hts i_Mo t_Mo t_Mo_ok n_Mo hown hK hD hP hS (mm_0 (by decide)) (mk_0 0) rfl 55 (by decide) (hts _ L_Mo_232) (fun _ h9 => h9) rfl fw_pdI rfl rfl rfl md_Mo_tell_139 (fun v21 H locs ev21 hP hS => ?_)
    have hI : mI b v21 := by rw [ev21]; exact mI_up hI trivial trivial
    exact fw_vret hx hb hr hlocks hS hP hI md_Mo_tell_142 (by rw [hj]; subst ev4 ev6 ev8 ev10 ev12 ev14 ev16 ev18 ev20 ev21; simp only [mf_Mo_tell_0_j2])
  have J1 : ∀ (v : fw_V) (x3 : Int32) (x4 : Int32) (H : Heap) (locs : List Loc) (ls : Array Slot), mf_Mo_tell_0 v0 a2 = mf_Mo_tell_0_j1 v a2 x3 x4 → vp_in x3 3 → mI b v → va_P D vcls (fw_w mCL cA mkd ad v) H → va_S (fw_A mCL ad) s.heap H locs → lv_has ls 6 [(0, .ref (ad 0 0)), (1, .int (0 : Int32)), (3, .int x3), (4, .int x4)] → W p l e (headSpec (Cond.code my_Mo_tell mb_Mo_tell 6 none :: vTB) mrm_Mo_tell).room s m ([.ref (ad 0 0), .int (0 : Int32), .int a2] : List Value).toArray below meth c H locs 0 0 (MQ below (fw_Qv D vcls mCL cA mkd ad (mI b) (mf_Mo_tell_0 v0 a2)) ([.ref (ad 0 0), .int (0 : Int32), .int a2] : List Value).toArray s 0 0 (fw_A mCL ad)) (F0 m 70 ls [.int (0 : Int32), .ref (ad 16 0)]) := by
    intro v x3 x4 H locs ls hj hc0 hI hP hS hl
    refine lv_aload_n hx hb md_Mo_tell_70 rfl (lv_at hl 0 rfl) ?_
    refine fw_getr hx hb hts i_Mo hown hK hP (mm_0 (by decide)) (mk_0 0) rfl 15 (by decide) (hts _ L_Mo_53) (fun _ h9 => h9) rfl md_Mo_tell_71 ?_
    refine lv_iload_n hx hb md_Mo_tell_74 rfl (lv_at hl 1 rfl) ?_
    refine fw_iald hx hb hK hP (mm_16 (by decide)) (mk_16 0) 0 rfl (j := 0) (by decide) (fw_inc (by decide)) md_Mo_tell_75 ?_
    refine lv_iconst (v := (1 : Int32)) hx hb md_Mo_tell_76 (by decide) ?_
    refine lv_iload_n hx hb md_Mo_tell_77 rfl (lv_at hl 2 rfl) ?_
    refine lv_ishl hx hb md_Mo_tell_78 ?_
    refine lv_iconst (v := (-1 : Int32)) hx hb md_Mo_tell_79 (by decide) ?_
    refine lv_ixor hx hb md_Mo_tell_80 ?_
    refine lv_iand hx hb md_Mo_tell_81 ?_
    exact J2 v (x3) (x4) (((v 16 0 0) &&& (((1 : Int32) <<< (x3 &&& 31)) ^^^ (-1 : Int32)))) _ _ _ (by rw [hj]; simp only [mf_Mo_tell_0_j1]) hc0  hI hP hS (lv_sub hl [0, 1, 2, 3] rfl)
  skip
  have hl := lv_entry ([.ref (ad 0 0), .int (0 : Int32), .int a2]) (n := 6) (Nat.le_of_ble_eq_true rfl)
  rw [lg_entry_eq]
  generalize (lg_sl ([.ref (ad 0 0), .int (0 : Int32), .int a2]) ++ List.replicate (6 - (lg_sl ([.ref (ad 0 0), .int (0 : Int32), .int a2])).length) Slot.unset).toArray = ls at hl ⊢
  have hl : lv_has ls 6 [(0, .ref (ad 0 0)), (1, .int (0 : Int32)), (2, .int a2)] := hl
  refine lv_aload_n hx hb md_Mo_tell_0 rfl (lv_at hl 0 rfl) ?_
  refine fw_getr hx hb hts i_Mo hown hK hP (mm_0 (by decide)) (mk_0 0) rfl 9 (by decide) (hts _ L_Mo_38) (fun _ h9 => h9) rfl md_Mo_tell_1 ?_
  refine lv_iconst (v := (0 : Int32)) hx hb md_Mo_tell_4 (by decide) ?_
  refine fw_iald hx hb hK hP (mm_10 (by decide)) (mk_10 0) 0 rfl (j := 0) (by decide) (fw_inc (by decide)) md_Mo_tell_5 ?_
  refine lv_istore_n (lv' := [(3, .int (v0 10 0 0)), (0, .ref (ad 0 0)), (1, .int (0 : Int32)), (2, .int a2)]) hx hb md_Mo_tell_6 rfl hl (by decide) rfl (fun ls hl => ?_)
  refine lv_aload_n hx hb md_Mo_tell_7 rfl (lv_at hl 1 rfl) ?_
  refine fw_getr hx hb hts i_Mo hown hK hP (mm_0 (by decide)) (mk_0 0) rfl 9 (by decide) (hts _ L_Mo_38) (fun _ h9 => h9) rfl md_Mo_tell_8 ?_
  refine lv_iconst (v := (1 : Int32)) hx hb md_Mo_tell_11 (by decide) ?_
  refine fw_iald hx hb hK hP (mm_10 (by decide)) (mk_10 0) 0 rfl (j := 1) (by decide) (fw_inc (by decide)) md_Mo_tell_12 ?_
  refine lv_istore (lv' := [(4, .int (v0 10 0 1)), (3, .int (v0 10 0 0)), (0, .ref (ad 0 0)), (1, .int (0 : Int32)), (2, .int a2)]) hx hb md_Mo_tell_13 hl (by decide) rfl (fun ls hl => ?_)
  refine lv_aload_n hx hb md_Mo_tell_15 rfl (lv_at hl 2 rfl) ?_
  refine fw_getr hx hb hts i_Mo hown hK hP (mm_0 (by decide)) (mk_0 0) rfl 22 (by decide) (hts _ L_Mo_74) (fun _ h9 => h9) rfl md_Mo_tell_16 ?_
  refine lv_iload_n hx hb md_Mo_tell_19 rfl (lv_at hl 3 rfl) ?_
  refine lv_iload_n hx hb md_Mo_tell_20 rfl (lv_at hl 4 rfl) ?_
  refine fw_iast hx hb hK hD hP hS (mm_23 (by decide)) (mk_23 0) 0 rfl (j := 0) (by decide) (fw_inc (by decide)) md_Mo_tell_21 (fun v1 H locs ev1 hP hS => ?_)
  have hI : mI b v1 := by rw [ev1]; exact mI_up hI trivial trivial
  refine lv_aload_n hx hb md_Mo_tell_22 rfl (lv_at hl 2 rfl) ?_
  refine fw_getr hx hb hts i_Mo hown hK hP (mm_0 (by decide)) (mk_0 0) rfl 15 (by decide) (hts _ L_Mo_53) (fun _ h9 => h9) rfl md_Mo_tell_23 ?_
  refine lv_iload_n hx hb md_Mo_tell_26 rfl (lv_at hl 3 rfl) ?_
  refine lv_aload_n hx hb md_Mo_tell_27 rfl (lv_at hl 2 rfl) ?_
  refine fw_getr hx hb hts i_Mo hown hK hP (mm_0 (by decide)) (mk_0 0) rfl 23 (by decide) (hts _ L_Mo_77) (fun _ h9 => h9) rfl md_Mo_tell_28 ?_
  refine lv_iconst (v := (3 : Int32)) hx hb md_Mo_tell_31 (by decide) ?_
  refine lv_iload_n hx hb md_Mo_tell_32 rfl (lv_at hl 3 rfl) ?_
  refine lv_imul hx hb md_Mo_tell_33 ?_
  refine fw_top (y := (0 : Int32)) (by decide) ?_
  refine lv_iload_n hx hb md_Mo_tell_34 rfl (lv_at hl 1 rfl) ?_
  refine lv_iadd hx hb md_Mo_tell_35 ?_
  refine fw_iald hx hb hK hP (mm_24 (by decide)) (mk_24 0) 0 rfl (j := ((0 : Int32) + (v0 10 0 0)).toNatClampNeg) rfl (fw_inm (fw_inadd2 (n := 1) (m := 3) (t := 3) (fw_inc (by decide)) hq0 (by decide)) (by decide)) md_Mo_tell_36 ?_
  have h_2 : vp_in ((v1 24 0 ((0 : Int32) + (v0 10 0 0)).toNatClampNeg) + 1) 9 := hI.1 24 0 (((0 : Int32) + (v0 10 0 0)).toNatClampNeg)
  refine lv_if_lt (tgt := 70) hx hb md_Mo_tell_37 (by decide) (fun c_3 => ?_) (fun c_3 => ?_)
  · exact J1 v1 ((v0 10 0 0)) ((v0 10 0 1)) _ _ _ (by subst ev1; simp only [mf_Mo_tell_0, if_pos c_3]) hq0  hI hP hS (lv_sub hl [2, 3, 1, 0] rfl)
  · have h_22 : vp_in (v1 24 0 ((0 : Int32) + (v0 10 0 0)).toNatClampNeg) 8 := fw_m8 h_2 c_3
    refine lv_iload hx hb md_Mo_tell_40 (lv_at hl 0 rfl) ?_
    refine lv_aload_n hx hb md_Mo_tell_42 rfl (lv_at hl 2 rfl) ?_
    refine fw_getr hx hb hts i_Mo hown hK hP (mm_0 (by decide)) (mk_0 0) rfl 23 (by decide) (hts _ L_Mo_77) (fun _ h9 => h9) rfl md_Mo_tell_43 ?_
    refine lv_iconst (v := (3 : Int32)) hx hb md_Mo_tell_46 (by decide) ?_
    refine lv_iload_n hx hb md_Mo_tell_47 rfl (lv_at hl 3 rfl) ?_
    refine lv_imul hx hb md_Mo_tell_48 ?_
    refine fw_top (y := (0 : Int32)) (by decide) ?_
    refine lv_iload_n hx hb md_Mo_tell_49 rfl (lv_at hl 1 rfl) ?_
    refine lv_iadd hx hb md_Mo_tell_50 ?_
    refine fw_iald hx hb hK hP (mm_24 (by decide)) (mk_24 0) 0 rfl (j := ((0 : Int32) + (v0 10 0 0)).toNatClampNeg) rfl (fw_inm (fw_inadd2 (n := 1) (m := 3) (t := 3) (fw_inc (by decide)) hq0 (by decide)) (by decide)) md_Mo_tell_51 ?_
    refine lv_iconst (v := (1 : Int32)) hx hb md_Mo_tell_52 (by decide) ?_
    refine lv_iadd hx hb md_Mo_tell_53 ?_
    refine lv_icmp_eq (tgt := 70) hx hb md_Mo_tell_54 (by decide) (fun c_23 => ?_) (fun c_23 => ?_)
    · exact J1 v1 ((v0 10 0 0)) ((v0 10 0 1)) _ _ _ (by subst ev1; simp only [mf_Mo_tell_0, if_neg c_3, if_pos c_23]) hq0  hI hP hS (lv_sub hl [2, 3, 1, 0] rfl)
    · refine lv_aload_n hx hb md_Mo_tell_57 rfl (lv_at hl 2 rfl) ?_
      refine fw_getr hx hb hts i_Mo hown hK hP (mm_0 (by decide)) (mk_0 0) rfl 15 (by decide) (hts _ L_Mo_53) (fun _ h9 => h9) rfl md_Mo_tell_58 ?_
      refine lv_iload_n hx hb md_Mo_tell_61 rfl (lv_at hl 3 rfl) ?_
      refine fw_iald hx hb hK hP (mm_16 (by decide)) (mk_16 0) 0 rfl (j := 0) (by decide) (fw_inc (by decide)) md_Mo_tell_62 ?_
      refine lv_iconst (v := (1 : Int32)) hx hb md_Mo_tell_63 (by decide) ?_
      refine lv_iload_n hx hb md_Mo_tell_64 rfl (lv_at hl 1 rfl) ?_
      refine lv_ishl hx hb md_Mo_tell_65 ?_
      refine lv_ior hx hb md_Mo_tell_66 ?_
      refine lv_goto (tgt := 82) hx hb md_Mo_tell_67 (by decide) ?_
      exact J2 v1 ((v0 10 0 0)) ((v0 10 0 1)) (((v1 16 0 0) ||| ((1 : Int32) <<< ((v0 10 0 0) &&& 31)))) _ _ _ (by subst ev1; simp only [mf_Mo_tell_0, if_neg c_3, if_neg c_23]) hq0  hI hP hS (lv_sub hl [2, 3, 1, 0] rfl)
def mf_Mo_tell_1_j2 (v : fw_V) (a2 : Int32) (x3 : Int32) (x4 : Int32) (x90 : Int32) : fw_V :=
  let v4 := fw_up v 16 0 (1) x90
  let v6 := fw_up v4 49 0 (7) (v4 49 0 6)
  let v8 := fw_up v6 49 0 (6) (v6 49 0 5)
  let v10 := fw_up v8 49 0 (5) (v8 49 0 4)
  let v12 := fw_up v10 49 0 (4) (v10 49 0 3)
  let v14 := fw_up v12 49 0 (3) (v12 49 0 2)
  let v16 := fw_up v14 49 0 (2) (v14 49 0 1)
  let v18 := fw_up v16 49 0 (1) (v16 49 0 0)
  let v20 := fw_up v18 49 0 (0) (((64 : Int32) + ((16 : Int32) * x3)) + x4)
  let v21 := fw_up v20 0 0 55 ((v20 0 0 55) + (1 : Int32))
  v21
def mf_Mo_tell_1_j1 (v : fw_V) (a2 : Int32) (x3 : Int32) (x4 : Int32) : fw_V :=
  mf_Mo_tell_1_j2 v a2 (x3) (x4) (((v 16 0 1) &&& (((1 : Int32) <<< (x3 &&& 31)) ^^^ (-1 : Int32))))
def mf_Mo_tell_1 (v0 : fw_V) (a2 : Int32) : fw_V :=
  let v1 := fw_up v0 23 0 (1) a2
  if (v1 24 0 ((3 : Int32) + (v0 10 0 0)).toNatClampNeg) < (0 : Int32) then
    mf_Mo_tell_1_j1 v1 a2 ((v0 10 0 0)) ((v0 10 0 1))
  else
    if (v0 10 0 1) = ((v1 24 0 ((3 : Int32) + (v0 10 0 0)).toNatClampNeg) + (1 : Int32)) then
      mf_Mo_tell_1_j1 v1 a2 ((v0 10 0 0)) ((v0 10 0 1))
    else
      mf_Mo_tell_1_j2 v1 a2 ((v0 10 0 0)) ((v0 10 0 1)) (((v1 16 0 1) ||| ((1 : Int32) <<< ((v0 10 0 0) &&& 31))))

theorem mca_Mo_tell_1_j2 {v : fw_V} {a2 : Int32} {x3 : Int32} {x4 : Int32} {x90 : Int32} {i k : Nat} : mf_Mo_tell_1_j2 v a2 x3 x4 x90 10 i k = v 10 i k := by
  unfold mf_Mo_tell_1_j2
  try dsimp only
  all_goals ((repeat' split) <;> simp [fw_up, fw_row])
theorem mca_Mo_tell_1_j1 {v : fw_V} {a2 : Int32} {x3 : Int32} {x4 : Int32} {i k : Nat} : mf_Mo_tell_1_j1 v a2 x3 x4 10 i k = v 10 i k := by
  unfold mf_Mo_tell_1_j1
  try dsimp only
  all_goals ((repeat' split) <;> simp [fw_up, fw_row, mca_Mo_tell_1_j2])
theorem mca_Mo_tell_1 {v0 : fw_V} {a2 : Int32} {i k : Nat} : mf_Mo_tell_1 v0 a2 10 i k = v0 10 i k := by
  unfold mf_Mo_tell_1
  try dsimp only
  all_goals ((repeat' split) <;> simp [fw_up, fw_row, mca_Mo_tell_1_j1, mca_Mo_tell_1_j2])
set_option maxHeartbeats 4000000 in
set_option maxRecDepth 100000 in
theorem mc_Mo_tell_1 (l : Launch) {D : va_G} {cA : Nat → ClassId} {ad : Nat → Nat → Nat} (hD : fw_D mCL ad) {b : Nat} (v0 : fw_V) (hI : mI b v0) (a2 : Int32) (hq0 : vp_in (v0 10 0 0) 3) : Met l my_Mo_tell (Cond.code my_Mo_tell mb_Mo_tell 6 none :: vTB) mrm_Mo_tell (fw_Pc vNL D vcls (vtys cA) mCL cA mkd ad v0 [.ref (ad 0 0), .int (1 : Int32), .int a2]) (fw_Qv D vcls mCL cA mkd ad (mI b) (mf_Mo_tell_1 v0 a2)) 0 0 (fw_A mCL ad) := by
  refine Met.ofW (cc := mb_Mo_tell) (maxL := 6) (ret := none) (by decide) rfl ?_
  intro p e s m args below meth c s₁ B hml hv
  obtain ⟨rfl, hP, hK, hN⟩ := hv
  have hx := B.exec
  have hb := B.bytes
  have hr := B.returns
  have hts : ∀ w ∈ vTB, w.before ([.ref (ad 0 0), .int (1 : Int32), .int a2] : List Value).toArray s = true := fun w h => atoms_spec (ws := (Cond.code my_Mo_tell mb_Mo_tell 6 none :: vTB)) B.pre w (List.mem_cons_of_mem _ h)
  have hown : s.vm.findClass R_Mo = some m.cls := findClass_of_methodNamed B.named
  have hlocks := B.notSynchronized
  have hS : va_S (fw_A mCL ad) s.heap s.heap [] := va_S.rf
  have J2 : ∀ (v : fw_V) (x3 : Int32) (x4 : Int32) (x90 : Int32) (H : Heap) (locs : List Loc) (ls : Array Slot), mf_Mo_tell_1 v0 a2 = mf_Mo_tell_1_j2 v a2 x3 x4 x90 → vp_in x3 3 → mI b v → va_P D vcls (fw_w mCL cA mkd ad v) H → va_S (fw_A mCL ad) s.heap H locs → lv_has ls 6 [(0, .ref (ad 0 0)), (1, .int (1 : Int32)), (3, .int x3), (4, .int x4)] → W p l e (headSpec (Cond.code my_Mo_tell mb_Mo_tell 6 none :: vTB) mrm_Mo_tell).room s m ([.ref (ad 0 0), .int (1 : Int32), .int a2] : List Value).toArray below meth c H locs 0 0 (MQ below (fw_Qv D vcls mCL cA mkd ad (mI b) (mf_Mo_tell_1 v0 a2)) ([.ref (ad 0 0), .int (1 : Int32), .int a2] : List Value).toArray s 0 0 (fw_A mCL ad)) (F0 m 82 ls [.int x90, .int (1 : Int32), .ref (ad 16 0)]) := by
    intro v x3 x4 x90 H locs ls hj hc0 hI hP hS hl
    refine fw_iast hx hb hK hD hP hS (mm_16 (by decide)) (mk_16 0) 0 rfl (j := 1) (by decide) (fw_inc (by decide)) md_Mo_tell_82 (fun v4 H locs ev4 hP hS => ?_)
    have hI : mI b v4 := by rw [ev4]; exact mI_up hI trivial trivial
    refine lv_bipush (v := (7 : Int32)) hx hb md_Mo_tell_83 (by decide) ?_
    refine lv_istore (lv' := [(5, .int (7 : Int32)), (0, .ref (ad 0 0)), (1, .int (1 : Int32)), (3, .int x3), (4, .int x4)]) hx hb md_Mo_tell_85 hl (by decide) rfl (fun ls hl => ?_)
    refine lv_iload hx hb md_Mo_tell_87 (lv_at hl 0 rfl) ?_
    refine lv_if_le (tgt := 114) hx hb md_Mo_tell_89 (by decide) (fun c_5 => absurd c_5 (by decide)) (fun _ => ?_)
    refine lv_aload_n hx hb md_Mo_tell_92 rfl (lv_at hl 1 rfl) ?_
    refine fw_getr hx hb hts i_Mo hown hK hP (mm_0 (by decide)) (mk_0 0) rfl 48 (by decide) (hts _ L_Mo_152) (fun _ h9 => h9) rfl md_Mo_tell_93 ?_
    refine lv_iload hx hb md_Mo_tell_96 (lv_at hl 0 rfl) ?_
    refine lv_aload_n hx hb md_Mo_tell_98 rfl (lv_at hl 1 rfl) ?_
    refine fw_getr hx hb hts i_Mo hown hK hP (mm_0 (by decide)) (mk_0 0) rfl 48 (by decide) (hts _ L_Mo_152) (fun _ h9 => h9) rfl md_Mo_tell_99 ?_
    refine lv_iload hx hb md_Mo_tell_102 (lv_at hl 0 rfl) ?_
    refine lv_iconst (v := (1 : Int32)) hx hb md_Mo_tell_104 (by decide) ?_
    refine lv_isub hx hb md_Mo_tell_105 ?_
    refine fw_top (y := (6 : Int32)) (by decide) ?_
    refine fw_iald hx hb hK hP (mm_49 (by decide)) (mk_49 0) 0 rfl (j := 6) (by decide) (fw_inc (by decide)) md_Mo_tell_106 ?_
    refine fw_iast hx hb hK hD hP hS (mm_49 (by decide)) (mk_49 0) 0 rfl (j := 7) (by decide) (fw_inc (by decide)) md_Mo_tell_107 (fun v6 H locs ev6 hP hS => ?_)
    have hI : mI b v6 := by rw [ev6]; exact mI_up hI trivial trivial
    refine lv_iinc (v := (6 : Int32)) (lv' := [(5, .int (6 : Int32)), (0, .ref (ad 0 0)), (1, .int (1 : Int32)), (3, .int x3), (4, .int x4)]) hx hb md_Mo_tell_108 hl (k := 0) rfl (by decide) (by decide) rfl (fun ls hl => ?_)
    refine lv_goto (tgt := 87) hx hb md_Mo_tell_111 (by decide) ?_
    refine lv_iload hx hb md_Mo_tell_87 (lv_at hl 0 rfl) ?_
    refine lv_if_le (tgt := 114) hx hb md_Mo_tell_89 (by decide) (fun c_7 => absurd c_7 (by decide)) (fun _ => ?_)
    refine lv_aload_n hx hb md_Mo_tell_92 rfl (lv_at hl 1 rfl) ?_
    refine fw_getr hx hb hts i_Mo hown hK hP (mm_0 (by decide)) (mk_0 0) rfl 48 (by decide) (hts _ L_Mo_152) (fun _ h9 => h9) rfl md_Mo_tell_93 ?_
    refine lv_iload hx hb md_Mo_tell_96 (lv_at hl 0 rfl) ?_
    refine lv_aload_n hx hb md_Mo_tell_98 rfl (lv_at hl 1 rfl) ?_
    refine fw_getr hx hb hts i_Mo hown hK hP (mm_0 (by decide)) (mk_0 0) rfl 48 (by decide) (hts _ L_Mo_152) (fun _ h9 => h9) rfl md_Mo_tell_99 ?_
    refine lv_iload hx hb md_Mo_tell_102 (lv_at hl 0 rfl) ?_
    refine lv_iconst (v := (1 : Int32)) hx hb md_Mo_tell_104 (by decide) ?_
    refine lv_isub hx hb md_Mo_tell_105 ?_
    refine fw_top (y := (5 : Int32)) (by decide) ?_
    refine fw_iald hx hb hK hP (mm_49 (by decide)) (mk_49 0) 0 rfl (j := 5) (by decide) (fw_inc (by decide)) md_Mo_tell_106 ?_
    refine fw_iast hx hb hK hD hP hS (mm_49 (by decide)) (mk_49 0) 0 rfl (j := 6) (by decide) (fw_inc (by decide)) md_Mo_tell_107 (fun v8 H locs ev8 hP hS => ?_)
    have hI : mI b v8 := by rw [ev8]; exact mI_up hI trivial trivial
    refine lv_iinc (v := (5 : Int32)) (lv' := [(5, .int (5 : Int32)), (0, .ref (ad 0 0)), (1, .int (1 : Int32)), (3, .int x3), (4, .int x4)]) hx hb md_Mo_tell_108 hl (k := 0) rfl (by decide) (by decide) rfl (fun ls hl => ?_)
    refine lv_goto (tgt := 87) hx hb md_Mo_tell_111 (by decide) ?_
    refine lv_iload hx hb md_Mo_tell_87 (lv_at hl 0 rfl) ?_
    refine lv_if_le (tgt := 114) hx hb md_Mo_tell_89 (by decide) (fun c_9 => absurd c_9 (by decide)) (fun _ => ?_)
    refine lv_aload_n hx hb md_Mo_tell_92 rfl (lv_at hl 1 rfl) ?_
    refine fw_getr hx hb hts i_Mo hown hK hP (mm_0 (by decide)) (mk_0 0) rfl 48 (by decide) (hts _ L_Mo_152) (fun _ h9 => h9) rfl md_Mo_tell_93 ?_
    refine lv_iload hx hb md_Mo_tell_96 (lv_at hl 0 rfl) ?_
    refine lv_aload_n hx hb md_Mo_tell_98 rfl (lv_at hl 1 rfl) ?_
    refine fw_getr hx hb hts i_Mo hown hK hP (mm_0 (by decide)) (mk_0 0) rfl 48 (by decide) (hts _ L_Mo_152) (fun _ h9 => h9) rfl md_Mo_tell_99 ?_
    refine lv_iload hx hb md_Mo_tell_102 (lv_at hl 0 rfl) ?_
    refine lv_iconst (v := (1 : Int32)) hx hb md_Mo_tell_104 (by decide) ?_
    refine lv_isub hx hb md_Mo_tell_105 ?_
    refine fw_top (y := (4 : Int32)) (by decide) ?_
    refine fw_iald hx hb hK hP (mm_49 (by decide)) (mk_49 0) 0 rfl (j := 4) (by decide) (fw_inc (by decide)) md_Mo_tell_106 ?_
    refine fw_iast hx hb hK hD hP hS (mm_49 (by decide)) (mk_49 0) 0 rfl (j := 5) (by decide) (fw_inc (by decide)) md_Mo_tell_107 (fun v10 H locs ev10 hP hS => ?_)
    have hI : mI b v10 := by rw [ev10]; exact mI_up hI trivial trivial
    refine lv_iinc (v := (4 : Int32)) (lv' := [(5, .int (4 : Int32)), (0, .ref (ad 0 0)), (1, .int (1 : Int32)), (3, .int x3), (4, .int x4)]) hx hb md_Mo_tell_108 hl (k := 0) rfl (by decide) (by decide) rfl (fun ls hl => ?_)
    refine lv_goto (tgt := 87) hx hb md_Mo_tell_111 (by decide) ?_
    refine lv_iload hx hb md_Mo_tell_87 (lv_at hl 0 rfl) ?_
    refine lv_if_le (tgt := 114) hx hb md_Mo_tell_89 (by decide) (fun c_11 => absurd c_11 (by decide)) (fun _ => ?_)
    refine lv_aload_n hx hb md_Mo_tell_92 rfl (lv_at hl 1 rfl) ?_
    refine fw_getr hx hb hts i_Mo hown hK hP (mm_0 (by decide)) (mk_0 0) rfl 48 (by decide) (hts _ L_Mo_152) (fun _ h9 => h9) rfl md_Mo_tell_93 ?_
    refine lv_iload hx hb md_Mo_tell_96 (lv_at hl 0 rfl) ?_
    refine lv_aload_n hx hb md_Mo_tell_98 rfl (lv_at hl 1 rfl) ?_
    refine fw_getr hx hb hts i_Mo hown hK hP (mm_0 (by decide)) (mk_0 0) rfl 48 (by decide) (hts _ L_Mo_152) (fun _ h9 => h9) rfl md_Mo_tell_99 ?_
    refine lv_iload hx hb md_Mo_tell_102 (lv_at hl 0 rfl) ?_
    refine lv_iconst (v := (1 : Int32)) hx hb md_Mo_tell_104 (by decide) ?_
    refine lv_isub hx hb md_Mo_tell_105 ?_
    refine fw_top (y := (3 : Int32)) (by decide) ?_
    refine fw_iald hx hb hK hP (mm_49 (by decide)) (mk_49 0) 0 rfl (j := 3) (by decide) (fw_inc (by decide)) md_Mo_tell_106 ?_
    refine fw_iast hx hb hK hD hP hS (mm_49 (by decide)) (mk_49 0) 0 rfl (j := 4) (by decide) (fw_inc (by decide)) md_Mo_tell_107 (fun v12 H locs ev12 hP hS => ?_)
    have hI : mI b v12 := by rw [ev12]; exact mI_up hI trivial trivial
    refine lv_iinc (v := (3 : Int32)) (lv' := [(5, .int (3 : Int32)), (0, .ref (ad 0 0)), (1, .int (1 : Int32)), (3, .int x3), (4, .int x4)]) hx hb md_Mo_tell_108 hl (k := 0) rfl (by decide) (by decide) rfl (fun ls hl => ?_)
    refine lv_goto (tgt := 87) hx hb md_Mo_tell_111 (by decide) ?_
    refine lv_iload hx hb md_Mo_tell_87 (lv_at hl 0 rfl) ?_
    refine lv_if_le (tgt := 114) hx hb md_Mo_tell_89 (by decide) (fun c_13 => absurd c_13 (by decide)) (fun _ => ?_)
    refine lv_aload_n hx hb md_Mo_tell_92 rfl (lv_at hl 1 rfl) ?_
    refine fw_getr hx hb hts i_Mo hown hK hP (mm_0 (by decide)) (mk_0 0) rfl 48 (by decide) (hts _ L_Mo_152) (fun _ h9 => h9) rfl md_Mo_tell_93 ?_
    refine lv_iload hx hb md_Mo_tell_96 (lv_at hl 0 rfl) ?_
    refine lv_aload_n hx hb md_Mo_tell_98 rfl (lv_at hl 1 rfl) ?_
    refine fw_getr hx hb hts i_Mo hown hK hP (mm_0 (by decide)) (mk_0 0) rfl 48 (by decide) (hts _ L_Mo_152) (fun _ h9 => h9) rfl md_Mo_tell_99 ?_
    refine lv_iload hx hb md_Mo_tell_102 (lv_at hl 0 rfl) ?_
    refine lv_iconst (v := (1 : Int32)) hx hb md_Mo_tell_104 (by decide) ?_
    refine lv_isub hx hb md_Mo_tell_105 ?_
    refine fw_top (y := (2 : Int32)) (by decide) ?_
    refine fw_iald hx hb hK hP (mm_49 (by decide)) (mk_49 0) 0 rfl (j := 2) (by decide) (fw_inc (by decide)) md_Mo_tell_106 ?_
    refine fw_iast hx hb hK hD hP hS (mm_49 (by decide)) (mk_49 0) 0 rfl (j := 3) (by decide) (fw_inc (by decide)) md_Mo_tell_107 (fun v14 H locs ev14 hP hS => ?_)
    have hI : mI b v14 := by rw [ev14]; exact mI_up hI trivial trivial
    refine lv_iinc (v := (2 : Int32)) (lv' := [(5, .int (2 : Int32)), (0, .ref (ad 0 0)), (1, .int (1 : Int32)), (3, .int x3), (4, .int x4)]) hx hb md_Mo_tell_108 hl (k := 0) rfl (by decide) (by decide) rfl (fun ls hl => ?_)
    refine lv_goto (tgt := 87) hx hb md_Mo_tell_111 (by decide) ?_
    refine lv_iload hx hb md_Mo_tell_87 (lv_at hl 0 rfl) ?_
    refine lv_if_le (tgt := 114) hx hb md_Mo_tell_89 (by decide) (fun c_15 => absurd c_15 (by decide)) (fun _ => ?_)
    refine lv_aload_n hx hb md_Mo_tell_92 rfl (lv_at hl 1 rfl) ?_
    refine fw_getr hx hb hts i_Mo hown hK hP (mm_0 (by decide)) (mk_0 0) rfl 48 (by decide) (hts _ L_Mo_152) (fun _ h9 => h9) rfl md_Mo_tell_93 ?_
    refine lv_iload hx hb md_Mo_tell_96 (lv_at hl 0 rfl) ?_
    refine lv_aload_n hx hb md_Mo_tell_98 rfl (lv_at hl 1 rfl) ?_
    refine fw_getr hx hb hts i_Mo hown hK hP (mm_0 (by decide)) (mk_0 0) rfl 48 (by decide) (hts _ L_Mo_152) (fun _ h9 => h9) rfl md_Mo_tell_99 ?_
    refine lv_iload hx hb md_Mo_tell_102 (lv_at hl 0 rfl) ?_
    refine lv_iconst (v := (1 : Int32)) hx hb md_Mo_tell_104 (by decide) ?_
    refine lv_isub hx hb md_Mo_tell_105 ?_
    refine fw_top (y := (1 : Int32)) (by decide) ?_
    refine fw_iald hx hb hK hP (mm_49 (by decide)) (mk_49 0) 0 rfl (j := 1) (by decide) (fw_inc (by decide)) md_Mo_tell_106 ?_
    refine fw_iast hx hb hK hD hP hS (mm_49 (by decide)) (mk_49 0) 0 rfl (j := 2) (by decide) (fw_inc (by decide)) md_Mo_tell_107 (fun v16 H locs ev16 hP hS => ?_)
    have hI : mI b v16 := by rw [ev16]; exact mI_up hI trivial trivial
    refine lv_iinc (v := (1 : Int32)) (lv' := [(5, .int (1 : Int32)), (0, .ref (ad 0 0)), (1, .int (1 : Int32)), (3, .int x3), (4, .int x4)]) hx hb md_Mo_tell_108 hl (k := 0) rfl (by decide) (by decide) rfl (fun ls hl => ?_)
    refine lv_goto (tgt := 87) hx hb md_Mo_tell_111 (by decide) ?_
    refine lv_iload hx hb md_Mo_tell_87 (lv_at hl 0 rfl) ?_
    refine lv_if_le (tgt := 114) hx hb md_Mo_tell_89 (by decide) (fun c_17 => absurd c_17 (by decide)) (fun _ => ?_)
    refine lv_aload_n hx hb md_Mo_tell_92 rfl (lv_at hl 1 rfl) ?_
    refine fw_getr hx hb hts i_Mo hown hK hP (mm_0 (by decide)) (mk_0 0) rfl 48 (by decide) (hts _ L_Mo_152) (fun _ h9 => h9) rfl md_Mo_tell_93 ?_
    refine lv_iload hx hb md_Mo_tell_96 (lv_at hl 0 rfl) ?_
    refine lv_aload_n hx hb md_Mo_tell_98 rfl (lv_at hl 1 rfl) ?_
    refine fw_getr hx hb hts i_Mo hown hK hP (mm_0 (by decide)) (mk_0 0) rfl 48 (by decide) (hts _ L_Mo_152) (fun _ h9 => h9) rfl md_Mo_tell_99 ?_
    refine lv_iload hx hb md_Mo_tell_102 (lv_at hl 0 rfl) ?_
    refine lv_iconst (v := (1 : Int32)) hx hb md_Mo_tell_104 (by decide) ?_
    refine lv_isub hx hb md_Mo_tell_105 ?_
    refine fw_top (y := (0 : Int32)) (by decide) ?_
    refine fw_iald hx hb hK hP (mm_49 (by decide)) (mk_49 0) 0 rfl (j := 0) (by decide) (fw_inc (by decide)) md_Mo_tell_106 ?_
    refine fw_iast hx hb hK hD hP hS (mm_49 (by decide)) (mk_49 0) 0 rfl (j := 1) (by decide) (fw_inc (by decide)) md_Mo_tell_107 (fun v18 H locs ev18 hP hS => ?_)
    have hI : mI b v18 := by rw [ev18]; exact mI_up hI trivial trivial
    refine lv_iinc (v := (0 : Int32)) (lv' := [(5, .int (0 : Int32)), (0, .ref (ad 0 0)), (1, .int (1 : Int32)), (3, .int x3), (4, .int x4)]) hx hb md_Mo_tell_108 hl (k := 0) rfl (by decide) (by decide) rfl (fun ls hl => ?_)
    refine lv_goto (tgt := 87) hx hb md_Mo_tell_111 (by decide) ?_
    refine lv_iload hx hb md_Mo_tell_87 (lv_at hl 0 rfl) ?_
    refine lv_if_le (tgt := 114) hx hb md_Mo_tell_89 (by decide) (fun _ => ?_) (fun c_19 => absurd (by decide) c_19)
    refine lv_aload_n hx hb md_Mo_tell_114 rfl (lv_at hl 1 rfl) ?_
    refine fw_getr hx hb hts i_Mo hown hK hP (mm_0 (by decide)) (mk_0 0) rfl 48 (by decide) (hts _ L_Mo_152) (fun _ h9 => h9) rfl md_Mo_tell_115 ?_
    refine lv_iconst (v := (0 : Int32)) hx hb md_Mo_tell_118 (by decide) ?_
    refine lv_bipush (v := (64 : Int32)) hx hb md_Mo_tell_119 (by decide) ?_
    refine lv_iload_n hx hb md_Mo_tell_121 rfl (lv_at hl 2 rfl) ?_
    refine lv_imul hx hb md_Mo_tell_122 ?_
    refine fw_top (y := (64 : Int32)) (by decide) ?_
    refine lv_bipush (v := (16 : Int32)) hx hb md_Mo_tell_123 (by decide) ?_
    refine lv_iload_n hx hb md_Mo_tell_125 rfl (lv_at hl 3 rfl) ?_
    refine lv_imul hx hb md_Mo_tell_126 ?_
    refine lv_iadd hx hb md_Mo_tell_127 ?_
    refine lv_iload hx hb md_Mo_tell_128 (lv_at hl 4 rfl) ?_
    refine lv_iadd hx hb md_Mo_tell_130 ?_
    refine fw_iast hx hb hK hD hP hS (mm_49 (by decide)) (mk_49 0) 0 rfl (j := 0) (by decide) (fw_inc (by decide)) md_Mo_tell_131 (fun v20 H locs ev20 hP hS => ?_)
    have hI : mI b v20 := by rw [ev20]; exact mI_up hI trivial trivial
    refine lv_aload_n hx hb md_Mo_tell_132 rfl (lv_at hl 1 rfl) ?_
    refine lv_dup hx hb md_Mo_tell_133 rfl ?_
    refine fw_geti hx hb hts i_Mo hown hK hP (mm_0 (by decide)) (mk_0 0) rfl 55 (by decide) (hts _ L_Mo_232) (fun _ h9 => h9) rfl md_Mo_tell_134 ?_
    refine lv_iconst (v := (1 : Int32)) hx hb md_Mo_tell_137 (by decide) ?_
    refine lv_iadd hx hb md_Mo_tell_138 ?_
    refine fw_puti hx hb hts i_Mo t_Mo t_Mo_ok n_Mo hown hK hD hP hS (mm_0 (by decide)) (mk_0 0) rfl 55 (by decide) (hts _ L_Mo_232) (fun _ h9 => h9) rfl fw_pdI rfl rfl rfl md_Mo_tell_139 (fun v21 H locs ev21 hP hS => ?_)
    have hI : mI b v21 := by rw [ev21]; exact mI_up hI trivial trivial
    exact fw_vret hx hb hr hlocks hS hP hI md_Mo_tell_142 (by rw [hj]; subst ev4 ev6 ev8 ev10 ev12 ev14 ev16 ev18 ev20 ev21; simp only [mf_Mo_tell_1_j2])
  have J1 : ∀ (v : fw_V) (x3 : Int32) (x4 : Int32) (H : Heap) (locs : List Loc) (ls : Array Slot), mf_Mo_tell_1 v0 a2 = mf_Mo_tell_1_j1 v a2 x3 x4 → vp_in x3 3 → mI b v → va_P D vcls (fw_w mCL cA mkd ad v) H → va_S (fw_A mCL ad) s.heap H locs → lv_has ls 6 [(0, .ref (ad 0 0)), (1, .int (1 : Int32)), (3, .int x3), (4, .int x4)] → W p l e (headSpec (Cond.code my_Mo_tell mb_Mo_tell 6 none :: vTB) mrm_Mo_tell).room s m ([.ref (ad 0 0), .int (1 : Int32), .int a2] : List Value).toArray below meth c H locs 0 0 (MQ below (fw_Qv D vcls mCL cA mkd ad (mI b) (mf_Mo_tell_1 v0 a2)) ([.ref (ad 0 0), .int (1 : Int32), .int a2] : List Value).toArray s 0 0 (fw_A mCL ad)) (F0 m 70 ls [.int (1 : Int32), .ref (ad 16 0)]) := by
    intro v x3 x4 H locs ls hj hc0 hI hP hS hl
    refine lv_aload_n hx hb md_Mo_tell_70 rfl (lv_at hl 0 rfl) ?_
    refine fw_getr hx hb hts i_Mo hown hK hP (mm_0 (by decide)) (mk_0 0) rfl 15 (by decide) (hts _ L_Mo_53) (fun _ h9 => h9) rfl md_Mo_tell_71 ?_
    refine lv_iload_n hx hb md_Mo_tell_74 rfl (lv_at hl 1 rfl) ?_
    refine fw_iald hx hb hK hP (mm_16 (by decide)) (mk_16 0) 0 rfl (j := 1) (by decide) (fw_inc (by decide)) md_Mo_tell_75 ?_
    refine lv_iconst (v := (1 : Int32)) hx hb md_Mo_tell_76 (by decide) ?_
    refine lv_iload_n hx hb md_Mo_tell_77 rfl (lv_at hl 2 rfl) ?_
    refine lv_ishl hx hb md_Mo_tell_78 ?_
    refine lv_iconst (v := (-1 : Int32)) hx hb md_Mo_tell_79 (by decide) ?_
    refine lv_ixor hx hb md_Mo_tell_80 ?_
    refine lv_iand hx hb md_Mo_tell_81 ?_
    exact J2 v (x3) (x4) (((v 16 0 1) &&& (((1 : Int32) <<< (x3 &&& 31)) ^^^ (-1 : Int32)))) _ _ _ (by rw [hj]; simp only [mf_Mo_tell_1_j1]) hc0  hI hP hS (lv_sub hl [0, 1, 2, 3] rfl)
  skip
  have hl := lv_entry ([.ref (ad 0 0), .int (1 : Int32), .int a2]) (n := 6) (Nat.le_of_ble_eq_true rfl)
  rw [lg_entry_eq]
  generalize (lg_sl ([.ref (ad 0 0), .int (1 : Int32), .int a2]) ++ List.replicate (6 - (lg_sl ([.ref (ad 0 0), .int (1 : Int32), .int a2])).length) Slot.unset).toArray = ls at hl ⊢
  have hl : lv_has ls 6 [(0, .ref (ad 0 0)), (1, .int (1 : Int32)), (2, .int a2)] := hl
  refine lv_aload_n hx hb md_Mo_tell_0 rfl (lv_at hl 0 rfl) ?_
  refine fw_getr hx hb hts i_Mo hown hK hP (mm_0 (by decide)) (mk_0 0) rfl 9 (by decide) (hts _ L_Mo_38) (fun _ h9 => h9) rfl md_Mo_tell_1 ?_
  refine lv_iconst (v := (0 : Int32)) hx hb md_Mo_tell_4 (by decide) ?_
  refine fw_iald hx hb hK hP (mm_10 (by decide)) (mk_10 0) 0 rfl (j := 0) (by decide) (fw_inc (by decide)) md_Mo_tell_5 ?_
  refine lv_istore_n (lv' := [(3, .int (v0 10 0 0)), (0, .ref (ad 0 0)), (1, .int (1 : Int32)), (2, .int a2)]) hx hb md_Mo_tell_6 rfl hl (by decide) rfl (fun ls hl => ?_)
  refine lv_aload_n hx hb md_Mo_tell_7 rfl (lv_at hl 1 rfl) ?_
  refine fw_getr hx hb hts i_Mo hown hK hP (mm_0 (by decide)) (mk_0 0) rfl 9 (by decide) (hts _ L_Mo_38) (fun _ h9 => h9) rfl md_Mo_tell_8 ?_
  refine lv_iconst (v := (1 : Int32)) hx hb md_Mo_tell_11 (by decide) ?_
  refine fw_iald hx hb hK hP (mm_10 (by decide)) (mk_10 0) 0 rfl (j := 1) (by decide) (fw_inc (by decide)) md_Mo_tell_12 ?_
  refine lv_istore (lv' := [(4, .int (v0 10 0 1)), (3, .int (v0 10 0 0)), (0, .ref (ad 0 0)), (1, .int (1 : Int32)), (2, .int a2)]) hx hb md_Mo_tell_13 hl (by decide) rfl (fun ls hl => ?_)
  refine lv_aload_n hx hb md_Mo_tell_15 rfl (lv_at hl 2 rfl) ?_
  refine fw_getr hx hb hts i_Mo hown hK hP (mm_0 (by decide)) (mk_0 0) rfl 22 (by decide) (hts _ L_Mo_74) (fun _ h9 => h9) rfl md_Mo_tell_16 ?_
  refine lv_iload_n hx hb md_Mo_tell_19 rfl (lv_at hl 3 rfl) ?_
  refine lv_iload_n hx hb md_Mo_tell_20 rfl (lv_at hl 4 rfl) ?_
  refine fw_iast hx hb hK hD hP hS (mm_23 (by decide)) (mk_23 0) 0 rfl (j := 1) (by decide) (fw_inc (by decide)) md_Mo_tell_21 (fun v1 H locs ev1 hP hS => ?_)
  have hI : mI b v1 := by rw [ev1]; exact mI_up hI trivial trivial
  refine lv_aload_n hx hb md_Mo_tell_22 rfl (lv_at hl 2 rfl) ?_
  refine fw_getr hx hb hts i_Mo hown hK hP (mm_0 (by decide)) (mk_0 0) rfl 15 (by decide) (hts _ L_Mo_53) (fun _ h9 => h9) rfl md_Mo_tell_23 ?_
  refine lv_iload_n hx hb md_Mo_tell_26 rfl (lv_at hl 3 rfl) ?_
  refine lv_aload_n hx hb md_Mo_tell_27 rfl (lv_at hl 2 rfl) ?_
  refine fw_getr hx hb hts i_Mo hown hK hP (mm_0 (by decide)) (mk_0 0) rfl 23 (by decide) (hts _ L_Mo_77) (fun _ h9 => h9) rfl md_Mo_tell_28 ?_
  refine lv_iconst (v := (3 : Int32)) hx hb md_Mo_tell_31 (by decide) ?_
  refine lv_iload_n hx hb md_Mo_tell_32 rfl (lv_at hl 3 rfl) ?_
  refine lv_imul hx hb md_Mo_tell_33 ?_
  refine fw_top (y := (3 : Int32)) (by decide) ?_
  refine lv_iload_n hx hb md_Mo_tell_34 rfl (lv_at hl 1 rfl) ?_
  refine lv_iadd hx hb md_Mo_tell_35 ?_
  refine fw_iald hx hb hK hP (mm_24 (by decide)) (mk_24 0) 0 rfl (j := ((3 : Int32) + (v0 10 0 0)).toNatClampNeg) rfl (fw_inadd2 (n := 4) (m := 3) (t := 6) (fw_inc (by decide)) hq0 (by decide)) md_Mo_tell_36 ?_
  have h_2 : vp_in ((v1 24 0 ((3 : Int32) + (v0 10 0 0)).toNatClampNeg) + 1) 9 := hI.1 24 0 (((3 : Int32) + (v0 10 0 0)).toNatClampNeg)
  refine lv_if_lt (tgt := 70) hx hb md_Mo_tell_37 (by decide) (fun c_3 => ?_) (fun c_3 => ?_)
  · exact J1 v1 ((v0 10 0 0)) ((v0 10 0 1)) _ _ _ (by subst ev1; simp only [mf_Mo_tell_1, if_pos c_3]) hq0  hI hP hS (lv_sub hl [2, 3, 1, 0] rfl)
  · have h_22 : vp_in (v1 24 0 ((3 : Int32) + (v0 10 0 0)).toNatClampNeg) 8 := fw_m8 h_2 c_3
    refine lv_iload hx hb md_Mo_tell_40 (lv_at hl 0 rfl) ?_
    refine lv_aload_n hx hb md_Mo_tell_42 rfl (lv_at hl 2 rfl) ?_
    refine fw_getr hx hb hts i_Mo hown hK hP (mm_0 (by decide)) (mk_0 0) rfl 23 (by decide) (hts _ L_Mo_77) (fun _ h9 => h9) rfl md_Mo_tell_43 ?_
    refine lv_iconst (v := (3 : Int32)) hx hb md_Mo_tell_46 (by decide) ?_
    refine lv_iload_n hx hb md_Mo_tell_47 rfl (lv_at hl 3 rfl) ?_
    refine lv_imul hx hb md_Mo_tell_48 ?_
    refine fw_top (y := (3 : Int32)) (by decide) ?_
    refine lv_iload_n hx hb md_Mo_tell_49 rfl (lv_at hl 1 rfl) ?_
    refine lv_iadd hx hb md_Mo_tell_50 ?_
    refine fw_iald hx hb hK hP (mm_24 (by decide)) (mk_24 0) 0 rfl (j := ((3 : Int32) + (v0 10 0 0)).toNatClampNeg) rfl (fw_inadd2 (n := 4) (m := 3) (t := 6) (fw_inc (by decide)) hq0 (by decide)) md_Mo_tell_51 ?_
    refine lv_iconst (v := (1 : Int32)) hx hb md_Mo_tell_52 (by decide) ?_
    refine lv_iadd hx hb md_Mo_tell_53 ?_
    refine lv_icmp_eq (tgt := 70) hx hb md_Mo_tell_54 (by decide) (fun c_23 => ?_) (fun c_23 => ?_)
    · exact J1 v1 ((v0 10 0 0)) ((v0 10 0 1)) _ _ _ (by subst ev1; simp only [mf_Mo_tell_1, if_neg c_3, if_pos c_23]) hq0  hI hP hS (lv_sub hl [2, 3, 1, 0] rfl)
    · refine lv_aload_n hx hb md_Mo_tell_57 rfl (lv_at hl 2 rfl) ?_
      refine fw_getr hx hb hts i_Mo hown hK hP (mm_0 (by decide)) (mk_0 0) rfl 15 (by decide) (hts _ L_Mo_53) (fun _ h9 => h9) rfl md_Mo_tell_58 ?_
      refine lv_iload_n hx hb md_Mo_tell_61 rfl (lv_at hl 3 rfl) ?_
      refine fw_iald hx hb hK hP (mm_16 (by decide)) (mk_16 0) 0 rfl (j := 1) (by decide) (fw_inc (by decide)) md_Mo_tell_62 ?_
      refine lv_iconst (v := (1 : Int32)) hx hb md_Mo_tell_63 (by decide) ?_
      refine lv_iload_n hx hb md_Mo_tell_64 rfl (lv_at hl 1 rfl) ?_
      refine lv_ishl hx hb md_Mo_tell_65 ?_
      refine lv_ior hx hb md_Mo_tell_66 ?_
      refine lv_goto (tgt := 82) hx hb md_Mo_tell_67 (by decide) ?_
      exact J2 v1 ((v0 10 0 0)) ((v0 10 0 1)) (((v1 16 0 1) ||| ((1 : Int32) <<< ((v0 10 0 0) &&& 31)))) _ _ _ (by subst ev1; simp only [mf_Mo_tell_1, if_neg c_3, if_neg c_23]) hq0  hI hP hS (lv_sub hl [2, 3, 1, 0] rfl)
def mf_Mo_hears_0_j6 (v0 : fw_V) (a2 : Int32) (a3 : Int32)  : fw_V :=
  if a2 = (14 : Int32) then
    let v11 := mf_Mo_send v0 (15 : Int32) (v0 13 0 0) a3 (v0 15 0 0)
    if (v0 12 0 0) = (6 : Int32) then
      if a3 = (v11 23 0 0) then
        v11
      else
        let v14 := mf_Mo_tell_0 v11 a3
        v14
    else
      v11
  else
    if a2 = (16 : Int32) then
      let v9 := mf_Mo_shut_0 v0
      v9
    else
      v0
def mf_Mo_hears_0_j5 (v0 : fw_V) (a2 : Int32) (a3 : Int32)  : fw_V :=
  if a2 = (13 : Int32) then
    if (v0 12 0 0) = (6 : Int32) then
      let r16 := mf_Mo_isNewer a3 (v0 22 0 0)
      if r16 = (0 : Int32) then
        mf_Mo_hears_0_j6 v0 a2 a3
      else
        let v18 := fw_up v0 22 0 (0) a3
        let v19 := fw_up v18 18 0 (0) (0 : Int32)
        let v20 := fw_up v19 17 0 (0) (v19 10 0 6)
        let v22 := fw_up v20 27 0 (0) (v20 10 0 0)
        let v24 := fw_up v22 27 0 (1) (v22 10 0 1)
        let v26 := fw_up v24 27 0 (2) (v24 10 0 2)
        let v28 := fw_up v26 27 0 (3) (v26 10 0 3)
        let v30 := fw_up v28 27 0 (4) (v28 10 0 4)
        let v32 := fw_up v30 27 0 (5) (v30 10 0 5)
        v32
    else
      mf_Mo_hears_0_j6 v0 a2 a3
  else
    mf_Mo_hears_0_j6 v0 a2 a3
def mf_Mo_hears_0_j4 (v0 : fw_V) (a2 : Int32) (a3 : Int32)  : fw_V :=
  if a2 = (10 : Int32) then
    if (v0 12 0 0) < (5 : Int32) then
      mf_Mo_hears_0_j5 v0 a2 a3
    else
      let v35 := mf_Mo_send v0 (11 : Int32) (v0 13 0 0) (0 : Int32) (v0 15 0 0)
      if (v0 12 0 0) = (6 : Int32) then
        v35
      else
        let v37 := mf_Mo_enter_0 v35 (6 : Int32)
        let v38 := fw_up v37 21 0 (0) (0 : Int32)
        let v39 := fw_up v38 22 0 (0) (-1 : Int32)
        let v40 := fw_up v39 17 0 (0) (0 : Int32)
        v40
  else
    mf_Mo_hears_0_j5 v0 a2 a3
def mf_Mo_hears_0_j3 (v0 : fw_V) (a2 : Int32) (a3 : Int32)  : fw_V :=
  if a2 = (9 : Int32) then
    if (v0 12 0 0) = (4 : Int32) then
      let v42 := mf_Mo_enter_0 v0 (5 : Int32)
      v42
    else
      mf_Mo_hears_0_j4 v0 a2 a3
  else
    mf_Mo_hears_0_j4 v0 a2 a3
def mf_Mo_hears_0_j2 (v0 : fw_V) (a2 : Int32) (a3 : Int32)  : fw_V :=
  if a2 = (7 : Int32) then
    if (v0 12 0 0) = (3 : Int32) then
      if a3 = (v0 20 0 0) then
        let v48 := mf_Mo_write_0 v0 (a3 + (1 : Int32))
        v48
      else
        mf_Mo_hears_0_j3 v0 a2 a3
    else
      mf_Mo_hears_0_j3 v0 a2 a3
  else
    mf_Mo_hears_0_j3 v0 a2 a3
def mf_Mo_hears_0_j1 (v0 : fw_V) (a2 : Int32) (a3 : Int32)  : fw_V :=
  if a2 = (5 : Int32) then
    if (v0 12 0 0) = (2 : Int32) then
      let v50 := mf_Mo_shut_0 v0
      v50
    else
      mf_Mo_hears_0_j2 v0 a2 a3
  else
    mf_Mo_hears_0_j2 v0 a2 a3
def mf_Mo_hears_0 (v0 : fw_V) (a2 : Int32) (a3 : Int32) : fw_V :=
  if a2 = (4 : Int32) then
    if (v0 12 0 0) = (2 : Int32) then
      let v52 := fw_up v0 16 0 (0) a3
      let v53 := mf_Mo_write_0 v52 (0 : Int32)
      v53
    else
      mf_Mo_hears_0_j1 v0 a2 a3
  else
    mf_Mo_hears_0_j1 v0 a2 a3

theorem mca_Mo_hears_0_j6 {v0 : fw_V} {a2 : Int32} {a3 : Int32} {i k : Nat} : mf_Mo_hears_0_j6 v0 a2 a3 10 i k = v0 10 i k := by
  unfold mf_Mo_hears_0_j6
  try dsimp only
  all_goals ((repeat' split) <;> simp [fw_up, fw_row, mca_Mo_send, mca_Mo_tell_0, mca_Mo_shut_0])
theorem mca_Mo_hears_0_j5 {v0 : fw_V} {a2 : Int32} {a3 : Int32} {i k : Nat} : mf_Mo_hears_0_j5 v0 a2 a3 10 i k = v0 10 i k := by
  unfold mf_Mo_hears_0_j5
  try dsimp only
  all_goals ((repeat' split) <;> simp [fw_up, fw_row, mca_Mo_hears_0_j6])
theorem mca_Mo_hears_0_j4 {v0 : fw_V} {a2 : Int32} {a3 : Int32} {i k : Nat} : mf_Mo_hears_0_j4 v0 a2 a3 10 i k = v0 10 i k := by
  unfold mf_Mo_hears_0_j4
  try dsimp only
  all_goals ((repeat' split) <;> simp [fw_up, fw_row, mca_Mo_hears_0_j5, mca_Mo_send, mca_Mo_enter_0])
theorem mca_Mo_hears_0_j3 {v0 : fw_V} {a2 : Int32} {a3 : Int32} {i k : Nat} : mf_Mo_hears_0_j3 v0 a2 a3 10 i k = v0 10 i k := by
  unfold mf_Mo_hears_0_j3
  try dsimp only
  all_goals ((repeat' split) <;> simp [fw_up, fw_row, mca_Mo_enter_0, mca_Mo_hears_0_j4])
theorem mca_Mo_hears_0_j2 {v0 : fw_V} {a2 : Int32} {a3 : Int32} {i k : Nat} : mf_Mo_hears_0_j2 v0 a2 a3 10 i k = v0 10 i k := by
  unfold mf_Mo_hears_0_j2
  try dsimp only
  all_goals ((repeat' split) <;> simp [fw_up, fw_row, mca_Mo_write_0, mca_Mo_hears_0_j3])
theorem mca_Mo_hears_0_j1 {v0 : fw_V} {a2 : Int32} {a3 : Int32} {i k : Nat} : mf_Mo_hears_0_j1 v0 a2 a3 10 i k = v0 10 i k := by
  unfold mf_Mo_hears_0_j1
  try dsimp only
  all_goals ((repeat' split) <;> simp [fw_up, fw_row, mca_Mo_shut_0, mca_Mo_hears_0_j2])
theorem mca_Mo_hears_0 {v0 : fw_V} {a2 : Int32} {a3 : Int32} {i k : Nat} : mf_Mo_hears_0 v0 a2 a3 10 i k = v0 10 i k := by
  unfold mf_Mo_hears_0
  try dsimp only
  all_goals ((repeat' split) <;> simp [fw_up, fw_row, mca_Mo_write_0, mca_Mo_hears_0_j1])
set_option maxHeartbeats 4000000 in
set_option maxRecDepth 100000 in
theorem mc_Mo_hears_0 (l : Launch) {D : va_G} {cA : Nat → ClassId} {ad : Nat → Nat → Nat} (hD : fw_D mCL ad) {b : Nat} (v0 : fw_V) (hI : mI b v0) (a2 : Int32) (a3 : Int32) (hq0 : a2 = (14 : Int32) → vp_in (v0 10 0 0) 3) : Met l my_Mo_hears (Cond.code my_Mo_hears mb_Mo_hears 6 none :: vTB) mrm_Mo_hears (fw_Pc vNL D vcls (vtys cA) mCL cA mkd ad v0 [.ref (ad 0 0), .int (0 : Int32), .int a2, .int a3]) (fw_Qv D vcls mCL cA mkd ad (mI b) (mf_Mo_hears_0 v0 a2 a3)) 0 0 (fw_A mCL ad) := by
  refine Met.ofW (cc := mb_Mo_hears) (maxL := 6) (ret := none) (by decide) rfl ?_
  intro p e s m args below meth c s₁ B hml hv
  obtain ⟨rfl, hP, hK, hN⟩ := hv
  have hx := B.exec
  have hb := B.bytes
  have hr := B.returns
  have hts : ∀ w ∈ vTB, w.before ([.ref (ad 0 0), .int (0 : Int32), .int a2, .int a3] : List Value).toArray s = true := fun w h => atoms_spec (ws := (Cond.code my_Mo_hears mb_Mo_hears 6 none :: vTB)) B.pre w (List.mem_cons_of_mem _ h)
  have hown : s.vm.findClass R_Mo = some m.cls := findClass_of_methodNamed B.named
  have hlocks := B.notSynchronized
  have hS : va_S (fw_A mCL ad) s.heap s.heap [] := va_S.rf
  have J6 : ∀  (H : Heap) (locs : List Loc) (ls : Array Slot), mf_Mo_hears_0 v0 a2 a3 = mf_Mo_hears_0_j6 v0 a2 a3 → mI b v0 → va_P D vcls (fw_w mCL cA mkd ad v0) H → va_S (fw_A mCL ad) s.heap H locs → lv_has ls 6 [(0, .ref (ad 0 0)), (1, .int (0 : Int32)), (2, .int a2), (3, .int a3), (4, .int (v0 12 0 0))] → W p l e (headSpec (Cond.code my_Mo_hears mb_Mo_hears 6 none :: vTB) mrm_Mo_hears).room s m ([.ref (ad 0 0), .int (0 : Int32), .int a2, .int a3] : List Value).toArray below meth c H locs 0 0 (MQ below (fw_Qv D vcls mCL cA mkd ad (mI b) (mf_Mo_hears_0 v0 a2 a3)) ([.ref (ad 0 0), .int (0 : Int32), .int a2, .int a3] : List Value).toArray s 0 0 (fw_A mCL ad)) (F0 m 269 ls []) := by
    intro  H locs ls hj  hI hP hS hl
    refine lv_iload_n hx hb md_Mo_hears_269 rfl (lv_at hl 2 rfl) ?_
    refine lv_bipush (v := (14 : Int32)) hx hb md_Mo_hears_270 (by decide) ?_
    refine lv_icmp_ne (tgt := 320) hx hb md_Mo_hears_272 (by decide) (fun c_7 => ?_) (fun c_7 => ?_)
    · refine lv_iload_n hx hb md_Mo_hears_320 rfl (lv_at hl 2 rfl) ?_
      refine lv_bipush (v := (16 : Int32)) hx hb md_Mo_hears_321 (by decide) ?_
      refine lv_icmp_ne (tgt := 331) hx hb md_Mo_hears_323 (by decide) (fun c_8 => ?_) (fun c_8 => ?_)
      · exact fw_vret hx hb hr hlocks hS hP hI md_Mo_hears_331 (by rw [hj]; simp only [mf_Mo_hears_0_j6, if_neg c_7, if_neg c_8])
      · refine lv_aload_n hx hb md_Mo_hears_326 rfl (lv_at hl 0 rfl) ?_
        refine lv_iload_n hx hb md_Mo_hears_327 rfl (lv_at hl 1 rfl) ?_
        refine fw_cv (va_runV (As := [.int (0 : Int32)]) (rest := []) ⟨hx, hb, hml, hown, hts⟩ (mc_Mo_shut_0 l hD v0 hI ) (mw_Mo_shut hts L_Mo_203 ⟨Nat.le_of_ble_eq_true rfl, Nat.le_of_ble_eq_true rfl⟩) (fw_preV hN hK hP (mm_0 (by decide)) (mk_0 0) rfl) rfl rfl hl.1 rfl (lv_room (Nat.le_of_ble_eq_true rfl)) md_Mo_hears_328 ⟨Nat.le_of_ble_eq_true rfl, Nat.le_of_ble_eq_true rfl⟩) hS (fun v9 H locs ev9 hI hP hS => ?_)
        exact fw_vret hx hb hr hlocks hS hP hI md_Mo_hears_331 (by rw [hj]; subst ev9; simp only [mf_Mo_hears_0_j6, if_neg c_7, if_pos c_8])
    · have h_10 : vp_in (v0 10 0 0) 3 := hq0 c_7
      refine lv_aload_n hx hb md_Mo_hears_275 rfl (lv_at hl 0 rfl) ?_
      refine lv_bipush (v := (15 : Int32)) hx hb md_Mo_hears_276 (by decide) ?_
      refine lv_aload_n hx hb md_Mo_hears_278 rfl (lv_at hl 0 rfl) ?_
      refine fw_getr hx hb hts i_Mo hown hK hP (mm_0 (by decide)) (mk_0 0) rfl 12 (by decide) (hts _ L_Mo_44) (fun _ h9 => h9) rfl md_Mo_hears_279 ?_
      refine lv_iload_n hx hb md_Mo_hears_282 rfl (lv_at hl 1 rfl) ?_
      refine fw_iald hx hb hK hP (mm_13 (by decide)) (mk_13 0) 0 rfl (j := 0) (by decide) (fw_inc (by decide)) md_Mo_hears_283 ?_
      refine lv_iload_n hx hb md_Mo_hears_284 rfl (lv_at hl 3 rfl) ?_
      refine lv_aload_n hx hb md_Mo_hears_285 rfl (lv_at hl 0 rfl) ?_
      refine fw_getr hx hb hts i_Mo hown hK hP (mm_0 (by decide)) (mk_0 0) rfl 14 (by decide) (hts _ L_Mo_50) (fun _ h9 => h9) rfl md_Mo_hears_286 ?_
      refine lv_iload_n hx hb md_Mo_hears_289 rfl (lv_at hl 1 rfl) ?_
      refine fw_iald hx hb hK hP (mm_15 (by decide)) (mk_15 0) 0 rfl (j := 0) (by decide) (fw_inc (by decide)) md_Mo_hears_290 ?_
      refine fw_cv (va_runV (As := [.int (15 : Int32), .int (v0 13 0 0), .int a3, .int (v0 15 0 0)]) (rest := []) ⟨hx, hb, hml, hown, hts⟩ (mc_Mo_send l hD v0 hI (15 : Int32) (v0 13 0 0) a3 (v0 15 0 0) (fun q => absurd q (by decide)) (fun q => absurd q (by decide)) (fun q => absurd q (by decide))) (mw_Mo_send hts L_Mo_197 ⟨Nat.le_of_ble_eq_true rfl, Nat.le_of_ble_eq_true rfl⟩) (fw_preV hN hK hP (mm_0 (by decide)) (mk_0 0) rfl) rfl rfl hl.1 rfl (lv_room (Nat.le_of_ble_eq_true rfl)) md_Mo_hears_291 ⟨Nat.le_of_ble_eq_true rfl, Nat.le_of_ble_eq_true rfl⟩) hS (fun v11 H locs ev11 hI hP hS => ?_)
      refine lv_iload hx hb md_Mo_hears_294 (lv_at hl 4 rfl) ?_
      refine lv_bipush (v := (6 : Int32)) hx hb md_Mo_hears_296 (by decide) ?_
      refine lv_icmp_ne (tgt := 331) hx hb md_Mo_hears_298 (by decide) (fun c_12 => ?_) (fun c_12 => ?_)
      · exact fw_vret hx hb hr hlocks hS hP hI md_Mo_hears_331 (by rw [hj]; subst ev11; simp only [mf_Mo_hears_0_j6, if_pos c_7, if_neg c_12])
      · refine lv_iload_n hx hb md_Mo_hears_301 rfl (lv_at hl 3 rfl) ?_
        refine lv_aload_n hx hb md_Mo_hears_302 rfl (lv_at hl 0 rfl) ?_
        refine fw_getr hx hb hts i_Mo hown hK hP (mm_0 (by decide)) (mk_0 0) rfl 22 (by decide) (hts _ L_Mo_74) (fun _ h9 => h9) rfl md_Mo_hears_303 ?_
        refine lv_iload_n hx hb md_Mo_hears_306 rfl (lv_at hl 1 rfl) ?_
        refine fw_iald hx hb hK hP (mm_23 (by decide)) (mk_23 0) 0 rfl (j := 0) (by decide) (fw_inc (by decide)) md_Mo_hears_307 ?_
        refine lv_icmp_eq (tgt := 331) hx hb md_Mo_hears_308 (by decide) (fun c_13 => ?_) (fun c_13 => ?_)
        · exact fw_vret hx hb hr hlocks hS hP hI md_Mo_hears_331 (by rw [hj]; subst ev11; simp only [mf_Mo_hears_0_j6, if_pos c_7, if_pos c_12, if_pos c_13])
        · refine lv_aload_n hx hb md_Mo_hears_311 rfl (lv_at hl 0 rfl) ?_
          refine lv_iload_n hx hb md_Mo_hears_312 rfl (lv_at hl 1 rfl) ?_
          refine lv_iload_n hx hb md_Mo_hears_313 rfl (lv_at hl 3 rfl) ?_
          refine fw_cv (va_runV (As := [.int (0 : Int32), .int a3]) (rest := []) ⟨hx, hb, hml, hown, hts⟩ (mc_Mo_tell_0 l hD v11 hI a3 (by rw [ev11, mfr_Mo_send (c := 10) (by decide)]; exact h_10)) (mw_Mo_tell hts L_Mo_229 ⟨Nat.le_of_ble_eq_true rfl, Nat.le_of_ble_eq_true rfl⟩) (fw_preV hN hK hP (mm_0 (by decide)) (mk_0 0) rfl) rfl rfl hl.1 rfl (lv_room (Nat.le_of_ble_eq_true rfl)) md_Mo_hears_314 ⟨Nat.le_of_ble_eq_true rfl, Nat.le_of_ble_eq_true rfl⟩) hS (fun v14 H locs ev14 hI hP hS => ?_)
          refine lv_goto (tgt := 331) hx hb md_Mo_hears_317 (by decide) ?_
          exact fw_vret hx hb hr hlocks hS hP hI md_Mo_hears_331 (by rw [hj]; subst ev11 ev14; simp only [mf_Mo_hears_0_j6, if_pos c_7, if_pos c_12, if_neg c_13])
  have J5 : ∀  (H : Heap) (locs : List Loc) (ls : Array Slot), mf_Mo_hears_0 v0 a2 a3 = mf_Mo_hears_0_j5 v0 a2 a3 → mI b v0 → va_P D vcls (fw_w mCL cA mkd ad v0) H → va_S (fw_A mCL ad) s.heap H locs → lv_has ls 6 [(0, .ref (ad 0 0)), (1, .int (0 : Int32)), (2, .int a2), (3, .int a3), (4, .int (v0 12 0 0))] → W p l e (headSpec (Cond.code my_Mo_hears mb_Mo_hears 6 none :: vTB) mrm_Mo_hears).room s m ([.ref (ad 0 0), .int (0 : Int32), .int a2, .int a3] : List Value).toArray below meth c H locs 0 0 (MQ below (fw_Qv D vcls mCL cA mkd ad (mI b) (mf_Mo_hears_0 v0 a2 a3)) ([.ref (ad 0 0), .int (0 : Int32), .int a2, .int a3] : List Value).toArray s 0 0 (fw_A mCL ad)) (F0 m 178 ls []) := by
    intro  H locs ls hj  hI hP hS hl
    refine lv_iload_n hx hb md_Mo_hears_178 rfl (lv_at hl 2 rfl) ?_
    refine lv_bipush (v := (13 : Int32)) hx hb md_Mo_hears_179 (by decide) ?_
    refine lv_icmp_ne (tgt := 269) hx hb md_Mo_hears_181 (by decide) (fun c_6 => ?_) (fun c_6 => ?_)
    · exact J6  _ _ _ (by rw [hj]; simp only [mf_Mo_hears_0_j5, if_neg c_6])   hI hP hS (lv_sub hl [0, 1, 2, 3, 4] rfl)
    · refine lv_iload hx hb md_Mo_hears_184 (lv_at hl 4 rfl) ?_
      refine lv_bipush (v := (6 : Int32)) hx hb md_Mo_hears_186 (by decide) ?_
      refine lv_icmp_ne (tgt := 269) hx hb md_Mo_hears_188 (by decide) (fun c_15 => ?_) (fun c_15 => ?_)
      · exact J6  _ _ _ (by rw [hj]; simp only [mf_Mo_hears_0_j5, if_pos c_6, if_neg c_15])   hI hP hS (lv_sub hl [0, 1, 2, 3, 4] rfl)
      · refine lv_iload_n hx hb md_Mo_hears_191 rfl (lv_at hl 3 rfl) ?_
        refine lv_aload_n hx hb md_Mo_hears_192 rfl (lv_at hl 0 rfl) ?_
        refine fw_getr hx hb hts i_Mo hown hK hP (mm_0 (by decide)) (mk_0 0) rfl 21 (by decide) (hts _ L_Mo_71) (fun _ h9 => h9) rfl md_Mo_hears_193 ?_
        refine lv_iload_n hx hb md_Mo_hears_196 rfl (lv_at hl 1 rfl) ?_
        refine fw_iald hx hb hK hP (mm_22 (by decide)) (mk_22 0) 0 rfl (j := 0) (by decide) (fw_inc (by decide)) md_Mo_hears_197 ?_
        refine fw_cb (va_runS (As := [.int a3, .int (v0 22 0 0)]) (rest := []) ⟨hx, hb, hml, hown, hts⟩ (mc_Mo_isNewer l hD v0 hI a3 (v0 22 0 0)) (mw_Mo_isNewer hts L_Mo_225 ⟨Nat.le_of_ble_eq_true rfl, Nat.le_of_ble_eq_true rfl⟩) (fw_preS hN hK hP) rfl rfl hl.1 rfl (lv_room (Nat.le_of_ble_eq_true rfl)) md_Mo_hears_198 ⟨Nat.le_of_ble_eq_true rfl, Nat.le_of_ble_eq_true rfl⟩) hS (fun r16 H locs zr16 er16 hP hS => ?_)
        refine lv_if_eq (tgt := 269) hx hb md_Mo_hears_201 (by decide) (fun c_17 => ?_) (fun c_17 => ?_)
        · exact J6  _ _ _ (by rw [hj]; subst er16; simp only [mf_Mo_hears_0_j5, if_pos c_6, if_pos c_15, if_pos c_17])   hI hP hS (lv_sub hl [0, 1, 2, 3, 4] rfl)
        · refine lv_aload_n hx hb md_Mo_hears_204 rfl (lv_at hl 0 rfl) ?_
          refine fw_getr hx hb hts i_Mo hown hK hP (mm_0 (by decide)) (mk_0 0) rfl 21 (by decide) (hts _ L_Mo_71) (fun _ h9 => h9) rfl md_Mo_hears_205 ?_
          refine lv_iload_n hx hb md_Mo_hears_208 rfl (lv_at hl 1 rfl) ?_
          refine lv_iload_n hx hb md_Mo_hears_209 rfl (lv_at hl 3 rfl) ?_
          refine fw_iast hx hb hK hD hP hS (mm_22 (by decide)) (mk_22 0) 0 rfl (j := 0) (by decide) (fw_inc (by decide)) md_Mo_hears_210 (fun v18 H locs ev18 hP hS => ?_)
          have hI : mI b v18 := by rw [ev18]; exact mI_up hI trivial trivial
          refine lv_aload_n hx hb md_Mo_hears_211 rfl (lv_at hl 0 rfl) ?_
          refine fw_getr hx hb hts i_Mo hown hK hP (mm_0 (by decide)) (mk_0 0) rfl 17 (by decide) (hts _ L_Mo_59) (fun _ h9 => h9) rfl md_Mo_hears_212 ?_
          refine lv_iload_n hx hb md_Mo_hears_215 rfl (lv_at hl 1 rfl) ?_
          refine lv_iconst (v := (0 : Int32)) hx hb md_Mo_hears_216 (by decide) ?_
          refine fw_iast hx hb hK hD hP hS (mm_18 (by decide)) (mk_18 0) 0 rfl (j := 0) (by decide) (fw_inc (by decide)) md_Mo_hears_217 (fun v19 H locs ev19 hP hS => ?_)
          have hI : mI b v19 := by rw [ev19]; exact mI_up hI trivial trivial
          refine lv_aload_n hx hb md_Mo_hears_218 rfl (lv_at hl 0 rfl) ?_
          refine fw_getr hx hb hts i_Mo hown hK hP (mm_0 (by decide)) (mk_0 0) rfl 16 (by decide) (hts _ L_Mo_56) (fun _ h9 => h9) rfl md_Mo_hears_219 ?_
          refine lv_iload_n hx hb md_Mo_hears_222 rfl (lv_at hl 1 rfl) ?_
          refine lv_aload_n hx hb md_Mo_hears_223 rfl (lv_at hl 0 rfl) ?_
          refine fw_getr hx hb hts i_Mo hown hK hP (mm_0 (by decide)) (mk_0 0) rfl 9 (by decide) (hts _ L_Mo_38) (fun _ h9 => h9) rfl md_Mo_hears_224 ?_
          refine lv_bipush (v := (6 : Int32)) hx hb md_Mo_hears_227 (by decide) ?_
          refine fw_iald hx hb hK hP (mm_10 (by decide)) (mk_10 0) 0 rfl (j := 6) (by decide) (fw_inc (by decide)) md_Mo_hears_229 ?_
          refine fw_iast hx hb hK hD hP hS (mm_17 (by decide)) (mk_17 0) 0 rfl (j := 0) (by decide) (fw_inc (by decide)) md_Mo_hears_230 (fun v20 H locs ev20 hP hS => ?_)
          have hI : mI b v20 := by rw [ev20]; exact mI_up hI trivial trivial
          refine lv_iconst (v := (0 : Int32)) hx hb md_Mo_hears_231 (by decide) ?_
          refine lv_istore (lv' := [(5, .int (0 : Int32)), (0, .ref (ad 0 0)), (1, .int (0 : Int32)), (2, .int a2), (3, .int a3), (4, .int (v0 12 0 0))]) hx hb md_Mo_hears_232 hl (by decide) rfl (fun ls hl => ?_)
          refine lv_iload hx hb md_Mo_hears_234 (lv_at hl 0 rfl) ?_
          refine lv_bipush (v := (6 : Int32)) hx hb md_Mo_hears_236 (by decide) ?_
          refine lv_icmp_ge (tgt := 266) hx hb md_Mo_hears_238 (by decide) (fun c_21 => absurd c_21 (by decide)) (fun _ => ?_)
          refine lv_aload_n hx hb md_Mo_hears_241 rfl (lv_at hl 1 rfl) ?_
          refine fw_getr hx hb hts i_Mo hown hK hP (mm_0 (by decide)) (mk_0 0) rfl 26 (by decide) (hts _ L_Mo_86) (fun _ h9 => h9) rfl md_Mo_hears_242 ?_
          refine lv_bipush (v := (6 : Int32)) hx hb md_Mo_hears_245 (by decide) ?_
          refine lv_iload_n hx hb md_Mo_hears_247 rfl (lv_at hl 2 rfl) ?_
          refine lv_imul hx hb md_Mo_hears_248 ?_
          refine fw_top (y := (0 : Int32)) (by decide) ?_
          refine lv_iload hx hb md_Mo_hears_249 (lv_at hl 0 rfl) ?_
          refine lv_iadd hx hb md_Mo_hears_251 ?_
          refine fw_top (y := (0 : Int32)) (by decide) ?_
          refine lv_aload_n hx hb md_Mo_hears_252 rfl (lv_at hl 1 rfl) ?_
          refine fw_getr hx hb hts i_Mo hown hK hP (mm_0 (by decide)) (mk_0 0) rfl 9 (by decide) (hts _ L_Mo_38) (fun _ h9 => h9) rfl md_Mo_hears_253 ?_
          refine lv_iload hx hb md_Mo_hears_256 (lv_at hl 0 rfl) ?_
          refine fw_iald hx hb hK hP (mm_10 (by decide)) (mk_10 0) 0 rfl (j := 0) (by decide) (fw_inc (by decide)) md_Mo_hears_258 ?_
          refine fw_iast hx hb hK hD hP hS (mm_27 (by decide)) (mk_27 0) 0 rfl (j := 0) (by decide) (fw_inc (by decide)) md_Mo_hears_259 (fun v22 H locs ev22 hP hS => ?_)
          have hI : mI b v22 := by rw [ev22]; exact mI_up hI trivial trivial
          refine lv_iinc (v := (1 : Int32)) (lv' := [(5, .int (1 : Int32)), (0, .ref (ad 0 0)), (1, .int (0 : Int32)), (2, .int a2), (3, .int a3), (4, .int (v0 12 0 0))]) hx hb md_Mo_hears_260 hl (k := 0) rfl (by decide) (by decide) rfl (fun ls hl => ?_)
          refine lv_goto (tgt := 234) hx hb md_Mo_hears_263 (by decide) ?_
          refine lv_iload hx hb md_Mo_hears_234 (lv_at hl 0 rfl) ?_
          refine lv_bipush (v := (6 : Int32)) hx hb md_Mo_hears_236 (by decide) ?_
          refine lv_icmp_ge (tgt := 266) hx hb md_Mo_hears_238 (by decide) (fun c_23 => absurd c_23 (by decide)) (fun _ => ?_)
          refine lv_aload_n hx hb md_Mo_hears_241 rfl (lv_at hl 1 rfl) ?_
          refine fw_getr hx hb hts i_Mo hown hK hP (mm_0 (by decide)) (mk_0 0) rfl 26 (by decide) (hts _ L_Mo_86) (fun _ h9 => h9) rfl md_Mo_hears_242 ?_
          refine lv_bipush (v := (6 : Int32)) hx hb md_Mo_hears_245 (by decide) ?_
          refine lv_iload_n hx hb md_Mo_hears_247 rfl (lv_at hl 2 rfl) ?_
          refine lv_imul hx hb md_Mo_hears_248 ?_
          refine fw_top (y := (0 : Int32)) (by decide) ?_
          refine lv_iload hx hb md_Mo_hears_249 (lv_at hl 0 rfl) ?_
          refine lv_iadd hx hb md_Mo_hears_251 ?_
          refine fw_top (y := (1 : Int32)) (by decide) ?_
          refine lv_aload_n hx hb md_Mo_hears_252 rfl (lv_at hl 1 rfl) ?_
          refine fw_getr hx hb hts i_Mo hown hK hP (mm_0 (by decide)) (mk_0 0) rfl 9 (by decide) (hts _ L_Mo_38) (fun _ h9 => h9) rfl md_Mo_hears_253 ?_
          refine lv_iload hx hb md_Mo_hears_256 (lv_at hl 0 rfl) ?_
          refine fw_iald hx hb hK hP (mm_10 (by decide)) (mk_10 0) 0 rfl (j := 1) (by decide) (fw_inc (by decide)) md_Mo_hears_258 ?_
          refine fw_iast hx hb hK hD hP hS (mm_27 (by decide)) (mk_27 0) 0 rfl (j := 1) (by decide) (fw_inc (by decide)) md_Mo_hears_259 (fun v24 H locs ev24 hP hS => ?_)
          have hI : mI b v24 := by rw [ev24]; exact mI_up hI trivial trivial
          refine lv_iinc (v := (2 : Int32)) (lv' := [(5, .int (2 : Int32)), (0, .ref (ad 0 0)), (1, .int (0 : Int32)), (2, .int a2), (3, .int a3), (4, .int (v0 12 0 0))]) hx hb md_Mo_hears_260 hl (k := 0) rfl (by decide) (by decide) rfl (fun ls hl => ?_)
          refine lv_goto (tgt := 234) hx hb md_Mo_hears_263 (by decide) ?_
          refine lv_iload hx hb md_Mo_hears_234 (lv_at hl 0 rfl) ?_
          refine lv_bipush (v := (6 : Int32)) hx hb md_Mo_hears_236 (by decide) ?_
          refine lv_icmp_ge (tgt := 266) hx hb md_Mo_hears_238 (by decide) (fun c_25 => absurd c_25 (by decide)) (fun _ => ?_)
          refine lv_aload_n hx hb md_Mo_hears_241 rfl (lv_at hl 1 rfl) ?_
          refine fw_getr hx hb hts i_Mo hown hK hP (mm_0 (by decide)) (mk_0 0) rfl 26 (by decide) (hts _ L_Mo_86) (fun _ h9 => h9) rfl md_Mo_hears_242 ?_
          refine lv_bipush (v := (6 : Int32)) hx hb md_Mo_hears_245 (by decide) ?_
          refine lv_iload_n hx hb md_Mo_hears_247 rfl (lv_at hl 2 rfl) ?_
          refine lv_imul hx hb md_Mo_hears_248 ?_
          refine fw_top (y := (0 : Int32)) (by decide) ?_
          refine lv_iload hx hb md_Mo_hears_249 (lv_at hl 0 rfl) ?_
          refine lv_iadd hx hb md_Mo_hears_251 ?_
          refine fw_top (y := (2 : Int32)) (by decide) ?_
          refine lv_aload_n hx hb md_Mo_hears_252 rfl (lv_at hl 1 rfl) ?_
          refine fw_getr hx hb hts i_Mo hown hK hP (mm_0 (by decide)) (mk_0 0) rfl 9 (by decide) (hts _ L_Mo_38) (fun _ h9 => h9) rfl md_Mo_hears_253 ?_
          refine lv_iload hx hb md_Mo_hears_256 (lv_at hl 0 rfl) ?_
          refine fw_iald hx hb hK hP (mm_10 (by decide)) (mk_10 0) 0 rfl (j := 2) (by decide) (fw_inc (by decide)) md_Mo_hears_258 ?_
          refine fw_iast hx hb hK hD hP hS (mm_27 (by decide)) (mk_27 0) 0 rfl (j := 2) (by decide) (fw_inc (by decide)) md_Mo_hears_259 (fun v26 H locs ev26 hP hS => ?_)
          have hI : mI b v26 := by rw [ev26]; exact mI_up hI trivial trivial
          refine lv_iinc (v := (3 : Int32)) (lv' := [(5, .int (3 : Int32)), (0, .ref (ad 0 0)), (1, .int (0 : Int32)), (2, .int a2), (3, .int a3), (4, .int (v0 12 0 0))]) hx hb md_Mo_hears_260 hl (k := 0) rfl (by decide) (by decide) rfl (fun ls hl => ?_)
          refine lv_goto (tgt := 234) hx hb md_Mo_hears_263 (by decide) ?_
          refine lv_iload hx hb md_Mo_hears_234 (lv_at hl 0 rfl) ?_
          refine lv_bipush (v := (6 : Int32)) hx hb md_Mo_hears_236 (by decide) ?_
          refine lv_icmp_ge (tgt := 266) hx hb md_Mo_hears_238 (by decide) (fun c_27 => absurd c_27 (by decide)) (fun _ => ?_)
          refine lv_aload_n hx hb md_Mo_hears_241 rfl (lv_at hl 1 rfl) ?_
          refine fw_getr hx hb hts i_Mo hown hK hP (mm_0 (by decide)) (mk_0 0) rfl 26 (by decide) (hts _ L_Mo_86) (fun _ h9 => h9) rfl md_Mo_hears_242 ?_
          refine lv_bipush (v := (6 : Int32)) hx hb md_Mo_hears_245 (by decide) ?_
          refine lv_iload_n hx hb md_Mo_hears_247 rfl (lv_at hl 2 rfl) ?_
          refine lv_imul hx hb md_Mo_hears_248 ?_
          refine fw_top (y := (0 : Int32)) (by decide) ?_
          refine lv_iload hx hb md_Mo_hears_249 (lv_at hl 0 rfl) ?_
          refine lv_iadd hx hb md_Mo_hears_251 ?_
          refine fw_top (y := (3 : Int32)) (by decide) ?_
          refine lv_aload_n hx hb md_Mo_hears_252 rfl (lv_at hl 1 rfl) ?_
          refine fw_getr hx hb hts i_Mo hown hK hP (mm_0 (by decide)) (mk_0 0) rfl 9 (by decide) (hts _ L_Mo_38) (fun _ h9 => h9) rfl md_Mo_hears_253 ?_
          refine lv_iload hx hb md_Mo_hears_256 (lv_at hl 0 rfl) ?_
          refine fw_iald hx hb hK hP (mm_10 (by decide)) (mk_10 0) 0 rfl (j := 3) (by decide) (fw_inc (by decide)) md_Mo_hears_258 ?_
          refine fw_iast hx hb hK hD hP hS (mm_27 (by decide)) (mk_27 0) 0 rfl (j := 3) (by decide) (fw_inc (by decide)) md_Mo_hears_259 (fun v28 H locs ev28 hP hS => ?_)
          have hI : mI b v28 := by rw [ev28]; exact mI_up hI trivial trivial
          refine lv_iinc (v := (4 : Int32)) (lv' := [(5, .int (4 : Int32)), (0, .ref (ad 0 0)), (1, .int (0 : Int32)), (2, .int a2), (3, .int a3), (4, .int (v0 12 0 0))]) hx hb md_Mo_hears_260 hl (k := 0) rfl (by decide) (by decide) rfl (fun ls hl => ?_)
          refine lv_goto (tgt := 234) hx hb md_Mo_hears_263 (by decide) ?_
          refine lv_iload hx hb md_Mo_hears_234 (lv_at hl 0 rfl) ?_
          refine lv_bipush (v := (6 : Int32)) hx hb md_Mo_hears_236 (by decide) ?_
          refine lv_icmp_ge (tgt := 266) hx hb md_Mo_hears_238 (by decide) (fun c_29 => absurd c_29 (by decide)) (fun _ => ?_)
          refine lv_aload_n hx hb md_Mo_hears_241 rfl (lv_at hl 1 rfl) ?_
          refine fw_getr hx hb hts i_Mo hown hK hP (mm_0 (by decide)) (mk_0 0) rfl 26 (by decide) (hts _ L_Mo_86) (fun _ h9 => h9) rfl md_Mo_hears_242 ?_
          refine lv_bipush (v := (6 : Int32)) hx hb md_Mo_hears_245 (by decide) ?_
          refine lv_iload_n hx hb md_Mo_hears_247 rfl (lv_at hl 2 rfl) ?_
          refine lv_imul hx hb md_Mo_hears_248 ?_
          refine fw_top (y := (0 : Int32)) (by decide) ?_
          refine lv_iload hx hb md_Mo_hears_249 (lv_at hl 0 rfl) ?_
          refine lv_iadd hx hb md_Mo_hears_251 ?_
          refine fw_top (y := (4 : Int32)) (by decide) ?_
          refine lv_aload_n hx hb md_Mo_hears_252 rfl (lv_at hl 1 rfl) ?_
          refine fw_getr hx hb hts i_Mo hown hK hP (mm_0 (by decide)) (mk_0 0) rfl 9 (by decide) (hts _ L_Mo_38) (fun _ h9 => h9) rfl md_Mo_hears_253 ?_
          refine lv_iload hx hb md_Mo_hears_256 (lv_at hl 0 rfl) ?_
          refine fw_iald hx hb hK hP (mm_10 (by decide)) (mk_10 0) 0 rfl (j := 4) (by decide) (fw_inc (by decide)) md_Mo_hears_258 ?_
          refine fw_iast hx hb hK hD hP hS (mm_27 (by decide)) (mk_27 0) 0 rfl (j := 4) (by decide) (fw_inc (by decide)) md_Mo_hears_259 (fun v30 H locs ev30 hP hS => ?_)
          have hI : mI b v30 := by rw [ev30]; exact mI_up hI trivial trivial
          refine lv_iinc (v := (5 : Int32)) (lv' := [(5, .int (5 : Int32)), (0, .ref (ad 0 0)), (1, .int (0 : Int32)), (2, .int a2), (3, .int a3), (4, .int (v0 12 0 0))]) hx hb md_Mo_hears_260 hl (k := 0) rfl (by decide) (by decide) rfl (fun ls hl => ?_)
          refine lv_goto (tgt := 234) hx hb md_Mo_hears_263 (by decide) ?_
          refine lv_iload hx hb md_Mo_hears_234 (lv_at hl 0 rfl) ?_
          refine lv_bipush (v := (6 : Int32)) hx hb md_Mo_hears_236 (by decide) ?_
          refine lv_icmp_ge (tgt := 266) hx hb md_Mo_hears_238 (by decide) (fun c_31 => absurd c_31 (by decide)) (fun _ => ?_)
          refine lv_aload_n hx hb md_Mo_hears_241 rfl (lv_at hl 1 rfl) ?_
          refine fw_getr hx hb hts i_Mo hown hK hP (mm_0 (by decide)) (mk_0 0) rfl 26 (by decide) (hts _ L_Mo_86) (fun _ h9 => h9) rfl md_Mo_hears_242 ?_
          refine lv_bipush (v := (6 : Int32)) hx hb md_Mo_hears_245 (by decide) ?_
          refine lv_iload_n hx hb md_Mo_hears_247 rfl (lv_at hl 2 rfl) ?_
          refine lv_imul hx hb md_Mo_hears_248 ?_
          refine fw_top (y := (0 : Int32)) (by decide) ?_
          refine lv_iload hx hb md_Mo_hears_249 (lv_at hl 0 rfl) ?_
          refine lv_iadd hx hb md_Mo_hears_251 ?_
          refine fw_top (y := (5 : Int32)) (by decide) ?_
          refine lv_aload_n hx hb md_Mo_hears_252 rfl (lv_at hl 1 rfl) ?_
          refine fw_getr hx hb hts i_Mo hown hK hP (mm_0 (by decide)) (mk_0 0) rfl 9 (by decide) (hts _ L_Mo_38) (fun _ h9 => h9) rfl md_Mo_hears_253 ?_
          refine lv_iload hx hb md_Mo_hears_256 (lv_at hl 0 rfl) ?_
          refine fw_iald hx hb hK hP (mm_10 (by decide)) (mk_10 0) 0 rfl (j := 5) (by decide) (fw_inc (by decide)) md_Mo_hears_258 ?_
          refine fw_iast hx hb hK hD hP hS (mm_27 (by decide)) (mk_27 0) 0 rfl (j := 5) (by decide) (fw_inc (by decide)) md_Mo_hears_259 (fun v32 H locs ev32 hP hS => ?_)
          have hI : mI b v32 := by rw [ev32]; exact mI_up hI trivial trivial
          refine lv_iinc (v := (6 : Int32)) (lv' := [(5, .int (6 : Int32)), (0, .ref (ad 0 0)), (1, .int (0 : Int32)), (2, .int a2), (3, .int a3), (4, .int (v0 12 0 0))]) hx hb md_Mo_hears_260 hl (k := 0) rfl (by decide) (by decide) rfl (fun ls hl => ?_)
          refine lv_goto (tgt := 234) hx hb md_Mo_hears_263 (by decide) ?_
          refine lv_iload hx hb md_Mo_hears_234 (lv_at hl 0 rfl) ?_
          refine lv_bipush (v := (6 : Int32)) hx hb md_Mo_hears_236 (by decide) ?_
          refine lv_icmp_ge (tgt := 266) hx hb md_Mo_hears_238 (by decide) (fun _ => ?_) (fun c_33 => absurd (by decide) c_33)
          refine lv_goto (tgt := 331) hx hb md_Mo_hears_266 (by decide) ?_
          exact fw_vret hx hb hr hlocks hS hP hI md_Mo_hears_331 (by rw [hj]; subst er16 ev18 ev19 ev20 ev22 ev24 ev26 ev28 ev30 ev32; simp only [mf_Mo_hears_0_j5, if_pos c_6, if_pos c_15, if_neg c_17])
  have J4 : ∀  (H : Heap) (locs : List Loc) (ls : Array Slot), mf_Mo_hears_0 v0 a2 a3 = mf_Mo_hears_0_j4 v0 a2 a3 → mI b v0 → va_P D vcls (fw_w mCL cA mkd ad v0) H → va_S (fw_A mCL ad) s.heap H locs → lv_has ls 6 [(0, .ref (ad 0 0)), (1, .int (0 : Int32)), (2, .int a2), (3, .int a3), (4, .int (v0 12 0 0))] → W p l e (headSpec (Cond.code my_Mo_hears mb_Mo_hears 6 none :: vTB) mrm_Mo_hears).room s m ([.ref (ad 0 0), .int (0 : Int32), .int a2, .int a3] : List Value).toArray below meth c H locs 0 0 (MQ below (fw_Qv D vcls mCL cA mkd ad (mI b) (mf_Mo_hears_0 v0 a2 a3)) ([.ref (ad 0 0), .int (0 : Int32), .int a2, .int a3] : List Value).toArray s 0 0 (fw_A mCL ad)) (F0 m 108 ls []) := by
    intro  H locs ls hj  hI hP hS hl
    clear J6
    refine lv_iload_n hx hb md_Mo_hears_108 rfl (lv_at hl 2 rfl) ?_
    refine lv_bipush (v := (10 : Int32)) hx hb md_Mo_hears_109 (by decide) ?_
    refine lv_icmp_ne (tgt := 178) hx hb md_Mo_hears_111 (by decide) (fun c_5 => ?_) (fun c_5 => ?_)
    · exact J5  _ _ _ (by rw [hj]; simp only [mf_Mo_hears_0_j4, if_neg c_5])   hI hP hS (lv_sub hl [0, 1, 2, 3, 4] rfl)
    · refine lv_iload hx hb md_Mo_hears_114 (lv_at hl 4 rfl) ?_
      refine lv_iconst (v := (5 : Int32)) hx hb md_Mo_hears_116 (by decide) ?_
      refine lv_icmp_lt (tgt := 178) hx hb md_Mo_hears_117 (by decide) (fun c_34 => ?_) (fun c_34 => ?_)
      · exact J5  _ _ _ (by rw [hj]; simp only [mf_Mo_hears_0_j4, if_pos c_5, if_pos c_34])   hI hP hS (lv_sub hl [0, 1, 2, 3, 4] rfl)
      · refine lv_aload_n hx hb md_Mo_hears_120 rfl (lv_at hl 0 rfl) ?_
        refine lv_bipush (v := (11 : Int32)) hx hb md_Mo_hears_121 (by decide) ?_
        refine lv_aload_n hx hb md_Mo_hears_123 rfl (lv_at hl 0 rfl) ?_
        refine fw_getr hx hb hts i_Mo hown hK hP (mm_0 (by decide)) (mk_0 0) rfl 12 (by decide) (hts _ L_Mo_44) (fun _ h9 => h9) rfl md_Mo_hears_124 ?_
        refine lv_iload_n hx hb md_Mo_hears_127 rfl (lv_at hl 1 rfl) ?_
        refine fw_iald hx hb hK hP (mm_13 (by decide)) (mk_13 0) 0 rfl (j := 0) (by decide) (fw_inc (by decide)) md_Mo_hears_128 ?_
        refine lv_iconst (v := (0 : Int32)) hx hb md_Mo_hears_129 (by decide) ?_
        refine lv_aload_n hx hb md_Mo_hears_130 rfl (lv_at hl 0 rfl) ?_
        refine fw_getr hx hb hts i_Mo hown hK hP (mm_0 (by decide)) (mk_0 0) rfl 14 (by decide) (hts _ L_Mo_50) (fun _ h9 => h9) rfl md_Mo_hears_131 ?_
        refine lv_iload_n hx hb md_Mo_hears_134 rfl (lv_at hl 1 rfl) ?_
        refine fw_iald hx hb hK hP (mm_15 (by decide)) (mk_15 0) 0 rfl (j := 0) (by decide) (fw_inc (by decide)) md_Mo_hears_135 ?_
        refine fw_cv (va_runV (As := [.int (11 : Int32), .int (v0 13 0 0), .int (0 : Int32), .int (v0 15 0 0)]) (rest := []) ⟨hx, hb, hml, hown, hts⟩ (mc_Mo_send l hD v0 hI (11 : Int32) (v0 13 0 0) (0 : Int32) (v0 15 0 0) (fun q => absurd q (by decide)) (fun q => absurd q (by decide)) (fun q => absurd q (by decide))) (mw_Mo_send hts L_Mo_197 ⟨Nat.le_of_ble_eq_true rfl, Nat.le_of_ble_eq_true rfl⟩) (fw_preV hN hK hP (mm_0 (by decide)) (mk_0 0) rfl) rfl rfl hl.1 rfl (lv_room (Nat.le_of_ble_eq_true rfl)) md_Mo_hears_136 ⟨Nat.le_of_ble_eq_true rfl, Nat.le_of_ble_eq_true rfl⟩) hS (fun v35 H locs ev35 hI hP hS => ?_)
        refine lv_iload hx hb md_Mo_hears_139 (lv_at hl 4 rfl) ?_
        refine lv_bipush (v := (6 : Int32)) hx hb md_Mo_hears_141 (by decide) ?_
        refine lv_icmp_ne (tgt := 147) hx hb md_Mo_hears_143 (by decide) (fun c_36 => ?_) (fun c_36 => ?_)
        · refine lv_aload_n hx hb md_Mo_hears_147 rfl (lv_at hl 0 rfl) ?_
          refine lv_iload_n hx hb md_Mo_hears_148 rfl (lv_at hl 1 rfl) ?_
          refine lv_bipush (v := (6 : Int32)) hx hb md_Mo_hears_149 (by decide) ?_
          refine fw_cv (va_runV (As := [.int (0 : Int32), .int (6 : Int32)]) (rest := []) ⟨hx, hb, hml, hown, hts⟩ (mc_Mo_enter_0 l hD (b := b) v35 (6 : Int32) (mI b) (mI_enter_0 hI (6 : Int32) (by decide))) (mw_Mo_enter hts L_Mo_200 ⟨Nat.le_of_ble_eq_true rfl, Nat.le_of_ble_eq_true rfl⟩) (fw_preV hN hK hP (mm_0 (by decide)) (mk_0 0) rfl) rfl rfl hl.1 rfl (lv_room (Nat.le_of_ble_eq_true rfl)) md_Mo_hears_151 ⟨Nat.le_of_ble_eq_true rfl, Nat.le_of_ble_eq_true rfl⟩) hS (fun v37 H locs ev37 hI hP hS => ?_)
          refine lv_aload_n hx hb md_Mo_hears_154 rfl (lv_at hl 0 rfl) ?_
          refine fw_getr hx hb hts i_Mo hown hK hP (mm_0 (by decide)) (mk_0 0) rfl 20 (by decide) (hts _ L_Mo_68) (fun _ h9 => h9) rfl md_Mo_hears_155 ?_
          refine lv_iload_n hx hb md_Mo_hears_158 rfl (lv_at hl 1 rfl) ?_
          refine lv_iconst (v := (0 : Int32)) hx hb md_Mo_hears_159 (by decide) ?_
          refine fw_iast hx hb hK hD hP hS (mm_21 (by decide)) (mk_21 0) 0 rfl (j := 0) (by decide) (fw_inc (by decide)) md_Mo_hears_160 (fun v38 H locs ev38 hP hS => ?_)
          have hI : mI b v38 := by rw [ev38]; exact mI_up hI trivial trivial
          refine lv_aload_n hx hb md_Mo_hears_161 rfl (lv_at hl 0 rfl) ?_
          refine fw_getr hx hb hts i_Mo hown hK hP (mm_0 (by decide)) (mk_0 0) rfl 21 (by decide) (hts _ L_Mo_71) (fun _ h9 => h9) rfl md_Mo_hears_162 ?_
          refine lv_iload_n hx hb md_Mo_hears_165 rfl (lv_at hl 1 rfl) ?_
          refine lv_iconst (v := (-1 : Int32)) hx hb md_Mo_hears_166 (by decide) ?_
          refine fw_iast hx hb hK hD hP hS (mm_22 (by decide)) (mk_22 0) 0 rfl (j := 0) (by decide) (fw_inc (by decide)) md_Mo_hears_167 (fun v39 H locs ev39 hP hS => ?_)
          have hI : mI b v39 := by rw [ev39]; exact mI_up hI trivial trivial
          refine lv_aload_n hx hb md_Mo_hears_168 rfl (lv_at hl 0 rfl) ?_
          refine fw_getr hx hb hts i_Mo hown hK hP (mm_0 (by decide)) (mk_0 0) rfl 16 (by decide) (hts _ L_Mo_56) (fun _ h9 => h9) rfl md_Mo_hears_169 ?_
          refine lv_iload_n hx hb md_Mo_hears_172 rfl (lv_at hl 1 rfl) ?_
          refine lv_iconst (v := (0 : Int32)) hx hb md_Mo_hears_173 (by decide) ?_
          refine fw_iast hx hb hK hD hP hS (mm_17 (by decide)) (mk_17 0) 0 rfl (j := 0) (by decide) (fw_inc (by decide)) md_Mo_hears_174 (fun v40 H locs ev40 hP hS => ?_)
          have hI : mI b v40 := by rw [ev40]; exact mI_up hI trivial trivial
          refine lv_goto (tgt := 331) hx hb md_Mo_hears_175 (by decide) ?_
          exact fw_vret hx hb hr hlocks hS hP hI md_Mo_hears_331 (by rw [hj]; subst ev35 ev37 ev38 ev39 ev40; simp only [mf_Mo_hears_0_j4, if_pos c_5, if_neg c_34, if_neg c_36])
        · exact fw_vret hx hb hr hlocks hS hP hI md_Mo_hears_146 (by rw [hj]; subst ev35; simp only [mf_Mo_hears_0_j4, if_pos c_5, if_neg c_34, if_pos c_36])
  have J3 : ∀  (H : Heap) (locs : List Loc) (ls : Array Slot), mf_Mo_hears_0 v0 a2 a3 = mf_Mo_hears_0_j3 v0 a2 a3 → mI b v0 → va_P D vcls (fw_w mCL cA mkd ad v0) H → va_S (fw_A mCL ad) s.heap H locs → lv_has ls 6 [(0, .ref (ad 0 0)), (1, .int (0 : Int32)), (2, .int a2), (3, .int a3), (4, .int (v0 12 0 0))] → W p l e (headSpec (Cond.code my_Mo_hears mb_Mo_hears 6 none :: vTB) mrm_Mo_hears).room s m ([.ref (ad 0 0), .int (0 : Int32), .int a2, .int a3] : List Value).toArray below meth c H locs 0 0 (MQ below (fw_Qv D vcls mCL cA mkd ad (mI b) (mf_Mo_hears_0 v0 a2 a3)) ([.ref (ad 0 0), .int (0 : Int32), .int a2, .int a3] : List Value).toArray s 0 0 (fw_A mCL ad)) (F0 m 87 ls []) := by
    intro  H locs ls hj  hI hP hS hl
    clear J6 J5
    refine lv_iload_n hx hb md_Mo_hears_87 rfl (lv_at hl 2 rfl) ?_
    refine lv_bipush (v := (9 : Int32)) hx hb md_Mo_hears_88 (by decide) ?_
    refine lv_icmp_ne (tgt := 108) hx hb md_Mo_hears_90 (by decide) (fun c_4 => ?_) (fun c_4 => ?_)
    · exact J4  _ _ _ (by rw [hj]; simp only [mf_Mo_hears_0_j3, if_neg c_4])   hI hP hS (lv_sub hl [0, 1, 2, 3, 4] rfl)
    · refine lv_iload hx hb md_Mo_hears_93 (lv_at hl 4 rfl) ?_
      refine lv_iconst (v := (4 : Int32)) hx hb md_Mo_hears_95 (by decide) ?_
      refine lv_icmp_ne (tgt := 108) hx hb md_Mo_hears_96 (by decide) (fun c_41 => ?_) (fun c_41 => ?_)
      · exact J4  _ _ _ (by rw [hj]; simp only [mf_Mo_hears_0_j3, if_pos c_4, if_neg c_41])   hI hP hS (lv_sub hl [0, 1, 2, 3, 4] rfl)
      · refine lv_aload_n hx hb md_Mo_hears_99 rfl (lv_at hl 0 rfl) ?_
        refine lv_iload_n hx hb md_Mo_hears_100 rfl (lv_at hl 1 rfl) ?_
        refine lv_iconst (v := (5 : Int32)) hx hb md_Mo_hears_101 (by decide) ?_
        refine fw_cv (va_runV (As := [.int (0 : Int32), .int (5 : Int32)]) (rest := []) ⟨hx, hb, hml, hown, hts⟩ (mc_Mo_enter_0 l hD (b := b) v0 (5 : Int32) (mI b) (mI_enter_0 hI (5 : Int32) (by decide))) (mw_Mo_enter hts L_Mo_200 ⟨Nat.le_of_ble_eq_true rfl, Nat.le_of_ble_eq_true rfl⟩) (fw_preV hN hK hP (mm_0 (by decide)) (mk_0 0) rfl) rfl rfl hl.1 rfl (lv_room (Nat.le_of_ble_eq_true rfl)) md_Mo_hears_102 ⟨Nat.le_of_ble_eq_true rfl, Nat.le_of_ble_eq_true rfl⟩) hS (fun v42 H locs ev42 hI hP hS => ?_)
        refine lv_goto (tgt := 331) hx hb md_Mo_hears_105 (by decide) ?_
        exact fw_vret hx hb hr hlocks hS hP hI md_Mo_hears_331 (by rw [hj]; subst ev42; simp only [mf_Mo_hears_0_j3, if_pos c_4, if_pos c_41])
  have J2 : ∀  (H : Heap) (locs : List Loc) (ls : Array Slot), mf_Mo_hears_0 v0 a2 a3 = mf_Mo_hears_0_j2 v0 a2 a3 → mI b v0 → va_P D vcls (fw_w mCL cA mkd ad v0) H → va_S (fw_A mCL ad) s.heap H locs → lv_has ls 6 [(0, .ref (ad 0 0)), (1, .int (0 : Int32)), (2, .int a2), (3, .int a3), (4, .int (v0 12 0 0))] → W p l e (headSpec (Cond.code my_Mo_hears mb_Mo_hears 6 none :: vTB) mrm_Mo_hears).room s m ([.ref (ad 0 0), .int (0 : Int32), .int a2, .int a3] : List Value).toArray below meth c H locs 0 0 (MQ below (fw_Qv D vcls mCL cA mkd ad (mI b) (mf_Mo_hears_0 v0 a2 a3)) ([.ref (ad 0 0), .int (0 : Int32), .int a2, .int a3] : List Value).toArray s 0 0 (fw_A mCL ad)) (F0 m 54 ls []) := by
    intro  H locs ls hj  hI hP hS hl
    clear J6 J5 J4
    refine lv_iload_n hx hb md_Mo_hears_54 rfl (lv_at hl 2 rfl) ?_
    refine lv_bipush (v := (7 : Int32)) hx hb md_Mo_hears_55 (by decide) ?_
    refine lv_icmp_ne (tgt := 87) hx hb md_Mo_hears_57 (by decide) (fun c_3 => ?_) (fun c_3 => ?_)
    · exact J3  _ _ _ (by rw [hj]; simp only [mf_Mo_hears_0_j2, if_neg c_3])   hI hP hS (lv_sub hl [0, 1, 2, 3, 4] rfl)
    · refine lv_iload hx hb md_Mo_hears_60 (lv_at hl 4 rfl) ?_
      refine lv_iconst (v := (3 : Int32)) hx hb md_Mo_hears_62 (by decide) ?_
      refine lv_icmp_ne (tgt := 87) hx hb md_Mo_hears_63 (by decide) (fun c_43 => ?_) (fun c_43 => ?_)
      · exact J3  _ _ _ (by rw [hj]; simp only [mf_Mo_hears_0_j2, if_pos c_3, if_neg c_43])   hI hP hS (lv_sub hl [0, 1, 2, 3, 4] rfl)
      · have h_44 : vp_in (v0 20 0 0) 3 := hI.2.2.1 0 c_43
        refine lv_iload_n hx hb md_Mo_hears_66 rfl (lv_at hl 3 rfl) ?_
        refine lv_aload_n hx hb md_Mo_hears_67 rfl (lv_at hl 0 rfl) ?_
        refine fw_getr hx hb hts i_Mo hown hK hP (mm_0 (by decide)) (mk_0 0) rfl 19 (by decide) (hts _ L_Mo_65) (fun _ h9 => h9) rfl md_Mo_hears_68 ?_
        refine lv_iload_n hx hb md_Mo_hears_71 rfl (lv_at hl 1 rfl) ?_
        refine fw_iald hx hb hK hP (mm_20 (by decide)) (mk_20 0) 0 rfl (j := 0) (by decide) (fw_inc (by decide)) md_Mo_hears_72 ?_
        have h_45 : vp_in (v0 20 0 0) 4 := hI.1 20 0 (0)
        refine lv_icmp_ne (tgt := 87) hx hb md_Mo_hears_73 (by decide) (fun c_46 => ?_) (fun c_46 => ?_)
        · exact J3  _ _ _ (by rw [hj]; simp only [mf_Mo_hears_0_j2, if_pos c_3, if_pos c_43, if_neg c_46])   hI hP hS (lv_sub hl [0, 1, 2, 3, 4] rfl)
        · have h_47 : vp_in a3 3 := by rw [c_46]; exact h_44
          refine lv_aload_n hx hb md_Mo_hears_76 rfl (lv_at hl 0 rfl) ?_
          refine lv_iload_n hx hb md_Mo_hears_77 rfl (lv_at hl 1 rfl) ?_
          refine lv_iload_n hx hb md_Mo_hears_78 rfl (lv_at hl 3 rfl) ?_
          refine lv_iconst (v := (1 : Int32)) hx hb md_Mo_hears_79 (by decide) ?_
          refine lv_iadd hx hb md_Mo_hears_80 ?_
          refine fw_cv (va_runV (As := [.int (0 : Int32), .int (a3 + (1 : Int32))]) (rest := []) ⟨hx, hb, hml, hown, hts⟩ (mc_Mo_write_0 l hD v0 hI (a3 + (1 : Int32)) (fw_inp1 h_47 (by decide))) (mw_Mo_write hts L_Mo_222 ⟨Nat.le_of_ble_eq_true rfl, Nat.le_of_ble_eq_true rfl⟩) (fw_preV hN hK hP (mm_0 (by decide)) (mk_0 0) rfl) rfl rfl hl.1 rfl (lv_room (Nat.le_of_ble_eq_true rfl)) md_Mo_hears_81 ⟨Nat.le_of_ble_eq_true rfl, Nat.le_of_ble_eq_true rfl⟩) hS (fun v48 H locs ev48 hI hP hS => ?_)
          refine lv_goto (tgt := 331) hx hb md_Mo_hears_84 (by decide) ?_
          exact fw_vret hx hb hr hlocks hS hP hI md_Mo_hears_331 (by rw [hj]; subst ev48; simp only [mf_Mo_hears_0_j2, if_pos c_3, if_pos c_43, if_pos c_46])
  have J1 : ∀  (H : Heap) (locs : List Loc) (ls : Array Slot), mf_Mo_hears_0 v0 a2 a3 = mf_Mo_hears_0_j1 v0 a2 a3 → mI b v0 → va_P D vcls (fw_w mCL cA mkd ad v0) H → va_S (fw_A mCL ad) s.heap H locs → lv_has ls 6 [(0, .ref (ad 0 0)), (1, .int (0 : Int32)), (2, .int a2), (3, .int a3), (4, .int (v0 12 0 0))] → W p l e (headSpec (Cond.code my_Mo_hears mb_Mo_hears 6 none :: vTB) mrm_Mo_hears).room s m ([.ref (ad 0 0), .int (0 : Int32), .int a2, .int a3] : List Value).toArray below meth c H locs 0 0 (MQ below (fw_Qv D vcls mCL cA mkd ad (mI b) (mf_Mo_hears_0 v0 a2 a3)) ([.ref (ad 0 0), .int (0 : Int32), .int a2, .int a3] : List Value).toArray s 0 0 (fw_A mCL ad)) (F0 m 35 ls []) := by
    intro  H locs ls hj  hI hP hS hl
    clear J6 J5 J4 J3
    refine lv_iload_n hx hb md_Mo_hears_35 rfl (lv_at hl 2 rfl) ?_
    refine lv_iconst (v := (5 : Int32)) hx hb md_Mo_hears_36 (by decide) ?_
    refine lv_icmp_ne (tgt := 54) hx hb md_Mo_hears_37 (by decide) (fun c_2 => ?_) (fun c_2 => ?_)
    · exact J2  _ _ _ (by rw [hj]; simp only [mf_Mo_hears_0_j1, if_neg c_2])   hI hP hS (lv_sub hl [0, 1, 2, 3, 4] rfl)
    · refine lv_iload hx hb md_Mo_hears_40 (lv_at hl 4 rfl) ?_
      refine lv_iconst (v := (2 : Int32)) hx hb md_Mo_hears_42 (by decide) ?_
      refine lv_icmp_ne (tgt := 54) hx hb md_Mo_hears_43 (by decide) (fun c_49 => ?_) (fun c_49 => ?_)
      · exact J2  _ _ _ (by rw [hj]; simp only [mf_Mo_hears_0_j1, if_pos c_2, if_neg c_49])   hI hP hS (lv_sub hl [0, 1, 2, 3, 4] rfl)
      · refine lv_aload_n hx hb md_Mo_hears_46 rfl (lv_at hl 0 rfl) ?_
        refine lv_iload_n hx hb md_Mo_hears_47 rfl (lv_at hl 1 rfl) ?_
        refine fw_cv (va_runV (As := [.int (0 : Int32)]) (rest := []) ⟨hx, hb, hml, hown, hts⟩ (mc_Mo_shut_0 l hD v0 hI ) (mw_Mo_shut hts L_Mo_203 ⟨Nat.le_of_ble_eq_true rfl, Nat.le_of_ble_eq_true rfl⟩) (fw_preV hN hK hP (mm_0 (by decide)) (mk_0 0) rfl) rfl rfl hl.1 rfl (lv_room (Nat.le_of_ble_eq_true rfl)) md_Mo_hears_48 ⟨Nat.le_of_ble_eq_true rfl, Nat.le_of_ble_eq_true rfl⟩) hS (fun v50 H locs ev50 hI hP hS => ?_)
        refine lv_goto (tgt := 331) hx hb md_Mo_hears_51 (by decide) ?_
        exact fw_vret hx hb hr hlocks hS hP hI md_Mo_hears_331 (by rw [hj]; subst ev50; simp only [mf_Mo_hears_0_j1, if_pos c_2, if_pos c_49])
  clear J6 J5 J4 J3 J2
  have hl := lv_entry ([.ref (ad 0 0), .int (0 : Int32), .int a2, .int a3]) (n := 6) (Nat.le_of_ble_eq_true rfl)
  rw [lg_entry_eq]
  generalize (lg_sl ([.ref (ad 0 0), .int (0 : Int32), .int a2, .int a3]) ++ List.replicate (6 - (lg_sl ([.ref (ad 0 0), .int (0 : Int32), .int a2, .int a3])).length) Slot.unset).toArray = ls at hl ⊢
  have hl : lv_has ls 6 [(0, .ref (ad 0 0)), (1, .int (0 : Int32)), (2, .int a2), (3, .int a3)] := hl
  refine lv_aload_n hx hb md_Mo_hears_0 rfl (lv_at hl 0 rfl) ?_
  refine fw_getr hx hb hts i_Mo hown hK hP (mm_0 (by decide)) (mk_0 0) rfl 11 (by decide) (hts _ L_Mo_41) (fun _ h9 => h9) rfl md_Mo_hears_1 ?_
  refine lv_iload_n hx hb md_Mo_hears_4 rfl (lv_at hl 1 rfl) ?_
  refine fw_iald hx hb hK hP (mm_12 (by decide)) (mk_12 0) 0 rfl (j := 0) (by decide) (fw_inc (by decide)) md_Mo_hears_5 ?_
  refine lv_istore (lv' := [(4, .int (v0 12 0 0)), (0, .ref (ad 0 0)), (1, .int (0 : Int32)), (2, .int a2), (3, .int a3)]) hx hb md_Mo_hears_6 hl (by decide) rfl (fun ls hl => ?_)
  refine lv_iload_n hx hb md_Mo_hears_8 rfl (lv_at hl 3 rfl) ?_
  refine lv_iconst (v := (4 : Int32)) hx hb md_Mo_hears_9 (by decide) ?_
  refine lv_icmp_ne (tgt := 35) hx hb md_Mo_hears_10 (by decide) (fun c_1 => ?_) (fun c_1 => ?_)
  · exact J1  _ _ _ (by simp only [mf_Mo_hears_0, if_neg c_1])   hI hP hS (lv_sub hl [1, 2, 3, 4, 0] rfl)
  · refine lv_iload hx hb md_Mo_hears_13 (lv_at hl 0 rfl) ?_
    refine lv_iconst (v := (2 : Int32)) hx hb md_Mo_hears_15 (by decide) ?_
    refine lv_icmp_ne (tgt := 35) hx hb md_Mo_hears_16 (by decide) (fun c_51 => ?_) (fun c_51 => ?_)
    · exact J1  _ _ _ (by simp only [mf_Mo_hears_0, if_pos c_1, if_neg c_51])   hI hP hS (lv_sub hl [1, 2, 3, 4, 0] rfl)
    · refine lv_aload_n hx hb md_Mo_hears_19 rfl (lv_at hl 1 rfl) ?_
      refine fw_getr hx hb hts i_Mo hown hK hP (mm_0 (by decide)) (mk_0 0) rfl 15 (by decide) (hts _ L_Mo_53) (fun _ h9 => h9) rfl md_Mo_hears_20 ?_
      refine lv_iload_n hx hb md_Mo_hears_23 rfl (lv_at hl 2 rfl) ?_
      refine lv_iload_n hx hb md_Mo_hears_24 rfl (lv_at hl 4 rfl) ?_
      refine fw_iast hx hb hK hD hP hS (mm_16 (by decide)) (mk_16 0) 0 rfl (j := 0) (by decide) (fw_inc (by decide)) md_Mo_hears_25 (fun v52 H locs ev52 hP hS => ?_)
      have hI : mI b v52 := by rw [ev52]; exact mI_up hI trivial trivial
      refine lv_aload_n hx hb md_Mo_hears_26 rfl (lv_at hl 1 rfl) ?_
      refine lv_iload_n hx hb md_Mo_hears_27 rfl (lv_at hl 2 rfl) ?_
      refine lv_iconst (v := (0 : Int32)) hx hb md_Mo_hears_28 (by decide) ?_
      refine fw_cv (va_runV (As := [.int (0 : Int32), .int (0 : Int32)]) (rest := []) ⟨hx, hb, hml, hown, hts⟩ (mc_Mo_write_0 l hD v52 hI (0 : Int32) (fw_inc (by decide))) (mw_Mo_write hts L_Mo_222 ⟨Nat.le_of_ble_eq_true rfl, Nat.le_of_ble_eq_true rfl⟩) (fw_preV hN hK hP (mm_0 (by decide)) (mk_0 0) rfl) rfl rfl hl.1 rfl (lv_room (Nat.le_of_ble_eq_true rfl)) md_Mo_hears_29 ⟨Nat.le_of_ble_eq_true rfl, Nat.le_of_ble_eq_true rfl⟩) hS (fun v53 H locs ev53 hI hP hS => ?_)
      refine lv_goto (tgt := 331) hx hb md_Mo_hears_32 (by decide) ?_
      exact fw_vret hx hb hr hlocks hS hP hI md_Mo_hears_331 (by subst ev52 ev53; simp only [mf_Mo_hears_0, if_pos c_1, if_pos c_51])

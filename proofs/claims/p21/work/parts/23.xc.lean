def xf_Cy_takes (v0 : fw_V) (r : Nat) (a1 : Int32) : Int32 × fw_V :=
  if (v0 14 r 1) = (-1 : Int32) then
    let v2 := fw_up v0 14 r 1 a1
    ((1 : Int32), v2)
  else
    let r3 := xf_FR_within ((a1 - (v0 14 r 1)) &&& (255 : Int32)) (1 : Int32) (127 : Int32)
    if r3 = (0 : Int32) then
      ((0 : Int32), v0)
    else
      let v6 := fw_up v0 14 r 1 a1
      ((1 : Int32), v6)

set_option maxHeartbeats 4000000 in
set_option maxRecDepth 100000 in
theorem xc_Cy_takes (l : Launch) {D : va_G} {cA : Nat → ClassId} {ad : Nat → Nat → Nat} (hD : fw_D xCL ad) {b : Nat} (v0 : fw_V) (hI : xI b v0) (r : Nat) (hr0 : r < 4) (a1 : Int32)  : Met l xy_Cy_takes (Cond.code xy_Cy_takes xb_Cy_takes 3 (some .boolean) :: vTB) xrm_Cy_takes (fw_Pc vNL D vcls (vtys cA) xCL cA xkd ad v0 [.ref (ad 14 r), .int a1]) (fw_Qz D vcls xCL cA xkd ad (xI b) (xf_Cy_takes v0 r a1)) 0 0 (fw_A xCL ad) := by
  refine Met.ofW (cc := xb_Cy_takes) (maxL := 3) (ret := (some .boolean)) (by decide) rfl ?_
  intro p e s m args below meth c s₁ B hml hv
  obtain ⟨rfl, hP, hK, hN⟩ := hv
  have hx := B.exec
  have hb := B.bytes
  have hr := B.returns
  have hts : ∀ w ∈ vTB, w.before ([.ref (ad 14 r), .int a1] : List Value).toArray s = true := fun w h => atoms_spec (ws := (Cond.code xy_Cy_takes xb_Cy_takes 3 (some .boolean) :: vTB)) B.pre w (List.mem_cons_of_mem _ h)
  have hown : s.vm.findClass R_Cy = some m.cls := findClass_of_methodNamed B.named
  have hlocks := B.notSynchronized
  have hS : va_S (fw_A xCL ad) s.heap s.heap [] := va_S.rf
  skip
  have hl := lv_entry ([.ref (ad 14 r), .int a1]) (n := 3) (Nat.le_of_ble_eq_true rfl)
  rw [lg_entry_eq]
  generalize (lg_sl ([.ref (ad 14 r), .int a1]) ++ List.replicate (3 - (lg_sl ([.ref (ad 14 r), .int a1])).length) Slot.unset).toArray = ls at hl ⊢
  have hl : lv_has ls 3 [(0, .ref (ad 14 r)), (1, .int a1)] := hl
  refine lv_iload_n hx hb xd_Cy_takes_0 rfl (lv_at hl 1 rfl) ?_
  refine lv_aload_n hx hb xd_Cy_takes_1 rfl (lv_at hl 0 rfl) ?_
  refine fw_geti hx hb hts i_Cy hown hK hP (xm_14 (by omega)) (xk_14 r) rfl 1 (by decide) (hts _ L_Cy_11) (fun _ h9 => h9) rfl xd_Cy_takes_2 ?_
  refine lv_isub hx hb xd_Cy_takes_5 ?_
  refine lv_sipush (v := (255 : Int32)) hx hb xd_Cy_takes_6 (by decide) ?_
  refine lv_iand hx hb xd_Cy_takes_9 ?_
  refine lv_istore_n (lv' := [(2, .int ((a1 - (v0 14 r 1)) &&& (255 : Int32))), (0, .ref (ad 14 r)), (1, .int a1)]) hx hb xd_Cy_takes_10 rfl hl (by decide) rfl (fun ls hl => ?_)
  refine lv_aload_n hx hb xd_Cy_takes_11 rfl (lv_at hl 1 rfl) ?_
  refine fw_geti hx hb hts i_Cy hown hK hP (xm_14 (by omega)) (xk_14 r) rfl 1 (by decide) (hts _ L_Cy_11) (fun _ h9 => h9) rfl xd_Cy_takes_12 ?_
  refine lv_iconst (v := (-1 : Int32)) hx hb xd_Cy_takes_15 (by decide) ?_
  refine lv_icmp_eq (tgt := 31) hx hb xd_Cy_takes_16 (by decide) (fun c_1 => ?_) (fun c_1 => ?_)
  · refine lv_aload_n hx hb xd_Cy_takes_31 rfl (lv_at hl 1 rfl) ?_
    refine lv_iload_n hx hb xd_Cy_takes_32 rfl (lv_at hl 2 rfl) ?_
    refine fw_puti hx hb hts i_Cy t_Cy t_Cy_ok n_Cy hown hK hD hP hS (xm_14 (by omega)) (xk_14 r) rfl 1 (by decide) (hts _ L_Cy_11) (fun _ h9 => h9) rfl fw_pdI rfl rfl rfl xd_Cy_takes_33 (fun v2 H locs ev2 hP hS => ?_)
    have hI : xI b v2 := by rw [ev2]; exact xI_up hI trivial trivial
    refine lv_iconst (v := (1 : Int32)) hx hb xd_Cy_takes_36 (by decide) ?_
    exact fw_zret hx hb hr hlocks hS hP hI xd_Cy_takes_37 (by decide) (by subst ev2; simp only [xf_Cy_takes, if_pos c_1])
  · refine lv_iload_n hx hb xd_Cy_takes_19 rfl (lv_at hl 0 rfl) ?_
    refine lv_iconst (v := (1 : Int32)) hx hb xd_Cy_takes_20 (by decide) ?_
    refine lv_bipush (v := (127 : Int32)) hx hb xd_Cy_takes_21 (by decide) ?_
    refine fw_cb (va_runSN (As := [.int ((a1 - (v0 14 r 1)) &&& (255 : Int32)), .int (1 : Int32), .int (127 : Int32)]) (rest := []) ⟨hx, hb, hml, hown, hts⟩ (xc_FR_within l hD v0 hI ((a1 - (v0 14 r 1)) &&& (255 : Int32)) (1 : Int32) (127 : Int32)) (xwn_FR_within hts (hN.2 _ L_Cy_18) ⟨Nat.le_of_ble_eq_true rfl, Nat.le_of_ble_eq_true rfl⟩) (fw_preS hN hK hP) rfl rfl hl.1 rfl (lv_room (Nat.le_of_ble_eq_true rfl)) xd_Cy_takes_23 ⟨Nat.le_of_ble_eq_true rfl, Nat.le_of_ble_eq_true rfl⟩) hS (fun r3 H locs zr3 er3 hP hS => ?_)
    refine lv_if_ne (tgt := 31) hx hb xd_Cy_takes_26 (by decide) (fun c_4 => ?_) (fun c_4 => ?_)
    · have h_5 : ((1 : Int32)).toInt ≤ ((a1 - (v0 14 r 1)) &&& (255 : Int32)).toInt ∧ ((a1 - (v0 14 r 1)) &&& (255 : Int32)).toInt ≤ ((127 : Int32)).toInt := xp_rng er3 c_4
      refine lv_aload_n hx hb xd_Cy_takes_31 rfl (lv_at hl 1 rfl) ?_
      refine lv_iload_n hx hb xd_Cy_takes_32 rfl (lv_at hl 2 rfl) ?_
      refine fw_puti hx hb hts i_Cy t_Cy t_Cy_ok n_Cy hown hK hD hP hS (xm_14 (by omega)) (xk_14 r) rfl 1 (by decide) (hts _ L_Cy_11) (fun _ h9 => h9) rfl fw_pdI rfl rfl rfl xd_Cy_takes_33 (fun v6 H locs ev6 hP hS => ?_)
      have hI : xI b v6 := by rw [ev6]; exact xI_up hI trivial trivial
      refine lv_iconst (v := (1 : Int32)) hx hb xd_Cy_takes_36 (by decide) ?_
      exact fw_zret hx hb hr hlocks hS hP hI xd_Cy_takes_37 (by decide) (by subst er3 ev6; simp only [xf_Cy_takes, if_neg c_1, if_neg c_4])
    · refine lv_iconst (v := (0 : Int32)) hx hb xd_Cy_takes_29 (by decide) ?_
      exact fw_zret hx hb hr hlocks hS hP hI xd_Cy_takes_30 (by decide) (by subst er3; simp only [xf_Cy_takes, if_neg c_1, if_pos c_4])
def xf_Re_takeInput (v0 : fw_V) (r : Nat) (k1 : Nat) : fw_V :=
  if (v0 13 r 10) = (6 : Int32) then
    let p4 := xf_Cy_takes v0 (r) (v0 7 k1 2)
    let r2 := p4.1
    let v3 := p4.2
    if r2 = (0 : Int32) then
      v3
    else
      let v6 := fw_row v3 18 r (va_cpy (v3 8 k1) (v3 18 r) ((0 : Int32)).toNatClampNeg ((0 : Int32)).toNatClampNeg ((6 : Int32)).toNatClampNeg)
      let v7 := fw_up v6 13 r 14 (v6 8 k1 6)
      let v8 := fw_up v7 13 r 15 (0 : Int32)
      v8
  else
    v0

set_option maxHeartbeats 4000000 in
set_option maxRecDepth 100000 in
theorem xc_Re_takeInput (l : Launch) {D : va_G} {cA : Nat → ClassId} {ad : Nat → Nat → Nat} (hD : fw_D xCL ad) {b : Nat} (v0 : fw_V) (hI : xI b v0) (r : Nat) (hr0 : r < 2) (k1 : Nat) (hk1 : k1 < 18)  : Met l xy_Re_takeInput (Cond.code xy_Re_takeInput xb_Re_takeInput 2 none :: vTB) xrm_Re_takeInput (fw_Pc vNL D vcls (vtys cA) xCL cA xkd ad v0 [.ref (ad 13 r), .ref (ad 7 k1)]) (fw_Qv D vcls xCL cA xkd ad (xI b) (xf_Re_takeInput v0 r k1)) 0 0 (fw_A xCL ad) := by
  refine Met.ofW (cc := xb_Re_takeInput) (maxL := 2) (ret := none) (by decide) rfl ?_
  intro p e s m args below meth c s₁ B hml hv
  obtain ⟨rfl, hP, hK, hN⟩ := hv
  have hx := B.exec
  have hb := B.bytes
  have hr := B.returns
  have hts : ∀ w ∈ vTB, w.before ([.ref (ad 13 r), .ref (ad 7 k1)] : List Value).toArray s = true := fun w h => atoms_spec (ws := (Cond.code xy_Re_takeInput xb_Re_takeInput 2 none :: vTB)) B.pre w (List.mem_cons_of_mem _ h)
  have hown : s.vm.findClass R_Re = some m.cls := findClass_of_methodNamed B.named
  have hlocks := B.notSynchronized
  have hS : va_S (fw_A xCL ad) s.heap s.heap [] := va_S.rf
  skip
  have hl := lv_entry ([.ref (ad 13 r), .ref (ad 7 k1)]) (n := 2) (Nat.le_of_ble_eq_true rfl)
  rw [lg_entry_eq]
  generalize (lg_sl ([.ref (ad 13 r), .ref (ad 7 k1)]) ++ List.replicate (2 - (lg_sl ([.ref (ad 13 r), .ref (ad 7 k1)])).length) Slot.unset).toArray = ls at hl ⊢
  have hl : lv_has ls 2 [(0, .ref (ad 13 r)), (1, .ref (ad 7 k1))] := hl
  refine lv_aload_n hx hb xd_Re_takeInput_0 rfl (lv_at hl 0 rfl) ?_
  refine fw_geti hx hb hts i_Re hown hK hP (xm_13 (by omega)) (xk_13 r) rfl 10 (by decide) (hts _ L_Re_56) (fun _ h9 => h9) rfl xd_Re_takeInput_1 ?_
  refine lv_bipush (v := (6 : Int32)) hx hb xd_Re_takeInput_4 (by decide) ?_
  refine lv_icmp_ne (tgt := 54) hx hb xd_Re_takeInput_6 (by decide) (fun c_1 => ?_) (fun c_1 => ?_)
  · exact fw_vret hx hb hr hlocks hS hP hI xd_Re_takeInput_54 (by simp only [xf_Re_takeInput, if_neg c_1])
  · refine lv_aload_n hx hb xd_Re_takeInput_9 rfl (lv_at hl 0 rfl) ?_
    refine fw_getr hx hb hts i_Re hown hK hP (xm_13 (by omega)) (xk_13 r) rfl 4 (by decide) (hts _ L_Re_12) (fun _ h9 => h9) rfl xd_Re_takeInput_10 ?_
    refine lv_aload_n hx hb xd_Re_takeInput_13 rfl (lv_at hl 1 rfl) ?_
    refine fw_geti hx hb hts i_Fm hown hK hP (xm_7 (by omega)) (xk_7 k1) rfl 2 (by decide) (hts _ L_Re_91) (fun _ h9 => h9) rfl xd_Re_takeInput_14 ?_
    refine fw_cz (va_runV (As := [.int (v0 7 k1 2)]) (rest := []) ⟨hx, hb, hml, hown, hts⟩ (xc_Cy_takes l hD v0 hI (r) (by omega) (v0 7 k1 2)) (xw_Cy_takes hts L_Re_151 ⟨Nat.le_of_ble_eq_true rfl, Nat.le_of_ble_eq_true rfl⟩) (fw_preV hN hK hP (xm_14 (by omega)) (xk_14 r) rfl) rfl rfl hl.1 rfl (lv_room (Nat.le_of_ble_eq_true rfl)) xd_Re_takeInput_17 ⟨Nat.le_of_ble_eq_true rfl, Nat.le_of_ble_eq_true rfl⟩) hS (fun r2 v3 H locs zr2 er2 ev3 hI hP hS => ?_)
    refine lv_if_eq (tgt := 54) hx hb xd_Re_takeInput_20 (by decide) (fun c_5 => ?_) (fun c_5 => ?_)
    · exact fw_vret hx hb hr hlocks hS hP hI xd_Re_takeInput_54 (by subst er2 ev3; simp only [xf_Re_takeInput, if_pos c_1, if_pos c_5])
    · refine lv_aload_n hx hb xd_Re_takeInput_23 rfl (lv_at hl 1 rfl) ?_
      refine fw_getr hx hb hts i_Fm hown hK hP (xm_7 (by omega)) (xk_7 k1) rfl 4 (by decide) (hts _ L_Re_130) (fun _ h9 => h9) rfl xd_Re_takeInput_24 ?_
      refine lv_iconst (v := (0 : Int32)) hx hb xd_Re_takeInput_27 (by decide) ?_
      refine lv_aload_n hx hb xd_Re_takeInput_28 rfl (lv_at hl 0 rfl) ?_
      refine fw_getr hx hb hts i_Re hown hK hP (xm_13 (by omega)) (xk_13 r) rfl 9 (by decide) (hts _ L_Re_28) (fun _ h9 => h9) rfl xd_Re_takeInput_29 ?_
      refine lv_iconst (v := (0 : Int32)) hx hb xd_Re_takeInput_32 (by decide) ?_
      refine lv_bipush (v := (6 : Int32)) hx hb xd_Re_takeInput_33 (by decide) ?_
      refine fw_copy hx hb (hml.trans hl.1.symm) hown (hts _ L_Re_155) (hts _ L_acN) (hts _ L_acS) (hts _ L_acI) hK hD hP hS (xm_8 (by omega)) (xm_18 (by omega)) (xk_8 k1) (xk_18 r) 0 0 rfl rfl (by decide) (by decide) (by decide) (by decide) (by decide) (Nat.le_of_ble_eq_true rfl) (Nat.le_of_ble_eq_true rfl) xd_Re_takeInput_35 (fun v6 H locs ev6 hP hS => ?_)
      have hI : xI b v6 := by rw [ev6]; exact xI_row hI (fun _ => trivial) (by decide)
      refine lv_aload_n hx hb xd_Re_takeInput_38 rfl (lv_at hl 0 rfl) ?_
      refine lv_aload_n hx hb xd_Re_takeInput_39 rfl (lv_at hl 1 rfl) ?_
      refine fw_getr hx hb hts i_Fm hown hK hP (xm_7 (by omega)) (xk_7 k1) rfl 4 (by decide) (hts _ L_Re_130) (fun _ h9 => h9) rfl xd_Re_takeInput_40 ?_
      refine lv_bipush (v := (6 : Int32)) hx hb xd_Re_takeInput_43 (by decide) ?_
      refine fw_iald hx hb hK hP (xm_8 (by omega)) (xk_8 k1) 0 rfl (j := 6) (by decide) (fw_inc (by decide)) xd_Re_takeInput_45 ?_
      refine fw_puti hx hb hts i_Re t_Re t_Re_ok n_Re hown hK hD hP hS (xm_13 (by omega)) (xk_13 r) rfl 14 (by decide) (hts _ L_Re_124) (fun _ h9 => h9) rfl fw_pdI rfl rfl rfl xd_Re_takeInput_46 (fun v7 H locs ev7 hP hS => ?_)
      have hI : xI b v7 := by rw [ev7]; exact xI_up hI trivial trivial
      refine lv_aload_n hx hb xd_Re_takeInput_49 rfl (lv_at hl 0 rfl) ?_
      refine lv_iconst (v := (0 : Int32)) hx hb xd_Re_takeInput_50 (by decide) ?_
      refine fw_puti hx hb hts i_Re t_Re t_Re_ok n_Re hown hK hD hP hS (xm_13 (by omega)) (xk_13 r) rfl 15 (by decide) (hts _ L_Re_115) (fun _ h9 => h9) rfl fw_pdI rfl rfl rfl xd_Re_takeInput_51 (fun v8 H locs ev8 hP hS => ?_)
      have hI : xI b v8 := by rw [ev8]; exact xI_up hI trivial trivial
      exact fw_vret hx hb hr hlocks hS hP hI xd_Re_takeInput_54 (by subst er2 ev3 ev6 ev7 ev8; simp only [xf_Re_takeInput, if_pos c_1, if_neg c_5])
def xf_AL_add (v0 : fw_V) (a1 : Int32) (a2 : Int32) (a3 : Int32) : fw_V :=
  let v2 := fw_up v0 10 0 (((v0 9 0 1) - (v0 9 0 1) / (8 : Int32) * (8 : Int32)).toNatClampNeg) ((((64 : Int32) * a1) + ((16 : Int32) * a2)) + a3)
  let v4 := fw_up v2 9 0 1 ((v2 9 0 1) + (1 : Int32))
  v4

set_option maxHeartbeats 4000000 in
set_option maxRecDepth 100000 in
theorem xc_AL_add (l : Launch) {D : va_G} {cA : Nat → ClassId} {ad : Nat → Nat → Nat} (hD : fw_D xCL ad) {b : Nat} (v0 : fw_V) (hI : xI b v0) (a1 : Int32) (a2 : Int32) (a3 : Int32) (hq0 : b < 2000) : Met l xy_AL_add (Cond.code xy_AL_add xb_AL_add 4 none :: vTB) xrm_AL_add (fw_Pc vNL D vcls (vtys cA) xCL cA xkd ad v0 [.ref (ad 9 0), .int a1, .int a2, .int a3]) (fw_Qv D vcls xCL cA xkd ad (xI (b + 1)) (xf_AL_add v0 a1 a2 a3)) 0 0 (fw_A xCL ad) := by
  refine Met.ofW (cc := xb_AL_add) (maxL := 4) (ret := none) (by decide) rfl ?_
  intro p e s m args below meth c s₁ B hml hv
  obtain ⟨rfl, hP, hK, hN⟩ := hv
  have hx := B.exec
  have hb := B.bytes
  have hr := B.returns
  have hts : ∀ w ∈ vTB, w.before ([.ref (ad 9 0), .int a1, .int a2, .int a3] : List Value).toArray s = true := fun w h => atoms_spec (ws := (Cond.code xy_AL_add xb_AL_add 4 none :: vTB)) B.pre w (List.mem_cons_of_mem _ h)
  have hown : s.vm.findClass R_AL = some m.cls := findClass_of_methodNamed B.named
  have hlocks := B.notSynchronized
  have hS : va_S (fw_A xCL ad) s.heap s.heap [] := va_S.rf
  skip
  have hl := lv_entry ([.ref (ad 9 0), .int a1, .int a2, .int a3]) (n := 4) (Nat.le_of_ble_eq_true rfl)
  rw [lg_entry_eq]
  generalize (lg_sl ([.ref (ad 9 0), .int a1, .int a2, .int a3]) ++ List.replicate (4 - (lg_sl ([.ref (ad 9 0), .int a1, .int a2, .int a3])).length) Slot.unset).toArray = ls at hl ⊢
  have hl : lv_has ls 4 [(0, .ref (ad 9 0)), (1, .int a1), (2, .int a2), (3, .int a3)] := hl
  refine lv_aload_n hx hb xd_AL_add_0 rfl (lv_at hl 0 rfl) ?_
  refine fw_getr hx hb hts i_AL hown hK hP (xm_9 (by decide)) (xk_9 0) rfl 0 (by decide) (hts _ L_AL_11) (fun _ h9 => h9) rfl xd_AL_add_1 ?_
  refine lv_aload_n hx hb xd_AL_add_4 rfl (lv_at hl 0 rfl) ?_
  refine fw_geti hx hb hts i_AL hown hK hP (xm_9 (by decide)) (xk_9 0) rfl 1 (by decide) (hts _ L_AL_15) (fun _ h9 => h9) rfl xd_AL_add_5 ?_
  have h_1 : 0 ≤ (v0 9 0 1).toInt ∧ (v0 9 0 1).toInt ≤ b := hI.1 9 0 1
  refine lv_bipush (v := (8 : Int32)) hx hb xd_AL_add_8 (by decide) ?_
  refine lv_irem hx hb xd_AL_add_10 (by decide) ?_
  refine lv_bipush (v := (64 : Int32)) hx hb xd_AL_add_11 (by decide) ?_
  refine lv_iload_n hx hb xd_AL_add_13 rfl (lv_at hl 1 rfl) ?_
  refine lv_imul hx hb xd_AL_add_14 ?_
  refine lv_bipush (v := (16 : Int32)) hx hb xd_AL_add_15 (by decide) ?_
  refine lv_iload_n hx hb xd_AL_add_17 rfl (lv_at hl 2 rfl) ?_
  refine lv_imul hx hb xd_AL_add_18 ?_
  refine lv_iadd hx hb xd_AL_add_19 ?_
  refine lv_iload_n hx hb xd_AL_add_20 rfl (lv_at hl 3 rfl) ?_
  refine lv_iadd hx hb xd_AL_add_21 ?_
  refine fw_iast hx hb hK hD hP hS (xm_10 (by decide)) (xk_10 0) 0 rfl (j := ((v0 9 0 1) - (v0 9 0 1) / (8 : Int32) * (8 : Int32)).toNatClampNeg) rfl (fw_rem8 h_1.1) xd_AL_add_22 (fun v2 H locs ev2 hP hS => ?_)
  have hI : xI b v2 := by rw [ev2]; exact xI_up hI trivial trivial
  refine lv_aload_n hx hb xd_AL_add_23 rfl (lv_at hl 0 rfl) ?_
  refine lv_dup hx hb xd_AL_add_24 rfl ?_
  refine fw_geti hx hb hts i_AL hown hK hP (xm_9 (by decide)) (xk_9 0) rfl 1 (by decide) (hts _ L_AL_15) (fun _ h9 => h9) rfl xd_AL_add_25 ?_
  have h_3 : 0 ≤ (v2 9 0 1).toInt ∧ (v2 9 0 1).toInt ≤ b := hI.1 9 0 1
  refine lv_iconst (v := (1 : Int32)) hx hb xd_AL_add_28 (by decide) ?_
  refine lv_iadd hx hb xd_AL_add_29 ?_
  refine fw_puti hx hb hts i_AL t_AL t_AL_ok n_AL hown hK hD hP hS (xm_9 (by decide)) (xk_9 0) rfl 1 (by decide) (hts _ L_AL_15) (fun _ h9 => h9) rfl fw_pdI rfl rfl rfl xd_AL_add_30 (fun v4 H locs ev4 hP hS => ?_)
  have hI : xI (b + 1) v4 := by rw [ev4]; exact xI_told hI hq0
  exact fw_vret hx hb hr hlocks hS hP hI xd_AL_add_33 (by subst ev2 ev4; simp only [xf_AL_add])
def xf_Re_takeAlarm (v0 : fw_V) (r : Nat) (k1 : Nat) : fw_V :=
  let p3 := xf_Wi_send v0 (15 : Int32) (v0 13 r 11) (v0 7 k1 2) (v0 13 r 12)
  let y1 := p3.1
  let v2 := p3.2
  if (v2 13 r 10) = (6 : Int32) then
    if (v2 7 k1 2) = (v2 13 r 18) then
      v2
    else
      let r6 := xf_FR_isSlot (v2 8 k1 0)
      if r6 = (0 : Int32) then
        v2
      else
        let v9 := fw_up v2 13 r 18 (v2 7 k1 2)
        let v10 := xf_AL_add v9 (v9 13 r 0) (v2 8 k1 0) (v9 8 k1 1)
        if (v10 8 k1 1) = ((v10 15 r (v2 8 k1 0).toNatClampNeg) + (1 : Int32)) then
          let r12 := xf_FR_withSlot (v10 13 r 13) (v2 8 k1 0) (0 : Int32)
          let v13 := fw_up v10 13 r 13 r12
          v13
        else
          let r14 := xf_FR_withSlot (v10 13 r 13) (v2 8 k1 0) (1 : Int32)
          let v15 := fw_up v10 13 r 13 r14
          v15
  else
    v2

set_option maxHeartbeats 4000000 in
set_option maxRecDepth 100000 in
theorem xc_Re_takeAlarm (l : Launch) {D : va_G} {cA : Nat → ClassId} {ad : Nat → Nat → Nat} (hD : fw_D xCL ad) {b : Nat} (v0 : fw_V) (hI : xI b v0) (r : Nat) (hr0 : r < 2) (k1 : Nat) (hk1 : k1 < 18) (hq0 : b < 2000) : Met l xy_Re_takeAlarm (Cond.code xy_Re_takeAlarm xb_Re_takeAlarm 3 none :: vTB) xrm_Re_takeAlarm (fw_Pc vNL D vcls (vtys cA) xCL cA xkd ad v0 [.ref (ad 13 r), .ref (ad 7 k1)]) (fw_Qv D vcls xCL cA xkd ad (xI (b + 1)) (xf_Re_takeAlarm v0 r k1)) 0 0 (fw_A xCL ad) := by
  refine Met.ofW (cc := xb_Re_takeAlarm) (maxL := 3) (ret := none) (by decide) rfl ?_
  intro p e s m args below meth c s₁ B hml hv
  obtain ⟨rfl, hP, hK, hN⟩ := hv
  have hx := B.exec
  have hb := B.bytes
  have hr := B.returns
  have hts : ∀ w ∈ vTB, w.before ([.ref (ad 13 r), .ref (ad 7 k1)] : List Value).toArray s = true := fun w h => atoms_spec (ws := (Cond.code xy_Re_takeAlarm xb_Re_takeAlarm 3 none :: vTB)) B.pre w (List.mem_cons_of_mem _ h)
  have hown : s.vm.findClass R_Re = some m.cls := findClass_of_methodNamed B.named
  have hlocks := B.notSynchronized
  have hS : va_S (fw_A xCL ad) s.heap s.heap [] := va_S.rf
  skip
  have hl := lv_entry ([.ref (ad 13 r), .ref (ad 7 k1)]) (n := 3) (Nat.le_of_ble_eq_true rfl)
  rw [lg_entry_eq]
  generalize (lg_sl ([.ref (ad 13 r), .ref (ad 7 k1)]) ++ List.replicate (3 - (lg_sl ([.ref (ad 13 r), .ref (ad 7 k1)])).length) Slot.unset).toArray = ls at hl ⊢
  have hl : lv_has ls 3 [(0, .ref (ad 13 r)), (1, .ref (ad 7 k1))] := hl
  refine lv_aload_n hx hb xd_Re_takeAlarm_0 rfl (lv_at hl 0 rfl) ?_
  refine fw_getr hx hb hts i_Re hown hK hP (xm_13 (by omega)) (xk_13 r) rfl 2 (by decide) (hts _ L_Re_42) (fun _ h9 => h9) rfl xd_Re_takeAlarm_1 ?_
  refine lv_bipush (v := (15 : Int32)) hx hb xd_Re_takeAlarm_4 (by decide) ?_
  refine lv_aload_n hx hb xd_Re_takeAlarm_6 rfl (lv_at hl 0 rfl) ?_
  refine fw_geti hx hb hts i_Re hown hK hP (xm_13 (by omega)) (xk_13 r) rfl 11 (by decide) (hts _ L_Re_59) (fun _ h9 => h9) rfl xd_Re_takeAlarm_7 ?_
  refine lv_aload_n hx hb xd_Re_takeAlarm_10 rfl (lv_at hl 1 rfl) ?_
  refine fw_geti hx hb hts i_Fm hown hK hP (xm_7 (by omega)) (xk_7 k1) rfl 2 (by decide) (hts _ L_Re_91) (fun _ h9 => h9) rfl xd_Re_takeAlarm_11 ?_
  refine lv_aload_n hx hb xd_Re_takeAlarm_14 rfl (lv_at hl 0 rfl) ?_
  refine fw_geti hx hb hts i_Re hown hK hP (xm_13 (by omega)) (xk_13 r) rfl 12 (by decide) (hts _ L_Re_31) (fun _ h9 => h9) rfl xd_Re_takeAlarm_15 ?_
  refine fw_cr (va_runV (As := [.int (15 : Int32), .int (v0 13 r 11), .int (v0 7 k1 2), .int (v0 13 r 12)]) (rest := []) ⟨hx, hb, hml, hown, hts⟩ (xc_Wi_send l hD v0 hI (15 : Int32) (v0 13 r 11) (v0 7 k1 2) (v0 13 r 12)) (xw_Wi_send hts L_Re_145 ⟨Nat.le_of_ble_eq_true rfl, Nat.le_of_ble_eq_true rfl⟩) (fw_preV hN hK hP (xm_5 (by decide)) (xk_5 0) rfl) rfl rfl hl.1 rfl (lv_room (Nat.le_of_ble_eq_true rfl)) xd_Re_takeAlarm_18 ⟨Nat.le_of_ble_eq_true rfl, Nat.le_of_ble_eq_true rfl⟩) hS (fun y1 v2 H locs ly1 ey1 ev2 hI hP hS => ?_)
  refine lv_pop hx hb xd_Re_takeAlarm_21 rfl ?_
  refine lv_aload_n hx hb xd_Re_takeAlarm_22 rfl (lv_at hl 1 rfl) ?_
  refine fw_getr hx hb hts i_Fm hown hK hP (xm_7 (by omega)) (xk_7 k1) rfl 4 (by decide) (hts _ L_Re_130) (fun _ h9 => h9) rfl xd_Re_takeAlarm_23 ?_
  refine lv_iconst (v := (0 : Int32)) hx hb xd_Re_takeAlarm_26 (by decide) ?_
  refine fw_iald hx hb hK hP (xm_8 (by omega)) (xk_8 k1) 0 rfl (j := 0) (by decide) (fw_inc (by decide)) xd_Re_takeAlarm_27 ?_
  refine lv_istore_n (lv' := [(2, .int (v2 8 k1 0)), (0, .ref (ad 13 r)), (1, .ref (ad 7 k1))]) hx hb xd_Re_takeAlarm_28 rfl hl (by decide) rfl (fun ls hl => ?_)
  refine lv_aload_n hx hb xd_Re_takeAlarm_29 rfl (lv_at hl 1 rfl) ?_
  refine fw_geti hx hb hts i_Re hown hK hP (xm_13 (by omega)) (xk_13 r) rfl 10 (by decide) (hts _ L_Re_56) (fun _ h9 => h9) rfl xd_Re_takeAlarm_30 ?_
  refine lv_bipush (v := (6 : Int32)) hx hb xd_Re_takeAlarm_33 (by decide) ?_
  refine lv_icmp_ne (tgt := 56) hx hb xd_Re_takeAlarm_35 (by decide) (fun c_4 => ?_) (fun c_4 => ?_)
  · exact fw_vret hx hb hr hlocks hS hP (xI_mono hI (by omega)) xd_Re_takeAlarm_56 (by subst ey1 ev2; simp only [xf_Re_takeAlarm, if_neg c_4])
  · refine lv_aload_n hx hb xd_Re_takeAlarm_38 rfl (lv_at hl 2 rfl) ?_
    refine fw_geti hx hb hts i_Fm hown hK hP (xm_7 (by omega)) (xk_7 k1) rfl 2 (by decide) (hts _ L_Re_91) (fun _ h9 => h9) rfl xd_Re_takeAlarm_39 ?_
    refine lv_aload_n hx hb xd_Re_takeAlarm_42 rfl (lv_at hl 1 rfl) ?_
    refine fw_geti hx hb hts i_Re hown hK hP (xm_13 (by omega)) (xk_13 r) rfl 18 (by decide) (hts _ L_Re_65) (fun _ h9 => h9) rfl xd_Re_takeAlarm_43 ?_
    refine lv_icmp_eq (tgt := 56) hx hb xd_Re_takeAlarm_46 (by decide) (fun c_5 => ?_) (fun c_5 => ?_)
    · exact fw_vret hx hb hr hlocks hS hP (xI_mono hI (by omega)) xd_Re_takeAlarm_56 (by subst ey1 ev2; simp only [xf_Re_takeAlarm, if_pos c_4, if_pos c_5])
    · refine lv_iload_n hx hb xd_Re_takeAlarm_49 rfl (lv_at hl 0 rfl) ?_
      refine fw_cb (va_runSN (As := [.int (v2 8 k1 0)]) (rest := []) ⟨hx, hb, hml, hown, hts⟩ (xc_FR_isSlot l hD v2 hI (v2 8 k1 0)) (xwn_FR_isSlot hts (hN.2 _ L_Re_161) ⟨Nat.le_of_ble_eq_true rfl, Nat.le_of_ble_eq_true rfl⟩) (fw_preS hN hK hP) rfl rfl hl.1 rfl (lv_room (Nat.le_of_ble_eq_true rfl)) xd_Re_takeAlarm_50 ⟨Nat.le_of_ble_eq_true rfl, Nat.le_of_ble_eq_true rfl⟩) hS (fun r6 H locs zr6 er6 hP hS => ?_)
      refine lv_if_ne (tgt := 57) hx hb xd_Re_takeAlarm_53 (by decide) (fun c_7 => ?_) (fun c_7 => ?_)
      · have h_8 : vp_in (v2 8 k1 0) 3 := xp_FR_isSlot er6 c_7
        refine lv_aload_n hx hb xd_Re_takeAlarm_57 rfl (lv_at hl 1 rfl) ?_
        refine lv_aload_n hx hb xd_Re_takeAlarm_58 rfl (lv_at hl 2 rfl) ?_
        refine fw_geti hx hb hts i_Fm hown hK hP (xm_7 (by omega)) (xk_7 k1) rfl 2 (by decide) (hts _ L_Re_91) (fun _ h9 => h9) rfl xd_Re_takeAlarm_59 ?_
        refine fw_puti hx hb hts i_Re t_Re t_Re_ok n_Re hown hK hD hP hS (xm_13 (by omega)) (xk_13 r) rfl 18 (by decide) (hts _ L_Re_65) (fun _ h9 => h9) rfl fw_pdI rfl rfl rfl xd_Re_takeAlarm_62 (fun v9 H locs ev9 hP hS => ?_)
        have hI : xI b v9 := by rw [ev9]; exact xI_up hI trivial trivial
        refine lv_aload_n hx hb xd_Re_takeAlarm_65 rfl (lv_at hl 1 rfl) ?_
        refine fw_getr hx hb hts i_Re hown hK hP (xm_13 (by omega)) (xk_13 r) rfl 3 (by decide) (hts _ L_Re_46) (fun _ h9 => h9) rfl xd_Re_takeAlarm_66 ?_
        refine lv_aload_n hx hb xd_Re_takeAlarm_69 rfl (lv_at hl 1 rfl) ?_
        refine fw_geti hx hb hts i_Re hown hK hP (xm_13 (by omega)) (xk_13 r) rfl 0 (by decide) (hts _ L_Re_35) (fun _ h9 => h9) rfl xd_Re_takeAlarm_70 ?_
        refine lv_iload_n hx hb xd_Re_takeAlarm_73 rfl (lv_at hl 0 rfl) ?_
        refine lv_aload_n hx hb xd_Re_takeAlarm_74 rfl (lv_at hl 2 rfl) ?_
        refine fw_getr hx hb hts i_Fm hown hK hP (xm_7 (by omega)) (xk_7 k1) rfl 4 (by decide) (hts _ L_Re_130) (fun _ h9 => h9) rfl xd_Re_takeAlarm_75 ?_
        refine lv_iconst (v := (1 : Int32)) hx hb xd_Re_takeAlarm_78 (by decide) ?_
        refine fw_iald hx hb hK hP (xm_8 (by omega)) (xk_8 k1) 0 rfl (j := 1) (by decide) (fw_inc (by decide)) xd_Re_takeAlarm_79 ?_
        refine fw_cv (va_runV (As := [.int (v9 13 r 0), .int (v2 8 k1 0), .int (v9 8 k1 1)]) (rest := []) ⟨hx, hb, hml, hown, hts⟩ (xc_AL_add l hD v9 hI (v9 13 r 0) (v2 8 k1 0) (v9 8 k1 1) (by omega)) (xw_AL_add hts L_Re_164 ⟨Nat.le_of_ble_eq_true rfl, Nat.le_of_ble_eq_true rfl⟩) (fw_preV hN hK hP (xm_9 (by decide)) (xk_9 0) rfl) rfl rfl hl.1 rfl (lv_room (Nat.le_of_ble_eq_true rfl)) xd_Re_takeAlarm_80 ⟨Nat.le_of_ble_eq_true rfl, Nat.le_of_ble_eq_true rfl⟩) hS (fun v10 H locs ev10 hI hP hS => ?_)
        refine lv_aload_n hx hb xd_Re_takeAlarm_83 rfl (lv_at hl 1 rfl) ?_
        refine lv_aload_n hx hb xd_Re_takeAlarm_84 rfl (lv_at hl 1 rfl) ?_
        refine fw_geti hx hb hts i_Re hown hK hP (xm_13 (by omega)) (xk_13 r) rfl 13 (by decide) (hts _ L_Re_62) (fun _ h9 => h9) rfl xd_Re_takeAlarm_85 ?_
        refine lv_iload_n hx hb xd_Re_takeAlarm_88 rfl (lv_at hl 0 rfl) ?_
        refine lv_aload_n hx hb xd_Re_takeAlarm_89 rfl (lv_at hl 2 rfl) ?_
        refine fw_getr hx hb hts i_Fm hown hK hP (xm_7 (by omega)) (xk_7 k1) rfl 4 (by decide) (hts _ L_Re_130) (fun _ h9 => h9) rfl xd_Re_takeAlarm_90 ?_
        refine lv_iconst (v := (1 : Int32)) hx hb xd_Re_takeAlarm_93 (by decide) ?_
        refine fw_iald hx hb hK hP (xm_8 (by omega)) (xk_8 k1) 0 rfl (j := 1) (by decide) (fw_inc (by decide)) xd_Re_takeAlarm_94 ?_
        refine lv_aload_n hx hb xd_Re_takeAlarm_95 rfl (lv_at hl 1 rfl) ?_
        refine fw_getr hx hb hts i_Re hown hK hP (xm_13 (by omega)) (xk_13 r) rfl 6 (by decide) (hts _ L_Re_18) (fun _ h9 => h9) rfl xd_Re_takeAlarm_96 ?_
        refine lv_iload_n hx hb xd_Re_takeAlarm_99 rfl (lv_at hl 0 rfl) ?_
        refine fw_iald hx hb hK hP (xm_15 (by omega)) (xk_15 r) 0 rfl (j := (v2 8 k1 0).toNatClampNeg) rfl h_8 xd_Re_takeAlarm_100 ?_
        refine lv_iconst (v := (1 : Int32)) hx hb xd_Re_takeAlarm_101 (by decide) ?_
        refine lv_iadd hx hb xd_Re_takeAlarm_102 ?_
        refine lv_icmp_eq (tgt := 110) hx hb xd_Re_takeAlarm_103 (by decide) (fun c_11 => ?_) (fun c_11 => ?_)
        · refine lv_iconst (v := (0 : Int32)) hx hb xd_Re_takeAlarm_110 (by decide) ?_
          refine fw_co (va_runSN (As := [.int (v10 13 r 13), .int (v2 8 k1 0), .int (0 : Int32)]) (rest := [.ref (ad 13 r)]) ⟨hx, hb, hml, hown, hts⟩ (xc_FR_withSlot l hD v10 hI (v10 13 r 13) (v2 8 k1 0) (0 : Int32)) (xwn_FR_withSlot hts (hN.2 _ L_Re_170) ⟨Nat.le_of_ble_eq_true rfl, Nat.le_of_ble_eq_true rfl⟩) (fw_preS hN hK hP) rfl rfl hl.1 rfl (lv_room (Nat.le_of_ble_eq_true rfl)) xd_Re_takeAlarm_111 ⟨Nat.le_of_ble_eq_true rfl, Nat.le_of_ble_eq_true rfl⟩) hS (fun r12 H locs er12 hP hS => ?_)
          refine fw_puti hx hb hts i_Re t_Re t_Re_ok n_Re hown hK hD hP hS (xm_13 (by omega)) (xk_13 r) rfl 13 (by decide) (hts _ L_Re_62) (fun _ h9 => h9) rfl fw_pdI rfl rfl rfl xd_Re_takeAlarm_114 (fun v13 H locs ev13 hP hS => ?_)
          have hI : xI (b + 1) v13 := by rw [ev13]; exact xI_up hI trivial trivial
          exact fw_vret hx hb hr hlocks hS hP hI xd_Re_takeAlarm_117 (by subst ey1 ev2 er6 ev9 ev10 er12 ev13; simp only [xf_Re_takeAlarm, if_pos c_4, if_neg c_5, if_neg c_7, if_pos c_11])
        · refine lv_iconst (v := (1 : Int32)) hx hb xd_Re_takeAlarm_106 (by decide) ?_
          refine lv_goto (tgt := 111) hx hb xd_Re_takeAlarm_107 (by decide) ?_
          refine fw_co (va_runSN (As := [.int (v10 13 r 13), .int (v2 8 k1 0), .int (1 : Int32)]) (rest := [.ref (ad 13 r)]) ⟨hx, hb, hml, hown, hts⟩ (xc_FR_withSlot l hD v10 hI (v10 13 r 13) (v2 8 k1 0) (1 : Int32)) (xwn_FR_withSlot hts (hN.2 _ L_Re_170) ⟨Nat.le_of_ble_eq_true rfl, Nat.le_of_ble_eq_true rfl⟩) (fw_preS hN hK hP) rfl rfl hl.1 rfl (lv_room (Nat.le_of_ble_eq_true rfl)) xd_Re_takeAlarm_111 ⟨Nat.le_of_ble_eq_true rfl, Nat.le_of_ble_eq_true rfl⟩) hS (fun r14 H locs er14 hP hS => ?_)
          refine fw_puti hx hb hts i_Re t_Re t_Re_ok n_Re hown hK hD hP hS (xm_13 (by omega)) (xk_13 r) rfl 13 (by decide) (hts _ L_Re_62) (fun _ h9 => h9) rfl fw_pdI rfl rfl rfl xd_Re_takeAlarm_114 (fun v15 H locs ev15 hP hS => ?_)
          have hI : xI (b + 1) v15 := by rw [ev15]; exact xI_up hI trivial trivial
          exact fw_vret hx hb hr hlocks hS hP hI xd_Re_takeAlarm_117 (by subst ey1 ev2 er6 ev9 ev10 er14 ev15; simp only [xf_Re_takeAlarm, if_pos c_4, if_neg c_5, if_neg c_7, if_neg c_11])
      · exact fw_vret hx hb hr hlocks hS hP (xI_mono hI (by omega)) xd_Re_takeAlarm_56 (by subst ey1 ev2 er6; simp only [xf_Re_takeAlarm, if_pos c_4, if_neg c_5, if_pos c_7])
def xf_Re_receive (v0 : fw_V) (r : Nat) (k1 : Nat) : fw_V :=
  if (v0 7 k1 0) = (2 : Int32) then
    let v25 := xf_Re_deviceFound v0 (r) (k1)
    v25
  else
    if (v0 13 r 10) = (0 : Int32) then
      v0
    else
      if (v0 7 k1 1) = (v0 13 r 11) then
        if (v0 7 k1 0) = (4 : Int32) then
          let v5 := xf_Re_accepted v0 (r) (v0 7 k1 2)
          v5
        else
          if (v0 7 k1 0) = (5 : Int32) then
            let v7 := xf_Re_refused v0 (r)
            v7
          else
            if (v0 7 k1 0) = (7 : Int32) then
              let v9 := xf_Re_written v0 (r) (v0 7 k1 2)
              v9
            else
              if (v0 7 k1 0) = (9 : Int32) then
                let v11 := xf_Re_ended v0 (r)
                v11
              else
                if (v0 7 k1 0) = (10 : Int32) then
                  let v13 := xf_Re_deviceReady v0 (r)
                  v13
                else
                  if (v0 7 k1 0) = (13 : Int32) then
                    let v15 := xf_Re_takeInput v0 (r) (k1)
                    v15
                  else
                    if (v0 7 k1 0) = (14 : Int32) then
                      let v17 := xf_Re_takeAlarm v0 (r) (k1)
                      v17
                    else
                      if (v0 7 k1 0) = (16 : Int32) then
                        let v19 := xf_Re_shut v0 (r)
                        v19
                      else
                        v0
      else
        v0

set_option maxHeartbeats 4000000 in
set_option maxRecDepth 100000 in
theorem xc_Re_receive (l : Launch) {D : va_G} {cA : Nat → ClassId} {ad : Nat → Nat → Nat} (hD : fw_D xCL ad) {b : Nat} (v0 : fw_V) (hI : xI b v0) (r : Nat) (hr0 : r < 2) (k1 : Nat) (hk1 : k1 < 18) (hq0 : b < 2000) : Met l xy_Re_receive (Cond.code xy_Re_receive xb_Re_receive 2 none :: vTB) xrm_Re_receive (fw_Pc vNL D vcls (vtys cA) xCL cA xkd ad v0 [.ref (ad 13 r), .ref (ad 7 k1)]) (fw_Qv D vcls xCL cA xkd ad (xI (b + 1)) (xf_Re_receive v0 r k1)) 0 0 (fw_A xCL ad) := by
  refine Met.ofW (cc := xb_Re_receive) (maxL := 2) (ret := none) (by decide) rfl ?_
  intro p e s m args below meth c s₁ B hml hv
  obtain ⟨rfl, hP, hK, hN⟩ := hv
  have hx := B.exec
  have hb := B.bytes
  have hr := B.returns
  have hts : ∀ w ∈ vTB, w.before ([.ref (ad 13 r), .ref (ad 7 k1)] : List Value).toArray s = true := fun w h => atoms_spec (ws := (Cond.code xy_Re_receive xb_Re_receive 2 none :: vTB)) B.pre w (List.mem_cons_of_mem _ h)
  have hown : s.vm.findClass R_Re = some m.cls := findClass_of_methodNamed B.named
  have hlocks := B.notSynchronized
  have hS : va_S (fw_A xCL ad) s.heap s.heap [] := va_S.rf
  skip
  have hl := lv_entry ([.ref (ad 13 r), .ref (ad 7 k1)]) (n := 2) (Nat.le_of_ble_eq_true rfl)
  rw [lg_entry_eq]
  generalize (lg_sl ([.ref (ad 13 r), .ref (ad 7 k1)]) ++ List.replicate (2 - (lg_sl ([.ref (ad 13 r), .ref (ad 7 k1)])).length) Slot.unset).toArray = ls at hl ⊢
  have hl : lv_has ls 2 [(0, .ref (ad 13 r)), (1, .ref (ad 7 k1))] := hl
  refine lv_aload_n hx hb xd_Re_receive_0 rfl (lv_at hl 1 rfl) ?_
  refine fw_geti hx hb hts i_Fm hown hK hP (xm_7 (by omega)) (xk_7 k1) rfl 0 (by decide) (hts _ L_Re_81) (fun _ h9 => h9) rfl xd_Re_receive_1 ?_
  refine lv_iconst (v := (2 : Int32)) hx hb xd_Re_receive_4 (by decide) ?_
  refine lv_icmp_ne (tgt := 14) hx hb xd_Re_receive_5 (by decide) (fun c_1 => ?_) (fun c_1 => ?_)
  · refine lv_aload_n hx hb xd_Re_receive_14 rfl (lv_at hl 0 rfl) ?_
    refine fw_geti hx hb hts i_Re hown hK hP (xm_13 (by omega)) (xk_13 r) rfl 10 (by decide) (hts _ L_Re_56) (fun _ h9 => h9) rfl xd_Re_receive_15 ?_
    refine lv_if_eq (tgt := 32) hx hb xd_Re_receive_18 (by decide) (fun c_2 => ?_) (fun c_2 => ?_)
    · exact fw_vret hx hb hr hlocks hS hP (xI_mono hI (by omega)) xd_Re_receive_32 (by simp only [xf_Re_receive, if_neg c_1, if_pos c_2])
    · refine lv_aload_n hx hb xd_Re_receive_21 rfl (lv_at hl 1 rfl) ?_
      refine fw_geti hx hb hts i_Fm hown hK hP (xm_7 (by omega)) (xk_7 k1) rfl 1 (by decide) (hts _ L_Re_90) (fun _ h9 => h9) rfl xd_Re_receive_22 ?_
      refine lv_aload_n hx hb xd_Re_receive_25 rfl (lv_at hl 0 rfl) ?_
      refine fw_geti hx hb hts i_Re hown hK hP (xm_13 (by omega)) (xk_13 r) rfl 11 (by decide) (hts _ L_Re_59) (fun _ h9 => h9) rfl xd_Re_receive_26 ?_
      refine lv_icmp_eq (tgt := 33) hx hb xd_Re_receive_29 (by decide) (fun c_3 => ?_) (fun c_3 => ?_)
      · refine lv_aload_n hx hb xd_Re_receive_33 rfl (lv_at hl 1 rfl) ?_
        refine fw_geti hx hb hts i_Fm hown hK hP (xm_7 (by omega)) (xk_7 k1) rfl 0 (by decide) (hts _ L_Re_81) (fun _ h9 => h9) rfl xd_Re_receive_34 ?_
        by_cases c_4 : (v0 7 k1 0) = (4 : Int32)
        · refine lv_tableIn (off := 67) (tgt := 104) hx hb xd_Re_receive_37 (by rw [c_4]; decide) (by rw [c_4]; decide) (by rw [c_4]; rfl) (by decide) ?_
          refine lv_aload_n hx hb xd_Re_receive_104 rfl (lv_at hl 0 rfl) ?_
          refine lv_aload_n hx hb xd_Re_receive_105 rfl (lv_at hl 1 rfl) ?_
          refine fw_geti hx hb hts i_Fm hown hK hP (xm_7 (by omega)) (xk_7 k1) rfl 2 (by decide) (hts _ L_Re_91) (fun _ h9 => h9) rfl xd_Re_receive_106 ?_
          refine fw_cv (va_runV (As := [.int (v0 7 k1 2)]) (rest := []) ⟨hx, hb, hml, hown, hts⟩ (xc_Re_accepted l hD v0 hI (r) (by omega) (v0 7 k1 2)) (xw_Re_accepted hts L_Re_94 ⟨Nat.le_of_ble_eq_true rfl, Nat.le_of_ble_eq_true rfl⟩) (fw_preV hN hK hP (xm_13 (by omega)) (xk_13 r) rfl) rfl rfl hl.1 rfl (lv_room (Nat.le_of_ble_eq_true rfl)) xd_Re_receive_109 ⟨Nat.le_of_ble_eq_true rfl, Nat.le_of_ble_eq_true rfl⟩) hS (fun v5 H locs ev5 hI hP hS => ?_)
          refine lv_goto (tgt := 170) hx hb xd_Re_receive_112 (by decide) ?_
          exact fw_vret hx hb hr hlocks hS hP (xI_mono hI (by omega)) xd_Re_receive_170 (by subst ev5; simp only [xf_Re_receive, if_neg c_1, if_neg c_2, if_pos c_3, if_pos c_4])
        · skip
          by_cases c_6 : (v0 7 k1 0) = (5 : Int32)
          · refine lv_tableIn (off := 78) (tgt := 115) hx hb xd_Re_receive_37 (by rw [c_6]; decide) (by rw [c_6]; decide) (by rw [c_6]; rfl) (by decide) ?_
            refine lv_aload_n hx hb xd_Re_receive_115 rfl (lv_at hl 0 rfl) ?_
            refine fw_cv (va_runV (As := []) (rest := []) ⟨hx, hb, hml, hown, hts⟩ (xc_Re_refused l hD v0 hI (r) (by omega)) (xw_Re_refused hts L_Re_97 ⟨Nat.le_of_ble_eq_true rfl, Nat.le_of_ble_eq_true rfl⟩) (fw_preV hN hK hP (xm_13 (by omega)) (xk_13 r) rfl) rfl rfl hl.1 rfl (lv_room (Nat.le_of_ble_eq_true rfl)) xd_Re_receive_116 ⟨Nat.le_of_ble_eq_true rfl, Nat.le_of_ble_eq_true rfl⟩) hS (fun v7 H locs ev7 hI hP hS => ?_)
            refine lv_goto (tgt := 170) hx hb xd_Re_receive_119 (by decide) ?_
            exact fw_vret hx hb hr hlocks hS hP (xI_mono hI (by omega)) xd_Re_receive_170 (by subst ev7; simp only [xf_Re_receive, if_neg c_1, if_neg c_2, if_pos c_3, if_neg c_4, if_pos c_6])
          · skip
            by_cases c_8 : (v0 7 k1 0) = (7 : Int32)
            · refine lv_tableIn (off := 85) (tgt := 122) hx hb xd_Re_receive_37 (by rw [c_8]; decide) (by rw [c_8]; decide) (by rw [c_8]; rfl) (by decide) ?_
              refine lv_aload_n hx hb xd_Re_receive_122 rfl (lv_at hl 0 rfl) ?_
              refine lv_aload_n hx hb xd_Re_receive_123 rfl (lv_at hl 1 rfl) ?_
              refine fw_geti hx hb hts i_Fm hown hK hP (xm_7 (by omega)) (xk_7 k1) rfl 2 (by decide) (hts _ L_Re_91) (fun _ h9 => h9) rfl xd_Re_receive_124 ?_
              refine fw_cv (va_runV (As := [.int (v0 7 k1 2)]) (rest := []) ⟨hx, hb, hml, hown, hts⟩ (xc_Re_written l hD v0 hI (r) (by omega) (v0 7 k1 2)) (xw_Re_written hts L_Re_100 ⟨Nat.le_of_ble_eq_true rfl, Nat.le_of_ble_eq_true rfl⟩) (fw_preV hN hK hP (xm_13 (by omega)) (xk_13 r) rfl) rfl rfl hl.1 rfl (lv_room (Nat.le_of_ble_eq_true rfl)) xd_Re_receive_127 ⟨Nat.le_of_ble_eq_true rfl, Nat.le_of_ble_eq_true rfl⟩) hS (fun v9 H locs ev9 hI hP hS => ?_)
              refine lv_goto (tgt := 170) hx hb xd_Re_receive_130 (by decide) ?_
              exact fw_vret hx hb hr hlocks hS hP (xI_mono hI (by omega)) xd_Re_receive_170 (by subst ev9; simp only [xf_Re_receive, if_neg c_1, if_neg c_2, if_pos c_3, if_neg c_4, if_neg c_6, if_pos c_8])
            · skip
              by_cases c_10 : (v0 7 k1 0) = (9 : Int32)
              · refine lv_tableIn (off := 96) (tgt := 133) hx hb xd_Re_receive_37 (by rw [c_10]; decide) (by rw [c_10]; decide) (by rw [c_10]; rfl) (by decide) ?_
                refine lv_aload_n hx hb xd_Re_receive_133 rfl (lv_at hl 0 rfl) ?_
                refine fw_cv (va_runV (As := []) (rest := []) ⟨hx, hb, hml, hown, hts⟩ (xc_Re_ended l hD v0 hI (r) (by omega)) (xw_Re_ended hts L_Re_103 ⟨Nat.le_of_ble_eq_true rfl, Nat.le_of_ble_eq_true rfl⟩) (fw_preV hN hK hP (xm_13 (by omega)) (xk_13 r) rfl) rfl rfl hl.1 rfl (lv_room (Nat.le_of_ble_eq_true rfl)) xd_Re_receive_134 ⟨Nat.le_of_ble_eq_true rfl, Nat.le_of_ble_eq_true rfl⟩) hS (fun v11 H locs ev11 hI hP hS => ?_)
                refine lv_goto (tgt := 170) hx hb xd_Re_receive_137 (by decide) ?_
                exact fw_vret hx hb hr hlocks hS hP (xI_mono hI (by omega)) xd_Re_receive_170 (by subst ev11; simp only [xf_Re_receive, if_neg c_1, if_neg c_2, if_pos c_3, if_neg c_4, if_neg c_6, if_neg c_8, if_pos c_10])
              · skip
                by_cases c_12 : (v0 7 k1 0) = (10 : Int32)
                · refine lv_tableIn (off := 103) (tgt := 140) hx hb xd_Re_receive_37 (by rw [c_12]; decide) (by rw [c_12]; decide) (by rw [c_12]; rfl) (by decide) ?_
                  refine lv_aload_n hx hb xd_Re_receive_140 rfl (lv_at hl 0 rfl) ?_
                  refine fw_cv (va_runV (As := []) (rest := []) ⟨hx, hb, hml, hown, hts⟩ (xc_Re_deviceReady l hD v0 hI (r) (by omega)) (xw_Re_deviceReady hts L_Re_106 ⟨Nat.le_of_ble_eq_true rfl, Nat.le_of_ble_eq_true rfl⟩) (fw_preV hN hK hP (xm_13 (by omega)) (xk_13 r) rfl) rfl rfl hl.1 rfl (lv_room (Nat.le_of_ble_eq_true rfl)) xd_Re_receive_141 ⟨Nat.le_of_ble_eq_true rfl, Nat.le_of_ble_eq_true rfl⟩) hS (fun v13 H locs ev13 hI hP hS => ?_)
                  refine lv_goto (tgt := 170) hx hb xd_Re_receive_144 (by decide) ?_
                  exact fw_vret hx hb hr hlocks hS hP (xI_mono hI (by omega)) xd_Re_receive_170 (by subst ev13; simp only [xf_Re_receive, if_neg c_1, if_neg c_2, if_pos c_3, if_neg c_4, if_neg c_6, if_neg c_8, if_neg c_10, if_pos c_12])
                · skip
                  by_cases c_14 : (v0 7 k1 0) = (13 : Int32)
                  · refine lv_tableIn (off := 110) (tgt := 147) hx hb xd_Re_receive_37 (by rw [c_14]; decide) (by rw [c_14]; decide) (by rw [c_14]; rfl) (by decide) ?_
                    refine lv_aload_n hx hb xd_Re_receive_147 rfl (lv_at hl 0 rfl) ?_
                    refine lv_aload_n hx hb xd_Re_receive_148 rfl (lv_at hl 1 rfl) ?_
                    refine fw_cv (va_runV (As := [.ref (ad 7 k1)]) (rest := []) ⟨hx, hb, hml, hown, hts⟩ (xc_Re_takeInput l hD v0 hI (r) (by omega) (k1) (by omega)) (xw_Re_takeInput hts L_Re_109 ⟨Nat.le_of_ble_eq_true rfl, Nat.le_of_ble_eq_true rfl⟩) (fw_preV hN hK hP (xm_13 (by omega)) (xk_13 r) rfl) rfl rfl hl.1 rfl (lv_room (Nat.le_of_ble_eq_true rfl)) xd_Re_receive_149 ⟨Nat.le_of_ble_eq_true rfl, Nat.le_of_ble_eq_true rfl⟩) hS (fun v15 H locs ev15 hI hP hS => ?_)
                    refine lv_goto (tgt := 170) hx hb xd_Re_receive_152 (by decide) ?_
                    exact fw_vret hx hb hr hlocks hS hP (xI_mono hI (by omega)) xd_Re_receive_170 (by subst ev15; simp only [xf_Re_receive, if_neg c_1, if_neg c_2, if_pos c_3, if_neg c_4, if_neg c_6, if_neg c_8, if_neg c_10, if_neg c_12, if_pos c_14])
                  · skip
                    by_cases c_16 : (v0 7 k1 0) = (14 : Int32)
                    · refine lv_tableIn (off := 118) (tgt := 155) hx hb xd_Re_receive_37 (by rw [c_16]; decide) (by rw [c_16]; decide) (by rw [c_16]; rfl) (by decide) ?_
                      refine lv_aload_n hx hb xd_Re_receive_155 rfl (lv_at hl 0 rfl) ?_
                      refine lv_aload_n hx hb xd_Re_receive_156 rfl (lv_at hl 1 rfl) ?_
                      refine fw_cv (va_runV (As := [.ref (ad 7 k1)]) (rest := []) ⟨hx, hb, hml, hown, hts⟩ (xc_Re_takeAlarm l hD v0 hI (r) (by omega) (k1) (by omega) (by omega)) (xw_Re_takeAlarm hts L_Re_112 ⟨Nat.le_of_ble_eq_true rfl, Nat.le_of_ble_eq_true rfl⟩) (fw_preV hN hK hP (xm_13 (by omega)) (xk_13 r) rfl) rfl rfl hl.1 rfl (lv_room (Nat.le_of_ble_eq_true rfl)) xd_Re_receive_157 ⟨Nat.le_of_ble_eq_true rfl, Nat.le_of_ble_eq_true rfl⟩) hS (fun v17 H locs ev17 hI hP hS => ?_)
                      refine lv_goto (tgt := 170) hx hb xd_Re_receive_160 (by decide) ?_
                      exact fw_vret hx hb hr hlocks hS hP hI xd_Re_receive_170 (by subst ev17; simp only [xf_Re_receive, if_neg c_1, if_neg c_2, if_pos c_3, if_neg c_4, if_neg c_6, if_neg c_8, if_neg c_10, if_neg c_12, if_neg c_14, if_pos c_16])
                    · skip
                      by_cases c_18 : (v0 7 k1 0) = (16 : Int32)
                      · refine lv_tableIn (off := 126) (tgt := 163) hx hb xd_Re_receive_37 (by rw [c_18]; decide) (by rw [c_18]; decide) (by rw [c_18]; rfl) (by decide) ?_
                        refine lv_aload_n hx hb xd_Re_receive_163 rfl (lv_at hl 0 rfl) ?_
                        refine fw_cv (va_runV (As := []) (rest := []) ⟨hx, hb, hml, hown, hts⟩ (xc_Re_shut l hD v0 hI (r) (by omega)) (xw_Re_shut hts L_Re_78 ⟨Nat.le_of_ble_eq_true rfl, Nat.le_of_ble_eq_true rfl⟩) (fw_preV hN hK hP (xm_13 (by omega)) (xk_13 r) rfl) rfl rfl hl.1 rfl (lv_room (Nat.le_of_ble_eq_true rfl)) xd_Re_receive_164 ⟨Nat.le_of_ble_eq_true rfl, Nat.le_of_ble_eq_true rfl⟩) hS (fun v19 H locs ev19 hI hP hS => ?_)
                        refine lv_goto (tgt := 170) hx hb xd_Re_receive_167 (by decide) ?_
                        exact fw_vret hx hb hr hlocks hS hP (xI_mono hI (by omega)) xd_Re_receive_170 (by subst ev19; simp only [xf_Re_receive, if_neg c_1, if_neg c_2, if_pos c_3, if_neg c_4, if_neg c_6, if_neg c_8, if_neg c_10, if_neg c_12, if_neg c_14, if_neg c_16, if_pos c_18])
                      · skip
                        by_cases c_20 : (v0 7 k1 0) = (6 : Int32)
                        · refine lv_tableIn (off := 133) (tgt := 170) hx hb xd_Re_receive_37 (by rw [c_20]; decide) (by rw [c_20]; decide) (by rw [c_20]; rfl) (by decide) ?_
                          exact fw_vret hx hb hr hlocks hS hP (xI_mono hI (by omega)) xd_Re_receive_170 (by simp only [xf_Re_receive, if_neg c_1, if_neg c_2, if_pos c_3, if_neg c_4, if_neg c_6, if_neg c_8, if_neg c_10, if_neg c_12, if_neg c_14, if_neg c_16, if_neg c_18])
                        · skip
                          by_cases c_21 : (v0 7 k1 0) = (8 : Int32)
                          · refine lv_tableIn (off := 133) (tgt := 170) hx hb xd_Re_receive_37 (by rw [c_21]; decide) (by rw [c_21]; decide) (by rw [c_21]; rfl) (by decide) ?_
                            exact fw_vret hx hb hr hlocks hS hP (xI_mono hI (by omega)) xd_Re_receive_170 (by simp only [xf_Re_receive, if_neg c_1, if_neg c_2, if_pos c_3, if_neg c_4, if_neg c_6, if_neg c_8, if_neg c_10, if_neg c_12, if_neg c_14, if_neg c_16, if_neg c_18, if_neg c_20])
                          · skip
                            by_cases c_22 : (v0 7 k1 0) = (11 : Int32)
                            · refine lv_tableIn (off := 133) (tgt := 170) hx hb xd_Re_receive_37 (by rw [c_22]; decide) (by rw [c_22]; decide) (by rw [c_22]; rfl) (by decide) ?_
                              exact fw_vret hx hb hr hlocks hS hP (xI_mono hI (by omega)) xd_Re_receive_170 (by simp only [xf_Re_receive, if_neg c_1, if_neg c_2, if_pos c_3, if_neg c_4, if_neg c_6, if_neg c_8, if_neg c_10, if_neg c_12, if_neg c_14, if_neg c_16, if_neg c_18, if_neg c_20, if_neg c_21])
                            · skip
                              by_cases c_23 : (v0 7 k1 0) = (12 : Int32)
                              · refine lv_tableIn (off := 133) (tgt := 170) hx hb xd_Re_receive_37 (by rw [c_23]; decide) (by rw [c_23]; decide) (by rw [c_23]; rfl) (by decide) ?_
                                exact fw_vret hx hb hr hlocks hS hP (xI_mono hI (by omega)) xd_Re_receive_170 (by simp only [xf_Re_receive, if_neg c_1, if_neg c_2, if_pos c_3, if_neg c_4, if_neg c_6, if_neg c_8, if_neg c_10, if_neg c_12, if_neg c_14, if_neg c_16, if_neg c_18, if_neg c_20, if_neg c_21, if_neg c_22])
                              · skip
                                by_cases c_24 : (v0 7 k1 0) = (15 : Int32)
                                · refine lv_tableIn (off := 133) (tgt := 170) hx hb xd_Re_receive_37 (by rw [c_24]; decide) (by rw [c_24]; decide) (by rw [c_24]; rfl) (by decide) ?_
                                  exact fw_vret hx hb hr hlocks hS hP (xI_mono hI (by omega)) xd_Re_receive_170 (by simp only [xf_Re_receive, if_neg c_1, if_neg c_2, if_pos c_3, if_neg c_4, if_neg c_6, if_neg c_8, if_neg c_10, if_neg c_12, if_neg c_14, if_neg c_16, if_neg c_18, if_neg c_20, if_neg c_21, if_neg c_22, if_neg c_23])
                                · skip
                                  refine lv_tableOut (tgt := 170) hx hb xd_Re_receive_37 (by have q0 := lv_neT c_4 (a := 4) (by decide); have q1 := lv_neT c_6 (a := 5) (by decide); have q2 := lv_neT c_8 (a := 7) (by decide); have q3 := lv_neT c_10 (a := 9) (by decide); have q4 := lv_neT c_12 (a := 10) (by decide); have q5 := lv_neT c_14 (a := 13) (by decide); have q6 := lv_neT c_16 (a := 14) (by decide); have q7 := lv_neT c_18 (a := 16) (by decide); have q8 := lv_neT c_20 (a := 6) (by decide); have q9 := lv_neT c_21 (a := 8) (by decide); have q10 := lv_neT c_22 (a := 11) (by decide); have q11 := lv_neT c_23 (a := 12) (by decide); have q12 := lv_neT c_24 (a := 15) (by decide); omega) (by decide) ?_
                                  exact fw_vret hx hb hr hlocks hS hP (xI_mono hI (by omega)) xd_Re_receive_170 (by simp only [xf_Re_receive, if_neg c_1, if_neg c_2, if_pos c_3, if_neg c_4, if_neg c_6, if_neg c_8, if_neg c_10, if_neg c_12, if_neg c_14, if_neg c_16, if_neg c_18])
      · exact fw_vret hx hb hr hlocks hS hP (xI_mono hI (by omega)) xd_Re_receive_32 (by simp only [xf_Re_receive, if_neg c_1, if_neg c_2, if_neg c_3])
  · refine lv_aload_n hx hb xd_Re_receive_8 rfl (lv_at hl 0 rfl) ?_
    refine lv_aload_n hx hb xd_Re_receive_9 rfl (lv_at hl 1 rfl) ?_
    refine fw_cv (va_runV (As := [.ref (ad 7 k1)]) (rest := []) ⟨hx, hb, hml, hown, hts⟩ (xc_Re_deviceFound l hD v0 hI (r) (by omega) (k1) (by omega)) (xw_Re_deviceFound hts L_Re_86 ⟨Nat.le_of_ble_eq_true rfl, Nat.le_of_ble_eq_true rfl⟩) (fw_preV hN hK hP (xm_13 (by omega)) (xk_13 r) rfl) rfl rfl hl.1 rfl (lv_room (Nat.le_of_ble_eq_true rfl)) xd_Re_receive_10 ⟨Nat.le_of_ble_eq_true rfl, Nat.le_of_ble_eq_true rfl⟩) hS (fun v25 H locs ev25 hI hP hS => ?_)
    exact fw_vret hx hb hr hlocks hS hP (xI_mono hI (by omega)) xd_Re_receive_13 (by subst ev25; simp only [xf_Re_receive, if_pos c_1])
def xf_De_answerSeek (v0 : fw_V) (r : Nat) (a1 : Int32) : fw_V :=
  if (v0 19 r 5) = (0 : Int32) then
    v0
  else
    if a1 = (v0 19 r 5) then
      let p5 := xf_Wi_send v0 (2 : Int32) (0 : Int32) (v0 19 r 0) (2 : Int32)
      let y3 := p5.1
      let v4 := p5.2
      let v6 := fw_up v4 8 y3 (0) (v4 19 r 5)
      v6
    else
      v0

set_option maxHeartbeats 4000000 in
set_option maxRecDepth 100000 in
theorem xc_De_answerSeek (l : Launch) {D : va_G} {cA : Nat → ClassId} {ad : Nat → Nat → Nat} (hD : fw_D xCL ad) {b : Nat} (v0 : fw_V) (hI : xI b v0) (r : Nat) (hr0 : r < 2) (a1 : Int32)  : Met l xy_De_answerSeek (Cond.code xy_De_answerSeek xb_De_answerSeek 2 none :: vTB) xrm_De_answerSeek (fw_Pc vNL D vcls (vtys cA) xCL cA xkd ad v0 [.ref (ad 19 r), .int a1]) (fw_Qv D vcls xCL cA xkd ad (xI b) (xf_De_answerSeek v0 r a1)) 0 0 (fw_A xCL ad) := by
  refine Met.ofW (cc := xb_De_answerSeek) (maxL := 2) (ret := none) (by decide) rfl ?_
  intro p e s m args below meth c s₁ B hml hv
  obtain ⟨rfl, hP, hK, hN⟩ := hv
  have hx := B.exec
  have hb := B.bytes
  have hr := B.returns
  have hts : ∀ w ∈ vTB, w.before ([.ref (ad 19 r), .int a1] : List Value).toArray s = true := fun w h => atoms_spec (ws := (Cond.code xy_De_answerSeek xb_De_answerSeek 2 none :: vTB)) B.pre w (List.mem_cons_of_mem _ h)
  have hown : s.vm.findClass R_De = some m.cls := findClass_of_methodNamed B.named
  have hlocks := B.notSynchronized
  have hS : va_S (fw_A xCL ad) s.heap s.heap [] := va_S.rf
  skip
  have hl := lv_entry ([.ref (ad 19 r), .int a1]) (n := 2) (Nat.le_of_ble_eq_true rfl)
  rw [lg_entry_eq]
  generalize (lg_sl ([.ref (ad 19 r), .int a1]) ++ List.replicate (2 - (lg_sl ([.ref (ad 19 r), .int a1])).length) Slot.unset).toArray = ls at hl ⊢
  have hl : lv_has ls 2 [(0, .ref (ad 19 r)), (1, .int a1)] := hl
  refine lv_aload_n hx hb xd_De_answerSeek_0 rfl (lv_at hl 0 rfl) ?_
  refine fw_geti hx hb hts i_De hown hK hP (xm_19 (by omega)) (xk_19 r) rfl 5 (by decide) (hts _ L_De_135) (fun _ h9 => h9) rfl xd_De_answerSeek_1 ?_
  refine lv_if_eq (tgt := 38) hx hb xd_De_answerSeek_4 (by decide) (fun c_1 => ?_) (fun c_1 => ?_)
  · exact fw_vret hx hb hr hlocks hS hP hI xd_De_answerSeek_38 (by simp only [xf_De_answerSeek, if_pos c_1])
  · refine lv_iload_n hx hb xd_De_answerSeek_7 rfl (lv_at hl 1 rfl) ?_
    refine lv_aload_n hx hb xd_De_answerSeek_8 rfl (lv_at hl 0 rfl) ?_
    refine fw_geti hx hb hts i_De hown hK hP (xm_19 (by omega)) (xk_19 r) rfl 5 (by decide) (hts _ L_De_135) (fun _ h9 => h9) rfl xd_De_answerSeek_9 ?_
    refine lv_icmp_ne (tgt := 38) hx hb xd_De_answerSeek_12 (by decide) (fun c_2 => ?_) (fun c_2 => ?_)
    · exact fw_vret hx hb hr hlocks hS hP hI xd_De_answerSeek_38 (by simp only [xf_De_answerSeek, if_neg c_1, if_neg c_2])
    · refine lv_aload_n hx hb xd_De_answerSeek_15 rfl (lv_at hl 0 rfl) ?_
      refine fw_getr hx hb hts i_De hown hK hP (xm_19 (by omega)) (xk_19 r) rfl 2 (by decide) (hts _ L_De_52) (fun _ h9 => h9) rfl xd_De_answerSeek_16 ?_
      refine lv_iconst (v := (2 : Int32)) hx hb xd_De_answerSeek_19 (by decide) ?_
      refine lv_iconst (v := (0 : Int32)) hx hb xd_De_answerSeek_20 (by decide) ?_
      refine lv_aload_n hx hb xd_De_answerSeek_21 rfl (lv_at hl 0 rfl) ?_
      refine fw_geti hx hb hts i_De hown hK hP (xm_19 (by omega)) (xk_19 r) rfl 0 (by decide) (hts _ L_De_45) (fun _ h9 => h9) rfl xd_De_answerSeek_22 ?_
      refine lv_iconst (v := (2 : Int32)) hx hb xd_De_answerSeek_25 (by decide) ?_
      refine fw_cr (va_runV (As := [.int (2 : Int32), .int (0 : Int32), .int (v0 19 r 0), .int (2 : Int32)]) (rest := []) ⟨hx, hb, hml, hown, hts⟩ (xc_Wi_send l hD v0 hI (2 : Int32) (0 : Int32) (v0 19 r 0) (2 : Int32)) (xw_Wi_send hts L_De_138 ⟨Nat.le_of_ble_eq_true rfl, Nat.le_of_ble_eq_true rfl⟩) (fw_preV hN hK hP (xm_5 (by decide)) (xk_5 0) rfl) rfl rfl hl.1 rfl (lv_room (Nat.le_of_ble_eq_true rfl)) xd_De_answerSeek_26 ⟨Nat.le_of_ble_eq_true rfl, Nat.le_of_ble_eq_true rfl⟩) hS (fun y3 v4 H locs ly3 ey3 ev4 hI hP hS => ?_)
      refine fw_getr hx hb hts i_Fm hown hK hP (xm_7 (by omega)) (xk_7 y3) rfl 4 (by decide) (hts _ L_De_144) (fun _ h9 => h9) rfl xd_De_answerSeek_29 ?_
      refine lv_iconst (v := (0 : Int32)) hx hb xd_De_answerSeek_32 (by decide) ?_
      refine lv_aload_n hx hb xd_De_answerSeek_33 rfl (lv_at hl 0 rfl) ?_
      refine fw_geti hx hb hts i_De hown hK hP (xm_19 (by omega)) (xk_19 r) rfl 5 (by decide) (hts _ L_De_135) (fun _ h9 => h9) rfl xd_De_answerSeek_34 ?_
      refine fw_iast hx hb hK hD hP hS (xm_8 (by omega)) (xk_8 y3) 0 rfl (j := 0) (by decide) (fw_inc (by decide)) xd_De_answerSeek_37 (fun v6 H locs ev6 hP hS => ?_)
      have hI : xI b v6 := by rw [ev6]; exact xI_up hI trivial trivial
      exact fw_vret hx hb hr hlocks hS hP hI xd_De_answerSeek_38 (by subst ey3 ev4 ev6; simp only [xf_De_answerSeek, if_neg c_1, if_pos c_2])
def xf_De_connect_j10 (v : fw_V) (r : Nat) (k1 : Nat)  : fw_V :=
  v
def xf_De_connect_j9 (v : fw_V) (r : Nat) (k1 : Nat)  : fw_V :=
  let r18 := xf_FR_withSlot (v 19 r 15) (2 : Int32) (0 : Int32)
  let v19 := fw_up v 19 r 15 r18
  xf_De_connect_j10 v19 r k1
def xf_De_connect_j8 (v : fw_V) (r : Nat) (k1 : Nat)  : fw_V :=
  xf_De_connect_j9 v r k1
def xf_De_connect_j11 (v : fw_V) (r : Nat) (k1 : Nat)  : fw_V :=
  let r22 := xf_FR_withSlot (v 19 r 15) (2 : Int32) (1 : Int32)
  let v23 := fw_up v 19 r 15 r22
  xf_De_connect_j10 v23 r k1
def xf_De_connect_j7 (v : fw_V) (r : Nat) (k1 : Nat)  : fw_V :=
  let v16 := fw_up v 26 r (2) ((v 8 k1 2) - (1 : Int32))
  if (v16 26 r 2) = (-1 : Int32) then
    xf_De_connect_j8 v16 r k1
  else
    if (v16 26 r 2) = (v16 23 r 2) then
      xf_De_connect_j8 v16 r k1
    else
      xf_De_connect_j11 v16 r k1
def xf_De_connect_j6 (v : fw_V) (r : Nat) (k1 : Nat)  : fw_V :=
  let r13 := xf_FR_withSlot (v 19 r 15) (1 : Int32) (0 : Int32)
  let v14 := fw_up v 19 r 15 r13
  xf_De_connect_j7 v14 r k1
def xf_De_connect_j5 (v : fw_V) (r : Nat) (k1 : Nat)  : fw_V :=
  xf_De_connect_j6 v r k1
def xf_De_connect_j12 (v : fw_V) (r : Nat) (k1 : Nat)  : fw_V :=
  let r25 := xf_FR_withSlot (v 19 r 15) (1 : Int32) (1 : Int32)
  let v26 := fw_up v 19 r 15 r25
  xf_De_connect_j7 v26 r k1
def xf_De_connect_j4 (v : fw_V) (r : Nat) (k1 : Nat)  : fw_V :=
  let v11 := fw_up v 26 r (1) ((v 8 k1 1) - (1 : Int32))
  if (v11 26 r 1) = (-1 : Int32) then
    xf_De_connect_j5 v11 r k1
  else
    if (v11 26 r 1) = (v11 23 r 1) then
      xf_De_connect_j5 v11 r k1
    else
      xf_De_connect_j12 v11 r k1
def xf_De_connect_j3 (v : fw_V) (r : Nat) (k1 : Nat)  : fw_V :=
  let r8 := xf_FR_withSlot (v 19 r 15) (0 : Int32) (0 : Int32)
  let v9 := fw_up v 19 r 15 r8
  xf_De_connect_j4 v9 r k1
def xf_De_connect_j2 (v : fw_V) (r : Nat) (k1 : Nat)  : fw_V :=
  xf_De_connect_j3 v r k1
def xf_De_connect_j13 (v : fw_V) (r : Nat) (k1 : Nat)  : fw_V :=
  let r28 := xf_FR_withSlot (v 19 r 15) (0 : Int32) (1 : Int32)
  let v29 := fw_up v 19 r 15 r28
  xf_De_connect_j4 v29 r k1
def xf_De_connect_j1 (v : fw_V) (r : Nat) (k1 : Nat)  : fw_V :=
  let v6 := fw_up v 26 r (0) ((v 8 k1 0) - (1 : Int32))
  if (v6 26 r 0) = (-1 : Int32) then
    xf_De_connect_j2 v6 r k1
  else
    if (v6 26 r 0) = (v6 23 r 0) then
      xf_De_connect_j2 v6 r k1
    else
      xf_De_connect_j13 v6 r k1
def xf_De_connect (v0 : fw_V) (r : Nat) (k1 : Nat) : fw_V :=
  let v1 := fw_up v0 19 r 11 (1 : Int32)
  let v2 := fw_up v1 19 r 12 (v1 7 k1 1)
  let v3 := fw_up v2 19 r 16 (0 : Int32)
  let v4 := fw_row v3 27 r (fun _ => (-1 : Int32))
  xf_De_connect_j1 v4 r k1

set_option maxHeartbeats 4000000 in
set_option maxRecDepth 100000 in
theorem xc_De_connect (l : Launch) {D : va_G} {cA : Nat → ClassId} {ad : Nat → Nat → Nat} (hD : fw_D xCL ad) {b : Nat} (v0 : fw_V) (hI : xI b v0) (r : Nat) (hr0 : r < 2) (k1 : Nat) (hk1 : k1 < 18)  : Met l xy_De_connect (Cond.code xy_De_connect xb_De_connect 4 none :: vTB) xrm_De_connect (fw_Pc vNL D vcls (vtys cA) xCL cA xkd ad v0 [.ref (ad 19 r), .ref (ad 7 k1)]) (fw_Qv D vcls xCL cA xkd ad (xI b) (xf_De_connect v0 r k1)) 0 0 (fw_A xCL ad) := by
  refine Met.ofW (cc := xb_De_connect) (maxL := 4) (ret := none) (by decide) rfl ?_
  intro p e s m args below meth c s₁ B hml hv
  obtain ⟨rfl, hP, hK, hN⟩ := hv
  have hx := B.exec
  have hb := B.bytes
  have hr := B.returns
  have hts : ∀ w ∈ vTB, w.before ([.ref (ad 19 r), .ref (ad 7 k1)] : List Value).toArray s = true := fun w h => atoms_spec (ws := (Cond.code xy_De_connect xb_De_connect 4 none :: vTB)) B.pre w (List.mem_cons_of_mem _ h)
  have hown : s.vm.findClass R_De = some m.cls := findClass_of_methodNamed B.named
  have hlocks := B.notSynchronized
  have hS : va_S (fw_A xCL ad) s.heap s.heap [] := va_S.rf
  have J10 : ∀ (v : fw_V)  (H : Heap) (locs : List Loc) (ls : Array Slot), xf_De_connect v0 r k1 = xf_De_connect_j10 v r k1 → xI b v → va_P D vcls (fw_w xCL cA xkd ad v) H → va_S (fw_A xCL ad) s.heap H locs → lv_has ls 4 [(0, .ref (ad 19 r)), (1, .ref (ad 7 k1)), (2, .int (3 : Int32))] → W p l e (headSpec (Cond.code xy_De_connect xb_De_connect 4 none :: vTB) xrm_De_connect).room s m ([.ref (ad 19 r), .ref (ad 7 k1)] : List Value).toArray below meth c H locs 0 0 (MQ below (fw_Qv D vcls xCL cA xkd ad (xI b) (xf_De_connect v0 r k1)) ([.ref (ad 19 r), .ref (ad 7 k1)] : List Value).toArray s 0 0 (fw_A xCL ad)) (F0 m 28 ls []) := by
    intro v  H locs ls hj  hI hP hS hl
    refine lv_iload_n hx hb xd_De_connect_28 rfl (lv_at hl 2 rfl) ?_
    refine lv_iconst (v := (3 : Int32)) hx hb xd_De_connect_29 (by decide) ?_
    refine lv_icmp_ge (tgt := 97) hx hb xd_De_connect_30 (by decide) (fun _ => ?_) (fun c_20 => absurd (by decide) c_20)
    exact fw_vret hx hb hr hlocks hS hP hI xd_De_connect_97 (by rw [hj]; simp only [xf_De_connect_j10])
  have J9 : ∀ (v : fw_V)  (H : Heap) (locs : List Loc) (ls : Array Slot), xf_De_connect v0 r k1 = xf_De_connect_j9 v r k1 → xI b v → va_P D vcls (fw_w xCL cA xkd ad v) H → va_S (fw_A xCL ad) s.heap H locs → lv_has ls 4 [(0, .ref (ad 19 r)), (1, .ref (ad 7 k1)), (2, .int (2 : Int32))] → W p l e (headSpec (Cond.code xy_De_connect xb_De_connect 4 none :: vTB) xrm_De_connect).room s m ([.ref (ad 19 r), .ref (ad 7 k1)] : List Value).toArray below meth c H locs 0 0 (MQ below (fw_Qv D vcls xCL cA xkd ad (xI b) (xf_De_connect v0 r k1)) ([.ref (ad 19 r), .ref (ad 7 k1)] : List Value).toArray s 0 0 (fw_A xCL ad)) (F0 m 77 ls [.int (0 : Int32)]) := by
    intro v  H locs ls hj  hI hP hS hl
    refine lv_istore_n (lv' := [(3, .int (0 : Int32)), (0, .ref (ad 19 r)), (1, .ref (ad 7 k1)), (2, .int (2 : Int32))]) hx hb xd_De_connect_77 rfl hl (by decide) rfl (fun ls hl => ?_)
    refine lv_aload_n hx hb xd_De_connect_78 rfl (lv_at hl 1 rfl) ?_
    refine lv_aload_n hx hb xd_De_connect_79 rfl (lv_at hl 1 rfl) ?_
    refine fw_geti hx hb hts i_De hown hK hP (xm_19 (by omega)) (xk_19 r) rfl 15 (by decide) (hts _ L_De_72) (fun _ h9 => h9) rfl xd_De_connect_80 ?_
    refine lv_iload_n hx hb xd_De_connect_83 rfl (lv_at hl 3 rfl) ?_
    refine lv_iload_n hx hb xd_De_connect_84 rfl (lv_at hl 0 rfl) ?_
    refine fw_co (va_runSN (As := [.int (v 19 r 15), .int (2 : Int32), .int (0 : Int32)]) (rest := [.ref (ad 19 r)]) ⟨hx, hb, hml, hown, hts⟩ (xc_FR_withSlot l hD v hI (v 19 r 15) (2 : Int32) (0 : Int32)) (xwn_FR_withSlot hts (hN.2 _ L_De_75) ⟨Nat.le_of_ble_eq_true rfl, Nat.le_of_ble_eq_true rfl⟩) (fw_preS hN hK hP) rfl rfl hl.1 rfl (lv_room (Nat.le_of_ble_eq_true rfl)) xd_De_connect_85 ⟨Nat.le_of_ble_eq_true rfl, Nat.le_of_ble_eq_true rfl⟩) hS (fun r18 H locs er18 hP hS => ?_)
    refine fw_puti hx hb hts i_De t_De t_De_ok n_De hown hK hD hP hS (xm_19 (by omega)) (xk_19 r) rfl 15 (by decide) (hts _ L_De_72) (fun _ h9 => h9) rfl fw_pdI rfl rfl rfl xd_De_connect_88 (fun v19 H locs ev19 hP hS => ?_)
    have hI : xI b v19 := by rw [ev19]; exact xI_up hI trivial trivial
    refine lv_iinc (v := (3 : Int32)) (lv' := [(2, .int (3 : Int32)), (3, .int (0 : Int32)), (0, .ref (ad 19 r)), (1, .ref (ad 7 k1))]) hx hb xd_De_connect_91 hl (k := 3) rfl (by decide) (by decide) rfl (fun ls hl => ?_)
    refine lv_goto (tgt := 28) hx hb xd_De_connect_94 (by decide) ?_
    exact J10 v19  _ _ _ (by rw [hj]; subst er18 ev19; simp only [xf_De_connect_j9])   hI hP hS (lv_sub hl [2, 3, 0] rfl)
  have J8 : ∀ (v : fw_V)  (H : Heap) (locs : List Loc) (ls : Array Slot), xf_De_connect v0 r k1 = xf_De_connect_j8 v r k1 → xI b v → va_P D vcls (fw_w xCL cA xkd ad v) H → va_S (fw_A xCL ad) s.heap H locs → lv_has ls 4 [(0, .ref (ad 19 r)), (1, .ref (ad 7 k1)), (2, .int (2 : Int32))] → W p l e (headSpec (Cond.code xy_De_connect xb_De_connect 4 none :: vTB) xrm_De_connect).room s m ([.ref (ad 19 r), .ref (ad 7 k1)] : List Value).toArray below meth c H locs 0 0 (MQ below (fw_Qv D vcls xCL cA xkd ad (xI b) (xf_De_connect v0 r k1)) ([.ref (ad 19 r), .ref (ad 7 k1)] : List Value).toArray s 0 0 (fw_A xCL ad)) (F0 m 76 ls []) := by
    intro v  H locs ls hj  hI hP hS hl
    clear J10
    refine lv_iconst (v := (0 : Int32)) hx hb xd_De_connect_76 (by decide) ?_
    exact J9 v  _ _ _ (by rw [hj]; simp only [xf_De_connect_j8])   hI hP hS (lv_sub hl [0, 1, 2] rfl)
  have J11 : ∀ (v : fw_V)  (H : Heap) (locs : List Loc) (ls : Array Slot), xf_De_connect v0 r k1 = xf_De_connect_j11 v r k1 → xI b v → va_P D vcls (fw_w xCL cA xkd ad v) H → va_S (fw_A xCL ad) s.heap H locs → lv_has ls 4 [(0, .ref (ad 19 r)), (1, .ref (ad 7 k1)), (2, .int (2 : Int32))] → W p l e (headSpec (Cond.code xy_De_connect xb_De_connect 4 none :: vTB) xrm_De_connect).room s m ([.ref (ad 19 r), .ref (ad 7 k1)] : List Value).toArray below meth c H locs 0 0 (MQ below (fw_Qv D vcls xCL cA xkd ad (xI b) (xf_De_connect v0 r k1)) ([.ref (ad 19 r), .ref (ad 7 k1)] : List Value).toArray s 0 0 (fw_A xCL ad)) (F0 m 77 ls [.int (1 : Int32)]) := by
    intro v  H locs ls hj  hI hP hS hl
    clear J9 J8
    refine lv_istore_n (lv' := [(3, .int (1 : Int32)), (0, .ref (ad 19 r)), (1, .ref (ad 7 k1)), (2, .int (2 : Int32))]) hx hb xd_De_connect_77 rfl hl (by decide) rfl (fun ls hl => ?_)
    refine lv_aload_n hx hb xd_De_connect_78 rfl (lv_at hl 1 rfl) ?_
    refine lv_aload_n hx hb xd_De_connect_79 rfl (lv_at hl 1 rfl) ?_
    refine fw_geti hx hb hts i_De hown hK hP (xm_19 (by omega)) (xk_19 r) rfl 15 (by decide) (hts _ L_De_72) (fun _ h9 => h9) rfl xd_De_connect_80 ?_
    refine lv_iload_n hx hb xd_De_connect_83 rfl (lv_at hl 3 rfl) ?_
    refine lv_iload_n hx hb xd_De_connect_84 rfl (lv_at hl 0 rfl) ?_
    refine fw_co (va_runSN (As := [.int (v 19 r 15), .int (2 : Int32), .int (1 : Int32)]) (rest := [.ref (ad 19 r)]) ⟨hx, hb, hml, hown, hts⟩ (xc_FR_withSlot l hD v hI (v 19 r 15) (2 : Int32) (1 : Int32)) (xwn_FR_withSlot hts (hN.2 _ L_De_75) ⟨Nat.le_of_ble_eq_true rfl, Nat.le_of_ble_eq_true rfl⟩) (fw_preS hN hK hP) rfl rfl hl.1 rfl (lv_room (Nat.le_of_ble_eq_true rfl)) xd_De_connect_85 ⟨Nat.le_of_ble_eq_true rfl, Nat.le_of_ble_eq_true rfl⟩) hS (fun r22 H locs er22 hP hS => ?_)
    refine fw_puti hx hb hts i_De t_De t_De_ok n_De hown hK hD hP hS (xm_19 (by omega)) (xk_19 r) rfl 15 (by decide) (hts _ L_De_72) (fun _ h9 => h9) rfl fw_pdI rfl rfl rfl xd_De_connect_88 (fun v23 H locs ev23 hP hS => ?_)
    have hI : xI b v23 := by rw [ev23]; exact xI_up hI trivial trivial
    refine lv_iinc (v := (3 : Int32)) (lv' := [(2, .int (3 : Int32)), (3, .int (1 : Int32)), (0, .ref (ad 19 r)), (1, .ref (ad 7 k1))]) hx hb xd_De_connect_91 hl (k := 3) rfl (by decide) (by decide) rfl (fun ls hl => ?_)
    refine lv_goto (tgt := 28) hx hb xd_De_connect_94 (by decide) ?_
    exact J10 v23  _ _ _ (by rw [hj]; subst er22 ev23; simp only [xf_De_connect_j11])   hI hP hS (lv_sub hl [2, 3, 0] rfl)
  have J7 : ∀ (v : fw_V)  (H : Heap) (locs : List Loc) (ls : Array Slot), xf_De_connect v0 r k1 = xf_De_connect_j7 v r k1 → xI b v → va_P D vcls (fw_w xCL cA xkd ad v) H → va_S (fw_A xCL ad) s.heap H locs → lv_has ls 4 [(0, .ref (ad 19 r)), (1, .ref (ad 7 k1)), (2, .int (2 : Int32))] → W p l e (headSpec (Cond.code xy_De_connect xb_De_connect 4 none :: vTB) xrm_De_connect).room s m ([.ref (ad 19 r), .ref (ad 7 k1)] : List Value).toArray below meth c H locs 0 0 (MQ below (fw_Qv D vcls xCL cA xkd ad (xI b) (xf_De_connect v0 r k1)) ([.ref (ad 19 r), .ref (ad 7 k1)] : List Value).toArray s 0 0 (fw_A xCL ad)) (F0 m 28 ls []) := by
    intro v  H locs ls hj  hI hP hS hl
    clear J10 J9
    refine lv_iload_n hx hb xd_De_connect_28 rfl (lv_at hl 2 rfl) ?_
    refine lv_iconst (v := (3 : Int32)) hx hb xd_De_connect_29 (by decide) ?_
    refine lv_icmp_ge (tgt := 97) hx hb xd_De_connect_30 (by decide) (fun c_15 => absurd c_15 (by decide)) (fun _ => ?_)
    refine lv_aload_n hx hb xd_De_connect_33 rfl (lv_at hl 0 rfl) ?_
    refine fw_getr hx hb hts i_De hown hK hP (xm_19 (by omega)) (xk_19 r) rfl 13 (by decide) (hts _ L_De_39) (fun _ h9 => h9) rfl xd_De_connect_34 ?_
    refine lv_iload_n hx hb xd_De_connect_37 rfl (lv_at hl 2 rfl) ?_
    refine lv_aload_n hx hb xd_De_connect_38 rfl (lv_at hl 1 rfl) ?_
    refine fw_getr hx hb hts i_Fm hown hK hP (xm_7 (by omega)) (xk_7 k1) rfl 4 (by decide) (hts _ L_De_144) (fun _ h9 => h9) rfl xd_De_connect_39 ?_
    refine lv_iload_n hx hb xd_De_connect_42 rfl (lv_at hl 2 rfl) ?_
    refine fw_iald hx hb hK hP (xm_8 (by omega)) (xk_8 k1) 0 rfl (j := 2) (by decide) (fw_inc (by decide)) xd_De_connect_43 ?_
    refine lv_iconst (v := (1 : Int32)) hx hb xd_De_connect_44 (by decide) ?_
    refine lv_isub hx hb xd_De_connect_45 ?_
    refine fw_iast hx hb hK hD hP hS (xm_26 (by omega)) (xk_26 r) 0 rfl (j := 2) (by decide) (fw_inc (by decide)) xd_De_connect_46 (fun v16 H locs ev16 hP hS => ?_)
    have hI : xI b v16 := by rw [ev16]; exact xI_up hI trivial trivial
    refine lv_aload_n hx hb xd_De_connect_47 rfl (lv_at hl 0 rfl) ?_
    refine fw_getr hx hb hts i_De hown hK hP (xm_19 (by omega)) (xk_19 r) rfl 13 (by decide) (hts _ L_De_39) (fun _ h9 => h9) rfl xd_De_connect_48 ?_
    refine lv_iload_n hx hb xd_De_connect_51 rfl (lv_at hl 2 rfl) ?_
    refine fw_iald hx hb hK hP (xm_26 (by omega)) (xk_26 r) 0 rfl (j := 2) (by decide) (fw_inc (by decide)) xd_De_connect_52 ?_
    refine lv_iconst (v := (-1 : Int32)) hx hb xd_De_connect_53 (by decide) ?_
    refine lv_icmp_eq (tgt := 76) hx hb xd_De_connect_54 (by decide) (fun c_17 => ?_) (fun c_17 => ?_)
    · exact J8 v16  _ _ _ (by rw [hj]; subst ev16; simp only [xf_De_connect_j7, if_pos c_17])   hI hP hS (lv_sub hl [0, 1, 2] rfl)
    · refine lv_aload_n hx hb xd_De_connect_57 rfl (lv_at hl 0 rfl) ?_
      refine fw_getr hx hb hts i_De hown hK hP (xm_19 (by omega)) (xk_19 r) rfl 13 (by decide) (hts _ L_De_39) (fun _ h9 => h9) rfl xd_De_connect_58 ?_
      refine lv_iload_n hx hb xd_De_connect_61 rfl (lv_at hl 2 rfl) ?_
      refine fw_iald hx hb hK hP (xm_26 (by omega)) (xk_26 r) 0 rfl (j := 2) (by decide) (fw_inc (by decide)) xd_De_connect_62 ?_
      refine lv_aload_n hx hb xd_De_connect_63 rfl (lv_at hl 0 rfl) ?_
      refine fw_getr hx hb hts i_De hown hK hP (xm_19 (by omega)) (xk_19 r) rfl 8 (by decide) (hts _ L_De_29) (fun _ h9 => h9) rfl xd_De_connect_64 ?_
      refine lv_iload_n hx hb xd_De_connect_67 rfl (lv_at hl 2 rfl) ?_
      refine fw_iald hx hb hK hP (xm_23 (by omega)) (xk_23 r) 0 rfl (j := 2) (by decide) (fw_inc (by decide)) xd_De_connect_68 ?_
      refine lv_icmp_eq (tgt := 76) hx hb xd_De_connect_69 (by decide) (fun c_21 => ?_) (fun c_21 => ?_)
      · exact J8 v16  _ _ _ (by rw [hj]; subst ev16; simp only [xf_De_connect_j7, if_neg c_17, if_pos c_21])   hI hP hS (lv_sub hl [0, 1, 2] rfl)
      · refine lv_iconst (v := (1 : Int32)) hx hb xd_De_connect_72 (by decide) ?_
        refine lv_goto (tgt := 77) hx hb xd_De_connect_73 (by decide) ?_
        exact J11 v16  _ _ _ (by rw [hj]; subst ev16; simp only [xf_De_connect_j7, if_neg c_17, if_neg c_21])   hI hP hS (lv_sub hl [0, 1, 2] rfl)
  have J6 : ∀ (v : fw_V)  (H : Heap) (locs : List Loc) (ls : Array Slot), xf_De_connect v0 r k1 = xf_De_connect_j6 v r k1 → xI b v → va_P D vcls (fw_w xCL cA xkd ad v) H → va_S (fw_A xCL ad) s.heap H locs → lv_has ls 4 [(0, .ref (ad 19 r)), (1, .ref (ad 7 k1)), (2, .int (1 : Int32))] → W p l e (headSpec (Cond.code xy_De_connect xb_De_connect 4 none :: vTB) xrm_De_connect).room s m ([.ref (ad 19 r), .ref (ad 7 k1)] : List Value).toArray below meth c H locs 0 0 (MQ below (fw_Qv D vcls xCL cA xkd ad (xI b) (xf_De_connect v0 r k1)) ([.ref (ad 19 r), .ref (ad 7 k1)] : List Value).toArray s 0 0 (fw_A xCL ad)) (F0 m 77 ls [.int (0 : Int32)]) := by
    intro v  H locs ls hj  hI hP hS hl
    clear J10 J9 J8 J11
    refine lv_istore_n (lv' := [(3, .int (0 : Int32)), (0, .ref (ad 19 r)), (1, .ref (ad 7 k1)), (2, .int (1 : Int32))]) hx hb xd_De_connect_77 rfl hl (by decide) rfl (fun ls hl => ?_)
    refine lv_aload_n hx hb xd_De_connect_78 rfl (lv_at hl 1 rfl) ?_
    refine lv_aload_n hx hb xd_De_connect_79 rfl (lv_at hl 1 rfl) ?_
    refine fw_geti hx hb hts i_De hown hK hP (xm_19 (by omega)) (xk_19 r) rfl 15 (by decide) (hts _ L_De_72) (fun _ h9 => h9) rfl xd_De_connect_80 ?_
    refine lv_iload_n hx hb xd_De_connect_83 rfl (lv_at hl 3 rfl) ?_
    refine lv_iload_n hx hb xd_De_connect_84 rfl (lv_at hl 0 rfl) ?_
    refine fw_co (va_runSN (As := [.int (v 19 r 15), .int (1 : Int32), .int (0 : Int32)]) (rest := [.ref (ad 19 r)]) ⟨hx, hb, hml, hown, hts⟩ (xc_FR_withSlot l hD v hI (v 19 r 15) (1 : Int32) (0 : Int32)) (xwn_FR_withSlot hts (hN.2 _ L_De_75) ⟨Nat.le_of_ble_eq_true rfl, Nat.le_of_ble_eq_true rfl⟩) (fw_preS hN hK hP) rfl rfl hl.1 rfl (lv_room (Nat.le_of_ble_eq_true rfl)) xd_De_connect_85 ⟨Nat.le_of_ble_eq_true rfl, Nat.le_of_ble_eq_true rfl⟩) hS (fun r13 H locs er13 hP hS => ?_)
    refine fw_puti hx hb hts i_De t_De t_De_ok n_De hown hK hD hP hS (xm_19 (by omega)) (xk_19 r) rfl 15 (by decide) (hts _ L_De_72) (fun _ h9 => h9) rfl fw_pdI rfl rfl rfl xd_De_connect_88 (fun v14 H locs ev14 hP hS => ?_)
    have hI : xI b v14 := by rw [ev14]; exact xI_up hI trivial trivial
    refine lv_iinc (v := (2 : Int32)) (lv' := [(2, .int (2 : Int32)), (3, .int (0 : Int32)), (0, .ref (ad 19 r)), (1, .ref (ad 7 k1))]) hx hb xd_De_connect_91 hl (k := 3) rfl (by decide) (by decide) rfl (fun ls hl => ?_)
    refine lv_goto (tgt := 28) hx hb xd_De_connect_94 (by decide) ?_
    exact J7 v14  _ _ _ (by rw [hj]; subst er13 ev14; simp only [xf_De_connect_j6])   hI hP hS (lv_sub hl [2, 3, 0] rfl)
  have J5 : ∀ (v : fw_V)  (H : Heap) (locs : List Loc) (ls : Array Slot), xf_De_connect v0 r k1 = xf_De_connect_j5 v r k1 → xI b v → va_P D vcls (fw_w xCL cA xkd ad v) H → va_S (fw_A xCL ad) s.heap H locs → lv_has ls 4 [(0, .ref (ad 19 r)), (1, .ref (ad 7 k1)), (2, .int (1 : Int32))] → W p l e (headSpec (Cond.code xy_De_connect xb_De_connect 4 none :: vTB) xrm_De_connect).room s m ([.ref (ad 19 r), .ref (ad 7 k1)] : List Value).toArray below meth c H locs 0 0 (MQ below (fw_Qv D vcls xCL cA xkd ad (xI b) (xf_De_connect v0 r k1)) ([.ref (ad 19 r), .ref (ad 7 k1)] : List Value).toArray s 0 0 (fw_A xCL ad)) (F0 m 76 ls []) := by
    intro v  H locs ls hj  hI hP hS hl
    clear J10 J9 J8 J11 J7
    refine lv_iconst (v := (0 : Int32)) hx hb xd_De_connect_76 (by decide) ?_
    exact J6 v  _ _ _ (by rw [hj]; simp only [xf_De_connect_j5])   hI hP hS (lv_sub hl [0, 1, 2] rfl)
  have J12 : ∀ (v : fw_V)  (H : Heap) (locs : List Loc) (ls : Array Slot), xf_De_connect v0 r k1 = xf_De_connect_j12 v r k1 → xI b v → va_P D vcls (fw_w xCL cA xkd ad v) H → va_S (fw_A xCL ad) s.heap H locs → lv_has ls 4 [(0, .ref (ad 19 r)), (1, .ref (ad 7 k1)), (2, .int (1 : Int32))] → W p l e (headSpec (Cond.code xy_De_connect xb_De_connect 4 none :: vTB) xrm_De_connect).room s m ([.ref (ad 19 r), .ref (ad 7 k1)] : List Value).toArray below meth c H locs 0 0 (MQ below (fw_Qv D vcls xCL cA xkd ad (xI b) (xf_De_connect v0 r k1)) ([.ref (ad 19 r), .ref (ad 7 k1)] : List Value).toArray s 0 0 (fw_A xCL ad)) (F0 m 77 ls [.int (1 : Int32)]) := by
    intro v  H locs ls hj  hI hP hS hl
    clear J10 J9 J8 J11 J6 J5
    refine lv_istore_n (lv' := [(3, .int (1 : Int32)), (0, .ref (ad 19 r)), (1, .ref (ad 7 k1)), (2, .int (1 : Int32))]) hx hb xd_De_connect_77 rfl hl (by decide) rfl (fun ls hl => ?_)
    refine lv_aload_n hx hb xd_De_connect_78 rfl (lv_at hl 1 rfl) ?_
    refine lv_aload_n hx hb xd_De_connect_79 rfl (lv_at hl 1 rfl) ?_
    refine fw_geti hx hb hts i_De hown hK hP (xm_19 (by omega)) (xk_19 r) rfl 15 (by decide) (hts _ L_De_72) (fun _ h9 => h9) rfl xd_De_connect_80 ?_
    refine lv_iload_n hx hb xd_De_connect_83 rfl (lv_at hl 3 rfl) ?_
    refine lv_iload_n hx hb xd_De_connect_84 rfl (lv_at hl 0 rfl) ?_
    refine fw_co (va_runSN (As := [.int (v 19 r 15), .int (1 : Int32), .int (1 : Int32)]) (rest := [.ref (ad 19 r)]) ⟨hx, hb, hml, hown, hts⟩ (xc_FR_withSlot l hD v hI (v 19 r 15) (1 : Int32) (1 : Int32)) (xwn_FR_withSlot hts (hN.2 _ L_De_75) ⟨Nat.le_of_ble_eq_true rfl, Nat.le_of_ble_eq_true rfl⟩) (fw_preS hN hK hP) rfl rfl hl.1 rfl (lv_room (Nat.le_of_ble_eq_true rfl)) xd_De_connect_85 ⟨Nat.le_of_ble_eq_true rfl, Nat.le_of_ble_eq_true rfl⟩) hS (fun r25 H locs er25 hP hS => ?_)
    refine fw_puti hx hb hts i_De t_De t_De_ok n_De hown hK hD hP hS (xm_19 (by omega)) (xk_19 r) rfl 15 (by decide) (hts _ L_De_72) (fun _ h9 => h9) rfl fw_pdI rfl rfl rfl xd_De_connect_88 (fun v26 H locs ev26 hP hS => ?_)
    have hI : xI b v26 := by rw [ev26]; exact xI_up hI trivial trivial
    refine lv_iinc (v := (2 : Int32)) (lv' := [(2, .int (2 : Int32)), (3, .int (1 : Int32)), (0, .ref (ad 19 r)), (1, .ref (ad 7 k1))]) hx hb xd_De_connect_91 hl (k := 3) rfl (by decide) (by decide) rfl (fun ls hl => ?_)
    refine lv_goto (tgt := 28) hx hb xd_De_connect_94 (by decide) ?_
    exact J7 v26  _ _ _ (by rw [hj]; subst er25 ev26; simp only [xf_De_connect_j12])   hI hP hS (lv_sub hl [2, 3, 0] rfl)
  have J4 : ∀ (v : fw_V)  (H : Heap) (locs : List Loc) (ls : Array Slot), xf_De_connect v0 r k1 = xf_De_connect_j4 v r k1 → xI b v → va_P D vcls (fw_w xCL cA xkd ad v) H → va_S (fw_A xCL ad) s.heap H locs → lv_has ls 4 [(0, .ref (ad 19 r)), (1, .ref (ad 7 k1)), (2, .int (1 : Int32))] → W p l e (headSpec (Cond.code xy_De_connect xb_De_connect 4 none :: vTB) xrm_De_connect).room s m ([.ref (ad 19 r), .ref (ad 7 k1)] : List Value).toArray below meth c H locs 0 0 (MQ below (fw_Qv D vcls xCL cA xkd ad (xI b) (xf_De_connect v0 r k1)) ([.ref (ad 19 r), .ref (ad 7 k1)] : List Value).toArray s 0 0 (fw_A xCL ad)) (F0 m 28 ls []) := by
    intro v  H locs ls hj  hI hP hS hl
    clear J10 J9 J8 J11 J7 J6
    refine lv_iload_n hx hb xd_De_connect_28 rfl (lv_at hl 2 rfl) ?_
    refine lv_iconst (v := (3 : Int32)) hx hb xd_De_connect_29 (by decide) ?_
    refine lv_icmp_ge (tgt := 97) hx hb xd_De_connect_30 (by decide) (fun c_10 => absurd c_10 (by decide)) (fun _ => ?_)
    refine lv_aload_n hx hb xd_De_connect_33 rfl (lv_at hl 0 rfl) ?_
    refine fw_getr hx hb hts i_De hown hK hP (xm_19 (by omega)) (xk_19 r) rfl 13 (by decide) (hts _ L_De_39) (fun _ h9 => h9) rfl xd_De_connect_34 ?_
    refine lv_iload_n hx hb xd_De_connect_37 rfl (lv_at hl 2 rfl) ?_
    refine lv_aload_n hx hb xd_De_connect_38 rfl (lv_at hl 1 rfl) ?_
    refine fw_getr hx hb hts i_Fm hown hK hP (xm_7 (by omega)) (xk_7 k1) rfl 4 (by decide) (hts _ L_De_144) (fun _ h9 => h9) rfl xd_De_connect_39 ?_
    refine lv_iload_n hx hb xd_De_connect_42 rfl (lv_at hl 2 rfl) ?_
    refine fw_iald hx hb hK hP (xm_8 (by omega)) (xk_8 k1) 0 rfl (j := 1) (by decide) (fw_inc (by decide)) xd_De_connect_43 ?_
    refine lv_iconst (v := (1 : Int32)) hx hb xd_De_connect_44 (by decide) ?_
    refine lv_isub hx hb xd_De_connect_45 ?_
    refine fw_iast hx hb hK hD hP hS (xm_26 (by omega)) (xk_26 r) 0 rfl (j := 1) (by decide) (fw_inc (by decide)) xd_De_connect_46 (fun v11 H locs ev11 hP hS => ?_)
    have hI : xI b v11 := by rw [ev11]; exact xI_up hI trivial trivial
    refine lv_aload_n hx hb xd_De_connect_47 rfl (lv_at hl 0 rfl) ?_
    refine fw_getr hx hb hts i_De hown hK hP (xm_19 (by omega)) (xk_19 r) rfl 13 (by decide) (hts _ L_De_39) (fun _ h9 => h9) rfl xd_De_connect_48 ?_
    refine lv_iload_n hx hb xd_De_connect_51 rfl (lv_at hl 2 rfl) ?_
    refine fw_iald hx hb hK hP (xm_26 (by omega)) (xk_26 r) 0 rfl (j := 1) (by decide) (fw_inc (by decide)) xd_De_connect_52 ?_
    refine lv_iconst (v := (-1 : Int32)) hx hb xd_De_connect_53 (by decide) ?_
    refine lv_icmp_eq (tgt := 76) hx hb xd_De_connect_54 (by decide) (fun c_12 => ?_) (fun c_12 => ?_)
    · exact J5 v11  _ _ _ (by rw [hj]; subst ev11; simp only [xf_De_connect_j4, if_pos c_12])   hI hP hS (lv_sub hl [0, 1, 2] rfl)
    · refine lv_aload_n hx hb xd_De_connect_57 rfl (lv_at hl 0 rfl) ?_
      refine fw_getr hx hb hts i_De hown hK hP (xm_19 (by omega)) (xk_19 r) rfl 13 (by decide) (hts _ L_De_39) (fun _ h9 => h9) rfl xd_De_connect_58 ?_
      refine lv_iload_n hx hb xd_De_connect_61 rfl (lv_at hl 2 rfl) ?_
      refine fw_iald hx hb hK hP (xm_26 (by omega)) (xk_26 r) 0 rfl (j := 1) (by decide) (fw_inc (by decide)) xd_De_connect_62 ?_
      refine lv_aload_n hx hb xd_De_connect_63 rfl (lv_at hl 0 rfl) ?_
      refine fw_getr hx hb hts i_De hown hK hP (xm_19 (by omega)) (xk_19 r) rfl 8 (by decide) (hts _ L_De_29) (fun _ h9 => h9) rfl xd_De_connect_64 ?_
      refine lv_iload_n hx hb xd_De_connect_67 rfl (lv_at hl 2 rfl) ?_
      refine fw_iald hx hb hK hP (xm_23 (by omega)) (xk_23 r) 0 rfl (j := 1) (by decide) (fw_inc (by decide)) xd_De_connect_68 ?_
      refine lv_icmp_eq (tgt := 76) hx hb xd_De_connect_69 (by decide) (fun c_24 => ?_) (fun c_24 => ?_)
      · exact J5 v11  _ _ _ (by rw [hj]; subst ev11; simp only [xf_De_connect_j4, if_neg c_12, if_pos c_24])   hI hP hS (lv_sub hl [0, 1, 2] rfl)
      · refine lv_iconst (v := (1 : Int32)) hx hb xd_De_connect_72 (by decide) ?_
        refine lv_goto (tgt := 77) hx hb xd_De_connect_73 (by decide) ?_
        exact J12 v11  _ _ _ (by rw [hj]; subst ev11; simp only [xf_De_connect_j4, if_neg c_12, if_neg c_24])   hI hP hS (lv_sub hl [0, 1, 2] rfl)
  have J3 : ∀ (v : fw_V)  (H : Heap) (locs : List Loc) (ls : Array Slot), xf_De_connect v0 r k1 = xf_De_connect_j3 v r k1 → xI b v → va_P D vcls (fw_w xCL cA xkd ad v) H → va_S (fw_A xCL ad) s.heap H locs → lv_has ls 4 [(0, .ref (ad 19 r)), (1, .ref (ad 7 k1)), (2, .int (0 : Int32))] → W p l e (headSpec (Cond.code xy_De_connect xb_De_connect 4 none :: vTB) xrm_De_connect).room s m ([.ref (ad 19 r), .ref (ad 7 k1)] : List Value).toArray below meth c H locs 0 0 (MQ below (fw_Qv D vcls xCL cA xkd ad (xI b) (xf_De_connect v0 r k1)) ([.ref (ad 19 r), .ref (ad 7 k1)] : List Value).toArray s 0 0 (fw_A xCL ad)) (F0 m 77 ls [.int (0 : Int32)]) := by
    intro v  H locs ls hj  hI hP hS hl
    clear J10 J9 J8 J11 J7 J6 J5 J12
    refine lv_istore_n (lv' := [(3, .int (0 : Int32)), (0, .ref (ad 19 r)), (1, .ref (ad 7 k1)), (2, .int (0 : Int32))]) hx hb xd_De_connect_77 rfl hl (by decide) rfl (fun ls hl => ?_)
    refine lv_aload_n hx hb xd_De_connect_78 rfl (lv_at hl 1 rfl) ?_
    refine lv_aload_n hx hb xd_De_connect_79 rfl (lv_at hl 1 rfl) ?_
    refine fw_geti hx hb hts i_De hown hK hP (xm_19 (by omega)) (xk_19 r) rfl 15 (by decide) (hts _ L_De_72) (fun _ h9 => h9) rfl xd_De_connect_80 ?_
    refine lv_iload_n hx hb xd_De_connect_83 rfl (lv_at hl 3 rfl) ?_
    refine lv_iload_n hx hb xd_De_connect_84 rfl (lv_at hl 0 rfl) ?_
    refine fw_co (va_runSN (As := [.int (v 19 r 15), .int (0 : Int32), .int (0 : Int32)]) (rest := [.ref (ad 19 r)]) ⟨hx, hb, hml, hown, hts⟩ (xc_FR_withSlot l hD v hI (v 19 r 15) (0 : Int32) (0 : Int32)) (xwn_FR_withSlot hts (hN.2 _ L_De_75) ⟨Nat.le_of_ble_eq_true rfl, Nat.le_of_ble_eq_true rfl⟩) (fw_preS hN hK hP) rfl rfl hl.1 rfl (lv_room (Nat.le_of_ble_eq_true rfl)) xd_De_connect_85 ⟨Nat.le_of_ble_eq_true rfl, Nat.le_of_ble_eq_true rfl⟩) hS (fun r8 H locs er8 hP hS => ?_)
    refine fw_puti hx hb hts i_De t_De t_De_ok n_De hown hK hD hP hS (xm_19 (by omega)) (xk_19 r) rfl 15 (by decide) (hts _ L_De_72) (fun _ h9 => h9) rfl fw_pdI rfl rfl rfl xd_De_connect_88 (fun v9 H locs ev9 hP hS => ?_)
    have hI : xI b v9 := by rw [ev9]; exact xI_up hI trivial trivial
    refine lv_iinc (v := (1 : Int32)) (lv' := [(2, .int (1 : Int32)), (3, .int (0 : Int32)), (0, .ref (ad 19 r)), (1, .ref (ad 7 k1))]) hx hb xd_De_connect_91 hl (k := 3) rfl (by decide) (by decide) rfl (fun ls hl => ?_)
    refine lv_goto (tgt := 28) hx hb xd_De_connect_94 (by decide) ?_
    exact J4 v9  _ _ _ (by rw [hj]; subst er8 ev9; simp only [xf_De_connect_j3])   hI hP hS (lv_sub hl [2, 3, 0] rfl)
  have J2 : ∀ (v : fw_V)  (H : Heap) (locs : List Loc) (ls : Array Slot), xf_De_connect v0 r k1 = xf_De_connect_j2 v r k1 → xI b v → va_P D vcls (fw_w xCL cA xkd ad v) H → va_S (fw_A xCL ad) s.heap H locs → lv_has ls 4 [(0, .ref (ad 19 r)), (1, .ref (ad 7 k1)), (2, .int (0 : Int32))] → W p l e (headSpec (Cond.code xy_De_connect xb_De_connect 4 none :: vTB) xrm_De_connect).room s m ([.ref (ad 19 r), .ref (ad 7 k1)] : List Value).toArray below meth c H locs 0 0 (MQ below (fw_Qv D vcls xCL cA xkd ad (xI b) (xf_De_connect v0 r k1)) ([.ref (ad 19 r), .ref (ad 7 k1)] : List Value).toArray s 0 0 (fw_A xCL ad)) (F0 m 76 ls []) := by
    intro v  H locs ls hj  hI hP hS hl
    clear J10 J9 J8 J11 J7 J6 J5 J12 J4
    refine lv_iconst (v := (0 : Int32)) hx hb xd_De_connect_76 (by decide) ?_
    exact J3 v  _ _ _ (by rw [hj]; simp only [xf_De_connect_j2])   hI hP hS (lv_sub hl [0, 1, 2] rfl)
  have J13 : ∀ (v : fw_V)  (H : Heap) (locs : List Loc) (ls : Array Slot), xf_De_connect v0 r k1 = xf_De_connect_j13 v r k1 → xI b v → va_P D vcls (fw_w xCL cA xkd ad v) H → va_S (fw_A xCL ad) s.heap H locs → lv_has ls 4 [(0, .ref (ad 19 r)), (1, .ref (ad 7 k1)), (2, .int (0 : Int32))] → W p l e (headSpec (Cond.code xy_De_connect xb_De_connect 4 none :: vTB) xrm_De_connect).room s m ([.ref (ad 19 r), .ref (ad 7 k1)] : List Value).toArray below meth c H locs 0 0 (MQ below (fw_Qv D vcls xCL cA xkd ad (xI b) (xf_De_connect v0 r k1)) ([.ref (ad 19 r), .ref (ad 7 k1)] : List Value).toArray s 0 0 (fw_A xCL ad)) (F0 m 77 ls [.int (1 : Int32)]) := by
    intro v  H locs ls hj  hI hP hS hl
    clear J10 J9 J8 J11 J7 J6 J5 J12 J3 J2
    refine lv_istore_n (lv' := [(3, .int (1 : Int32)), (0, .ref (ad 19 r)), (1, .ref (ad 7 k1)), (2, .int (0 : Int32))]) hx hb xd_De_connect_77 rfl hl (by decide) rfl (fun ls hl => ?_)
    refine lv_aload_n hx hb xd_De_connect_78 rfl (lv_at hl 1 rfl) ?_
    refine lv_aload_n hx hb xd_De_connect_79 rfl (lv_at hl 1 rfl) ?_
    refine fw_geti hx hb hts i_De hown hK hP (xm_19 (by omega)) (xk_19 r) rfl 15 (by decide) (hts _ L_De_72) (fun _ h9 => h9) rfl xd_De_connect_80 ?_
    refine lv_iload_n hx hb xd_De_connect_83 rfl (lv_at hl 3 rfl) ?_
    refine lv_iload_n hx hb xd_De_connect_84 rfl (lv_at hl 0 rfl) ?_
    refine fw_co (va_runSN (As := [.int (v 19 r 15), .int (0 : Int32), .int (1 : Int32)]) (rest := [.ref (ad 19 r)]) ⟨hx, hb, hml, hown, hts⟩ (xc_FR_withSlot l hD v hI (v 19 r 15) (0 : Int32) (1 : Int32)) (xwn_FR_withSlot hts (hN.2 _ L_De_75) ⟨Nat.le_of_ble_eq_true rfl, Nat.le_of_ble_eq_true rfl⟩) (fw_preS hN hK hP) rfl rfl hl.1 rfl (lv_room (Nat.le_of_ble_eq_true rfl)) xd_De_connect_85 ⟨Nat.le_of_ble_eq_true rfl, Nat.le_of_ble_eq_true rfl⟩) hS (fun r28 H locs er28 hP hS => ?_)
    refine fw_puti hx hb hts i_De t_De t_De_ok n_De hown hK hD hP hS (xm_19 (by omega)) (xk_19 r) rfl 15 (by decide) (hts _ L_De_72) (fun _ h9 => h9) rfl fw_pdI rfl rfl rfl xd_De_connect_88 (fun v29 H locs ev29 hP hS => ?_)
    have hI : xI b v29 := by rw [ev29]; exact xI_up hI trivial trivial
    refine lv_iinc (v := (1 : Int32)) (lv' := [(2, .int (1 : Int32)), (3, .int (1 : Int32)), (0, .ref (ad 19 r)), (1, .ref (ad 7 k1))]) hx hb xd_De_connect_91 hl (k := 3) rfl (by decide) (by decide) rfl (fun ls hl => ?_)
    refine lv_goto (tgt := 28) hx hb xd_De_connect_94 (by decide) ?_
    exact J4 v29  _ _ _ (by rw [hj]; subst er28 ev29; simp only [xf_De_connect_j13])   hI hP hS (lv_sub hl [2, 3, 0] rfl)
  have J1 : ∀ (v : fw_V)  (H : Heap) (locs : List Loc) (ls : Array Slot), xf_De_connect v0 r k1 = xf_De_connect_j1 v r k1 → xI b v → va_P D vcls (fw_w xCL cA xkd ad v) H → va_S (fw_A xCL ad) s.heap H locs → lv_has ls 4 [(0, .ref (ad 19 r)), (1, .ref (ad 7 k1)), (2, .int (0 : Int32))] → W p l e (headSpec (Cond.code xy_De_connect xb_De_connect 4 none :: vTB) xrm_De_connect).room s m ([.ref (ad 19 r), .ref (ad 7 k1)] : List Value).toArray below meth c H locs 0 0 (MQ below (fw_Qv D vcls xCL cA xkd ad (xI b) (xf_De_connect v0 r k1)) ([.ref (ad 19 r), .ref (ad 7 k1)] : List Value).toArray s 0 0 (fw_A xCL ad)) (F0 m 28 ls []) := by
    intro v  H locs ls hj  hI hP hS hl
    clear J10 J9 J8 J11 J7 J6 J5 J12 J4 J3
    refine lv_iload_n hx hb xd_De_connect_28 rfl (lv_at hl 2 rfl) ?_
    refine lv_iconst (v := (3 : Int32)) hx hb xd_De_connect_29 (by decide) ?_
    refine lv_icmp_ge (tgt := 97) hx hb xd_De_connect_30 (by decide) (fun c_5 => absurd c_5 (by decide)) (fun _ => ?_)
    refine lv_aload_n hx hb xd_De_connect_33 rfl (lv_at hl 0 rfl) ?_
    refine fw_getr hx hb hts i_De hown hK hP (xm_19 (by omega)) (xk_19 r) rfl 13 (by decide) (hts _ L_De_39) (fun _ h9 => h9) rfl xd_De_connect_34 ?_
    refine lv_iload_n hx hb xd_De_connect_37 rfl (lv_at hl 2 rfl) ?_
    refine lv_aload_n hx hb xd_De_connect_38 rfl (lv_at hl 1 rfl) ?_
    refine fw_getr hx hb hts i_Fm hown hK hP (xm_7 (by omega)) (xk_7 k1) rfl 4 (by decide) (hts _ L_De_144) (fun _ h9 => h9) rfl xd_De_connect_39 ?_
    refine lv_iload_n hx hb xd_De_connect_42 rfl (lv_at hl 2 rfl) ?_
    refine fw_iald hx hb hK hP (xm_8 (by omega)) (xk_8 k1) 0 rfl (j := 0) (by decide) (fw_inc (by decide)) xd_De_connect_43 ?_
    refine lv_iconst (v := (1 : Int32)) hx hb xd_De_connect_44 (by decide) ?_
    refine lv_isub hx hb xd_De_connect_45 ?_
    refine fw_iast hx hb hK hD hP hS (xm_26 (by omega)) (xk_26 r) 0 rfl (j := 0) (by decide) (fw_inc (by decide)) xd_De_connect_46 (fun v6 H locs ev6 hP hS => ?_)
    have hI : xI b v6 := by rw [ev6]; exact xI_up hI trivial trivial
    refine lv_aload_n hx hb xd_De_connect_47 rfl (lv_at hl 0 rfl) ?_
    refine fw_getr hx hb hts i_De hown hK hP (xm_19 (by omega)) (xk_19 r) rfl 13 (by decide) (hts _ L_De_39) (fun _ h9 => h9) rfl xd_De_connect_48 ?_
    refine lv_iload_n hx hb xd_De_connect_51 rfl (lv_at hl 2 rfl) ?_
    refine fw_iald hx hb hK hP (xm_26 (by omega)) (xk_26 r) 0 rfl (j := 0) (by decide) (fw_inc (by decide)) xd_De_connect_52 ?_
    refine lv_iconst (v := (-1 : Int32)) hx hb xd_De_connect_53 (by decide) ?_
    refine lv_icmp_eq (tgt := 76) hx hb xd_De_connect_54 (by decide) (fun c_7 => ?_) (fun c_7 => ?_)
    · exact J2 v6  _ _ _ (by rw [hj]; subst ev6; simp only [xf_De_connect_j1, if_pos c_7])   hI hP hS (lv_sub hl [0, 1, 2] rfl)
    · refine lv_aload_n hx hb xd_De_connect_57 rfl (lv_at hl 0 rfl) ?_
      refine fw_getr hx hb hts i_De hown hK hP (xm_19 (by omega)) (xk_19 r) rfl 13 (by decide) (hts _ L_De_39) (fun _ h9 => h9) rfl xd_De_connect_58 ?_
      refine lv_iload_n hx hb xd_De_connect_61 rfl (lv_at hl 2 rfl) ?_
      refine fw_iald hx hb hK hP (xm_26 (by omega)) (xk_26 r) 0 rfl (j := 0) (by decide) (fw_inc (by decide)) xd_De_connect_62 ?_
      refine lv_aload_n hx hb xd_De_connect_63 rfl (lv_at hl 0 rfl) ?_
      refine fw_getr hx hb hts i_De hown hK hP (xm_19 (by omega)) (xk_19 r) rfl 8 (by decide) (hts _ L_De_29) (fun _ h9 => h9) rfl xd_De_connect_64 ?_
      refine lv_iload_n hx hb xd_De_connect_67 rfl (lv_at hl 2 rfl) ?_
      refine fw_iald hx hb hK hP (xm_23 (by omega)) (xk_23 r) 0 rfl (j := 0) (by decide) (fw_inc (by decide)) xd_De_connect_68 ?_
      refine lv_icmp_eq (tgt := 76) hx hb xd_De_connect_69 (by decide) (fun c_27 => ?_) (fun c_27 => ?_)
      · exact J2 v6  _ _ _ (by rw [hj]; subst ev6; simp only [xf_De_connect_j1, if_neg c_7, if_pos c_27])   hI hP hS (lv_sub hl [0, 1, 2] rfl)
      · refine lv_iconst (v := (1 : Int32)) hx hb xd_De_connect_72 (by decide) ?_
        refine lv_goto (tgt := 77) hx hb xd_De_connect_73 (by decide) ?_
        exact J13 v6  _ _ _ (by rw [hj]; subst ev6; simp only [xf_De_connect_j1, if_neg c_7, if_neg c_27])   hI hP hS (lv_sub hl [0, 1, 2] rfl)
  clear J10 J9 J8 J11 J7 J6 J5 J12 J4 J3 J2 J13
  have hl := lv_entry ([.ref (ad 19 r), .ref (ad 7 k1)]) (n := 4) (Nat.le_of_ble_eq_true rfl)
  rw [lg_entry_eq]
  generalize (lg_sl ([.ref (ad 19 r), .ref (ad 7 k1)]) ++ List.replicate (4 - (lg_sl ([.ref (ad 19 r), .ref (ad 7 k1)])).length) Slot.unset).toArray = ls at hl ⊢
  have hl : lv_has ls 4 [(0, .ref (ad 19 r)), (1, .ref (ad 7 k1))] := hl
  refine lv_aload_n hx hb xd_De_connect_0 rfl (lv_at hl 0 rfl) ?_
  refine lv_iconst (v := (1 : Int32)) hx hb xd_De_connect_1 (by decide) ?_
  refine fw_puti hx hb hts i_De t_De t_De_ok n_De hown hK hD hP hS (xm_19 (by omega)) (xk_19 r) rfl 11 (by decide) (hts _ L_De_62) (fun _ h9 => h9) rfl fw_pdI rfl rfl rfl xd_De_connect_2 (fun v1 H locs ev1 hP hS => ?_)
  have hI : xI b v1 := by rw [ev1]; exact xI_up hI trivial trivial
  refine lv_aload_n hx hb xd_De_connect_5 rfl (lv_at hl 0 rfl) ?_
  refine lv_aload_n hx hb xd_De_connect_6 rfl (lv_at hl 1 rfl) ?_
  refine fw_geti hx hb hts i_Fm hown hK hP (xm_7 (by omega)) (xk_7 k1) rfl 1 (by decide) (hts _ L_De_98) (fun _ h9 => h9) rfl xd_De_connect_7 ?_
  refine fw_puti hx hb hts i_De t_De t_De_ok n_De hown hK hD hP hS (xm_19 (by omega)) (xk_19 r) rfl 12 (by decide) (hts _ L_De_101) (fun _ h9 => h9) rfl fw_pdI rfl rfl rfl xd_De_connect_10 (fun v2 H locs ev2 hP hS => ?_)
  have hI : xI b v2 := by rw [ev2]; exact xI_up hI trivial trivial
  refine lv_aload_n hx hb xd_De_connect_13 rfl (lv_at hl 0 rfl) ?_
  refine lv_iconst (v := (0 : Int32)) hx hb xd_De_connect_14 (by decide) ?_
  refine fw_puti hx hb hts i_De t_De t_De_ok n_De hown hK hD hP hS (xm_19 (by omega)) (xk_19 r) rfl 16 (by decide) (hts _ L_De_120) (fun _ h9 => h9) rfl fw_pdI rfl rfl rfl xd_De_connect_15 (fun v3 H locs ev3 hP hS => ?_)
  have hI : xI b v3 := by rw [ev3]; exact xI_up hI trivial trivial
  refine lv_aload_n hx hb xd_De_connect_18 rfl (lv_at hl 0 rfl) ?_
  refine fw_getr hx hb hts i_De hown hK hP (xm_19 (by omega)) (xk_19 r) rfl 14 (by decide) (hts _ L_De_42) (fun _ h9 => h9) rfl xd_De_connect_19 ?_
  refine lv_iconst (v := (-1 : Int32)) hx hb xd_De_connect_22 (by decide) ?_
  refine fw_cv (va_runS (As := [.ref (ad 27 r), .int (-1 : Int32)]) (rest := []) ⟨hx, hb, hml, hown, hts⟩ (xc_fill l hD v3 hI (xm_27 (by omega)) (xk_27 r) (by decide) (-1 : Int32) (fun _ => trivial)) (xw_fill hts L_De_56 ⟨Nat.le_of_ble_eq_true rfl, Nat.le_of_ble_eq_true rfl⟩) (fw_preS hN hK hP) rfl rfl hl.1 rfl (lv_room (Nat.le_of_ble_eq_true rfl)) xd_De_connect_23 ⟨Nat.le_of_ble_eq_true rfl, Nat.le_of_ble_eq_true rfl⟩) hS (fun v4 H locs ev4 hI hP hS => ?_)
  refine lv_iconst (v := (0 : Int32)) hx hb xd_De_connect_26 (by decide) ?_
  refine lv_istore_n (lv' := [(2, .int (0 : Int32)), (0, .ref (ad 19 r)), (1, .ref (ad 7 k1))]) hx hb xd_De_connect_27 rfl hl (by decide) rfl (fun ls hl => ?_)
  exact J1 v4  _ _ _ (by subst ev1 ev2 ev3 ev4; simp only [xf_De_connect])   hI hP hS (lv_sub hl [1, 2, 0] rfl)
def xf_De_answerConnect_j2 (v : fw_V) (r : Nat) (k1 : Nat)  : fw_V :=
  let v3 := xf_De_connect v (r) (k1)
  let p6 := xf_Wi_send v3 (4 : Int32) (v3 19 r 12) (v3 19 r 15) (2 : Int32)
  let y4 := p6.1
  let v5 := p6.2
  v5
def xf_De_answerConnect_j1 (v : fw_V) (r : Nat) (k1 : Nat)  : fw_V :=
  if (v 19 r 11) = (0 : Int32) then
    xf_De_answerConnect_j2 v r k1
  else
    if (v 19 r 11) = (1 : Int32) then
      xf_De_answerConnect_j2 v r k1
    else
      v
def xf_De_answerConnect (v0 : fw_V) (r : Nat) (k1 : Nat) : fw_V :=
  if (v0 19 r 11) = (0 : Int32) then
    xf_De_answerConnect_j1 v0 r k1
  else
    if (v0 7 k1 1) = (v0 19 r 12) then
      xf_De_answerConnect_j1 v0 r k1
    else
      let p11 := xf_Wi_send v0 (5 : Int32) (v0 7 k1 1) (0 : Int32) (2 : Int32)
      let y9 := p11.1
      let v10 := p11.2
      v10

set_option maxHeartbeats 4000000 in
set_option maxRecDepth 100000 in
theorem xc_De_answerConnect (l : Launch) {D : va_G} {cA : Nat → ClassId} {ad : Nat → Nat → Nat} (hD : fw_D xCL ad) {b : Nat} (v0 : fw_V) (hI : xI b v0) (r : Nat) (hr0 : r < 2) (k1 : Nat) (hk1 : k1 < 18)  : Met l xy_De_answerConnect (Cond.code xy_De_answerConnect xb_De_answerConnect 2 none :: vTB) xrm_De_answerConnect (fw_Pc vNL D vcls (vtys cA) xCL cA xkd ad v0 [.ref (ad 19 r), .ref (ad 7 k1)]) (fw_Qv D vcls xCL cA xkd ad (xI b) (xf_De_answerConnect v0 r k1)) 0 0 (fw_A xCL ad) := by
  refine Met.ofW (cc := xb_De_answerConnect) (maxL := 2) (ret := none) (by decide) rfl ?_
  intro p e s m args below meth c s₁ B hml hv
  obtain ⟨rfl, hP, hK, hN⟩ := hv
  have hx := B.exec
  have hb := B.bytes
  have hr := B.returns
  have hts : ∀ w ∈ vTB, w.before ([.ref (ad 19 r), .ref (ad 7 k1)] : List Value).toArray s = true := fun w h => atoms_spec (ws := (Cond.code xy_De_answerConnect xb_De_answerConnect 2 none :: vTB)) B.pre w (List.mem_cons_of_mem _ h)
  have hown : s.vm.findClass R_De = some m.cls := findClass_of_methodNamed B.named
  have hlocks := B.notSynchronized
  have hS : va_S (fw_A xCL ad) s.heap s.heap [] := va_S.rf
  have J2 : ∀ (v : fw_V)  (H : Heap) (locs : List Loc) (ls : Array Slot), xf_De_answerConnect v0 r k1 = xf_De_answerConnect_j2 v r k1 → xI b v → va_P D vcls (fw_w xCL cA xkd ad v) H → va_S (fw_A xCL ad) s.heap H locs → lv_has ls 2 [(0, .ref (ad 19 r)), (1, .ref (ad 7 k1))] → W p l e (headSpec (Cond.code xy_De_answerConnect xb_De_answerConnect 2 none :: vTB) xrm_De_answerConnect).room s m ([.ref (ad 19 r), .ref (ad 7 k1)] : List Value).toArray below meth c H locs 0 0 (MQ below (fw_Qv D vcls xCL cA xkd ad (xI b) (xf_De_answerConnect v0 r k1)) ([.ref (ad 19 r), .ref (ad 7 k1)] : List Value).toArray s 0 0 (fw_A xCL ad)) (F0 m 51 ls []) := by
    intro v  H locs ls hj  hI hP hS hl
    refine lv_aload_n hx hb xd_De_answerConnect_51 rfl (lv_at hl 0 rfl) ?_
    refine lv_aload_n hx hb xd_De_answerConnect_52 rfl (lv_at hl 1 rfl) ?_
    refine fw_cv (va_runV (As := [.ref (ad 7 k1)]) (rest := []) ⟨hx, hb, hml, hown, hts⟩ (xc_De_connect l hD v hI (r) (by omega) (k1) (by omega)) (xw_De_connect hts L_De_147 ⟨Nat.le_of_ble_eq_true rfl, Nat.le_of_ble_eq_true rfl⟩) (fw_preV hN hK hP (xm_19 (by omega)) (xk_19 r) rfl) rfl rfl hl.1 rfl (lv_room (Nat.le_of_ble_eq_true rfl)) xd_De_answerConnect_53 ⟨Nat.le_of_ble_eq_true rfl, Nat.le_of_ble_eq_true rfl⟩) hS (fun v3 H locs ev3 hI hP hS => ?_)
    refine lv_aload_n hx hb xd_De_answerConnect_56 rfl (lv_at hl 0 rfl) ?_
    refine fw_getr hx hb hts i_De hown hK hP (xm_19 (by omega)) (xk_19 r) rfl 2 (by decide) (hts _ L_De_52) (fun _ h9 => h9) rfl xd_De_answerConnect_57 ?_
    refine lv_iconst (v := (4 : Int32)) hx hb xd_De_answerConnect_60 (by decide) ?_
    refine lv_aload_n hx hb xd_De_answerConnect_61 rfl (lv_at hl 0 rfl) ?_
    refine fw_geti hx hb hts i_De hown hK hP (xm_19 (by omega)) (xk_19 r) rfl 12 (by decide) (hts _ L_De_101) (fun _ h9 => h9) rfl xd_De_answerConnect_62 ?_
    refine lv_aload_n hx hb xd_De_answerConnect_65 rfl (lv_at hl 0 rfl) ?_
    refine fw_geti hx hb hts i_De hown hK hP (xm_19 (by omega)) (xk_19 r) rfl 15 (by decide) (hts _ L_De_72) (fun _ h9 => h9) rfl xd_De_answerConnect_66 ?_
    refine lv_iconst (v := (2 : Int32)) hx hb xd_De_answerConnect_69 (by decide) ?_
    refine fw_cr (va_runV (As := [.int (4 : Int32), .int (v3 19 r 12), .int (v3 19 r 15), .int (2 : Int32)]) (rest := []) ⟨hx, hb, hml, hown, hts⟩ (xc_Wi_send l hD v3 hI (4 : Int32) (v3 19 r 12) (v3 19 r 15) (2 : Int32)) (xw_Wi_send hts L_De_138 ⟨Nat.le_of_ble_eq_true rfl, Nat.le_of_ble_eq_true rfl⟩) (fw_preV hN hK hP (xm_5 (by decide)) (xk_5 0) rfl) rfl rfl hl.1 rfl (lv_room (Nat.le_of_ble_eq_true rfl)) xd_De_answerConnect_70 ⟨Nat.le_of_ble_eq_true rfl, Nat.le_of_ble_eq_true rfl⟩) hS (fun y4 v5 H locs ly4 ey4 ev5 hI hP hS => ?_)
    refine lv_pop hx hb xd_De_answerConnect_73 rfl ?_
    exact fw_vret hx hb hr hlocks hS hP hI xd_De_answerConnect_74 (by rw [hj]; subst ev3 ey4 ev5; simp only [xf_De_answerConnect_j2])
  have J1 : ∀ (v : fw_V)  (H : Heap) (locs : List Loc) (ls : Array Slot), xf_De_answerConnect v0 r k1 = xf_De_answerConnect_j1 v r k1 → xI b v → va_P D vcls (fw_w xCL cA xkd ad v) H → va_S (fw_A xCL ad) s.heap H locs → lv_has ls 2 [(0, .ref (ad 19 r)), (1, .ref (ad 7 k1))] → W p l e (headSpec (Cond.code xy_De_answerConnect xb_De_answerConnect 2 none :: vTB) xrm_De_answerConnect).room s m ([.ref (ad 19 r), .ref (ad 7 k1)] : List Value).toArray below meth c H locs 0 0 (MQ below (fw_Qv D vcls xCL cA xkd ad (xI b) (xf_De_answerConnect v0 r k1)) ([.ref (ad 19 r), .ref (ad 7 k1)] : List Value).toArray s 0 0 (fw_A xCL ad)) (F0 m 36 ls []) := by
    intro v  H locs ls hj  hI hP hS hl
    refine lv_aload_n hx hb xd_De_answerConnect_36 rfl (lv_at hl 0 rfl) ?_
    refine fw_geti hx hb hts i_De hown hK hP (xm_19 (by omega)) (xk_19 r) rfl 11 (by decide) (hts _ L_De_62) (fun _ h9 => h9) rfl xd_De_answerConnect_37 ?_
    refine lv_if_eq (tgt := 51) hx hb xd_De_answerConnect_40 (by decide) (fun c_2 => ?_) (fun c_2 => ?_)
    · exact J2 v  _ _ _ (by rw [hj]; simp only [xf_De_answerConnect_j1, if_pos c_2])   hI hP hS (lv_sub hl [0, 1] rfl)
    · refine lv_aload_n hx hb xd_De_answerConnect_43 rfl (lv_at hl 0 rfl) ?_
      refine fw_geti hx hb hts i_De hown hK hP (xm_19 (by omega)) (xk_19 r) rfl 11 (by decide) (hts _ L_De_62) (fun _ h9 => h9) rfl xd_De_answerConnect_44 ?_
      refine lv_iconst (v := (1 : Int32)) hx hb xd_De_answerConnect_47 (by decide) ?_
      refine lv_icmp_ne (tgt := 74) hx hb xd_De_answerConnect_48 (by decide) (fun c_7 => ?_) (fun c_7 => ?_)
      · exact fw_vret hx hb hr hlocks hS hP hI xd_De_answerConnect_74 (by rw [hj]; simp only [xf_De_answerConnect_j1, if_neg c_2, if_neg c_7])
      · exact J2 v  _ _ _ (by rw [hj]; simp only [xf_De_answerConnect_j1, if_neg c_2, if_pos c_7])   hI hP hS (lv_sub hl [0, 1] rfl)
  clear J2
  have hl := lv_entry ([.ref (ad 19 r), .ref (ad 7 k1)]) (n := 2) (Nat.le_of_ble_eq_true rfl)
  rw [lg_entry_eq]
  generalize (lg_sl ([.ref (ad 19 r), .ref (ad 7 k1)]) ++ List.replicate (2 - (lg_sl ([.ref (ad 19 r), .ref (ad 7 k1)])).length) Slot.unset).toArray = ls at hl ⊢
  have hl : lv_has ls 2 [(0, .ref (ad 19 r)), (1, .ref (ad 7 k1))] := hl
  refine lv_aload_n hx hb xd_De_answerConnect_0 rfl (lv_at hl 0 rfl) ?_
  refine fw_geti hx hb hts i_De hown hK hP (xm_19 (by omega)) (xk_19 r) rfl 11 (by decide) (hts _ L_De_62) (fun _ h9 => h9) rfl xd_De_answerConnect_1 ?_
  refine lv_if_eq (tgt := 36) hx hb xd_De_answerConnect_4 (by decide) (fun c_1 => ?_) (fun c_1 => ?_)
  · exact J1 v0  _ _ _ (by simp only [xf_De_answerConnect, if_pos c_1])   hI hP hS (lv_sub hl [0, 1] rfl)
  · refine lv_aload_n hx hb xd_De_answerConnect_7 rfl (lv_at hl 1 rfl) ?_
    refine fw_geti hx hb hts i_Fm hown hK hP (xm_7 (by omega)) (xk_7 k1) rfl 1 (by decide) (hts _ L_De_98) (fun _ h9 => h9) rfl xd_De_answerConnect_8 ?_
    refine lv_aload_n hx hb xd_De_answerConnect_11 rfl (lv_at hl 0 rfl) ?_
    refine fw_geti hx hb hts i_De hown hK hP (xm_19 (by omega)) (xk_19 r) rfl 12 (by decide) (hts _ L_De_101) (fun _ h9 => h9) rfl xd_De_answerConnect_12 ?_
    refine lv_icmp_eq (tgt := 36) hx hb xd_De_answerConnect_15 (by decide) (fun c_8 => ?_) (fun c_8 => ?_)
    · exact J1 v0  _ _ _ (by simp only [xf_De_answerConnect, if_neg c_1, if_pos c_8])   hI hP hS (lv_sub hl [0, 1] rfl)
    · refine lv_aload_n hx hb xd_De_answerConnect_18 rfl (lv_at hl 0 rfl) ?_
      refine fw_getr hx hb hts i_De hown hK hP (xm_19 (by omega)) (xk_19 r) rfl 2 (by decide) (hts _ L_De_52) (fun _ h9 => h9) rfl xd_De_answerConnect_19 ?_
      refine lv_iconst (v := (5 : Int32)) hx hb xd_De_answerConnect_22 (by decide) ?_
      refine lv_aload_n hx hb xd_De_answerConnect_23 rfl (lv_at hl 1 rfl) ?_
      refine fw_geti hx hb hts i_Fm hown hK hP (xm_7 (by omega)) (xk_7 k1) rfl 1 (by decide) (hts _ L_De_98) (fun _ h9 => h9) rfl xd_De_answerConnect_24 ?_
      refine lv_iconst (v := (0 : Int32)) hx hb xd_De_answerConnect_27 (by decide) ?_
      refine lv_iconst (v := (2 : Int32)) hx hb xd_De_answerConnect_28 (by decide) ?_
      refine fw_cr (va_runV (As := [.int (5 : Int32), .int (v0 7 k1 1), .int (0 : Int32), .int (2 : Int32)]) (rest := []) ⟨hx, hb, hml, hown, hts⟩ (xc_Wi_send l hD v0 hI (5 : Int32) (v0 7 k1 1) (0 : Int32) (2 : Int32)) (xw_Wi_send hts L_De_138 ⟨Nat.le_of_ble_eq_true rfl, Nat.le_of_ble_eq_true rfl⟩) (fw_preV hN hK hP (xm_5 (by decide)) (xk_5 0) rfl) rfl rfl hl.1 rfl (lv_room (Nat.le_of_ble_eq_true rfl)) xd_De_answerConnect_29 ⟨Nat.le_of_ble_eq_true rfl, Nat.le_of_ble_eq_true rfl⟩) hS (fun y9 v10 H locs ly9 ey9 ev10 hI hP hS => ?_)
      refine lv_pop hx hb xd_De_answerConnect_32 rfl ?_
      refine lv_goto (tgt := 74) hx hb xd_De_answerConnect_33 (by decide) ?_
      exact fw_vret hx hb hr hlocks hS hP hI xd_De_answerConnect_74 (by subst ey9 ev10; simp only [xf_De_answerConnect, if_neg c_1, if_neg c_8])

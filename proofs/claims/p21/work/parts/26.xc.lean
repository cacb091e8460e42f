def xf_Re_passTickInData (v0 : fw_V) (r : Nat) : fw_V :=
  if (v0 13 r 15) < (4 : Int32) then
    let v2 := xf_Re_sendOutput v0 (r)
    v2
  else
    let v3 := fw_up v0 13 r 19 ((v0 13 r 19) + (1 : Int32))
    let v4 := xf_Re_abort v3 (r)
    v4

set_option maxHeartbeats 4000000 in
set_option maxRecDepth 100000 in
theorem xc_Re_passTickInData (l : Launch) {D : va_G} {cA : Nat → ClassId} {ad : Nat → Nat → Nat} (hD : fw_D xCL ad) {b : Nat} (v0 : fw_V) (hI : xI b v0) (r : Nat) (hr0 : r < 2)  : Met l xy_Re_passTickInData (Cond.code xy_Re_passTickInData xb_Re_passTickInData 1 none :: vTB) xrm_Re_passTickInData (fw_Pc vNL D vcls (vtys cA) xCL cA xkd ad v0 [.ref (ad 13 r)]) (fw_Qv D vcls xCL cA xkd ad (xI b) (xf_Re_passTickInData v0 r)) 0 0 (fw_A xCL ad) := by
  refine Met.ofW (cc := xb_Re_passTickInData) (maxL := 1) (ret := none) (by decide) rfl ?_
  intro p e s m args below meth c s₁ B hml hv
  obtain ⟨rfl, hP, hK, hN⟩ := hv
  have hx := B.exec
  have hb := B.bytes
  have hr := B.returns
  have hts : ∀ w ∈ vTB, w.before ([.ref (ad 13 r)] : List Value).toArray s = true := fun w h => atoms_spec (ws := (Cond.code xy_Re_passTickInData xb_Re_passTickInData 1 none :: vTB)) B.pre w (List.mem_cons_of_mem _ h)
  have hown : s.vm.findClass R_Re = some m.cls := findClass_of_methodNamed B.named
  have hlocks := B.notSynchronized
  have hS : va_S (fw_A xCL ad) s.heap s.heap [] := va_S.rf
  skip
  have hl := lv_entry ([.ref (ad 13 r)]) (n := 1) (Nat.le_of_ble_eq_true rfl)
  rw [lg_entry_eq]
  generalize (lg_sl ([.ref (ad 13 r)]) ++ List.replicate (1 - (lg_sl ([.ref (ad 13 r)])).length) Slot.unset).toArray = ls at hl ⊢
  have hl : lv_has ls 1 [(0, .ref (ad 13 r))] := hl
  refine lv_aload_n hx hb xd_Re_passTickInData_0 rfl (lv_at hl 0 rfl) ?_
  refine fw_geti hx hb hts i_Re hown hK hP (xm_13 (by omega)) (xk_13 r) rfl 15 (by decide) (hts _ L_Re_115) (fun _ h9 => h9) rfl xd_Re_passTickInData_1 ?_
  refine lv_iconst (v := (4 : Int32)) hx hb xd_Re_passTickInData_4 (by decide) ?_
  refine lv_icmp_lt (tgt := 25) hx hb xd_Re_passTickInData_5 (by decide) (fun c_1 => ?_) (fun c_1 => ?_)
  · refine lv_aload_n hx hb xd_Re_passTickInData_25 rfl (lv_at hl 0 rfl) ?_
    refine fw_cv (va_runV (As := []) (rest := []) ⟨hx, hb, hml, hown, hts⟩ (xc_Re_sendOutput l hD v0 hI (r) (by omega)) (xw_Re_sendOutput hts L_Re_189 ⟨Nat.le_of_ble_eq_true rfl, Nat.le_of_ble_eq_true rfl⟩) (fw_preV hN hK hP (xm_13 (by omega)) (xk_13 r) rfl) rfl rfl hl.1 rfl (lv_room (Nat.le_of_ble_eq_true rfl)) xd_Re_passTickInData_26 ⟨Nat.le_of_ble_eq_true rfl, Nat.le_of_ble_eq_true rfl⟩) hS (fun v2 H locs ev2 hI hP hS => ?_)
    exact fw_vret hx hb hr hlocks hS hP hI xd_Re_passTickInData_29 (by subst ev2; simp only [xf_Re_passTickInData, if_pos c_1])
  · refine lv_aload_n hx hb xd_Re_passTickInData_8 rfl (lv_at hl 0 rfl) ?_
    refine lv_dup hx hb xd_Re_passTickInData_9 rfl ?_
    refine fw_geti hx hb hts i_Re hown hK hP (xm_13 (by omega)) (xk_13 r) rfl 19 (by decide) (hts _ L_Re_186) (fun _ h9 => h9) rfl xd_Re_passTickInData_10 ?_
    refine lv_iconst (v := (1 : Int32)) hx hb xd_Re_passTickInData_13 (by decide) ?_
    refine lv_iadd hx hb xd_Re_passTickInData_14 ?_
    refine fw_puti hx hb hts i_Re t_Re t_Re_ok n_Re hown hK hD hP hS (xm_13 (by omega)) (xk_13 r) rfl 19 (by decide) (hts _ L_Re_186) (fun _ h9 => h9) rfl fw_pdI rfl rfl rfl xd_Re_passTickInData_15 (fun v3 H locs ev3 hP hS => ?_)
    have hI : xI b v3 := by rw [ev3]; exact xI_up hI trivial trivial
    refine lv_aload_n hx hb xd_Re_passTickInData_18 rfl (lv_at hl 0 rfl) ?_
    refine fw_cv (va_runV (As := []) (rest := []) ⟨hx, hb, hml, hown, hts⟩ (xc_Re_abort l hD v3 hI (r) (by omega)) (xw_Re_abort hts L_Re_75 ⟨Nat.le_of_ble_eq_true rfl, Nat.le_of_ble_eq_true rfl⟩) (fw_preV hN hK hP (xm_13 (by omega)) (xk_13 r) rfl) rfl rfl hl.1 rfl (lv_room (Nat.le_of_ble_eq_true rfl)) xd_Re_passTickInData_19 ⟨Nat.le_of_ble_eq_true rfl, Nat.le_of_ble_eq_true rfl⟩) hS (fun v4 H locs ev4 hI hP hS => ?_)
    refine lv_goto (tgt := 29) hx hb xd_Re_passTickInData_22 (by decide) ?_
    exact fw_vret hx hb hr hlocks hS hP hI xd_Re_passTickInData_29 (by subst ev3 ev4; simp only [xf_Re_passTickInData, if_neg c_1])
def xf_Re_requestAgain (v0 : fw_V) (r : Nat) : fw_V :=
  if (2 : Int32) ≤ (v0 13 r 16) then
    if (v0 13 r 10) = (1 : Int32) then
      let v4 := xf_Re_shut v0 (r)
      v4
    else
      let v3 := xf_Re_abort v0 (r)
      v3
  else
    let v6 := fw_up v0 13 r 16 ((v0 13 r 16) + (1 : Int32))
    let v7 := fw_up v6 13 r 15 (0 : Int32)
    let v8 := xf_Re_sendRequest v7 (r)
    v8

set_option maxHeartbeats 4000000 in
set_option maxRecDepth 100000 in
theorem xc_Re_requestAgain (l : Launch) {D : va_G} {cA : Nat → ClassId} {ad : Nat → Nat → Nat} (hD : fw_D xCL ad) {b : Nat} (v0 : fw_V) (hI : xI b v0) (r : Nat) (hr0 : r < 2)  : Met l xy_Re_requestAgain (Cond.code xy_Re_requestAgain xb_Re_requestAgain 1 none :: vTB) xrm_Re_requestAgain (fw_Pc vNL D vcls (vtys cA) xCL cA xkd ad v0 [.ref (ad 13 r)]) (fw_Qv D vcls xCL cA xkd ad (xI b) (xf_Re_requestAgain v0 r)) 0 0 (fw_A xCL ad) := by
  refine Met.ofW (cc := xb_Re_requestAgain) (maxL := 1) (ret := none) (by decide) rfl ?_
  intro p e s m args below meth c s₁ B hml hv
  obtain ⟨rfl, hP, hK, hN⟩ := hv
  have hx := B.exec
  have hb := B.bytes
  have hr := B.returns
  have hts : ∀ w ∈ vTB, w.before ([.ref (ad 13 r)] : List Value).toArray s = true := fun w h => atoms_spec (ws := (Cond.code xy_Re_requestAgain xb_Re_requestAgain 1 none :: vTB)) B.pre w (List.mem_cons_of_mem _ h)
  have hown : s.vm.findClass R_Re = some m.cls := findClass_of_methodNamed B.named
  have hlocks := B.notSynchronized
  have hS : va_S (fw_A xCL ad) s.heap s.heap [] := va_S.rf
  skip
  have hl := lv_entry ([.ref (ad 13 r)]) (n := 1) (Nat.le_of_ble_eq_true rfl)
  rw [lg_entry_eq]
  generalize (lg_sl ([.ref (ad 13 r)]) ++ List.replicate (1 - (lg_sl ([.ref (ad 13 r)])).length) Slot.unset).toArray = ls at hl ⊢
  have hl : lv_has ls 1 [(0, .ref (ad 13 r))] := hl
  refine lv_aload_n hx hb xd_Re_requestAgain_0 rfl (lv_at hl 0 rfl) ?_
  refine fw_geti hx hb hts i_Re hown hK hP (xm_13 (by omega)) (xk_13 r) rfl 16 (by decide) (hts _ L_Re_127) (fun _ h9 => h9) rfl xd_Re_requestAgain_1 ?_
  refine lv_iconst (v := (2 : Int32)) hx hb xd_Re_requestAgain_4 (by decide) ?_
  refine lv_icmp_ge (tgt := 30) hx hb xd_Re_requestAgain_5 (by decide) (fun c_1 => ?_) (fun c_1 => ?_)
  · refine lv_aload_n hx hb xd_Re_requestAgain_30 rfl (lv_at hl 0 rfl) ?_
    refine fw_geti hx hb hts i_Re hown hK hP (xm_13 (by omega)) (xk_13 r) rfl 10 (by decide) (hts _ L_Re_56) (fun _ h9 => h9) rfl xd_Re_requestAgain_31 ?_
    refine lv_iconst (v := (1 : Int32)) hx hb xd_Re_requestAgain_34 (by decide) ?_
    refine lv_icmp_ne (tgt := 45) hx hb xd_Re_requestAgain_35 (by decide) (fun c_2 => ?_) (fun c_2 => ?_)
    · refine lv_aload_n hx hb xd_Re_requestAgain_45 rfl (lv_at hl 0 rfl) ?_
      refine fw_cv (va_runV (As := []) (rest := []) ⟨hx, hb, hml, hown, hts⟩ (xc_Re_abort l hD v0 hI (r) (by omega)) (xw_Re_abort hts L_Re_75 ⟨Nat.le_of_ble_eq_true rfl, Nat.le_of_ble_eq_true rfl⟩) (fw_preV hN hK hP (xm_13 (by omega)) (xk_13 r) rfl) rfl rfl hl.1 rfl (lv_room (Nat.le_of_ble_eq_true rfl)) xd_Re_requestAgain_46 ⟨Nat.le_of_ble_eq_true rfl, Nat.le_of_ble_eq_true rfl⟩) hS (fun v3 H locs ev3 hI hP hS => ?_)
      exact fw_vret hx hb hr hlocks hS hP hI xd_Re_requestAgain_49 (by subst ev3; simp only [xf_Re_requestAgain, if_pos c_1, if_neg c_2])
    · refine lv_aload_n hx hb xd_Re_requestAgain_38 rfl (lv_at hl 0 rfl) ?_
      refine fw_cv (va_runV (As := []) (rest := []) ⟨hx, hb, hml, hown, hts⟩ (xc_Re_shut l hD v0 hI (r) (by omega)) (xw_Re_shut hts L_Re_78 ⟨Nat.le_of_ble_eq_true rfl, Nat.le_of_ble_eq_true rfl⟩) (fw_preV hN hK hP (xm_13 (by omega)) (xk_13 r) rfl) rfl rfl hl.1 rfl (lv_room (Nat.le_of_ble_eq_true rfl)) xd_Re_requestAgain_39 ⟨Nat.le_of_ble_eq_true rfl, Nat.le_of_ble_eq_true rfl⟩) hS (fun v4 H locs ev4 hI hP hS => ?_)
      refine lv_goto (tgt := 49) hx hb xd_Re_requestAgain_42 (by decide) ?_
      exact fw_vret hx hb hr hlocks hS hP hI xd_Re_requestAgain_49 (by subst ev4; simp only [xf_Re_requestAgain, if_pos c_1, if_pos c_2])
  · refine lv_aload_n hx hb xd_Re_requestAgain_8 rfl (lv_at hl 0 rfl) ?_
    refine lv_dup hx hb xd_Re_requestAgain_9 rfl ?_
    refine fw_geti hx hb hts i_Re hown hK hP (xm_13 (by omega)) (xk_13 r) rfl 16 (by decide) (hts _ L_Re_127) (fun _ h9 => h9) rfl xd_Re_requestAgain_10 ?_
    refine lv_iconst (v := (1 : Int32)) hx hb xd_Re_requestAgain_13 (by decide) ?_
    refine lv_iadd hx hb xd_Re_requestAgain_14 ?_
    refine fw_puti hx hb hts i_Re t_Re t_Re_ok n_Re hown hK hD hP hS (xm_13 (by omega)) (xk_13 r) rfl 16 (by decide) (hts _ L_Re_127) (fun _ h9 => h9) rfl fw_pdI rfl rfl rfl xd_Re_requestAgain_15 (fun v6 H locs ev6 hP hS => ?_)
    have hI : xI b v6 := by rw [ev6]; exact xI_up hI trivial trivial
    refine lv_aload_n hx hb xd_Re_requestAgain_18 rfl (lv_at hl 0 rfl) ?_
    refine lv_iconst (v := (0 : Int32)) hx hb xd_Re_requestAgain_19 (by decide) ?_
    refine fw_puti hx hb hts i_Re t_Re t_Re_ok n_Re hown hK hD hP hS (xm_13 (by omega)) (xk_13 r) rfl 15 (by decide) (hts _ L_Re_115) (fun _ h9 => h9) rfl fw_pdI rfl rfl rfl xd_Re_requestAgain_20 (fun v7 H locs ev7 hP hS => ?_)
    have hI : xI b v7 := by rw [ev7]; exact xI_up hI trivial trivial
    refine lv_aload_n hx hb xd_Re_requestAgain_23 rfl (lv_at hl 0 rfl) ?_
    refine fw_cv (va_runV (As := []) (rest := []) ⟨hx, hb, hml, hown, hts⟩ (xc_Re_sendRequest l hD v7 hI (r) (by omega)) (xw_Re_sendRequest hts L_Re_72 ⟨Nat.le_of_ble_eq_true rfl, Nat.le_of_ble_eq_true rfl⟩) (fw_preV hN hK hP (xm_13 (by omega)) (xk_13 r) rfl) rfl rfl hl.1 rfl (lv_room (Nat.le_of_ble_eq_true rfl)) xd_Re_requestAgain_24 ⟨Nat.le_of_ble_eq_true rfl, Nat.le_of_ble_eq_true rfl⟩) hS (fun v8 H locs ev8 hI hP hS => ?_)
    refine lv_goto (tgt := 49) hx hb xd_Re_requestAgain_27 (by decide) ?_
    exact fw_vret hx hb hr hlocks hS hP hI xd_Re_requestAgain_49 (by subst ev6 ev7 ev8; simp only [xf_Re_requestAgain, if_neg c_1])
def xf_Re_passTick (v0 : fw_V) (r : Nat) : fw_V :=
  if (v0 13 r 10) = (0 : Int32) then
    v0
  else
    let v2 := fw_up v0 13 r 15 ((v0 13 r 15) + (1 : Int32))
    if (v2 13 r 10) = (6 : Int32) then
      let v9 := xf_Re_passTickInData v2 (r)
      v9
    else
      if (v2 13 r 10) = (5 : Int32) then
        if (v2 13 r 15) < (12 : Int32) then
          v2
        else
          let v8 := xf_Re_abort v2 (r)
          v8
      else
        if (v2 13 r 15) < (4 : Int32) then
          v2
        else
          let v6 := xf_Re_requestAgain v2 (r)
          v6

set_option maxHeartbeats 4000000 in
set_option maxRecDepth 100000 in
theorem xc_Re_passTick (l : Launch) {D : va_G} {cA : Nat → ClassId} {ad : Nat → Nat → Nat} (hD : fw_D xCL ad) {b : Nat} (v0 : fw_V) (hI : xI b v0) (r : Nat) (hr0 : r < 2)  : Met l xy_Re_passTick (Cond.code xy_Re_passTick xb_Re_passTick 1 none :: vTB) xrm_Re_passTick (fw_Pc vNL D vcls (vtys cA) xCL cA xkd ad v0 [.ref (ad 13 r)]) (fw_Qv D vcls xCL cA xkd ad (xI b) (xf_Re_passTick v0 r)) 0 0 (fw_A xCL ad) := by
  refine Met.ofW (cc := xb_Re_passTick) (maxL := 1) (ret := none) (by decide) rfl ?_
  intro p e s m args below meth c s₁ B hml hv
  obtain ⟨rfl, hP, hK, hN⟩ := hv
  have hx := B.exec
  have hb := B.bytes
  have hr := B.returns
  have hts : ∀ w ∈ vTB, w.before ([.ref (ad 13 r)] : List Value).toArray s = true := fun w h => atoms_spec (ws := (Cond.code xy_Re_passTick xb_Re_passTick 1 none :: vTB)) B.pre w (List.mem_cons_of_mem _ h)
  have hown : s.vm.findClass R_Re = some m.cls := findClass_of_methodNamed B.named
  have hlocks := B.notSynchronized
  have hS : va_S (fw_A xCL ad) s.heap s.heap [] := va_S.rf
  skip
  have hl := lv_entry ([.ref (ad 13 r)]) (n := 1) (Nat.le_of_ble_eq_true rfl)
  rw [lg_entry_eq]
  generalize (lg_sl ([.ref (ad 13 r)]) ++ List.replicate (1 - (lg_sl ([.ref (ad 13 r)])).length) Slot.unset).toArray = ls at hl ⊢
  have hl : lv_has ls 1 [(0, .ref (ad 13 r))] := hl
  refine lv_aload_n hx hb xd_Re_passTick_0 rfl (lv_at hl 0 rfl) ?_
  refine fw_geti hx hb hts i_Re hown hK hP (xm_13 (by omega)) (xk_13 r) rfl 10 (by decide) (hts _ L_Re_56) (fun _ h9 => h9) rfl xd_Re_passTick_1 ?_
  refine lv_if_ne (tgt := 8) hx hb xd_Re_passTick_4 (by decide) (fun c_1 => ?_) (fun c_1 => ?_)
  · refine lv_aload_n hx hb xd_Re_passTick_8 rfl (lv_at hl 0 rfl) ?_
    refine lv_dup hx hb xd_Re_passTick_9 rfl ?_
    refine fw_geti hx hb hts i_Re hown hK hP (xm_13 (by omega)) (xk_13 r) rfl 15 (by decide) (hts _ L_Re_115) (fun _ h9 => h9) rfl xd_Re_passTick_10 ?_
    refine lv_iconst (v := (1 : Int32)) hx hb xd_Re_passTick_13 (by decide) ?_
    refine lv_iadd hx hb xd_Re_passTick_14 ?_
    refine fw_puti hx hb hts i_Re t_Re t_Re_ok n_Re hown hK hD hP hS (xm_13 (by omega)) (xk_13 r) rfl 15 (by decide) (hts _ L_Re_115) (fun _ h9 => h9) rfl fw_pdI rfl rfl rfl xd_Re_passTick_15 (fun v2 H locs ev2 hP hS => ?_)
    have hI : xI b v2 := by rw [ev2]; exact xI_up hI trivial trivial
    refine lv_aload_n hx hb xd_Re_passTick_18 rfl (lv_at hl 0 rfl) ?_
    refine fw_geti hx hb hts i_Re hown hK hP (xm_13 (by omega)) (xk_13 r) rfl 10 (by decide) (hts _ L_Re_56) (fun _ h9 => h9) rfl xd_Re_passTick_19 ?_
    refine lv_bipush (v := (6 : Int32)) hx hb xd_Re_passTick_22 (by decide) ?_
    refine lv_icmp_ne (tgt := 34) hx hb xd_Re_passTick_24 (by decide) (fun c_3 => ?_) (fun c_3 => ?_)
    · refine lv_aload_n hx hb xd_Re_passTick_34 rfl (lv_at hl 0 rfl) ?_
      refine fw_geti hx hb hts i_Re hown hK hP (xm_13 (by omega)) (xk_13 r) rfl 10 (by decide) (hts _ L_Re_56) (fun _ h9 => h9) rfl xd_Re_passTick_35 ?_
      refine lv_iconst (v := (5 : Int32)) hx hb xd_Re_passTick_38 (by decide) ?_
      refine lv_icmp_ne (tgt := 58) hx hb xd_Re_passTick_39 (by decide) (fun c_4 => ?_) (fun c_4 => ?_)
      · refine lv_aload_n hx hb xd_Re_passTick_58 rfl (lv_at hl 0 rfl) ?_
        refine fw_geti hx hb hts i_Re hown hK hP (xm_13 (by omega)) (xk_13 r) rfl 15 (by decide) (hts _ L_Re_115) (fun _ h9 => h9) rfl xd_Re_passTick_59 ?_
        refine lv_iconst (v := (4 : Int32)) hx hb xd_Re_passTick_62 (by decide) ?_
        refine lv_icmp_lt (tgt := 70) hx hb xd_Re_passTick_63 (by decide) (fun c_5 => ?_) (fun c_5 => ?_)
        · exact fw_vret hx hb hr hlocks hS hP hI xd_Re_passTick_70 (by subst ev2; simp only [xf_Re_passTick, if_neg c_1, if_neg c_3, if_neg c_4, if_pos c_5])
        · refine lv_aload_n hx hb xd_Re_passTick_66 rfl (lv_at hl 0 rfl) ?_
          refine fw_cv (va_runV (As := []) (rest := []) ⟨hx, hb, hml, hown, hts⟩ (xc_Re_requestAgain l hD v2 hI (r) (by omega)) (xw_Re_requestAgain hts L_Re_121 ⟨Nat.le_of_ble_eq_true rfl, Nat.le_of_ble_eq_true rfl⟩) (fw_preV hN hK hP (xm_13 (by omega)) (xk_13 r) rfl) rfl rfl hl.1 rfl (lv_room (Nat.le_of_ble_eq_true rfl)) xd_Re_passTick_67 ⟨Nat.le_of_ble_eq_true rfl, Nat.le_of_ble_eq_true rfl⟩) hS (fun v6 H locs ev6 hI hP hS => ?_)
          exact fw_vret hx hb hr hlocks hS hP hI xd_Re_passTick_70 (by subst ev2 ev6; simp only [xf_Re_passTick, if_neg c_1, if_neg c_3, if_neg c_4, if_neg c_5])
      · refine lv_aload_n hx hb xd_Re_passTick_42 rfl (lv_at hl 0 rfl) ?_
        refine fw_geti hx hb hts i_Re hown hK hP (xm_13 (by omega)) (xk_13 r) rfl 15 (by decide) (hts _ L_Re_115) (fun _ h9 => h9) rfl xd_Re_passTick_43 ?_
        refine lv_bipush (v := (12 : Int32)) hx hb xd_Re_passTick_46 (by decide) ?_
        refine lv_icmp_lt (tgt := 70) hx hb xd_Re_passTick_48 (by decide) (fun c_7 => ?_) (fun c_7 => ?_)
        · exact fw_vret hx hb hr hlocks hS hP hI xd_Re_passTick_70 (by subst ev2; simp only [xf_Re_passTick, if_neg c_1, if_neg c_3, if_pos c_4, if_pos c_7])
        · refine lv_aload_n hx hb xd_Re_passTick_51 rfl (lv_at hl 0 rfl) ?_
          refine fw_cv (va_runV (As := []) (rest := []) ⟨hx, hb, hml, hown, hts⟩ (xc_Re_abort l hD v2 hI (r) (by omega)) (xw_Re_abort hts L_Re_75 ⟨Nat.le_of_ble_eq_true rfl, Nat.le_of_ble_eq_true rfl⟩) (fw_preV hN hK hP (xm_13 (by omega)) (xk_13 r) rfl) rfl rfl hl.1 rfl (lv_room (Nat.le_of_ble_eq_true rfl)) xd_Re_passTick_52 ⟨Nat.le_of_ble_eq_true rfl, Nat.le_of_ble_eq_true rfl⟩) hS (fun v8 H locs ev8 hI hP hS => ?_)
          refine lv_goto (tgt := 70) hx hb xd_Re_passTick_55 (by decide) ?_
          exact fw_vret hx hb hr hlocks hS hP hI xd_Re_passTick_70 (by subst ev2 ev8; simp only [xf_Re_passTick, if_neg c_1, if_neg c_3, if_pos c_4, if_neg c_7])
    · refine lv_aload_n hx hb xd_Re_passTick_27 rfl (lv_at hl 0 rfl) ?_
      refine fw_cv (va_runV (As := []) (rest := []) ⟨hx, hb, hml, hown, hts⟩ (xc_Re_passTickInData l hD v2 hI (r) (by omega)) (xw_Re_passTickInData hts L_Re_118 ⟨Nat.le_of_ble_eq_true rfl, Nat.le_of_ble_eq_true rfl⟩) (fw_preV hN hK hP (xm_13 (by omega)) (xk_13 r) rfl) rfl rfl hl.1 rfl (lv_room (Nat.le_of_ble_eq_true rfl)) xd_Re_passTick_28 ⟨Nat.le_of_ble_eq_true rfl, Nat.le_of_ble_eq_true rfl⟩) hS (fun v9 H locs ev9 hI hP hS => ?_)
      refine lv_goto (tgt := 70) hx hb xd_Re_passTick_31 (by decide) ?_
      exact fw_vret hx hb hr hlocks hS hP hI xd_Re_passTick_70 (by subst ev2 ev9; simp only [xf_Re_passTick, if_neg c_1, if_pos c_3])
  · exact fw_vret hx hb hr hlocks hS hP hI xd_Re_passTick_7 (by simp only [xf_Re_passTick, if_pos c_1])
def xf_AQ_isDueThisTick_j1 (v : fw_V) (r : Nat) (x90 : Int32) : Int32 × fw_V :=
  let v10 := fw_up v 20 r 4 x90
  let v11 := fw_up v10 20 r 3 (v10 20 r 4)
  let v12 := fw_up v11 20 r 5 (0 : Int32)
  ((1 : Int32), v12)
def xf_AQ_isDueThisTick_j2 (v : fw_V) (r : Nat)  : Int32 × fw_V :=
  let v13 := fw_up v 20 r 4 (1 : Int32)
  let v14 := fw_up v13 20 r 3 (v13 20 r 4)
  let v15 := fw_up v14 20 r 5 (0 : Int32)
  ((1 : Int32), v15)
def xf_AQ_isDueThisTick (v0 : fw_V) (r : Nat) : Int32 × fw_V :=
  if (v0 20 r 2) = (0 : Int32) then
    ((0 : Int32), v0)
  else
    if (v0 20 r 3) = (0 : Int32) then
      if (v0 20 r 4) < (255 : Int32) then
        xf_AQ_isDueThisTick_j1 v0 r (((v0 20 r 4) + (1 : Int32)))
      else
        xf_AQ_isDueThisTick_j2 v0 r
    else
      let v5 := fw_up v0 20 r 5 ((v0 20 r 5) + (1 : Int32))
      if (3 : Int32) ≤ (v5 20 r 5) then
        let v7 := fw_up v5 20 r 5 (0 : Int32)
        ((1 : Int32), v7)
      else
        ((0 : Int32), v5)

set_option maxHeartbeats 4000000 in
set_option maxRecDepth 100000 in
theorem xc_AQ_isDueThisTick (l : Launch) {D : va_G} {cA : Nat → ClassId} {ad : Nat → Nat → Nat} (hD : fw_D xCL ad) {b : Nat} (v0 : fw_V) (hI : xI b v0) (r : Nat) (hr0 : r < 2)  : Met l xy_AQ_isDueThisTick (Cond.code xy_AQ_isDueThisTick xb_AQ_isDueThisTick 1 (some .boolean) :: vTB) xrm_AQ_isDueThisTick (fw_Pc vNL D vcls (vtys cA) xCL cA xkd ad v0 [.ref (ad 20 r)]) (fw_Qz D vcls xCL cA xkd ad (xI b) (xf_AQ_isDueThisTick v0 r)) 0 0 (fw_A xCL ad) := by
  refine Met.ofW (cc := xb_AQ_isDueThisTick) (maxL := 1) (ret := (some .boolean)) (by decide) rfl ?_
  intro p e s m args below meth c s₁ B hml hv
  obtain ⟨rfl, hP, hK, hN⟩ := hv
  have hx := B.exec
  have hb := B.bytes
  have hr := B.returns
  have hts : ∀ w ∈ vTB, w.before ([.ref (ad 20 r)] : List Value).toArray s = true := fun w h => atoms_spec (ws := (Cond.code xy_AQ_isDueThisTick xb_AQ_isDueThisTick 1 (some .boolean) :: vTB)) B.pre w (List.mem_cons_of_mem _ h)
  have hown : s.vm.findClass R_AQ = some m.cls := findClass_of_methodNamed B.named
  have hlocks := B.notSynchronized
  have hS : va_S (fw_A xCL ad) s.heap s.heap [] := va_S.rf
  have J1 : ∀ (v : fw_V) (x90 : Int32) (H : Heap) (locs : List Loc) (ls : Array Slot), xf_AQ_isDueThisTick v0 r = xf_AQ_isDueThisTick_j1 v r x90 → 0 < (v 20 r 2).toInt → xI b v → va_P D vcls (fw_w xCL cA xkd ad v) H → va_S (fw_A xCL ad) s.heap H locs → lv_has ls 1 [(0, .ref (ad 20 r))] → W p l e (headSpec (Cond.code xy_AQ_isDueThisTick xb_AQ_isDueThisTick 1 (some .boolean) :: vTB) xrm_AQ_isDueThisTick).room s m ([.ref (ad 20 r)] : List Value).toArray below meth c H locs 0 0 (MQ below (fw_Qz D vcls xCL cA xkd ad (xI b) (xf_AQ_isDueThisTick v0 r)) ([.ref (ad 20 r)] : List Value).toArray s 0 0 (fw_A xCL ad)) (F0 m 37 ls [.int x90, .ref (ad 20 r)]) := by
    intro v x90 H locs ls hj hkf0 hI hP hS hl
    refine fw_puti hx hb hts i_AQ t_AQ t_AQ_ok n_AQ hown hK hD hP hS (xm_20 (by omega)) (xk_20 r) rfl 4 (by decide) (hts _ L_AQ_23) (fun _ h9 => h9) rfl fw_pdI rfl rfl rfl xd_AQ_isDueThisTick_37 (fun v10 H locs ev10 hP hS => ?_)
    have hI : xI b v10 := by rw [ev10]; exact xI_up hI trivial trivial
    refine lv_aload_n hx hb xd_AQ_isDueThisTick_40 rfl (lv_at hl 0 rfl) ?_
    refine lv_aload_n hx hb xd_AQ_isDueThisTick_41 rfl (lv_at hl 0 rfl) ?_
    refine fw_geti hx hb hts i_AQ hown hK hP (xm_20 (by omega)) (xk_20 r) rfl 4 (by decide) (hts _ L_AQ_23) (fun _ h9 => h9) rfl xd_AQ_isDueThisTick_42 ?_
    refine fw_puti hx hb hts i_AQ t_AQ t_AQ_ok n_AQ hown hK hD hP hS (xm_20 (by omega)) (xk_20 r) rfl 3 (by decide) (hts _ L_AQ_20) (fun _ h9 => h9) rfl fw_pdI rfl rfl rfl xd_AQ_isDueThisTick_45 (fun v11 H locs ev11 hP hS => ?_)
    have hI : xI b v11 := by rw [ev11]; exact xI_up hI trivial (Or.inr (by rw [ev10, fw_up_k (k := 4) (k' := 2) (by decide)]; exact hkf0))
    refine lv_aload_n hx hb xd_AQ_isDueThisTick_48 rfl (lv_at hl 0 rfl) ?_
    refine lv_iconst (v := (0 : Int32)) hx hb xd_AQ_isDueThisTick_49 (by decide) ?_
    refine fw_puti hx hb hts i_AQ t_AQ t_AQ_ok n_AQ hown hK hD hP hS (xm_20 (by omega)) (xk_20 r) rfl 5 (by decide) (hts _ L_AQ_26) (fun _ h9 => h9) rfl fw_pdI rfl rfl rfl xd_AQ_isDueThisTick_50 (fun v12 H locs ev12 hP hS => ?_)
    have hI : xI b v12 := by rw [ev12]; exact xI_up hI trivial trivial
    refine lv_iconst (v := (1 : Int32)) hx hb xd_AQ_isDueThisTick_53 (by decide) ?_
    exact fw_zret hx hb hr hlocks hS hP hI xd_AQ_isDueThisTick_54 (by decide) (by rw [hj]; subst ev10 ev11 ev12; simp only [xf_AQ_isDueThisTick_j1])
  have J2 : ∀ (v : fw_V)  (H : Heap) (locs : List Loc) (ls : Array Slot), xf_AQ_isDueThisTick v0 r = xf_AQ_isDueThisTick_j2 v r → 0 < (v 20 r 2).toInt → xI b v → va_P D vcls (fw_w xCL cA xkd ad v) H → va_S (fw_A xCL ad) s.heap H locs → lv_has ls 1 [(0, .ref (ad 20 r))] → W p l e (headSpec (Cond.code xy_AQ_isDueThisTick xb_AQ_isDueThisTick 1 (some .boolean) :: vTB) xrm_AQ_isDueThisTick).room s m ([.ref (ad 20 r)] : List Value).toArray below meth c H locs 0 0 (MQ below (fw_Qz D vcls xCL cA xkd ad (xI b) (xf_AQ_isDueThisTick v0 r)) ([.ref (ad 20 r)] : List Value).toArray s 0 0 (fw_A xCL ad)) (F0 m 37 ls [.int (1 : Int32), .ref (ad 20 r)]) := by
    intro v  H locs ls hj hkf0 hI hP hS hl
    clear J1
    refine fw_puti hx hb hts i_AQ t_AQ t_AQ_ok n_AQ hown hK hD hP hS (xm_20 (by omega)) (xk_20 r) rfl 4 (by decide) (hts _ L_AQ_23) (fun _ h9 => h9) rfl fw_pdI rfl rfl rfl xd_AQ_isDueThisTick_37 (fun v13 H locs ev13 hP hS => ?_)
    have hI : xI b v13 := by rw [ev13]; exact xI_up hI trivial trivial
    refine lv_aload_n hx hb xd_AQ_isDueThisTick_40 rfl (lv_at hl 0 rfl) ?_
    refine lv_aload_n hx hb xd_AQ_isDueThisTick_41 rfl (lv_at hl 0 rfl) ?_
    refine fw_geti hx hb hts i_AQ hown hK hP (xm_20 (by omega)) (xk_20 r) rfl 4 (by decide) (hts _ L_AQ_23) (fun _ h9 => h9) rfl xd_AQ_isDueThisTick_42 ?_
    refine fw_puti hx hb hts i_AQ t_AQ t_AQ_ok n_AQ hown hK hD hP hS (xm_20 (by omega)) (xk_20 r) rfl 3 (by decide) (hts _ L_AQ_20) (fun _ h9 => h9) rfl fw_pdI rfl rfl rfl xd_AQ_isDueThisTick_45 (fun v14 H locs ev14 hP hS => ?_)
    have hI : xI b v14 := by rw [ev14]; exact xI_up hI trivial (Or.inr (by rw [ev13, fw_up_k (k := 4) (k' := 2) (by decide)]; exact hkf0))
    refine lv_aload_n hx hb xd_AQ_isDueThisTick_48 rfl (lv_at hl 0 rfl) ?_
    refine lv_iconst (v := (0 : Int32)) hx hb xd_AQ_isDueThisTick_49 (by decide) ?_
    refine fw_puti hx hb hts i_AQ t_AQ t_AQ_ok n_AQ hown hK hD hP hS (xm_20 (by omega)) (xk_20 r) rfl 5 (by decide) (hts _ L_AQ_26) (fun _ h9 => h9) rfl fw_pdI rfl rfl rfl xd_AQ_isDueThisTick_50 (fun v15 H locs ev15 hP hS => ?_)
    have hI : xI b v15 := by rw [ev15]; exact xI_up hI trivial trivial
    refine lv_iconst (v := (1 : Int32)) hx hb xd_AQ_isDueThisTick_53 (by decide) ?_
    exact fw_zret hx hb hr hlocks hS hP hI xd_AQ_isDueThisTick_54 (by decide) (by rw [hj]; subst ev13 ev14 ev15; simp only [xf_AQ_isDueThisTick_j2])
  skip
  have hl := lv_entry ([.ref (ad 20 r)]) (n := 1) (Nat.le_of_ble_eq_true rfl)
  rw [lg_entry_eq]
  generalize (lg_sl ([.ref (ad 20 r)]) ++ List.replicate (1 - (lg_sl ([.ref (ad 20 r)])).length) Slot.unset).toArray = ls at hl ⊢
  have hl : lv_has ls 1 [(0, .ref (ad 20 r))] := hl
  refine lv_aload_n hx hb xd_AQ_isDueThisTick_0 rfl (lv_at hl 0 rfl) ?_
  refine fw_geti hx hb hts i_AQ hown hK hP (xm_20 (by omega)) (xk_20 r) rfl 2 (by decide) (hts _ L_AQ_16) (fun _ h9 => h9) rfl xd_AQ_isDueThisTick_1 ?_
  have h_1 : vp_in (v0 20 r 2) 5 := hI.1 20 r 2
  refine lv_if_ne (tgt := 9) hx hb xd_AQ_isDueThisTick_4 (by decide) (fun c_2 => ?_) (fun c_2 => ?_)
  · have h_3 : 0 < (v0 20 r 2).toInt := fw_pos h_1 c_2
    refine lv_aload_n hx hb xd_AQ_isDueThisTick_9 rfl (lv_at hl 0 rfl) ?_
    refine fw_geti hx hb hts i_AQ hown hK hP (xm_20 (by omega)) (xk_20 r) rfl 3 (by decide) (hts _ L_AQ_20) (fun _ h9 => h9) rfl xd_AQ_isDueThisTick_10 ?_
    refine lv_if_ne (tgt := 55) hx hb xd_AQ_isDueThisTick_13 (by decide) (fun c_4 => ?_) (fun c_4 => ?_)
    · refine lv_aload_n hx hb xd_AQ_isDueThisTick_55 rfl (lv_at hl 0 rfl) ?_
      refine lv_dup hx hb xd_AQ_isDueThisTick_56 rfl ?_
      refine fw_geti hx hb hts i_AQ hown hK hP (xm_20 (by omega)) (xk_20 r) rfl 5 (by decide) (hts _ L_AQ_26) (fun _ h9 => h9) rfl xd_AQ_isDueThisTick_57 ?_
      refine lv_iconst (v := (1 : Int32)) hx hb xd_AQ_isDueThisTick_60 (by decide) ?_
      refine lv_iadd hx hb xd_AQ_isDueThisTick_61 ?_
      refine fw_puti hx hb hts i_AQ t_AQ t_AQ_ok n_AQ hown hK hD hP hS (xm_20 (by omega)) (xk_20 r) rfl 5 (by decide) (hts _ L_AQ_26) (fun _ h9 => h9) rfl fw_pdI rfl rfl rfl xd_AQ_isDueThisTick_62 (fun v5 H locs ev5 hP hS => ?_)
      have hI : xI b v5 := by rw [ev5]; exact xI_up hI trivial trivial
      refine lv_aload_n hx hb xd_AQ_isDueThisTick_65 rfl (lv_at hl 0 rfl) ?_
      refine fw_geti hx hb hts i_AQ hown hK hP (xm_20 (by omega)) (xk_20 r) rfl 5 (by decide) (hts _ L_AQ_26) (fun _ h9 => h9) rfl xd_AQ_isDueThisTick_66 ?_
      refine lv_iconst (v := (3 : Int32)) hx hb xd_AQ_isDueThisTick_69 (by decide) ?_
      refine lv_icmp_ge (tgt := 75) hx hb xd_AQ_isDueThisTick_70 (by decide) (fun c_6 => ?_) (fun c_6 => ?_)
      · refine lv_aload_n hx hb xd_AQ_isDueThisTick_75 rfl (lv_at hl 0 rfl) ?_
        refine lv_iconst (v := (0 : Int32)) hx hb xd_AQ_isDueThisTick_76 (by decide) ?_
        refine fw_puti hx hb hts i_AQ t_AQ t_AQ_ok n_AQ hown hK hD hP hS (xm_20 (by omega)) (xk_20 r) rfl 5 (by decide) (hts _ L_AQ_26) (fun _ h9 => h9) rfl fw_pdI rfl rfl rfl xd_AQ_isDueThisTick_77 (fun v7 H locs ev7 hP hS => ?_)
        have hI : xI b v7 := by rw [ev7]; exact xI_up hI trivial trivial
        refine lv_iconst (v := (1 : Int32)) hx hb xd_AQ_isDueThisTick_80 (by decide) ?_
        exact fw_zret hx hb hr hlocks hS hP hI xd_AQ_isDueThisTick_81 (by decide) (by subst ev5 ev7; simp only [xf_AQ_isDueThisTick, if_neg c_2, if_neg c_4, if_pos c_6])
      · refine lv_iconst (v := (0 : Int32)) hx hb xd_AQ_isDueThisTick_73 (by decide) ?_
        exact fw_zret hx hb hr hlocks hS hP hI xd_AQ_isDueThisTick_74 (by decide) (by subst ev5; simp only [xf_AQ_isDueThisTick, if_neg c_2, if_neg c_4, if_neg c_6])
    · refine lv_aload_n hx hb xd_AQ_isDueThisTick_16 rfl (lv_at hl 0 rfl) ?_
      refine lv_aload_n hx hb xd_AQ_isDueThisTick_17 rfl (lv_at hl 0 rfl) ?_
      refine fw_geti hx hb hts i_AQ hown hK hP (xm_20 (by omega)) (xk_20 r) rfl 4 (by decide) (hts _ L_AQ_23) (fun _ h9 => h9) rfl xd_AQ_isDueThisTick_18 ?_
      refine lv_sipush (v := (255 : Int32)) hx hb xd_AQ_isDueThisTick_21 (by decide) ?_
      refine lv_icmp_lt (tgt := 31) hx hb xd_AQ_isDueThisTick_24 (by decide) (fun c_9 => ?_) (fun c_9 => ?_)
      · refine lv_aload_n hx hb xd_AQ_isDueThisTick_31 rfl (lv_at hl 0 rfl) ?_
        refine fw_geti hx hb hts i_AQ hown hK hP (xm_20 (by omega)) (xk_20 r) rfl 4 (by decide) (hts _ L_AQ_23) (fun _ h9 => h9) rfl xd_AQ_isDueThisTick_32 ?_
        refine lv_iconst (v := (1 : Int32)) hx hb xd_AQ_isDueThisTick_35 (by decide) ?_
        refine lv_iadd hx hb xd_AQ_isDueThisTick_36 ?_
        exact J1 v0 (((v0 20 r 4) + (1 : Int32))) _ _ _ (by simp only [xf_AQ_isDueThisTick, if_neg c_2, if_pos c_4, if_pos c_9])  h_3 hI hP hS (lv_sub hl [0] rfl)
      · refine lv_iconst (v := (1 : Int32)) hx hb xd_AQ_isDueThisTick_27 (by decide) ?_
        refine lv_goto (tgt := 37) hx hb xd_AQ_isDueThisTick_28 (by decide) ?_
        exact J2 v0  _ _ _ (by simp only [xf_AQ_isDueThisTick, if_neg c_2, if_pos c_4, if_neg c_9])  h_3 hI hP hS (lv_sub hl [0] rfl)
  · refine lv_iconst (v := (0 : Int32)) hx hb xd_AQ_isDueThisTick_7 (by decide) ?_
    exact fw_zret hx hb hr hlocks hS hP hI xd_AQ_isDueThisTick_8 (by decide) (by simp only [xf_AQ_isDueThisTick, if_pos c_2])
def xf_AQ_firstSlot (v0 : fw_V) (r : Nat) : Int32 :=
  (v0 21 r 0)

set_option maxHeartbeats 4000000 in
set_option maxRecDepth 100000 in
theorem xc_AQ_firstSlot (l : Launch) {D : va_G} {cA : Nat → ClassId} {ad : Nat → Nat → Nat} (hD : fw_D xCL ad) {b : Nat} (v0 : fw_V) (hI : xI b v0) (r : Nat) (hr0 : r < 2)  : Met l xy_AQ_firstSlot (Cond.code xy_AQ_firstSlot xb_AQ_firstSlot 1 (some .int) :: vTB) xrm_AQ_firstSlot (fw_Pc vNL D vcls (vtys cA) xCL cA xkd ad v0 [.ref (ad 20 r)]) (fw_Qo D vcls xCL cA xkd ad v0 (xf_AQ_firstSlot v0 r)) 0 0 (fw_A xCL ad) := by
  refine Met.ofW (cc := xb_AQ_firstSlot) (maxL := 1) (ret := (some .int)) (by decide) rfl ?_
  intro p e s m args below meth c s₁ B hml hv
  obtain ⟨rfl, hP, hK, hN⟩ := hv
  have hx := B.exec
  have hb := B.bytes
  have hr := B.returns
  have hts : ∀ w ∈ vTB, w.before ([.ref (ad 20 r)] : List Value).toArray s = true := fun w h => atoms_spec (ws := (Cond.code xy_AQ_firstSlot xb_AQ_firstSlot 1 (some .int) :: vTB)) B.pre w (List.mem_cons_of_mem _ h)
  have hown : s.vm.findClass R_AQ = some m.cls := findClass_of_methodNamed B.named
  have hlocks := B.notSynchronized
  have hS : va_S (fw_A xCL ad) s.heap s.heap [] := va_S.rf
  skip
  have hl := lv_entry ([.ref (ad 20 r)]) (n := 1) (Nat.le_of_ble_eq_true rfl)
  rw [lg_entry_eq]
  generalize (lg_sl ([.ref (ad 20 r)]) ++ List.replicate (1 - (lg_sl ([.ref (ad 20 r)])).length) Slot.unset).toArray = ls at hl ⊢
  have hl : lv_has ls 1 [(0, .ref (ad 20 r))] := hl
  refine lv_aload_n hx hb xd_AQ_firstSlot_0 rfl (lv_at hl 0 rfl) ?_
  refine fw_getr hx hb hts i_AQ hown hK hP (xm_20 (by omega)) (xk_20 r) rfl 0 (by decide) (hts _ L_AQ_9) (fun _ h9 => h9) rfl xd_AQ_firstSlot_1 ?_
  refine lv_iconst (v := (0 : Int32)) hx hb xd_AQ_firstSlot_4 (by decide) ?_
  refine fw_iald hx hb hK hP (xm_21 (by omega)) (xk_21 r) 0 rfl (j := 0) (by decide) (fw_inc (by decide)) xd_AQ_firstSlot_5 ?_
  exact fw_oret hx hb hr hlocks hS hP xd_AQ_firstSlot_6 (by simp only [xf_AQ_firstSlot])
def xf_AQ_firstKindPlusOne (v0 : fw_V) (r : Nat) : Int32 :=
  (v0 22 r 0)

set_option maxHeartbeats 4000000 in
set_option maxRecDepth 100000 in
theorem xc_AQ_firstKindPlusOne (l : Launch) {D : va_G} {cA : Nat → ClassId} {ad : Nat → Nat → Nat} (hD : fw_D xCL ad) {b : Nat} (v0 : fw_V) (hI : xI b v0) (r : Nat) (hr0 : r < 2)  : Met l xy_AQ_firstKindPlusOne (Cond.code xy_AQ_firstKindPlusOne xb_AQ_firstKindPlusOne 1 (some .int) :: vTB) xrm_AQ_firstKindPlusOne (fw_Pc vNL D vcls (vtys cA) xCL cA xkd ad v0 [.ref (ad 20 r)]) (fw_Qo D vcls xCL cA xkd ad v0 (xf_AQ_firstKindPlusOne v0 r)) 0 0 (fw_A xCL ad) := by
  refine Met.ofW (cc := xb_AQ_firstKindPlusOne) (maxL := 1) (ret := (some .int)) (by decide) rfl ?_
  intro p e s m args below meth c s₁ B hml hv
  obtain ⟨rfl, hP, hK, hN⟩ := hv
  have hx := B.exec
  have hb := B.bytes
  have hr := B.returns
  have hts : ∀ w ∈ vTB, w.before ([.ref (ad 20 r)] : List Value).toArray s = true := fun w h => atoms_spec (ws := (Cond.code xy_AQ_firstKindPlusOne xb_AQ_firstKindPlusOne 1 (some .int) :: vTB)) B.pre w (List.mem_cons_of_mem _ h)
  have hown : s.vm.findClass R_AQ = some m.cls := findClass_of_methodNamed B.named
  have hlocks := B.notSynchronized
  have hS : va_S (fw_A xCL ad) s.heap s.heap [] := va_S.rf
  skip
  have hl := lv_entry ([.ref (ad 20 r)]) (n := 1) (Nat.le_of_ble_eq_true rfl)
  rw [lg_entry_eq]
  generalize (lg_sl ([.ref (ad 20 r)]) ++ List.replicate (1 - (lg_sl ([.ref (ad 20 r)])).length) Slot.unset).toArray = ls at hl ⊢
  have hl : lv_has ls 1 [(0, .ref (ad 20 r))] := hl
  refine lv_aload_n hx hb xd_AQ_firstKindPlusOne_0 rfl (lv_at hl 0 rfl) ?_
  refine fw_getr hx hb hts i_AQ hown hK hP (xm_20 (by omega)) (xk_20 r) rfl 1 (by decide) (hts _ L_AQ_13) (fun _ h9 => h9) rfl xd_AQ_firstKindPlusOne_1 ?_
  refine lv_iconst (v := (0 : Int32)) hx hb xd_AQ_firstKindPlusOne_4 (by decide) ?_
  refine fw_iald hx hb hK hP (xm_22 (by omega)) (xk_22 r) 0 rfl (j := 0) (by decide) (fw_inc (by decide)) xd_AQ_firstKindPlusOne_5 ?_
  exact fw_oret hx hb hr hlocks hS hP xd_AQ_firstKindPlusOne_6 (by simp only [xf_AQ_firstKindPlusOne])
def xf_De_sendAlarm (v0 : fw_V) (r : Nat) : fw_V :=
  let p3 := xf_Wi_send v0 (14 : Int32) (v0 19 r 12) (v0 20 r 3) (2 : Int32)
  let y1 := p3.1
  let v2 := p3.2
  let r4 := xf_AQ_firstSlot v2 (r)
  let v5 := fw_up v2 8 y1 (0) r4
  let r6 := xf_AQ_firstKindPlusOne v5 (r)
  let v7 := fw_up v5 8 y1 (1) r6
  v7

set_option maxHeartbeats 4000000 in
set_option maxRecDepth 100000 in
theorem xc_De_sendAlarm (l : Launch) {D : va_G} {cA : Nat → ClassId} {ad : Nat → Nat → Nat} (hD : fw_D xCL ad) {b : Nat} (v0 : fw_V) (hI : xI b v0) (r : Nat) (hr0 : r < 2)  : Met l xy_De_sendAlarm (Cond.code xy_De_sendAlarm xb_De_sendAlarm 2 none :: vTB) xrm_De_sendAlarm (fw_Pc vNL D vcls (vtys cA) xCL cA xkd ad v0 [.ref (ad 19 r)]) (fw_Qv D vcls xCL cA xkd ad (xI b) (xf_De_sendAlarm v0 r)) 0 0 (fw_A xCL ad) := by
  refine Met.ofW (cc := xb_De_sendAlarm) (maxL := 2) (ret := none) (by decide) rfl ?_
  intro p e s m args below meth c s₁ B hml hv
  obtain ⟨rfl, hP, hK, hN⟩ := hv
  have hx := B.exec
  have hb := B.bytes
  have hr := B.returns
  have hts : ∀ w ∈ vTB, w.before ([.ref (ad 19 r)] : List Value).toArray s = true := fun w h => atoms_spec (ws := (Cond.code xy_De_sendAlarm xb_De_sendAlarm 2 none :: vTB)) B.pre w (List.mem_cons_of_mem _ h)
  have hown : s.vm.findClass R_De = some m.cls := findClass_of_methodNamed B.named
  have hlocks := B.notSynchronized
  have hS : va_S (fw_A xCL ad) s.heap s.heap [] := va_S.rf
  skip
  have hl := lv_entry ([.ref (ad 19 r)]) (n := 2) (Nat.le_of_ble_eq_true rfl)
  rw [lg_entry_eq]
  generalize (lg_sl ([.ref (ad 19 r)]) ++ List.replicate (2 - (lg_sl ([.ref (ad 19 r)])).length) Slot.unset).toArray = ls at hl ⊢
  have hl : lv_has ls 2 [(0, .ref (ad 19 r))] := hl
  refine lv_aload_n hx hb xd_De_sendAlarm_0 rfl (lv_at hl 0 rfl) ?_
  refine fw_getr hx hb hts i_De hown hK hP (xm_19 (by omega)) (xk_19 r) rfl 2 (by decide) (hts _ L_De_52) (fun _ h9 => h9) rfl xd_De_sendAlarm_1 ?_
  refine lv_bipush (v := (14 : Int32)) hx hb xd_De_sendAlarm_4 (by decide) ?_
  refine lv_aload_n hx hb xd_De_sendAlarm_6 rfl (lv_at hl 0 rfl) ?_
  refine fw_geti hx hb hts i_De hown hK hP (xm_19 (by omega)) (xk_19 r) rfl 12 (by decide) (hts _ L_De_101) (fun _ h9 => h9) rfl xd_De_sendAlarm_7 ?_
  refine lv_aload_n hx hb xd_De_sendAlarm_10 rfl (lv_at hl 0 rfl) ?_
  refine fw_getr hx hb hts i_De hown hK hP (xm_19 (by omega)) (xk_19 r) rfl 4 (by decide) (hts _ L_De_21) (fun _ h9 => h9) rfl xd_De_sendAlarm_11 ?_
  refine fw_geti hx hb hts i_AQ hown hK hP (xm_20 (by omega)) (xk_20 r) rfl 3 (by decide) (hts _ L_De_132) (fun _ h9 => h9) rfl xd_De_sendAlarm_14 ?_
  refine lv_iconst (v := (2 : Int32)) hx hb xd_De_sendAlarm_17 (by decide) ?_
  refine fw_cr (va_runV (As := [.int (14 : Int32), .int (v0 19 r 12), .int (v0 20 r 3), .int (2 : Int32)]) (rest := []) ⟨hx, hb, hml, hown, hts⟩ (xc_Wi_send l hD v0 hI (14 : Int32) (v0 19 r 12) (v0 20 r 3) (2 : Int32)) (xw_Wi_send hts L_De_138 ⟨Nat.le_of_ble_eq_true rfl, Nat.le_of_ble_eq_true rfl⟩) (fw_preV hN hK hP (xm_5 (by decide)) (xk_5 0) rfl) rfl rfl hl.1 rfl (lv_room (Nat.le_of_ble_eq_true rfl)) xd_De_sendAlarm_18 ⟨Nat.le_of_ble_eq_true rfl, Nat.le_of_ble_eq_true rfl⟩) hS (fun y1 v2 H locs ly1 ey1 ev2 hI hP hS => ?_)
  refine lv_astore_n (lv' := [(1, .ref (ad 7 y1)), (0, .ref (ad 19 r))]) hx hb xd_De_sendAlarm_21 rfl hl (by decide) rfl (fun ls hl => ?_)
  refine lv_aload_n hx hb xd_De_sendAlarm_22 rfl (lv_at hl 0 rfl) ?_
  refine fw_getr hx hb hts i_Fm hown hK hP (xm_7 (by omega)) (xk_7 y1) rfl 4 (by decide) (hts _ L_De_144) (fun _ h9 => h9) rfl xd_De_sendAlarm_23 ?_
  refine lv_iconst (v := (0 : Int32)) hx hb xd_De_sendAlarm_26 (by decide) ?_
  refine lv_aload_n hx hb xd_De_sendAlarm_27 rfl (lv_at hl 1 rfl) ?_
  refine fw_getr hx hb hts i_De hown hK hP (xm_19 (by omega)) (xk_19 r) rfl 4 (by decide) (hts _ L_De_21) (fun _ h9 => h9) rfl xd_De_sendAlarm_28 ?_
  refine fw_co (va_runV (As := []) (rest := [.int (0 : Int32), .ref (ad 8 y1)]) ⟨hx, hb, hml, hown, hts⟩ (xc_AQ_firstSlot l hD v2 hI (r) (by omega)) (xw_AQ_firstSlot hts L_De_206 ⟨Nat.le_of_ble_eq_true rfl, Nat.le_of_ble_eq_true rfl⟩) (fw_preV hN hK hP (xm_20 (by omega)) (xk_20 r) rfl) rfl rfl hl.1 rfl (lv_room (Nat.le_of_ble_eq_true rfl)) xd_De_sendAlarm_31 ⟨Nat.le_of_ble_eq_true rfl, Nat.le_of_ble_eq_true rfl⟩) hS (fun r4 H locs er4 hP hS => ?_)
  refine fw_iast hx hb hK hD hP hS (xm_8 (by omega)) (xk_8 y1) 0 rfl (j := 0) (by decide) (fw_inc (by decide)) xd_De_sendAlarm_34 (fun v5 H locs ev5 hP hS => ?_)
  have hI : xI b v5 := by rw [ev5]; exact xI_up hI trivial trivial
  refine lv_aload_n hx hb xd_De_sendAlarm_35 rfl (lv_at hl 0 rfl) ?_
  refine fw_getr hx hb hts i_Fm hown hK hP (xm_7 (by omega)) (xk_7 y1) rfl 4 (by decide) (hts _ L_De_144) (fun _ h9 => h9) rfl xd_De_sendAlarm_36 ?_
  refine lv_iconst (v := (1 : Int32)) hx hb xd_De_sendAlarm_39 (by decide) ?_
  refine lv_aload_n hx hb xd_De_sendAlarm_40 rfl (lv_at hl 1 rfl) ?_
  refine fw_getr hx hb hts i_De hown hK hP (xm_19 (by omega)) (xk_19 r) rfl 4 (by decide) (hts _ L_De_21) (fun _ h9 => h9) rfl xd_De_sendAlarm_41 ?_
  refine fw_co (va_runV (As := []) (rest := [.int (1 : Int32), .ref (ad 8 y1)]) ⟨hx, hb, hml, hown, hts⟩ (xc_AQ_firstKindPlusOne l hD v5 hI (r) (by omega)) (xw_AQ_firstKindPlusOne hts L_De_210 ⟨Nat.le_of_ble_eq_true rfl, Nat.le_of_ble_eq_true rfl⟩) (fw_preV hN hK hP (xm_20 (by omega)) (xk_20 r) rfl) rfl rfl hl.1 rfl (lv_room (Nat.le_of_ble_eq_true rfl)) xd_De_sendAlarm_44 ⟨Nat.le_of_ble_eq_true rfl, Nat.le_of_ble_eq_true rfl⟩) hS (fun r6 H locs er6 hP hS => ?_)
  refine fw_iast hx hb hK hD hP hS (xm_8 (by omega)) (xk_8 y1) 0 rfl (j := 1) (by decide) (fw_inc (by decide)) xd_De_sendAlarm_47 (fun v7 H locs ev7 hP hS => ?_)
  have hI : xI b v7 := by rw [ev7]; exact xI_up hI trivial trivial
  exact fw_vret hx hb hr hlocks hS hP hI xd_De_sendAlarm_48 (by subst ey1 ev2 er4 ev5 er6 ev7; simp only [xf_De_sendAlarm])
def xf_KT_insOf (v0 : fw_V) (a1 : Int32) : Int32 :=
  if a1 < (0 : Int32) then
    (0 : Int32)
  else
    if (8 : Int32) ≤ a1 then
      (0 : Int32)
    else
      (v0 2 0 a1.toNatClampNeg)

theorem xp_KT_insOf {b : Nat} {r k : Int32} {v : fw_V} (er : r = xf_KT_insOf v k) (hI : xI b v) : vp_in r 3 := by
  rw [er]; unfold xf_KT_insOf
  split
  · exact fw_inc (by decide)
  · split
    · exact fw_inc (by decide)
    · exact hI.1 2 0 _
set_option maxHeartbeats 4000000 in
set_option maxRecDepth 100000 in
theorem xc_KT_insOf (l : Launch) {D : va_G} {cA : Nat → ClassId} {ad : Nat → Nat → Nat} (hD : fw_D xCL ad) {b : Nat} (v0 : fw_V) (hI : xI b v0) (a1 : Int32)  : Met l xy_KT_insOf (Cond.code xy_KT_insOf xb_KT_insOf 2 (some .int) :: vTB) xrm_KT_insOf (fw_Pc vNL D vcls (vtys cA) xCL cA xkd ad v0 [.ref (ad 1 0), .int a1]) (fw_Qo D vcls xCL cA xkd ad v0 (xf_KT_insOf v0 a1)) 0 0 (fw_A xCL ad) := by
  refine Met.ofW (cc := xb_KT_insOf) (maxL := 2) (ret := (some .int)) (by decide) rfl ?_
  intro p e s m args below meth c s₁ B hml hv
  obtain ⟨rfl, hP, hK, hN⟩ := hv
  have hx := B.exec
  have hb := B.bytes
  have hr := B.returns
  have hts : ∀ w ∈ vTB, w.before ([.ref (ad 1 0), .int a1] : List Value).toArray s = true := fun w h => atoms_spec (ws := (Cond.code xy_KT_insOf xb_KT_insOf 2 (some .int) :: vTB)) B.pre w (List.mem_cons_of_mem _ h)
  have hown : s.vm.findClass R_KT = some m.cls := findClass_of_methodNamed B.named
  have hlocks := B.notSynchronized
  have hS : va_S (fw_A xCL ad) s.heap s.heap [] := va_S.rf
  skip
  have hl := lv_entry ([.ref (ad 1 0), .int a1]) (n := 2) (Nat.le_of_ble_eq_true rfl)
  rw [lg_entry_eq]
  generalize (lg_sl ([.ref (ad 1 0), .int a1]) ++ List.replicate (2 - (lg_sl ([.ref (ad 1 0), .int a1])).length) Slot.unset).toArray = ls at hl ⊢
  have hl : lv_has ls 2 [(0, .ref (ad 1 0)), (1, .int a1)] := hl
  refine lv_iload_n hx hb xd_KT_insOf_0 rfl (lv_at hl 1 rfl) ?_
  refine lv_if_lt (tgt := 19) hx hb xd_KT_insOf_1 (by decide) (fun c_1 => ?_) (fun c_1 => ?_)
  · refine lv_iconst (v := (0 : Int32)) hx hb xd_KT_insOf_19 (by decide) ?_
    exact fw_oret hx hb hr hlocks hS hP xd_KT_insOf_20 (by simp only [xf_KT_insOf, if_pos c_1])
  · refine lv_iload_n hx hb xd_KT_insOf_4 rfl (lv_at hl 1 rfl) ?_
    refine lv_bipush (v := (8 : Int32)) hx hb xd_KT_insOf_5 (by decide) ?_
    refine lv_icmp_ge (tgt := 19) hx hb xd_KT_insOf_7 (by decide) (fun c_2 => ?_) (fun c_2 => ?_)
    · refine lv_iconst (v := (0 : Int32)) hx hb xd_KT_insOf_19 (by decide) ?_
      exact fw_oret hx hb hr hlocks hS hP xd_KT_insOf_20 (by simp only [xf_KT_insOf, if_neg c_1, if_pos c_2])
    · have h_3 : vp_in a1 8 := fw_in2 c_1 c_2
      refine lv_aload_n hx hb xd_KT_insOf_10 rfl (lv_at hl 0 rfl) ?_
      refine fw_getr hx hb hts i_KT hown hK hP (xm_1 (by decide)) (xk_1 0) rfl 0 (by decide) (hts _ L_KT_9) (fun _ h9 => h9) rfl xd_KT_insOf_11 ?_
      refine lv_iload_n hx hb xd_KT_insOf_14 rfl (lv_at hl 1 rfl) ?_
      refine fw_iald hx hb hK hP (xm_2 (by decide)) (xk_2 0) 0 rfl (j := a1.toNatClampNeg) rfl h_3 xd_KT_insOf_15 ?_
      have h_4 : vp_in (v0 2 0 a1.toNatClampNeg) 3 := hI.1 2 0 (a1.toNatClampNeg)
      refine lv_goto (tgt := 20) hx hb xd_KT_insOf_16 (by decide) ?_
      exact fw_oret hx hb hr hlocks hS hP xd_KT_insOf_20 (by simp only [xf_KT_insOf, if_neg c_1, if_neg c_2])
def xf_De_copySensed_j3 (v : fw_V) (r : Nat) (k1 : Nat) (a2 : Int32) (x3 : Int32) : fw_V :=
  v
def xf_De_copySensed_j2 (v : fw_V) (r : Nat) (k1 : Nat) (a2 : Int32) (x3 : Int32) : fw_V :=
  if x3 ≤ (1 : Int32) then
    v
  else
    let r10 := xf_FR_place a2 (1 : Int32)
    let r12 := xf_FR_place a2 (1 : Int32)
    let v14 := fw_up v 8 k1 (r10.toNatClampNeg) (v 24 r r12.toNatClampNeg)
    xf_De_copySensed_j3 v14 r k1 a2 (x3)
def xf_De_copySensed_j1 (v : fw_V) (r : Nat) (k1 : Nat) (a2 : Int32) (x3 : Int32) : fw_V :=
  if x3 ≤ (0 : Int32) then
    v
  else
    let r4 := xf_FR_place a2 (0 : Int32)
    let r6 := xf_FR_place a2 (0 : Int32)
    let v8 := fw_up v 8 k1 (r4.toNatClampNeg) (v 24 r r6.toNatClampNeg)
    xf_De_copySensed_j2 v8 r k1 a2 (x3)
def xf_De_copySensed (v0 : fw_V) (r : Nat) (k1 : Nat) (a2 : Int32) : fw_V :=
  let r1 := xf_KT_insOf v0 (v0 23 r a2.toNatClampNeg)
  xf_De_copySensed_j1 v0 r k1 a2 (r1)

set_option maxHeartbeats 4000000 in
set_option maxRecDepth 100000 in
theorem xc_De_copySensed (l : Launch) {D : va_G} {cA : Nat → ClassId} {ad : Nat → Nat → Nat} (hD : fw_D xCL ad) {b : Nat} (v0 : fw_V) (hI : xI b v0) (r : Nat) (hr0 : r < 2) (k1 : Nat) (hk1 : k1 < 18) (a2 : Int32) (hq0 : vp_in a2 3) : Met l xy_De_copySensed (Cond.code xy_De_copySensed xb_De_copySensed 5 none :: vTB) xrm_De_copySensed (fw_Pc vNL D vcls (vtys cA) xCL cA xkd ad v0 [.ref (ad 19 r), .ref (ad 7 k1), .int a2]) (fw_Qv D vcls xCL cA xkd ad (xI b) (xf_De_copySensed v0 r k1 a2)) 0 0 (fw_A xCL ad) := by
  refine Met.ofW (cc := xb_De_copySensed) (maxL := 5) (ret := none) (by decide) rfl ?_
  intro p e s m args below meth c s₁ B hml hv
  obtain ⟨rfl, hP, hK, hN⟩ := hv
  have hx := B.exec
  have hb := B.bytes
  have hr := B.returns
  have hts : ∀ w ∈ vTB, w.before ([.ref (ad 19 r), .ref (ad 7 k1), .int a2] : List Value).toArray s = true := fun w h => atoms_spec (ws := (Cond.code xy_De_copySensed xb_De_copySensed 5 none :: vTB)) B.pre w (List.mem_cons_of_mem _ h)
  have hown : s.vm.findClass R_De = some m.cls := findClass_of_methodNamed B.named
  have hlocks := B.notSynchronized
  have hS : va_S (fw_A xCL ad) s.heap s.heap [] := va_S.rf
  have J3 : ∀ (v : fw_V) (x3 : Int32) (H : Heap) (locs : List Loc) (ls : Array Slot), xf_De_copySensed v0 r k1 a2 = xf_De_copySensed_j3 v r k1 a2 x3 → vp_in a2 3 → vp_in x3 3 → xI b v → va_P D vcls (fw_w xCL cA xkd ad v) H → va_S (fw_A xCL ad) s.heap H locs → lv_has ls 5 [(0, .ref (ad 19 r)), (1, .ref (ad 7 k1)), (2, .int a2), (3, .int x3), (4, .int (2 : Int32))] → W p l e (headSpec (Cond.code xy_De_copySensed xb_De_copySensed 5 none :: vTB) xrm_De_copySensed).room s m ([.ref (ad 19 r), .ref (ad 7 k1), .int a2] : List Value).toArray below meth c H locs 0 0 (MQ below (fw_Qv D vcls xCL cA xkd ad (xI b) (xf_De_copySensed v0 r k1 a2)) ([.ref (ad 19 r), .ref (ad 7 k1), .int a2] : List Value).toArray s 0 0 (fw_A xCL ad)) (F0 m 17 ls []) := by
    intro v x3 H locs ls hj hc0 hc1 hI hP hS hl
    refine lv_iload hx hb xd_De_copySensed_17 (lv_at hl 4 rfl) ?_
    refine lv_iload_n hx hb xd_De_copySensed_19 rfl (lv_at hl 3 rfl) ?_
    refine lv_icmp_ge (tgt := 51) hx hb xd_De_copySensed_20 (by decide) (fun c_15 => ?_) (fun c_15 => absurd (fw_ley hc1 (by decide)) c_15)
    exact fw_vret hx hb hr hlocks hS hP hI xd_De_copySensed_51 (by rw [hj]; simp only [xf_De_copySensed_j3])
  have J2 : ∀ (v : fw_V) (x3 : Int32) (H : Heap) (locs : List Loc) (ls : Array Slot), xf_De_copySensed v0 r k1 a2 = xf_De_copySensed_j2 v r k1 a2 x3 → vp_in a2 3 → vp_in x3 3 → xI b v → va_P D vcls (fw_w xCL cA xkd ad v) H → va_S (fw_A xCL ad) s.heap H locs → lv_has ls 5 [(0, .ref (ad 19 r)), (1, .ref (ad 7 k1)), (2, .int a2), (3, .int x3), (4, .int (1 : Int32))] → W p l e (headSpec (Cond.code xy_De_copySensed xb_De_copySensed 5 none :: vTB) xrm_De_copySensed).room s m ([.ref (ad 19 r), .ref (ad 7 k1), .int a2] : List Value).toArray below meth c H locs 0 0 (MQ below (fw_Qv D vcls xCL cA xkd ad (xI b) (xf_De_copySensed v0 r k1 a2)) ([.ref (ad 19 r), .ref (ad 7 k1), .int a2] : List Value).toArray s 0 0 (fw_A xCL ad)) (F0 m 17 ls []) := by
    intro v x3 H locs ls hj hc0 hc1 hI hP hS hl
    refine lv_iload hx hb xd_De_copySensed_17 (lv_at hl 4 rfl) ?_
    refine lv_iload_n hx hb xd_De_copySensed_19 rfl (lv_at hl 3 rfl) ?_
    refine lv_icmp_ge (tgt := 51) hx hb xd_De_copySensed_20 (by decide) (fun c_9 => ?_) (fun c_9 => ?_)
    · exact fw_vret hx hb hr hlocks hS hP hI xd_De_copySensed_51 (by rw [hj]; simp only [xf_De_copySensed_j2, if_pos c_9])
    · refine lv_aload_n hx hb xd_De_copySensed_23 rfl (lv_at hl 1 rfl) ?_
      refine fw_getr hx hb hts i_Fm hown hK hP (xm_7 (by omega)) (xk_7 k1) rfl 4 (by decide) (hts _ L_De_144) (fun _ h9 => h9) rfl xd_De_copySensed_24 ?_
      refine lv_iload_n hx hb xd_De_copySensed_27 rfl (lv_at hl 2 rfl) ?_
      refine lv_iload hx hb xd_De_copySensed_28 (lv_at hl 4 rfl) ?_
      refine fw_co (va_runSN (As := [.int a2, .int (1 : Int32)]) (rest := [.ref (ad 8 k1)]) ⟨hx, hb, hml, hown, hts⟩ (xc_FR_place l hD v hI a2 (1 : Int32)) (xwn_FR_place hts (hN.2 _ L_De_186) ⟨Nat.le_of_ble_eq_true rfl, Nat.le_of_ble_eq_true rfl⟩) (fw_preS hN hK hP) rfl rfl hl.1 rfl (lv_room (Nat.le_of_ble_eq_true rfl)) xd_De_copySensed_30 ⟨Nat.le_of_ble_eq_true rfl, Nat.le_of_ble_eq_true rfl⟩) hS (fun r10 H locs er10 hP hS => ?_)
      have h_11 : vp_in r10 6 := xp_place er10 hc0 (fw_inc (by decide))
      refine lv_aload_n hx hb xd_De_copySensed_33 rfl (lv_at hl 0 rfl) ?_
      refine fw_getr hx hb hts i_De hown hK hP (xm_19 (by omega)) (xk_19 r) rfl 9 (by decide) (hts _ L_De_33) (fun _ h9 => h9) rfl xd_De_copySensed_34 ?_
      refine lv_iload_n hx hb xd_De_copySensed_37 rfl (lv_at hl 2 rfl) ?_
      refine lv_iload hx hb xd_De_copySensed_38 (lv_at hl 4 rfl) ?_
      refine fw_co (va_runSN (As := [.int a2, .int (1 : Int32)]) (rest := [.ref (ad 24 r), .int r10, .ref (ad 8 k1)]) ⟨hx, hb, hml, hown, hts⟩ (xc_FR_place l hD v hI a2 (1 : Int32)) (xwn_FR_place hts (hN.2 _ L_De_186) ⟨Nat.le_of_ble_eq_true rfl, Nat.le_of_ble_eq_true rfl⟩) (fw_preS hN hK hP) rfl rfl hl.1 rfl (lv_room (Nat.le_of_ble_eq_true rfl)) xd_De_copySensed_40 ⟨Nat.le_of_ble_eq_true rfl, Nat.le_of_ble_eq_true rfl⟩) hS (fun r12 H locs er12 hP hS => ?_)
      have h_13 : vp_in r12 6 := xp_place er12 hc0 (fw_inc (by decide))
      refine fw_iald hx hb hK hP (xm_24 (by omega)) (xk_24 r) 0 rfl (j := r12.toNatClampNeg) rfl h_13 xd_De_copySensed_43 ?_
      refine fw_iast hx hb hK hD hP hS (xm_8 (by omega)) (xk_8 k1) 0 rfl (j := r10.toNatClampNeg) rfl (fw_inm h_11 (by decide)) xd_De_copySensed_44 (fun v14 H locs ev14 hP hS => ?_)
      have hI : xI b v14 := by rw [ev14]; exact xI_up hI trivial trivial
      refine lv_iinc (v := (2 : Int32)) (lv' := [(4, .int (2 : Int32)), (0, .ref (ad 19 r)), (1, .ref (ad 7 k1)), (2, .int a2), (3, .int x3)]) hx hb xd_De_copySensed_45 hl (k := 4) rfl (by decide) (by decide) rfl (fun ls hl => ?_)
      refine lv_goto (tgt := 17) hx hb xd_De_copySensed_48 (by decide) ?_
      exact J3 v14 (x3) _ _ _ (by rw [hj]; subst er10 er12 ev14; simp only [xf_De_copySensed_j2, if_neg c_9]) hc0 hc1  hI hP hS (lv_sub hl [1, 2, 3, 4, 0] rfl)
  have J1 : ∀ (v : fw_V) (x3 : Int32) (H : Heap) (locs : List Loc) (ls : Array Slot), xf_De_copySensed v0 r k1 a2 = xf_De_copySensed_j1 v r k1 a2 x3 → vp_in a2 3 → vp_in x3 3 → xI b v → va_P D vcls (fw_w xCL cA xkd ad v) H → va_S (fw_A xCL ad) s.heap H locs → lv_has ls 5 [(0, .ref (ad 19 r)), (1, .ref (ad 7 k1)), (2, .int a2), (3, .int x3), (4, .int (0 : Int32))] → W p l e (headSpec (Cond.code xy_De_copySensed xb_De_copySensed 5 none :: vTB) xrm_De_copySensed).room s m ([.ref (ad 19 r), .ref (ad 7 k1), .int a2] : List Value).toArray below meth c H locs 0 0 (MQ below (fw_Qv D vcls xCL cA xkd ad (xI b) (xf_De_copySensed v0 r k1 a2)) ([.ref (ad 19 r), .ref (ad 7 k1), .int a2] : List Value).toArray s 0 0 (fw_A xCL ad)) (F0 m 17 ls []) := by
    intro v x3 H locs ls hj hc0 hc1 hI hP hS hl
    clear J3
    refine lv_iload hx hb xd_De_copySensed_17 (lv_at hl 4 rfl) ?_
    refine lv_iload_n hx hb xd_De_copySensed_19 rfl (lv_at hl 3 rfl) ?_
    refine lv_icmp_ge (tgt := 51) hx hb xd_De_copySensed_20 (by decide) (fun c_3 => ?_) (fun c_3 => ?_)
    · exact fw_vret hx hb hr hlocks hS hP hI xd_De_copySensed_51 (by rw [hj]; simp only [xf_De_copySensed_j1, if_pos c_3])
    · refine lv_aload_n hx hb xd_De_copySensed_23 rfl (lv_at hl 1 rfl) ?_
      refine fw_getr hx hb hts i_Fm hown hK hP (xm_7 (by omega)) (xk_7 k1) rfl 4 (by decide) (hts _ L_De_144) (fun _ h9 => h9) rfl xd_De_copySensed_24 ?_
      refine lv_iload_n hx hb xd_De_copySensed_27 rfl (lv_at hl 2 rfl) ?_
      refine lv_iload hx hb xd_De_copySensed_28 (lv_at hl 4 rfl) ?_
      refine fw_co (va_runSN (As := [.int a2, .int (0 : Int32)]) (rest := [.ref (ad 8 k1)]) ⟨hx, hb, hml, hown, hts⟩ (xc_FR_place l hD v hI a2 (0 : Int32)) (xwn_FR_place hts (hN.2 _ L_De_186) ⟨Nat.le_of_ble_eq_true rfl, Nat.le_of_ble_eq_true rfl⟩) (fw_preS hN hK hP) rfl rfl hl.1 rfl (lv_room (Nat.le_of_ble_eq_true rfl)) xd_De_copySensed_30 ⟨Nat.le_of_ble_eq_true rfl, Nat.le_of_ble_eq_true rfl⟩) hS (fun r4 H locs er4 hP hS => ?_)
      have h_5 : vp_in r4 6 := xp_place er4 hc0 (fw_inc (by decide))
      refine lv_aload_n hx hb xd_De_copySensed_33 rfl (lv_at hl 0 rfl) ?_
      refine fw_getr hx hb hts i_De hown hK hP (xm_19 (by omega)) (xk_19 r) rfl 9 (by decide) (hts _ L_De_33) (fun _ h9 => h9) rfl xd_De_copySensed_34 ?_
      refine lv_iload_n hx hb xd_De_copySensed_37 rfl (lv_at hl 2 rfl) ?_
      refine lv_iload hx hb xd_De_copySensed_38 (lv_at hl 4 rfl) ?_
      refine fw_co (va_runSN (As := [.int a2, .int (0 : Int32)]) (rest := [.ref (ad 24 r), .int r4, .ref (ad 8 k1)]) ⟨hx, hb, hml, hown, hts⟩ (xc_FR_place l hD v hI a2 (0 : Int32)) (xwn_FR_place hts (hN.2 _ L_De_186) ⟨Nat.le_of_ble_eq_true rfl, Nat.le_of_ble_eq_true rfl⟩) (fw_preS hN hK hP) rfl rfl hl.1 rfl (lv_room (Nat.le_of_ble_eq_true rfl)) xd_De_copySensed_40 ⟨Nat.le_of_ble_eq_true rfl, Nat.le_of_ble_eq_true rfl⟩) hS (fun r6 H locs er6 hP hS => ?_)
      have h_7 : vp_in r6 6 := xp_place er6 hc0 (fw_inc (by decide))
      refine fw_iald hx hb hK hP (xm_24 (by omega)) (xk_24 r) 0 rfl (j := r6.toNatClampNeg) rfl h_7 xd_De_copySensed_43 ?_
      refine fw_iast hx hb hK hD hP hS (xm_8 (by omega)) (xk_8 k1) 0 rfl (j := r4.toNatClampNeg) rfl (fw_inm h_5 (by decide)) xd_De_copySensed_44 (fun v8 H locs ev8 hP hS => ?_)
      have hI : xI b v8 := by rw [ev8]; exact xI_up hI trivial trivial
      refine lv_iinc (v := (1 : Int32)) (lv' := [(4, .int (1 : Int32)), (0, .ref (ad 19 r)), (1, .ref (ad 7 k1)), (2, .int a2), (3, .int x3)]) hx hb xd_De_copySensed_45 hl (k := 4) rfl (by decide) (by decide) rfl (fun ls hl => ?_)
      refine lv_goto (tgt := 17) hx hb xd_De_copySensed_48 (by decide) ?_
      exact J2 v8 (x3) _ _ _ (by rw [hj]; subst er4 er6 ev8; simp only [xf_De_copySensed_j1, if_neg c_3]) hc0 hc1  hI hP hS (lv_sub hl [1, 2, 3, 4, 0] rfl)
  clear J3 J2
  have hl := lv_entry ([.ref (ad 19 r), .ref (ad 7 k1), .int a2]) (n := 5) (Nat.le_of_ble_eq_true rfl)
  rw [lg_entry_eq]
  generalize (lg_sl ([.ref (ad 19 r), .ref (ad 7 k1), .int a2]) ++ List.replicate (5 - (lg_sl ([.ref (ad 19 r), .ref (ad 7 k1), .int a2])).length) Slot.unset).toArray = ls at hl ⊢
  have hl : lv_has ls 5 [(0, .ref (ad 19 r)), (1, .ref (ad 7 k1)), (2, .int a2)] := hl
  refine lv_aload_n hx hb xd_De_copySensed_0 rfl (lv_at hl 0 rfl) ?_
  refine fw_getr hx hb hts i_De hown hK hP (xm_19 (by omega)) (xk_19 r) rfl 1 (by decide) (hts _ L_De_48) (fun _ h9 => h9) rfl xd_De_copySensed_1 ?_
  refine lv_aload_n hx hb xd_De_copySensed_4 rfl (lv_at hl 0 rfl) ?_
  refine fw_getr hx hb hts i_De hown hK hP (xm_19 (by omega)) (xk_19 r) rfl 8 (by decide) (hts _ L_De_29) (fun _ h9 => h9) rfl xd_De_copySensed_5 ?_
  refine lv_iload_n hx hb xd_De_copySensed_8 rfl (lv_at hl 2 rfl) ?_
  refine fw_iald hx hb hK hP (xm_23 (by omega)) (xk_23 r) 0 rfl (j := a2.toNatClampNeg) rfl hq0 xd_De_copySensed_9 ?_
  refine fw_co (va_runV (As := [.int (v0 23 r a2.toNatClampNeg)]) (rest := []) ⟨hx, hb, hml, hown, hts⟩ (xc_KT_insOf l hD v0 hI (v0 23 r a2.toNatClampNeg)) (xw_KT_insOf hts L_De_219 ⟨Nat.le_of_ble_eq_true rfl, Nat.le_of_ble_eq_true rfl⟩) (fw_preV hN hK hP (xm_1 (by decide)) (xk_1 0) rfl) rfl rfl hl.1 rfl (lv_room (Nat.le_of_ble_eq_true rfl)) xd_De_copySensed_10 ⟨Nat.le_of_ble_eq_true rfl, Nat.le_of_ble_eq_true rfl⟩) hS (fun r1 H locs er1 hP hS => ?_)
  have h_2 : vp_in r1 3 := xp_KT_insOf er1 hI
  refine lv_istore_n (lv' := [(3, .int r1), (0, .ref (ad 19 r)), (1, .ref (ad 7 k1)), (2, .int a2)]) hx hb xd_De_copySensed_13 rfl hl (by decide) rfl (fun ls hl => ?_)
  refine lv_iconst (v := (0 : Int32)) hx hb xd_De_copySensed_14 (by decide) ?_
  refine lv_istore (lv' := [(4, .int (0 : Int32)), (3, .int r1), (0, .ref (ad 19 r)), (1, .ref (ad 7 k1)), (2, .int a2)]) hx hb xd_De_copySensed_15 hl (by decide) rfl (fun ls hl => ?_)
  exact J1 v0 (r1) _ _ _ (by subst er1; simp only [xf_De_copySensed]) hq0 h_2  hI hP hS (lv_sub hl [2, 3, 4, 1, 0] rfl)
def xf_De_sendInput_j7 (v : fw_V) (r : Nat) (k1 : Nat) : fw_V :=
  let v17 := fw_up v 8 k1 (6) (0 : Int32)
  v17
def xf_De_sendInput_j6 (v : fw_V) (r : Nat) (k1 : Nat) : fw_V :=
  xf_De_sendInput_j7 v r (k1)
def xf_De_sendInput_j9 (v : fw_V) (r : Nat) (k1 : Nat) (x2 : Int32) : fw_V :=
  let v21 := fw_up v 8 k1 (6) x2
  v21
def xf_De_sendInput_j8 (v : fw_V) (r : Nat) (k1 : Nat) (x2 : Int32) : fw_V :=
  xf_De_sendInput_j9 v r (k1) (x2)
def xf_De_sendInput_j5 (v : fw_V) (r : Nat) (k1 : Nat) : fw_V :=
  let r14 := xf_De_isGood v (r) (2 : Int32)
  if r14 = (0 : Int32) then
    xf_De_sendInput_j6 v r (k1)
  else
    let r18 := xf_FR_withSlot (0 : Int32) (2 : Int32) (1 : Int32)
    let v19 := xf_De_copySensed v (r) (k1) (2 : Int32)
    xf_De_sendInput_j8 v19 r (k1) (r18)
def xf_De_sendInput_j4 (v : fw_V) (r : Nat) (k1 : Nat) : fw_V :=
  xf_De_sendInput_j5 v r (k1)
def xf_De_sendInput_j11 (v : fw_V) (r : Nat) (k1 : Nat) (x2 : Int32) : fw_V :=
  let r25 := xf_De_isGood v (r) (2 : Int32)
  if r25 = (0 : Int32) then
    xf_De_sendInput_j8 v r (k1) (x2)
  else
    let r27 := xf_FR_withSlot x2 (2 : Int32) (1 : Int32)
    let v28 := xf_De_copySensed v (r) (k1) (2 : Int32)
    xf_De_sendInput_j8 v28 r (k1) (r27)
def xf_De_sendInput_j10 (v : fw_V) (r : Nat) (k1 : Nat) (x2 : Int32) : fw_V :=
  xf_De_sendInput_j11 v r (k1) (x2)
def xf_De_sendInput_j3 (v : fw_V) (r : Nat) (k1 : Nat) : fw_V :=
  let r11 := xf_De_isGood v (r) (1 : Int32)
  if r11 = (0 : Int32) then
    xf_De_sendInput_j4 v r (k1)
  else
    let r22 := xf_FR_withSlot (0 : Int32) (1 : Int32) (1 : Int32)
    let v23 := xf_De_copySensed v (r) (k1) (1 : Int32)
    xf_De_sendInput_j10 v23 r (k1) (r22)
def xf_De_sendInput_j2 (v : fw_V) (r : Nat) (k1 : Nat) : fw_V :=
  xf_De_sendInput_j3 v r (k1)
def xf_De_sendInput_j13 (v : fw_V) (r : Nat) (k1 : Nat) (x2 : Int32) : fw_V :=
  let r32 := xf_De_isGood v (r) (1 : Int32)
  if r32 = (0 : Int32) then
    xf_De_sendInput_j10 v r (k1) (x2)
  else
    let r34 := xf_FR_withSlot x2 (1 : Int32) (1 : Int32)
    let v35 := xf_De_copySensed v (r) (k1) (1 : Int32)
    xf_De_sendInput_j10 v35 r (k1) (r34)
def xf_De_sendInput_j12 (v : fw_V) (r : Nat) (k1 : Nat) (x2 : Int32) : fw_V :=
  xf_De_sendInput_j13 v r (k1) (x2)
def xf_De_sendInput_j1 (v : fw_V) (r : Nat) (k1 : Nat) : fw_V :=
  let r8 := xf_De_isGood v (r) (0 : Int32)
  if r8 = (0 : Int32) then
    xf_De_sendInput_j2 v r (k1)
  else
    let r29 := xf_FR_withSlot (0 : Int32) (0 : Int32) (1 : Int32)
    let v30 := xf_De_copySensed v (r) (k1) (0 : Int32)
    xf_De_sendInput_j12 v30 r (k1) (r29)
def xf_De_sendInput (v0 : fw_V) (r : Nat) : fw_V :=
  let p3 := xf_Cy_nextToSend v0 ((r + 2))
  let r1 := p3.1
  let v2 := p3.2
  let p6 := xf_Wi_send v2 (13 : Int32) (v0 19 r 12) r1 (2 : Int32)
  let y4 := p6.1
  let v5 := p6.2
  xf_De_sendInput_j1 v5 r (y4)

set_option maxHeartbeats 4000000 in
set_option maxRecDepth 100000 in
theorem xc_De_sendInput (l : Launch) {D : va_G} {cA : Nat → ClassId} {ad : Nat → Nat → Nat} (hD : fw_D xCL ad) {b : Nat} (v0 : fw_V) (hI : xI b v0) (r : Nat) (hr0 : r < 2)  : Met l xy_De_sendInput (Cond.code xy_De_sendInput xb_De_sendInput 4 none :: vTB) xrm_De_sendInput (fw_Pc vNL D vcls (vtys cA) xCL cA xkd ad v0 [.ref (ad 19 r)]) (fw_Qv D vcls xCL cA xkd ad (xI b) (xf_De_sendInput v0 r)) 0 0 (fw_A xCL ad) := by
  refine Met.ofW (cc := xb_De_sendInput) (maxL := 4) (ret := none) (by decide) rfl ?_
  intro p e s m args below meth c s₁ B hml hv
  obtain ⟨rfl, hP, hK, hN⟩ := hv
  have hx := B.exec
  have hb := B.bytes
  have hr := B.returns
  have hts : ∀ w ∈ vTB, w.before ([.ref (ad 19 r)] : List Value).toArray s = true := fun w h => atoms_spec (ws := (Cond.code xy_De_sendInput xb_De_sendInput 4 none :: vTB)) B.pre w (List.mem_cons_of_mem _ h)
  have hown : s.vm.findClass R_De = some m.cls := findClass_of_methodNamed B.named
  have hlocks := B.notSynchronized
  have hS : va_S (fw_A xCL ad) s.heap s.heap [] := va_S.rf
  have J7 : ∀ (v : fw_V) (k1 : Nat) (H : Heap) (locs : List Loc) (ls : Array Slot), xf_De_sendInput v0 r = xf_De_sendInput_j7 v r k1 → k1 < 18 → xI b v → va_P D vcls (fw_w xCL cA xkd ad v) H → va_S (fw_A xCL ad) s.heap H locs → lv_has ls 4 [(0, .ref (ad 19 r)), (1, .ref (ad 7 k1)), (2, .int (0 : Int32)), (3, .int (3 : Int32))] → W p l e (headSpec (Cond.code xy_De_sendInput xb_De_sendInput 4 none :: vTB) xrm_De_sendInput).room s m ([.ref (ad 19 r)] : List Value).toArray below meth c H locs 0 0 (MQ below (fw_Qv D vcls xCL cA xkd ad (xI b) (xf_De_sendInput v0 r)) ([.ref (ad 19 r)] : List Value).toArray s 0 0 (fw_A xCL ad)) (F0 m 26 ls []) := by
    intro v k1 H locs ls hj hc0 hI hP hS hl
    refine lv_iload_n hx hb xd_De_sendInput_26 rfl (lv_at hl 3 rfl) ?_
    refine lv_iconst (v := (3 : Int32)) hx hb xd_De_sendInput_27 (by decide) ?_
    refine lv_icmp_ge (tgt := 58) hx hb xd_De_sendInput_28 (by decide) (fun _ => ?_) (fun c_16 => absurd (by decide) c_16)
    refine lv_aload_n hx hb xd_De_sendInput_58 rfl (lv_at hl 1 rfl) ?_
    refine fw_getr hx hb hts i_Fm hown hK hP (xm_7 (by omega)) (xk_7 k1) rfl 4 (by decide) (hts _ L_De_144) (fun _ h9 => h9) rfl xd_De_sendInput_59 ?_
    refine lv_bipush (v := (6 : Int32)) hx hb xd_De_sendInput_62 (by decide) ?_
    refine lv_iload_n hx hb xd_De_sendInput_64 rfl (lv_at hl 2 rfl) ?_
    refine fw_iast hx hb hK hD hP hS (xm_8 (by omega)) (xk_8 k1) 0 rfl (j := 6) (by decide) (fw_inc (by decide)) xd_De_sendInput_65 (fun v17 H locs ev17 hP hS => ?_)
    have hI : xI b v17 := by rw [ev17]; exact xI_up hI trivial trivial
    exact fw_vret hx hb hr hlocks hS hP hI xd_De_sendInput_66 (by rw [hj]; subst ev17; simp only [xf_De_sendInput_j7])
  have J6 : ∀ (v : fw_V) (k1 : Nat) (H : Heap) (locs : List Loc) (ls : Array Slot), xf_De_sendInput v0 r = xf_De_sendInput_j6 v r k1 → k1 < 18 → xI b v → va_P D vcls (fw_w xCL cA xkd ad v) H → va_S (fw_A xCL ad) s.heap H locs → lv_has ls 4 [(0, .ref (ad 19 r)), (1, .ref (ad 7 k1)), (2, .int (0 : Int32)), (3, .int (2 : Int32))] → W p l e (headSpec (Cond.code xy_De_sendInput xb_De_sendInput 4 none :: vTB) xrm_De_sendInput).room s m ([.ref (ad 19 r)] : List Value).toArray below meth c H locs 0 0 (MQ below (fw_Qv D vcls xCL cA xkd ad (xI b) (xf_De_sendInput v0 r)) ([.ref (ad 19 r)] : List Value).toArray s 0 0 (fw_A xCL ad)) (F0 m 52 ls []) := by
    intro v k1 H locs ls hj hc0 hI hP hS hl
    refine lv_iinc (v := (3 : Int32)) (lv' := [(3, .int (3 : Int32)), (0, .ref (ad 19 r)), (1, .ref (ad 7 k1)), (2, .int (0 : Int32))]) hx hb xd_De_sendInput_52 hl (k := 3) rfl (by decide) (by decide) rfl (fun ls hl => ?_)
    refine lv_goto (tgt := 26) hx hb xd_De_sendInput_55 (by decide) ?_
    exact J7 v (k1) _ _ _ (by rw [hj]; simp only [xf_De_sendInput_j6]) (by omega)  hI hP hS (lv_sub hl [1, 2, 3, 0] rfl)
  have J9 : ∀ (v : fw_V) (k1 : Nat) (x2 : Int32) (H : Heap) (locs : List Loc) (ls : Array Slot), xf_De_sendInput v0 r = xf_De_sendInput_j9 v r k1 x2 → k1 < 18 → xI b v → va_P D vcls (fw_w xCL cA xkd ad v) H → va_S (fw_A xCL ad) s.heap H locs → lv_has ls 4 [(0, .ref (ad 19 r)), (1, .ref (ad 7 k1)), (2, .int x2), (3, .int (3 : Int32))] → W p l e (headSpec (Cond.code xy_De_sendInput xb_De_sendInput 4 none :: vTB) xrm_De_sendInput).room s m ([.ref (ad 19 r)] : List Value).toArray below meth c H locs 0 0 (MQ below (fw_Qv D vcls xCL cA xkd ad (xI b) (xf_De_sendInput v0 r)) ([.ref (ad 19 r)] : List Value).toArray s 0 0 (fw_A xCL ad)) (F0 m 26 ls []) := by
    intro v k1 x2 H locs ls hj hc0 hI hP hS hl
    clear J7 J6
    refine lv_iload_n hx hb xd_De_sendInput_26 rfl (lv_at hl 3 rfl) ?_
    refine lv_iconst (v := (3 : Int32)) hx hb xd_De_sendInput_27 (by decide) ?_
    refine lv_icmp_ge (tgt := 58) hx hb xd_De_sendInput_28 (by decide) (fun _ => ?_) (fun c_20 => absurd (by decide) c_20)
    refine lv_aload_n hx hb xd_De_sendInput_58 rfl (lv_at hl 1 rfl) ?_
    refine fw_getr hx hb hts i_Fm hown hK hP (xm_7 (by omega)) (xk_7 k1) rfl 4 (by decide) (hts _ L_De_144) (fun _ h9 => h9) rfl xd_De_sendInput_59 ?_
    refine lv_bipush (v := (6 : Int32)) hx hb xd_De_sendInput_62 (by decide) ?_
    refine lv_iload_n hx hb xd_De_sendInput_64 rfl (lv_at hl 2 rfl) ?_
    refine fw_iast hx hb hK hD hP hS (xm_8 (by omega)) (xk_8 k1) 0 rfl (j := 6) (by decide) (fw_inc (by decide)) xd_De_sendInput_65 (fun v21 H locs ev21 hP hS => ?_)
    have hI : xI b v21 := by rw [ev21]; exact xI_up hI trivial trivial
    exact fw_vret hx hb hr hlocks hS hP hI xd_De_sendInput_66 (by rw [hj]; subst ev21; simp only [xf_De_sendInput_j9])
  have J8 : ∀ (v : fw_V) (k1 : Nat) (x2 : Int32) (H : Heap) (locs : List Loc) (ls : Array Slot), xf_De_sendInput v0 r = xf_De_sendInput_j8 v r k1 x2 → k1 < 18 → xI b v → va_P D vcls (fw_w xCL cA xkd ad v) H → va_S (fw_A xCL ad) s.heap H locs → lv_has ls 4 [(0, .ref (ad 19 r)), (1, .ref (ad 7 k1)), (2, .int x2), (3, .int (2 : Int32))] → W p l e (headSpec (Cond.code xy_De_sendInput xb_De_sendInput 4 none :: vTB) xrm_De_sendInput).room s m ([.ref (ad 19 r)] : List Value).toArray below meth c H locs 0 0 (MQ below (fw_Qv D vcls xCL cA xkd ad (xI b) (xf_De_sendInput v0 r)) ([.ref (ad 19 r)] : List Value).toArray s 0 0 (fw_A xCL ad)) (F0 m 52 ls []) := by
    intro v k1 x2 H locs ls hj hc0 hI hP hS hl
    clear J7 J6
    refine lv_iinc (v := (3 : Int32)) (lv' := [(3, .int (3 : Int32)), (0, .ref (ad 19 r)), (1, .ref (ad 7 k1)), (2, .int x2)]) hx hb xd_De_sendInput_52 hl (k := 3) rfl (by decide) (by decide) rfl (fun ls hl => ?_)
    refine lv_goto (tgt := 26) hx hb xd_De_sendInput_55 (by decide) ?_
    exact J9 v (k1) (x2) _ _ _ (by rw [hj]; simp only [xf_De_sendInput_j8]) (by omega)  hI hP hS (lv_sub hl [1, 2, 3, 0] rfl)
  have J5 : ∀ (v : fw_V) (k1 : Nat) (H : Heap) (locs : List Loc) (ls : Array Slot), xf_De_sendInput v0 r = xf_De_sendInput_j5 v r k1 → k1 < 18 → xI b v → va_P D vcls (fw_w xCL cA xkd ad v) H → va_S (fw_A xCL ad) s.heap H locs → lv_has ls 4 [(0, .ref (ad 19 r)), (1, .ref (ad 7 k1)), (2, .int (0 : Int32)), (3, .int (2 : Int32))] → W p l e (headSpec (Cond.code xy_De_sendInput xb_De_sendInput 4 none :: vTB) xrm_De_sendInput).room s m ([.ref (ad 19 r)] : List Value).toArray below meth c H locs 0 0 (MQ below (fw_Qv D vcls xCL cA xkd ad (xI b) (xf_De_sendInput v0 r)) ([.ref (ad 19 r)] : List Value).toArray s 0 0 (fw_A xCL ad)) (F0 m 26 ls []) := by
    intro v k1 H locs ls hj hc0 hI hP hS hl
    clear J7 J9
    refine lv_iload_n hx hb xd_De_sendInput_26 rfl (lv_at hl 3 rfl) ?_
    refine lv_iconst (v := (3 : Int32)) hx hb xd_De_sendInput_27 (by decide) ?_
    refine lv_icmp_ge (tgt := 58) hx hb xd_De_sendInput_28 (by decide) (fun c_13 => absurd c_13 (by decide)) (fun _ => ?_)
    refine lv_aload_n hx hb xd_De_sendInput_31 rfl (lv_at hl 0 rfl) ?_
    refine lv_iload_n hx hb xd_De_sendInput_32 rfl (lv_at hl 3 rfl) ?_
    refine fw_cb (va_runV (As := [.int (2 : Int32)]) (rest := []) ⟨hx, hb, hml, hown, hts⟩ (xc_De_isGood l hD v hI (r) (by omega) (2 : Int32) (fw_inc (by decide))) (xw_De_isGood hts L_De_164 ⟨Nat.le_of_ble_eq_true rfl, Nat.le_of_ble_eq_true rfl⟩) (fw_preV hN hK hP (xm_19 (by omega)) (xk_19 r) rfl) rfl rfl hl.1 rfl (lv_room (Nat.le_of_ble_eq_true rfl)) xd_De_sendInput_33 ⟨Nat.le_of_ble_eq_true rfl, Nat.le_of_ble_eq_true rfl⟩) hS (fun r14 H locs zr14 er14 hP hS => ?_)
    refine lv_if_eq (tgt := 52) hx hb xd_De_sendInput_36 (by decide) (fun c_15 => ?_) (fun c_15 => ?_)
    · exact J6 v (k1) _ _ _ (by rw [hj]; subst er14; simp only [xf_De_sendInput_j5, if_pos c_15]) (by omega)  hI hP hS (lv_sub hl [0, 1, 2, 3] rfl)
    · refine lv_iload_n hx hb xd_De_sendInput_39 rfl (lv_at hl 2 rfl) ?_
      refine lv_iload_n hx hb xd_De_sendInput_40 rfl (lv_at hl 3 rfl) ?_
      refine lv_iconst (v := (1 : Int32)) hx hb xd_De_sendInput_41 (by decide) ?_
      refine fw_co (va_runSN (As := [.int (0 : Int32), .int (2 : Int32), .int (1 : Int32)]) (rest := []) ⟨hx, hb, hml, hown, hts⟩ (xc_FR_withSlot l hD v hI (0 : Int32) (2 : Int32) (1 : Int32)) (xwn_FR_withSlot hts (hN.2 _ L_De_75) ⟨Nat.le_of_ble_eq_true rfl, Nat.le_of_ble_eq_true rfl⟩) (fw_preS hN hK hP) rfl rfl hl.1 rfl (lv_room (Nat.le_of_ble_eq_true rfl)) xd_De_sendInput_42 ⟨Nat.le_of_ble_eq_true rfl, Nat.le_of_ble_eq_true rfl⟩) hS (fun r18 H locs er18 hP hS => ?_)
      refine lv_istore_n (lv' := [(2, .int r18), (0, .ref (ad 19 r)), (1, .ref (ad 7 k1)), (3, .int (2 : Int32))]) hx hb xd_De_sendInput_45 rfl hl (by decide) rfl (fun ls hl => ?_)
      refine lv_aload_n hx hb xd_De_sendInput_46 rfl (lv_at hl 1 rfl) ?_
      refine lv_aload_n hx hb xd_De_sendInput_47 rfl (lv_at hl 2 rfl) ?_
      refine lv_iload_n hx hb xd_De_sendInput_48 rfl (lv_at hl 3 rfl) ?_
      refine fw_cv (va_runV (As := [.ref (ad 7 k1), .int (2 : Int32)]) (rest := []) ⟨hx, hb, hml, hown, hts⟩ (xc_De_copySensed l hD v hI (r) (by omega) (k1) (by omega) (2 : Int32) (fw_inc (by decide))) (xw_De_copySensed hts L_De_216 ⟨Nat.le_of_ble_eq_true rfl, Nat.le_of_ble_eq_true rfl⟩) (fw_preV hN hK hP (xm_19 (by omega)) (xk_19 r) rfl) rfl rfl hl.1 rfl (lv_room (Nat.le_of_ble_eq_true rfl)) xd_De_sendInput_49 ⟨Nat.le_of_ble_eq_true rfl, Nat.le_of_ble_eq_true rfl⟩) hS (fun v19 H locs ev19 hI hP hS => ?_)
      exact J8 v19 (k1) (r18) _ _ _ (by rw [hj]; subst er14 er18 ev19; simp only [xf_De_sendInput_j5, if_neg c_15]) (by omega)  hI hP hS (lv_sub hl [1, 2, 0, 3] rfl)
  have J4 : ∀ (v : fw_V) (k1 : Nat) (H : Heap) (locs : List Loc) (ls : Array Slot), xf_De_sendInput v0 r = xf_De_sendInput_j4 v r k1 → k1 < 18 → xI b v → va_P D vcls (fw_w xCL cA xkd ad v) H → va_S (fw_A xCL ad) s.heap H locs → lv_has ls 4 [(0, .ref (ad 19 r)), (1, .ref (ad 7 k1)), (2, .int (0 : Int32)), (3, .int (1 : Int32))] → W p l e (headSpec (Cond.code xy_De_sendInput xb_De_sendInput 4 none :: vTB) xrm_De_sendInput).room s m ([.ref (ad 19 r)] : List Value).toArray below meth c H locs 0 0 (MQ below (fw_Qv D vcls xCL cA xkd ad (xI b) (xf_De_sendInput v0 r)) ([.ref (ad 19 r)] : List Value).toArray s 0 0 (fw_A xCL ad)) (F0 m 52 ls []) := by
    intro v k1 H locs ls hj hc0 hI hP hS hl
    clear J7 J6 J9 J8
    refine lv_iinc (v := (2 : Int32)) (lv' := [(3, .int (2 : Int32)), (0, .ref (ad 19 r)), (1, .ref (ad 7 k1)), (2, .int (0 : Int32))]) hx hb xd_De_sendInput_52 hl (k := 3) rfl (by decide) (by decide) rfl (fun ls hl => ?_)
    refine lv_goto (tgt := 26) hx hb xd_De_sendInput_55 (by decide) ?_
    exact J5 v (k1) _ _ _ (by rw [hj]; simp only [xf_De_sendInput_j4]) (by omega)  hI hP hS (lv_sub hl [1, 2, 3, 0] rfl)
  have J11 : ∀ (v : fw_V) (k1 : Nat) (x2 : Int32) (H : Heap) (locs : List Loc) (ls : Array Slot), xf_De_sendInput v0 r = xf_De_sendInput_j11 v r k1 x2 → k1 < 18 → xI b v → va_P D vcls (fw_w xCL cA xkd ad v) H → va_S (fw_A xCL ad) s.heap H locs → lv_has ls 4 [(0, .ref (ad 19 r)), (1, .ref (ad 7 k1)), (2, .int x2), (3, .int (2 : Int32))] → W p l e (headSpec (Cond.code xy_De_sendInput xb_De_sendInput 4 none :: vTB) xrm_De_sendInput).room s m ([.ref (ad 19 r)] : List Value).toArray below meth c H locs 0 0 (MQ below (fw_Qv D vcls xCL cA xkd ad (xI b) (xf_De_sendInput v0 r)) ([.ref (ad 19 r)] : List Value).toArray s 0 0 (fw_A xCL ad)) (F0 m 26 ls []) := by
    intro v k1 x2 H locs ls hj hc0 hI hP hS hl
    clear J7 J6 J9 J5 J4
    refine lv_iload_n hx hb xd_De_sendInput_26 rfl (lv_at hl 3 rfl) ?_
    refine lv_iconst (v := (3 : Int32)) hx hb xd_De_sendInput_27 (by decide) ?_
    refine lv_icmp_ge (tgt := 58) hx hb xd_De_sendInput_28 (by decide) (fun c_24 => absurd c_24 (by decide)) (fun _ => ?_)
    refine lv_aload_n hx hb xd_De_sendInput_31 rfl (lv_at hl 0 rfl) ?_
    refine lv_iload_n hx hb xd_De_sendInput_32 rfl (lv_at hl 3 rfl) ?_
    refine fw_cb (va_runV (As := [.int (2 : Int32)]) (rest := []) ⟨hx, hb, hml, hown, hts⟩ (xc_De_isGood l hD v hI (r) (by omega) (2 : Int32) (fw_inc (by decide))) (xw_De_isGood hts L_De_164 ⟨Nat.le_of_ble_eq_true rfl, Nat.le_of_ble_eq_true rfl⟩) (fw_preV hN hK hP (xm_19 (by omega)) (xk_19 r) rfl) rfl rfl hl.1 rfl (lv_room (Nat.le_of_ble_eq_true rfl)) xd_De_sendInput_33 ⟨Nat.le_of_ble_eq_true rfl, Nat.le_of_ble_eq_true rfl⟩) hS (fun r25 H locs zr25 er25 hP hS => ?_)
    refine lv_if_eq (tgt := 52) hx hb xd_De_sendInput_36 (by decide) (fun c_26 => ?_) (fun c_26 => ?_)
    · exact J8 v (k1) (x2) _ _ _ (by rw [hj]; subst er25; simp only [xf_De_sendInput_j11, if_pos c_26]) (by omega)  hI hP hS (lv_sub hl [0, 1, 2, 3] rfl)
    · refine lv_iload_n hx hb xd_De_sendInput_39 rfl (lv_at hl 2 rfl) ?_
      refine lv_iload_n hx hb xd_De_sendInput_40 rfl (lv_at hl 3 rfl) ?_
      refine lv_iconst (v := (1 : Int32)) hx hb xd_De_sendInput_41 (by decide) ?_
      refine fw_co (va_runSN (As := [.int x2, .int (2 : Int32), .int (1 : Int32)]) (rest := []) ⟨hx, hb, hml, hown, hts⟩ (xc_FR_withSlot l hD v hI x2 (2 : Int32) (1 : Int32)) (xwn_FR_withSlot hts (hN.2 _ L_De_75) ⟨Nat.le_of_ble_eq_true rfl, Nat.le_of_ble_eq_true rfl⟩) (fw_preS hN hK hP) rfl rfl hl.1 rfl (lv_room (Nat.le_of_ble_eq_true rfl)) xd_De_sendInput_42 ⟨Nat.le_of_ble_eq_true rfl, Nat.le_of_ble_eq_true rfl⟩) hS (fun r27 H locs er27 hP hS => ?_)
      refine lv_istore_n (lv' := [(2, .int r27), (0, .ref (ad 19 r)), (1, .ref (ad 7 k1)), (3, .int (2 : Int32))]) hx hb xd_De_sendInput_45 rfl hl (by decide) rfl (fun ls hl => ?_)
      refine lv_aload_n hx hb xd_De_sendInput_46 rfl (lv_at hl 1 rfl) ?_
      refine lv_aload_n hx hb xd_De_sendInput_47 rfl (lv_at hl 2 rfl) ?_
      refine lv_iload_n hx hb xd_De_sendInput_48 rfl (lv_at hl 3 rfl) ?_
      refine fw_cv (va_runV (As := [.ref (ad 7 k1), .int (2 : Int32)]) (rest := []) ⟨hx, hb, hml, hown, hts⟩ (xc_De_copySensed l hD v hI (r) (by omega) (k1) (by omega) (2 : Int32) (fw_inc (by decide))) (xw_De_copySensed hts L_De_216 ⟨Nat.le_of_ble_eq_true rfl, Nat.le_of_ble_eq_true rfl⟩) (fw_preV hN hK hP (xm_19 (by omega)) (xk_19 r) rfl) rfl rfl hl.1 rfl (lv_room (Nat.le_of_ble_eq_true rfl)) xd_De_sendInput_49 ⟨Nat.le_of_ble_eq_true rfl, Nat.le_of_ble_eq_true rfl⟩) hS (fun v28 H locs ev28 hI hP hS => ?_)
      exact J8 v28 (k1) (r27) _ _ _ (by rw [hj]; subst er25 er27 ev28; simp only [xf_De_sendInput_j11, if_neg c_26]) (by omega)  hI hP hS (lv_sub hl [1, 2, 0, 3] rfl)
  have J10 : ∀ (v : fw_V) (k1 : Nat) (x2 : Int32) (H : Heap) (locs : List Loc) (ls : Array Slot), xf_De_sendInput v0 r = xf_De_sendInput_j10 v r k1 x2 → k1 < 18 → xI b v → va_P D vcls (fw_w xCL cA xkd ad v) H → va_S (fw_A xCL ad) s.heap H locs → lv_has ls 4 [(0, .ref (ad 19 r)), (1, .ref (ad 7 k1)), (2, .int x2), (3, .int (1 : Int32))] → W p l e (headSpec (Cond.code xy_De_sendInput xb_De_sendInput 4 none :: vTB) xrm_De_sendInput).room s m ([.ref (ad 19 r)] : List Value).toArray below meth c H locs 0 0 (MQ below (fw_Qv D vcls xCL cA xkd ad (xI b) (xf_De_sendInput v0 r)) ([.ref (ad 19 r)] : List Value).toArray s 0 0 (fw_A xCL ad)) (F0 m 52 ls []) := by
    intro v k1 x2 H locs ls hj hc0 hI hP hS hl
    clear J7 J6 J9 J8 J5 J4
    refine lv_iinc (v := (2 : Int32)) (lv' := [(3, .int (2 : Int32)), (0, .ref (ad 19 r)), (1, .ref (ad 7 k1)), (2, .int x2)]) hx hb xd_De_sendInput_52 hl (k := 3) rfl (by decide) (by decide) rfl (fun ls hl => ?_)
    refine lv_goto (tgt := 26) hx hb xd_De_sendInput_55 (by decide) ?_
    exact J11 v (k1) (x2) _ _ _ (by rw [hj]; simp only [xf_De_sendInput_j10]) (by omega)  hI hP hS (lv_sub hl [1, 2, 3, 0] rfl)
  have J3 : ∀ (v : fw_V) (k1 : Nat) (H : Heap) (locs : List Loc) (ls : Array Slot), xf_De_sendInput v0 r = xf_De_sendInput_j3 v r k1 → k1 < 18 → xI b v → va_P D vcls (fw_w xCL cA xkd ad v) H → va_S (fw_A xCL ad) s.heap H locs → lv_has ls 4 [(0, .ref (ad 19 r)), (1, .ref (ad 7 k1)), (2, .int (0 : Int32)), (3, .int (1 : Int32))] → W p l e (headSpec (Cond.code xy_De_sendInput xb_De_sendInput 4 none :: vTB) xrm_De_sendInput).room s m ([.ref (ad 19 r)] : List Value).toArray below meth c H locs 0 0 (MQ below (fw_Qv D vcls xCL cA xkd ad (xI b) (xf_De_sendInput v0 r)) ([.ref (ad 19 r)] : List Value).toArray s 0 0 (fw_A xCL ad)) (F0 m 26 ls []) := by
    intro v k1 H locs ls hj hc0 hI hP hS hl
    clear J7 J6 J9 J8 J5 J11
    refine lv_iload_n hx hb xd_De_sendInput_26 rfl (lv_at hl 3 rfl) ?_
    refine lv_iconst (v := (3 : Int32)) hx hb xd_De_sendInput_27 (by decide) ?_
    refine lv_icmp_ge (tgt := 58) hx hb xd_De_sendInput_28 (by decide) (fun c_10 => absurd c_10 (by decide)) (fun _ => ?_)
    refine lv_aload_n hx hb xd_De_sendInput_31 rfl (lv_at hl 0 rfl) ?_
    refine lv_iload_n hx hb xd_De_sendInput_32 rfl (lv_at hl 3 rfl) ?_
    refine fw_cb (va_runV (As := [.int (1 : Int32)]) (rest := []) ⟨hx, hb, hml, hown, hts⟩ (xc_De_isGood l hD v hI (r) (by omega) (1 : Int32) (fw_inc (by decide))) (xw_De_isGood hts L_De_164 ⟨Nat.le_of_ble_eq_true rfl, Nat.le_of_ble_eq_true rfl⟩) (fw_preV hN hK hP (xm_19 (by omega)) (xk_19 r) rfl) rfl rfl hl.1 rfl (lv_room (Nat.le_of_ble_eq_true rfl)) xd_De_sendInput_33 ⟨Nat.le_of_ble_eq_true rfl, Nat.le_of_ble_eq_true rfl⟩) hS (fun r11 H locs zr11 er11 hP hS => ?_)
    refine lv_if_eq (tgt := 52) hx hb xd_De_sendInput_36 (by decide) (fun c_12 => ?_) (fun c_12 => ?_)
    · exact J4 v (k1) _ _ _ (by rw [hj]; subst er11; simp only [xf_De_sendInput_j3, if_pos c_12]) (by omega)  hI hP hS (lv_sub hl [0, 1, 2, 3] rfl)
    · refine lv_iload_n hx hb xd_De_sendInput_39 rfl (lv_at hl 2 rfl) ?_
      refine lv_iload_n hx hb xd_De_sendInput_40 rfl (lv_at hl 3 rfl) ?_
      refine lv_iconst (v := (1 : Int32)) hx hb xd_De_sendInput_41 (by decide) ?_
      refine fw_co (va_runSN (As := [.int (0 : Int32), .int (1 : Int32), .int (1 : Int32)]) (rest := []) ⟨hx, hb, hml, hown, hts⟩ (xc_FR_withSlot l hD v hI (0 : Int32) (1 : Int32) (1 : Int32)) (xwn_FR_withSlot hts (hN.2 _ L_De_75) ⟨Nat.le_of_ble_eq_true rfl, Nat.le_of_ble_eq_true rfl⟩) (fw_preS hN hK hP) rfl rfl hl.1 rfl (lv_room (Nat.le_of_ble_eq_true rfl)) xd_De_sendInput_42 ⟨Nat.le_of_ble_eq_true rfl, Nat.le_of_ble_eq_true rfl⟩) hS (fun r22 H locs er22 hP hS => ?_)
      refine lv_istore_n (lv' := [(2, .int r22), (0, .ref (ad 19 r)), (1, .ref (ad 7 k1)), (3, .int (1 : Int32))]) hx hb xd_De_sendInput_45 rfl hl (by decide) rfl (fun ls hl => ?_)
      refine lv_aload_n hx hb xd_De_sendInput_46 rfl (lv_at hl 1 rfl) ?_
      refine lv_aload_n hx hb xd_De_sendInput_47 rfl (lv_at hl 2 rfl) ?_
      refine lv_iload_n hx hb xd_De_sendInput_48 rfl (lv_at hl 3 rfl) ?_
      refine fw_cv (va_runV (As := [.ref (ad 7 k1), .int (1 : Int32)]) (rest := []) ⟨hx, hb, hml, hown, hts⟩ (xc_De_copySensed l hD v hI (r) (by omega) (k1) (by omega) (1 : Int32) (fw_inc (by decide))) (xw_De_copySensed hts L_De_216 ⟨Nat.le_of_ble_eq_true rfl, Nat.le_of_ble_eq_true rfl⟩) (fw_preV hN hK hP (xm_19 (by omega)) (xk_19 r) rfl) rfl rfl hl.1 rfl (lv_room (Nat.le_of_ble_eq_true rfl)) xd_De_sendInput_49 ⟨Nat.le_of_ble_eq_true rfl, Nat.le_of_ble_eq_true rfl⟩) hS (fun v23 H locs ev23 hI hP hS => ?_)
      exact J10 v23 (k1) (r22) _ _ _ (by rw [hj]; subst er11 er22 ev23; simp only [xf_De_sendInput_j3, if_neg c_12]) (by omega)  hI hP hS (lv_sub hl [1, 2, 0, 3] rfl)
  have J2 : ∀ (v : fw_V) (k1 : Nat) (H : Heap) (locs : List Loc) (ls : Array Slot), xf_De_sendInput v0 r = xf_De_sendInput_j2 v r k1 → k1 < 18 → xI b v → va_P D vcls (fw_w xCL cA xkd ad v) H → va_S (fw_A xCL ad) s.heap H locs → lv_has ls 4 [(0, .ref (ad 19 r)), (1, .ref (ad 7 k1)), (2, .int (0 : Int32)), (3, .int (0 : Int32))] → W p l e (headSpec (Cond.code xy_De_sendInput xb_De_sendInput 4 none :: vTB) xrm_De_sendInput).room s m ([.ref (ad 19 r)] : List Value).toArray below meth c H locs 0 0 (MQ below (fw_Qv D vcls xCL cA xkd ad (xI b) (xf_De_sendInput v0 r)) ([.ref (ad 19 r)] : List Value).toArray s 0 0 (fw_A xCL ad)) (F0 m 52 ls []) := by
    intro v k1 H locs ls hj hc0 hI hP hS hl
    clear J7 J6 J9 J8 J5 J4 J11 J10
    refine lv_iinc (v := (1 : Int32)) (lv' := [(3, .int (1 : Int32)), (0, .ref (ad 19 r)), (1, .ref (ad 7 k1)), (2, .int (0 : Int32))]) hx hb xd_De_sendInput_52 hl (k := 3) rfl (by decide) (by decide) rfl (fun ls hl => ?_)
    refine lv_goto (tgt := 26) hx hb xd_De_sendInput_55 (by decide) ?_
    exact J3 v (k1) _ _ _ (by rw [hj]; simp only [xf_De_sendInput_j2]) (by omega)  hI hP hS (lv_sub hl [1, 2, 3, 0] rfl)
  have J13 : ∀ (v : fw_V) (k1 : Nat) (x2 : Int32) (H : Heap) (locs : List Loc) (ls : Array Slot), xf_De_sendInput v0 r = xf_De_sendInput_j13 v r k1 x2 → k1 < 18 → xI b v → va_P D vcls (fw_w xCL cA xkd ad v) H → va_S (fw_A xCL ad) s.heap H locs → lv_has ls 4 [(0, .ref (ad 19 r)), (1, .ref (ad 7 k1)), (2, .int x2), (3, .int (1 : Int32))] → W p l e (headSpec (Cond.code xy_De_sendInput xb_De_sendInput 4 none :: vTB) xrm_De_sendInput).room s m ([.ref (ad 19 r)] : List Value).toArray below meth c H locs 0 0 (MQ below (fw_Qv D vcls xCL cA xkd ad (xI b) (xf_De_sendInput v0 r)) ([.ref (ad 19 r)] : List Value).toArray s 0 0 (fw_A xCL ad)) (F0 m 26 ls []) := by
    intro v k1 x2 H locs ls hj hc0 hI hP hS hl
    clear J7 J6 J9 J8 J5 J4 J11 J3 J2
    refine lv_iload_n hx hb xd_De_sendInput_26 rfl (lv_at hl 3 rfl) ?_
    refine lv_iconst (v := (3 : Int32)) hx hb xd_De_sendInput_27 (by decide) ?_
    refine lv_icmp_ge (tgt := 58) hx hb xd_De_sendInput_28 (by decide) (fun c_31 => absurd c_31 (by decide)) (fun _ => ?_)
    refine lv_aload_n hx hb xd_De_sendInput_31 rfl (lv_at hl 0 rfl) ?_
    refine lv_iload_n hx hb xd_De_sendInput_32 rfl (lv_at hl 3 rfl) ?_
    refine fw_cb (va_runV (As := [.int (1 : Int32)]) (rest := []) ⟨hx, hb, hml, hown, hts⟩ (xc_De_isGood l hD v hI (r) (by omega) (1 : Int32) (fw_inc (by decide))) (xw_De_isGood hts L_De_164 ⟨Nat.le_of_ble_eq_true rfl, Nat.le_of_ble_eq_true rfl⟩) (fw_preV hN hK hP (xm_19 (by omega)) (xk_19 r) rfl) rfl rfl hl.1 rfl (lv_room (Nat.le_of_ble_eq_true rfl)) xd_De_sendInput_33 ⟨Nat.le_of_ble_eq_true rfl, Nat.le_of_ble_eq_true rfl⟩) hS (fun r32 H locs zr32 er32 hP hS => ?_)
    refine lv_if_eq (tgt := 52) hx hb xd_De_sendInput_36 (by decide) (fun c_33 => ?_) (fun c_33 => ?_)
    · exact J10 v (k1) (x2) _ _ _ (by rw [hj]; subst er32; simp only [xf_De_sendInput_j13, if_pos c_33]) (by omega)  hI hP hS (lv_sub hl [0, 1, 2, 3] rfl)
    · refine lv_iload_n hx hb xd_De_sendInput_39 rfl (lv_at hl 2 rfl) ?_
      refine lv_iload_n hx hb xd_De_sendInput_40 rfl (lv_at hl 3 rfl) ?_
      refine lv_iconst (v := (1 : Int32)) hx hb xd_De_sendInput_41 (by decide) ?_
      refine fw_co (va_runSN (As := [.int x2, .int (1 : Int32), .int (1 : Int32)]) (rest := []) ⟨hx, hb, hml, hown, hts⟩ (xc_FR_withSlot l hD v hI x2 (1 : Int32) (1 : Int32)) (xwn_FR_withSlot hts (hN.2 _ L_De_75) ⟨Nat.le_of_ble_eq_true rfl, Nat.le_of_ble_eq_true rfl⟩) (fw_preS hN hK hP) rfl rfl hl.1 rfl (lv_room (Nat.le_of_ble_eq_true rfl)) xd_De_sendInput_42 ⟨Nat.le_of_ble_eq_true rfl, Nat.le_of_ble_eq_true rfl⟩) hS (fun r34 H locs er34 hP hS => ?_)
      refine lv_istore_n (lv' := [(2, .int r34), (0, .ref (ad 19 r)), (1, .ref (ad 7 k1)), (3, .int (1 : Int32))]) hx hb xd_De_sendInput_45 rfl hl (by decide) rfl (fun ls hl => ?_)
      refine lv_aload_n hx hb xd_De_sendInput_46 rfl (lv_at hl 1 rfl) ?_
      refine lv_aload_n hx hb xd_De_sendInput_47 rfl (lv_at hl 2 rfl) ?_
      refine lv_iload_n hx hb xd_De_sendInput_48 rfl (lv_at hl 3 rfl) ?_
      refine fw_cv (va_runV (As := [.ref (ad 7 k1), .int (1 : Int32)]) (rest := []) ⟨hx, hb, hml, hown, hts⟩ (xc_De_copySensed l hD v hI (r) (by omega) (k1) (by omega) (1 : Int32) (fw_inc (by decide))) (xw_De_copySensed hts L_De_216 ⟨Nat.le_of_ble_eq_true rfl, Nat.le_of_ble_eq_true rfl⟩) (fw_preV hN hK hP (xm_19 (by omega)) (xk_19 r) rfl) rfl rfl hl.1 rfl (lv_room (Nat.le_of_ble_eq_true rfl)) xd_De_sendInput_49 ⟨Nat.le_of_ble_eq_true rfl, Nat.le_of_ble_eq_true rfl⟩) hS (fun v35 H locs ev35 hI hP hS => ?_)
      exact J10 v35 (k1) (r34) _ _ _ (by rw [hj]; subst er32 er34 ev35; simp only [xf_De_sendInput_j13, if_neg c_33]) (by omega)  hI hP hS (lv_sub hl [1, 2, 0, 3] rfl)
  have J12 : ∀ (v : fw_V) (k1 : Nat) (x2 : Int32) (H : Heap) (locs : List Loc) (ls : Array Slot), xf_De_sendInput v0 r = xf_De_sendInput_j12 v r k1 x2 → k1 < 18 → xI b v → va_P D vcls (fw_w xCL cA xkd ad v) H → va_S (fw_A xCL ad) s.heap H locs → lv_has ls 4 [(0, .ref (ad 19 r)), (1, .ref (ad 7 k1)), (2, .int x2), (3, .int (0 : Int32))] → W p l e (headSpec (Cond.code xy_De_sendInput xb_De_sendInput 4 none :: vTB) xrm_De_sendInput).room s m ([.ref (ad 19 r)] : List Value).toArray below meth c H locs 0 0 (MQ below (fw_Qv D vcls xCL cA xkd ad (xI b) (xf_De_sendInput v0 r)) ([.ref (ad 19 r)] : List Value).toArray s 0 0 (fw_A xCL ad)) (F0 m 52 ls []) := by
    intro v k1 x2 H locs ls hj hc0 hI hP hS hl
    clear J7 J6 J9 J8 J5 J4 J11 J10 J3 J2
    refine lv_iinc (v := (1 : Int32)) (lv' := [(3, .int (1 : Int32)), (0, .ref (ad 19 r)), (1, .ref (ad 7 k1)), (2, .int x2)]) hx hb xd_De_sendInput_52 hl (k := 3) rfl (by decide) (by decide) rfl (fun ls hl => ?_)
    refine lv_goto (tgt := 26) hx hb xd_De_sendInput_55 (by decide) ?_
    exact J13 v (k1) (x2) _ _ _ (by rw [hj]; simp only [xf_De_sendInput_j12]) (by omega)  hI hP hS (lv_sub hl [1, 2, 3, 0] rfl)
  have J1 : ∀ (v : fw_V) (k1 : Nat) (H : Heap) (locs : List Loc) (ls : Array Slot), xf_De_sendInput v0 r = xf_De_sendInput_j1 v r k1 → k1 < 18 → xI b v → va_P D vcls (fw_w xCL cA xkd ad v) H → va_S (fw_A xCL ad) s.heap H locs → lv_has ls 4 [(0, .ref (ad 19 r)), (1, .ref (ad 7 k1)), (2, .int (0 : Int32)), (3, .int (0 : Int32))] → W p l e (headSpec (Cond.code xy_De_sendInput xb_De_sendInput 4 none :: vTB) xrm_De_sendInput).room s m ([.ref (ad 19 r)] : List Value).toArray below meth c H locs 0 0 (MQ below (fw_Qv D vcls xCL cA xkd ad (xI b) (xf_De_sendInput v0 r)) ([.ref (ad 19 r)] : List Value).toArray s 0 0 (fw_A xCL ad)) (F0 m 26 ls []) := by
    intro v k1 H locs ls hj hc0 hI hP hS hl
    clear J7 J6 J9 J8 J5 J4 J11 J10 J3 J13
    refine lv_iload_n hx hb xd_De_sendInput_26 rfl (lv_at hl 3 rfl) ?_
    refine lv_iconst (v := (3 : Int32)) hx hb xd_De_sendInput_27 (by decide) ?_
    refine lv_icmp_ge (tgt := 58) hx hb xd_De_sendInput_28 (by decide) (fun c_7 => absurd c_7 (by decide)) (fun _ => ?_)
    refine lv_aload_n hx hb xd_De_sendInput_31 rfl (lv_at hl 0 rfl) ?_
    refine lv_iload_n hx hb xd_De_sendInput_32 rfl (lv_at hl 3 rfl) ?_
    refine fw_cb (va_runV (As := [.int (0 : Int32)]) (rest := []) ⟨hx, hb, hml, hown, hts⟩ (xc_De_isGood l hD v hI (r) (by omega) (0 : Int32) (fw_inc (by decide))) (xw_De_isGood hts L_De_164 ⟨Nat.le_of_ble_eq_true rfl, Nat.le_of_ble_eq_true rfl⟩) (fw_preV hN hK hP (xm_19 (by omega)) (xk_19 r) rfl) rfl rfl hl.1 rfl (lv_room (Nat.le_of_ble_eq_true rfl)) xd_De_sendInput_33 ⟨Nat.le_of_ble_eq_true rfl, Nat.le_of_ble_eq_true rfl⟩) hS (fun r8 H locs zr8 er8 hP hS => ?_)
    refine lv_if_eq (tgt := 52) hx hb xd_De_sendInput_36 (by decide) (fun c_9 => ?_) (fun c_9 => ?_)
    · exact J2 v (k1) _ _ _ (by rw [hj]; subst er8; simp only [xf_De_sendInput_j1, if_pos c_9]) (by omega)  hI hP hS (lv_sub hl [0, 1, 2, 3] rfl)
    · refine lv_iload_n hx hb xd_De_sendInput_39 rfl (lv_at hl 2 rfl) ?_
      refine lv_iload_n hx hb xd_De_sendInput_40 rfl (lv_at hl 3 rfl) ?_
      refine lv_iconst (v := (1 : Int32)) hx hb xd_De_sendInput_41 (by decide) ?_
      refine fw_co (va_runSN (As := [.int (0 : Int32), .int (0 : Int32), .int (1 : Int32)]) (rest := []) ⟨hx, hb, hml, hown, hts⟩ (xc_FR_withSlot l hD v hI (0 : Int32) (0 : Int32) (1 : Int32)) (xwn_FR_withSlot hts (hN.2 _ L_De_75) ⟨Nat.le_of_ble_eq_true rfl, Nat.le_of_ble_eq_true rfl⟩) (fw_preS hN hK hP) rfl rfl hl.1 rfl (lv_room (Nat.le_of_ble_eq_true rfl)) xd_De_sendInput_42 ⟨Nat.le_of_ble_eq_true rfl, Nat.le_of_ble_eq_true rfl⟩) hS (fun r29 H locs er29 hP hS => ?_)
      refine lv_istore_n (lv' := [(2, .int r29), (0, .ref (ad 19 r)), (1, .ref (ad 7 k1)), (3, .int (0 : Int32))]) hx hb xd_De_sendInput_45 rfl hl (by decide) rfl (fun ls hl => ?_)
      refine lv_aload_n hx hb xd_De_sendInput_46 rfl (lv_at hl 1 rfl) ?_
      refine lv_aload_n hx hb xd_De_sendInput_47 rfl (lv_at hl 2 rfl) ?_
      refine lv_iload_n hx hb xd_De_sendInput_48 rfl (lv_at hl 3 rfl) ?_
      refine fw_cv (va_runV (As := [.ref (ad 7 k1), .int (0 : Int32)]) (rest := []) ⟨hx, hb, hml, hown, hts⟩ (xc_De_copySensed l hD v hI (r) (by omega) (k1) (by omega) (0 : Int32) (fw_inc (by decide))) (xw_De_copySensed hts L_De_216 ⟨Nat.le_of_ble_eq_true rfl, Nat.le_of_ble_eq_true rfl⟩) (fw_preV hN hK hP (xm_19 (by omega)) (xk_19 r) rfl) rfl rfl hl.1 rfl (lv_room (Nat.le_of_ble_eq_true rfl)) xd_De_sendInput_49 ⟨Nat.le_of_ble_eq_true rfl, Nat.le_of_ble_eq_true rfl⟩) hS (fun v30 H locs ev30 hI hP hS => ?_)
      exact J12 v30 (k1) (r29) _ _ _ (by rw [hj]; subst er8 er29 ev30; simp only [xf_De_sendInput_j1, if_neg c_9]) (by omega)  hI hP hS (lv_sub hl [1, 2, 0, 3] rfl)
  clear J7 J6 J9 J8 J5 J4 J11 J10 J3 J2 J13 J12
  have hl := lv_entry ([.ref (ad 19 r)]) (n := 4) (Nat.le_of_ble_eq_true rfl)
  rw [lg_entry_eq]
  generalize (lg_sl ([.ref (ad 19 r)]) ++ List.replicate (4 - (lg_sl ([.ref (ad 19 r)])).length) Slot.unset).toArray = ls at hl ⊢
  have hl : lv_has ls 4 [(0, .ref (ad 19 r))] := hl
  refine lv_aload_n hx hb xd_De_sendInput_0 rfl (lv_at hl 0 rfl) ?_
  refine fw_getr hx hb hts i_De hown hK hP (xm_19 (by omega)) (xk_19 r) rfl 2 (by decide) (hts _ L_De_52) (fun _ h9 => h9) rfl xd_De_sendInput_1 ?_
  refine lv_bipush (v := (13 : Int32)) hx hb xd_De_sendInput_4 (by decide) ?_
  refine lv_aload_n hx hb xd_De_sendInput_6 rfl (lv_at hl 0 rfl) ?_
  refine fw_geti hx hb hts i_De hown hK hP (xm_19 (by omega)) (xk_19 r) rfl 12 (by decide) (hts _ L_De_101) (fun _ h9 => h9) rfl xd_De_sendInput_7 ?_
  refine lv_aload_n hx hb xd_De_sendInput_10 rfl (lv_at hl 0 rfl) ?_
  refine fw_getr hx hb hts i_De hown hK hP (xm_19 (by omega)) (xk_19 r) rfl 3 (by decide) (hts _ L_De_12) (fun _ h9 => h9) rfl xd_De_sendInput_11 ?_
  refine fw_ci (va_runV (As := []) (rest := [.int (v0 19 r 12), .int (13 : Int32), .ref (ad 5 0)]) ⟨hx, hb, hml, hown, hts⟩ (xc_Cy_nextToSend l hD v0 hI ((r + 2)) (by omega)) (xw_Cy_nextToSend hts L_De_213 ⟨Nat.le_of_ble_eq_true rfl, Nat.le_of_ble_eq_true rfl⟩) (fw_preV hN hK hP (xm_14 (by omega)) (xk_14 (r + 2)) rfl) rfl rfl hl.1 rfl (lv_room (Nat.le_of_ble_eq_true rfl)) xd_De_sendInput_14 ⟨Nat.le_of_ble_eq_true rfl, Nat.le_of_ble_eq_true rfl⟩) hS (fun r1 v2 H locs er1 ev2 hI hP hS => ?_)
  refine lv_iconst (v := (2 : Int32)) hx hb xd_De_sendInput_17 (by decide) ?_
  refine fw_cr (va_runV (As := [.int (13 : Int32), .int (v0 19 r 12), .int r1, .int (2 : Int32)]) (rest := []) ⟨hx, hb, hml, hown, hts⟩ (xc_Wi_send l hD v2 hI (13 : Int32) (v0 19 r 12) r1 (2 : Int32)) (xw_Wi_send hts L_De_138 ⟨Nat.le_of_ble_eq_true rfl, Nat.le_of_ble_eq_true rfl⟩) (fw_preV hN hK hP (xm_5 (by decide)) (xk_5 0) rfl) rfl rfl hl.1 rfl (lv_room (Nat.le_of_ble_eq_true rfl)) xd_De_sendInput_18 ⟨Nat.le_of_ble_eq_true rfl, Nat.le_of_ble_eq_true rfl⟩) hS (fun y4 v5 H locs ly4 ey4 ev5 hI hP hS => ?_)
  refine lv_astore_n (lv' := [(1, .ref (ad 7 y4)), (0, .ref (ad 19 r))]) hx hb xd_De_sendInput_21 rfl hl (by decide) rfl (fun ls hl => ?_)
  refine lv_iconst (v := (0 : Int32)) hx hb xd_De_sendInput_22 (by decide) ?_
  refine lv_istore_n (lv' := [(2, .int (0 : Int32)), (1, .ref (ad 7 y4)), (0, .ref (ad 19 r))]) hx hb xd_De_sendInput_23 rfl hl (by decide) rfl (fun ls hl => ?_)
  refine lv_iconst (v := (0 : Int32)) hx hb xd_De_sendInput_24 (by decide) ?_
  refine lv_istore_n (lv' := [(3, .int (0 : Int32)), (2, .int (0 : Int32)), (1, .ref (ad 7 y4)), (0, .ref (ad 19 r))]) hx hb xd_De_sendInput_25 rfl hl (by decide) rfl (fun ls hl => ?_)
  exact J1 v5 (y4) _ _ _ (by subst er1 ev2 ey4 ev5; simp only [xf_De_sendInput]) (by omega)  hI hP hS (lv_sub hl [3, 2, 1, 0] rfl)

def xf_De_passTickInData (v0 : fw_V) (r : Nat) : fw_V :=
  if (v0 19 r 16) < (4 : Int32) then
    let p4 := xf_AQ_isDueThisTick v0 (r)
    let r2 := p4.1
    let v3 := p4.2
    if r2 = (0 : Int32) then
      let v6 := xf_De_sendInput v3 (r)
      v6
    else
      let v7 := xf_De_sendAlarm v3 (r)
      let v8 := xf_De_sendInput v7 (r)
      v8
  else
    let v9 := fw_up v0 19 r 18 ((v0 19 r 18) + (1 : Int32))
    let v10 := xf_De_abort v9 (r)
    v10

set_option maxHeartbeats 4000000 in
set_option maxRecDepth 100000 in
theorem xc_De_passTickInData (l : Launch) {D : va_G} {cA : Nat → ClassId} {ad : Nat → Nat → Nat} (hD : fw_D xCL ad) {b : Nat} (v0 : fw_V) (hI : xI b v0) (r : Nat) (hr0 : r < 2)  : Met l xy_De_passTickInData (Cond.code xy_De_passTickInData xb_De_passTickInData 1 none :: vTB) xrm_De_passTickInData (fw_Pc vNL D vcls (vtys cA) xCL cA xkd ad v0 [.ref (ad 19 r)]) (fw_Qv D vcls xCL cA xkd ad (xI b) (xf_De_passTickInData v0 r)) 0 0 (fw_A xCL ad) := by
  refine Met.ofW (cc := xb_De_passTickInData) (maxL := 1) (ret := none) (by decide) rfl ?_
  intro p e s m args below meth c s₁ B hml hv
  obtain ⟨rfl, hP, hK, hN⟩ := hv
  have hx := B.exec
  have hb := B.bytes
  have hr := B.returns
  have hts : ∀ w ∈ vTB, w.before ([.ref (ad 19 r)] : List Value).toArray s = true := fun w h => atoms_spec (ws := (Cond.code xy_De_passTickInData xb_De_passTickInData 1 none :: vTB)) B.pre w (List.mem_cons_of_mem _ h)
  have hown : s.vm.findClass R_De = some m.cls := findClass_of_methodNamed B.named
  have hlocks := B.notSynchronized
  have hS : va_S (fw_A xCL ad) s.heap s.heap [] := va_S.rf
  skip
  have hl := lv_entry ([.ref (ad 19 r)]) (n := 1) (Nat.le_of_ble_eq_true rfl)
  rw [lg_entry_eq]
  generalize (lg_sl ([.ref (ad 19 r)]) ++ List.replicate (1 - (lg_sl ([.ref (ad 19 r)])).length) Slot.unset).toArray = ls at hl ⊢
  have hl : lv_has ls 1 [(0, .ref (ad 19 r))] := hl
  refine lv_aload_n hx hb xd_De_passTickInData_0 rfl (lv_at hl 0 rfl) ?_
  refine fw_geti hx hb hts i_De hown hK hP (xm_19 (by omega)) (xk_19 r) rfl 16 (by decide) (hts _ L_De_120) (fun _ h9 => h9) rfl xd_De_passTickInData_1 ?_
  refine lv_iconst (v := (4 : Int32)) hx hb xd_De_passTickInData_4 (by decide) ?_
  refine lv_icmp_lt (tgt := 23) hx hb xd_De_passTickInData_5 (by decide) (fun c_1 => ?_) (fun c_1 => ?_)
  · refine lv_aload_n hx hb xd_De_passTickInData_23 rfl (lv_at hl 0 rfl) ?_
    refine fw_getr hx hb hts i_De hown hK hP (xm_19 (by omega)) (xk_19 r) rfl 4 (by decide) (hts _ L_De_21) (fun _ h9 => h9) rfl xd_De_passTickInData_24 ?_
    refine fw_cz (va_runV (As := []) (rest := []) ⟨hx, hb, hml, hown, hts⟩ (xc_AQ_isDueThisTick l hD v0 hI (r) (by omega)) (xw_AQ_isDueThisTick hts L_De_197 ⟨Nat.le_of_ble_eq_true rfl, Nat.le_of_ble_eq_true rfl⟩) (fw_preV hN hK hP (xm_20 (by omega)) (xk_20 r) rfl) rfl rfl hl.1 rfl (lv_room (Nat.le_of_ble_eq_true rfl)) xd_De_passTickInData_27 ⟨Nat.le_of_ble_eq_true rfl, Nat.le_of_ble_eq_true rfl⟩) hS (fun r2 v3 H locs zr2 er2 ev3 hI hP hS => ?_)
    refine lv_if_eq (tgt := 37) hx hb xd_De_passTickInData_30 (by decide) (fun c_5 => ?_) (fun c_5 => ?_)
    · refine lv_aload_n hx hb xd_De_passTickInData_37 rfl (lv_at hl 0 rfl) ?_
      refine fw_cv (va_runV (As := []) (rest := []) ⟨hx, hb, hml, hown, hts⟩ (xc_De_sendInput l hD v3 hI (r) (by omega)) (xw_De_sendInput hts L_De_203 ⟨Nat.le_of_ble_eq_true rfl, Nat.le_of_ble_eq_true rfl⟩) (fw_preV hN hK hP (xm_19 (by omega)) (xk_19 r) rfl) rfl rfl hl.1 rfl (lv_room (Nat.le_of_ble_eq_true rfl)) xd_De_passTickInData_38 ⟨Nat.le_of_ble_eq_true rfl, Nat.le_of_ble_eq_true rfl⟩) hS (fun v6 H locs ev6 hI hP hS => ?_)
      exact fw_vret hx hb hr hlocks hS hP hI xd_De_passTickInData_41 (by subst ev6 ev3 er2; unfold xf_De_passTickInData; rw [if_pos c_1, if_pos c_5])
    · refine lv_aload_n hx hb xd_De_passTickInData_33 rfl (lv_at hl 0 rfl) ?_
      refine fw_cv (va_runV (As := []) (rest := []) ⟨hx, hb, hml, hown, hts⟩ (xc_De_sendAlarm l hD v3 hI (r) (by omega)) (xw_De_sendAlarm hts L_De_200 ⟨Nat.le_of_ble_eq_true rfl, Nat.le_of_ble_eq_true rfl⟩) (fw_preV hN hK hP (xm_19 (by omega)) (xk_19 r) rfl) rfl rfl hl.1 rfl (lv_room (Nat.le_of_ble_eq_true rfl)) xd_De_passTickInData_34 ⟨Nat.le_of_ble_eq_true rfl, Nat.le_of_ble_eq_true rfl⟩) hS (fun v7 H locs ev7 hI hP hS => ?_)
      refine lv_aload_n hx hb xd_De_passTickInData_37 rfl (lv_at hl 0 rfl) ?_
      refine fw_cv (va_runV (As := []) (rest := []) ⟨hx, hb, hml, hown, hts⟩ (xc_De_sendInput l hD v7 hI (r) (by omega)) (xw_De_sendInput hts L_De_203 ⟨Nat.le_of_ble_eq_true rfl, Nat.le_of_ble_eq_true rfl⟩) (fw_preV hN hK hP (xm_19 (by omega)) (xk_19 r) rfl) rfl rfl hl.1 rfl (lv_room (Nat.le_of_ble_eq_true rfl)) xd_De_passTickInData_38 ⟨Nat.le_of_ble_eq_true rfl, Nat.le_of_ble_eq_true rfl⟩) hS (fun v8 H locs ev8 hI hP hS => ?_)
      exact fw_vret hx hb hr hlocks hS hP hI xd_De_passTickInData_41 (by subst ev8 ev7 ev3 er2; unfold xf_De_passTickInData; rw [if_pos c_1, if_neg c_5])
  · refine lv_aload_n hx hb xd_De_passTickInData_8 rfl (lv_at hl 0 rfl) ?_
    refine lv_dup hx hb xd_De_passTickInData_9 rfl ?_
    refine fw_geti hx hb hts i_De hown hK hP (xm_19 (by omega)) (xk_19 r) rfl 18 (by decide) (hts _ L_De_194) (fun _ h9 => h9) rfl xd_De_passTickInData_10 ?_
    refine lv_iconst (v := (1 : Int32)) hx hb xd_De_passTickInData_13 (by decide) ?_
    refine lv_iadd hx hb xd_De_passTickInData_14 ?_
    refine fw_puti hx hb hts i_De t_De t_De_ok n_De hown hK hD hP hS (xm_19 (by omega)) (xk_19 r) rfl 18 (by decide) (hts _ L_De_194) (fun _ h9 => h9) rfl fw_pdI rfl rfl rfl xd_De_passTickInData_15 (fun v9 H locs ev9 hP hS => ?_)
    have hI : xI b v9 := by rw [ev9]; exact xI_up hI trivial trivial
    refine lv_aload_n hx hb xd_De_passTickInData_18 rfl (lv_at hl 0 rfl) ?_
    refine fw_cv (va_runV (As := []) (rest := []) ⟨hx, hb, hml, hown, hts⟩ (xc_De_abort l hD v9 hI (r) (by omega)) (xw_De_abort hts L_De_158 ⟨Nat.le_of_ble_eq_true rfl, Nat.le_of_ble_eq_true rfl⟩) (fw_preV hN hK hP (xm_19 (by omega)) (xk_19 r) rfl) rfl rfl hl.1 rfl (lv_room (Nat.le_of_ble_eq_true rfl)) xd_De_passTickInData_19 ⟨Nat.le_of_ble_eq_true rfl, Nat.le_of_ble_eq_true rfl⟩) hS (fun v10 H locs ev10 hI hP hS => ?_)
    exact fw_vret hx hb hr hlocks hS hP hI xd_De_passTickInData_22 (by subst ev10 ev9; unfold xf_De_passTickInData; rw [if_neg c_1])
def xf_De_readyAgain (v0 : fw_V) (r : Nat) : fw_V :=
  if (3 : Int32) ≤ (v0 19 r 17) then
    let v2 := xf_De_abort v0 (r)
    v2
  else
    let v4 := fw_up v0 19 r 17 ((v0 19 r 17) + (1 : Int32))
    let v5 := fw_up v4 19 r 16 (0 : Int32)
    let p8 := xf_Wi_send v5 (10 : Int32) (v5 19 r 12) (0 : Int32) (2 : Int32)
    let y6 := p8.1
    let v7 := p8.2
    v7

set_option maxHeartbeats 4000000 in
set_option maxRecDepth 100000 in
theorem xc_De_readyAgain (l : Launch) {D : va_G} {cA : Nat → ClassId} {ad : Nat → Nat → Nat} (hD : fw_D xCL ad) {b : Nat} (v0 : fw_V) (hI : xI b v0) (r : Nat) (hr0 : r < 2)  : Met l xy_De_readyAgain (Cond.code xy_De_readyAgain xb_De_readyAgain 1 none :: vTB) xrm_De_readyAgain (fw_Pc vNL D vcls (vtys cA) xCL cA xkd ad v0 [.ref (ad 19 r)]) (fw_Qv D vcls xCL cA xkd ad (xI b) (xf_De_readyAgain v0 r)) 0 0 (fw_A xCL ad) := by
  refine Met.ofW (cc := xb_De_readyAgain) (maxL := 1) (ret := none) (by decide) rfl ?_
  intro p e s m args below meth c s₁ B hml hv
  obtain ⟨rfl, hP, hK, hN⟩ := hv
  have hx := B.exec
  have hb := B.bytes
  have hr := B.returns
  have hts : ∀ w ∈ vTB, w.before ([.ref (ad 19 r)] : List Value).toArray s = true := fun w h => atoms_spec (ws := (Cond.code xy_De_readyAgain xb_De_readyAgain 1 none :: vTB)) B.pre w (List.mem_cons_of_mem _ h)
  have hown : s.vm.findClass R_De = some m.cls := findClass_of_methodNamed B.named
  have hlocks := B.notSynchronized
  have hS : va_S (fw_A xCL ad) s.heap s.heap [] := va_S.rf
  skip
  have hl := lv_entry ([.ref (ad 19 r)]) (n := 1) (Nat.le_of_ble_eq_true rfl)
  rw [lg_entry_eq]
  generalize (lg_sl ([.ref (ad 19 r)]) ++ List.replicate (1 - (lg_sl ([.ref (ad 19 r)])).length) Slot.unset).toArray = ls at hl ⊢
  have hl : lv_has ls 1 [(0, .ref (ad 19 r))] := hl
  refine lv_aload_n hx hb xd_De_readyAgain_0 rfl (lv_at hl 0 rfl) ?_
  refine fw_geti hx hb hts i_De hown hK hP (xm_19 (by omega)) (xk_19 r) rfl 17 (by decide) (hts _ L_De_161) (fun _ h9 => h9) rfl xd_De_readyAgain_1 ?_
  refine lv_iconst (v := (3 : Int32)) hx hb xd_De_readyAgain_4 (by decide) ?_
  refine lv_icmp_ge (tgt := 42) hx hb xd_De_readyAgain_5 (by decide) (fun c_1 => ?_) (fun c_1 => ?_)
  · refine lv_aload_n hx hb xd_De_readyAgain_42 rfl (lv_at hl 0 rfl) ?_
    refine fw_cv (va_runV (As := []) (rest := []) ⟨hx, hb, hml, hown, hts⟩ (xc_De_abort l hD v0 hI (r) (by omega)) (xw_De_abort hts L_De_158 ⟨Nat.le_of_ble_eq_true rfl, Nat.le_of_ble_eq_true rfl⟩) (fw_preV hN hK hP (xm_19 (by omega)) (xk_19 r) rfl) rfl rfl hl.1 rfl (lv_room (Nat.le_of_ble_eq_true rfl)) xd_De_readyAgain_43 ⟨Nat.le_of_ble_eq_true rfl, Nat.le_of_ble_eq_true rfl⟩) hS (fun v2 H locs ev2 hI hP hS => ?_)
    exact fw_vret hx hb hr hlocks hS hP hI xd_De_readyAgain_46 (by subst ev2; simp only [xf_De_readyAgain, if_pos c_1])
  · refine lv_aload_n hx hb xd_De_readyAgain_8 rfl (lv_at hl 0 rfl) ?_
    refine lv_dup hx hb xd_De_readyAgain_9 rfl ?_
    refine fw_geti hx hb hts i_De hown hK hP (xm_19 (by omega)) (xk_19 r) rfl 17 (by decide) (hts _ L_De_161) (fun _ h9 => h9) rfl xd_De_readyAgain_10 ?_
    refine lv_iconst (v := (1 : Int32)) hx hb xd_De_readyAgain_13 (by decide) ?_
    refine lv_iadd hx hb xd_De_readyAgain_14 ?_
    refine fw_puti hx hb hts i_De t_De t_De_ok n_De hown hK hD hP hS (xm_19 (by omega)) (xk_19 r) rfl 17 (by decide) (hts _ L_De_161) (fun _ h9 => h9) rfl fw_pdI rfl rfl rfl xd_De_readyAgain_15 (fun v4 H locs ev4 hP hS => ?_)
    have hI : xI b v4 := by rw [ev4]; exact xI_up hI trivial trivial
    refine lv_aload_n hx hb xd_De_readyAgain_18 rfl (lv_at hl 0 rfl) ?_
    refine lv_iconst (v := (0 : Int32)) hx hb xd_De_readyAgain_19 (by decide) ?_
    refine fw_puti hx hb hts i_De t_De t_De_ok n_De hown hK hD hP hS (xm_19 (by omega)) (xk_19 r) rfl 16 (by decide) (hts _ L_De_120) (fun _ h9 => h9) rfl fw_pdI rfl rfl rfl xd_De_readyAgain_20 (fun v5 H locs ev5 hP hS => ?_)
    have hI : xI b v5 := by rw [ev5]; exact xI_up hI trivial trivial
    refine lv_aload_n hx hb xd_De_readyAgain_23 rfl (lv_at hl 0 rfl) ?_
    refine fw_getr hx hb hts i_De hown hK hP (xm_19 (by omega)) (xk_19 r) rfl 2 (by decide) (hts _ L_De_52) (fun _ h9 => h9) rfl xd_De_readyAgain_24 ?_
    refine lv_bipush (v := (10 : Int32)) hx hb xd_De_readyAgain_27 (by decide) ?_
    refine lv_aload_n hx hb xd_De_readyAgain_29 rfl (lv_at hl 0 rfl) ?_
    refine fw_geti hx hb hts i_De hown hK hP (xm_19 (by omega)) (xk_19 r) rfl 12 (by decide) (hts _ L_De_101) (fun _ h9 => h9) rfl xd_De_readyAgain_30 ?_
    refine lv_iconst (v := (0 : Int32)) hx hb xd_De_readyAgain_33 (by decide) ?_
    refine lv_iconst (v := (2 : Int32)) hx hb xd_De_readyAgain_34 (by decide) ?_
    refine fw_cr (va_runV (As := [.int (10 : Int32), .int (v5 19 r 12), .int (0 : Int32), .int (2 : Int32)]) (rest := []) ⟨hx, hb, hml, hown, hts⟩ (xc_Wi_send l hD v5 hI (10 : Int32) (v5 19 r 12) (0 : Int32) (2 : Int32)) (xw_Wi_send hts L_De_138 ⟨Nat.le_of_ble_eq_true rfl, Nat.le_of_ble_eq_true rfl⟩) (fw_preV hN hK hP (xm_5 (by decide)) (xk_5 0) rfl) rfl rfl hl.1 rfl (lv_room (Nat.le_of_ble_eq_true rfl)) xd_De_readyAgain_35 ⟨Nat.le_of_ble_eq_true rfl, Nat.le_of_ble_eq_true rfl⟩) hS (fun y6 v7 H locs ly6 ey6 ev7 hI hP hS => ?_)
    refine lv_pop hx hb xd_De_readyAgain_38 rfl ?_
    refine lv_goto (tgt := 46) hx hb xd_De_readyAgain_39 (by decide) ?_
    exact fw_vret hx hb hr hlocks hS hP hI xd_De_readyAgain_46 (by subst ev4 ev5 ey6 ev7; simp only [xf_De_readyAgain, if_neg c_1])
def xf_De_passTick (v0 : fw_V) (r : Nat) : fw_V :=
  if (v0 19 r 11) = (0 : Int32) then
    v0
  else
    let v2 := fw_up v0 19 r 16 ((v0 19 r 16) + (1 : Int32))
    if (v2 19 r 11) = (3 : Int32) then
      let v9 := xf_De_passTickInData v2 (r)
      v9
    else
      if (v2 19 r 11) = (2 : Int32) then
        if (v2 19 r 16) < (3 : Int32) then
          v2
        else
          let v8 := xf_De_readyAgain v2 (r)
          v8
      else
        if (v2 19 r 16) < (16 : Int32) then
          v2
        else
          let v6 := xf_De_becomeIdle v2 (r)
          v6

set_option maxHeartbeats 4000000 in
set_option maxRecDepth 100000 in
theorem xc_De_passTick (l : Launch) {D : va_G} {cA : Nat → ClassId} {ad : Nat → Nat → Nat} (hD : fw_D xCL ad) {b : Nat} (v0 : fw_V) (hI : xI b v0) (r : Nat) (hr0 : r < 2)  : Met l xy_De_passTick (Cond.code xy_De_passTick xb_De_passTick 1 none :: vTB) xrm_De_passTick (fw_Pc vNL D vcls (vtys cA) xCL cA xkd ad v0 [.ref (ad 19 r)]) (fw_Qv D vcls xCL cA xkd ad (xI b) (xf_De_passTick v0 r)) 0 0 (fw_A xCL ad) := by
  refine Met.ofW (cc := xb_De_passTick) (maxL := 1) (ret := none) (by decide) rfl ?_
  intro p e s m args below meth c s₁ B hml hv
  obtain ⟨rfl, hP, hK, hN⟩ := hv
  have hx := B.exec
  have hb := B.bytes
  have hr := B.returns
  have hts : ∀ w ∈ vTB, w.before ([.ref (ad 19 r)] : List Value).toArray s = true := fun w h => atoms_spec (ws := (Cond.code xy_De_passTick xb_De_passTick 1 none :: vTB)) B.pre w (List.mem_cons_of_mem _ h)
  have hown : s.vm.findClass R_De = some m.cls := findClass_of_methodNamed B.named
  have hlocks := B.notSynchronized
  have hS : va_S (fw_A xCL ad) s.heap s.heap [] := va_S.rf
  skip
  have hl := lv_entry ([.ref (ad 19 r)]) (n := 1) (Nat.le_of_ble_eq_true rfl)
  rw [lg_entry_eq]
  generalize (lg_sl ([.ref (ad 19 r)]) ++ List.replicate (1 - (lg_sl ([.ref (ad 19 r)])).length) Slot.unset).toArray = ls at hl ⊢
  have hl : lv_has ls 1 [(0, .ref (ad 19 r))] := hl
  refine lv_aload_n hx hb xd_De_passTick_0 rfl (lv_at hl 0 rfl) ?_
  refine fw_geti hx hb hts i_De hown hK hP (xm_19 (by omega)) (xk_19 r) rfl 11 (by decide) (hts _ L_De_62) (fun _ h9 => h9) rfl xd_De_passTick_1 ?_
  refine lv_if_ne (tgt := 8) hx hb xd_De_passTick_4 (by decide) (fun c_1 => ?_) (fun c_1 => ?_)
  · refine lv_aload_n hx hb xd_De_passTick_8 rfl (lv_at hl 0 rfl) ?_
    refine lv_dup hx hb xd_De_passTick_9 rfl ?_
    refine fw_geti hx hb hts i_De hown hK hP (xm_19 (by omega)) (xk_19 r) rfl 16 (by decide) (hts _ L_De_120) (fun _ h9 => h9) rfl xd_De_passTick_10 ?_
    refine lv_iconst (v := (1 : Int32)) hx hb xd_De_passTick_13 (by decide) ?_
    refine lv_iadd hx hb xd_De_passTick_14 ?_
    refine fw_puti hx hb hts i_De t_De t_De_ok n_De hown hK hD hP hS (xm_19 (by omega)) (xk_19 r) rfl 16 (by decide) (hts _ L_De_120) (fun _ h9 => h9) rfl fw_pdI rfl rfl rfl xd_De_passTick_15 (fun v2 H locs ev2 hP hS => ?_)
    have hI : xI b v2 := by rw [ev2]; exact xI_up hI trivial trivial
    refine lv_aload_n hx hb xd_De_passTick_18 rfl (lv_at hl 0 rfl) ?_
    refine fw_geti hx hb hts i_De hown hK hP (xm_19 (by omega)) (xk_19 r) rfl 11 (by decide) (hts _ L_De_62) (fun _ h9 => h9) rfl xd_De_passTick_19 ?_
    refine lv_iconst (v := (3 : Int32)) hx hb xd_De_passTick_22 (by decide) ?_
    refine lv_icmp_ne (tgt := 33) hx hb xd_De_passTick_23 (by decide) (fun c_3 => ?_) (fun c_3 => ?_)
    · refine lv_aload_n hx hb xd_De_passTick_33 rfl (lv_at hl 0 rfl) ?_
      refine fw_geti hx hb hts i_De hown hK hP (xm_19 (by omega)) (xk_19 r) rfl 11 (by decide) (hts _ L_De_62) (fun _ h9 => h9) rfl xd_De_passTick_34 ?_
      refine lv_iconst (v := (2 : Int32)) hx hb xd_De_passTick_37 (by decide) ?_
      refine lv_icmp_ne (tgt := 56) hx hb xd_De_passTick_38 (by decide) (fun c_4 => ?_) (fun c_4 => ?_)
      · refine lv_aload_n hx hb xd_De_passTick_56 rfl (lv_at hl 0 rfl) ?_
        refine fw_geti hx hb hts i_De hown hK hP (xm_19 (by omega)) (xk_19 r) rfl 16 (by decide) (hts _ L_De_120) (fun _ h9 => h9) rfl xd_De_passTick_57 ?_
        refine lv_bipush (v := (16 : Int32)) hx hb xd_De_passTick_60 (by decide) ?_
        refine lv_icmp_lt (tgt := 69) hx hb xd_De_passTick_62 (by decide) (fun c_5 => ?_) (fun c_5 => ?_)
        · exact fw_vret hx hb hr hlocks hS hP hI xd_De_passTick_69 (by subst ev2; simp only [xf_De_passTick, if_neg c_1, if_neg c_3, if_neg c_4, if_pos c_5])
        · refine lv_aload_n hx hb xd_De_passTick_65 rfl (lv_at hl 0 rfl) ?_
          refine fw_cv (va_runV (As := []) (rest := []) ⟨hx, hb, hml, hown, hts⟩ (xc_De_becomeIdle l hD v2 hI (r) (by omega)) (xw_De_becomeIdle hts L_De_117 ⟨Nat.le_of_ble_eq_true rfl, Nat.le_of_ble_eq_true rfl⟩) (fw_preV hN hK hP (xm_19 (by omega)) (xk_19 r) rfl) rfl rfl hl.1 rfl (lv_room (Nat.le_of_ble_eq_true rfl)) xd_De_passTick_66 ⟨Nat.le_of_ble_eq_true rfl, Nat.le_of_ble_eq_true rfl⟩) hS (fun v6 H locs ev6 hI hP hS => ?_)
          exact fw_vret hx hb hr hlocks hS hP hI xd_De_passTick_69 (by subst ev2 ev6; simp only [xf_De_passTick, if_neg c_1, if_neg c_3, if_neg c_4, if_neg c_5])
      · refine lv_aload_n hx hb xd_De_passTick_41 rfl (lv_at hl 0 rfl) ?_
        refine fw_geti hx hb hts i_De hown hK hP (xm_19 (by omega)) (xk_19 r) rfl 16 (by decide) (hts _ L_De_120) (fun _ h9 => h9) rfl xd_De_passTick_42 ?_
        refine lv_iconst (v := (3 : Int32)) hx hb xd_De_passTick_45 (by decide) ?_
        refine lv_icmp_lt (tgt := 69) hx hb xd_De_passTick_46 (by decide) (fun c_7 => ?_) (fun c_7 => ?_)
        · exact fw_vret hx hb hr hlocks hS hP hI xd_De_passTick_69 (by subst ev2; simp only [xf_De_passTick, if_neg c_1, if_neg c_3, if_pos c_4, if_pos c_7])
        · refine lv_aload_n hx hb xd_De_passTick_49 rfl (lv_at hl 0 rfl) ?_
          refine fw_cv (va_runV (As := []) (rest := []) ⟨hx, hb, hml, hown, hts⟩ (xc_De_readyAgain l hD v2 hI (r) (by omega)) (xw_De_readyAgain hts L_De_126 ⟨Nat.le_of_ble_eq_true rfl, Nat.le_of_ble_eq_true rfl⟩) (fw_preV hN hK hP (xm_19 (by omega)) (xk_19 r) rfl) rfl rfl hl.1 rfl (lv_room (Nat.le_of_ble_eq_true rfl)) xd_De_passTick_50 ⟨Nat.le_of_ble_eq_true rfl, Nat.le_of_ble_eq_true rfl⟩) hS (fun v8 H locs ev8 hI hP hS => ?_)
          refine lv_goto (tgt := 69) hx hb xd_De_passTick_53 (by decide) ?_
          exact fw_vret hx hb hr hlocks hS hP hI xd_De_passTick_69 (by subst ev2 ev8; simp only [xf_De_passTick, if_neg c_1, if_neg c_3, if_pos c_4, if_neg c_7])
    · refine lv_aload_n hx hb xd_De_passTick_26 rfl (lv_at hl 0 rfl) ?_
      refine fw_cv (va_runV (As := []) (rest := []) ⟨hx, hb, hml, hown, hts⟩ (xc_De_passTickInData l hD v2 hI (r) (by omega)) (xw_De_passTickInData hts L_De_123 ⟨Nat.le_of_ble_eq_true rfl, Nat.le_of_ble_eq_true rfl⟩) (fw_preV hN hK hP (xm_19 (by omega)) (xk_19 r) rfl) rfl rfl hl.1 rfl (lv_room (Nat.le_of_ble_eq_true rfl)) xd_De_passTick_27 ⟨Nat.le_of_ble_eq_true rfl, Nat.le_of_ble_eq_true rfl⟩) hS (fun v9 H locs ev9 hI hP hS => ?_)
      refine lv_goto (tgt := 69) hx hb xd_De_passTick_30 (by decide) ?_
      exact fw_vret hx hb hr hlocks hS hP hI xd_De_passTick_69 (by subst ev2 ev9; simp only [xf_De_passTick, if_neg c_1, if_pos c_3])
  · exact fw_vret hx hb hr hlocks hS hP hI xd_De_passTick_7 (by simp only [xf_De_passTick, if_pos c_1])

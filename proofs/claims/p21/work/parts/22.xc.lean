def xf_Re_begin (v0 : fw_V) (r : Nat) (a1 : Int32) : fw_V :=
  let v1 := fw_up v0 13 r 11 a1
  let v2 := fw_up v1 13 r 13 (0 : Int32)
  let v3 := fw_up v2 13 r 18 (0 : Int32)
  let v4 := xf_Re_enter v3 (r) (1 : Int32)
  let v5 := xf_Re_sendRequest v4 (r)
  v5

set_option maxHeartbeats 4000000 in
set_option maxRecDepth 100000 in
theorem xc_Re_begin (l : Launch) {D : va_G} {cA : Nat → ClassId} {ad : Nat → Nat → Nat} (hD : fw_D xCL ad) {b : Nat} (v0 : fw_V) (hI : xI b v0) (r : Nat) (hr0 : r < 2) (a1 : Int32)  : Met l xy_Re_begin (Cond.code xy_Re_begin xb_Re_begin 2 none :: vTB) xrm_Re_begin (fw_Pc vNL D vcls (vtys cA) xCL cA xkd ad v0 [.ref (ad 13 r), .int a1]) (fw_Qv D vcls xCL cA xkd ad (xI b) (xf_Re_begin v0 r a1)) 0 0 (fw_A xCL ad) := by
  refine Met.ofW (cc := xb_Re_begin) (maxL := 2) (ret := none) (by decide) rfl ?_
  intro p e s m args below meth c s₁ B hml hv
  obtain ⟨rfl, hP, hK, hN⟩ := hv
  have hx := B.exec
  have hb := B.bytes
  have hr := B.returns
  have hts : ∀ w ∈ vTB, w.before ([.ref (ad 13 r), .int a1] : List Value).toArray s = true := fun w h => atoms_spec (ws := (Cond.code xy_Re_begin xb_Re_begin 2 none :: vTB)) B.pre w (List.mem_cons_of_mem _ h)
  have hown : s.vm.findClass R_Re = some m.cls := findClass_of_methodNamed B.named
  have hlocks := B.notSynchronized
  have hS : va_S (fw_A xCL ad) s.heap s.heap [] := va_S.rf
  skip
  have hl := lv_entry ([.ref (ad 13 r), .int a1]) (n := 2) (Nat.le_of_ble_eq_true rfl)
  rw [lg_entry_eq]
  generalize (lg_sl ([.ref (ad 13 r), .int a1]) ++ List.replicate (2 - (lg_sl ([.ref (ad 13 r), .int a1])).length) Slot.unset).toArray = ls at hl ⊢
  have hl : lv_has ls 2 [(0, .ref (ad 13 r)), (1, .int a1)] := hl
  refine lv_aload_n hx hb xd_Re_begin_0 rfl (lv_at hl 0 rfl) ?_
  refine lv_iload_n hx hb xd_Re_begin_1 rfl (lv_at hl 1 rfl) ?_
  refine fw_puti hx hb hts i_Re t_Re t_Re_ok n_Re hown hK hD hP hS (xm_13 (by omega)) (xk_13 r) rfl 11 (by decide) (hts _ L_Re_59) (fun _ h9 => h9) rfl fw_pdI rfl rfl rfl xd_Re_begin_2 (fun v1 H locs ev1 hP hS => ?_)
  have hI : xI b v1 := by rw [ev1]; exact xI_up hI trivial trivial
  refine lv_aload_n hx hb xd_Re_begin_5 rfl (lv_at hl 0 rfl) ?_
  refine lv_iconst (v := (0 : Int32)) hx hb xd_Re_begin_6 (by decide) ?_
  refine fw_puti hx hb hts i_Re t_Re t_Re_ok n_Re hown hK hD hP hS (xm_13 (by omega)) (xk_13 r) rfl 13 (by decide) (hts _ L_Re_62) (fun _ h9 => h9) rfl fw_pdI rfl rfl rfl xd_Re_begin_7 (fun v2 H locs ev2 hP hS => ?_)
  have hI : xI b v2 := by rw [ev2]; exact xI_up hI trivial trivial
  refine lv_aload_n hx hb xd_Re_begin_10 rfl (lv_at hl 0 rfl) ?_
  refine lv_iconst (v := (0 : Int32)) hx hb xd_Re_begin_11 (by decide) ?_
  refine fw_puti hx hb hts i_Re t_Re t_Re_ok n_Re hown hK hD hP hS (xm_13 (by omega)) (xk_13 r) rfl 18 (by decide) (hts _ L_Re_65) (fun _ h9 => h9) rfl fw_pdI rfl rfl rfl xd_Re_begin_12 (fun v3 H locs ev3 hP hS => ?_)
  have hI : xI b v3 := by rw [ev3]; exact xI_up hI trivial trivial
  refine lv_aload_n hx hb xd_Re_begin_15 rfl (lv_at hl 0 rfl) ?_
  refine lv_iconst (v := (1 : Int32)) hx hb xd_Re_begin_16 (by decide) ?_
  refine fw_cv (va_runV (As := [.int (1 : Int32)]) (rest := []) ⟨hx, hb, hml, hown, hts⟩ (xc_Re_enter l hD v3 hI (r) (by omega) (1 : Int32)) (xw_Re_enter hts L_Re_68 ⟨Nat.le_of_ble_eq_true rfl, Nat.le_of_ble_eq_true rfl⟩) (fw_preV hN hK hP (xm_13 (by omega)) (xk_13 r) rfl) rfl rfl hl.1 rfl (lv_room (Nat.le_of_ble_eq_true rfl)) xd_Re_begin_17 ⟨Nat.le_of_ble_eq_true rfl, Nat.le_of_ble_eq_true rfl⟩) hS (fun v4 H locs ev4 hI hP hS => ?_)
  refine lv_aload_n hx hb xd_Re_begin_20 rfl (lv_at hl 0 rfl) ?_
  refine fw_cv (va_runV (As := []) (rest := []) ⟨hx, hb, hml, hown, hts⟩ (xc_Re_sendRequest l hD v4 hI (r) (by omega)) (xw_Re_sendRequest hts L_Re_72 ⟨Nat.le_of_ble_eq_true rfl, Nat.le_of_ble_eq_true rfl⟩) (fw_preV hN hK hP (xm_13 (by omega)) (xk_13 r) rfl) rfl rfl hl.1 rfl (lv_room (Nat.le_of_ble_eq_true rfl)) xd_Re_begin_21 ⟨Nat.le_of_ble_eq_true rfl, Nat.le_of_ble_eq_true rfl⟩) hS (fun v5 H locs ev5 hI hP hS => ?_)
  exact fw_vret hx hb hr hlocks hS hP hI xd_Re_begin_24 (by subst ev1 ev2 ev3 ev4 ev5; simp only [xf_Re_begin])
def xf_FR_open_j1 (v : fw_V) (a1 : Int32) (x90 : Int32) : Int32 × fw_V :=
  let v10 := fw_up v 0 0 5 x90
  let v11 := fw_up v10 0 0 8 ((v10 0 0 8) + (1 : Int32))
  let v13 := xf_Re_begin v11 ((a1.toNatClampNeg)) (v11 0 0 5)
  ((v13 0 0 5), v13)
def xf_FR_open_j2 (v : fw_V) (a1 : Int32)  : Int32 × fw_V :=
  let v14 := fw_up v 0 0 5 (1 : Int32)
  let v15 := fw_up v14 0 0 8 ((v14 0 0 8) + (1 : Int32))
  let v17 := xf_Re_begin v15 ((a1.toNatClampNeg)) (v15 0 0 5)
  ((v17 0 0 5), v17)
def xf_FR_open (v0 : fw_V) (a1 : Int32) : Int32 × fw_V :=
  let r1 := xf_FR_isDevice a1
  if r1 = (0 : Int32) then
    ((-1 : Int32), v0)
  else
    let r5 := xf_Re_isClosed v0 ((a1.toNatClampNeg))
    if r5 = (0 : Int32) then
      ((-2 : Int32), v0)
    else
      if (v0 13 (a1.toNatClampNeg) 5) = (0 : Int32) then
        ((-2 : Int32), v0)
      else
        if (v0 0 0 5) < (65535 : Int32) then
          xf_FR_open_j1 v0 a1 (((v0 0 0 5) + (1 : Int32)))
        else
          xf_FR_open_j2 v0 a1

set_option maxHeartbeats 4000000 in
set_option maxRecDepth 100000 in
theorem xc_FR_open (l : Launch) {D : va_G} {cA : Nat → ClassId} {ad : Nat → Nat → Nat} (hD : fw_D xCL ad) {b : Nat} (v0 : fw_V) (hI : xI b v0) (a1 : Int32)  : Met l xy_FR_open (Cond.code xy_FR_open xb_FR_open 2 (some .int) :: vTB) xrm_FR_open (fw_Pc vNL D vcls (vtys cA) xCL cA xkd ad v0 [.ref (ad 0 0), .int a1]) (fw_Qi D vcls xCL cA xkd ad (xI b) (xf_FR_open v0 a1)) 0 0 (fw_A xCL ad) := by
  refine Met.ofW (cc := xb_FR_open) (maxL := 2) (ret := (some .int)) (by decide) rfl ?_
  intro p e s m args below meth c s₁ B hml hv
  obtain ⟨rfl, hP, hK, hN⟩ := hv
  have hx := B.exec
  have hb := B.bytes
  have hr := B.returns
  have hts : ∀ w ∈ vTB, w.before ([.ref (ad 0 0), .int a1] : List Value).toArray s = true := fun w h => atoms_spec (ws := (Cond.code xy_FR_open xb_FR_open 2 (some .int) :: vTB)) B.pre w (List.mem_cons_of_mem _ h)
  have hown : s.vm.findClass R_FR = some m.cls := findClass_of_methodNamed B.named
  have hlocks := B.notSynchronized
  have hS : va_S (fw_A xCL ad) s.heap s.heap [] := va_S.rf
  have J1 : ∀ (v : fw_V) (x90 : Int32) (H : Heap) (locs : List Loc) (ls : Array Slot), xf_FR_open v0 a1 = xf_FR_open_j1 v a1 x90 → vp_in a1 2 → xI b v → va_P D vcls (fw_w xCL cA xkd ad v) H → va_S (fw_A xCL ad) s.heap H locs → lv_has ls 2 [(0, .ref (ad 0 0)), (1, .int a1)] → W p l e (headSpec (Cond.code xy_FR_open xb_FR_open 2 (some .int) :: vTB) xrm_FR_open).room s m ([.ref (ad 0 0), .int a1] : List Value).toArray below meth c H locs 0 0 (MQ below (fw_Qi D vcls xCL cA xkd ad (xI b) (xf_FR_open v0 a1)) ([.ref (ad 0 0), .int a1] : List Value).toArray s 0 0 (fw_A xCL ad)) (F0 m 56 ls [.int x90, .ref (ad 0 0)]) := by
    intro v x90 H locs ls hj hc0 hI hP hS hl
    refine fw_puti hx hb hts i_FR t_FR t_FR_ok n_FR hown hK hD hP hS (xm_0 (by decide)) (xk_0 0) rfl 5 (by decide) (hts _ L_FR_112) (fun _ h9 => h9) rfl fw_pdI rfl rfl rfl xd_FR_open_56 (fun v10 H locs ev10 hP hS => ?_)
    have hI : xI b v10 := by rw [ev10]; exact xI_up hI trivial trivial
    refine lv_aload_n hx hb xd_FR_open_59 rfl (lv_at hl 0 rfl) ?_
    refine lv_dup hx hb xd_FR_open_60 rfl ?_
    refine fw_geti hx hb hts i_FR hown hK hP (xm_0 (by decide)) (xk_0 0) rfl 8 (by decide) (hts _ L_FR_116) (fun _ h9 => h9) rfl xd_FR_open_61 ?_
    refine lv_iconst (v := (1 : Int32)) hx hb xd_FR_open_64 (by decide) ?_
    refine lv_iadd hx hb xd_FR_open_65 ?_
    refine fw_puti hx hb hts i_FR t_FR t_FR_ok n_FR hown hK hD hP hS (xm_0 (by decide)) (xk_0 0) rfl 8 (by decide) (hts _ L_FR_116) (fun _ h9 => h9) rfl fw_pdI rfl rfl rfl xd_FR_open_66 (fun v11 H locs ev11 hP hS => ?_)
    have hI : xI b v11 := by rw [ev11]; exact xI_up hI trivial trivial
    refine lv_aload_n hx hb xd_FR_open_69 rfl (lv_at hl 0 rfl) ?_
    refine fw_getr hx hb hts i_FR hown hK hP (xm_0 (by decide)) (xk_0 0) rfl 3 (by decide) (hts _ L_FR_32) (fun _ h9 => h9) rfl xd_FR_open_70 ?_
    refine lv_iload_n hx hb xd_FR_open_73 rfl (lv_at hl 1 rfl) ?_
    have k_12 : a1.toNatClampNeg < 2 := fw_inlt hc0
    refine fw_alds hx hb hK hP (xm_11 (by decide)) (xk_11 0) 3 rfl (j := a1.toNatClampNeg) rfl hc0 xd_FR_open_74 ?_
    refine lv_aload_n hx hb xd_FR_open_75 rfl (lv_at hl 0 rfl) ?_
    refine fw_geti hx hb hts i_FR hown hK hP (xm_0 (by decide)) (xk_0 0) rfl 5 (by decide) (hts _ L_FR_112) (fun _ h9 => h9) rfl xd_FR_open_76 ?_
    refine fw_cv (va_runV (As := [.int (v11 0 0 5)]) (rest := []) ⟨hx, hb, hml, hown, hts⟩ (xc_Re_begin l hD v11 hI ((a1.toNatClampNeg)) (by omega) (v11 0 0 5)) (xw_Re_begin hts L_FR_119 ⟨Nat.le_of_ble_eq_true rfl, Nat.le_of_ble_eq_true rfl⟩) (fw_preV hN hK hP (xm_13 (by omega)) (xk_13 (a1.toNatClampNeg)) rfl) rfl rfl hl.1 rfl (lv_room (Nat.le_of_ble_eq_true rfl)) xd_FR_open_79 ⟨Nat.le_of_ble_eq_true rfl, Nat.le_of_ble_eq_true rfl⟩) hS (fun v13 H locs ev13 hI hP hS => ?_)
    refine lv_aload_n hx hb xd_FR_open_82 rfl (lv_at hl 0 rfl) ?_
    refine fw_geti hx hb hts i_FR hown hK hP (xm_0 (by decide)) (xk_0 0) rfl 5 (by decide) (hts _ L_FR_112) (fun _ h9 => h9) rfl xd_FR_open_83 ?_
    exact fw_iret hx hb hr hlocks hS hP hI xd_FR_open_86 (by rw [hj]; subst ev10 ev11 ev13; simp only [xf_FR_open_j1])
  have J2 : ∀ (v : fw_V)  (H : Heap) (locs : List Loc) (ls : Array Slot), xf_FR_open v0 a1 = xf_FR_open_j2 v a1 → vp_in a1 2 → xI b v → va_P D vcls (fw_w xCL cA xkd ad v) H → va_S (fw_A xCL ad) s.heap H locs → lv_has ls 2 [(0, .ref (ad 0 0)), (1, .int a1)] → W p l e (headSpec (Cond.code xy_FR_open xb_FR_open 2 (some .int) :: vTB) xrm_FR_open).room s m ([.ref (ad 0 0), .int a1] : List Value).toArray below meth c H locs 0 0 (MQ below (fw_Qi D vcls xCL cA xkd ad (xI b) (xf_FR_open v0 a1)) ([.ref (ad 0 0), .int a1] : List Value).toArray s 0 0 (fw_A xCL ad)) (F0 m 56 ls [.int (1 : Int32), .ref (ad 0 0)]) := by
    intro v  H locs ls hj hc0 hI hP hS hl
    clear J1
    refine fw_puti hx hb hts i_FR t_FR t_FR_ok n_FR hown hK hD hP hS (xm_0 (by decide)) (xk_0 0) rfl 5 (by decide) (hts _ L_FR_112) (fun _ h9 => h9) rfl fw_pdI rfl rfl rfl xd_FR_open_56 (fun v14 H locs ev14 hP hS => ?_)
    have hI : xI b v14 := by rw [ev14]; exact xI_up hI trivial trivial
    refine lv_aload_n hx hb xd_FR_open_59 rfl (lv_at hl 0 rfl) ?_
    refine lv_dup hx hb xd_FR_open_60 rfl ?_
    refine fw_geti hx hb hts i_FR hown hK hP (xm_0 (by decide)) (xk_0 0) rfl 8 (by decide) (hts _ L_FR_116) (fun _ h9 => h9) rfl xd_FR_open_61 ?_
    refine lv_iconst (v := (1 : Int32)) hx hb xd_FR_open_64 (by decide) ?_
    refine lv_iadd hx hb xd_FR_open_65 ?_
    refine fw_puti hx hb hts i_FR t_FR t_FR_ok n_FR hown hK hD hP hS (xm_0 (by decide)) (xk_0 0) rfl 8 (by decide) (hts _ L_FR_116) (fun _ h9 => h9) rfl fw_pdI rfl rfl rfl xd_FR_open_66 (fun v15 H locs ev15 hP hS => ?_)
    have hI : xI b v15 := by rw [ev15]; exact xI_up hI trivial trivial
    refine lv_aload_n hx hb xd_FR_open_69 rfl (lv_at hl 0 rfl) ?_
    refine fw_getr hx hb hts i_FR hown hK hP (xm_0 (by decide)) (xk_0 0) rfl 3 (by decide) (hts _ L_FR_32) (fun _ h9 => h9) rfl xd_FR_open_70 ?_
    refine lv_iload_n hx hb xd_FR_open_73 rfl (lv_at hl 1 rfl) ?_
    have k_16 : a1.toNatClampNeg < 2 := fw_inlt hc0
    refine fw_alds hx hb hK hP (xm_11 (by decide)) (xk_11 0) 3 rfl (j := a1.toNatClampNeg) rfl hc0 xd_FR_open_74 ?_
    refine lv_aload_n hx hb xd_FR_open_75 rfl (lv_at hl 0 rfl) ?_
    refine fw_geti hx hb hts i_FR hown hK hP (xm_0 (by decide)) (xk_0 0) rfl 5 (by decide) (hts _ L_FR_112) (fun _ h9 => h9) rfl xd_FR_open_76 ?_
    refine fw_cv (va_runV (As := [.int (v15 0 0 5)]) (rest := []) ⟨hx, hb, hml, hown, hts⟩ (xc_Re_begin l hD v15 hI ((a1.toNatClampNeg)) (by omega) (v15 0 0 5)) (xw_Re_begin hts L_FR_119 ⟨Nat.le_of_ble_eq_true rfl, Nat.le_of_ble_eq_true rfl⟩) (fw_preV hN hK hP (xm_13 (by omega)) (xk_13 (a1.toNatClampNeg)) rfl) rfl rfl hl.1 rfl (lv_room (Nat.le_of_ble_eq_true rfl)) xd_FR_open_79 ⟨Nat.le_of_ble_eq_true rfl, Nat.le_of_ble_eq_true rfl⟩) hS (fun v17 H locs ev17 hI hP hS => ?_)
    refine lv_aload_n hx hb xd_FR_open_82 rfl (lv_at hl 0 rfl) ?_
    refine fw_geti hx hb hts i_FR hown hK hP (xm_0 (by decide)) (xk_0 0) rfl 5 (by decide) (hts _ L_FR_112) (fun _ h9 => h9) rfl xd_FR_open_83 ?_
    exact fw_iret hx hb hr hlocks hS hP hI xd_FR_open_86 (by rw [hj]; subst ev14 ev15 ev17; simp only [xf_FR_open_j2])
  skip
  have hl := lv_entry ([.ref (ad 0 0), .int a1]) (n := 2) (Nat.le_of_ble_eq_true rfl)
  rw [lg_entry_eq]
  generalize (lg_sl ([.ref (ad 0 0), .int a1]) ++ List.replicate (2 - (lg_sl ([.ref (ad 0 0), .int a1])).length) Slot.unset).toArray = ls at hl ⊢
  have hl : lv_has ls 2 [(0, .ref (ad 0 0)), (1, .int a1)] := hl
  refine lv_iload_n hx hb xd_FR_open_0 rfl (lv_at hl 1 rfl) ?_
  refine fw_cb (va_runS (As := [.int a1]) (rest := []) ⟨hx, hb, hml, hown, hts⟩ (xc_FR_isDevice l hD v0 hI a1) (xw_FR_isDevice hts L_FR_64 ⟨Nat.le_of_ble_eq_true rfl, Nat.le_of_ble_eq_true rfl⟩) (fw_preS hN hK hP) rfl rfl hl.1 rfl (lv_room (Nat.le_of_ble_eq_true rfl)) xd_FR_open_1 ⟨Nat.le_of_ble_eq_true rfl, Nat.le_of_ble_eq_true rfl⟩) hS (fun r1 H locs zr1 er1 hP hS => ?_)
  refine lv_if_ne (tgt := 9) hx hb xd_FR_open_4 (by decide) (fun c_2 => ?_) (fun c_2 => ?_)
  · have h_3 : vp_in a1 2 := xp_FR_isDevice er1 c_2
    refine lv_aload_n hx hb xd_FR_open_9 rfl (lv_at hl 0 rfl) ?_
    refine fw_getr hx hb hts i_FR hown hK hP (xm_0 (by decide)) (xk_0 0) rfl 3 (by decide) (hts _ L_FR_32) (fun _ h9 => h9) rfl xd_FR_open_10 ?_
    refine lv_iload_n hx hb xd_FR_open_13 rfl (lv_at hl 1 rfl) ?_
    have k_4 : a1.toNatClampNeg < 2 := fw_inlt h_3
    refine fw_alds hx hb hK hP (xm_11 (by decide)) (xk_11 0) 3 rfl (j := a1.toNatClampNeg) rfl h_3 xd_FR_open_14 ?_
    refine fw_cb (va_runV (As := []) (rest := []) ⟨hx, hb, hml, hown, hts⟩ (xc_Re_isClosed l hD v0 hI ((a1.toNatClampNeg)) (by omega)) (xw_Re_isClosed hts L_FR_99 ⟨Nat.le_of_ble_eq_true rfl, Nat.le_of_ble_eq_true rfl⟩) (fw_preV hN hK hP (xm_13 (by omega)) (xk_13 (a1.toNatClampNeg)) rfl) rfl rfl hl.1 rfl (lv_room (Nat.le_of_ble_eq_true rfl)) xd_FR_open_15 ⟨Nat.le_of_ble_eq_true rfl, Nat.le_of_ble_eq_true rfl⟩) hS (fun r5 H locs zr5 er5 hP hS => ?_)
    refine lv_if_eq (tgt := 33) hx hb xd_FR_open_18 (by decide) (fun c_6 => ?_) (fun c_6 => ?_)
    · refine lv_bipush (v := (-2 : Int32)) hx hb xd_FR_open_33 (by decide) ?_
      exact fw_iret hx hb hr hlocks hS hP hI xd_FR_open_35 (by subst er1 er5; simp only [xf_FR_open, if_neg c_2, if_pos c_6])
    · refine lv_aload_n hx hb xd_FR_open_21 rfl (lv_at hl 0 rfl) ?_
      refine fw_getr hx hb hts i_FR hown hK hP (xm_0 (by decide)) (xk_0 0) rfl 3 (by decide) (hts _ L_FR_32) (fun _ h9 => h9) rfl xd_FR_open_22 ?_
      refine lv_iload_n hx hb xd_FR_open_25 rfl (lv_at hl 1 rfl) ?_
      have k_7 : a1.toNatClampNeg < 2 := fw_inlt h_3
      refine fw_alds hx hb hK hP (xm_11 (by decide)) (xk_11 0) 3 rfl (j := a1.toNatClampNeg) rfl h_3 xd_FR_open_26 ?_
      refine fw_geti hx hb hts i_Re hown hK hP (xm_13 (by omega)) (xk_13 (a1.toNatClampNeg)) rfl 5 (by decide) (hts _ L_FR_102) (fun _ h9 => h9) rfl xd_FR_open_27 ?_
      refine lv_if_ne (tgt := 36) hx hb xd_FR_open_30 (by decide) (fun c_8 => ?_) (fun c_8 => ?_)
      · refine lv_aload_n hx hb xd_FR_open_36 rfl (lv_at hl 0 rfl) ?_
        refine lv_aload_n hx hb xd_FR_open_37 rfl (lv_at hl 0 rfl) ?_
        refine fw_geti hx hb hts i_FR hown hK hP (xm_0 (by decide)) (xk_0 0) rfl 5 (by decide) (hts _ L_FR_112) (fun _ h9 => h9) rfl xd_FR_open_38 ?_
        refine lv_ldc (v := (65535 : Int32)) hx hb hown (hts _ L_FR_115) xd_FR_open_41 ?_
        refine lv_icmp_lt (tgt := 50) hx hb xd_FR_open_43 (by decide) (fun c_9 => ?_) (fun c_9 => ?_)
        · refine lv_aload_n hx hb xd_FR_open_50 rfl (lv_at hl 0 rfl) ?_
          refine fw_geti hx hb hts i_FR hown hK hP (xm_0 (by decide)) (xk_0 0) rfl 5 (by decide) (hts _ L_FR_112) (fun _ h9 => h9) rfl xd_FR_open_51 ?_
          refine lv_iconst (v := (1 : Int32)) hx hb xd_FR_open_54 (by decide) ?_
          refine lv_iadd hx hb xd_FR_open_55 ?_
          exact J1 v0 (((v0 0 0 5) + (1 : Int32))) _ _ _ (by subst er1 er5; simp only [xf_FR_open, if_neg c_2, if_neg c_6, if_neg c_8, if_pos c_9]) h_3  hI hP hS (lv_sub hl [0, 1] rfl)
        · refine lv_iconst (v := (1 : Int32)) hx hb xd_FR_open_46 (by decide) ?_
          refine lv_goto (tgt := 56) hx hb xd_FR_open_47 (by decide) ?_
          exact J2 v0  _ _ _ (by subst er1 er5; simp only [xf_FR_open, if_neg c_2, if_neg c_6, if_neg c_8, if_neg c_9]) h_3  hI hP hS (lv_sub hl [0, 1] rfl)
      · refine lv_bipush (v := (-2 : Int32)) hx hb xd_FR_open_33 (by decide) ?_
        exact fw_iret hx hb hr hlocks hS hP hI xd_FR_open_35 (by subst er1 er5; simp only [xf_FR_open, if_neg c_2, if_neg c_6, if_pos c_8])
  · refine lv_iconst (v := (-1 : Int32)) hx hb xd_FR_open_7 (by decide) ?_
    exact fw_iret hx hb hr hlocks hS hP hI xd_FR_open_8 (by subst er1; simp only [xf_FR_open, if_pos c_2])
def xf_Re_shut (v0 : fw_V) (r : Nat) : fw_V :=
  let v1 := xf_Re_enter v0 (r) (0 : Int32)
  let v2 := fw_up v1 13 r 11 (0 : Int32)
  let v3 := fw_up v2 13 r 12 (-1 : Int32)
  let v4 := fw_up v3 13 r 14 (0 : Int32)
  let v5 := fw_row v4 18 r (fun _ => (0 : Int32))
  v5

set_option maxHeartbeats 4000000 in
set_option maxRecDepth 100000 in
theorem xc_Re_shut (l : Launch) {D : va_G} {cA : Nat → ClassId} {ad : Nat → Nat → Nat} (hD : fw_D xCL ad) {b : Nat} (v0 : fw_V) (hI : xI b v0) (r : Nat) (hr0 : r < 2)  : Met l xy_Re_shut (Cond.code xy_Re_shut xb_Re_shut 1 none :: vTB) xrm_Re_shut (fw_Pc vNL D vcls (vtys cA) xCL cA xkd ad v0 [.ref (ad 13 r)]) (fw_Qv D vcls xCL cA xkd ad (xI b) (xf_Re_shut v0 r)) 0 0 (fw_A xCL ad) := by
  refine Met.ofW (cc := xb_Re_shut) (maxL := 1) (ret := none) (by decide) rfl ?_
  intro p e s m args below meth c s₁ B hml hv
  obtain ⟨rfl, hP, hK, hN⟩ := hv
  have hx := B.exec
  have hb := B.bytes
  have hr := B.returns
  have hts : ∀ w ∈ vTB, w.before ([.ref (ad 13 r)] : List Value).toArray s = true := fun w h => atoms_spec (ws := (Cond.code xy_Re_shut xb_Re_shut 1 none :: vTB)) B.pre w (List.mem_cons_of_mem _ h)
  have hown : s.vm.findClass R_Re = some m.cls := findClass_of_methodNamed B.named
  have hlocks := B.notSynchronized
  have hS : va_S (fw_A xCL ad) s.heap s.heap [] := va_S.rf
  skip
  have hl := lv_entry ([.ref (ad 13 r)]) (n := 1) (Nat.le_of_ble_eq_true rfl)
  rw [lg_entry_eq]
  generalize (lg_sl ([.ref (ad 13 r)]) ++ List.replicate (1 - (lg_sl ([.ref (ad 13 r)])).length) Slot.unset).toArray = ls at hl ⊢
  have hl : lv_has ls 1 [(0, .ref (ad 13 r))] := hl
  refine lv_aload_n hx hb xd_Re_shut_0 rfl (lv_at hl 0 rfl) ?_
  refine lv_iconst (v := (0 : Int32)) hx hb xd_Re_shut_1 (by decide) ?_
  refine fw_cv (va_runV (As := [.int (0 : Int32)]) (rest := []) ⟨hx, hb, hml, hown, hts⟩ (xc_Re_enter l hD v0 hI (r) (by omega) (0 : Int32)) (xw_Re_enter hts L_Re_68 ⟨Nat.le_of_ble_eq_true rfl, Nat.le_of_ble_eq_true rfl⟩) (fw_preV hN hK hP (xm_13 (by omega)) (xk_13 r) rfl) rfl rfl hl.1 rfl (lv_room (Nat.le_of_ble_eq_true rfl)) xd_Re_shut_2 ⟨Nat.le_of_ble_eq_true rfl, Nat.le_of_ble_eq_true rfl⟩) hS (fun v1 H locs ev1 hI hP hS => ?_)
  refine lv_aload_n hx hb xd_Re_shut_5 rfl (lv_at hl 0 rfl) ?_
  refine lv_iconst (v := (0 : Int32)) hx hb xd_Re_shut_6 (by decide) ?_
  refine fw_puti hx hb hts i_Re t_Re t_Re_ok n_Re hown hK hD hP hS (xm_13 (by omega)) (xk_13 r) rfl 11 (by decide) (hts _ L_Re_59) (fun _ h9 => h9) rfl fw_pdI rfl rfl rfl xd_Re_shut_7 (fun v2 H locs ev2 hP hS => ?_)
  have hI : xI b v2 := by rw [ev2]; exact xI_up hI trivial trivial
  refine lv_aload_n hx hb xd_Re_shut_10 rfl (lv_at hl 0 rfl) ?_
  refine lv_iconst (v := (-1 : Int32)) hx hb xd_Re_shut_11 (by decide) ?_
  refine fw_puti hx hb hts i_Re t_Re t_Re_ok n_Re hown hK hD hP hS (xm_13 (by omega)) (xk_13 r) rfl 12 (by decide) (hts _ L_Re_31) (fun _ h9 => h9) rfl fw_pdI rfl rfl rfl xd_Re_shut_12 (fun v3 H locs ev3 hP hS => ?_)
  have hI : xI b v3 := by rw [ev3]; exact xI_up hI trivial trivial
  refine lv_aload_n hx hb xd_Re_shut_15 rfl (lv_at hl 0 rfl) ?_
  refine lv_iconst (v := (0 : Int32)) hx hb xd_Re_shut_16 (by decide) ?_
  refine fw_puti hx hb hts i_Re t_Re t_Re_ok n_Re hown hK hD hP hS (xm_13 (by omega)) (xk_13 r) rfl 14 (by decide) (hts _ L_Re_124) (fun _ h9 => h9) rfl fw_pdI rfl rfl rfl xd_Re_shut_17 (fun v4 H locs ev4 hP hS => ?_)
  have hI : xI b v4 := by rw [ev4]; exact xI_up hI trivial trivial
  refine lv_aload_n hx hb xd_Re_shut_20 rfl (lv_at hl 0 rfl) ?_
  refine fw_getr hx hb hts i_Re hown hK hP (xm_13 (by omega)) (xk_13 r) rfl 9 (by decide) (hts _ L_Re_28) (fun _ h9 => h9) rfl xd_Re_shut_21 ?_
  refine lv_iconst (v := (0 : Int32)) hx hb xd_Re_shut_24 (by decide) ?_
  refine fw_cv (va_runS (As := [.ref (ad 18 r), .int (0 : Int32)]) (rest := []) ⟨hx, hb, hml, hown, hts⟩ (xc_fill l hD v4 hI (xm_18 (by omega)) (xk_18 r) (by decide) (0 : Int32) (fun _ => trivial)) (xw_fill hts L_Re_50 ⟨Nat.le_of_ble_eq_true rfl, Nat.le_of_ble_eq_true rfl⟩) (fw_preS hN hK hP) rfl rfl hl.1 rfl (lv_room (Nat.le_of_ble_eq_true rfl)) xd_Re_shut_25 ⟨Nat.le_of_ble_eq_true rfl, Nat.le_of_ble_eq_true rfl⟩) hS (fun v5 H locs ev5 hI hP hS => ?_)
  exact fw_vret hx hb hr hlocks hS hP hI xd_Re_shut_28 (by subst ev1 ev2 ev3 ev4 ev5; simp only [xf_Re_shut])
def xf_Re_abort (v0 : fw_V) (r : Nat) : fw_V :=
  let p3 := xf_Wi_send v0 (16 : Int32) (v0 13 r 11) (0 : Int32) (v0 13 r 12)
  let y1 := p3.1
  let v2 := p3.2
  let v4 := xf_Re_shut v2 (r)
  v4

set_option maxHeartbeats 4000000 in
set_option maxRecDepth 100000 in
theorem xc_Re_abort (l : Launch) {D : va_G} {cA : Nat → ClassId} {ad : Nat → Nat → Nat} (hD : fw_D xCL ad) {b : Nat} (v0 : fw_V) (hI : xI b v0) (r : Nat) (hr0 : r < 2)  : Met l xy_Re_abort (Cond.code xy_Re_abort xb_Re_abort 1 none :: vTB) xrm_Re_abort (fw_Pc vNL D vcls (vtys cA) xCL cA xkd ad v0 [.ref (ad 13 r)]) (fw_Qv D vcls xCL cA xkd ad (xI b) (xf_Re_abort v0 r)) 0 0 (fw_A xCL ad) := by
  refine Met.ofW (cc := xb_Re_abort) (maxL := 1) (ret := none) (by decide) rfl ?_
  intro p e s m args below meth c s₁ B hml hv
  obtain ⟨rfl, hP, hK, hN⟩ := hv
  have hx := B.exec
  have hb := B.bytes
  have hr := B.returns
  have hts : ∀ w ∈ vTB, w.before ([.ref (ad 13 r)] : List Value).toArray s = true := fun w h => atoms_spec (ws := (Cond.code xy_Re_abort xb_Re_abort 1 none :: vTB)) B.pre w (List.mem_cons_of_mem _ h)
  have hown : s.vm.findClass R_Re = some m.cls := findClass_of_methodNamed B.named
  have hlocks := B.notSynchronized
  have hS : va_S (fw_A xCL ad) s.heap s.heap [] := va_S.rf
  skip
  have hl := lv_entry ([.ref (ad 13 r)]) (n := 1) (Nat.le_of_ble_eq_true rfl)
  rw [lg_entry_eq]
  generalize (lg_sl ([.ref (ad 13 r)]) ++ List.replicate (1 - (lg_sl ([.ref (ad 13 r)])).length) Slot.unset).toArray = ls at hl ⊢
  have hl : lv_has ls 1 [(0, .ref (ad 13 r))] := hl
  refine lv_aload_n hx hb xd_Re_abort_0 rfl (lv_at hl 0 rfl) ?_
  refine fw_getr hx hb hts i_Re hown hK hP (xm_13 (by omega)) (xk_13 r) rfl 2 (by decide) (hts _ L_Re_42) (fun _ h9 => h9) rfl xd_Re_abort_1 ?_
  refine lv_bipush (v := (16 : Int32)) hx hb xd_Re_abort_4 (by decide) ?_
  refine lv_aload_n hx hb xd_Re_abort_6 rfl (lv_at hl 0 rfl) ?_
  refine fw_geti hx hb hts i_Re hown hK hP (xm_13 (by omega)) (xk_13 r) rfl 11 (by decide) (hts _ L_Re_59) (fun _ h9 => h9) rfl xd_Re_abort_7 ?_
  refine lv_iconst (v := (0 : Int32)) hx hb xd_Re_abort_10 (by decide) ?_
  refine lv_aload_n hx hb xd_Re_abort_11 rfl (lv_at hl 0 rfl) ?_
  refine fw_geti hx hb hts i_Re hown hK hP (xm_13 (by omega)) (xk_13 r) rfl 12 (by decide) (hts _ L_Re_31) (fun _ h9 => h9) rfl xd_Re_abort_12 ?_
  refine fw_cr (va_runV (As := [.int (16 : Int32), .int (v0 13 r 11), .int (0 : Int32), .int (v0 13 r 12)]) (rest := []) ⟨hx, hb, hml, hown, hts⟩ (xc_Wi_send l hD v0 hI (16 : Int32) (v0 13 r 11) (0 : Int32) (v0 13 r 12)) (xw_Wi_send hts L_Re_145 ⟨Nat.le_of_ble_eq_true rfl, Nat.le_of_ble_eq_true rfl⟩) (fw_preV hN hK hP (xm_5 (by decide)) (xk_5 0) rfl) rfl rfl hl.1 rfl (lv_room (Nat.le_of_ble_eq_true rfl)) xd_Re_abort_15 ⟨Nat.le_of_ble_eq_true rfl, Nat.le_of_ble_eq_true rfl⟩) hS (fun y1 v2 H locs ly1 ey1 ev2 hI hP hS => ?_)
  refine lv_pop hx hb xd_Re_abort_18 rfl ?_
  refine lv_aload_n hx hb xd_Re_abort_19 rfl (lv_at hl 0 rfl) ?_
  refine fw_cv (va_runV (As := []) (rest := []) ⟨hx, hb, hml, hown, hts⟩ (xc_Re_shut l hD v2 hI (r) (by omega)) (xw_Re_shut hts L_Re_78 ⟨Nat.le_of_ble_eq_true rfl, Nat.le_of_ble_eq_true rfl⟩) (fw_preV hN hK hP (xm_13 (by omega)) (xk_13 r) rfl) rfl rfl hl.1 rfl (lv_room (Nat.le_of_ble_eq_true rfl)) xd_Re_abort_20 ⟨Nat.le_of_ble_eq_true rfl, Nat.le_of_ble_eq_true rfl⟩) hS (fun v4 H locs ev4 hI hP hS => ?_)
  exact fw_vret hx hb hr hlocks hS hP hI xd_Re_abort_23 (by subst ey1 ev2 ev4; simp only [xf_Re_abort])
def xf_Re_end (v0 : fw_V) (r : Nat) : Int32 × fw_V :=
  if (v0 13 r 10) ≤ (1 : Int32) then
    let v2 := xf_Re_shut v0 (r)
    ((v0 13 r 10), v2)
  else
    let v3 := xf_Re_abort v0 (r)
    ((v0 13 r 10), v3)

set_option maxHeartbeats 4000000 in
set_option maxRecDepth 100000 in
theorem xc_Re_end (l : Launch) {D : va_G} {cA : Nat → ClassId} {ad : Nat → Nat → Nat} (hD : fw_D xCL ad) {b : Nat} (v0 : fw_V) (hI : xI b v0) (r : Nat) (hr0 : r < 2)  : Met l xy_Re_end (Cond.code xy_Re_end xb_Re_end 2 (some .int) :: vTB) xrm_Re_end (fw_Pc vNL D vcls (vtys cA) xCL cA xkd ad v0 [.ref (ad 13 r)]) (fw_Qi D vcls xCL cA xkd ad (xI b) (xf_Re_end v0 r)) 0 0 (fw_A xCL ad) := by
  refine Met.ofW (cc := xb_Re_end) (maxL := 2) (ret := (some .int)) (by decide) rfl ?_
  intro p e s m args below meth c s₁ B hml hv
  obtain ⟨rfl, hP, hK, hN⟩ := hv
  have hx := B.exec
  have hb := B.bytes
  have hr := B.returns
  have hts : ∀ w ∈ vTB, w.before ([.ref (ad 13 r)] : List Value).toArray s = true := fun w h => atoms_spec (ws := (Cond.code xy_Re_end xb_Re_end 2 (some .int) :: vTB)) B.pre w (List.mem_cons_of_mem _ h)
  have hown : s.vm.findClass R_Re = some m.cls := findClass_of_methodNamed B.named
  have hlocks := B.notSynchronized
  have hS : va_S (fw_A xCL ad) s.heap s.heap [] := va_S.rf
  skip
  have hl := lv_entry ([.ref (ad 13 r)]) (n := 2) (Nat.le_of_ble_eq_true rfl)
  rw [lg_entry_eq]
  generalize (lg_sl ([.ref (ad 13 r)]) ++ List.replicate (2 - (lg_sl ([.ref (ad 13 r)])).length) Slot.unset).toArray = ls at hl ⊢
  have hl : lv_has ls 2 [(0, .ref (ad 13 r))] := hl
  refine lv_aload_n hx hb xd_Re_end_0 rfl (lv_at hl 0 rfl) ?_
  refine fw_geti hx hb hts i_Re hown hK hP (xm_13 (by omega)) (xk_13 r) rfl 10 (by decide) (hts _ L_Re_56) (fun _ h9 => h9) rfl xd_Re_end_1 ?_
  refine lv_istore_n (lv' := [(1, .int (v0 13 r 10)), (0, .ref (ad 13 r))]) hx hb xd_Re_end_4 rfl hl (by decide) rfl (fun ls hl => ?_)
  refine lv_aload_n hx hb xd_Re_end_5 rfl (lv_at hl 1 rfl) ?_
  refine fw_geti hx hb hts i_Re hown hK hP (xm_13 (by omega)) (xk_13 r) rfl 10 (by decide) (hts _ L_Re_56) (fun _ h9 => h9) rfl xd_Re_end_6 ?_
  refine lv_iconst (v := (1 : Int32)) hx hb xd_Re_end_9 (by decide) ?_
  refine lv_icmp_le (tgt := 20) hx hb xd_Re_end_10 (by decide) (fun c_1 => ?_) (fun c_1 => ?_)
  · refine lv_aload_n hx hb xd_Re_end_20 rfl (lv_at hl 1 rfl) ?_
    refine fw_cv (va_runV (As := []) (rest := []) ⟨hx, hb, hml, hown, hts⟩ (xc_Re_shut l hD v0 hI (r) (by omega)) (xw_Re_shut hts L_Re_78 ⟨Nat.le_of_ble_eq_true rfl, Nat.le_of_ble_eq_true rfl⟩) (fw_preV hN hK hP (xm_13 (by omega)) (xk_13 r) rfl) rfl rfl hl.1 rfl (lv_room (Nat.le_of_ble_eq_true rfl)) xd_Re_end_21 ⟨Nat.le_of_ble_eq_true rfl, Nat.le_of_ble_eq_true rfl⟩) hS (fun v2 H locs ev2 hI hP hS => ?_)
    refine lv_iload_n hx hb xd_Re_end_24 rfl (lv_at hl 0 rfl) ?_
    exact fw_iret hx hb hr hlocks hS hP hI xd_Re_end_25 (by subst ev2; simp only [xf_Re_end, if_pos c_1])
  · refine lv_aload_n hx hb xd_Re_end_13 rfl (lv_at hl 1 rfl) ?_
    refine fw_cv (va_runV (As := []) (rest := []) ⟨hx, hb, hml, hown, hts⟩ (xc_Re_abort l hD v0 hI (r) (by omega)) (xw_Re_abort hts L_Re_75 ⟨Nat.le_of_ble_eq_true rfl, Nat.le_of_ble_eq_true rfl⟩) (fw_preV hN hK hP (xm_13 (by omega)) (xk_13 r) rfl) rfl rfl hl.1 rfl (lv_room (Nat.le_of_ble_eq_true rfl)) xd_Re_end_14 ⟨Nat.le_of_ble_eq_true rfl, Nat.le_of_ble_eq_true rfl⟩) hS (fun v3 H locs ev3 hI hP hS => ?_)
    refine lv_goto (tgt := 24) hx hb xd_Re_end_17 (by decide) ?_
    refine lv_iload_n hx hb xd_Re_end_24 rfl (lv_at hl 0 rfl) ?_
    exact fw_iret hx hb hr hlocks hS hP hI xd_Re_end_25 (by subst ev3; simp only [xf_Re_end, if_neg c_1])
def xf_FR_close (v0 : fw_V) (a1 : Int32) : Int32 × fw_V :=
  let r1 := xf_FR_isDevice a1
  if r1 = (0 : Int32) then
    ((-1 : Int32), v0)
  else
    let p7 := xf_Re_end v0 ((a1.toNatClampNeg))
    let r5 := p7.1
    let v6 := p7.2
    (r5, v6)

set_option maxHeartbeats 4000000 in
set_option maxRecDepth 100000 in
theorem xc_FR_close (l : Launch) {D : va_G} {cA : Nat → ClassId} {ad : Nat → Nat → Nat} (hD : fw_D xCL ad) {b : Nat} (v0 : fw_V) (hI : xI b v0) (a1 : Int32)  : Met l xy_FR_close (Cond.code xy_FR_close xb_FR_close 2 (some .int) :: vTB) xrm_FR_close (fw_Pc vNL D vcls (vtys cA) xCL cA xkd ad v0 [.ref (ad 0 0), .int a1]) (fw_Qi D vcls xCL cA xkd ad (xI b) (xf_FR_close v0 a1)) 0 0 (fw_A xCL ad) := by
  refine Met.ofW (cc := xb_FR_close) (maxL := 2) (ret := (some .int)) (by decide) rfl ?_
  intro p e s m args below meth c s₁ B hml hv
  obtain ⟨rfl, hP, hK, hN⟩ := hv
  have hx := B.exec
  have hb := B.bytes
  have hr := B.returns
  have hts : ∀ w ∈ vTB, w.before ([.ref (ad 0 0), .int a1] : List Value).toArray s = true := fun w h => atoms_spec (ws := (Cond.code xy_FR_close xb_FR_close 2 (some .int) :: vTB)) B.pre w (List.mem_cons_of_mem _ h)
  have hown : s.vm.findClass R_FR = some m.cls := findClass_of_methodNamed B.named
  have hlocks := B.notSynchronized
  have hS : va_S (fw_A xCL ad) s.heap s.heap [] := va_S.rf
  skip
  have hl := lv_entry ([.ref (ad 0 0), .int a1]) (n := 2) (Nat.le_of_ble_eq_true rfl)
  rw [lg_entry_eq]
  generalize (lg_sl ([.ref (ad 0 0), .int a1]) ++ List.replicate (2 - (lg_sl ([.ref (ad 0 0), .int a1])).length) Slot.unset).toArray = ls at hl ⊢
  have hl : lv_has ls 2 [(0, .ref (ad 0 0)), (1, .int a1)] := hl
  refine lv_iload_n hx hb xd_FR_close_0 rfl (lv_at hl 1 rfl) ?_
  refine fw_cb (va_runS (As := [.int a1]) (rest := []) ⟨hx, hb, hml, hown, hts⟩ (xc_FR_isDevice l hD v0 hI a1) (xw_FR_isDevice hts L_FR_64 ⟨Nat.le_of_ble_eq_true rfl, Nat.le_of_ble_eq_true rfl⟩) (fw_preS hN hK hP) rfl rfl hl.1 rfl (lv_room (Nat.le_of_ble_eq_true rfl)) xd_FR_close_1 ⟨Nat.le_of_ble_eq_true rfl, Nat.le_of_ble_eq_true rfl⟩) hS (fun r1 H locs zr1 er1 hP hS => ?_)
  refine lv_if_eq (tgt := 19) hx hb xd_FR_close_4 (by decide) (fun c_2 => ?_) (fun c_2 => ?_)
  · refine lv_iconst (v := (-1 : Int32)) hx hb xd_FR_close_19 (by decide) ?_
    exact fw_iret hx hb hr hlocks hS hP hI xd_FR_close_20 (by subst er1; simp only [xf_FR_close, if_pos c_2])
  · have h_3 : vp_in a1 2 := xp_FR_isDevice er1 c_2
    refine lv_aload_n hx hb xd_FR_close_7 rfl (lv_at hl 0 rfl) ?_
    refine fw_getr hx hb hts i_FR hown hK hP (xm_0 (by decide)) (xk_0 0) rfl 3 (by decide) (hts _ L_FR_32) (fun _ h9 => h9) rfl xd_FR_close_8 ?_
    refine lv_iload_n hx hb xd_FR_close_11 rfl (lv_at hl 1 rfl) ?_
    have k_4 : a1.toNatClampNeg < 2 := fw_inlt h_3
    refine fw_alds hx hb hK hP (xm_11 (by decide)) (xk_11 0) 3 rfl (j := a1.toNatClampNeg) rfl h_3 xd_FR_close_12 ?_
    refine fw_ci (va_runV (As := []) (rest := []) ⟨hx, hb, hml, hown, hts⟩ (xc_Re_end l hD v0 hI ((a1.toNatClampNeg)) (by omega)) (xw_Re_end hts L_FR_123 ⟨Nat.le_of_ble_eq_true rfl, Nat.le_of_ble_eq_true rfl⟩) (fw_preV hN hK hP (xm_13 (by omega)) (xk_13 (a1.toNatClampNeg)) rfl) rfl rfl hl.1 rfl (lv_room (Nat.le_of_ble_eq_true rfl)) xd_FR_close_13 ⟨Nat.le_of_ble_eq_true rfl, Nat.le_of_ble_eq_true rfl⟩) hS (fun r5 v6 H locs er5 ev6 hI hP hS => ?_)
    refine lv_goto (tgt := 20) hx hb xd_FR_close_16 (by decide) ?_
    exact fw_iret hx hb hr hlocks hS hP hI xd_FR_close_20 (by subst er1 er5 ev6; simp only [xf_FR_close, if_neg c_2])
def xf_Wi_has (v0 : fw_V) (a1 : Int32) : Int32 :=
  let r2 := xf_FR_within a1 (0 : Int32) ((v0 5 0 2) - (1 : Int32))
  r2

theorem xp_has {r k : Int32} {v : fw_V} (er : r = xf_Wi_has v k) (c : ¬ r = 0) (h : vp_in (v 5 0 2) 17) : vp_in k 16 := by
  have hw := xp_w (a := k) (lo := 0) (hi := v 5 0 2 - 1) (by rw [er] at c; exact c)
  rw [fw_pred h (by decide)] at hw
  have e0 : (0 : Int32).toInt = 0 := by decide
  have h2 := vp_in_iff.mp h
  rw [vp_in_iff]; omega
theorem xp_hasPos {r k : Int32} {v : fw_V} (er : r = xf_Wi_has v k) (c : ¬ r = 0) (h : vp_in (v 5 0 2) 17) : 0 < (v 5 0 2).toInt := by
  have hw := xp_w (a := k) (lo := 0) (hi := v 5 0 2 - 1) (by rw [er] at c; exact c)
  rw [fw_pred h (by decide)] at hw
  have e0 : (0 : Int32).toInt = 0 := by decide
  omega
set_option maxHeartbeats 4000000 in
set_option maxRecDepth 100000 in
theorem xc_Wi_has (l : Launch) {D : va_G} {cA : Nat → ClassId} {ad : Nat → Nat → Nat} (hD : fw_D xCL ad) {b : Nat} (v0 : fw_V) (hI : xI b v0) (a1 : Int32)  : Met l xy_Wi_has (Cond.code xy_Wi_has xb_Wi_has 2 (some .boolean) :: vTB) xrm_Wi_has (fw_Pc vNL D vcls (vtys cA) xCL cA xkd ad v0 [.ref (ad 5 0), .int a1]) (fw_Qb D vcls xCL cA xkd ad v0 (xf_Wi_has v0 a1)) 0 0 (fw_A xCL ad) := by
  refine Met.ofW (cc := xb_Wi_has) (maxL := 2) (ret := (some .boolean)) (by decide) rfl ?_
  intro p e s m args below meth c s₁ B hml hv
  obtain ⟨rfl, hP, hK, hN⟩ := hv
  have hx := B.exec
  have hb := B.bytes
  have hr := B.returns
  have hts : ∀ w ∈ vTB, w.before ([.ref (ad 5 0), .int a1] : List Value).toArray s = true := fun w h => atoms_spec (ws := (Cond.code xy_Wi_has xb_Wi_has 2 (some .boolean) :: vTB)) B.pre w (List.mem_cons_of_mem _ h)
  have hown : s.vm.findClass R_Wi = some m.cls := findClass_of_methodNamed B.named
  have hlocks := B.notSynchronized
  have hS : va_S (fw_A xCL ad) s.heap s.heap [] := va_S.rf
  skip
  have hl := lv_entry ([.ref (ad 5 0), .int a1]) (n := 2) (Nat.le_of_ble_eq_true rfl)
  rw [lg_entry_eq]
  generalize (lg_sl ([.ref (ad 5 0), .int a1]) ++ List.replicate (2 - (lg_sl ([.ref (ad 5 0), .int a1])).length) Slot.unset).toArray = ls at hl ⊢
  have hl : lv_has ls 2 [(0, .ref (ad 5 0)), (1, .int a1)] := hl
  refine lv_iload_n hx hb xd_Wi_has_0 rfl (lv_at hl 1 rfl) ?_
  refine lv_iconst (v := (0 : Int32)) hx hb xd_Wi_has_1 (by decide) ?_
  refine lv_aload_n hx hb xd_Wi_has_2 rfl (lv_at hl 0 rfl) ?_
  refine fw_geti hx hb hts i_Wi hown hK hP (xm_5 (by decide)) (xk_5 0) rfl 2 (by decide) (hts _ L_Wi_20) (fun _ h9 => h9) rfl xd_Wi_has_3 ?_
  have h_1 : vp_in (v0 5 0 2) 17 := hI.1 5 0 2
  refine lv_iconst (v := (1 : Int32)) hx hb xd_Wi_has_6 (by decide) ?_
  refine lv_isub hx hb xd_Wi_has_7 ?_
  refine fw_cb (va_runSN (As := [.int a1, .int (0 : Int32), .int ((v0 5 0 2) - (1 : Int32))]) (rest := []) ⟨hx, hb, hml, hown, hts⟩ (xc_FR_within l hD v0 hI a1 (0 : Int32) ((v0 5 0 2) - (1 : Int32))) (xwn_FR_within hts (hN.2 _ L_Wi_24) ⟨Nat.le_of_ble_eq_true rfl, Nat.le_of_ble_eq_true rfl⟩) (fw_preS hN hK hP) rfl rfl hl.1 rfl (lv_room (Nat.le_of_ble_eq_true rfl)) xd_Wi_has_8 ⟨Nat.le_of_ble_eq_true rfl, Nat.le_of_ble_eq_true rfl⟩) hS (fun r2 H locs zr2 er2 hP hS => ?_)
  exact fw_bret hx hb hr hlocks hS hP xd_Wi_has_11 zr2 (by subst er2; simp only [xf_Wi_has])
def xf_Wi_take_j1 : Nat → fw_V → Int32 → Nat → Int32 → Nat × fw_V
  | 0, v, a1, k2, x3 => (0, v)
  | n + 1, v, a1, k2, x3 =>
    if (16 : Int32) ≤ x3 then
      let v3 := fw_up v 6 0 (16) (nI (k2))
      let v6 := fw_up v3 5 0 2 ((v3 5 0 2) - (1 : Int32))
      (k2, v6)
    else
      let v9 := fw_up v 6 0 (x3.toNatClampNeg) (nI ((v 6 0 (x3 + (1 : Int32)).toNatClampNeg).toNatClampNeg))
      xf_Wi_take_j1 n v9 a1 (k2) ((x3 + (1 : Int32)))
def xf_Wi_take (v0 : fw_V) (a1 : Int32) : Nat × fw_V :=
  xf_Wi_take_j1 20 v0 a1 ((v0 6 0 a1.toNatClampNeg).toNatClampNeg) (a1)

set_option maxHeartbeats 4000000 in
set_option maxRecDepth 100000 in
theorem xc_Wi_take (l : Launch) {D : va_G} {cA : Nat → ClassId} {ad : Nat → Nat → Nat} (hD : fw_D xCL ad) {b : Nat} (v0 : fw_V) (hI : xI b v0) (a1 : Int32) (hq0 : vp_in a1 16) (hq1 : 0 < (v0 5 0 2).toInt) : Met l xy_Wi_take (Cond.code xy_Wi_take xb_Wi_take 4 (some (.object R_Fm)) :: vTB) xrm_Wi_take (fw_Pc vNL D vcls (vtys cA) xCL cA xkd ad v0 [.ref (ad 5 0), .int a1]) (fw_Qr D vcls xCL cA xkd ad (xI b) 7 18 (xf_Wi_take v0 a1)) 0 0 (fw_A xCL ad) := by
  refine Met.ofW (cc := xb_Wi_take) (maxL := 4) (ret := (some (.object R_Fm))) (by decide) rfl ?_
  intro p e s m args below meth c s₁ B hml hv
  obtain ⟨rfl, hP, hK, hN⟩ := hv
  have hx := B.exec
  have hb := B.bytes
  have hr := B.returns
  have hts : ∀ w ∈ vTB, w.before ([.ref (ad 5 0), .int a1] : List Value).toArray s = true := fun w h => atoms_spec (ws := (Cond.code xy_Wi_take xb_Wi_take 4 (some (.object R_Fm)) :: vTB)) B.pre w (List.mem_cons_of_mem _ h)
  have hown : s.vm.findClass R_Wi = some m.cls := findClass_of_methodNamed B.named
  have hlocks := B.notSynchronized
  have hS : va_S (fw_A xCL ad) s.heap s.heap [] := va_S.rf
  have J1 : ∀ (n : Nat) (v : fw_V) (k2 : Nat) (x3 : Int32) (H : Heap) (locs : List Loc) (ls : Array Slot), xf_Wi_take v0 a1 = xf_Wi_take_j1 n v a1 k2 x3 → (0 ≤ x3.toInt ∧ x3.toInt ≤ (16 : Int32).toInt ∧ (16 : Int32).toInt < x3.toInt + n) → k2 < 18 → 0 < (v 5 0 2).toInt → xI b v → va_P D vcls (fw_w xCL cA xkd ad v) H → va_S (fw_A xCL ad) s.heap H locs → lv_has ls 4 [(0, .ref (ad 5 0)), (2, .ref (ad 7 k2)), (3, .int x3)] → W p l e (headSpec (Cond.code xy_Wi_take xb_Wi_take 4 (some (.object R_Fm)) :: vTB) xrm_Wi_take).room s m ([.ref (ad 5 0), .int a1] : List Value).toArray below meth c H locs 0 0 (MQ below (fw_Qr D vcls xCL cA xkd ad (xI b) 7 18 (xf_Wi_take v0 a1)) ([.ref (ad 5 0), .int a1] : List Value).toArray s 0 0 (fw_A xCL ad)) (F0 m 9 ls []) := by
    intro n
    induction n with
    | zero =>
      intro v k2 x3 H locs ls hj hn
      exact absurd hn.2.2 (by omega)
    | succ n ih =>
      intro v k2 x3 H locs ls hj hn hc0 hkf0 hI hP hS hl
      refine lv_iload_n hx hb xd_Wi_take_9 rfl (lv_at hl 2 rfl) ?_
      refine lv_bipush (v := (16 : Int32)) hx hb xd_Wi_take_10 (by decide) ?_
      refine lv_icmp_ge (tgt := 35) hx hb xd_Wi_take_12 (by decide) (fun c_2 => ?_) (fun c_2 => ?_)
      · refine lv_aload_n hx hb xd_Wi_take_35 rfl (lv_at hl 0 rfl) ?_
        refine fw_getr hx hb hts i_Wi hown hK hP (xm_5 (by decide)) (xk_5 0) rfl 0 (by decide) (hts _ L_Wi_11) (fun _ h9 => h9) rfl xd_Wi_take_36 ?_
        refine lv_bipush (v := (16 : Int32)) hx hb xd_Wi_take_39 (by decide) ?_
        refine lv_aload_n hx hb xd_Wi_take_41 rfl (lv_at hl 1 rfl) ?_
        refine fw_astv hx hb hK hD hP hS (xm_6 (by decide)) (xk_6 0) 2 (r := (R_Fm, F_Fm, 5)) rfl (xm_7 (by omega)) (xk_7 (k2)) rfl (y := (nI (k2))) (nI_clamp (by omega)) (jx := 16) (by decide) (fw_inc (by decide)) xd_Wi_take_42 (fun v3 H locs ev3 hP hS => ?_)
        have hI : xI b v3 := by rw [ev3]; exact xI_up hI (vp_in_nI (show k2 < 18 by omega) (by decide)) trivial
        refine lv_aload_n hx hb xd_Wi_take_43 rfl (lv_at hl 0 rfl) ?_
        refine lv_dup hx hb xd_Wi_take_44 rfl ?_
        refine fw_geti hx hb hts i_Wi hown hK hP (xm_5 (by decide)) (xk_5 0) rfl 2 (by decide) (hts _ L_Wi_20) (fun _ h9 => h9) rfl xd_Wi_take_45 ?_
        have h_4 : vp_in (v3 5 0 2) 17 := hI.1 5 0 2
        have h_5 : 0 < (v3 5 0 2).toInt := (by rw [ev3, fw_up_c (c := 6) (c' := 5) (by decide)]; exact hkf0)
        refine lv_iconst (v := (1 : Int32)) hx hb xd_Wi_take_48 (by decide) ?_
        refine lv_isub hx hb xd_Wi_take_49 ?_
        refine fw_puti hx hb hts i_Wi t_Wi t_Wi_ok n_Wi hown hK hD hP hS (xm_5 (by decide)) (xk_5 0) rfl 2 (by decide) (hts _ L_Wi_20) (fun _ h9 => h9) rfl fw_pdI rfl rfl rfl xd_Wi_take_50 (fun v6 H locs ev6 hP hS => ?_)
        have hI : xI b v6 := by rw [ev6]; exact xI_up hI (fw_inm (fw_inm1 h_4 h_5) (by decide)) trivial
        refine lv_aload_n hx hb xd_Wi_take_53 rfl (lv_at hl 1 rfl) ?_
        exact fw_rret hx hb hr hlocks hS hP hI xd_Wi_take_54 (by omega) (by rw [hj]; subst ev3 ev6; simp only [xf_Wi_take_j1, if_pos c_2])
      · have h_7 : vp_in x3 16 := fw_in3 hn.1 c_2
        refine lv_aload_n hx hb xd_Wi_take_15 rfl (lv_at hl 0 rfl) ?_
        refine fw_getr hx hb hts i_Wi hown hK hP (xm_5 (by decide)) (xk_5 0) rfl 0 (by decide) (hts _ L_Wi_11) (fun _ h9 => h9) rfl xd_Wi_take_16 ?_
        refine lv_iload_n hx hb xd_Wi_take_19 rfl (lv_at hl 2 rfl) ?_
        refine lv_aload_n hx hb xd_Wi_take_20 rfl (lv_at hl 0 rfl) ?_
        refine fw_getr hx hb hts i_Wi hown hK hP (xm_5 (by decide)) (xk_5 0) rfl 0 (by decide) (hts _ L_Wi_11) (fun _ h9 => h9) rfl xd_Wi_take_21 ?_
        refine lv_iload_n hx hb xd_Wi_take_24 rfl (lv_at hl 2 rfl) ?_
        refine lv_iconst (v := (1 : Int32)) hx hb xd_Wi_take_25 (by decide) ?_
        refine lv_iadd hx hb xd_Wi_take_26 ?_
        have k_8 : (v 6 0 (x3 + (1 : Int32)).toNatClampNeg).toNatClampNeg < 18 := fw_inlt (hI.1 6 0 ((x3 + (1 : Int32)).toNatClampNeg))
        refine fw_aldv hx hb hK hP (xm_6 (by decide)) (xk_6 0) 2 rfl (j := (x3 + (1 : Int32)).toNatClampNeg) rfl (fw_inp1 h_7 (by decide)) xd_Wi_take_27 ?_
        refine fw_astv hx hb hK hD hP hS (xm_6 (by decide)) (xk_6 0) 2 (r := (R_Fm, F_Fm, 5)) rfl (xm_7 (by omega)) (xk_7 ((v 6 0 (x3 + (1 : Int32)).toNatClampNeg).toNatClampNeg)) rfl (y := (nI ((v 6 0 (x3 + (1 : Int32)).toNatClampNeg).toNatClampNeg))) (nI_clamp (by omega)) (jx := x3.toNatClampNeg) rfl (fw_inm h_7 (by decide)) xd_Wi_take_28 (fun v9 H locs ev9 hP hS => ?_)
        have hI : xI b v9 := by rw [ev9]; exact xI_up hI (vp_in_nI (show (v 6 0 (x3 + (1 : Int32)).toNatClampNeg).toNatClampNeg < 18 by omega) (by decide)) trivial
        refine lv_iinc (v := (x3 + (1 : Int32))) (lv' := [(3, .int (x3 + (1 : Int32))), (0, .ref (ad 5 0)), (2, .ref (ad 7 k2))]) hx hb xd_Wi_take_29 hl (k := 2) rfl rfl (by decide) rfl (fun ls hl => ?_)
        refine lv_goto (tgt := 9) hx hb xd_Wi_take_32 (by decide) ?_
        exact ih v9 (k2) ((x3 + (1 : Int32))) _ _ _ (by rw [hj]; subst ev9; simp only [xf_Wi_take_j1, if_neg c_2]) (fw_step c_2 hn) (by omega) (by rw [ev9, fw_up_c (c := 6) (c' := 5) (by decide)]; exact hkf0) hI hP hS (lv_sub hl [1, 2, 0] rfl)
  skip
  have hl := lv_entry ([.ref (ad 5 0), .int a1]) (n := 4) (Nat.le_of_ble_eq_true rfl)
  rw [lg_entry_eq]
  generalize (lg_sl ([.ref (ad 5 0), .int a1]) ++ List.replicate (4 - (lg_sl ([.ref (ad 5 0), .int a1])).length) Slot.unset).toArray = ls at hl ⊢
  have hl : lv_has ls 4 [(0, .ref (ad 5 0)), (1, .int a1)] := hl
  refine lv_aload_n hx hb xd_Wi_take_0 rfl (lv_at hl 0 rfl) ?_
  refine fw_getr hx hb hts i_Wi hown hK hP (xm_5 (by decide)) (xk_5 0) rfl 0 (by decide) (hts _ L_Wi_11) (fun _ h9 => h9) rfl xd_Wi_take_1 ?_
  refine lv_iload_n hx hb xd_Wi_take_4 rfl (lv_at hl 1 rfl) ?_
  have k_1 : (v0 6 0 a1.toNatClampNeg).toNatClampNeg < 18 := fw_inlt (hI.1 6 0 (a1.toNatClampNeg))
  refine fw_aldv hx hb hK hP (xm_6 (by decide)) (xk_6 0) 2 rfl (j := a1.toNatClampNeg) rfl (fw_inm hq0 (by decide)) xd_Wi_take_5 ?_
  refine lv_astore_n (lv' := [(2, .ref (ad 7 (v0 6 0 a1.toNatClampNeg).toNatClampNeg)), (0, .ref (ad 5 0)), (1, .int a1)]) hx hb xd_Wi_take_6 rfl hl (by decide) rfl (fun ls hl => ?_)
  refine lv_iload_n hx hb xd_Wi_take_7 rfl (lv_at hl 2 rfl) ?_
  refine lv_istore_n (lv' := [(3, .int a1), (2, .ref (ad 7 (v0 6 0 a1.toNatClampNeg).toNatClampNeg)), (0, .ref (ad 5 0)), (1, .int a1)]) hx hb xd_Wi_take_8 rfl hl (by decide) rfl (fun ls hl => ?_)
  exact J1 20 v0 ((v0 6 0 a1.toNatClampNeg).toNatClampNeg) (a1) _ _ _ (by simp only [xf_Wi_take]) (fw_start (b := 16) (by decide) (fw_inm hq0 (by decide)) (by decide)) (by omega) hq1 hI hP hS (lv_sub hl [2, 1, 0] rfl)
def xf_Re_deviceFound (v0 : fw_V) (r : Nat) (k1 : Nat) : fw_V :=
  if (v0 13 r 10) = (1 : Int32) then
    if (v0 8 k1 0) = (v0 13 r 5) then
      let v3 := fw_up v0 13 r 12 (v0 7 k1 2)
      let v4 := xf_Re_enter v3 (r) (2 : Int32)
      let v5 := xf_Re_sendRequest v4 (r)
      v5
    else
      v0
  else
    v0

set_option maxHeartbeats 4000000 in
set_option maxRecDepth 100000 in
theorem xc_Re_deviceFound (l : Launch) {D : va_G} {cA : Nat → ClassId} {ad : Nat → Nat → Nat} (hD : fw_D xCL ad) {b : Nat} (v0 : fw_V) (hI : xI b v0) (r : Nat) (hr0 : r < 2) (k1 : Nat) (hk1 : k1 < 18)  : Met l xy_Re_deviceFound (Cond.code xy_Re_deviceFound xb_Re_deviceFound 2 none :: vTB) xrm_Re_deviceFound (fw_Pc vNL D vcls (vtys cA) xCL cA xkd ad v0 [.ref (ad 13 r), .ref (ad 7 k1)]) (fw_Qv D vcls xCL cA xkd ad (xI b) (xf_Re_deviceFound v0 r k1)) 0 0 (fw_A xCL ad) := by
  refine Met.ofW (cc := xb_Re_deviceFound) (maxL := 2) (ret := none) (by decide) rfl ?_
  intro p e s m args below meth c s₁ B hml hv
  obtain ⟨rfl, hP, hK, hN⟩ := hv
  have hx := B.exec
  have hb := B.bytes
  have hr := B.returns
  have hts : ∀ w ∈ vTB, w.before ([.ref (ad 13 r), .ref (ad 7 k1)] : List Value).toArray s = true := fun w h => atoms_spec (ws := (Cond.code xy_Re_deviceFound xb_Re_deviceFound 2 none :: vTB)) B.pre w (List.mem_cons_of_mem _ h)
  have hown : s.vm.findClass R_Re = some m.cls := findClass_of_methodNamed B.named
  have hlocks := B.notSynchronized
  have hS : va_S (fw_A xCL ad) s.heap s.heap [] := va_S.rf
  skip
  have hl := lv_entry ([.ref (ad 13 r), .ref (ad 7 k1)]) (n := 2) (Nat.le_of_ble_eq_true rfl)
  rw [lg_entry_eq]
  generalize (lg_sl ([.ref (ad 13 r), .ref (ad 7 k1)]) ++ List.replicate (2 - (lg_sl ([.ref (ad 13 r), .ref (ad 7 k1)])).length) Slot.unset).toArray = ls at hl ⊢
  have hl : lv_has ls 2 [(0, .ref (ad 13 r)), (1, .ref (ad 7 k1))] := hl
  refine lv_aload_n hx hb xd_Re_deviceFound_0 rfl (lv_at hl 0 rfl) ?_
  refine fw_geti hx hb hts i_Re hown hK hP (xm_13 (by omega)) (xk_13 r) rfl 10 (by decide) (hts _ L_Re_56) (fun _ h9 => h9) rfl xd_Re_deviceFound_1 ?_
  refine lv_iconst (v := (1 : Int32)) hx hb xd_Re_deviceFound_4 (by decide) ?_
  refine lv_icmp_ne (tgt := 38) hx hb xd_Re_deviceFound_5 (by decide) (fun c_1 => ?_) (fun c_1 => ?_)
  · exact fw_vret hx hb hr hlocks hS hP hI xd_Re_deviceFound_38 (by simp only [xf_Re_deviceFound, if_neg c_1])
  · refine lv_aload_n hx hb xd_Re_deviceFound_8 rfl (lv_at hl 1 rfl) ?_
    refine fw_getr hx hb hts i_Fm hown hK hP (xm_7 (by omega)) (xk_7 k1) rfl 4 (by decide) (hts _ L_Re_130) (fun _ h9 => h9) rfl xd_Re_deviceFound_9 ?_
    refine lv_iconst (v := (0 : Int32)) hx hb xd_Re_deviceFound_12 (by decide) ?_
    refine fw_iald hx hb hK hP (xm_8 (by omega)) (xk_8 k1) 0 rfl (j := 0) (by decide) (fw_inc (by decide)) xd_Re_deviceFound_13 ?_
    refine lv_aload_n hx hb xd_Re_deviceFound_14 rfl (lv_at hl 0 rfl) ?_
    refine fw_geti hx hb hts i_Re hown hK hP (xm_13 (by omega)) (xk_13 r) rfl 5 (by decide) (hts _ L_Re_133) (fun _ h9 => h9) rfl xd_Re_deviceFound_15 ?_
    refine lv_icmp_ne (tgt := 38) hx hb xd_Re_deviceFound_18 (by decide) (fun c_2 => ?_) (fun c_2 => ?_)
    · exact fw_vret hx hb hr hlocks hS hP hI xd_Re_deviceFound_38 (by simp only [xf_Re_deviceFound, if_pos c_1, if_neg c_2])
    · refine lv_aload_n hx hb xd_Re_deviceFound_21 rfl (lv_at hl 0 rfl) ?_
      refine lv_aload_n hx hb xd_Re_deviceFound_22 rfl (lv_at hl 1 rfl) ?_
      refine fw_geti hx hb hts i_Fm hown hK hP (xm_7 (by omega)) (xk_7 k1) rfl 2 (by decide) (hts _ L_Re_91) (fun _ h9 => h9) rfl xd_Re_deviceFound_23 ?_
      refine fw_puti hx hb hts i_Re t_Re t_Re_ok n_Re hown hK hD hP hS (xm_13 (by omega)) (xk_13 r) rfl 12 (by decide) (hts _ L_Re_31) (fun _ h9 => h9) rfl fw_pdI rfl rfl rfl xd_Re_deviceFound_26 (fun v3 H locs ev3 hP hS => ?_)
      have hI : xI b v3 := by rw [ev3]; exact xI_up hI trivial trivial
      refine lv_aload_n hx hb xd_Re_deviceFound_29 rfl (lv_at hl 0 rfl) ?_
      refine lv_iconst (v := (2 : Int32)) hx hb xd_Re_deviceFound_30 (by decide) ?_
      refine fw_cv (va_runV (As := [.int (2 : Int32)]) (rest := []) ⟨hx, hb, hml, hown, hts⟩ (xc_Re_enter l hD v3 hI (r) (by omega) (2 : Int32)) (xw_Re_enter hts L_Re_68 ⟨Nat.le_of_ble_eq_true rfl, Nat.le_of_ble_eq_true rfl⟩) (fw_preV hN hK hP (xm_13 (by omega)) (xk_13 r) rfl) rfl rfl hl.1 rfl (lv_room (Nat.le_of_ble_eq_true rfl)) xd_Re_deviceFound_31 ⟨Nat.le_of_ble_eq_true rfl, Nat.le_of_ble_eq_true rfl⟩) hS (fun v4 H locs ev4 hI hP hS => ?_)
      refine lv_aload_n hx hb xd_Re_deviceFound_34 rfl (lv_at hl 0 rfl) ?_
      refine fw_cv (va_runV (As := []) (rest := []) ⟨hx, hb, hml, hown, hts⟩ (xc_Re_sendRequest l hD v4 hI (r) (by omega)) (xw_Re_sendRequest hts L_Re_72 ⟨Nat.le_of_ble_eq_true rfl, Nat.le_of_ble_eq_true rfl⟩) (fw_preV hN hK hP (xm_13 (by omega)) (xk_13 r) rfl) rfl rfl hl.1 rfl (lv_room (Nat.le_of_ble_eq_true rfl)) xd_Re_deviceFound_35 ⟨Nat.le_of_ble_eq_true rfl, Nat.le_of_ble_eq_true rfl⟩) hS (fun v5 H locs ev5 hI hP hS => ?_)
      exact fw_vret hx hb hr hlocks hS hP hI xd_Re_deviceFound_38 (by subst ev3 ev4 ev5; simp only [xf_Re_deviceFound, if_pos c_1, if_pos c_2])
def xf_KT_needsParameter (v0 : fw_V) (a1 : Int32) : Int32 :=
  if a1 < (0 : Int32) then
    (0 : Int32)
  else
    if (8 : Int32) ≤ a1 then
      (0 : Int32)
    else
      if (v0 4 0 a1.toNatClampNeg) = (0 : Int32) then
        (0 : Int32)
      else
        (1 : Int32)

set_option maxHeartbeats 4000000 in
set_option maxRecDepth 100000 in
theorem xc_KT_needsParameter (l : Launch) {D : va_G} {cA : Nat → ClassId} {ad : Nat → Nat → Nat} (hD : fw_D xCL ad) {b : Nat} (v0 : fw_V) (hI : xI b v0) (a1 : Int32)  : Met l xy_KT_needsParameter (Cond.code xy_KT_needsParameter xb_KT_needsParameter 2 (some .boolean) :: vTB) xrm_KT_needsParameter (fw_Pc vNL D vcls (vtys cA) xCL cA xkd ad v0 [.ref (ad 1 0), .int a1]) (fw_Qb D vcls xCL cA xkd ad v0 (xf_KT_needsParameter v0 a1)) 0 0 (fw_A xCL ad) := by
  refine Met.ofW (cc := xb_KT_needsParameter) (maxL := 2) (ret := (some .boolean)) (by decide) rfl ?_
  intro p e s m args below meth c s₁ B hml hv
  obtain ⟨rfl, hP, hK, hN⟩ := hv
  have hx := B.exec
  have hb := B.bytes
  have hr := B.returns
  have hts : ∀ w ∈ vTB, w.before ([.ref (ad 1 0), .int a1] : List Value).toArray s = true := fun w h => atoms_spec (ws := (Cond.code xy_KT_needsParameter xb_KT_needsParameter 2 (some .boolean) :: vTB)) B.pre w (List.mem_cons_of_mem _ h)
  have hown : s.vm.findClass R_KT = some m.cls := findClass_of_methodNamed B.named
  have hlocks := B.notSynchronized
  have hS : va_S (fw_A xCL ad) s.heap s.heap [] := va_S.rf
  skip
  have hl := lv_entry ([.ref (ad 1 0), .int a1]) (n := 2) (Nat.le_of_ble_eq_true rfl)
  rw [lg_entry_eq]
  generalize (lg_sl ([.ref (ad 1 0), .int a1]) ++ List.replicate (2 - (lg_sl ([.ref (ad 1 0), .int a1])).length) Slot.unset).toArray = ls at hl ⊢
  have hl : lv_has ls 2 [(0, .ref (ad 1 0)), (1, .int a1)] := hl
  refine lv_iload_n hx hb xd_KT_needsParameter_0 rfl (lv_at hl 1 rfl) ?_
  refine lv_if_lt (tgt := 23) hx hb xd_KT_needsParameter_1 (by decide) (fun c_1 => ?_) (fun c_1 => ?_)
  · refine lv_iconst (v := (0 : Int32)) hx hb xd_KT_needsParameter_23 (by decide) ?_
    exact fw_bret hx hb hr hlocks hS hP xd_KT_needsParameter_24 (by decide) (by simp only [xf_KT_needsParameter, if_pos c_1])
  · refine lv_iload_n hx hb xd_KT_needsParameter_4 rfl (lv_at hl 1 rfl) ?_
    refine lv_bipush (v := (8 : Int32)) hx hb xd_KT_needsParameter_5 (by decide) ?_
    refine lv_icmp_ge (tgt := 23) hx hb xd_KT_needsParameter_7 (by decide) (fun c_2 => ?_) (fun c_2 => ?_)
    · refine lv_iconst (v := (0 : Int32)) hx hb xd_KT_needsParameter_23 (by decide) ?_
      exact fw_bret hx hb hr hlocks hS hP xd_KT_needsParameter_24 (by decide) (by simp only [xf_KT_needsParameter, if_neg c_1, if_pos c_2])
    · have h_3 : vp_in a1 8 := fw_in2 c_1 c_2
      refine lv_aload_n hx hb xd_KT_needsParameter_10 rfl (lv_at hl 0 rfl) ?_
      refine fw_getr hx hb hts i_KT hown hK hP (xm_1 (by decide)) (xk_1 0) rfl 2 (by decide) (hts _ L_KT_18) (fun _ h9 => h9) rfl xd_KT_needsParameter_11 ?_
      refine lv_iload_n hx hb xd_KT_needsParameter_14 rfl (lv_at hl 1 rfl) ?_
      refine fw_zald hx hb hK hP (xm_4 (by decide)) (xk_4 0) 1 rfl (j := a1.toNatClampNeg) rfl h_3 xd_KT_needsParameter_15 ?_
      refine lv_if_eq (tgt := 23) hx hb xd_KT_needsParameter_16 (by decide) (fun c_4 => ?_) (fun c_4 => ?_)
      · refine lv_iconst (v := (0 : Int32)) hx hb xd_KT_needsParameter_23 (by decide) ?_
        exact fw_bret hx hb hr hlocks hS hP xd_KT_needsParameter_24 (by decide) (by simp only [xf_KT_needsParameter, if_neg c_1, if_neg c_2, if_pos c_4])
      · refine lv_iconst (v := (1 : Int32)) hx hb xd_KT_needsParameter_19 (by decide) ?_
        refine lv_goto (tgt := 24) hx hb xd_KT_needsParameter_20 (by decide) ?_
        exact fw_bret hx hb hr hlocks hS hP xd_KT_needsParameter_24 (by decide) (by simp only [xf_KT_needsParameter, if_neg c_1, if_neg c_2, if_neg c_4])
def xf_FR_hasSlot (a1 : Int32) (a2 : Int32) : Int32 :=
  if ((a1 >>> (a2 &&& 31)) &&& (1 : Int32)) = (0 : Int32) then
    (0 : Int32)
  else
    (1 : Int32)

set_option maxHeartbeats 4000000 in
set_option maxRecDepth 100000 in
theorem xc_FR_hasSlot (l : Launch) {D : va_G} {cA : Nat → ClassId} {ad : Nat → Nat → Nat} (hD : fw_D xCL ad) {b : Nat} (v0 : fw_V) (hI : xI b v0) (a1 : Int32) (a2 : Int32)  : Met l xy_FR_hasSlot (Cond.code xy_FR_hasSlot xb_FR_hasSlot 2 (some .boolean) :: vTB) xrm_FR_hasSlot (fw_Pc vNL D vcls (vtys cA) xCL cA xkd ad v0 [.int a1, .int a2]) (fw_Qb D vcls xCL cA xkd ad v0 (xf_FR_hasSlot a1 a2)) 0 0 (fw_A xCL ad) := by
  refine Met.ofW (cc := xb_FR_hasSlot) (maxL := 2) (ret := (some .boolean)) (by decide) rfl ?_
  intro p e s m args below meth c s₁ B hml hv
  obtain ⟨rfl, hP, hK, hN⟩ := hv
  have hx := B.exec
  have hb := B.bytes
  have hr := B.returns
  have hts : ∀ w ∈ vTB, w.before ([.int a1, .int a2] : List Value).toArray s = true := fun w h => atoms_spec (ws := (Cond.code xy_FR_hasSlot xb_FR_hasSlot 2 (some .boolean) :: vTB)) B.pre w (List.mem_cons_of_mem _ h)
  have hown : s.vm.findClass R_FR = some m.cls := findClass_of_methodNamed B.named
  have hlocks := B.notSynchronized
  have hS : va_S (fw_A xCL ad) s.heap s.heap [] := va_S.rf
  skip
  have hl := lv_entry ([.int a1, .int a2]) (n := 2) (Nat.le_of_ble_eq_true rfl)
  rw [lg_entry_eq]
  generalize (lg_sl ([.int a1, .int a2]) ++ List.replicate (2 - (lg_sl ([.int a1, .int a2])).length) Slot.unset).toArray = ls at hl ⊢
  have hl : lv_has ls 2 [(0, .int a1), (1, .int a2)] := hl
  refine lv_iload_n hx hb xd_FR_hasSlot_0 rfl (lv_at hl 0 rfl) ?_
  refine lv_iload_n hx hb xd_FR_hasSlot_1 rfl (lv_at hl 1 rfl) ?_
  refine lv_ishr hx hb xd_FR_hasSlot_2 ?_
  refine lv_iconst (v := (1 : Int32)) hx hb xd_FR_hasSlot_3 (by decide) ?_
  refine lv_iand hx hb xd_FR_hasSlot_4 ?_
  refine lv_if_eq (tgt := 12) hx hb xd_FR_hasSlot_5 (by decide) (fun c_1 => ?_) (fun c_1 => ?_)
  · refine lv_iconst (v := (0 : Int32)) hx hb xd_FR_hasSlot_12 (by decide) ?_
    exact fw_bret hx hb hr hlocks hS hP xd_FR_hasSlot_13 (by decide) (by simp only [xf_FR_hasSlot, if_pos c_1])
  · refine lv_iconst (v := (1 : Int32)) hx hb xd_FR_hasSlot_8 (by decide) ?_
    refine lv_goto (tgt := 13) hx hb xd_FR_hasSlot_9 (by decide) ?_
    exact fw_bret hx hb hr hlocks hS hP xd_FR_hasSlot_13 (by decide) (by simp only [xf_FR_hasSlot, if_neg c_1])
def xf_Re_goOnWriting_j1 : Nat → fw_V → Nat → Int32 → Int32 → fw_V
  | 0, v, r, a1, x2 => v
  | n + 1, v, r, a1, x2 =>
    if (3 : Int32) ≤ x2 then
      let v2 := xf_Re_enter v (r) (4 : Int32)
      v2
    else
      let r4 := xf_KT_needsParameter v (v 15 r x2.toNatClampNeg)
      if r4 = (0 : Int32) then
        xf_Re_goOnWriting_j1 n v r a1 ((x2 + (1 : Int32)))
      else
        let r6 := xf_FR_hasSlot (v 13 r 13) x2
        if r6 = (0 : Int32) then
          let v8 := fw_up v 13 r 17 x2
          let v9 := xf_Re_enter v8 (r) (3 : Int32)
          v9
        else
          xf_Re_goOnWriting_j1 n v r a1 ((x2 + (1 : Int32)))
def xf_Re_goOnWriting (v0 : fw_V) (r : Nat) (a1 : Int32) : fw_V :=
  xf_Re_goOnWriting_j1 5 v0 r a1 (a1)

set_option maxHeartbeats 4000000 in
set_option maxRecDepth 100000 in
theorem xc_Re_goOnWriting (l : Launch) {D : va_G} {cA : Nat → ClassId} {ad : Nat → Nat → Nat} (hD : fw_D xCL ad) {b : Nat} (v0 : fw_V) (hI : xI b v0) (r : Nat) (hr0 : r < 2) (a1 : Int32) (hq0 : vp_in a1 4) : Met l xy_Re_goOnWriting (Cond.code xy_Re_goOnWriting xb_Re_goOnWriting 3 none :: vTB) xrm_Re_goOnWriting (fw_Pc vNL D vcls (vtys cA) xCL cA xkd ad v0 [.ref (ad 13 r), .int a1]) (fw_Qv D vcls xCL cA xkd ad (xI b) (xf_Re_goOnWriting v0 r a1)) 0 0 (fw_A xCL ad) := by
  refine Met.ofW (cc := xb_Re_goOnWriting) (maxL := 3) (ret := none) (by decide) rfl ?_
  intro p e s m args below meth c s₁ B hml hv
  obtain ⟨rfl, hP, hK, hN⟩ := hv
  have hx := B.exec
  have hb := B.bytes
  have hr := B.returns
  have hts : ∀ w ∈ vTB, w.before ([.ref (ad 13 r), .int a1] : List Value).toArray s = true := fun w h => atoms_spec (ws := (Cond.code xy_Re_goOnWriting xb_Re_goOnWriting 3 none :: vTB)) B.pre w (List.mem_cons_of_mem _ h)
  have hown : s.vm.findClass R_Re = some m.cls := findClass_of_methodNamed B.named
  have hlocks := B.notSynchronized
  have hS : va_S (fw_A xCL ad) s.heap s.heap [] := va_S.rf
  have J1 : ∀ (n : Nat) (v : fw_V) (x2 : Int32) (H : Heap) (locs : List Loc) (ls : Array Slot), xf_Re_goOnWriting v0 r a1 = xf_Re_goOnWriting_j1 n v r a1 x2 → (0 ≤ x2.toInt ∧ x2.toInt ≤ (3 : Int32).toInt ∧ (3 : Int32).toInt < x2.toInt + n) → xI b v → va_P D vcls (fw_w xCL cA xkd ad v) H → va_S (fw_A xCL ad) s.heap H locs → lv_has ls 3 [(0, .ref (ad 13 r)), (2, .int x2)] → W p l e (headSpec (Cond.code xy_Re_goOnWriting xb_Re_goOnWriting 3 none :: vTB) xrm_Re_goOnWriting).room s m ([.ref (ad 13 r), .int a1] : List Value).toArray below meth c H locs 0 0 (MQ below (fw_Qv D vcls xCL cA xkd ad (xI b) (xf_Re_goOnWriting v0 r a1)) ([.ref (ad 13 r), .int a1] : List Value).toArray s 0 0 (fw_A xCL ad)) (F0 m 2 ls []) := by
    intro n
    induction n with
    | zero =>
      intro v x2 H locs ls hj hn
      exact absurd hn.2.2 (by omega)
    | succ n ih =>
      intro v x2 H locs ls hj hn  hI hP hS hl
      refine lv_iload_n hx hb xd_Re_goOnWriting_2 rfl (lv_at hl 1 rfl) ?_
      refine lv_iconst (v := (3 : Int32)) hx hb xd_Re_goOnWriting_3 (by decide) ?_
      refine lv_icmp_ge (tgt := 51) hx hb xd_Re_goOnWriting_4 (by decide) (fun c_1 => ?_) (fun c_1 => ?_)
      · refine lv_aload_n hx hb xd_Re_goOnWriting_51 rfl (lv_at hl 0 rfl) ?_
        refine lv_iconst (v := (4 : Int32)) hx hb xd_Re_goOnWriting_52 (by decide) ?_
        refine fw_cv (va_runV (As := [.int (4 : Int32)]) (rest := []) ⟨hx, hb, hml, hown, hts⟩ (xc_Re_enter l hD v hI (r) (by omega) (4 : Int32)) (xw_Re_enter hts L_Re_68 ⟨Nat.le_of_ble_eq_true rfl, Nat.le_of_ble_eq_true rfl⟩) (fw_preV hN hK hP (xm_13 (by omega)) (xk_13 r) rfl) rfl rfl hl.1 rfl (lv_room (Nat.le_of_ble_eq_true rfl)) xd_Re_goOnWriting_53 ⟨Nat.le_of_ble_eq_true rfl, Nat.le_of_ble_eq_true rfl⟩) hS (fun v2 H locs ev2 hI hP hS => ?_)
        exact fw_vret hx hb hr hlocks hS hP hI xd_Re_goOnWriting_56 (by rw [hj]; subst ev2; simp only [xf_Re_goOnWriting_j1, if_pos c_1])
      · have h_3 : vp_in x2 3 := fw_in3 hn.1 c_1
        refine lv_aload_n hx hb xd_Re_goOnWriting_7 rfl (lv_at hl 0 rfl) ?_
        refine fw_getr hx hb hts i_Re hown hK hP (xm_13 (by omega)) (xk_13 r) rfl 1 (by decide) (hts _ L_Re_38) (fun _ h9 => h9) rfl xd_Re_goOnWriting_8 ?_
        refine lv_aload_n hx hb xd_Re_goOnWriting_11 rfl (lv_at hl 0 rfl) ?_
        refine fw_getr hx hb hts i_Re hown hK hP (xm_13 (by omega)) (xk_13 r) rfl 6 (by decide) (hts _ L_Re_18) (fun _ h9 => h9) rfl xd_Re_goOnWriting_12 ?_
        refine lv_iload_n hx hb xd_Re_goOnWriting_15 rfl (lv_at hl 1 rfl) ?_
        refine fw_iald hx hb hK hP (xm_15 (by omega)) (xk_15 r) 0 rfl (j := x2.toNatClampNeg) rfl h_3 xd_Re_goOnWriting_16 ?_
        refine fw_cb (va_runV (As := [.int (v 15 r x2.toNatClampNeg)]) (rest := []) ⟨hx, hb, hml, hown, hts⟩ (xc_KT_needsParameter l hD v hI (v 15 r x2.toNatClampNeg)) (xw_KT_needsParameter hts L_Re_174 ⟨Nat.le_of_ble_eq_true rfl, Nat.le_of_ble_eq_true rfl⟩) (fw_preV hN hK hP (xm_1 (by decide)) (xk_1 0) rfl) rfl rfl hl.1 rfl (lv_room (Nat.le_of_ble_eq_true rfl)) xd_Re_goOnWriting_17 ⟨Nat.le_of_ble_eq_true rfl, Nat.le_of_ble_eq_true rfl⟩) hS (fun r4 H locs zr4 er4 hP hS => ?_)
        refine lv_if_eq (tgt := 45) hx hb xd_Re_goOnWriting_20 (by decide) (fun c_5 => ?_) (fun c_5 => ?_)
        · refine lv_iinc (v := (x2 + (1 : Int32))) (lv' := [(2, .int (x2 + (1 : Int32))), (0, .ref (ad 13 r))]) hx hb xd_Re_goOnWriting_45 hl (k := 1) rfl rfl (by decide) rfl (fun ls hl => ?_)
          refine lv_goto (tgt := 2) hx hb xd_Re_goOnWriting_48 (by decide) ?_
          exact ih v ((x2 + (1 : Int32))) _ _ _ (by rw [hj]; subst er4; simp only [xf_Re_goOnWriting_j1, if_neg c_1, if_pos c_5]) (fw_step c_1 hn)   hI hP hS (lv_sub hl [1, 0] rfl)
        · refine lv_aload_n hx hb xd_Re_goOnWriting_23 rfl (lv_at hl 0 rfl) ?_
          refine fw_geti hx hb hts i_Re hown hK hP (xm_13 (by omega)) (xk_13 r) rfl 13 (by decide) (hts _ L_Re_62) (fun _ h9 => h9) rfl xd_Re_goOnWriting_24 ?_
          refine lv_iload_n hx hb xd_Re_goOnWriting_27 rfl (lv_at hl 1 rfl) ?_
          refine fw_cb (va_runSN (As := [.int (v 13 r 13), .int x2]) (rest := []) ⟨hx, hb, hml, hown, hts⟩ (xc_FR_hasSlot l hD v hI (v 13 r 13) x2) (xwn_FR_hasSlot hts (hN.2 _ L_Re_179) ⟨Nat.le_of_ble_eq_true rfl, Nat.le_of_ble_eq_true rfl⟩) (fw_preS hN hK hP) rfl rfl hl.1 rfl (lv_room (Nat.le_of_ble_eq_true rfl)) xd_Re_goOnWriting_28 ⟨Nat.le_of_ble_eq_true rfl, Nat.le_of_ble_eq_true rfl⟩) hS (fun r6 H locs zr6 er6 hP hS => ?_)
          refine lv_if_ne (tgt := 45) hx hb xd_Re_goOnWriting_31 (by decide) (fun c_7 => ?_) (fun c_7 => ?_)
          · refine lv_iinc (v := (x2 + (1 : Int32))) (lv' := [(2, .int (x2 + (1 : Int32))), (0, .ref (ad 13 r))]) hx hb xd_Re_goOnWriting_45 hl (k := 1) rfl rfl (by decide) rfl (fun ls hl => ?_)
            refine lv_goto (tgt := 2) hx hb xd_Re_goOnWriting_48 (by decide) ?_
            exact ih v ((x2 + (1 : Int32))) _ _ _ (by rw [hj]; subst er4 er6; simp only [xf_Re_goOnWriting_j1, if_neg c_1, if_neg c_5, if_neg c_7]) (fw_step c_1 hn)   hI hP hS (lv_sub hl [1, 0] rfl)
          · refine lv_aload_n hx hb xd_Re_goOnWriting_34 rfl (lv_at hl 0 rfl) ?_
            refine lv_iload_n hx hb xd_Re_goOnWriting_35 rfl (lv_at hl 1 rfl) ?_
            refine fw_puti hx hb hts i_Re t_Re t_Re_ok n_Re hown hK hD hP hS (xm_13 (by omega)) (xk_13 r) rfl 17 (by decide) (hts _ L_Re_139) (fun _ h9 => h9) rfl fw_pdI rfl rfl rfl xd_Re_goOnWriting_36 (fun v8 H locs ev8 hP hS => ?_)
            have hI : xI b v8 := by rw [ev8]; exact xI_up hI h_3 trivial
            refine lv_aload_n hx hb xd_Re_goOnWriting_39 rfl (lv_at hl 0 rfl) ?_
            refine lv_iconst (v := (3 : Int32)) hx hb xd_Re_goOnWriting_40 (by decide) ?_
            refine fw_cv (va_runV (As := [.int (3 : Int32)]) (rest := []) ⟨hx, hb, hml, hown, hts⟩ (xc_Re_enter l hD v8 hI (r) (by omega) (3 : Int32)) (xw_Re_enter hts L_Re_68 ⟨Nat.le_of_ble_eq_true rfl, Nat.le_of_ble_eq_true rfl⟩) (fw_preV hN hK hP (xm_13 (by omega)) (xk_13 r) rfl) rfl rfl hl.1 rfl (lv_room (Nat.le_of_ble_eq_true rfl)) xd_Re_goOnWriting_41 ⟨Nat.le_of_ble_eq_true rfl, Nat.le_of_ble_eq_true rfl⟩) hS (fun v9 H locs ev9 hI hP hS => ?_)
            exact fw_vret hx hb hr hlocks hS hP hI xd_Re_goOnWriting_44 (by rw [hj]; subst er4 er6 ev8 ev9; simp only [xf_Re_goOnWriting_j1, if_neg c_1, if_neg c_5, if_pos c_7])
  skip
  have hl := lv_entry ([.ref (ad 13 r), .int a1]) (n := 3) (Nat.le_of_ble_eq_true rfl)
  rw [lg_entry_eq]
  generalize (lg_sl ([.ref (ad 13 r), .int a1]) ++ List.replicate (3 - (lg_sl ([.ref (ad 13 r), .int a1])).length) Slot.unset).toArray = ls at hl ⊢
  have hl : lv_has ls 3 [(0, .ref (ad 13 r)), (1, .int a1)] := hl
  refine lv_iload_n hx hb xd_Re_goOnWriting_0 rfl (lv_at hl 1 rfl) ?_
  refine lv_istore_n (lv' := [(2, .int a1), (0, .ref (ad 13 r)), (1, .int a1)]) hx hb xd_Re_goOnWriting_1 rfl hl (by decide) rfl (fun ls hl => ?_)
  exact J1 5 v0 (a1) _ _ _ (by simp only [xf_Re_goOnWriting]) (fw_start (b := 3) (by decide) hq0 (by decide))   hI hP hS (lv_sub hl [1, 0] rfl)
def xf_Re_accepted (v0 : fw_V) (r : Nat) (a1 : Int32) : fw_V :=
  if (v0 13 r 10) = (2 : Int32) then
    let v2 := fw_up v0 13 r 13 a1
    let v3 := xf_Re_goOnWriting v2 (r) (0 : Int32)
    let v4 := xf_Re_sendRequest v3 (r)
    v4
  else
    v0

set_option maxHeartbeats 4000000 in
set_option maxRecDepth 100000 in
theorem xc_Re_accepted (l : Launch) {D : va_G} {cA : Nat → ClassId} {ad : Nat → Nat → Nat} (hD : fw_D xCL ad) {b : Nat} (v0 : fw_V) (hI : xI b v0) (r : Nat) (hr0 : r < 2) (a1 : Int32)  : Met l xy_Re_accepted (Cond.code xy_Re_accepted xb_Re_accepted 2 none :: vTB) xrm_Re_accepted (fw_Pc vNL D vcls (vtys cA) xCL cA xkd ad v0 [.ref (ad 13 r), .int a1]) (fw_Qv D vcls xCL cA xkd ad (xI b) (xf_Re_accepted v0 r a1)) 0 0 (fw_A xCL ad) := by
  refine Met.ofW (cc := xb_Re_accepted) (maxL := 2) (ret := none) (by decide) rfl ?_
  intro p e s m args below meth c s₁ B hml hv
  obtain ⟨rfl, hP, hK, hN⟩ := hv
  have hx := B.exec
  have hb := B.bytes
  have hr := B.returns
  have hts : ∀ w ∈ vTB, w.before ([.ref (ad 13 r), .int a1] : List Value).toArray s = true := fun w h => atoms_spec (ws := (Cond.code xy_Re_accepted xb_Re_accepted 2 none :: vTB)) B.pre w (List.mem_cons_of_mem _ h)
  have hown : s.vm.findClass R_Re = some m.cls := findClass_of_methodNamed B.named
  have hlocks := B.notSynchronized
  have hS : va_S (fw_A xCL ad) s.heap s.heap [] := va_S.rf
  skip
  have hl := lv_entry ([.ref (ad 13 r), .int a1]) (n := 2) (Nat.le_of_ble_eq_true rfl)
  rw [lg_entry_eq]
  generalize (lg_sl ([.ref (ad 13 r), .int a1]) ++ List.replicate (2 - (lg_sl ([.ref (ad 13 r), .int a1])).length) Slot.unset).toArray = ls at hl ⊢
  have hl : lv_has ls 2 [(0, .ref (ad 13 r)), (1, .int a1)] := hl
  refine lv_aload_n hx hb xd_Re_accepted_0 rfl (lv_at hl 0 rfl) ?_
  refine fw_geti hx hb hts i_Re hown hK hP (xm_13 (by omega)) (xk_13 r) rfl 10 (by decide) (hts _ L_Re_56) (fun _ h9 => h9) rfl xd_Re_accepted_1 ?_
  refine lv_iconst (v := (2 : Int32)) hx hb xd_Re_accepted_4 (by decide) ?_
  refine lv_icmp_ne (tgt := 22) hx hb xd_Re_accepted_5 (by decide) (fun c_1 => ?_) (fun c_1 => ?_)
  · exact fw_vret hx hb hr hlocks hS hP hI xd_Re_accepted_22 (by simp only [xf_Re_accepted, if_neg c_1])
  · refine lv_aload_n hx hb xd_Re_accepted_8 rfl (lv_at hl 0 rfl) ?_
    refine lv_iload_n hx hb xd_Re_accepted_9 rfl (lv_at hl 1 rfl) ?_
    refine fw_puti hx hb hts i_Re t_Re t_Re_ok n_Re hown hK hD hP hS (xm_13 (by omega)) (xk_13 r) rfl 13 (by decide) (hts _ L_Re_62) (fun _ h9 => h9) rfl fw_pdI rfl rfl rfl xd_Re_accepted_10 (fun v2 H locs ev2 hP hS => ?_)
    have hI : xI b v2 := by rw [ev2]; exact xI_up hI trivial trivial
    refine lv_aload_n hx hb xd_Re_accepted_13 rfl (lv_at hl 0 rfl) ?_
    refine lv_iconst (v := (0 : Int32)) hx hb xd_Re_accepted_14 (by decide) ?_
    refine fw_cv (va_runV (As := [.int (0 : Int32)]) (rest := []) ⟨hx, hb, hml, hown, hts⟩ (xc_Re_goOnWriting l hD v2 hI (r) (by omega) (0 : Int32) (fw_inc (by decide))) (xw_Re_goOnWriting hts L_Re_136 ⟨Nat.le_of_ble_eq_true rfl, Nat.le_of_ble_eq_true rfl⟩) (fw_preV hN hK hP (xm_13 (by omega)) (xk_13 r) rfl) rfl rfl hl.1 rfl (lv_room (Nat.le_of_ble_eq_true rfl)) xd_Re_accepted_15 ⟨Nat.le_of_ble_eq_true rfl, Nat.le_of_ble_eq_true rfl⟩) hS (fun v3 H locs ev3 hI hP hS => ?_)
    refine lv_aload_n hx hb xd_Re_accepted_18 rfl (lv_at hl 0 rfl) ?_
    refine fw_cv (va_runV (As := []) (rest := []) ⟨hx, hb, hml, hown, hts⟩ (xc_Re_sendRequest l hD v3 hI (r) (by omega)) (xw_Re_sendRequest hts L_Re_72 ⟨Nat.le_of_ble_eq_true rfl, Nat.le_of_ble_eq_true rfl⟩) (fw_preV hN hK hP (xm_13 (by omega)) (xk_13 r) rfl) rfl rfl hl.1 rfl (lv_room (Nat.le_of_ble_eq_true rfl)) xd_Re_accepted_19 ⟨Nat.le_of_ble_eq_true rfl, Nat.le_of_ble_eq_true rfl⟩) hS (fun v4 H locs ev4 hI hP hS => ?_)
    exact fw_vret hx hb hr hlocks hS hP hI xd_Re_accepted_22 (by subst ev2 ev3 ev4; simp only [xf_Re_accepted, if_pos c_1])
def xf_Re_refused (v0 : fw_V) (r : Nat) : fw_V :=
  if (v0 13 r 10) = (2 : Int32) then
    let v2 := xf_Re_shut v0 (r)
    v2
  else
    v0

set_option maxHeartbeats 4000000 in
set_option maxRecDepth 100000 in
theorem xc_Re_refused (l : Launch) {D : va_G} {cA : Nat → ClassId} {ad : Nat → Nat → Nat} (hD : fw_D xCL ad) {b : Nat} (v0 : fw_V) (hI : xI b v0) (r : Nat) (hr0 : r < 2)  : Met l xy_Re_refused (Cond.code xy_Re_refused xb_Re_refused 1 none :: vTB) xrm_Re_refused (fw_Pc vNL D vcls (vtys cA) xCL cA xkd ad v0 [.ref (ad 13 r)]) (fw_Qv D vcls xCL cA xkd ad (xI b) (xf_Re_refused v0 r)) 0 0 (fw_A xCL ad) := by
  refine Met.ofW (cc := xb_Re_refused) (maxL := 1) (ret := none) (by decide) rfl ?_
  intro p e s m args below meth c s₁ B hml hv
  obtain ⟨rfl, hP, hK, hN⟩ := hv
  have hx := B.exec
  have hb := B.bytes
  have hr := B.returns
  have hts : ∀ w ∈ vTB, w.before ([.ref (ad 13 r)] : List Value).toArray s = true := fun w h => atoms_spec (ws := (Cond.code xy_Re_refused xb_Re_refused 1 none :: vTB)) B.pre w (List.mem_cons_of_mem _ h)
  have hown : s.vm.findClass R_Re = some m.cls := findClass_of_methodNamed B.named
  have hlocks := B.notSynchronized
  have hS : va_S (fw_A xCL ad) s.heap s.heap [] := va_S.rf
  skip
  have hl := lv_entry ([.ref (ad 13 r)]) (n := 1) (Nat.le_of_ble_eq_true rfl)
  rw [lg_entry_eq]
  generalize (lg_sl ([.ref (ad 13 r)]) ++ List.replicate (1 - (lg_sl ([.ref (ad 13 r)])).length) Slot.unset).toArray = ls at hl ⊢
  have hl : lv_has ls 1 [(0, .ref (ad 13 r))] := hl
  refine lv_aload_n hx hb xd_Re_refused_0 rfl (lv_at hl 0 rfl) ?_
  refine fw_geti hx hb hts i_Re hown hK hP (xm_13 (by omega)) (xk_13 r) rfl 10 (by decide) (hts _ L_Re_56) (fun _ h9 => h9) rfl xd_Re_refused_1 ?_
  refine lv_iconst (v := (2 : Int32)) hx hb xd_Re_refused_4 (by decide) ?_
  refine lv_icmp_ne (tgt := 12) hx hb xd_Re_refused_5 (by decide) (fun c_1 => ?_) (fun c_1 => ?_)
  · exact fw_vret hx hb hr hlocks hS hP hI xd_Re_refused_12 (by simp only [xf_Re_refused, if_neg c_1])
  · refine lv_aload_n hx hb xd_Re_refused_8 rfl (lv_at hl 0 rfl) ?_
    refine fw_cv (va_runV (As := []) (rest := []) ⟨hx, hb, hml, hown, hts⟩ (xc_Re_shut l hD v0 hI (r) (by omega)) (xw_Re_shut hts L_Re_78 ⟨Nat.le_of_ble_eq_true rfl, Nat.le_of_ble_eq_true rfl⟩) (fw_preV hN hK hP (xm_13 (by omega)) (xk_13 r) rfl) rfl rfl hl.1 rfl (lv_room (Nat.le_of_ble_eq_true rfl)) xd_Re_refused_9 ⟨Nat.le_of_ble_eq_true rfl, Nat.le_of_ble_eq_true rfl⟩) hS (fun v2 H locs ev2 hI hP hS => ?_)
    exact fw_vret hx hb hr hlocks hS hP hI xd_Re_refused_12 (by subst ev2; simp only [xf_Re_refused, if_pos c_1])
def xf_Re_written (v0 : fw_V) (r : Nat) (a1 : Int32) : fw_V :=
  if (v0 13 r 10) = (3 : Int32) then
    if a1 = (v0 13 r 17) then
      let v5 := xf_Re_goOnWriting v0 (r) (a1 + (1 : Int32))
      let v6 := xf_Re_sendRequest v5 (r)
      v6
    else
      v0
  else
    v0

set_option maxHeartbeats 4000000 in
set_option maxRecDepth 100000 in
theorem xc_Re_written (l : Launch) {D : va_G} {cA : Nat → ClassId} {ad : Nat → Nat → Nat} (hD : fw_D xCL ad) {b : Nat} (v0 : fw_V) (hI : xI b v0) (r : Nat) (hr0 : r < 2) (a1 : Int32)  : Met l xy_Re_written (Cond.code xy_Re_written xb_Re_written 2 none :: vTB) xrm_Re_written (fw_Pc vNL D vcls (vtys cA) xCL cA xkd ad v0 [.ref (ad 13 r), .int a1]) (fw_Qv D vcls xCL cA xkd ad (xI b) (xf_Re_written v0 r a1)) 0 0 (fw_A xCL ad) := by
  refine Met.ofW (cc := xb_Re_written) (maxL := 2) (ret := none) (by decide) rfl ?_
  intro p e s m args below meth c s₁ B hml hv
  obtain ⟨rfl, hP, hK, hN⟩ := hv
  have hx := B.exec
  have hb := B.bytes
  have hr := B.returns
  have hts : ∀ w ∈ vTB, w.before ([.ref (ad 13 r), .int a1] : List Value).toArray s = true := fun w h => atoms_spec (ws := (Cond.code xy_Re_written xb_Re_written 2 none :: vTB)) B.pre w (List.mem_cons_of_mem _ h)
  have hown : s.vm.findClass R_Re = some m.cls := findClass_of_methodNamed B.named
  have hlocks := B.notSynchronized
  have hS : va_S (fw_A xCL ad) s.heap s.heap [] := va_S.rf
  skip
  have hl := lv_entry ([.ref (ad 13 r), .int a1]) (n := 2) (Nat.le_of_ble_eq_true rfl)
  rw [lg_entry_eq]
  generalize (lg_sl ([.ref (ad 13 r), .int a1]) ++ List.replicate (2 - (lg_sl ([.ref (ad 13 r), .int a1])).length) Slot.unset).toArray = ls at hl ⊢
  have hl : lv_has ls 2 [(0, .ref (ad 13 r)), (1, .int a1)] := hl
  refine lv_aload_n hx hb xd_Re_written_0 rfl (lv_at hl 0 rfl) ?_
  refine fw_geti hx hb hts i_Re hown hK hP (xm_13 (by omega)) (xk_13 r) rfl 10 (by decide) (hts _ L_Re_56) (fun _ h9 => h9) rfl xd_Re_written_1 ?_
  refine lv_iconst (v := (3 : Int32)) hx hb xd_Re_written_4 (by decide) ?_
  refine lv_icmp_ne (tgt := 27) hx hb xd_Re_written_5 (by decide) (fun c_1 => ?_) (fun c_1 => ?_)
  · exact fw_vret hx hb hr hlocks hS hP hI xd_Re_written_27 (by simp only [xf_Re_written, if_neg c_1])
  · refine lv_iload_n hx hb xd_Re_written_8 rfl (lv_at hl 1 rfl) ?_
    refine lv_aload_n hx hb xd_Re_written_9 rfl (lv_at hl 0 rfl) ?_
    refine fw_geti hx hb hts i_Re hown hK hP (xm_13 (by omega)) (xk_13 r) rfl 17 (by decide) (hts _ L_Re_139) (fun _ h9 => h9) rfl xd_Re_written_10 ?_
    have h_2 : vp_in (v0 13 r 17) 3 := hI.1 13 r 17
    refine lv_icmp_ne (tgt := 27) hx hb xd_Re_written_13 (by decide) (fun c_3 => ?_) (fun c_3 => ?_)
    · exact fw_vret hx hb hr hlocks hS hP hI xd_Re_written_27 (by simp only [xf_Re_written, if_pos c_1, if_neg c_3])
    · have h_4 : vp_in a1 3 := by rw [c_3]; exact h_2
      refine lv_aload_n hx hb xd_Re_written_16 rfl (lv_at hl 0 rfl) ?_
      refine lv_iload_n hx hb xd_Re_written_17 rfl (lv_at hl 1 rfl) ?_
      refine lv_iconst (v := (1 : Int32)) hx hb xd_Re_written_18 (by decide) ?_
      refine lv_iadd hx hb xd_Re_written_19 ?_
      refine fw_cv (va_runV (As := [.int (a1 + (1 : Int32))]) (rest := []) ⟨hx, hb, hml, hown, hts⟩ (xc_Re_goOnWriting l hD v0 hI (r) (by omega) (a1 + (1 : Int32)) (fw_inp1 h_4 (by decide))) (xw_Re_goOnWriting hts L_Re_136 ⟨Nat.le_of_ble_eq_true rfl, Nat.le_of_ble_eq_true rfl⟩) (fw_preV hN hK hP (xm_13 (by omega)) (xk_13 r) rfl) rfl rfl hl.1 rfl (lv_room (Nat.le_of_ble_eq_true rfl)) xd_Re_written_20 ⟨Nat.le_of_ble_eq_true rfl, Nat.le_of_ble_eq_true rfl⟩) hS (fun v5 H locs ev5 hI hP hS => ?_)
      refine lv_aload_n hx hb xd_Re_written_23 rfl (lv_at hl 0 rfl) ?_
      refine fw_cv (va_runV (As := []) (rest := []) ⟨hx, hb, hml, hown, hts⟩ (xc_Re_sendRequest l hD v5 hI (r) (by omega)) (xw_Re_sendRequest hts L_Re_72 ⟨Nat.le_of_ble_eq_true rfl, Nat.le_of_ble_eq_true rfl⟩) (fw_preV hN hK hP (xm_13 (by omega)) (xk_13 r) rfl) rfl rfl hl.1 rfl (lv_room (Nat.le_of_ble_eq_true rfl)) xd_Re_written_24 ⟨Nat.le_of_ble_eq_true rfl, Nat.le_of_ble_eq_true rfl⟩) hS (fun v6 H locs ev6 hI hP hS => ?_)
      exact fw_vret hx hb hr hlocks hS hP hI xd_Re_written_27 (by subst ev5 ev6; simp only [xf_Re_written, if_pos c_1, if_pos c_3])
def xf_Re_ended (v0 : fw_V) (r : Nat) : fw_V :=
  if (v0 13 r 10) = (4 : Int32) then
    let v2 := xf_Re_enter v0 (r) (5 : Int32)
    v2
  else
    v0

set_option maxHeartbeats 4000000 in
set_option maxRecDepth 100000 in
theorem xc_Re_ended (l : Launch) {D : va_G} {cA : Nat → ClassId} {ad : Nat → Nat → Nat} (hD : fw_D xCL ad) {b : Nat} (v0 : fw_V) (hI : xI b v0) (r : Nat) (hr0 : r < 2)  : Met l xy_Re_ended (Cond.code xy_Re_ended xb_Re_ended 1 none :: vTB) xrm_Re_ended (fw_Pc vNL D vcls (vtys cA) xCL cA xkd ad v0 [.ref (ad 13 r)]) (fw_Qv D vcls xCL cA xkd ad (xI b) (xf_Re_ended v0 r)) 0 0 (fw_A xCL ad) := by
  refine Met.ofW (cc := xb_Re_ended) (maxL := 1) (ret := none) (by decide) rfl ?_
  intro p e s m args below meth c s₁ B hml hv
  obtain ⟨rfl, hP, hK, hN⟩ := hv
  have hx := B.exec
  have hb := B.bytes
  have hr := B.returns
  have hts : ∀ w ∈ vTB, w.before ([.ref (ad 13 r)] : List Value).toArray s = true := fun w h => atoms_spec (ws := (Cond.code xy_Re_ended xb_Re_ended 1 none :: vTB)) B.pre w (List.mem_cons_of_mem _ h)
  have hown : s.vm.findClass R_Re = some m.cls := findClass_of_methodNamed B.named
  have hlocks := B.notSynchronized
  have hS : va_S (fw_A xCL ad) s.heap s.heap [] := va_S.rf
  skip
  have hl := lv_entry ([.ref (ad 13 r)]) (n := 1) (Nat.le_of_ble_eq_true rfl)
  rw [lg_entry_eq]
  generalize (lg_sl ([.ref (ad 13 r)]) ++ List.replicate (1 - (lg_sl ([.ref (ad 13 r)])).length) Slot.unset).toArray = ls at hl ⊢
  have hl : lv_has ls 1 [(0, .ref (ad 13 r))] := hl
  refine lv_aload_n hx hb xd_Re_ended_0 rfl (lv_at hl 0 rfl) ?_
  refine fw_geti hx hb hts i_Re hown hK hP (xm_13 (by omega)) (xk_13 r) rfl 10 (by decide) (hts _ L_Re_56) (fun _ h9 => h9) rfl xd_Re_ended_1 ?_
  refine lv_iconst (v := (4 : Int32)) hx hb xd_Re_ended_4 (by decide) ?_
  refine lv_icmp_ne (tgt := 13) hx hb xd_Re_ended_5 (by decide) (fun c_1 => ?_) (fun c_1 => ?_)
  · exact fw_vret hx hb hr hlocks hS hP hI xd_Re_ended_13 (by simp only [xf_Re_ended, if_neg c_1])
  · refine lv_aload_n hx hb xd_Re_ended_8 rfl (lv_at hl 0 rfl) ?_
    refine lv_iconst (v := (5 : Int32)) hx hb xd_Re_ended_9 (by decide) ?_
    refine fw_cv (va_runV (As := [.int (5 : Int32)]) (rest := []) ⟨hx, hb, hml, hown, hts⟩ (xc_Re_enter l hD v0 hI (r) (by omega) (5 : Int32)) (xw_Re_enter hts L_Re_68 ⟨Nat.le_of_ble_eq_true rfl, Nat.le_of_ble_eq_true rfl⟩) (fw_preV hN hK hP (xm_13 (by omega)) (xk_13 r) rfl) rfl rfl hl.1 rfl (lv_room (Nat.le_of_ble_eq_true rfl)) xd_Re_ended_10 ⟨Nat.le_of_ble_eq_true rfl, Nat.le_of_ble_eq_true rfl⟩) hS (fun v2 H locs ev2 hI hP hS => ?_)
    exact fw_vret hx hb hr hlocks hS hP hI xd_Re_ended_13 (by subst ev2; simp only [xf_Re_ended, if_pos c_1])
def xf_Cy_restart (v0 : fw_V) (r : Nat) : fw_V :=
  let v1 := fw_up v0 14 r 0 (0 : Int32)
  let v2 := fw_up v1 14 r 1 (-1 : Int32)
  v2

set_option maxHeartbeats 4000000 in
set_option maxRecDepth 100000 in
theorem xc_Cy_restart (l : Launch) {D : va_G} {cA : Nat → ClassId} {ad : Nat → Nat → Nat} (hD : fw_D xCL ad) {b : Nat} (v0 : fw_V) (hI : xI b v0) (r : Nat) (hr0 : r < 4)  : Met l xy_Cy_restart (Cond.code xy_Cy_restart xb_Cy_restart 1 none :: vTB) xrm_Cy_restart (fw_Pc vNL D vcls (vtys cA) xCL cA xkd ad v0 [.ref (ad 14 r)]) (fw_Qv D vcls xCL cA xkd ad (xI b) (xf_Cy_restart v0 r)) 0 0 (fw_A xCL ad) := by
  refine Met.ofW (cc := xb_Cy_restart) (maxL := 1) (ret := none) (by decide) rfl ?_
  intro p e s m args below meth c s₁ B hml hv
  obtain ⟨rfl, hP, hK, hN⟩ := hv
  have hx := B.exec
  have hb := B.bytes
  have hr := B.returns
  have hts : ∀ w ∈ vTB, w.before ([.ref (ad 14 r)] : List Value).toArray s = true := fun w h => atoms_spec (ws := (Cond.code xy_Cy_restart xb_Cy_restart 1 none :: vTB)) B.pre w (List.mem_cons_of_mem _ h)
  have hown : s.vm.findClass R_Cy = some m.cls := findClass_of_methodNamed B.named
  have hlocks := B.notSynchronized
  have hS : va_S (fw_A xCL ad) s.heap s.heap [] := va_S.rf
  skip
  have hl := lv_entry ([.ref (ad 14 r)]) (n := 1) (Nat.le_of_ble_eq_true rfl)
  rw [lg_entry_eq]
  generalize (lg_sl ([.ref (ad 14 r)]) ++ List.replicate (1 - (lg_sl ([.ref (ad 14 r)])).length) Slot.unset).toArray = ls at hl ⊢
  have hl : lv_has ls 1 [(0, .ref (ad 14 r))] := hl
  refine lv_aload_n hx hb xd_Cy_restart_0 rfl (lv_at hl 0 rfl) ?_
  refine lv_iconst (v := (0 : Int32)) hx hb xd_Cy_restart_1 (by decide) ?_
  refine fw_puti hx hb hts i_Cy t_Cy t_Cy_ok n_Cy hown hK hD hP hS (xm_14 (by omega)) (xk_14 r) rfl 0 (by decide) (hts _ L_Cy_15) (fun _ h9 => h9) rfl fw_pdI rfl rfl rfl xd_Cy_restart_2 (fun v1 H locs ev1 hP hS => ?_)
  have hI : xI b v1 := by rw [ev1]; exact xI_up hI trivial trivial
  refine lv_aload_n hx hb xd_Cy_restart_5 rfl (lv_at hl 0 rfl) ?_
  refine lv_iconst (v := (-1 : Int32)) hx hb xd_Cy_restart_6 (by decide) ?_
  refine fw_puti hx hb hts i_Cy t_Cy t_Cy_ok n_Cy hown hK hD hP hS (xm_14 (by omega)) (xk_14 r) rfl 1 (by decide) (hts _ L_Cy_11) (fun _ h9 => h9) rfl fw_pdI rfl rfl rfl xd_Cy_restart_7 (fun v2 H locs ev2 hP hS => ?_)
  have hI : xI b v2 := by rw [ev2]; exact xI_up hI trivial trivial
  exact fw_vret hx hb hr hlocks hS hP hI xd_Cy_restart_10 (by subst ev1 ev2; simp only [xf_Cy_restart])
def xf_Re_deviceReady (v0 : fw_V) (r : Nat) : fw_V :=
  if (v0 13 r 10) = (5 : Int32) then
    let v6 := xf_Cy_restart v0 (r)
    let v7 := xf_Re_enter v6 (r) (6 : Int32)
    let p10 := xf_Wi_send v7 (11 : Int32) (v7 13 r 11) (0 : Int32) (v7 13 r 12)
    let y8 := p10.1
    let v9 := p10.2
    v9
  else
    if (v0 13 r 10) = (6 : Int32) then
      let p5 := xf_Wi_send v0 (11 : Int32) (v0 13 r 11) (0 : Int32) (v0 13 r 12)
      let y3 := p5.1
      let v4 := p5.2
      v4
    else
      v0

set_option maxHeartbeats 4000000 in
set_option maxRecDepth 100000 in
theorem xc_Re_deviceReady (l : Launch) {D : va_G} {cA : Nat → ClassId} {ad : Nat → Nat → Nat} (hD : fw_D xCL ad) {b : Nat} (v0 : fw_V) (hI : xI b v0) (r : Nat) (hr0 : r < 2)  : Met l xy_Re_deviceReady (Cond.code xy_Re_deviceReady xb_Re_deviceReady 1 none :: vTB) xrm_Re_deviceReady (fw_Pc vNL D vcls (vtys cA) xCL cA xkd ad v0 [.ref (ad 13 r)]) (fw_Qv D vcls xCL cA xkd ad (xI b) (xf_Re_deviceReady v0 r)) 0 0 (fw_A xCL ad) := by
  refine Met.ofW (cc := xb_Re_deviceReady) (maxL := 1) (ret := none) (by decide) rfl ?_
  intro p e s m args below meth c s₁ B hml hv
  obtain ⟨rfl, hP, hK, hN⟩ := hv
  have hx := B.exec
  have hb := B.bytes
  have hr := B.returns
  have hts : ∀ w ∈ vTB, w.before ([.ref (ad 13 r)] : List Value).toArray s = true := fun w h => atoms_spec (ws := (Cond.code xy_Re_deviceReady xb_Re_deviceReady 1 none :: vTB)) B.pre w (List.mem_cons_of_mem _ h)
  have hown : s.vm.findClass R_Re = some m.cls := findClass_of_methodNamed B.named
  have hlocks := B.notSynchronized
  have hS : va_S (fw_A xCL ad) s.heap s.heap [] := va_S.rf
  skip
  have hl := lv_entry ([.ref (ad 13 r)]) (n := 1) (Nat.le_of_ble_eq_true rfl)
  rw [lg_entry_eq]
  generalize (lg_sl ([.ref (ad 13 r)]) ++ List.replicate (1 - (lg_sl ([.ref (ad 13 r)])).length) Slot.unset).toArray = ls at hl ⊢
  have hl : lv_has ls 1 [(0, .ref (ad 13 r))] := hl
  refine lv_aload_n hx hb xd_Re_deviceReady_0 rfl (lv_at hl 0 rfl) ?_
  refine fw_geti hx hb hts i_Re hown hK hP (xm_13 (by omega)) (xk_13 r) rfl 10 (by decide) (hts _ L_Re_56) (fun _ h9 => h9) rfl xd_Re_deviceReady_1 ?_
  refine lv_iconst (v := (5 : Int32)) hx hb xd_Re_deviceReady_4 (by decide) ?_
  refine lv_icmp_ne (tgt := 43) hx hb xd_Re_deviceReady_5 (by decide) (fun c_1 => ?_) (fun c_1 => ?_)
  · refine lv_aload_n hx hb xd_Re_deviceReady_43 rfl (lv_at hl 0 rfl) ?_
    refine fw_geti hx hb hts i_Re hown hK hP (xm_13 (by omega)) (xk_13 r) rfl 10 (by decide) (hts _ L_Re_56) (fun _ h9 => h9) rfl xd_Re_deviceReady_44 ?_
    refine lv_bipush (v := (6 : Int32)) hx hb xd_Re_deviceReady_47 (by decide) ?_
    refine lv_icmp_ne (tgt := 71) hx hb xd_Re_deviceReady_49 (by decide) (fun c_2 => ?_) (fun c_2 => ?_)
    · exact fw_vret hx hb hr hlocks hS hP hI xd_Re_deviceReady_71 (by simp only [xf_Re_deviceReady, if_neg c_1, if_neg c_2])
    · refine lv_aload_n hx hb xd_Re_deviceReady_52 rfl (lv_at hl 0 rfl) ?_
      refine fw_getr hx hb hts i_Re hown hK hP (xm_13 (by omega)) (xk_13 r) rfl 2 (by decide) (hts _ L_Re_42) (fun _ h9 => h9) rfl xd_Re_deviceReady_53 ?_
      refine lv_bipush (v := (11 : Int32)) hx hb xd_Re_deviceReady_56 (by decide) ?_
      refine lv_aload_n hx hb xd_Re_deviceReady_58 rfl (lv_at hl 0 rfl) ?_
      refine fw_geti hx hb hts i_Re hown hK hP (xm_13 (by omega)) (xk_13 r) rfl 11 (by decide) (hts _ L_Re_59) (fun _ h9 => h9) rfl xd_Re_deviceReady_59 ?_
      refine lv_iconst (v := (0 : Int32)) hx hb xd_Re_deviceReady_62 (by decide) ?_
      refine lv_aload_n hx hb xd_Re_deviceReady_63 rfl (lv_at hl 0 rfl) ?_
      refine fw_geti hx hb hts i_Re hown hK hP (xm_13 (by omega)) (xk_13 r) rfl 12 (by decide) (hts _ L_Re_31) (fun _ h9 => h9) rfl xd_Re_deviceReady_64 ?_
      refine fw_cr (va_runV (As := [.int (11 : Int32), .int (v0 13 r 11), .int (0 : Int32), .int (v0 13 r 12)]) (rest := []) ⟨hx, hb, hml, hown, hts⟩ (xc_Wi_send l hD v0 hI (11 : Int32) (v0 13 r 11) (0 : Int32) (v0 13 r 12)) (xw_Wi_send hts L_Re_145 ⟨Nat.le_of_ble_eq_true rfl, Nat.le_of_ble_eq_true rfl⟩) (fw_preV hN hK hP (xm_5 (by decide)) (xk_5 0) rfl) rfl rfl hl.1 rfl (lv_room (Nat.le_of_ble_eq_true rfl)) xd_Re_deviceReady_67 ⟨Nat.le_of_ble_eq_true rfl, Nat.le_of_ble_eq_true rfl⟩) hS (fun y3 v4 H locs ly3 ey3 ev4 hI hP hS => ?_)
      refine lv_pop hx hb xd_Re_deviceReady_70 rfl ?_
      exact fw_vret hx hb hr hlocks hS hP hI xd_Re_deviceReady_71 (by subst ey3 ev4; simp only [xf_Re_deviceReady, if_neg c_1, if_pos c_2])
  · refine lv_aload_n hx hb xd_Re_deviceReady_8 rfl (lv_at hl 0 rfl) ?_
    refine fw_getr hx hb hts i_Re hown hK hP (xm_13 (by omega)) (xk_13 r) rfl 4 (by decide) (hts _ L_Re_12) (fun _ h9 => h9) rfl xd_Re_deviceReady_9 ?_
    refine fw_cv (va_runV (As := []) (rest := []) ⟨hx, hb, hml, hown, hts⟩ (xc_Cy_restart l hD v0 hI (r) (by omega)) (xw_Cy_restart hts L_Re_142 ⟨Nat.le_of_ble_eq_true rfl, Nat.le_of_ble_eq_true rfl⟩) (fw_preV hN hK hP (xm_14 (by omega)) (xk_14 r) rfl) rfl rfl hl.1 rfl (lv_room (Nat.le_of_ble_eq_true rfl)) xd_Re_deviceReady_12 ⟨Nat.le_of_ble_eq_true rfl, Nat.le_of_ble_eq_true rfl⟩) hS (fun v6 H locs ev6 hI hP hS => ?_)
    refine lv_aload_n hx hb xd_Re_deviceReady_15 rfl (lv_at hl 0 rfl) ?_
    refine lv_bipush (v := (6 : Int32)) hx hb xd_Re_deviceReady_16 (by decide) ?_
    refine fw_cv (va_runV (As := [.int (6 : Int32)]) (rest := []) ⟨hx, hb, hml, hown, hts⟩ (xc_Re_enter l hD v6 hI (r) (by omega) (6 : Int32)) (xw_Re_enter hts L_Re_68 ⟨Nat.le_of_ble_eq_true rfl, Nat.le_of_ble_eq_true rfl⟩) (fw_preV hN hK hP (xm_13 (by omega)) (xk_13 r) rfl) rfl rfl hl.1 rfl (lv_room (Nat.le_of_ble_eq_true rfl)) xd_Re_deviceReady_18 ⟨Nat.le_of_ble_eq_true rfl, Nat.le_of_ble_eq_true rfl⟩) hS (fun v7 H locs ev7 hI hP hS => ?_)
    refine lv_aload_n hx hb xd_Re_deviceReady_21 rfl (lv_at hl 0 rfl) ?_
    refine fw_getr hx hb hts i_Re hown hK hP (xm_13 (by omega)) (xk_13 r) rfl 2 (by decide) (hts _ L_Re_42) (fun _ h9 => h9) rfl xd_Re_deviceReady_22 ?_
    refine lv_bipush (v := (11 : Int32)) hx hb xd_Re_deviceReady_25 (by decide) ?_
    refine lv_aload_n hx hb xd_Re_deviceReady_27 rfl (lv_at hl 0 rfl) ?_
    refine fw_geti hx hb hts i_Re hown hK hP (xm_13 (by omega)) (xk_13 r) rfl 11 (by decide) (hts _ L_Re_59) (fun _ h9 => h9) rfl xd_Re_deviceReady_28 ?_
    refine lv_iconst (v := (0 : Int32)) hx hb xd_Re_deviceReady_31 (by decide) ?_
    refine lv_aload_n hx hb xd_Re_deviceReady_32 rfl (lv_at hl 0 rfl) ?_
    refine fw_geti hx hb hts i_Re hown hK hP (xm_13 (by omega)) (xk_13 r) rfl 12 (by decide) (hts _ L_Re_31) (fun _ h9 => h9) rfl xd_Re_deviceReady_33 ?_
    refine fw_cr (va_runV (As := [.int (11 : Int32), .int (v7 13 r 11), .int (0 : Int32), .int (v7 13 r 12)]) (rest := []) ⟨hx, hb, hml, hown, hts⟩ (xc_Wi_send l hD v7 hI (11 : Int32) (v7 13 r 11) (0 : Int32) (v7 13 r 12)) (xw_Wi_send hts L_Re_145 ⟨Nat.le_of_ble_eq_true rfl, Nat.le_of_ble_eq_true rfl⟩) (fw_preV hN hK hP (xm_5 (by decide)) (xk_5 0) rfl) rfl rfl hl.1 rfl (lv_room (Nat.le_of_ble_eq_true rfl)) xd_Re_deviceReady_36 ⟨Nat.le_of_ble_eq_true rfl, Nat.le_of_ble_eq_true rfl⟩) hS (fun y8 v9 H locs ly8 ey8 ev9 hI hP hS => ?_)
    refine lv_pop hx hb xd_Re_deviceReady_39 rfl ?_
    refine lv_goto (tgt := 71) hx hb xd_Re_deviceReady_40 (by decide) ?_
    exact fw_vret hx hb hr hlocks hS hP hI xd_Re_deviceReady_71 (by subst ev6 ev7 ey8 ev9; simp only [xf_Re_deviceReady, if_pos c_1])

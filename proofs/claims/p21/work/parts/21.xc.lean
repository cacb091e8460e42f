def xf_FR_plug (v0 : fw_V) (a1 : Int32) (a2 : Int32) (a3 : Int32) : Int32 × fw_V :=
  let r1 := xf_FR_isDevice a1
  if r1 = (0 : Int32) then
    ((0 : Int32), v0)
  else
    let r4 := xf_FR_isSlot a2
    if r4 = (0 : Int32) then
      ((0 : Int32), v0)
    else
      let r7 := xf_FR_isKindOrNone a3
      if r7 = (0 : Int32) then
        ((0 : Int32), v0)
      else
        let v10 := xf_De_changeModule v0 ((a1.toNatClampNeg)) a2 a3
        ((1 : Int32), v10)

set_option maxHeartbeats 4000000 in
set_option maxRecDepth 100000 in
theorem xc_FR_plug (l : Launch) {D : va_G} {cA : Nat → ClassId} {ad : Nat → Nat → Nat} (hD : fw_D xCL ad) {b : Nat} (v0 : fw_V) (hI : xI b v0) (a1 : Int32) (a2 : Int32) (a3 : Int32)  : Met l xy_FR_plug (Cond.code xy_FR_plug xb_FR_plug 4 (some .boolean) :: vTB) xrm_FR_plug (fw_Pc vNL D vcls (vtys cA) xCL cA xkd ad v0 [.ref (ad 0 0), .int a1, .int a2, .int a3]) (fw_Qz D vcls xCL cA xkd ad (xI b) (xf_FR_plug v0 a1 a2 a3)) 0 0 (fw_A xCL ad) := by
  refine Met.ofW (cc := xb_FR_plug) (maxL := 4) (ret := (some .boolean)) (by decide) rfl ?_
  intro p e s m args below meth c s₁ B hml hv
  obtain ⟨rfl, hP, hK, hN⟩ := hv
  have hx := B.exec
  have hb := B.bytes
  have hr := B.returns
  have hts : ∀ w ∈ vTB, w.before ([.ref (ad 0 0), .int a1, .int a2, .int a3] : List Value).toArray s = true := fun w h => atoms_spec (ws := (Cond.code xy_FR_plug xb_FR_plug 4 (some .boolean) :: vTB)) B.pre w (List.mem_cons_of_mem _ h)
  have hown : s.vm.findClass R_FR = some m.cls := findClass_of_methodNamed B.named
  have hlocks := B.notSynchronized
  have hS : va_S (fw_A xCL ad) s.heap s.heap [] := va_S.rf
  skip
  have hl := lv_entry ([.ref (ad 0 0), .int a1, .int a2, .int a3]) (n := 4) (Nat.le_of_ble_eq_true rfl)
  rw [lg_entry_eq]
  generalize (lg_sl ([.ref (ad 0 0), .int a1, .int a2, .int a3]) ++ List.replicate (4 - (lg_sl ([.ref (ad 0 0), .int a1, .int a2, .int a3])).length) Slot.unset).toArray = ls at hl ⊢
  have hl : lv_has ls 4 [(0, .ref (ad 0 0)), (1, .int a1), (2, .int a2), (3, .int a3)] := hl
  refine lv_iload_n hx hb xd_FR_plug_0 rfl (lv_at hl 1 rfl) ?_
  refine fw_cb (va_runS (As := [.int a1]) (rest := []) ⟨hx, hb, hml, hown, hts⟩ (xc_FR_isDevice l hD v0 hI a1) (xw_FR_isDevice hts L_FR_64 ⟨Nat.le_of_ble_eq_true rfl, Nat.le_of_ble_eq_true rfl⟩) (fw_preS hN hK hP) rfl rfl hl.1 rfl (lv_room (Nat.le_of_ble_eq_true rfl)) xd_FR_plug_1 ⟨Nat.le_of_ble_eq_true rfl, Nat.le_of_ble_eq_true rfl⟩) hS (fun r1 H locs zr1 er1 hP hS => ?_)
  refine lv_if_eq (tgt := 21) hx hb xd_FR_plug_4 (by decide) (fun c_2 => ?_) (fun c_2 => ?_)
  · refine lv_iconst (v := (0 : Int32)) hx hb xd_FR_plug_21 (by decide) ?_
    exact fw_zret hx hb hr hlocks hS hP hI xd_FR_plug_22 (by decide) (by subst er1; simp only [xf_FR_plug, if_pos c_2])
  · have h_3 : vp_in a1 2 := xp_FR_isDevice er1 c_2
    refine lv_iload_n hx hb xd_FR_plug_7 rfl (lv_at hl 2 rfl) ?_
    refine fw_cb (va_runS (As := [.int a2]) (rest := []) ⟨hx, hb, hml, hown, hts⟩ (xc_FR_isSlot l hD v0 hI a2) (xw_FR_isSlot hts L_FR_71 ⟨Nat.le_of_ble_eq_true rfl, Nat.le_of_ble_eq_true rfl⟩) (fw_preS hN hK hP) rfl rfl hl.1 rfl (lv_room (Nat.le_of_ble_eq_true rfl)) xd_FR_plug_8 ⟨Nat.le_of_ble_eq_true rfl, Nat.le_of_ble_eq_true rfl⟩) hS (fun r4 H locs zr4 er4 hP hS => ?_)
    refine lv_if_eq (tgt := 21) hx hb xd_FR_plug_11 (by decide) (fun c_5 => ?_) (fun c_5 => ?_)
    · refine lv_iconst (v := (0 : Int32)) hx hb xd_FR_plug_21 (by decide) ?_
      exact fw_zret hx hb hr hlocks hS hP hI xd_FR_plug_22 (by decide) (by subst er1 er4; simp only [xf_FR_plug, if_neg c_2, if_pos c_5])
    · have h_6 : vp_in a2 3 := xp_FR_isSlot er4 c_5
      refine lv_iload_n hx hb xd_FR_plug_14 rfl (lv_at hl 3 rfl) ?_
      refine fw_cb (va_runS (As := [.int a3]) (rest := []) ⟨hx, hb, hml, hown, hts⟩ (xc_FR_isKindOrNone l hD v0 hI a3) (xw_FR_isKindOrNone hts L_FR_74 ⟨Nat.le_of_ble_eq_true rfl, Nat.le_of_ble_eq_true rfl⟩) (fw_preS hN hK hP) rfl rfl hl.1 rfl (lv_room (Nat.le_of_ble_eq_true rfl)) xd_FR_plug_15 ⟨Nat.le_of_ble_eq_true rfl, Nat.le_of_ble_eq_true rfl⟩) hS (fun r7 H locs zr7 er7 hP hS => ?_)
      refine lv_if_ne (tgt := 23) hx hb xd_FR_plug_18 (by decide) (fun c_8 => ?_) (fun c_8 => ?_)
      · refine lv_aload_n hx hb xd_FR_plug_23 rfl (lv_at hl 0 rfl) ?_
        refine fw_getr hx hb hts i_FR hown hK hP (xm_0 (by decide)) (xk_0 0) rfl 4 (by decide) (hts _ L_FR_38) (fun _ h9 => h9) rfl xd_FR_plug_24 ?_
        refine lv_iload_n hx hb xd_FR_plug_27 rfl (lv_at hl 1 rfl) ?_
        have k_9 : a1.toNatClampNeg < 2 := fw_inlt h_3
        refine fw_alds hx hb hK hP (xm_12 (by decide)) (xk_12 0) 4 rfl (j := a1.toNatClampNeg) rfl h_3 xd_FR_plug_28 ?_
        refine lv_iload_n hx hb xd_FR_plug_29 rfl (lv_at hl 2 rfl) ?_
        refine lv_iload_n hx hb xd_FR_plug_30 rfl (lv_at hl 3 rfl) ?_
        refine fw_cv (va_runV (As := [.int a2, .int a3]) (rest := []) ⟨hx, hb, hml, hown, hts⟩ (xc_De_changeModule l hD v0 hI ((a1.toNatClampNeg)) (by omega) a2 a3 h_6) (xw_De_changeModule hts L_FR_77 ⟨Nat.le_of_ble_eq_true rfl, Nat.le_of_ble_eq_true rfl⟩) (fw_preV hN hK hP (xm_19 (by omega)) (xk_19 (a1.toNatClampNeg)) rfl) rfl rfl hl.1 rfl (lv_room (Nat.le_of_ble_eq_true rfl)) xd_FR_plug_31 ⟨Nat.le_of_ble_eq_true rfl, Nat.le_of_ble_eq_true rfl⟩) hS (fun v10 H locs ev10 hI hP hS => ?_)
        refine lv_iconst (v := (1 : Int32)) hx hb xd_FR_plug_34 (by decide) ?_
        exact fw_zret hx hb hr hlocks hS hP hI xd_FR_plug_35 (by decide) (by subst er1 er4 er7 ev10; simp only [xf_FR_plug, if_neg c_2, if_neg c_5, if_neg c_8])
      · refine lv_iconst (v := (0 : Int32)) hx hb xd_FR_plug_21 (by decide) ?_
        exact fw_zret hx hb hr hlocks hS hP hI xd_FR_plug_22 (by decide) (by subst er1 er4 er7; simp only [xf_FR_plug, if_neg c_2, if_neg c_5, if_pos c_8])
def xf_FR_isOctet (a1 : Int32) : Int32 :=
  let r1 := xf_FR_within a1 (0 : Int32) (255 : Int32)
  r1

set_option maxHeartbeats 4000000 in
set_option maxRecDepth 100000 in
theorem xc_FR_isOctet (l : Launch) {D : va_G} {cA : Nat → ClassId} {ad : Nat → Nat → Nat} (hD : fw_D xCL ad) {b : Nat} (v0 : fw_V) (hI : xI b v0) (a1 : Int32)  : Met l xy_FR_isOctet (Cond.code xy_FR_isOctet xb_FR_isOctet 1 (some .boolean) :: vTB) xrm_FR_isOctet (fw_Pc vNL D vcls (vtys cA) xCL cA xkd ad v0 [.int a1]) (fw_Qb D vcls xCL cA xkd ad v0 (xf_FR_isOctet a1)) 0 0 (fw_A xCL ad) := by
  refine Met.ofW (cc := xb_FR_isOctet) (maxL := 1) (ret := (some .boolean)) (by decide) rfl ?_
  intro p e s m args below meth c s₁ B hml hv
  obtain ⟨rfl, hP, hK, hN⟩ := hv
  have hx := B.exec
  have hb := B.bytes
  have hr := B.returns
  have hts : ∀ w ∈ vTB, w.before ([.int a1] : List Value).toArray s = true := fun w h => atoms_spec (ws := (Cond.code xy_FR_isOctet xb_FR_isOctet 1 (some .boolean) :: vTB)) B.pre w (List.mem_cons_of_mem _ h)
  have hown : s.vm.findClass R_FR = some m.cls := findClass_of_methodNamed B.named
  have hlocks := B.notSynchronized
  have hS : va_S (fw_A xCL ad) s.heap s.heap [] := va_S.rf
  skip
  have hl := lv_entry ([.int a1]) (n := 1) (Nat.le_of_ble_eq_true rfl)
  rw [lg_entry_eq]
  generalize (lg_sl ([.int a1]) ++ List.replicate (1 - (lg_sl ([.int a1])).length) Slot.unset).toArray = ls at hl ⊢
  have hl : lv_has ls 1 [(0, .int a1)] := hl
  refine lv_iload_n hx hb xd_FR_isOctet_0 rfl (lv_at hl 0 rfl) ?_
  refine lv_iconst (v := (0 : Int32)) hx hb xd_FR_isOctet_1 (by decide) ?_
  refine lv_sipush (v := (255 : Int32)) hx hb xd_FR_isOctet_2 (by decide) ?_
  refine fw_cb (va_runS (As := [.int a1, .int (0 : Int32), .int (255 : Int32)]) (rest := []) ⟨hx, hb, hml, hown, hts⟩ (xc_FR_within l hD v0 hI a1 (0 : Int32) (255 : Int32)) (xw_FR_within hts L_FR_52 ⟨Nat.le_of_ble_eq_true rfl, Nat.le_of_ble_eq_true rfl⟩) (fw_preS hN hK hP) rfl rfl hl.1 rfl (lv_room (Nat.le_of_ble_eq_true rfl)) xd_FR_isOctet_5 ⟨Nat.le_of_ble_eq_true rfl, Nat.le_of_ble_eq_true rfl⟩) hS (fun r1 H locs zr1 er1 hP hS => ?_)
  exact fw_bret hx hb hr hlocks hS hP xd_FR_isOctet_8 zr1 (by subst er1; simp only [xf_FR_isOctet])
def xf_De_setFallback (v0 : fw_V) (r : Nat) (a1 : Int32) (a2 : Int32) : fw_V :=
  let v1 := fw_up v0 19 r 6 a1
  let v2 := fw_up v1 19 r 7 a2
  v2

set_option maxHeartbeats 4000000 in
set_option maxRecDepth 100000 in
theorem xc_De_setFallback (l : Launch) {D : va_G} {cA : Nat → ClassId} {ad : Nat → Nat → Nat} (hD : fw_D xCL ad) {b : Nat} (v0 : fw_V) (hI : xI b v0) (r : Nat) (hr0 : r < 2) (a1 : Int32) (a2 : Int32)  : Met l xy_De_setFallback (Cond.code xy_De_setFallback xb_De_setFallback 3 none :: vTB) xrm_De_setFallback (fw_Pc vNL D vcls (vtys cA) xCL cA xkd ad v0 [.ref (ad 19 r), .int a1, .int a2]) (fw_Qv D vcls xCL cA xkd ad (xI b) (xf_De_setFallback v0 r a1 a2)) 0 0 (fw_A xCL ad) := by
  refine Met.ofW (cc := xb_De_setFallback) (maxL := 3) (ret := none) (by decide) rfl ?_
  intro p e s m args below meth c s₁ B hml hv
  obtain ⟨rfl, hP, hK, hN⟩ := hv
  have hx := B.exec
  have hb := B.bytes
  have hr := B.returns
  have hts : ∀ w ∈ vTB, w.before ([.ref (ad 19 r), .int a1, .int a2] : List Value).toArray s = true := fun w h => atoms_spec (ws := (Cond.code xy_De_setFallback xb_De_setFallback 3 none :: vTB)) B.pre w (List.mem_cons_of_mem _ h)
  have hown : s.vm.findClass R_De = some m.cls := findClass_of_methodNamed B.named
  have hlocks := B.notSynchronized
  have hS : va_S (fw_A xCL ad) s.heap s.heap [] := va_S.rf
  skip
  have hl := lv_entry ([.ref (ad 19 r), .int a1, .int a2]) (n := 3) (Nat.le_of_ble_eq_true rfl)
  rw [lg_entry_eq]
  generalize (lg_sl ([.ref (ad 19 r), .int a1, .int a2]) ++ List.replicate (3 - (lg_sl ([.ref (ad 19 r), .int a1, .int a2])).length) Slot.unset).toArray = ls at hl ⊢
  have hl : lv_has ls 3 [(0, .ref (ad 19 r)), (1, .int a1), (2, .int a2)] := hl
  refine lv_aload_n hx hb xd_De_setFallback_0 rfl (lv_at hl 0 rfl) ?_
  refine lv_iload_n hx hb xd_De_setFallback_1 rfl (lv_at hl 1 rfl) ?_
  refine fw_puti hx hb hts i_De t_De t_De_ok n_De hown hK hD hP hS (xm_19 (by omega)) (xk_19 r) rfl 6 (by decide) (hts _ L_De_25) (fun _ h9 => h9) rfl fw_pdI rfl rfl rfl xd_De_setFallback_2 (fun v1 H locs ev1 hP hS => ?_)
  have hI : xI b v1 := by rw [ev1]; exact xI_up hI trivial trivial
  refine lv_aload_n hx hb xd_De_setFallback_5 rfl (lv_at hl 0 rfl) ?_
  refine lv_iload_n hx hb xd_De_setFallback_6 rfl (lv_at hl 2 rfl) ?_
  refine fw_puti hx hb hts i_De t_De t_De_ok n_De hown hK hD hP hS (xm_19 (by omega)) (xk_19 r) rfl 7 (by decide) (hts _ L_De_65) (fun _ h9 => h9) rfl fw_pdI rfl rfl rfl xd_De_setFallback_7 (fun v2 H locs ev2 hP hS => ?_)
  have hI : xI b v2 := by rw [ev2]; exact xI_up hI trivial trivial
  exact fw_vret hx hb hr hlocks hS hP hI xd_De_setFallback_10 (by subst ev1 ev2; simp only [xf_De_setFallback])
def xf_FR_substitute_j1 (v : fw_V) (a1 : Int32) (a2 : Int32) (a3 : Int32)  : Int32 × fw_V :=
  let v9 := xf_De_setFallback v ((a1.toNatClampNeg)) a2 a3
  ((1 : Int32), v9)
def xf_FR_substitute (v0 : fw_V) (a1 : Int32) (a2 : Int32) (a3 : Int32) : Int32 × fw_V :=
  let r1 := xf_FR_isDevice a1
  if r1 = (0 : Int32) then
    ((0 : Int32), v0)
  else
    let r4 := xf_FR_within a2 (0 : Int32) (2 : Int32)
    if r4 = (0 : Int32) then
      ((0 : Int32), v0)
    else
      if a2 = (2 : Int32) then
        let r10 := xf_FR_isOctet a3
        if r10 = (0 : Int32) then
          ((0 : Int32), v0)
        else
          xf_FR_substitute_j1 v0 a1 a2 a3
      else
        xf_FR_substitute_j1 v0 a1 a2 a3

set_option maxHeartbeats 4000000 in
set_option maxRecDepth 100000 in
theorem xc_FR_substitute (l : Launch) {D : va_G} {cA : Nat → ClassId} {ad : Nat → Nat → Nat} (hD : fw_D xCL ad) {b : Nat} (v0 : fw_V) (hI : xI b v0) (a1 : Int32) (a2 : Int32) (a3 : Int32)  : Met l xy_FR_substitute (Cond.code xy_FR_substitute xb_FR_substitute 4 (some .boolean) :: vTB) xrm_FR_substitute (fw_Pc vNL D vcls (vtys cA) xCL cA xkd ad v0 [.ref (ad 0 0), .int a1, .int a2, .int a3]) (fw_Qz D vcls xCL cA xkd ad (xI b) (xf_FR_substitute v0 a1 a2 a3)) 0 0 (fw_A xCL ad) := by
  refine Met.ofW (cc := xb_FR_substitute) (maxL := 4) (ret := (some .boolean)) (by decide) rfl ?_
  intro p e s m args below meth c s₁ B hml hv
  obtain ⟨rfl, hP, hK, hN⟩ := hv
  have hx := B.exec
  have hb := B.bytes
  have hr := B.returns
  have hts : ∀ w ∈ vTB, w.before ([.ref (ad 0 0), .int a1, .int a2, .int a3] : List Value).toArray s = true := fun w h => atoms_spec (ws := (Cond.code xy_FR_substitute xb_FR_substitute 4 (some .boolean) :: vTB)) B.pre w (List.mem_cons_of_mem _ h)
  have hown : s.vm.findClass R_FR = some m.cls := findClass_of_methodNamed B.named
  have hlocks := B.notSynchronized
  have hS : va_S (fw_A xCL ad) s.heap s.heap [] := va_S.rf
  have J1 : ∀ (v : fw_V)  (H : Heap) (locs : List Loc) (ls : Array Slot), xf_FR_substitute v0 a1 a2 a3 = xf_FR_substitute_j1 v a1 a2 a3 → vp_in a1 2 → vp_in a2 3 → xI b v → va_P D vcls (fw_w xCL cA xkd ad v) H → va_S (fw_A xCL ad) s.heap H locs → lv_has ls 4 [(0, .ref (ad 0 0)), (1, .int a1), (2, .int a2), (3, .int a3)] → W p l e (headSpec (Cond.code xy_FR_substitute xb_FR_substitute 4 (some .boolean) :: vTB) xrm_FR_substitute).room s m ([.ref (ad 0 0), .int a1, .int a2, .int a3] : List Value).toArray below meth c H locs 0 0 (MQ below (fw_Qz D vcls xCL cA xkd ad (xI b) (xf_FR_substitute v0 a1 a2 a3)) ([.ref (ad 0 0), .int a1, .int a2, .int a3] : List Value).toArray s 0 0 (fw_A xCL ad)) (F0 m 32 ls []) := by
    intro v  H locs ls hj hc0 hc1 hI hP hS hl
    refine lv_aload_n hx hb xd_FR_substitute_32 rfl (lv_at hl 0 rfl) ?_
    refine fw_getr hx hb hts i_FR hown hK hP (xm_0 (by decide)) (xk_0 0) rfl 4 (by decide) (hts _ L_FR_38) (fun _ h9 => h9) rfl xd_FR_substitute_33 ?_
    refine lv_iload_n hx hb xd_FR_substitute_36 rfl (lv_at hl 1 rfl) ?_
    have k_8 : a1.toNatClampNeg < 2 := fw_inlt hc0
    refine fw_alds hx hb hK hP (xm_12 (by decide)) (xk_12 0) 4 rfl (j := a1.toNatClampNeg) rfl hc0 xd_FR_substitute_37 ?_
    refine lv_iload_n hx hb xd_FR_substitute_38 rfl (lv_at hl 2 rfl) ?_
    refine lv_iload_n hx hb xd_FR_substitute_39 rfl (lv_at hl 3 rfl) ?_
    refine fw_cv (va_runV (As := [.int a2, .int a3]) (rest := []) ⟨hx, hb, hml, hown, hts⟩ (xc_De_setFallback l hD v hI ((a1.toNatClampNeg)) (by omega) a2 a3) (xw_De_setFallback hts L_FR_84 ⟨Nat.le_of_ble_eq_true rfl, Nat.le_of_ble_eq_true rfl⟩) (fw_preV hN hK hP (xm_19 (by omega)) (xk_19 (a1.toNatClampNeg)) rfl) rfl rfl hl.1 rfl (lv_room (Nat.le_of_ble_eq_true rfl)) xd_FR_substitute_40 ⟨Nat.le_of_ble_eq_true rfl, Nat.le_of_ble_eq_true rfl⟩) hS (fun v9 H locs ev9 hI hP hS => ?_)
    refine lv_iconst (v := (1 : Int32)) hx hb xd_FR_substitute_43 (by decide) ?_
    exact fw_zret hx hb hr hlocks hS hP hI xd_FR_substitute_44 (by decide) (by rw [hj]; subst ev9; simp only [xf_FR_substitute_j1])
  skip
  have hl := lv_entry ([.ref (ad 0 0), .int a1, .int a2, .int a3]) (n := 4) (Nat.le_of_ble_eq_true rfl)
  rw [lg_entry_eq]
  generalize (lg_sl ([.ref (ad 0 0), .int a1, .int a2, .int a3]) ++ List.replicate (4 - (lg_sl ([.ref (ad 0 0), .int a1, .int a2, .int a3])).length) Slot.unset).toArray = ls at hl ⊢
  have hl : lv_has ls 4 [(0, .ref (ad 0 0)), (1, .int a1), (2, .int a2), (3, .int a3)] := hl
  refine lv_iload_n hx hb xd_FR_substitute_0 rfl (lv_at hl 1 rfl) ?_
  refine fw_cb (va_runS (As := [.int a1]) (rest := []) ⟨hx, hb, hml, hown, hts⟩ (xc_FR_isDevice l hD v0 hI a1) (xw_FR_isDevice hts L_FR_64 ⟨Nat.le_of_ble_eq_true rfl, Nat.le_of_ble_eq_true rfl⟩) (fw_preS hN hK hP) rfl rfl hl.1 rfl (lv_room (Nat.le_of_ble_eq_true rfl)) xd_FR_substitute_1 ⟨Nat.le_of_ble_eq_true rfl, Nat.le_of_ble_eq_true rfl⟩) hS (fun r1 H locs zr1 er1 hP hS => ?_)
  refine lv_if_eq (tgt := 16) hx hb xd_FR_substitute_4 (by decide) (fun c_2 => ?_) (fun c_2 => ?_)
  · refine lv_iconst (v := (0 : Int32)) hx hb xd_FR_substitute_16 (by decide) ?_
    exact fw_zret hx hb hr hlocks hS hP hI xd_FR_substitute_17 (by decide) (by subst er1; simp only [xf_FR_substitute, if_pos c_2])
  · have h_3 : vp_in a1 2 := xp_FR_isDevice er1 c_2
    refine lv_iload_n hx hb xd_FR_substitute_7 rfl (lv_at hl 2 rfl) ?_
    refine lv_iconst (v := (0 : Int32)) hx hb xd_FR_substitute_8 (by decide) ?_
    refine lv_iconst (v := (2 : Int32)) hx hb xd_FR_substitute_9 (by decide) ?_
    refine fw_cb (va_runS (As := [.int a2, .int (0 : Int32), .int (2 : Int32)]) (rest := []) ⟨hx, hb, hml, hown, hts⟩ (xc_FR_within l hD v0 hI a2 (0 : Int32) (2 : Int32)) (xw_FR_within hts L_FR_52 ⟨Nat.le_of_ble_eq_true rfl, Nat.le_of_ble_eq_true rfl⟩) (fw_preS hN hK hP) rfl rfl hl.1 rfl (lv_room (Nat.le_of_ble_eq_true rfl)) xd_FR_substitute_10 ⟨Nat.le_of_ble_eq_true rfl, Nat.le_of_ble_eq_true rfl⟩) hS (fun r4 H locs zr4 er4 hP hS => ?_)
    refine lv_if_ne (tgt := 18) hx hb xd_FR_substitute_13 (by decide) (fun c_5 => ?_) (fun c_5 => ?_)
    · have h_6 : vp_in a2 3 := xp_within er4 c_5 (by decide)
      refine lv_iload_n hx hb xd_FR_substitute_18 rfl (lv_at hl 2 rfl) ?_
      refine lv_iconst (v := (2 : Int32)) hx hb xd_FR_substitute_19 (by decide) ?_
      refine lv_icmp_ne (tgt := 32) hx hb xd_FR_substitute_20 (by decide) (fun c_7 => ?_) (fun c_7 => ?_)
      · exact J1 v0  _ _ _ (by subst er1 er4; simp only [xf_FR_substitute, if_neg c_2, if_neg c_5, if_neg c_7]) h_3 h_6  hI hP hS (lv_sub hl [0, 1, 2, 3] rfl)
      · refine lv_iload_n hx hb xd_FR_substitute_23 rfl (lv_at hl 3 rfl) ?_
        refine fw_cb (va_runS (As := [.int a3]) (rest := []) ⟨hx, hb, hml, hown, hts⟩ (xc_FR_isOctet l hD v0 hI a3) (xw_FR_isOctet hts L_FR_81 ⟨Nat.le_of_ble_eq_true rfl, Nat.le_of_ble_eq_true rfl⟩) (fw_preS hN hK hP) rfl rfl hl.1 rfl (lv_room (Nat.le_of_ble_eq_true rfl)) xd_FR_substitute_24 ⟨Nat.le_of_ble_eq_true rfl, Nat.le_of_ble_eq_true rfl⟩) hS (fun r10 H locs zr10 er10 hP hS => ?_)
        refine lv_if_ne (tgt := 32) hx hb xd_FR_substitute_27 (by decide) (fun c_11 => ?_) (fun c_11 => ?_)
        · exact J1 v0  _ _ _ (by subst er1 er4 er10; simp only [xf_FR_substitute, if_neg c_2, if_neg c_5, if_pos c_7, if_neg c_11]) h_3 h_6  hI hP hS (lv_sub hl [0, 1, 2, 3] rfl)
        · refine lv_iconst (v := (0 : Int32)) hx hb xd_FR_substitute_30 (by decide) ?_
          exact fw_zret hx hb hr hlocks hS hP hI xd_FR_substitute_31 (by decide) (by subst er1 er4 er10; simp only [xf_FR_substitute, if_neg c_2, if_neg c_5, if_pos c_7, if_pos c_11])
    · refine lv_iconst (v := (0 : Int32)) hx hb xd_FR_substitute_16 (by decide) ?_
      exact fw_zret hx hb hr hlocks hS hP hI xd_FR_substitute_17 (by decide) (by subst er1 er4; simp only [xf_FR_substitute, if_neg c_2, if_pos c_5])
def xf_FR_isPlace (a1 : Int32) (a2 : Int32) : Int32 :=
  let r1 := xf_FR_isSlot a1
  if r1 = (0 : Int32) then
    (0 : Int32)
  else
    let r4 := xf_FR_within a2 (0 : Int32) (1 : Int32)
    if r4 = (0 : Int32) then
      (0 : Int32)
    else
      (1 : Int32)

theorem xp_FR_isPlace0 {r s i : Int32} (er : r = xf_FR_isPlace s i) (c : ¬ r = 0) : vp_in s 3 := by
  by_cases h1 : xf_FR_isSlot s = 0
  · exact absurd (by rw [er]; simp only [xf_FR_isPlace, if_pos h1]) c
  · exact xp_FR_isSlot rfl h1
theorem xp_FR_isPlace1 {r s i : Int32} (er : r = xf_FR_isPlace s i) (c : ¬ r = 0) : vp_in i 2 := by
  by_cases h1 : xf_FR_isSlot s = 0
  · exact absurd (by rw [er]; simp only [xf_FR_isPlace, if_pos h1]) c
  · by_cases h2 : xf_FR_within i 0 1 = 0
    · exact absurd (by rw [er]; simp only [xf_FR_isPlace, if_neg h1, if_pos h2]) c
    · exact xp_in h2 (by decide)
set_option maxHeartbeats 4000000 in
set_option maxRecDepth 100000 in
theorem xc_FR_isPlace (l : Launch) {D : va_G} {cA : Nat → ClassId} {ad : Nat → Nat → Nat} (hD : fw_D xCL ad) {b : Nat} (v0 : fw_V) (hI : xI b v0) (a1 : Int32) (a2 : Int32)  : Met l xy_FR_isPlace (Cond.code xy_FR_isPlace xb_FR_isPlace 2 (some .boolean) :: vTB) xrm_FR_isPlace (fw_Pc vNL D vcls (vtys cA) xCL cA xkd ad v0 [.int a1, .int a2]) (fw_Qb D vcls xCL cA xkd ad v0 (xf_FR_isPlace a1 a2)) 0 0 (fw_A xCL ad) := by
  refine Met.ofW (cc := xb_FR_isPlace) (maxL := 2) (ret := (some .boolean)) (by decide) rfl ?_
  intro p e s m args below meth c s₁ B hml hv
  obtain ⟨rfl, hP, hK, hN⟩ := hv
  have hx := B.exec
  have hb := B.bytes
  have hr := B.returns
  have hts : ∀ w ∈ vTB, w.before ([.int a1, .int a2] : List Value).toArray s = true := fun w h => atoms_spec (ws := (Cond.code xy_FR_isPlace xb_FR_isPlace 2 (some .boolean) :: vTB)) B.pre w (List.mem_cons_of_mem _ h)
  have hown : s.vm.findClass R_FR = some m.cls := findClass_of_methodNamed B.named
  have hlocks := B.notSynchronized
  have hS : va_S (fw_A xCL ad) s.heap s.heap [] := va_S.rf
  skip
  have hl := lv_entry ([.int a1, .int a2]) (n := 2) (Nat.le_of_ble_eq_true rfl)
  rw [lg_entry_eq]
  generalize (lg_sl ([.int a1, .int a2]) ++ List.replicate (2 - (lg_sl ([.int a1, .int a2])).length) Slot.unset).toArray = ls at hl ⊢
  have hl : lv_has ls 2 [(0, .int a1), (1, .int a2)] := hl
  refine lv_iload_n hx hb xd_FR_isPlace_0 rfl (lv_at hl 0 rfl) ?_
  refine fw_cb (va_runS (As := [.int a1]) (rest := []) ⟨hx, hb, hml, hown, hts⟩ (xc_FR_isSlot l hD v0 hI a1) (xw_FR_isSlot hts L_FR_71 ⟨Nat.le_of_ble_eq_true rfl, Nat.le_of_ble_eq_true rfl⟩) (fw_preS hN hK hP) rfl rfl hl.1 rfl (lv_room (Nat.le_of_ble_eq_true rfl)) xd_FR_isPlace_1 ⟨Nat.le_of_ble_eq_true rfl, Nat.le_of_ble_eq_true rfl⟩) hS (fun r1 H locs zr1 er1 hP hS => ?_)
  refine lv_if_eq (tgt := 20) hx hb xd_FR_isPlace_4 (by decide) (fun c_2 => ?_) (fun c_2 => ?_)
  · refine lv_iconst (v := (0 : Int32)) hx hb xd_FR_isPlace_20 (by decide) ?_
    exact fw_bret hx hb hr hlocks hS hP xd_FR_isPlace_21 (by decide) (by subst er1; simp only [xf_FR_isPlace, if_pos c_2])
  · have h_3 : vp_in a1 3 := xp_FR_isSlot er1 c_2
    refine lv_iload_n hx hb xd_FR_isPlace_7 rfl (lv_at hl 1 rfl) ?_
    refine lv_iconst (v := (0 : Int32)) hx hb xd_FR_isPlace_8 (by decide) ?_
    refine lv_iconst (v := (1 : Int32)) hx hb xd_FR_isPlace_9 (by decide) ?_
    refine fw_cb (va_runS (As := [.int a2, .int (0 : Int32), .int (1 : Int32)]) (rest := []) ⟨hx, hb, hml, hown, hts⟩ (xc_FR_within l hD v0 hI a2 (0 : Int32) (1 : Int32)) (xw_FR_within hts L_FR_52 ⟨Nat.le_of_ble_eq_true rfl, Nat.le_of_ble_eq_true rfl⟩) (fw_preS hN hK hP) rfl rfl hl.1 rfl (lv_room (Nat.le_of_ble_eq_true rfl)) xd_FR_isPlace_10 ⟨Nat.le_of_ble_eq_true rfl, Nat.le_of_ble_eq_true rfl⟩) hS (fun r4 H locs zr4 er4 hP hS => ?_)
    refine lv_if_eq (tgt := 20) hx hb xd_FR_isPlace_13 (by decide) (fun c_5 => ?_) (fun c_5 => ?_)
    · refine lv_iconst (v := (0 : Int32)) hx hb xd_FR_isPlace_20 (by decide) ?_
      exact fw_bret hx hb hr hlocks hS hP xd_FR_isPlace_21 (by decide) (by subst er1 er4; simp only [xf_FR_isPlace, if_neg c_2, if_pos c_5])
    · have h_6 : vp_in a2 2 := xp_within er4 c_5 (by decide)
      refine lv_iconst (v := (1 : Int32)) hx hb xd_FR_isPlace_16 (by decide) ?_
      refine lv_goto (tgt := 21) hx hb xd_FR_isPlace_17 (by decide) ?_
      exact fw_bret hx hb hr hlocks hS hP xd_FR_isPlace_21 (by decide) (by subst er1 er4; simp only [xf_FR_isPlace, if_neg c_2, if_neg c_5])
def xf_FR_sense (v0 : fw_V) (a1 : Int32) (a2 : Int32) (a3 : Int32) (a4 : Int32) : Int32 × fw_V :=
  let r1 := xf_FR_isDevice a1
  if r1 = (0 : Int32) then
    ((0 : Int32), v0)
  else
    let r4 := xf_FR_isPlace a2 a3
    if r4 = (0 : Int32) then
      ((0 : Int32), v0)
    else
      let r8 := xf_FR_isOctet a4
      if r8 = (0 : Int32) then
        ((0 : Int32), v0)
      else
        let r11 := xf_FR_place a2 a3
        let v13 := fw_up v0 24 (a1.toNatClampNeg) (r11.toNatClampNeg) a4
        ((1 : Int32), v13)

set_option maxHeartbeats 4000000 in
set_option maxRecDepth 100000 in
theorem xc_FR_sense (l : Launch) {D : va_G} {cA : Nat → ClassId} {ad : Nat → Nat → Nat} (hD : fw_D xCL ad) {b : Nat} (v0 : fw_V) (hI : xI b v0) (a1 : Int32) (a2 : Int32) (a3 : Int32) (a4 : Int32)  : Met l xy_FR_sense (Cond.code xy_FR_sense xb_FR_sense 5 (some .boolean) :: vTB) xrm_FR_sense (fw_Pc vNL D vcls (vtys cA) xCL cA xkd ad v0 [.ref (ad 0 0), .int a1, .int a2, .int a3, .int a4]) (fw_Qz D vcls xCL cA xkd ad (xI b) (xf_FR_sense v0 a1 a2 a3 a4)) 0 0 (fw_A xCL ad) := by
  refine Met.ofW (cc := xb_FR_sense) (maxL := 5) (ret := (some .boolean)) (by decide) rfl ?_
  intro p e s m args below meth c s₁ B hml hv
  obtain ⟨rfl, hP, hK, hN⟩ := hv
  have hx := B.exec
  have hb := B.bytes
  have hr := B.returns
  have hts : ∀ w ∈ vTB, w.before ([.ref (ad 0 0), .int a1, .int a2, .int a3, .int a4] : List Value).toArray s = true := fun w h => atoms_spec (ws := (Cond.code xy_FR_sense xb_FR_sense 5 (some .boolean) :: vTB)) B.pre w (List.mem_cons_of_mem _ h)
  have hown : s.vm.findClass R_FR = some m.cls := findClass_of_methodNamed B.named
  have hlocks := B.notSynchronized
  have hS : va_S (fw_A xCL ad) s.heap s.heap [] := va_S.rf
  skip
  have hl := lv_entry ([.ref (ad 0 0), .int a1, .int a2, .int a3, .int a4]) (n := 5) (Nat.le_of_ble_eq_true rfl)
  rw [lg_entry_eq]
  generalize (lg_sl ([.ref (ad 0 0), .int a1, .int a2, .int a3, .int a4]) ++ List.replicate (5 - (lg_sl ([.ref (ad 0 0), .int a1, .int a2, .int a3, .int a4])).length) Slot.unset).toArray = ls at hl ⊢
  have hl : lv_has ls 5 [(0, .ref (ad 0 0)), (1, .int a1), (2, .int a2), (3, .int a3), (4, .int a4)] := hl
  refine lv_iload_n hx hb xd_FR_sense_0 rfl (lv_at hl 1 rfl) ?_
  refine fw_cb (va_runS (As := [.int a1]) (rest := []) ⟨hx, hb, hml, hown, hts⟩ (xc_FR_isDevice l hD v0 hI a1) (xw_FR_isDevice hts L_FR_64 ⟨Nat.le_of_ble_eq_true rfl, Nat.le_of_ble_eq_true rfl⟩) (fw_preS hN hK hP) rfl rfl hl.1 rfl (lv_room (Nat.le_of_ble_eq_true rfl)) xd_FR_sense_1 ⟨Nat.le_of_ble_eq_true rfl, Nat.le_of_ble_eq_true rfl⟩) hS (fun r1 H locs zr1 er1 hP hS => ?_)
  refine lv_if_eq (tgt := 23) hx hb xd_FR_sense_4 (by decide) (fun c_2 => ?_) (fun c_2 => ?_)
  · refine lv_iconst (v := (0 : Int32)) hx hb xd_FR_sense_23 (by decide) ?_
    exact fw_zret hx hb hr hlocks hS hP hI xd_FR_sense_24 (by decide) (by subst er1; simp only [xf_FR_sense, if_pos c_2])
  · have h_3 : vp_in a1 2 := xp_FR_isDevice er1 c_2
    refine lv_iload_n hx hb xd_FR_sense_7 rfl (lv_at hl 2 rfl) ?_
    refine lv_iload_n hx hb xd_FR_sense_8 rfl (lv_at hl 3 rfl) ?_
    refine fw_cb (va_runS (As := [.int a2, .int a3]) (rest := []) ⟨hx, hb, hml, hown, hts⟩ (xc_FR_isPlace l hD v0 hI a2 a3) (xw_FR_isPlace hts L_FR_87 ⟨Nat.le_of_ble_eq_true rfl, Nat.le_of_ble_eq_true rfl⟩) (fw_preS hN hK hP) rfl rfl hl.1 rfl (lv_room (Nat.le_of_ble_eq_true rfl)) xd_FR_sense_9 ⟨Nat.le_of_ble_eq_true rfl, Nat.le_of_ble_eq_true rfl⟩) hS (fun r4 H locs zr4 er4 hP hS => ?_)
    refine lv_if_eq (tgt := 23) hx hb xd_FR_sense_12 (by decide) (fun c_5 => ?_) (fun c_5 => ?_)
    · refine lv_iconst (v := (0 : Int32)) hx hb xd_FR_sense_23 (by decide) ?_
      exact fw_zret hx hb hr hlocks hS hP hI xd_FR_sense_24 (by decide) (by subst er1 er4; simp only [xf_FR_sense, if_neg c_2, if_pos c_5])
    · have h_6 : vp_in a2 3 := xp_FR_isPlace0 er4 c_5
      have h_7 : vp_in a3 2 := xp_FR_isPlace1 er4 c_5
      refine lv_iload hx hb xd_FR_sense_15 (lv_at hl 4 rfl) ?_
      refine fw_cb (va_runS (As := [.int a4]) (rest := []) ⟨hx, hb, hml, hown, hts⟩ (xc_FR_isOctet l hD v0 hI a4) (xw_FR_isOctet hts L_FR_81 ⟨Nat.le_of_ble_eq_true rfl, Nat.le_of_ble_eq_true rfl⟩) (fw_preS hN hK hP) rfl rfl hl.1 rfl (lv_room (Nat.le_of_ble_eq_true rfl)) xd_FR_sense_17 ⟨Nat.le_of_ble_eq_true rfl, Nat.le_of_ble_eq_true rfl⟩) hS (fun r8 H locs zr8 er8 hP hS => ?_)
      refine lv_if_ne (tgt := 25) hx hb xd_FR_sense_20 (by decide) (fun c_9 => ?_) (fun c_9 => ?_)
      · refine lv_aload_n hx hb xd_FR_sense_25 rfl (lv_at hl 0 rfl) ?_
        refine fw_getr hx hb hts i_FR hown hK hP (xm_0 (by decide)) (xk_0 0) rfl 4 (by decide) (hts _ L_FR_38) (fun _ h9 => h9) rfl xd_FR_sense_26 ?_
        refine lv_iload_n hx hb xd_FR_sense_29 rfl (lv_at hl 1 rfl) ?_
        have k_10 : a1.toNatClampNeg < 2 := fw_inlt h_3
        refine fw_alds hx hb hK hP (xm_12 (by decide)) (xk_12 0) 4 rfl (j := a1.toNatClampNeg) rfl h_3 xd_FR_sense_30 ?_
        refine fw_getr hx hb hts i_De hown hK hP (xm_19 (by omega)) (xk_19 (a1.toNatClampNeg)) rfl 9 (by decide) (hts _ L_FR_91) (fun _ h9 => h9) rfl xd_FR_sense_31 ?_
        refine lv_iload_n hx hb xd_FR_sense_34 rfl (lv_at hl 2 rfl) ?_
        refine lv_iload_n hx hb xd_FR_sense_35 rfl (lv_at hl 3 rfl) ?_
        refine fw_co (va_runS (As := [.int a2, .int a3]) (rest := [.ref (ad 24 (a1.toNatClampNeg))]) ⟨hx, hb, hml, hown, hts⟩ (xc_FR_place l hD v0 hI a2 a3) (xw_FR_place hts L_FR_95 ⟨Nat.le_of_ble_eq_true rfl, Nat.le_of_ble_eq_true rfl⟩) (fw_preS hN hK hP) rfl rfl hl.1 rfl (lv_room (Nat.le_of_ble_eq_true rfl)) xd_FR_sense_36 ⟨Nat.le_of_ble_eq_true rfl, Nat.le_of_ble_eq_true rfl⟩) hS (fun r11 H locs er11 hP hS => ?_)
        have h_12 : vp_in r11 6 := xp_place er11 h_6 h_7
        refine lv_iload hx hb xd_FR_sense_39 (lv_at hl 4 rfl) ?_
        refine fw_iast hx hb hK hD hP hS (xm_24 (by omega)) (xk_24 (a1.toNatClampNeg)) 0 rfl (j := r11.toNatClampNeg) rfl h_12 xd_FR_sense_41 (fun v13 H locs ev13 hP hS => ?_)
        have hI : xI b v13 := by rw [ev13]; exact xI_up hI trivial trivial
        refine lv_iconst (v := (1 : Int32)) hx hb xd_FR_sense_42 (by decide) ?_
        exact fw_zret hx hb hr hlocks hS hP hI xd_FR_sense_43 (by decide) (by subst er1 er4 er8 er11 ev13; simp only [xf_FR_sense, if_neg c_2, if_neg c_5, if_neg c_9])
      · refine lv_iconst (v := (0 : Int32)) hx hb xd_FR_sense_23 (by decide) ?_
        exact fw_zret hx hb hr hlocks hS hP hI xd_FR_sense_24 (by decide) (by subst er1 er4 er8; simp only [xf_FR_sense, if_neg c_2, if_neg c_5, if_pos c_9])
def xf_FR_target (v0 : fw_V) (a1 : Int32) (a2 : Int32) : Int32 × fw_V :=
  let r1 := xf_FR_isDevice a1
  if r1 = (0 : Int32) then
    ((0 : Int32), v0)
  else
    let r4 := xf_FR_within a2 (1 : Int32) (15 : Int32)
    if r4 = (0 : Int32) then
      ((0 : Int32), v0)
    else
      let r8 := xf_Re_isClosed v0 ((a1.toNatClampNeg))
      if r8 = (0 : Int32) then
        ((0 : Int32), v0)
      else
        let v11 := fw_up v0 13 (a1.toNatClampNeg) 5 a2
        ((1 : Int32), v11)

set_option maxHeartbeats 4000000 in
set_option maxRecDepth 100000 in
theorem xc_FR_target (l : Launch) {D : va_G} {cA : Nat → ClassId} {ad : Nat → Nat → Nat} (hD : fw_D xCL ad) {b : Nat} (v0 : fw_V) (hI : xI b v0) (a1 : Int32) (a2 : Int32)  : Met l xy_FR_target (Cond.code xy_FR_target xb_FR_target 3 (some .boolean) :: vTB) xrm_FR_target (fw_Pc vNL D vcls (vtys cA) xCL cA xkd ad v0 [.ref (ad 0 0), .int a1, .int a2]) (fw_Qz D vcls xCL cA xkd ad (xI b) (xf_FR_target v0 a1 a2)) 0 0 (fw_A xCL ad) := by
  refine Met.ofW (cc := xb_FR_target) (maxL := 3) (ret := (some .boolean)) (by decide) rfl ?_
  intro p e s m args below meth c s₁ B hml hv
  obtain ⟨rfl, hP, hK, hN⟩ := hv
  have hx := B.exec
  have hb := B.bytes
  have hr := B.returns
  have hts : ∀ w ∈ vTB, w.before ([.ref (ad 0 0), .int a1, .int a2] : List Value).toArray s = true := fun w h => atoms_spec (ws := (Cond.code xy_FR_target xb_FR_target 3 (some .boolean) :: vTB)) B.pre w (List.mem_cons_of_mem _ h)
  have hown : s.vm.findClass R_FR = some m.cls := findClass_of_methodNamed B.named
  have hlocks := B.notSynchronized
  have hS : va_S (fw_A xCL ad) s.heap s.heap [] := va_S.rf
  skip
  have hl := lv_entry ([.ref (ad 0 0), .int a1, .int a2]) (n := 3) (Nat.le_of_ble_eq_true rfl)
  rw [lg_entry_eq]
  generalize (lg_sl ([.ref (ad 0 0), .int a1, .int a2]) ++ List.replicate (3 - (lg_sl ([.ref (ad 0 0), .int a1, .int a2])).length) Slot.unset).toArray = ls at hl ⊢
  have hl : lv_has ls 3 [(0, .ref (ad 0 0)), (1, .int a1), (2, .int a2)] := hl
  refine lv_iload_n hx hb xd_FR_target_0 rfl (lv_at hl 1 rfl) ?_
  refine fw_cb (va_runS (As := [.int a1]) (rest := []) ⟨hx, hb, hml, hown, hts⟩ (xc_FR_isDevice l hD v0 hI a1) (xw_FR_isDevice hts L_FR_64 ⟨Nat.le_of_ble_eq_true rfl, Nat.le_of_ble_eq_true rfl⟩) (fw_preS hN hK hP) rfl rfl hl.1 rfl (lv_room (Nat.le_of_ble_eq_true rfl)) xd_FR_target_1 ⟨Nat.le_of_ble_eq_true rfl, Nat.le_of_ble_eq_true rfl⟩) hS (fun r1 H locs zr1 er1 hP hS => ?_)
  refine lv_if_eq (tgt := 29) hx hb xd_FR_target_4 (by decide) (fun c_2 => ?_) (fun c_2 => ?_)
  · refine lv_iconst (v := (0 : Int32)) hx hb xd_FR_target_29 (by decide) ?_
    exact fw_zret hx hb hr hlocks hS hP hI xd_FR_target_30 (by decide) (by subst er1; simp only [xf_FR_target, if_pos c_2])
  · have h_3 : vp_in a1 2 := xp_FR_isDevice er1 c_2
    refine lv_iload_n hx hb xd_FR_target_7 rfl (lv_at hl 2 rfl) ?_
    refine lv_iconst (v := (1 : Int32)) hx hb xd_FR_target_8 (by decide) ?_
    refine lv_bipush (v := (15 : Int32)) hx hb xd_FR_target_9 (by decide) ?_
    refine fw_cb (va_runS (As := [.int a2, .int (1 : Int32), .int (15 : Int32)]) (rest := []) ⟨hx, hb, hml, hown, hts⟩ (xc_FR_within l hD v0 hI a2 (1 : Int32) (15 : Int32)) (xw_FR_within hts L_FR_52 ⟨Nat.le_of_ble_eq_true rfl, Nat.le_of_ble_eq_true rfl⟩) (fw_preS hN hK hP) rfl rfl hl.1 rfl (lv_room (Nat.le_of_ble_eq_true rfl)) xd_FR_target_11 ⟨Nat.le_of_ble_eq_true rfl, Nat.le_of_ble_eq_true rfl⟩) hS (fun r4 H locs zr4 er4 hP hS => ?_)
    refine lv_if_eq (tgt := 29) hx hb xd_FR_target_14 (by decide) (fun c_5 => ?_) (fun c_5 => ?_)
    · refine lv_iconst (v := (0 : Int32)) hx hb xd_FR_target_29 (by decide) ?_
      exact fw_zret hx hb hr hlocks hS hP hI xd_FR_target_30 (by decide) (by subst er1 er4; simp only [xf_FR_target, if_neg c_2, if_pos c_5])
    · have h_6 : ((1 : Int32)).toInt ≤ a2.toInt ∧ a2.toInt ≤ ((15 : Int32)).toInt := xp_rng er4 c_5
      refine lv_aload_n hx hb xd_FR_target_17 rfl (lv_at hl 0 rfl) ?_
      refine fw_getr hx hb hts i_FR hown hK hP (xm_0 (by decide)) (xk_0 0) rfl 3 (by decide) (hts _ L_FR_32) (fun _ h9 => h9) rfl xd_FR_target_18 ?_
      refine lv_iload_n hx hb xd_FR_target_21 rfl (lv_at hl 1 rfl) ?_
      have k_7 : a1.toNatClampNeg < 2 := fw_inlt h_3
      refine fw_alds hx hb hK hP (xm_11 (by decide)) (xk_11 0) 3 rfl (j := a1.toNatClampNeg) rfl h_3 xd_FR_target_22 ?_
      refine fw_cb (va_runV (As := []) (rest := []) ⟨hx, hb, hml, hown, hts⟩ (xc_Re_isClosed l hD v0 hI ((a1.toNatClampNeg)) (by omega)) (xw_Re_isClosed hts L_FR_99 ⟨Nat.le_of_ble_eq_true rfl, Nat.le_of_ble_eq_true rfl⟩) (fw_preV hN hK hP (xm_13 (by omega)) (xk_13 (a1.toNatClampNeg)) rfl) rfl rfl hl.1 rfl (lv_room (Nat.le_of_ble_eq_true rfl)) xd_FR_target_23 ⟨Nat.le_of_ble_eq_true rfl, Nat.le_of_ble_eq_true rfl⟩) hS (fun r8 H locs zr8 er8 hP hS => ?_)
      refine lv_if_ne (tgt := 31) hx hb xd_FR_target_26 (by decide) (fun c_9 => ?_) (fun c_9 => ?_)
      · refine lv_aload_n hx hb xd_FR_target_31 rfl (lv_at hl 0 rfl) ?_
        refine fw_getr hx hb hts i_FR hown hK hP (xm_0 (by decide)) (xk_0 0) rfl 3 (by decide) (hts _ L_FR_32) (fun _ h9 => h9) rfl xd_FR_target_32 ?_
        refine lv_iload_n hx hb xd_FR_target_35 rfl (lv_at hl 1 rfl) ?_
        have k_10 : a1.toNatClampNeg < 2 := fw_inlt h_3
        refine fw_alds hx hb hK hP (xm_11 (by decide)) (xk_11 0) 3 rfl (j := a1.toNatClampNeg) rfl h_3 xd_FR_target_36 ?_
        refine lv_iload_n hx hb xd_FR_target_37 rfl (lv_at hl 2 rfl) ?_
        refine fw_puti hx hb hts i_Re t_Re t_Re_ok n_Re hown hK hD hP hS (xm_13 (by omega)) (xk_13 (a1.toNatClampNeg)) rfl 5 (by decide) (hts _ L_FR_102) (fun _ h9 => h9) rfl fw_pdI rfl rfl rfl xd_FR_target_38 (fun v11 H locs ev11 hP hS => ?_)
        have hI : xI b v11 := by rw [ev11]; exact xI_up hI trivial trivial
        refine lv_iconst (v := (1 : Int32)) hx hb xd_FR_target_41 (by decide) ?_
        exact fw_zret hx hb hr hlocks hS hP hI xd_FR_target_42 (by decide) (by subst er1 er4 er8 ev11; simp only [xf_FR_target, if_neg c_2, if_neg c_5, if_neg c_9])
      · refine lv_iconst (v := (0 : Int32)) hx hb xd_FR_target_29 (by decide) ?_
        exact fw_zret hx hb hr hlocks hS hP hI xd_FR_target_30 (by decide) (by subst er1 er4 er8; simp only [xf_FR_target, if_neg c_2, if_neg c_5, if_pos c_9])
def xf_Re_setExpected (v0 : fw_V) (r : Nat) (a1 : Int32) (a2 : Int32) (a3 : Int32) : fw_V :=
  let v1 := fw_up v0 15 r (a1.toNatClampNeg) a2
  let v2 := fw_up v1 16 r (a1.toNatClampNeg) a3
  v2

set_option maxHeartbeats 4000000 in
set_option maxRecDepth 100000 in
theorem xc_Re_setExpected (l : Launch) {D : va_G} {cA : Nat → ClassId} {ad : Nat → Nat → Nat} (hD : fw_D xCL ad) {b : Nat} (v0 : fw_V) (hI : xI b v0) (r : Nat) (hr0 : r < 2) (a1 : Int32) (a2 : Int32) (a3 : Int32) (hq0 : vp_in a1 3) : Met l xy_Re_setExpected (Cond.code xy_Re_setExpected xb_Re_setExpected 4 none :: vTB) xrm_Re_setExpected (fw_Pc vNL D vcls (vtys cA) xCL cA xkd ad v0 [.ref (ad 13 r), .int a1, .int a2, .int a3]) (fw_Qv D vcls xCL cA xkd ad (xI b) (xf_Re_setExpected v0 r a1 a2 a3)) 0 0 (fw_A xCL ad) := by
  refine Met.ofW (cc := xb_Re_setExpected) (maxL := 4) (ret := none) (by decide) rfl ?_
  intro p e s m args below meth c s₁ B hml hv
  obtain ⟨rfl, hP, hK, hN⟩ := hv
  have hx := B.exec
  have hb := B.bytes
  have hr := B.returns
  have hts : ∀ w ∈ vTB, w.before ([.ref (ad 13 r), .int a1, .int a2, .int a3] : List Value).toArray s = true := fun w h => atoms_spec (ws := (Cond.code xy_Re_setExpected xb_Re_setExpected 4 none :: vTB)) B.pre w (List.mem_cons_of_mem _ h)
  have hown : s.vm.findClass R_Re = some m.cls := findClass_of_methodNamed B.named
  have hlocks := B.notSynchronized
  have hS : va_S (fw_A xCL ad) s.heap s.heap [] := va_S.rf
  skip
  have hl := lv_entry ([.ref (ad 13 r), .int a1, .int a2, .int a3]) (n := 4) (Nat.le_of_ble_eq_true rfl)
  rw [lg_entry_eq]
  generalize (lg_sl ([.ref (ad 13 r), .int a1, .int a2, .int a3]) ++ List.replicate (4 - (lg_sl ([.ref (ad 13 r), .int a1, .int a2, .int a3])).length) Slot.unset).toArray = ls at hl ⊢
  have hl : lv_has ls 4 [(0, .ref (ad 13 r)), (1, .int a1), (2, .int a2), (3, .int a3)] := hl
  refine lv_aload_n hx hb xd_Re_setExpected_0 rfl (lv_at hl 0 rfl) ?_
  refine fw_getr hx hb hts i_Re hown hK hP (xm_13 (by omega)) (xk_13 r) rfl 6 (by decide) (hts _ L_Re_18) (fun _ h9 => h9) rfl xd_Re_setExpected_1 ?_
  refine lv_iload_n hx hb xd_Re_setExpected_4 rfl (lv_at hl 1 rfl) ?_
  refine lv_iload_n hx hb xd_Re_setExpected_5 rfl (lv_at hl 2 rfl) ?_
  refine fw_iast hx hb hK hD hP hS (xm_15 (by omega)) (xk_15 r) 0 rfl (j := a1.toNatClampNeg) rfl hq0 xd_Re_setExpected_6 (fun v1 H locs ev1 hP hS => ?_)
  have hI : xI b v1 := by rw [ev1]; exact xI_up hI trivial trivial
  refine lv_aload_n hx hb xd_Re_setExpected_7 rfl (lv_at hl 0 rfl) ?_
  refine fw_getr hx hb hts i_Re hown hK hP (xm_13 (by omega)) (xk_13 r) rfl 7 (by decide) (hts _ L_Re_22) (fun _ h9 => h9) rfl xd_Re_setExpected_8 ?_
  refine lv_iload_n hx hb xd_Re_setExpected_11 rfl (lv_at hl 1 rfl) ?_
  refine lv_iload_n hx hb xd_Re_setExpected_12 rfl (lv_at hl 3 rfl) ?_
  refine fw_iast hx hb hK hD hP hS (xm_16 (by omega)) (xk_16 r) 0 rfl (j := a1.toNatClampNeg) rfl hq0 xd_Re_setExpected_13 (fun v2 H locs ev2 hP hS => ?_)
  have hI : xI b v2 := by rw [ev2]; exact xI_up hI trivial trivial
  exact fw_vret hx hb hr hlocks hS hP hI xd_Re_setExpected_14 (by subst ev1 ev2; simp only [xf_Re_setExpected])
def xf_FR_expect (v0 : fw_V) (a1 : Int32) (a2 : Int32) (a3 : Int32) (a4 : Int32) : Int32 × fw_V :=
  let r1 := xf_FR_isDevice a1
  if r1 = (0 : Int32) then
    ((0 : Int32), v0)
  else
    let r4 := xf_FR_isSlot a2
    if r4 = (0 : Int32) then
      ((0 : Int32), v0)
    else
      let r7 := xf_FR_isKindOrNone a3
      if r7 = (0 : Int32) then
        ((0 : Int32), v0)
      else
        let r9 := xf_FR_isOctet a4
        if r9 = (0 : Int32) then
          ((0 : Int32), v0)
        else
          let r12 := xf_Re_isClosed v0 ((a1.toNatClampNeg))
          if r12 = (0 : Int32) then
            ((0 : Int32), v0)
          else
            let v15 := xf_Re_setExpected v0 ((a1.toNatClampNeg)) a2 a3 a4
            ((1 : Int32), v15)

set_option maxHeartbeats 4000000 in
set_option maxRecDepth 100000 in
theorem xc_FR_expect (l : Launch) {D : va_G} {cA : Nat → ClassId} {ad : Nat → Nat → Nat} (hD : fw_D xCL ad) {b : Nat} (v0 : fw_V) (hI : xI b v0) (a1 : Int32) (a2 : Int32) (a3 : Int32) (a4 : Int32)  : Met l xy_FR_expect (Cond.code xy_FR_expect xb_FR_expect 5 (some .boolean) :: vTB) xrm_FR_expect (fw_Pc vNL D vcls (vtys cA) xCL cA xkd ad v0 [.ref (ad 0 0), .int a1, .int a2, .int a3, .int a4]) (fw_Qz D vcls xCL cA xkd ad (xI b) (xf_FR_expect v0 a1 a2 a3 a4)) 0 0 (fw_A xCL ad) := by
  refine Met.ofW (cc := xb_FR_expect) (maxL := 5) (ret := (some .boolean)) (by decide) rfl ?_
  intro p e s m args below meth c s₁ B hml hv
  obtain ⟨rfl, hP, hK, hN⟩ := hv
  have hx := B.exec
  have hb := B.bytes
  have hr := B.returns
  have hts : ∀ w ∈ vTB, w.before ([.ref (ad 0 0), .int a1, .int a2, .int a3, .int a4] : List Value).toArray s = true := fun w h => atoms_spec (ws := (Cond.code xy_FR_expect xb_FR_expect 5 (some .boolean) :: vTB)) B.pre w (List.mem_cons_of_mem _ h)
  have hown : s.vm.findClass R_FR = some m.cls := findClass_of_methodNamed B.named
  have hlocks := B.notSynchronized
  have hS : va_S (fw_A xCL ad) s.heap s.heap [] := va_S.rf
  skip
  have hl := lv_entry ([.ref (ad 0 0), .int a1, .int a2, .int a3, .int a4]) (n := 5) (Nat.le_of_ble_eq_true rfl)
  rw [lg_entry_eq]
  generalize (lg_sl ([.ref (ad 0 0), .int a1, .int a2, .int a3, .int a4]) ++ List.replicate (5 - (lg_sl ([.ref (ad 0 0), .int a1, .int a2, .int a3, .int a4])).length) Slot.unset).toArray = ls at hl ⊢
  have hl : lv_has ls 5 [(0, .ref (ad 0 0)), (1, .int a1), (2, .int a2), (3, .int a3), (4, .int a4)] := hl
  refine lv_iload_n hx hb xd_FR_expect_0 rfl (lv_at hl 1 rfl) ?_
  refine fw_cb (va_runS (As := [.int a1]) (rest := []) ⟨hx, hb, hml, hown, hts⟩ (xc_FR_isDevice l hD v0 hI a1) (xw_FR_isDevice hts L_FR_64 ⟨Nat.le_of_ble_eq_true rfl, Nat.le_of_ble_eq_true rfl⟩) (fw_preS hN hK hP) rfl rfl hl.1 rfl (lv_room (Nat.le_of_ble_eq_true rfl)) xd_FR_expect_1 ⟨Nat.le_of_ble_eq_true rfl, Nat.le_of_ble_eq_true rfl⟩) hS (fun r1 H locs zr1 er1 hP hS => ?_)
  refine lv_if_eq (tgt := 29) hx hb xd_FR_expect_4 (by decide) (fun c_2 => ?_) (fun c_2 => ?_)
  · refine lv_iconst (v := (0 : Int32)) hx hb xd_FR_expect_29 (by decide) ?_
    exact fw_zret hx hb hr hlocks hS hP hI xd_FR_expect_30 (by decide) (by subst er1; simp only [xf_FR_expect, if_pos c_2])
  · have h_3 : vp_in a1 2 := xp_FR_isDevice er1 c_2
    refine lv_iload_n hx hb xd_FR_expect_7 rfl (lv_at hl 2 rfl) ?_
    refine fw_cb (va_runS (As := [.int a2]) (rest := []) ⟨hx, hb, hml, hown, hts⟩ (xc_FR_isSlot l hD v0 hI a2) (xw_FR_isSlot hts L_FR_71 ⟨Nat.le_of_ble_eq_true rfl, Nat.le_of_ble_eq_true rfl⟩) (fw_preS hN hK hP) rfl rfl hl.1 rfl (lv_room (Nat.le_of_ble_eq_true rfl)) xd_FR_expect_8 ⟨Nat.le_of_ble_eq_true rfl, Nat.le_of_ble_eq_true rfl⟩) hS (fun r4 H locs zr4 er4 hP hS => ?_)
    refine lv_if_eq (tgt := 29) hx hb xd_FR_expect_11 (by decide) (fun c_5 => ?_) (fun c_5 => ?_)
    · refine lv_iconst (v := (0 : Int32)) hx hb xd_FR_expect_29 (by decide) ?_
      exact fw_zret hx hb hr hlocks hS hP hI xd_FR_expect_30 (by decide) (by subst er1 er4; simp only [xf_FR_expect, if_neg c_2, if_pos c_5])
    · have h_6 : vp_in a2 3 := xp_FR_isSlot er4 c_5
      refine lv_iload_n hx hb xd_FR_expect_14 rfl (lv_at hl 3 rfl) ?_
      refine fw_cb (va_runS (As := [.int a3]) (rest := []) ⟨hx, hb, hml, hown, hts⟩ (xc_FR_isKindOrNone l hD v0 hI a3) (xw_FR_isKindOrNone hts L_FR_74 ⟨Nat.le_of_ble_eq_true rfl, Nat.le_of_ble_eq_true rfl⟩) (fw_preS hN hK hP) rfl rfl hl.1 rfl (lv_room (Nat.le_of_ble_eq_true rfl)) xd_FR_expect_15 ⟨Nat.le_of_ble_eq_true rfl, Nat.le_of_ble_eq_true rfl⟩) hS (fun r7 H locs zr7 er7 hP hS => ?_)
      refine lv_if_eq (tgt := 29) hx hb xd_FR_expect_18 (by decide) (fun c_8 => ?_) (fun c_8 => ?_)
      · refine lv_iconst (v := (0 : Int32)) hx hb xd_FR_expect_29 (by decide) ?_
        exact fw_zret hx hb hr hlocks hS hP hI xd_FR_expect_30 (by decide) (by subst er1 er4 er7; simp only [xf_FR_expect, if_neg c_2, if_neg c_5, if_pos c_8])
      · refine lv_iload hx hb xd_FR_expect_21 (lv_at hl 4 rfl) ?_
        refine fw_cb (va_runS (As := [.int a4]) (rest := []) ⟨hx, hb, hml, hown, hts⟩ (xc_FR_isOctet l hD v0 hI a4) (xw_FR_isOctet hts L_FR_81 ⟨Nat.le_of_ble_eq_true rfl, Nat.le_of_ble_eq_true rfl⟩) (fw_preS hN hK hP) rfl rfl hl.1 rfl (lv_room (Nat.le_of_ble_eq_true rfl)) xd_FR_expect_23 ⟨Nat.le_of_ble_eq_true rfl, Nat.le_of_ble_eq_true rfl⟩) hS (fun r9 H locs zr9 er9 hP hS => ?_)
        refine lv_if_ne (tgt := 31) hx hb xd_FR_expect_26 (by decide) (fun c_10 => ?_) (fun c_10 => ?_)
        · refine lv_aload_n hx hb xd_FR_expect_31 rfl (lv_at hl 0 rfl) ?_
          refine fw_getr hx hb hts i_FR hown hK hP (xm_0 (by decide)) (xk_0 0) rfl 3 (by decide) (hts _ L_FR_32) (fun _ h9 => h9) rfl xd_FR_expect_32 ?_
          refine lv_iload_n hx hb xd_FR_expect_35 rfl (lv_at hl 1 rfl) ?_
          have k_11 : a1.toNatClampNeg < 2 := fw_inlt h_3
          refine fw_alds hx hb hK hP (xm_11 (by decide)) (xk_11 0) 3 rfl (j := a1.toNatClampNeg) rfl h_3 xd_FR_expect_36 ?_
          refine fw_cb (va_runV (As := []) (rest := []) ⟨hx, hb, hml, hown, hts⟩ (xc_Re_isClosed l hD v0 hI ((a1.toNatClampNeg)) (by omega)) (xw_Re_isClosed hts L_FR_99 ⟨Nat.le_of_ble_eq_true rfl, Nat.le_of_ble_eq_true rfl⟩) (fw_preV hN hK hP (xm_13 (by omega)) (xk_13 (a1.toNatClampNeg)) rfl) rfl rfl hl.1 rfl (lv_room (Nat.le_of_ble_eq_true rfl)) xd_FR_expect_37 ⟨Nat.le_of_ble_eq_true rfl, Nat.le_of_ble_eq_true rfl⟩) hS (fun r12 H locs zr12 er12 hP hS => ?_)
          refine lv_if_ne (tgt := 45) hx hb xd_FR_expect_40 (by decide) (fun c_13 => ?_) (fun c_13 => ?_)
          · refine lv_aload_n hx hb xd_FR_expect_45 rfl (lv_at hl 0 rfl) ?_
            refine fw_getr hx hb hts i_FR hown hK hP (xm_0 (by decide)) (xk_0 0) rfl 3 (by decide) (hts _ L_FR_32) (fun _ h9 => h9) rfl xd_FR_expect_46 ?_
            refine lv_iload_n hx hb xd_FR_expect_49 rfl (lv_at hl 1 rfl) ?_
            have k_14 : a1.toNatClampNeg < 2 := fw_inlt h_3
            refine fw_alds hx hb hK hP (xm_11 (by decide)) (xk_11 0) 3 rfl (j := a1.toNatClampNeg) rfl h_3 xd_FR_expect_50 ?_
            refine lv_iload_n hx hb xd_FR_expect_51 rfl (lv_at hl 2 rfl) ?_
            refine lv_iload_n hx hb xd_FR_expect_52 rfl (lv_at hl 3 rfl) ?_
            refine lv_iload hx hb xd_FR_expect_53 (lv_at hl 4 rfl) ?_
            refine fw_cv (va_runV (As := [.int a2, .int a3, .int a4]) (rest := []) ⟨hx, hb, hml, hown, hts⟩ (xc_Re_setExpected l hD v0 hI ((a1.toNatClampNeg)) (by omega) a2 a3 a4 h_6) (xw_Re_setExpected hts L_FR_105 ⟨Nat.le_of_ble_eq_true rfl, Nat.le_of_ble_eq_true rfl⟩) (fw_preV hN hK hP (xm_13 (by omega)) (xk_13 (a1.toNatClampNeg)) rfl) rfl rfl hl.1 rfl (lv_room (Nat.le_of_ble_eq_true rfl)) xd_FR_expect_55 ⟨Nat.le_of_ble_eq_true rfl, Nat.le_of_ble_eq_true rfl⟩) hS (fun v15 H locs ev15 hI hP hS => ?_)
            refine lv_iconst (v := (1 : Int32)) hx hb xd_FR_expect_58 (by decide) ?_
            exact fw_zret hx hb hr hlocks hS hP hI xd_FR_expect_59 (by decide) (by subst er1 er4 er7 er9 er12 ev15; simp only [xf_FR_expect, if_neg c_2, if_neg c_5, if_neg c_8, if_neg c_10, if_neg c_13])
          · refine lv_iconst (v := (0 : Int32)) hx hb xd_FR_expect_43 (by decide) ?_
            exact fw_zret hx hb hr hlocks hS hP hI xd_FR_expect_44 (by decide) (by subst er1 er4 er7 er9 er12; simp only [xf_FR_expect, if_neg c_2, if_neg c_5, if_neg c_8, if_neg c_10, if_pos c_13])
        · refine lv_iconst (v := (0 : Int32)) hx hb xd_FR_expect_29 (by decide) ?_
          exact fw_zret hx hb hr hlocks hS hP hI xd_FR_expect_30 (by decide) (by subst er1 er4 er7 er9; simp only [xf_FR_expect, if_neg c_2, if_neg c_5, if_neg c_8, if_pos c_10])
def xf_FR_give (v0 : fw_V) (a1 : Int32) (a2 : Int32) (a3 : Int32) (a4 : Int32) : Int32 × fw_V :=
  let r1 := xf_FR_isDevice a1
  if r1 = (0 : Int32) then
    ((0 : Int32), v0)
  else
    let r4 := xf_FR_isPlace a2 a3
    if r4 = (0 : Int32) then
      ((0 : Int32), v0)
    else
      let r8 := xf_FR_isOctet a4
      if r8 = (0 : Int32) then
        ((0 : Int32), v0)
      else
        let r11 := xf_FR_place a2 a3
        let v13 := fw_up v0 17 (a1.toNatClampNeg) (r11.toNatClampNeg) a4
        ((1 : Int32), v13)

set_option maxHeartbeats 4000000 in
set_option maxRecDepth 100000 in
theorem xc_FR_give (l : Launch) {D : va_G} {cA : Nat → ClassId} {ad : Nat → Nat → Nat} (hD : fw_D xCL ad) {b : Nat} (v0 : fw_V) (hI : xI b v0) (a1 : Int32) (a2 : Int32) (a3 : Int32) (a4 : Int32)  : Met l xy_FR_give (Cond.code xy_FR_give xb_FR_give 5 (some .boolean) :: vTB) xrm_FR_give (fw_Pc vNL D vcls (vtys cA) xCL cA xkd ad v0 [.ref (ad 0 0), .int a1, .int a2, .int a3, .int a4]) (fw_Qz D vcls xCL cA xkd ad (xI b) (xf_FR_give v0 a1 a2 a3 a4)) 0 0 (fw_A xCL ad) := by
  refine Met.ofW (cc := xb_FR_give) (maxL := 5) (ret := (some .boolean)) (by decide) rfl ?_
  intro p e s m args below meth c s₁ B hml hv
  obtain ⟨rfl, hP, hK, hN⟩ := hv
  have hx := B.exec
  have hb := B.bytes
  have hr := B.returns
  have hts : ∀ w ∈ vTB, w.before ([.ref (ad 0 0), .int a1, .int a2, .int a3, .int a4] : List Value).toArray s = true := fun w h => atoms_spec (ws := (Cond.code xy_FR_give xb_FR_give 5 (some .boolean) :: vTB)) B.pre w (List.mem_cons_of_mem _ h)
  have hown : s.vm.findClass R_FR = some m.cls := findClass_of_methodNamed B.named
  have hlocks := B.notSynchronized
  have hS : va_S (fw_A xCL ad) s.heap s.heap [] := va_S.rf
  skip
  have hl := lv_entry ([.ref (ad 0 0), .int a1, .int a2, .int a3, .int a4]) (n := 5) (Nat.le_of_ble_eq_true rfl)
  rw [lg_entry_eq]
  generalize (lg_sl ([.ref (ad 0 0), .int a1, .int a2, .int a3, .int a4]) ++ List.replicate (5 - (lg_sl ([.ref (ad 0 0), .int a1, .int a2, .int a3, .int a4])).length) Slot.unset).toArray = ls at hl ⊢
  have hl : lv_has ls 5 [(0, .ref (ad 0 0)), (1, .int a1), (2, .int a2), (3, .int a3), (4, .int a4)] := hl
  refine lv_iload_n hx hb xd_FR_give_0 rfl (lv_at hl 1 rfl) ?_
  refine fw_cb (va_runS (As := [.int a1]) (rest := []) ⟨hx, hb, hml, hown, hts⟩ (xc_FR_isDevice l hD v0 hI a1) (xw_FR_isDevice hts L_FR_64 ⟨Nat.le_of_ble_eq_true rfl, Nat.le_of_ble_eq_true rfl⟩) (fw_preS hN hK hP) rfl rfl hl.1 rfl (lv_room (Nat.le_of_ble_eq_true rfl)) xd_FR_give_1 ⟨Nat.le_of_ble_eq_true rfl, Nat.le_of_ble_eq_true rfl⟩) hS (fun r1 H locs zr1 er1 hP hS => ?_)
  refine lv_if_eq (tgt := 23) hx hb xd_FR_give_4 (by decide) (fun c_2 => ?_) (fun c_2 => ?_)
  · refine lv_iconst (v := (0 : Int32)) hx hb xd_FR_give_23 (by decide) ?_
    exact fw_zret hx hb hr hlocks hS hP hI xd_FR_give_24 (by decide) (by subst er1; simp only [xf_FR_give, if_pos c_2])
  · have h_3 : vp_in a1 2 := xp_FR_isDevice er1 c_2
    refine lv_iload_n hx hb xd_FR_give_7 rfl (lv_at hl 2 rfl) ?_
    refine lv_iload_n hx hb xd_FR_give_8 rfl (lv_at hl 3 rfl) ?_
    refine fw_cb (va_runS (As := [.int a2, .int a3]) (rest := []) ⟨hx, hb, hml, hown, hts⟩ (xc_FR_isPlace l hD v0 hI a2 a3) (xw_FR_isPlace hts L_FR_87 ⟨Nat.le_of_ble_eq_true rfl, Nat.le_of_ble_eq_true rfl⟩) (fw_preS hN hK hP) rfl rfl hl.1 rfl (lv_room (Nat.le_of_ble_eq_true rfl)) xd_FR_give_9 ⟨Nat.le_of_ble_eq_true rfl, Nat.le_of_ble_eq_true rfl⟩) hS (fun r4 H locs zr4 er4 hP hS => ?_)
    refine lv_if_eq (tgt := 23) hx hb xd_FR_give_12 (by decide) (fun c_5 => ?_) (fun c_5 => ?_)
    · refine lv_iconst (v := (0 : Int32)) hx hb xd_FR_give_23 (by decide) ?_
      exact fw_zret hx hb hr hlocks hS hP hI xd_FR_give_24 (by decide) (by subst er1 er4; simp only [xf_FR_give, if_neg c_2, if_pos c_5])
    · have h_6 : vp_in a2 3 := xp_FR_isPlace0 er4 c_5
      have h_7 : vp_in a3 2 := xp_FR_isPlace1 er4 c_5
      refine lv_iload hx hb xd_FR_give_15 (lv_at hl 4 rfl) ?_
      refine fw_cb (va_runS (As := [.int a4]) (rest := []) ⟨hx, hb, hml, hown, hts⟩ (xc_FR_isOctet l hD v0 hI a4) (xw_FR_isOctet hts L_FR_81 ⟨Nat.le_of_ble_eq_true rfl, Nat.le_of_ble_eq_true rfl⟩) (fw_preS hN hK hP) rfl rfl hl.1 rfl (lv_room (Nat.le_of_ble_eq_true rfl)) xd_FR_give_17 ⟨Nat.le_of_ble_eq_true rfl, Nat.le_of_ble_eq_true rfl⟩) hS (fun r8 H locs zr8 er8 hP hS => ?_)
      refine lv_if_ne (tgt := 25) hx hb xd_FR_give_20 (by decide) (fun c_9 => ?_) (fun c_9 => ?_)
      · refine lv_aload_n hx hb xd_FR_give_25 rfl (lv_at hl 0 rfl) ?_
        refine fw_getr hx hb hts i_FR hown hK hP (xm_0 (by decide)) (xk_0 0) rfl 3 (by decide) (hts _ L_FR_32) (fun _ h9 => h9) rfl xd_FR_give_26 ?_
        refine lv_iload_n hx hb xd_FR_give_29 rfl (lv_at hl 1 rfl) ?_
        have k_10 : a1.toNatClampNeg < 2 := fw_inlt h_3
        refine fw_alds hx hb hK hP (xm_11 (by decide)) (xk_11 0) 3 rfl (j := a1.toNatClampNeg) rfl h_3 xd_FR_give_30 ?_
        refine fw_getr hx hb hts i_Re hown hK hP (xm_13 (by omega)) (xk_13 (a1.toNatClampNeg)) rfl 8 (by decide) (hts _ L_FR_109) (fun _ h9 => h9) rfl xd_FR_give_31 ?_
        refine lv_iload_n hx hb xd_FR_give_34 rfl (lv_at hl 2 rfl) ?_
        refine lv_iload_n hx hb xd_FR_give_35 rfl (lv_at hl 3 rfl) ?_
        refine fw_co (va_runS (As := [.int a2, .int a3]) (rest := [.ref (ad 17 (a1.toNatClampNeg))]) ⟨hx, hb, hml, hown, hts⟩ (xc_FR_place l hD v0 hI a2 a3) (xw_FR_place hts L_FR_95 ⟨Nat.le_of_ble_eq_true rfl, Nat.le_of_ble_eq_true rfl⟩) (fw_preS hN hK hP) rfl rfl hl.1 rfl (lv_room (Nat.le_of_ble_eq_true rfl)) xd_FR_give_36 ⟨Nat.le_of_ble_eq_true rfl, Nat.le_of_ble_eq_true rfl⟩) hS (fun r11 H locs er11 hP hS => ?_)
        have h_12 : vp_in r11 6 := xp_place er11 h_6 h_7
        refine lv_iload hx hb xd_FR_give_39 (lv_at hl 4 rfl) ?_
        refine fw_iast hx hb hK hD hP hS (xm_17 (by omega)) (xk_17 (a1.toNatClampNeg)) 0 rfl (j := r11.toNatClampNeg) rfl h_12 xd_FR_give_41 (fun v13 H locs ev13 hP hS => ?_)
        have hI : xI b v13 := by rw [ev13]; exact xI_up hI trivial trivial
        refine lv_iconst (v := (1 : Int32)) hx hb xd_FR_give_42 (by decide) ?_
        exact fw_zret hx hb hr hlocks hS hP hI xd_FR_give_43 (by decide) (by subst er1 er4 er8 er11 ev13; simp only [xf_FR_give, if_neg c_2, if_neg c_5, if_neg c_9])
      · refine lv_iconst (v := (0 : Int32)) hx hb xd_FR_give_23 (by decide) ?_
        exact fw_zret hx hb hr hlocks hS hP hI xd_FR_give_24 (by decide) (by subst er1 er4 er8; simp only [xf_FR_give, if_neg c_2, if_neg c_5, if_pos c_9])
def xf_Re_enter (v0 : fw_V) (r : Nat) (a1 : Int32) : fw_V :=
  let v1 := fw_up v0 13 r 10 a1
  let v2 := fw_up v1 13 r 15 (0 : Int32)
  let v3 := fw_up v2 13 r 16 (0 : Int32)
  v3

set_option maxHeartbeats 4000000 in
set_option maxRecDepth 100000 in
theorem xc_Re_enter (l : Launch) {D : va_G} {cA : Nat → ClassId} {ad : Nat → Nat → Nat} (hD : fw_D xCL ad) {b : Nat} (v0 : fw_V) (hI : xI b v0) (r : Nat) (hr0 : r < 2) (a1 : Int32)  : Met l xy_Re_enter (Cond.code xy_Re_enter xb_Re_enter 2 none :: vTB) xrm_Re_enter (fw_Pc vNL D vcls (vtys cA) xCL cA xkd ad v0 [.ref (ad 13 r), .int a1]) (fw_Qv D vcls xCL cA xkd ad (xI b) (xf_Re_enter v0 r a1)) 0 0 (fw_A xCL ad) := by
  refine Met.ofW (cc := xb_Re_enter) (maxL := 2) (ret := none) (by decide) rfl ?_
  intro p e s m args below meth c s₁ B hml hv
  obtain ⟨rfl, hP, hK, hN⟩ := hv
  have hx := B.exec
  have hb := B.bytes
  have hr := B.returns
  have hts : ∀ w ∈ vTB, w.before ([.ref (ad 13 r), .int a1] : List Value).toArray s = true := fun w h => atoms_spec (ws := (Cond.code xy_Re_enter xb_Re_enter 2 none :: vTB)) B.pre w (List.mem_cons_of_mem _ h)
  have hown : s.vm.findClass R_Re = some m.cls := findClass_of_methodNamed B.named
  have hlocks := B.notSynchronized
  have hS : va_S (fw_A xCL ad) s.heap s.heap [] := va_S.rf
  skip
  have hl := lv_entry ([.ref (ad 13 r), .int a1]) (n := 2) (Nat.le_of_ble_eq_true rfl)
  rw [lg_entry_eq]
  generalize (lg_sl ([.ref (ad 13 r), .int a1]) ++ List.replicate (2 - (lg_sl ([.ref (ad 13 r), .int a1])).length) Slot.unset).toArray = ls at hl ⊢
  have hl : lv_has ls 2 [(0, .ref (ad 13 r)), (1, .int a1)] := hl
  refine lv_aload_n hx hb xd_Re_enter_0 rfl (lv_at hl 0 rfl) ?_
  refine lv_iload_n hx hb xd_Re_enter_1 rfl (lv_at hl 1 rfl) ?_
  refine fw_puti hx hb hts i_Re t_Re t_Re_ok n_Re hown hK hD hP hS (xm_13 (by omega)) (xk_13 r) rfl 10 (by decide) (hts _ L_Re_56) (fun _ h9 => h9) rfl fw_pdI rfl rfl rfl xd_Re_enter_2 (fun v1 H locs ev1 hP hS => ?_)
  have hI : xI b v1 := by rw [ev1]; exact xI_up hI trivial trivial
  refine lv_aload_n hx hb xd_Re_enter_5 rfl (lv_at hl 0 rfl) ?_
  refine lv_iconst (v := (0 : Int32)) hx hb xd_Re_enter_6 (by decide) ?_
  refine fw_puti hx hb hts i_Re t_Re t_Re_ok n_Re hown hK hD hP hS (xm_13 (by omega)) (xk_13 r) rfl 15 (by decide) (hts _ L_Re_115) (fun _ h9 => h9) rfl fw_pdI rfl rfl rfl xd_Re_enter_7 (fun v2 H locs ev2 hP hS => ?_)
  have hI : xI b v2 := by rw [ev2]; exact xI_up hI trivial trivial
  refine lv_aload_n hx hb xd_Re_enter_10 rfl (lv_at hl 0 rfl) ?_
  refine lv_iconst (v := (0 : Int32)) hx hb xd_Re_enter_11 (by decide) ?_
  refine fw_puti hx hb hts i_Re t_Re t_Re_ok n_Re hown hK hD hP hS (xm_13 (by omega)) (xk_13 r) rfl 16 (by decide) (hts _ L_Re_127) (fun _ h9 => h9) rfl fw_pdI rfl rfl rfl xd_Re_enter_12 (fun v3 H locs ev3 hP hS => ?_)
  have hI : xI b v3 := by rw [ev3]; exact xI_up hI trivial trivial
  exact fw_vret hx hb hr hlocks hS hP hI xd_Re_enter_15 (by subst ev1 ev2 ev3; simp only [xf_Re_enter])
def xf_Wi_isFull (v0 : fw_V) : Int32 :=
  if (v0 5 0 2) < (16 : Int32) then
    (0 : Int32)
  else
    (1 : Int32)

theorem xp_notFull {r : Int32} {v : fw_V} (er : r = xf_Wi_isFull v) (c : r = 0) (h : vp_in (v 5 0 2) 17) : vp_in (v 5 0 2) 16 := by
  by_cases h1 : (v 5 0 2) < (16 : Int32)
  · rw [Int32.lt_iff_toInt_lt] at h1
    have e16 : (16 : Int32).toInt = 16 := by decide
    have h2 := vp_in_iff.mp h
    rw [vp_in_iff]; omega
  · rw [er] at c
    simp only [xf_Wi_isFull, if_neg h1] at c
    exact absurd c (by decide)
set_option maxHeartbeats 4000000 in
set_option maxRecDepth 100000 in
theorem xc_Wi_isFull (l : Launch) {D : va_G} {cA : Nat → ClassId} {ad : Nat → Nat → Nat} (hD : fw_D xCL ad) {b : Nat} (v0 : fw_V) (hI : xI b v0)   : Met l xy_Wi_isFull (Cond.code xy_Wi_isFull xb_Wi_isFull 1 (some .boolean) :: vTB) xrm_Wi_isFull (fw_Pc vNL D vcls (vtys cA) xCL cA xkd ad v0 [.ref (ad 5 0)]) (fw_Qb D vcls xCL cA xkd ad v0 (xf_Wi_isFull v0)) 0 0 (fw_A xCL ad) := by
  refine Met.ofW (cc := xb_Wi_isFull) (maxL := 1) (ret := (some .boolean)) (by decide) rfl ?_
  intro p e s m args below meth c s₁ B hml hv
  obtain ⟨rfl, hP, hK, hN⟩ := hv
  have hx := B.exec
  have hb := B.bytes
  have hr := B.returns
  have hts : ∀ w ∈ vTB, w.before ([.ref (ad 5 0)] : List Value).toArray s = true := fun w h => atoms_spec (ws := (Cond.code xy_Wi_isFull xb_Wi_isFull 1 (some .boolean) :: vTB)) B.pre w (List.mem_cons_of_mem _ h)
  have hown : s.vm.findClass R_Wi = some m.cls := findClass_of_methodNamed B.named
  have hlocks := B.notSynchronized
  have hS : va_S (fw_A xCL ad) s.heap s.heap [] := va_S.rf
  skip
  have hl := lv_entry ([.ref (ad 5 0)]) (n := 1) (Nat.le_of_ble_eq_true rfl)
  rw [lg_entry_eq]
  generalize (lg_sl ([.ref (ad 5 0)]) ++ List.replicate (1 - (lg_sl ([.ref (ad 5 0)])).length) Slot.unset).toArray = ls at hl ⊢
  have hl : lv_has ls 1 [(0, .ref (ad 5 0))] := hl
  refine lv_aload_n hx hb xd_Wi_isFull_0 rfl (lv_at hl 0 rfl) ?_
  refine fw_geti hx hb hts i_Wi hown hK hP (xm_5 (by decide)) (xk_5 0) rfl 2 (by decide) (hts _ L_Wi_20) (fun _ h9 => h9) rfl xd_Wi_isFull_1 ?_
  have h_1 : vp_in (v0 5 0 2) 17 := hI.1 5 0 2
  refine lv_bipush (v := (16 : Int32)) hx hb xd_Wi_isFull_4 (by decide) ?_
  refine lv_icmp_lt (tgt := 13) hx hb xd_Wi_isFull_6 (by decide) (fun c_2 => ?_) (fun c_2 => ?_)
  · refine lv_iconst (v := (0 : Int32)) hx hb xd_Wi_isFull_13 (by decide) ?_
    exact fw_bret hx hb hr hlocks hS hP xd_Wi_isFull_14 (by decide) (by simp only [xf_Wi_isFull, if_pos c_2])
  · refine lv_iconst (v := (1 : Int32)) hx hb xd_Wi_isFull_9 (by decide) ?_
    refine lv_goto (tgt := 14) hx hb xd_Wi_isFull_10 (by decide) ?_
    exact fw_bret hx hb hr hlocks hS hP xd_Wi_isFull_14 (by decide) (by simp only [xf_Wi_isFull, if_neg c_2])
def xf_Fm_set (v0 : fw_V) (r : Nat) (a1 : Int32) (a2 : Int32) (a3 : Int32) (a4 : Int32) : fw_V :=
  let v1 := fw_up v0 7 r 0 a1
  let v2 := fw_up v1 7 r 1 a2
  let v3 := fw_up v2 7 r 2 a3
  let v4 := fw_up v3 7 r 3 a4
  let v5 := fw_row v4 8 r (fun _ => (0 : Int32))
  v5

set_option maxHeartbeats 4000000 in
set_option maxRecDepth 100000 in
theorem xc_Fm_set (l : Launch) {D : va_G} {cA : Nat → ClassId} {ad : Nat → Nat → Nat} (hD : fw_D xCL ad) {b : Nat} (v0 : fw_V) (hI : xI b v0) (r : Nat) (hr0 : r < 18) (a1 : Int32) (a2 : Int32) (a3 : Int32) (a4 : Int32)  : Met l xy_Fm_set (Cond.code xy_Fm_set xb_Fm_set 5 none :: vTB) xrm_Fm_set (fw_Pc vNL D vcls (vtys cA) xCL cA xkd ad v0 [.ref (ad 7 r), .int a1, .int a2, .int a3, .int a4]) (fw_Qv D vcls xCL cA xkd ad (xI b) (xf_Fm_set v0 r a1 a2 a3 a4)) 0 0 (fw_A xCL ad) := by
  refine Met.ofW (cc := xb_Fm_set) (maxL := 5) (ret := none) (by decide) rfl ?_
  intro p e s m args below meth c s₁ B hml hv
  obtain ⟨rfl, hP, hK, hN⟩ := hv
  have hx := B.exec
  have hb := B.bytes
  have hr := B.returns
  have hts : ∀ w ∈ vTB, w.before ([.ref (ad 7 r), .int a1, .int a2, .int a3, .int a4] : List Value).toArray s = true := fun w h => atoms_spec (ws := (Cond.code xy_Fm_set xb_Fm_set 5 none :: vTB)) B.pre w (List.mem_cons_of_mem _ h)
  have hown : s.vm.findClass R_Fm = some m.cls := findClass_of_methodNamed B.named
  have hlocks := B.notSynchronized
  have hS : va_S (fw_A xCL ad) s.heap s.heap [] := va_S.rf
  skip
  have hl := lv_entry ([.ref (ad 7 r), .int a1, .int a2, .int a3, .int a4]) (n := 5) (Nat.le_of_ble_eq_true rfl)
  rw [lg_entry_eq]
  generalize (lg_sl ([.ref (ad 7 r), .int a1, .int a2, .int a3, .int a4]) ++ List.replicate (5 - (lg_sl ([.ref (ad 7 r), .int a1, .int a2, .int a3, .int a4])).length) Slot.unset).toArray = ls at hl ⊢
  have hl : lv_has ls 5 [(0, .ref (ad 7 r)), (1, .int a1), (2, .int a2), (3, .int a3), (4, .int a4)] := hl
  refine lv_aload_n hx hb xd_Fm_set_0 rfl (lv_at hl 0 rfl) ?_
  refine lv_iload_n hx hb xd_Fm_set_1 rfl (lv_at hl 1 rfl) ?_
  refine fw_puti hx hb hts i_Fm t_Fm t_Fm_ok n_Fm hown hK hD hP hS (xm_7 (by omega)) (xk_7 r) rfl 0 (by decide) (hts _ L_Fm_15) (fun _ h9 => h9) rfl fw_pdI rfl rfl rfl xd_Fm_set_2 (fun v1 H locs ev1 hP hS => ?_)
  have hI : xI b v1 := by rw [ev1]; exact xI_up hI trivial trivial
  refine lv_aload_n hx hb xd_Fm_set_5 rfl (lv_at hl 0 rfl) ?_
  refine lv_iload_n hx hb xd_Fm_set_6 rfl (lv_at hl 2 rfl) ?_
  refine fw_puti hx hb hts i_Fm t_Fm t_Fm_ok n_Fm hown hK hD hP hS (xm_7 (by omega)) (xk_7 r) rfl 1 (by decide) (hts _ L_Fm_19) (fun _ h9 => h9) rfl fw_pdI rfl rfl rfl xd_Fm_set_7 (fun v2 H locs ev2 hP hS => ?_)
  have hI : xI b v2 := by rw [ev2]; exact xI_up hI trivial trivial
  refine lv_aload_n hx hb xd_Fm_set_10 rfl (lv_at hl 0 rfl) ?_
  refine lv_iload_n hx hb xd_Fm_set_11 rfl (lv_at hl 3 rfl) ?_
  refine fw_puti hx hb hts i_Fm t_Fm t_Fm_ok n_Fm hown hK hD hP hS (xm_7 (by omega)) (xk_7 r) rfl 2 (by decide) (hts _ L_Fm_22) (fun _ h9 => h9) rfl fw_pdI rfl rfl rfl xd_Fm_set_12 (fun v3 H locs ev3 hP hS => ?_)
  have hI : xI b v3 := by rw [ev3]; exact xI_up hI trivial trivial
  refine lv_aload_n hx hb xd_Fm_set_15 rfl (lv_at hl 0 rfl) ?_
  refine lv_iload hx hb xd_Fm_set_16 (lv_at hl 4 rfl) ?_
  refine fw_puti hx hb hts i_Fm t_Fm t_Fm_ok n_Fm hown hK hD hP hS (xm_7 (by omega)) (xk_7 r) rfl 3 (by decide) (hts _ L_Fm_25) (fun _ h9 => h9) rfl fw_pdI rfl rfl rfl xd_Fm_set_18 (fun v4 H locs ev4 hP hS => ?_)
  have hI : xI b v4 := by rw [ev4]; exact xI_up hI trivial trivial
  refine lv_aload_n hx hb xd_Fm_set_21 rfl (lv_at hl 0 rfl) ?_
  refine fw_getr hx hb hts i_Fm hown hK hP (xm_7 (by omega)) (xk_7 r) rfl 4 (by decide) (hts _ L_Fm_11) (fun _ h9 => h9) rfl xd_Fm_set_22 ?_
  refine lv_iconst (v := (0 : Int32)) hx hb xd_Fm_set_25 (by decide) ?_
  refine fw_cv (va_runS (As := [.ref (ad 8 r), .int (0 : Int32)]) (rest := []) ⟨hx, hb, hml, hown, hts⟩ (xc_fill l hD v4 hI (xm_8 (by omega)) (xk_8 r) (by decide) (0 : Int32) (fun _ => trivial)) (xw_fill hts L_Fm_28 ⟨Nat.le_of_ble_eq_true rfl, Nat.le_of_ble_eq_true rfl⟩) (fw_preS hN hK hP) rfl rfl hl.1 rfl (lv_room (Nat.le_of_ble_eq_true rfl)) xd_Fm_set_26 ⟨Nat.le_of_ble_eq_true rfl, Nat.le_of_ble_eq_true rfl⟩) hS (fun v5 H locs ev5 hI hP hS => ?_)
  exact fw_vret hx hb hr hlocks hS hP hI xd_Fm_set_29 (by subst ev1 ev2 ev3 ev4 ev5; simp only [xf_Fm_set])
def xf_Wi_send (v0 : fw_V) (a1 : Int32) (a2 : Int32) (a3 : Int32) (a4 : Int32) : Nat × fw_V :=
  let v1 := fw_up v0 5 0 3 ((v0 5 0 3) + (1 : Int32))
  let r2 := xf_Wi_isFull v1
  if r2 = (0 : Int32) then
    let v7 := fw_up v1 5 0 2 ((v1 5 0 2) + (1 : Int32))
    let v8 := xf_Fm_set v7 ((v1 6 0 (v1 5 0 2).toNatClampNeg).toNatClampNeg) a1 a2 a3 a4
    ((v1 6 0 (v1 5 0 2).toNatClampNeg).toNatClampNeg, v8)
  else
    let v9 := fw_up v1 5 0 4 ((v1 5 0 4) + (1 : Int32))
    let v10 := xf_Fm_set v9 (17) a1 a2 a3 a4
    (17, v10)

set_option maxHeartbeats 4000000 in
set_option maxRecDepth 100000 in
theorem xc_Wi_send (l : Launch) {D : va_G} {cA : Nat → ClassId} {ad : Nat → Nat → Nat} (hD : fw_D xCL ad) {b : Nat} (v0 : fw_V) (hI : xI b v0) (a1 : Int32) (a2 : Int32) (a3 : Int32) (a4 : Int32)  : Met l xy_Wi_send (Cond.code xy_Wi_send xb_Wi_send 6 (some (.object R_Fm)) :: vTB) xrm_Wi_send (fw_Pc vNL D vcls (vtys cA) xCL cA xkd ad v0 [.ref (ad 5 0), .int a1, .int a2, .int a3, .int a4]) (fw_Qr D vcls xCL cA xkd ad (xI b) 7 18 (xf_Wi_send v0 a1 a2 a3 a4)) 0 0 (fw_A xCL ad) := by
  refine Met.ofW (cc := xb_Wi_send) (maxL := 6) (ret := (some (.object R_Fm))) (by decide) rfl ?_
  intro p e s m args below meth c s₁ B hml hv
  obtain ⟨rfl, hP, hK, hN⟩ := hv
  have hx := B.exec
  have hb := B.bytes
  have hr := B.returns
  have hts : ∀ w ∈ vTB, w.before ([.ref (ad 5 0), .int a1, .int a2, .int a3, .int a4] : List Value).toArray s = true := fun w h => atoms_spec (ws := (Cond.code xy_Wi_send xb_Wi_send 6 (some (.object R_Fm)) :: vTB)) B.pre w (List.mem_cons_of_mem _ h)
  have hown : s.vm.findClass R_Wi = some m.cls := findClass_of_methodNamed B.named
  have hlocks := B.notSynchronized
  have hS : va_S (fw_A xCL ad) s.heap s.heap [] := va_S.rf
  skip
  have hl := lv_entry ([.ref (ad 5 0), .int a1, .int a2, .int a3, .int a4]) (n := 6) (Nat.le_of_ble_eq_true rfl)
  rw [lg_entry_eq]
  generalize (lg_sl ([.ref (ad 5 0), .int a1, .int a2, .int a3, .int a4]) ++ List.replicate (6 - (lg_sl ([.ref (ad 5 0), .int a1, .int a2, .int a3, .int a4])).length) Slot.unset).toArray = ls at hl ⊢
  have hl : lv_has ls 6 [(0, .ref (ad 5 0)), (1, .int a1), (2, .int a2), (3, .int a3), (4, .int a4)] := hl
  refine lv_aload_n hx hb xd_Wi_send_0 rfl (lv_at hl 0 rfl) ?_
  refine lv_dup hx hb xd_Wi_send_1 rfl ?_
  refine fw_geti hx hb hts i_Wi hown hK hP (xm_5 (by decide)) (xk_5 0) rfl 3 (by decide) (hts _ L_Wi_30) (fun _ h9 => h9) rfl xd_Wi_send_2 ?_
  refine lv_iconst (v := (1 : Int32)) hx hb xd_Wi_send_5 (by decide) ?_
  refine lv_iadd hx hb xd_Wi_send_6 ?_
  refine fw_puti hx hb hts i_Wi t_Wi t_Wi_ok n_Wi hown hK hD hP hS (xm_5 (by decide)) (xk_5 0) rfl 3 (by decide) (hts _ L_Wi_30) (fun _ h9 => h9) rfl fw_pdI rfl rfl rfl xd_Wi_send_7 (fun v1 H locs ev1 hP hS => ?_)
  have hI : xI b v1 := by rw [ev1]; exact xI_up hI trivial trivial
  refine lv_aload_n hx hb xd_Wi_send_10 rfl (lv_at hl 0 rfl) ?_
  refine fw_getr hx hb hts i_Wi hown hK hP (xm_5 (by decide)) (xk_5 0) rfl 1 (by decide) (hts _ L_Wi_16) (fun _ h9 => h9) rfl xd_Wi_send_11 ?_
  refine lv_astore (lv' := [(5, .ref (ad 7 17)), (0, .ref (ad 5 0)), (1, .int a1), (2, .int a2), (3, .int a3), (4, .int a4)]) hx hb xd_Wi_send_14 hl (by decide) rfl (fun ls hl => ?_)
  refine lv_aload_n hx hb xd_Wi_send_16 rfl (lv_at hl 1 rfl) ?_
  refine fw_cb (va_runV (As := []) (rest := []) ⟨hx, hb, hml, hown, hts⟩ (xc_Wi_isFull l hD v1 hI ) (xw_Wi_isFull hts L_Wi_33 ⟨Nat.le_of_ble_eq_true rfl, Nat.le_of_ble_eq_true rfl⟩) (fw_preV hN hK hP (xm_5 (by decide)) (xk_5 0) rfl) rfl rfl hl.1 rfl (lv_room (Nat.le_of_ble_eq_true rfl)) xd_Wi_send_17 ⟨Nat.le_of_ble_eq_true rfl, Nat.le_of_ble_eq_true rfl⟩) hS (fun r2 H locs zr2 er2 hP hS => ?_)
  refine lv_if_eq (tgt := 36) hx hb xd_Wi_send_20 (by decide) (fun c_3 => ?_) (fun c_3 => ?_)
  · have h_4 : vp_in (v1 5 0 2) 16 := xp_notFull er2 c_3 (hI.1 5 0 2)
    refine lv_aload_n hx hb xd_Wi_send_36 rfl (lv_at hl 1 rfl) ?_
    refine fw_getr hx hb hts i_Wi hown hK hP (xm_5 (by decide)) (xk_5 0) rfl 0 (by decide) (hts _ L_Wi_11) (fun _ h9 => h9) rfl xd_Wi_send_37 ?_
    refine lv_aload_n hx hb xd_Wi_send_40 rfl (lv_at hl 1 rfl) ?_
    refine fw_geti hx hb hts i_Wi hown hK hP (xm_5 (by decide)) (xk_5 0) rfl 2 (by decide) (hts _ L_Wi_20) (fun _ h9 => h9) rfl xd_Wi_send_41 ?_
    have h_5 : vp_in (v1 5 0 2) 17 := hI.1 5 0 2
    have k_6 : (v1 6 0 (v1 5 0 2).toNatClampNeg).toNatClampNeg < 18 := fw_inlt (hI.1 6 0 ((v1 5 0 2).toNatClampNeg))
    refine fw_aldv hx hb hK hP (xm_6 (by decide)) (xk_6 0) 2 rfl (j := (v1 5 0 2).toNatClampNeg) rfl h_5 xd_Wi_send_44 ?_
    refine lv_astore (lv' := [(5, .ref (ad 7 (v1 6 0 (v1 5 0 2).toNatClampNeg).toNatClampNeg)), (0, .ref (ad 5 0)), (1, .int a1), (2, .int a2), (3, .int a3), (4, .int a4)]) hx hb xd_Wi_send_45 hl (by decide) rfl (fun ls hl => ?_)
    refine lv_aload_n hx hb xd_Wi_send_47 rfl (lv_at hl 1 rfl) ?_
    refine lv_dup hx hb xd_Wi_send_48 rfl ?_
    refine fw_geti hx hb hts i_Wi hown hK hP (xm_5 (by decide)) (xk_5 0) rfl 2 (by decide) (hts _ L_Wi_20) (fun _ h9 => h9) rfl xd_Wi_send_49 ?_
    refine lv_iconst (v := (1 : Int32)) hx hb xd_Wi_send_52 (by decide) ?_
    refine lv_iadd hx hb xd_Wi_send_53 ?_
    refine fw_puti hx hb hts i_Wi t_Wi t_Wi_ok n_Wi hown hK hD hP hS (xm_5 (by decide)) (xk_5 0) rfl 2 (by decide) (hts _ L_Wi_20) (fun _ h9 => h9) rfl fw_pdI rfl rfl rfl xd_Wi_send_54 (fun v7 H locs ev7 hP hS => ?_)
    have hI : xI b v7 := by rw [ev7]; exact xI_up hI (fw_inp1 h_4 (by decide)) trivial
    refine lv_aload hx hb xd_Wi_send_57 (lv_at hl 0 rfl) ?_
    refine lv_iload_n hx hb xd_Wi_send_59 rfl (lv_at hl 2 rfl) ?_
    refine lv_iload_n hx hb xd_Wi_send_60 rfl (lv_at hl 3 rfl) ?_
    refine lv_iload_n hx hb xd_Wi_send_61 rfl (lv_at hl 4 rfl) ?_
    refine lv_iload hx hb xd_Wi_send_62 (lv_at hl 5 rfl) ?_
    refine fw_cv (va_runV (As := [.int a1, .int a2, .int a3, .int a4]) (rest := []) ⟨hx, hb, hml, hown, hts⟩ (xc_Fm_set l hD v7 hI ((v1 6 0 (v1 5 0 2).toNatClampNeg).toNatClampNeg) (by omega) a1 a2 a3 a4) (xw_Fm_set hts L_Wi_40 ⟨Nat.le_of_ble_eq_true rfl, Nat.le_of_ble_eq_true rfl⟩) (fw_preV hN hK hP (xm_7 (by omega)) (xk_7 (v1 6 0 (v1 5 0 2).toNatClampNeg).toNatClampNeg) rfl) rfl rfl hl.1 rfl (lv_room (Nat.le_of_ble_eq_true rfl)) xd_Wi_send_64 ⟨Nat.le_of_ble_eq_true rfl, Nat.le_of_ble_eq_true rfl⟩) hS (fun v8 H locs ev8 hI hP hS => ?_)
    refine lv_aload hx hb xd_Wi_send_67 (lv_at hl 0 rfl) ?_
    exact fw_rret hx hb hr hlocks hS hP hI xd_Wi_send_69 (by omega) (by subst ev1 er2 ev7 ev8; simp only [xf_Wi_send, if_pos c_3])
  · refine lv_aload_n hx hb xd_Wi_send_23 rfl (lv_at hl 1 rfl) ?_
    refine lv_dup hx hb xd_Wi_send_24 rfl ?_
    refine fw_geti hx hb hts i_Wi hown hK hP (xm_5 (by decide)) (xk_5 0) rfl 4 (by decide) (hts _ L_Wi_37) (fun _ h9 => h9) rfl xd_Wi_send_25 ?_
    refine lv_iconst (v := (1 : Int32)) hx hb xd_Wi_send_28 (by decide) ?_
    refine lv_iadd hx hb xd_Wi_send_29 ?_
    refine fw_puti hx hb hts i_Wi t_Wi t_Wi_ok n_Wi hown hK hD hP hS (xm_5 (by decide)) (xk_5 0) rfl 4 (by decide) (hts _ L_Wi_37) (fun _ h9 => h9) rfl fw_pdI rfl rfl rfl xd_Wi_send_30 (fun v9 H locs ev9 hP hS => ?_)
    have hI : xI b v9 := by rw [ev9]; exact xI_up hI trivial trivial
    refine lv_goto (tgt := 57) hx hb xd_Wi_send_33 (by decide) ?_
    refine lv_aload hx hb xd_Wi_send_57 (lv_at hl 0 rfl) ?_
    refine lv_iload_n hx hb xd_Wi_send_59 rfl (lv_at hl 2 rfl) ?_
    refine lv_iload_n hx hb xd_Wi_send_60 rfl (lv_at hl 3 rfl) ?_
    refine lv_iload_n hx hb xd_Wi_send_61 rfl (lv_at hl 4 rfl) ?_
    refine lv_iload hx hb xd_Wi_send_62 (lv_at hl 5 rfl) ?_
    refine fw_cv (va_runV (As := [.int a1, .int a2, .int a3, .int a4]) (rest := []) ⟨hx, hb, hml, hown, hts⟩ (xc_Fm_set l hD v9 hI (17) (by omega) a1 a2 a3 a4) (xw_Fm_set hts L_Wi_40 ⟨Nat.le_of_ble_eq_true rfl, Nat.le_of_ble_eq_true rfl⟩) (fw_preV hN hK hP (xm_7 (by decide)) (xk_7 17) rfl) rfl rfl hl.1 rfl (lv_room (Nat.le_of_ble_eq_true rfl)) xd_Wi_send_64 ⟨Nat.le_of_ble_eq_true rfl, Nat.le_of_ble_eq_true rfl⟩) hS (fun v10 H locs ev10 hI hP hS => ?_)
    refine lv_aload hx hb xd_Wi_send_67 (lv_at hl 0 rfl) ?_
    exact fw_rret hx hb hr hlocks hS hP hI xd_Wi_send_69 (by omega) (by subst ev1 er2 ev9 ev10; simp only [xf_Wi_send, if_neg c_3])
def xf_Re_sendConnect_j4 (v : fw_V) (r : Nat) (k1 : Nat) : fw_V :=
  v
def xf_Re_sendConnect_j3 (v : fw_V) (r : Nat) (k1 : Nat) : fw_V :=
  let v9 := fw_up v 8 k1 (2) ((v 15 r 2) + (1 : Int32))
  xf_Re_sendConnect_j4 v9 r (k1)
def xf_Re_sendConnect_j2 (v : fw_V) (r : Nat) (k1 : Nat) : fw_V :=
  let v7 := fw_up v 8 k1 (1) ((v 15 r 1) + (1 : Int32))
  xf_Re_sendConnect_j3 v7 r (k1)
def xf_Re_sendConnect_j1 (v : fw_V) (r : Nat) (k1 : Nat) : fw_V :=
  let v5 := fw_up v 8 k1 (0) ((v 15 r 0) + (1 : Int32))
  xf_Re_sendConnect_j2 v5 r (k1)
def xf_Re_sendConnect (v0 : fw_V) (r : Nat) : fw_V :=
  let p3 := xf_Wi_send v0 (3 : Int32) (v0 13 r 11) (0 : Int32) (v0 13 r 12)
  let y1 := p3.1
  let v2 := p3.2
  xf_Re_sendConnect_j1 v2 r (y1)

set_option maxHeartbeats 4000000 in
set_option maxRecDepth 100000 in
theorem xc_Re_sendConnect (l : Launch) {D : va_G} {cA : Nat → ClassId} {ad : Nat → Nat → Nat} (hD : fw_D xCL ad) {b : Nat} (v0 : fw_V) (hI : xI b v0) (r : Nat) (hr0 : r < 2)  : Met l xy_Re_sendConnect (Cond.code xy_Re_sendConnect xb_Re_sendConnect 3 none :: vTB) xrm_Re_sendConnect (fw_Pc vNL D vcls (vtys cA) xCL cA xkd ad v0 [.ref (ad 13 r)]) (fw_Qv D vcls xCL cA xkd ad (xI b) (xf_Re_sendConnect v0 r)) 0 0 (fw_A xCL ad) := by
  refine Met.ofW (cc := xb_Re_sendConnect) (maxL := 3) (ret := none) (by decide) rfl ?_
  intro p e s m args below meth c s₁ B hml hv
  obtain ⟨rfl, hP, hK, hN⟩ := hv
  have hx := B.exec
  have hb := B.bytes
  have hr := B.returns
  have hts : ∀ w ∈ vTB, w.before ([.ref (ad 13 r)] : List Value).toArray s = true := fun w h => atoms_spec (ws := (Cond.code xy_Re_sendConnect xb_Re_sendConnect 3 none :: vTB)) B.pre w (List.mem_cons_of_mem _ h)
  have hown : s.vm.findClass R_Re = some m.cls := findClass_of_methodNamed B.named
  have hlocks := B.notSynchronized
  have hS : va_S (fw_A xCL ad) s.heap s.heap [] := va_S.rf
  have J4 : ∀ (v : fw_V) (k1 : Nat) (H : Heap) (locs : List Loc) (ls : Array Slot), xf_Re_sendConnect v0 r = xf_Re_sendConnect_j4 v r k1 → k1 < 18 → xI b v → va_P D vcls (fw_w xCL cA xkd ad v) H → va_S (fw_A xCL ad) s.heap H locs → lv_has ls 3 [(0, .ref (ad 13 r)), (1, .ref (ad 7 k1)), (2, .int (3 : Int32))] → W p l e (headSpec (Cond.code xy_Re_sendConnect xb_Re_sendConnect 3 none :: vTB) xrm_Re_sendConnect).room s m ([.ref (ad 13 r)] : List Value).toArray below meth c H locs 0 0 (MQ below (fw_Qv D vcls xCL cA xkd ad (xI b) (xf_Re_sendConnect v0 r)) ([.ref (ad 13 r)] : List Value).toArray s 0 0 (fw_A xCL ad)) (F0 m 20 ls []) := by
    intro v k1 H locs ls hj hc0 hI hP hS hl
    refine lv_iload_n hx hb xd_Re_sendConnect_20 rfl (lv_at hl 2 rfl) ?_
    refine lv_iconst (v := (3 : Int32)) hx hb xd_Re_sendConnect_21 (by decide) ?_
    refine lv_icmp_ge (tgt := 45) hx hb xd_Re_sendConnect_22 (by decide) (fun _ => ?_) (fun c_10 => absurd (by decide) c_10)
    exact fw_vret hx hb hr hlocks hS hP hI xd_Re_sendConnect_45 (by rw [hj]; simp only [xf_Re_sendConnect_j4])
  have J3 : ∀ (v : fw_V) (k1 : Nat) (H : Heap) (locs : List Loc) (ls : Array Slot), xf_Re_sendConnect v0 r = xf_Re_sendConnect_j3 v r k1 → k1 < 18 → xI b v → va_P D vcls (fw_w xCL cA xkd ad v) H → va_S (fw_A xCL ad) s.heap H locs → lv_has ls 3 [(0, .ref (ad 13 r)), (1, .ref (ad 7 k1)), (2, .int (2 : Int32))] → W p l e (headSpec (Cond.code xy_Re_sendConnect xb_Re_sendConnect 3 none :: vTB) xrm_Re_sendConnect).room s m ([.ref (ad 13 r)] : List Value).toArray below meth c H locs 0 0 (MQ below (fw_Qv D vcls xCL cA xkd ad (xI b) (xf_Re_sendConnect v0 r)) ([.ref (ad 13 r)] : List Value).toArray s 0 0 (fw_A xCL ad)) (F0 m 20 ls []) := by
    intro v k1 H locs ls hj hc0 hI hP hS hl
    refine lv_iload_n hx hb xd_Re_sendConnect_20 rfl (lv_at hl 2 rfl) ?_
    refine lv_iconst (v := (3 : Int32)) hx hb xd_Re_sendConnect_21 (by decide) ?_
    refine lv_icmp_ge (tgt := 45) hx hb xd_Re_sendConnect_22 (by decide) (fun c_8 => absurd c_8 (by decide)) (fun _ => ?_)
    refine lv_aload_n hx hb xd_Re_sendConnect_25 rfl (lv_at hl 1 rfl) ?_
    refine fw_getr hx hb hts i_Fm hown hK hP (xm_7 (by omega)) (xk_7 k1) rfl 4 (by decide) (hts _ L_Re_130) (fun _ h9 => h9) rfl xd_Re_sendConnect_26 ?_
    refine lv_iload_n hx hb xd_Re_sendConnect_29 rfl (lv_at hl 2 rfl) ?_
    refine lv_aload_n hx hb xd_Re_sendConnect_30 rfl (lv_at hl 0 rfl) ?_
    refine fw_getr hx hb hts i_Re hown hK hP (xm_13 (by omega)) (xk_13 r) rfl 6 (by decide) (hts _ L_Re_18) (fun _ h9 => h9) rfl xd_Re_sendConnect_31 ?_
    refine lv_iload_n hx hb xd_Re_sendConnect_34 rfl (lv_at hl 2 rfl) ?_
    refine fw_iald hx hb hK hP (xm_15 (by omega)) (xk_15 r) 0 rfl (j := 2) (by decide) (fw_inc (by decide)) xd_Re_sendConnect_35 ?_
    refine lv_iconst (v := (1 : Int32)) hx hb xd_Re_sendConnect_36 (by decide) ?_
    refine lv_iadd hx hb xd_Re_sendConnect_37 ?_
    refine fw_iast hx hb hK hD hP hS (xm_8 (by omega)) (xk_8 k1) 0 rfl (j := 2) (by decide) (fw_inc (by decide)) xd_Re_sendConnect_38 (fun v9 H locs ev9 hP hS => ?_)
    have hI : xI b v9 := by rw [ev9]; exact xI_up hI trivial trivial
    refine lv_iinc (v := (3 : Int32)) (lv' := [(2, .int (3 : Int32)), (0, .ref (ad 13 r)), (1, .ref (ad 7 k1))]) hx hb xd_Re_sendConnect_39 hl (k := 2) rfl (by decide) (by decide) rfl (fun ls hl => ?_)
    refine lv_goto (tgt := 20) hx hb xd_Re_sendConnect_42 (by decide) ?_
    exact J4 v9 (k1) _ _ _ (by rw [hj]; subst ev9; simp only [xf_Re_sendConnect_j3]) (by omega)  hI hP hS (lv_sub hl [1, 2, 0] rfl)
  have J2 : ∀ (v : fw_V) (k1 : Nat) (H : Heap) (locs : List Loc) (ls : Array Slot), xf_Re_sendConnect v0 r = xf_Re_sendConnect_j2 v r k1 → k1 < 18 → xI b v → va_P D vcls (fw_w xCL cA xkd ad v) H → va_S (fw_A xCL ad) s.heap H locs → lv_has ls 3 [(0, .ref (ad 13 r)), (1, .ref (ad 7 k1)), (2, .int (1 : Int32))] → W p l e (headSpec (Cond.code xy_Re_sendConnect xb_Re_sendConnect 3 none :: vTB) xrm_Re_sendConnect).room s m ([.ref (ad 13 r)] : List Value).toArray below meth c H locs 0 0 (MQ below (fw_Qv D vcls xCL cA xkd ad (xI b) (xf_Re_sendConnect v0 r)) ([.ref (ad 13 r)] : List Value).toArray s 0 0 (fw_A xCL ad)) (F0 m 20 ls []) := by
    intro v k1 H locs ls hj hc0 hI hP hS hl
    clear J4
    refine lv_iload_n hx hb xd_Re_sendConnect_20 rfl (lv_at hl 2 rfl) ?_
    refine lv_iconst (v := (3 : Int32)) hx hb xd_Re_sendConnect_21 (by decide) ?_
    refine lv_icmp_ge (tgt := 45) hx hb xd_Re_sendConnect_22 (by decide) (fun c_6 => absurd c_6 (by decide)) (fun _ => ?_)
    refine lv_aload_n hx hb xd_Re_sendConnect_25 rfl (lv_at hl 1 rfl) ?_
    refine fw_getr hx hb hts i_Fm hown hK hP (xm_7 (by omega)) (xk_7 k1) rfl 4 (by decide) (hts _ L_Re_130) (fun _ h9 => h9) rfl xd_Re_sendConnect_26 ?_
    refine lv_iload_n hx hb xd_Re_sendConnect_29 rfl (lv_at hl 2 rfl) ?_
    refine lv_aload_n hx hb xd_Re_sendConnect_30 rfl (lv_at hl 0 rfl) ?_
    refine fw_getr hx hb hts i_Re hown hK hP (xm_13 (by omega)) (xk_13 r) rfl 6 (by decide) (hts _ L_Re_18) (fun _ h9 => h9) rfl xd_Re_sendConnect_31 ?_
    refine lv_iload_n hx hb xd_Re_sendConnect_34 rfl (lv_at hl 2 rfl) ?_
    refine fw_iald hx hb hK hP (xm_15 (by omega)) (xk_15 r) 0 rfl (j := 1) (by decide) (fw_inc (by decide)) xd_Re_sendConnect_35 ?_
    refine lv_iconst (v := (1 : Int32)) hx hb xd_Re_sendConnect_36 (by decide) ?_
    refine lv_iadd hx hb xd_Re_sendConnect_37 ?_
    refine fw_iast hx hb hK hD hP hS (xm_8 (by omega)) (xk_8 k1) 0 rfl (j := 1) (by decide) (fw_inc (by decide)) xd_Re_sendConnect_38 (fun v7 H locs ev7 hP hS => ?_)
    have hI : xI b v7 := by rw [ev7]; exact xI_up hI trivial trivial
    refine lv_iinc (v := (2 : Int32)) (lv' := [(2, .int (2 : Int32)), (0, .ref (ad 13 r)), (1, .ref (ad 7 k1))]) hx hb xd_Re_sendConnect_39 hl (k := 2) rfl (by decide) (by decide) rfl (fun ls hl => ?_)
    refine lv_goto (tgt := 20) hx hb xd_Re_sendConnect_42 (by decide) ?_
    exact J3 v7 (k1) _ _ _ (by rw [hj]; subst ev7; simp only [xf_Re_sendConnect_j2]) (by omega)  hI hP hS (lv_sub hl [1, 2, 0] rfl)
  have J1 : ∀ (v : fw_V) (k1 : Nat) (H : Heap) (locs : List Loc) (ls : Array Slot), xf_Re_sendConnect v0 r = xf_Re_sendConnect_j1 v r k1 → k1 < 18 → xI b v → va_P D vcls (fw_w xCL cA xkd ad v) H → va_S (fw_A xCL ad) s.heap H locs → lv_has ls 3 [(0, .ref (ad 13 r)), (1, .ref (ad 7 k1)), (2, .int (0 : Int32))] → W p l e (headSpec (Cond.code xy_Re_sendConnect xb_Re_sendConnect 3 none :: vTB) xrm_Re_sendConnect).room s m ([.ref (ad 13 r)] : List Value).toArray below meth c H locs 0 0 (MQ below (fw_Qv D vcls xCL cA xkd ad (xI b) (xf_Re_sendConnect v0 r)) ([.ref (ad 13 r)] : List Value).toArray s 0 0 (fw_A xCL ad)) (F0 m 20 ls []) := by
    intro v k1 H locs ls hj hc0 hI hP hS hl
    clear J4 J3
    refine lv_iload_n hx hb xd_Re_sendConnect_20 rfl (lv_at hl 2 rfl) ?_
    refine lv_iconst (v := (3 : Int32)) hx hb xd_Re_sendConnect_21 (by decide) ?_
    refine lv_icmp_ge (tgt := 45) hx hb xd_Re_sendConnect_22 (by decide) (fun c_4 => absurd c_4 (by decide)) (fun _ => ?_)
    refine lv_aload_n hx hb xd_Re_sendConnect_25 rfl (lv_at hl 1 rfl) ?_
    refine fw_getr hx hb hts i_Fm hown hK hP (xm_7 (by omega)) (xk_7 k1) rfl 4 (by decide) (hts _ L_Re_130) (fun _ h9 => h9) rfl xd_Re_sendConnect_26 ?_
    refine lv_iload_n hx hb xd_Re_sendConnect_29 rfl (lv_at hl 2 rfl) ?_
    refine lv_aload_n hx hb xd_Re_sendConnect_30 rfl (lv_at hl 0 rfl) ?_
    refine fw_getr hx hb hts i_Re hown hK hP (xm_13 (by omega)) (xk_13 r) rfl 6 (by decide) (hts _ L_Re_18) (fun _ h9 => h9) rfl xd_Re_sendConnect_31 ?_
    refine lv_iload_n hx hb xd_Re_sendConnect_34 rfl (lv_at hl 2 rfl) ?_
    refine fw_iald hx hb hK hP (xm_15 (by omega)) (xk_15 r) 0 rfl (j := 0) (by decide) (fw_inc (by decide)) xd_Re_sendConnect_35 ?_
    refine lv_iconst (v := (1 : Int32)) hx hb xd_Re_sendConnect_36 (by decide) ?_
    refine lv_iadd hx hb xd_Re_sendConnect_37 ?_
    refine fw_iast hx hb hK hD hP hS (xm_8 (by omega)) (xk_8 k1) 0 rfl (j := 0) (by decide) (fw_inc (by decide)) xd_Re_sendConnect_38 (fun v5 H locs ev5 hP hS => ?_)
    have hI : xI b v5 := by rw [ev5]; exact xI_up hI trivial trivial
    refine lv_iinc (v := (1 : Int32)) (lv' := [(2, .int (1 : Int32)), (0, .ref (ad 13 r)), (1, .ref (ad 7 k1))]) hx hb xd_Re_sendConnect_39 hl (k := 2) rfl (by decide) (by decide) rfl (fun ls hl => ?_)
    refine lv_goto (tgt := 20) hx hb xd_Re_sendConnect_42 (by decide) ?_
    exact J2 v5 (k1) _ _ _ (by rw [hj]; subst ev5; simp only [xf_Re_sendConnect_j1]) (by omega)  hI hP hS (lv_sub hl [1, 2, 0] rfl)
  clear J4 J3 J2
  have hl := lv_entry ([.ref (ad 13 r)]) (n := 3) (Nat.le_of_ble_eq_true rfl)
  rw [lg_entry_eq]
  generalize (lg_sl ([.ref (ad 13 r)]) ++ List.replicate (3 - (lg_sl ([.ref (ad 13 r)])).length) Slot.unset).toArray = ls at hl ⊢
  have hl : lv_has ls 3 [(0, .ref (ad 13 r))] := hl
  refine lv_aload_n hx hb xd_Re_sendConnect_0 rfl (lv_at hl 0 rfl) ?_
  refine fw_getr hx hb hts i_Re hown hK hP (xm_13 (by omega)) (xk_13 r) rfl 2 (by decide) (hts _ L_Re_42) (fun _ h9 => h9) rfl xd_Re_sendConnect_1 ?_
  refine lv_iconst (v := (3 : Int32)) hx hb xd_Re_sendConnect_4 (by decide) ?_
  refine lv_aload_n hx hb xd_Re_sendConnect_5 rfl (lv_at hl 0 rfl) ?_
  refine fw_geti hx hb hts i_Re hown hK hP (xm_13 (by omega)) (xk_13 r) rfl 11 (by decide) (hts _ L_Re_59) (fun _ h9 => h9) rfl xd_Re_sendConnect_6 ?_
  refine lv_iconst (v := (0 : Int32)) hx hb xd_Re_sendConnect_9 (by decide) ?_
  refine lv_aload_n hx hb xd_Re_sendConnect_10 rfl (lv_at hl 0 rfl) ?_
  refine fw_geti hx hb hts i_Re hown hK hP (xm_13 (by omega)) (xk_13 r) rfl 12 (by decide) (hts _ L_Re_31) (fun _ h9 => h9) rfl xd_Re_sendConnect_11 ?_
  refine fw_cr (va_runV (As := [.int (3 : Int32), .int (v0 13 r 11), .int (0 : Int32), .int (v0 13 r 12)]) (rest := []) ⟨hx, hb, hml, hown, hts⟩ (xc_Wi_send l hD v0 hI (3 : Int32) (v0 13 r 11) (0 : Int32) (v0 13 r 12)) (xw_Wi_send hts L_Re_145 ⟨Nat.le_of_ble_eq_true rfl, Nat.le_of_ble_eq_true rfl⟩) (fw_preV hN hK hP (xm_5 (by decide)) (xk_5 0) rfl) rfl rfl hl.1 rfl (lv_room (Nat.le_of_ble_eq_true rfl)) xd_Re_sendConnect_14 ⟨Nat.le_of_ble_eq_true rfl, Nat.le_of_ble_eq_true rfl⟩) hS (fun y1 v2 H locs ly1 ey1 ev2 hI hP hS => ?_)
  refine lv_astore_n (lv' := [(1, .ref (ad 7 y1)), (0, .ref (ad 13 r))]) hx hb xd_Re_sendConnect_17 rfl hl (by decide) rfl (fun ls hl => ?_)
  refine lv_iconst (v := (0 : Int32)) hx hb xd_Re_sendConnect_18 (by decide) ?_
  refine lv_istore_n (lv' := [(2, .int (0 : Int32)), (1, .ref (ad 7 y1)), (0, .ref (ad 13 r))]) hx hb xd_Re_sendConnect_19 rfl hl (by decide) rfl (fun ls hl => ?_)
  exact J1 v2 (y1) _ _ _ (by subst ey1 ev2; simp only [xf_Re_sendConnect]) (by omega)  hI hP hS (lv_sub hl [2, 1, 0] rfl)
def xf_Re_sendRequest (v0 : fw_V) (r : Nat) : fw_V :=
  if (v0 13 r 10) = (1 : Int32) then
    let p4 := xf_Wi_send v0 (1 : Int32) (0 : Int32) (v0 13 r 5) (3 : Int32)
    let y2 := p4.1
    let v3 := p4.2
    v3
  else
    if (v0 13 r 10) = (2 : Int32) then
      let v6 := xf_Re_sendConnect v0 (r)
      v6
    else
      if (v0 13 r 10) = (3 : Int32) then
        let p11 := xf_Wi_send v0 (6 : Int32) (v0 13 r 11) (v0 13 r 17) (v0 13 r 12)
        let y9 := p11.1
        let v10 := p11.2
        let v13 := fw_up v10 8 y9 (0) (v10 16 r (v10 13 r 17).toNatClampNeg)
        v13
      else
        if (v0 13 r 10) = (4 : Int32) then
          let p17 := xf_Wi_send v0 (8 : Int32) (v0 13 r 11) (0 : Int32) (v0 13 r 12)
          let y15 := p17.1
          let v16 := p17.2
          v16
        else
          v0

set_option maxHeartbeats 4000000 in
set_option maxRecDepth 100000 in
theorem xc_Re_sendRequest (l : Launch) {D : va_G} {cA : Nat → ClassId} {ad : Nat → Nat → Nat} (hD : fw_D xCL ad) {b : Nat} (v0 : fw_V) (hI : xI b v0) (r : Nat) (hr0 : r < 2)  : Met l xy_Re_sendRequest (Cond.code xy_Re_sendRequest xb_Re_sendRequest 1 none :: vTB) xrm_Re_sendRequest (fw_Pc vNL D vcls (vtys cA) xCL cA xkd ad v0 [.ref (ad 13 r)]) (fw_Qv D vcls xCL cA xkd ad (xI b) (xf_Re_sendRequest v0 r)) 0 0 (fw_A xCL ad) := by
  refine Met.ofW (cc := xb_Re_sendRequest) (maxL := 1) (ret := none) (by decide) rfl ?_
  intro p e s m args below meth c s₁ B hml hv
  obtain ⟨rfl, hP, hK, hN⟩ := hv
  have hx := B.exec
  have hb := B.bytes
  have hr := B.returns
  have hts : ∀ w ∈ vTB, w.before ([.ref (ad 13 r)] : List Value).toArray s = true := fun w h => atoms_spec (ws := (Cond.code xy_Re_sendRequest xb_Re_sendRequest 1 none :: vTB)) B.pre w (List.mem_cons_of_mem _ h)
  have hown : s.vm.findClass R_Re = some m.cls := findClass_of_methodNamed B.named
  have hlocks := B.notSynchronized
  have hS : va_S (fw_A xCL ad) s.heap s.heap [] := va_S.rf
  skip
  have hl := lv_entry ([.ref (ad 13 r)]) (n := 1) (Nat.le_of_ble_eq_true rfl)
  rw [lg_entry_eq]
  generalize (lg_sl ([.ref (ad 13 r)]) ++ List.replicate (1 - (lg_sl ([.ref (ad 13 r)])).length) Slot.unset).toArray = ls at hl ⊢
  have hl : lv_has ls 1 [(0, .ref (ad 13 r))] := hl
  refine lv_aload_n hx hb xd_Re_sendRequest_0 rfl (lv_at hl 0 rfl) ?_
  refine fw_geti hx hb hts i_Re hown hK hP (xm_13 (by omega)) (xk_13 r) rfl 10 (by decide) (hts _ L_Re_56) (fun _ h9 => h9) rfl xd_Re_sendRequest_1 ?_
  by_cases c_1 : (v0 13 r 10) = (1 : Int32)
  · refine lv_tableIn (off := 32) (tgt := 36) hx hb xd_Re_sendRequest_4 (by rw [c_1]; decide) (by rw [c_1]; decide) (by rw [c_1]; rfl) (by decide) ?_
    refine lv_aload_n hx hb xd_Re_sendRequest_36 rfl (lv_at hl 0 rfl) ?_
    refine fw_getr hx hb hts i_Re hown hK hP (xm_13 (by omega)) (xk_13 r) rfl 2 (by decide) (hts _ L_Re_42) (fun _ h9 => h9) rfl xd_Re_sendRequest_37 ?_
    refine lv_iconst (v := (1 : Int32)) hx hb xd_Re_sendRequest_40 (by decide) ?_
    refine lv_iconst (v := (0 : Int32)) hx hb xd_Re_sendRequest_41 (by decide) ?_
    refine lv_aload_n hx hb xd_Re_sendRequest_42 rfl (lv_at hl 0 rfl) ?_
    refine fw_geti hx hb hts i_Re hown hK hP (xm_13 (by omega)) (xk_13 r) rfl 5 (by decide) (hts _ L_Re_133) (fun _ h9 => h9) rfl xd_Re_sendRequest_43 ?_
    refine lv_iconst (v := (3 : Int32)) hx hb xd_Re_sendRequest_46 (by decide) ?_
    refine fw_cr (va_runV (As := [.int (1 : Int32), .int (0 : Int32), .int (v0 13 r 5), .int (3 : Int32)]) (rest := []) ⟨hx, hb, hml, hown, hts⟩ (xc_Wi_send l hD v0 hI (1 : Int32) (0 : Int32) (v0 13 r 5) (3 : Int32)) (xw_Wi_send hts L_Re_145 ⟨Nat.le_of_ble_eq_true rfl, Nat.le_of_ble_eq_true rfl⟩) (fw_preV hN hK hP (xm_5 (by decide)) (xk_5 0) rfl) rfl rfl hl.1 rfl (lv_room (Nat.le_of_ble_eq_true rfl)) xd_Re_sendRequest_47 ⟨Nat.le_of_ble_eq_true rfl, Nat.le_of_ble_eq_true rfl⟩) hS (fun y2 v3 H locs ly2 ey2 ev3 hI hP hS => ?_)
    refine lv_pop hx hb xd_Re_sendRequest_50 rfl ?_
    refine lv_goto (tgt := 121) hx hb xd_Re_sendRequest_51 (by decide) ?_
    exact fw_vret hx hb hr hlocks hS hP hI xd_Re_sendRequest_121 (by subst ey2 ev3; simp only [xf_Re_sendRequest, if_pos c_1])
  · skip
    by_cases c_5 : (v0 13 r 10) = (2 : Int32)
    · refine lv_tableIn (off := 50) (tgt := 54) hx hb xd_Re_sendRequest_4 (by rw [c_5]; decide) (by rw [c_5]; decide) (by rw [c_5]; rfl) (by decide) ?_
      refine lv_aload_n hx hb xd_Re_sendRequest_54 rfl (lv_at hl 0 rfl) ?_
      refine fw_cv (va_runV (As := []) (rest := []) ⟨hx, hb, hml, hown, hts⟩ (xc_Re_sendConnect l hD v0 hI (r) (by omega)) (xw_Re_sendConnect hts L_Re_183 ⟨Nat.le_of_ble_eq_true rfl, Nat.le_of_ble_eq_true rfl⟩) (fw_preV hN hK hP (xm_13 (by omega)) (xk_13 r) rfl) rfl rfl hl.1 rfl (lv_room (Nat.le_of_ble_eq_true rfl)) xd_Re_sendRequest_55 ⟨Nat.le_of_ble_eq_true rfl, Nat.le_of_ble_eq_true rfl⟩) hS (fun v6 H locs ev6 hI hP hS => ?_)
      refine lv_goto (tgt := 121) hx hb xd_Re_sendRequest_58 (by decide) ?_
      exact fw_vret hx hb hr hlocks hS hP hI xd_Re_sendRequest_121 (by subst ev6; simp only [xf_Re_sendRequest, if_neg c_1, if_pos c_5])
    · skip
      by_cases c_7 : (v0 13 r 10) = (3 : Int32)
      · refine lv_tableIn (off := 57) (tgt := 61) hx hb xd_Re_sendRequest_4 (by rw [c_7]; decide) (by rw [c_7]; decide) (by rw [c_7]; rfl) (by decide) ?_
        refine lv_aload_n hx hb xd_Re_sendRequest_61 rfl (lv_at hl 0 rfl) ?_
        refine fw_getr hx hb hts i_Re hown hK hP (xm_13 (by omega)) (xk_13 r) rfl 2 (by decide) (hts _ L_Re_42) (fun _ h9 => h9) rfl xd_Re_sendRequest_62 ?_
        refine lv_bipush (v := (6 : Int32)) hx hb xd_Re_sendRequest_65 (by decide) ?_
        refine lv_aload_n hx hb xd_Re_sendRequest_67 rfl (lv_at hl 0 rfl) ?_
        refine fw_geti hx hb hts i_Re hown hK hP (xm_13 (by omega)) (xk_13 r) rfl 11 (by decide) (hts _ L_Re_59) (fun _ h9 => h9) rfl xd_Re_sendRequest_68 ?_
        refine lv_aload_n hx hb xd_Re_sendRequest_71 rfl (lv_at hl 0 rfl) ?_
        refine fw_geti hx hb hts i_Re hown hK hP (xm_13 (by omega)) (xk_13 r) rfl 17 (by decide) (hts _ L_Re_139) (fun _ h9 => h9) rfl xd_Re_sendRequest_72 ?_
        have h_8 : vp_in (v0 13 r 17) 3 := hI.1 13 r 17
        refine lv_aload_n hx hb xd_Re_sendRequest_75 rfl (lv_at hl 0 rfl) ?_
        refine fw_geti hx hb hts i_Re hown hK hP (xm_13 (by omega)) (xk_13 r) rfl 12 (by decide) (hts _ L_Re_31) (fun _ h9 => h9) rfl xd_Re_sendRequest_76 ?_
        refine fw_cr (va_runV (As := [.int (6 : Int32), .int (v0 13 r 11), .int (v0 13 r 17), .int (v0 13 r 12)]) (rest := []) ⟨hx, hb, hml, hown, hts⟩ (xc_Wi_send l hD v0 hI (6 : Int32) (v0 13 r 11) (v0 13 r 17) (v0 13 r 12)) (xw_Wi_send hts L_Re_145 ⟨Nat.le_of_ble_eq_true rfl, Nat.le_of_ble_eq_true rfl⟩) (fw_preV hN hK hP (xm_5 (by decide)) (xk_5 0) rfl) rfl rfl hl.1 rfl (lv_room (Nat.le_of_ble_eq_true rfl)) xd_Re_sendRequest_79 ⟨Nat.le_of_ble_eq_true rfl, Nat.le_of_ble_eq_true rfl⟩) hS (fun y9 v10 H locs ly9 ey9 ev10 hI hP hS => ?_)
        refine fw_getr hx hb hts i_Fm hown hK hP (xm_7 (by omega)) (xk_7 y9) rfl 4 (by decide) (hts _ L_Re_130) (fun _ h9 => h9) rfl xd_Re_sendRequest_82 ?_
        refine lv_iconst (v := (0 : Int32)) hx hb xd_Re_sendRequest_85 (by decide) ?_
        refine lv_aload_n hx hb xd_Re_sendRequest_86 rfl (lv_at hl 0 rfl) ?_
        refine fw_getr hx hb hts i_Re hown hK hP (xm_13 (by omega)) (xk_13 r) rfl 7 (by decide) (hts _ L_Re_22) (fun _ h9 => h9) rfl xd_Re_sendRequest_87 ?_
        refine lv_aload_n hx hb xd_Re_sendRequest_90 rfl (lv_at hl 0 rfl) ?_
        refine fw_geti hx hb hts i_Re hown hK hP (xm_13 (by omega)) (xk_13 r) rfl 17 (by decide) (hts _ L_Re_139) (fun _ h9 => h9) rfl xd_Re_sendRequest_91 ?_
        have h_12 : vp_in (v10 13 r 17) 3 := hI.1 13 r 17
        refine fw_iald hx hb hK hP (xm_16 (by omega)) (xk_16 r) 0 rfl (j := (v10 13 r 17).toNatClampNeg) rfl h_12 xd_Re_sendRequest_94 ?_
        refine fw_iast hx hb hK hD hP hS (xm_8 (by omega)) (xk_8 y9) 0 rfl (j := 0) (by decide) (fw_inc (by decide)) xd_Re_sendRequest_95 (fun v13 H locs ev13 hP hS => ?_)
        have hI : xI b v13 := by rw [ev13]; exact xI_up hI trivial trivial
        refine lv_goto (tgt := 121) hx hb xd_Re_sendRequest_96 (by decide) ?_
        exact fw_vret hx hb hr hlocks hS hP hI xd_Re_sendRequest_121 (by subst ey9 ev10 ev13; simp only [xf_Re_sendRequest, if_neg c_1, if_neg c_5, if_pos c_7])
      · skip
        by_cases c_14 : (v0 13 r 10) = (4 : Int32)
        · refine lv_tableIn (off := 95) (tgt := 99) hx hb xd_Re_sendRequest_4 (by rw [c_14]; decide) (by rw [c_14]; decide) (by rw [c_14]; rfl) (by decide) ?_
          refine lv_aload_n hx hb xd_Re_sendRequest_99 rfl (lv_at hl 0 rfl) ?_
          refine fw_getr hx hb hts i_Re hown hK hP (xm_13 (by omega)) (xk_13 r) rfl 2 (by decide) (hts _ L_Re_42) (fun _ h9 => h9) rfl xd_Re_sendRequest_100 ?_
          refine lv_bipush (v := (8 : Int32)) hx hb xd_Re_sendRequest_103 (by decide) ?_
          refine lv_aload_n hx hb xd_Re_sendRequest_105 rfl (lv_at hl 0 rfl) ?_
          refine fw_geti hx hb hts i_Re hown hK hP (xm_13 (by omega)) (xk_13 r) rfl 11 (by decide) (hts _ L_Re_59) (fun _ h9 => h9) rfl xd_Re_sendRequest_106 ?_
          refine lv_iconst (v := (0 : Int32)) hx hb xd_Re_sendRequest_109 (by decide) ?_
          refine lv_aload_n hx hb xd_Re_sendRequest_110 rfl (lv_at hl 0 rfl) ?_
          refine fw_geti hx hb hts i_Re hown hK hP (xm_13 (by omega)) (xk_13 r) rfl 12 (by decide) (hts _ L_Re_31) (fun _ h9 => h9) rfl xd_Re_sendRequest_111 ?_
          refine fw_cr (va_runV (As := [.int (8 : Int32), .int (v0 13 r 11), .int (0 : Int32), .int (v0 13 r 12)]) (rest := []) ⟨hx, hb, hml, hown, hts⟩ (xc_Wi_send l hD v0 hI (8 : Int32) (v0 13 r 11) (0 : Int32) (v0 13 r 12)) (xw_Wi_send hts L_Re_145 ⟨Nat.le_of_ble_eq_true rfl, Nat.le_of_ble_eq_true rfl⟩) (fw_preV hN hK hP (xm_5 (by decide)) (xk_5 0) rfl) rfl rfl hl.1 rfl (lv_room (Nat.le_of_ble_eq_true rfl)) xd_Re_sendRequest_114 ⟨Nat.le_of_ble_eq_true rfl, Nat.le_of_ble_eq_true rfl⟩) hS (fun y15 v16 H locs ly15 ey15 ev16 hI hP hS => ?_)
          refine lv_pop hx hb xd_Re_sendRequest_117 rfl ?_
          refine lv_goto (tgt := 121) hx hb xd_Re_sendRequest_118 (by decide) ?_
          exact fw_vret hx hb hr hlocks hS hP hI xd_Re_sendRequest_121 (by subst ey15 ev16; simp only [xf_Re_sendRequest, if_neg c_1, if_neg c_5, if_neg c_7, if_pos c_14])
        · skip
          refine lv_tableOut (tgt := 121) hx hb xd_Re_sendRequest_4 (by have q0 := lv_neT c_1 (a := 1) (by decide); have q1 := lv_neT c_5 (a := 2) (by decide); have q2 := lv_neT c_7 (a := 3) (by decide); have q3 := lv_neT c_14 (a := 4) (by decide); omega) (by decide) ?_
          exact fw_vret hx hb hr hlocks hS hP hI xd_Re_sendRequest_121 (by simp only [xf_Re_sendRequest, if_neg c_1, if_neg c_5, if_neg c_7, if_neg c_14])

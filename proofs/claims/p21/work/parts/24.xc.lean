def xf_De_keepParameter (v0 : fw_V) (r : Nat) (k1 : Nat) : fw_V :=
  if (v0 19 r 11) = (1 : Int32) then
    let r2 := xf_FR_isSlot (v0 7 k1 2)
    if r2 = (0 : Int32) then
      v0
    else
      let v5 := fw_up v0 27 r ((v0 7 k1 2).toNatClampNeg) (v0 8 k1 0)
      let v6 := fw_up v5 19 r 16 (0 : Int32)
      let p9 := xf_Wi_send v6 (7 : Int32) (v6 19 r 12) (v6 7 k1 2) (2 : Int32)
      let y7 := p9.1
      let v8 := p9.2
      v8
  else
    v0

set_option maxHeartbeats 4000000 in
set_option maxRecDepth 100000 in
theorem xc_De_keepParameter (l : Launch) {D : va_G} {cA : Nat → ClassId} {ad : Nat → Nat → Nat} (hD : fw_D xCL ad) {b : Nat} (v0 : fw_V) (hI : xI b v0) (r : Nat) (hr0 : r < 2) (k1 : Nat) (hk1 : k1 < 18)  : Met l xy_De_keepParameter (Cond.code xy_De_keepParameter xb_De_keepParameter 2 none :: vTB) xrm_De_keepParameter (fw_Pc vNL D vcls (vtys cA) xCL cA xkd ad v0 [.ref (ad 19 r), .ref (ad 7 k1)]) (fw_Qv D vcls xCL cA xkd ad (xI b) (xf_De_keepParameter v0 r k1)) 0 0 (fw_A xCL ad) := by
  refine Met.ofW (cc := xb_De_keepParameter) (maxL := 2) (ret := none) (by decide) rfl ?_
  intro p e s m args below meth c s₁ B hml hv
  obtain ⟨rfl, hP, hK, hN⟩ := hv
  have hx := B.exec
  have hb := B.bytes
  have hr := B.returns
  have hts : ∀ w ∈ vTB, w.before ([.ref (ad 19 r), .ref (ad 7 k1)] : List Value).toArray s = true := fun w h => atoms_spec (ws := (Cond.code xy_De_keepParameter xb_De_keepParameter 2 none :: vTB)) B.pre w (List.mem_cons_of_mem _ h)
  have hown : s.vm.findClass R_De = some m.cls := findClass_of_methodNamed B.named
  have hlocks := B.notSynchronized
  have hS : va_S (fw_A xCL ad) s.heap s.heap [] := va_S.rf
  skip
  have hl := lv_entry ([.ref (ad 19 r), .ref (ad 7 k1)]) (n := 2) (Nat.le_of_ble_eq_true rfl)
  rw [lg_entry_eq]
  generalize (lg_sl ([.ref (ad 19 r), .ref (ad 7 k1)]) ++ List.replicate (2 - (lg_sl ([.ref (ad 19 r), .ref (ad 7 k1)])).length) Slot.unset).toArray = ls at hl ⊢
  have hl : lv_has ls 2 [(0, .ref (ad 19 r)), (1, .ref (ad 7 k1))] := hl
  refine lv_aload_n hx hb xd_De_keepParameter_0 rfl (lv_at hl 0 rfl) ?_
  refine fw_geti hx hb hts i_De hown hK hP (xm_19 (by omega)) (xk_19 r) rfl 11 (by decide) (hts _ L_De_62) (fun _ h9 => h9) rfl xd_De_keepParameter_1 ?_
  refine lv_iconst (v := (1 : Int32)) hx hb xd_De_keepParameter_4 (by decide) ?_
  refine lv_icmp_ne (tgt := 57) hx hb xd_De_keepParameter_5 (by decide) (fun c_1 => ?_) (fun c_1 => ?_)
  · exact fw_vret hx hb hr hlocks hS hP hI xd_De_keepParameter_57 (by simp only [xf_De_keepParameter, if_neg c_1])
  · refine lv_aload_n hx hb xd_De_keepParameter_8 rfl (lv_at hl 1 rfl) ?_
    refine fw_geti hx hb hts i_Fm hown hK hP (xm_7 (by omega)) (xk_7 k1) rfl 2 (by decide) (hts _ L_De_88) (fun _ h9 => h9) rfl xd_De_keepParameter_9 ?_
    refine fw_cb (va_runSN (As := [.int (v0 7 k1 2)]) (rest := []) ⟨hx, hb, hml, hown, hts⟩ (xc_FR_isSlot l hD v0 hI (v0 7 k1 2)) (xwn_FR_isSlot hts (hN.2 _ L_De_150) ⟨Nat.le_of_ble_eq_true rfl, Nat.le_of_ble_eq_true rfl⟩) (fw_preS hN hK hP) rfl rfl hl.1 rfl (lv_room (Nat.le_of_ble_eq_true rfl)) xd_De_keepParameter_12 ⟨Nat.le_of_ble_eq_true rfl, Nat.le_of_ble_eq_true rfl⟩) hS (fun r2 H locs zr2 er2 hP hS => ?_)
    refine lv_if_eq (tgt := 57) hx hb xd_De_keepParameter_15 (by decide) (fun c_3 => ?_) (fun c_3 => ?_)
    · exact fw_vret hx hb hr hlocks hS hP hI xd_De_keepParameter_57 (by subst er2; simp only [xf_De_keepParameter, if_pos c_1, if_pos c_3])
    · have h_4 : vp_in (v0 7 k1 2) 3 := xp_FR_isSlot er2 c_3
      refine lv_aload_n hx hb xd_De_keepParameter_18 rfl (lv_at hl 0 rfl) ?_
      refine fw_getr hx hb hts i_De hown hK hP (xm_19 (by omega)) (xk_19 r) rfl 14 (by decide) (hts _ L_De_42) (fun _ h9 => h9) rfl xd_De_keepParameter_19 ?_
      refine lv_aload_n hx hb xd_De_keepParameter_22 rfl (lv_at hl 1 rfl) ?_
      refine fw_geti hx hb hts i_Fm hown hK hP (xm_7 (by omega)) (xk_7 k1) rfl 2 (by decide) (hts _ L_De_88) (fun _ h9 => h9) rfl xd_De_keepParameter_23 ?_
      refine lv_aload_n hx hb xd_De_keepParameter_26 rfl (lv_at hl 1 rfl) ?_
      refine fw_getr hx hb hts i_Fm hown hK hP (xm_7 (by omega)) (xk_7 k1) rfl 4 (by decide) (hts _ L_De_144) (fun _ h9 => h9) rfl xd_De_keepParameter_27 ?_
      refine lv_iconst (v := (0 : Int32)) hx hb xd_De_keepParameter_30 (by decide) ?_
      refine fw_iald hx hb hK hP (xm_8 (by omega)) (xk_8 k1) 0 rfl (j := 0) (by decide) (fw_inc (by decide)) xd_De_keepParameter_31 ?_
      refine fw_iast hx hb hK hD hP hS (xm_27 (by omega)) (xk_27 r) 0 rfl (j := (v0 7 k1 2).toNatClampNeg) rfl h_4 xd_De_keepParameter_32 (fun v5 H locs ev5 hP hS => ?_)
      have hI : xI b v5 := by rw [ev5]; exact xI_up hI trivial trivial
      refine lv_aload_n hx hb xd_De_keepParameter_33 rfl (lv_at hl 0 rfl) ?_
      refine lv_iconst (v := (0 : Int32)) hx hb xd_De_keepParameter_34 (by decide) ?_
      refine fw_puti hx hb hts i_De t_De t_De_ok n_De hown hK hD hP hS (xm_19 (by omega)) (xk_19 r) rfl 16 (by decide) (hts _ L_De_120) (fun _ h9 => h9) rfl fw_pdI rfl rfl rfl xd_De_keepParameter_35 (fun v6 H locs ev6 hP hS => ?_)
      have hI : xI b v6 := by rw [ev6]; exact xI_up hI trivial trivial
      refine lv_aload_n hx hb xd_De_keepParameter_38 rfl (lv_at hl 0 rfl) ?_
      refine fw_getr hx hb hts i_De hown hK hP (xm_19 (by omega)) (xk_19 r) rfl 2 (by decide) (hts _ L_De_52) (fun _ h9 => h9) rfl xd_De_keepParameter_39 ?_
      refine lv_bipush (v := (7 : Int32)) hx hb xd_De_keepParameter_42 (by decide) ?_
      refine lv_aload_n hx hb xd_De_keepParameter_44 rfl (lv_at hl 0 rfl) ?_
      refine fw_geti hx hb hts i_De hown hK hP (xm_19 (by omega)) (xk_19 r) rfl 12 (by decide) (hts _ L_De_101) (fun _ h9 => h9) rfl xd_De_keepParameter_45 ?_
      refine lv_aload_n hx hb xd_De_keepParameter_48 rfl (lv_at hl 1 rfl) ?_
      refine fw_geti hx hb hts i_Fm hown hK hP (xm_7 (by omega)) (xk_7 k1) rfl 2 (by decide) (hts _ L_De_88) (fun _ h9 => h9) rfl xd_De_keepParameter_49 ?_
      refine lv_iconst (v := (2 : Int32)) hx hb xd_De_keepParameter_52 (by decide) ?_
      refine fw_cr (va_runV (As := [.int (7 : Int32), .int (v6 19 r 12), .int (v6 7 k1 2), .int (2 : Int32)]) (rest := []) ⟨hx, hb, hml, hown, hts⟩ (xc_Wi_send l hD v6 hI (7 : Int32) (v6 19 r 12) (v6 7 k1 2) (2 : Int32)) (xw_Wi_send hts L_De_138 ⟨Nat.le_of_ble_eq_true rfl, Nat.le_of_ble_eq_true rfl⟩) (fw_preV hN hK hP (xm_5 (by decide)) (xk_5 0) rfl) rfl rfl hl.1 rfl (lv_room (Nat.le_of_ble_eq_true rfl)) xd_De_keepParameter_53 ⟨Nat.le_of_ble_eq_true rfl, Nat.le_of_ble_eq_true rfl⟩) hS (fun y7 v8 H locs ly7 ey7 ev8 hI hP hS => ?_)
      refine lv_pop hx hb xd_De_keepParameter_56 rfl ?_
      exact fw_vret hx hb hr hlocks hS hP hI xd_De_keepParameter_57 (by subst er2 ev5 ev6 ey7 ev8; simp only [xf_De_keepParameter, if_pos c_1, if_neg c_3])
def xf_De_isGood (v0 : fw_V) (r : Nat) (a1 : Int32) : Int32 :=
  if (v0 26 r a1.toNatClampNeg) = (-1 : Int32) then
    (0 : Int32)
  else
    let r2 := xf_FR_hasSlot (v0 19 r 15) a1
    if r2 = (0 : Int32) then
      (1 : Int32)
    else
      (0 : Int32)

set_option maxHeartbeats 4000000 in
set_option maxRecDepth 100000 in
theorem xc_De_isGood (l : Launch) {D : va_G} {cA : Nat → ClassId} {ad : Nat → Nat → Nat} (hD : fw_D xCL ad) {b : Nat} (v0 : fw_V) (hI : xI b v0) (r : Nat) (hr0 : r < 2) (a1 : Int32) (hq0 : vp_in a1 3) : Met l xy_De_isGood (Cond.code xy_De_isGood xb_De_isGood 2 (some .boolean) :: vTB) xrm_De_isGood (fw_Pc vNL D vcls (vtys cA) xCL cA xkd ad v0 [.ref (ad 19 r), .int a1]) (fw_Qb D vcls xCL cA xkd ad v0 (xf_De_isGood v0 r a1)) 0 0 (fw_A xCL ad) := by
  refine Met.ofW (cc := xb_De_isGood) (maxL := 2) (ret := (some .boolean)) (by decide) rfl ?_
  intro p e s m args below meth c s₁ B hml hv
  obtain ⟨rfl, hP, hK, hN⟩ := hv
  have hx := B.exec
  have hb := B.bytes
  have hr := B.returns
  have hts : ∀ w ∈ vTB, w.before ([.ref (ad 19 r), .int a1] : List Value).toArray s = true := fun w h => atoms_spec (ws := (Cond.code xy_De_isGood xb_De_isGood 2 (some .boolean) :: vTB)) B.pre w (List.mem_cons_of_mem _ h)
  have hown : s.vm.findClass R_De = some m.cls := findClass_of_methodNamed B.named
  have hlocks := B.notSynchronized
  have hS : va_S (fw_A xCL ad) s.heap s.heap [] := va_S.rf
  skip
  have hl := lv_entry ([.ref (ad 19 r), .int a1]) (n := 2) (Nat.le_of_ble_eq_true rfl)
  rw [lg_entry_eq]
  generalize (lg_sl ([.ref (ad 19 r), .int a1]) ++ List.replicate (2 - (lg_sl ([.ref (ad 19 r), .int a1])).length) Slot.unset).toArray = ls at hl ⊢
  have hl : lv_has ls 2 [(0, .ref (ad 19 r)), (1, .int a1)] := hl
  refine lv_aload_n hx hb xd_De_isGood_0 rfl (lv_at hl 0 rfl) ?_
  refine fw_getr hx hb hts i_De hown hK hP (xm_19 (by omega)) (xk_19 r) rfl 13 (by decide) (hts _ L_De_39) (fun _ h9 => h9) rfl xd_De_isGood_1 ?_
  refine lv_iload_n hx hb xd_De_isGood_4 rfl (lv_at hl 1 rfl) ?_
  refine fw_iald hx hb hK hP (xm_26 (by omega)) (xk_26 r) 0 rfl (j := a1.toNatClampNeg) rfl hq0 xd_De_isGood_5 ?_
  refine lv_iconst (v := (-1 : Int32)) hx hb xd_De_isGood_6 (by decide) ?_
  refine lv_icmp_eq (tgt := 25) hx hb xd_De_isGood_7 (by decide) (fun c_1 => ?_) (fun c_1 => ?_)
  · refine lv_iconst (v := (0 : Int32)) hx hb xd_De_isGood_25 (by decide) ?_
    exact fw_bret hx hb hr hlocks hS hP xd_De_isGood_26 (by decide) (by simp only [xf_De_isGood, if_pos c_1])
  · refine lv_aload_n hx hb xd_De_isGood_10 rfl (lv_at hl 0 rfl) ?_
    refine fw_geti hx hb hts i_De hown hK hP (xm_19 (by omega)) (xk_19 r) rfl 15 (by decide) (hts _ L_De_72) (fun _ h9 => h9) rfl xd_De_isGood_11 ?_
    refine lv_iload_n hx hb xd_De_isGood_14 rfl (lv_at hl 1 rfl) ?_
    refine fw_cb (va_runSN (As := [.int (v0 19 r 15), .int a1]) (rest := []) ⟨hx, hb, hml, hown, hts⟩ (xc_FR_hasSlot l hD v0 hI (v0 19 r 15) a1) (xwn_FR_hasSlot hts (hN.2 _ L_De_190) ⟨Nat.le_of_ble_eq_true rfl, Nat.le_of_ble_eq_true rfl⟩) (fw_preS hN hK hP) rfl rfl hl.1 rfl (lv_room (Nat.le_of_ble_eq_true rfl)) xd_De_isGood_15 ⟨Nat.le_of_ble_eq_true rfl, Nat.le_of_ble_eq_true rfl⟩) hS (fun r2 H locs zr2 er2 hP hS => ?_)
    refine lv_if_ne (tgt := 25) hx hb xd_De_isGood_18 (by decide) (fun c_3 => ?_) (fun c_3 => ?_)
    · refine lv_iconst (v := (0 : Int32)) hx hb xd_De_isGood_25 (by decide) ?_
      exact fw_bret hx hb hr hlocks hS hP xd_De_isGood_26 (by decide) (by subst er2; simp only [xf_De_isGood, if_neg c_1, if_neg c_3])
    · refine lv_iconst (v := (1 : Int32)) hx hb xd_De_isGood_21 (by decide) ?_
      refine lv_goto (tgt := 26) hx hb xd_De_isGood_22 (by decide) ?_
      exact fw_bret hx hb hr hlocks hS hP xd_De_isGood_26 (by decide) (by subst er2; simp only [xf_De_isGood, if_neg c_1, if_pos c_3])
def xf_De_lacksParameter_j7 (v0 : fw_V) (r : Nat)  : Int32 :=
  (0 : Int32)
def xf_De_lacksParameter_j6 (v0 : fw_V) (r : Nat)  : Int32 :=
  xf_De_lacksParameter_j7 v0 r
def xf_De_lacksParameter_j5 (v0 : fw_V) (r : Nat)  : Int32 :=
  let r8 := xf_De_isGood v0 (r) (2 : Int32)
  if r8 = (0 : Int32) then
    xf_De_lacksParameter_j6 v0 r
  else
    let r11 := xf_KT_needsParameter v0 (v0 26 r 2)
    if r11 = (0 : Int32) then
      xf_De_lacksParameter_j6 v0 r
    else
      if (v0 27 r 2) = (-1 : Int32) then
        (1 : Int32)
      else
        xf_De_lacksParameter_j6 v0 r
def xf_De_lacksParameter_j4 (v0 : fw_V) (r : Nat)  : Int32 :=
  xf_De_lacksParameter_j5 v0 r
def xf_De_lacksParameter_j3 (v0 : fw_V) (r : Nat)  : Int32 :=
  let r5 := xf_De_isGood v0 (r) (1 : Int32)
  if r5 = (0 : Int32) then
    xf_De_lacksParameter_j4 v0 r
  else
    let r14 := xf_KT_needsParameter v0 (v0 26 r 1)
    if r14 = (0 : Int32) then
      xf_De_lacksParameter_j4 v0 r
    else
      if (v0 27 r 1) = (-1 : Int32) then
        (1 : Int32)
      else
        xf_De_lacksParameter_j4 v0 r
def xf_De_lacksParameter_j2 (v0 : fw_V) (r : Nat)  : Int32 :=
  xf_De_lacksParameter_j3 v0 r
def xf_De_lacksParameter_j1 (v0 : fw_V) (r : Nat)  : Int32 :=
  let r2 := xf_De_isGood v0 (r) (0 : Int32)
  if r2 = (0 : Int32) then
    xf_De_lacksParameter_j2 v0 r
  else
    let r17 := xf_KT_needsParameter v0 (v0 26 r 0)
    if r17 = (0 : Int32) then
      xf_De_lacksParameter_j2 v0 r
    else
      if (v0 27 r 0) = (-1 : Int32) then
        (1 : Int32)
      else
        xf_De_lacksParameter_j2 v0 r
def xf_De_lacksParameter (v0 : fw_V) (r : Nat) : Int32 :=
  xf_De_lacksParameter_j1 v0 r

set_option maxHeartbeats 4000000 in
set_option maxRecDepth 100000 in
theorem xc_De_lacksParameter (l : Launch) {D : va_G} {cA : Nat → ClassId} {ad : Nat → Nat → Nat} (hD : fw_D xCL ad) {b : Nat} (v0 : fw_V) (hI : xI b v0) (r : Nat) (hr0 : r < 2)  : Met l xy_De_lacksParameter (Cond.code xy_De_lacksParameter xb_De_lacksParameter 2 (some .boolean) :: vTB) xrm_De_lacksParameter (fw_Pc vNL D vcls (vtys cA) xCL cA xkd ad v0 [.ref (ad 19 r)]) (fw_Qb D vcls xCL cA xkd ad v0 (xf_De_lacksParameter v0 r)) 0 0 (fw_A xCL ad) := by
  refine Met.ofW (cc := xb_De_lacksParameter) (maxL := 2) (ret := (some .boolean)) (by decide) rfl ?_
  intro p e s m args below meth c s₁ B hml hv
  obtain ⟨rfl, hP, hK, hN⟩ := hv
  have hx := B.exec
  have hb := B.bytes
  have hr := B.returns
  have hts : ∀ w ∈ vTB, w.before ([.ref (ad 19 r)] : List Value).toArray s = true := fun w h => atoms_spec (ws := (Cond.code xy_De_lacksParameter xb_De_lacksParameter 2 (some .boolean) :: vTB)) B.pre w (List.mem_cons_of_mem _ h)
  have hown : s.vm.findClass R_De = some m.cls := findClass_of_methodNamed B.named
  have hlocks := B.notSynchronized
  have hS : va_S (fw_A xCL ad) s.heap s.heap [] := va_S.rf
  have J7 : ∀  (H : Heap) (locs : List Loc) (ls : Array Slot), xf_De_lacksParameter v0 r = xf_De_lacksParameter_j7 v0 r → xI b v0 → va_P D vcls (fw_w xCL cA xkd ad v0) H → va_S (fw_A xCL ad) s.heap H locs → lv_has ls 2 [(0, .ref (ad 19 r)), (1, .int (3 : Int32))] → W p l e (headSpec (Cond.code xy_De_lacksParameter xb_De_lacksParameter 2 (some .boolean) :: vTB) xrm_De_lacksParameter).room s m ([.ref (ad 19 r)] : List Value).toArray below meth c H locs 0 0 (MQ below (fw_Qb D vcls xCL cA xkd ad v0 (xf_De_lacksParameter v0 r)) ([.ref (ad 19 r)] : List Value).toArray s 0 0 (fw_A xCL ad)) (F0 m 2 ls []) := by
    intro  H locs ls hj  hI hP hS hl
    refine lv_iload_n hx hb xd_De_lacksParameter_2 rfl (lv_at hl 1 rfl) ?_
    refine lv_iconst (v := (3 : Int32)) hx hb xd_De_lacksParameter_3 (by decide) ?_
    refine lv_icmp_ge (tgt := 49) hx hb xd_De_lacksParameter_4 (by decide) (fun _ => ?_) (fun c_10 => absurd (by decide) c_10)
    refine lv_iconst (v := (0 : Int32)) hx hb xd_De_lacksParameter_49 (by decide) ?_
    exact fw_bret hx hb hr hlocks hS hP xd_De_lacksParameter_50 (by decide) (by rw [hj]; simp only [xf_De_lacksParameter_j7])
  have J6 : ∀  (H : Heap) (locs : List Loc) (ls : Array Slot), xf_De_lacksParameter v0 r = xf_De_lacksParameter_j6 v0 r → xI b v0 → va_P D vcls (fw_w xCL cA xkd ad v0) H → va_S (fw_A xCL ad) s.heap H locs → lv_has ls 2 [(0, .ref (ad 19 r)), (1, .int (2 : Int32))] → W p l e (headSpec (Cond.code xy_De_lacksParameter xb_De_lacksParameter 2 (some .boolean) :: vTB) xrm_De_lacksParameter).room s m ([.ref (ad 19 r)] : List Value).toArray below meth c H locs 0 0 (MQ below (fw_Qb D vcls xCL cA xkd ad v0 (xf_De_lacksParameter v0 r)) ([.ref (ad 19 r)] : List Value).toArray s 0 0 (fw_A xCL ad)) (F0 m 43 ls []) := by
    intro  H locs ls hj  hI hP hS hl
    refine lv_iinc (v := (3 : Int32)) (lv' := [(1, .int (3 : Int32)), (0, .ref (ad 19 r))]) hx hb xd_De_lacksParameter_43 hl (k := 1) rfl (by decide) (by decide) rfl (fun ls hl => ?_)
    refine lv_goto (tgt := 2) hx hb xd_De_lacksParameter_46 (by decide) ?_
    exact J7  _ _ _ (by rw [hj]; simp only [xf_De_lacksParameter_j6])   hI hP hS (lv_sub hl [1, 0] rfl)
  have J5 : ∀  (H : Heap) (locs : List Loc) (ls : Array Slot), xf_De_lacksParameter v0 r = xf_De_lacksParameter_j5 v0 r → xI b v0 → va_P D vcls (fw_w xCL cA xkd ad v0) H → va_S (fw_A xCL ad) s.heap H locs → lv_has ls 2 [(0, .ref (ad 19 r)), (1, .int (2 : Int32))] → W p l e (headSpec (Cond.code xy_De_lacksParameter xb_De_lacksParameter 2 (some .boolean) :: vTB) xrm_De_lacksParameter).room s m ([.ref (ad 19 r)] : List Value).toArray below meth c H locs 0 0 (MQ below (fw_Qb D vcls xCL cA xkd ad v0 (xf_De_lacksParameter v0 r)) ([.ref (ad 19 r)] : List Value).toArray s 0 0 (fw_A xCL ad)) (F0 m 2 ls []) := by
    intro  H locs ls hj  hI hP hS hl
    clear J7
    refine lv_iload_n hx hb xd_De_lacksParameter_2 rfl (lv_at hl 1 rfl) ?_
    refine lv_iconst (v := (3 : Int32)) hx hb xd_De_lacksParameter_3 (by decide) ?_
    refine lv_icmp_ge (tgt := 49) hx hb xd_De_lacksParameter_4 (by decide) (fun c_7 => absurd c_7 (by decide)) (fun _ => ?_)
    refine lv_aload_n hx hb xd_De_lacksParameter_7 rfl (lv_at hl 0 rfl) ?_
    refine lv_iload_n hx hb xd_De_lacksParameter_8 rfl (lv_at hl 1 rfl) ?_
    refine fw_cb (va_runV (As := [.int (2 : Int32)]) (rest := []) ⟨hx, hb, hml, hown, hts⟩ (xc_De_isGood l hD v0 hI (r) (by omega) (2 : Int32) (fw_inc (by decide))) (xw_De_isGood hts L_De_164 ⟨Nat.le_of_ble_eq_true rfl, Nat.le_of_ble_eq_true rfl⟩) (fw_preV hN hK hP (xm_19 (by omega)) (xk_19 r) rfl) rfl rfl hl.1 rfl (lv_room (Nat.le_of_ble_eq_true rfl)) xd_De_lacksParameter_9 ⟨Nat.le_of_ble_eq_true rfl, Nat.le_of_ble_eq_true rfl⟩) hS (fun r8 H locs zr8 er8 hP hS => ?_)
    refine lv_if_eq (tgt := 43) hx hb xd_De_lacksParameter_12 (by decide) (fun c_9 => ?_) (fun c_9 => ?_)
    · exact J6  _ _ _ (by rw [hj]; subst er8; simp only [xf_De_lacksParameter_j5, if_pos c_9])   hI hP hS (lv_sub hl [0, 1] rfl)
    · refine lv_aload_n hx hb xd_De_lacksParameter_15 rfl (lv_at hl 0 rfl) ?_
      refine fw_getr hx hb hts i_De hown hK hP (xm_19 (by omega)) (xk_19 r) rfl 1 (by decide) (hts _ L_De_48) (fun _ h9 => h9) rfl xd_De_lacksParameter_16 ?_
      refine lv_aload_n hx hb xd_De_lacksParameter_19 rfl (lv_at hl 0 rfl) ?_
      refine fw_getr hx hb hts i_De hown hK hP (xm_19 (by omega)) (xk_19 r) rfl 13 (by decide) (hts _ L_De_39) (fun _ h9 => h9) rfl xd_De_lacksParameter_20 ?_
      refine lv_iload_n hx hb xd_De_lacksParameter_23 rfl (lv_at hl 1 rfl) ?_
      refine fw_iald hx hb hK hP (xm_26 (by omega)) (xk_26 r) 0 rfl (j := 2) (by decide) (fw_inc (by decide)) xd_De_lacksParameter_24 ?_
      refine fw_cb (va_runV (As := [.int (v0 26 r 2)]) (rest := []) ⟨hx, hb, hml, hown, hts⟩ (xc_KT_needsParameter l hD v0 hI (v0 26 r 2)) (xw_KT_needsParameter hts L_De_167 ⟨Nat.le_of_ble_eq_true rfl, Nat.le_of_ble_eq_true rfl⟩) (fw_preV hN hK hP (xm_1 (by decide)) (xk_1 0) rfl) rfl rfl hl.1 rfl (lv_room (Nat.le_of_ble_eq_true rfl)) xd_De_lacksParameter_25 ⟨Nat.le_of_ble_eq_true rfl, Nat.le_of_ble_eq_true rfl⟩) hS (fun r11 H locs zr11 er11 hP hS => ?_)
      refine lv_if_eq (tgt := 43) hx hb xd_De_lacksParameter_28 (by decide) (fun c_12 => ?_) (fun c_12 => ?_)
      · exact J6  _ _ _ (by rw [hj]; subst er8 er11; simp only [xf_De_lacksParameter_j5, if_neg c_9, if_pos c_12])   hI hP hS (lv_sub hl [0, 1] rfl)
      · refine lv_aload_n hx hb xd_De_lacksParameter_31 rfl (lv_at hl 0 rfl) ?_
        refine fw_getr hx hb hts i_De hown hK hP (xm_19 (by omega)) (xk_19 r) rfl 14 (by decide) (hts _ L_De_42) (fun _ h9 => h9) rfl xd_De_lacksParameter_32 ?_
        refine lv_iload_n hx hb xd_De_lacksParameter_35 rfl (lv_at hl 1 rfl) ?_
        refine fw_iald hx hb hK hP (xm_27 (by omega)) (xk_27 r) 0 rfl (j := 2) (by decide) (fw_inc (by decide)) xd_De_lacksParameter_36 ?_
        refine lv_iconst (v := (-1 : Int32)) hx hb xd_De_lacksParameter_37 (by decide) ?_
        refine lv_icmp_ne (tgt := 43) hx hb xd_De_lacksParameter_38 (by decide) (fun c_13 => ?_) (fun c_13 => ?_)
        · exact J6  _ _ _ (by rw [hj]; subst er8 er11; simp only [xf_De_lacksParameter_j5, if_neg c_9, if_neg c_12, if_neg c_13])   hI hP hS (lv_sub hl [0, 1] rfl)
        · refine lv_iconst (v := (1 : Int32)) hx hb xd_De_lacksParameter_41 (by decide) ?_
          exact fw_bret hx hb hr hlocks hS hP xd_De_lacksParameter_42 (by decide) (by rw [hj]; subst er8 er11; simp only [xf_De_lacksParameter_j5, if_neg c_9, if_neg c_12, if_pos c_13])
  have J4 : ∀  (H : Heap) (locs : List Loc) (ls : Array Slot), xf_De_lacksParameter v0 r = xf_De_lacksParameter_j4 v0 r → xI b v0 → va_P D vcls (fw_w xCL cA xkd ad v0) H → va_S (fw_A xCL ad) s.heap H locs → lv_has ls 2 [(0, .ref (ad 19 r)), (1, .int (1 : Int32))] → W p l e (headSpec (Cond.code xy_De_lacksParameter xb_De_lacksParameter 2 (some .boolean) :: vTB) xrm_De_lacksParameter).room s m ([.ref (ad 19 r)] : List Value).toArray below meth c H locs 0 0 (MQ below (fw_Qb D vcls xCL cA xkd ad v0 (xf_De_lacksParameter v0 r)) ([.ref (ad 19 r)] : List Value).toArray s 0 0 (fw_A xCL ad)) (F0 m 43 ls []) := by
    intro  H locs ls hj  hI hP hS hl
    clear J7 J6
    refine lv_iinc (v := (2 : Int32)) (lv' := [(1, .int (2 : Int32)), (0, .ref (ad 19 r))]) hx hb xd_De_lacksParameter_43 hl (k := 1) rfl (by decide) (by decide) rfl (fun ls hl => ?_)
    refine lv_goto (tgt := 2) hx hb xd_De_lacksParameter_46 (by decide) ?_
    exact J5  _ _ _ (by rw [hj]; simp only [xf_De_lacksParameter_j4])   hI hP hS (lv_sub hl [1, 0] rfl)
  have J3 : ∀  (H : Heap) (locs : List Loc) (ls : Array Slot), xf_De_lacksParameter v0 r = xf_De_lacksParameter_j3 v0 r → xI b v0 → va_P D vcls (fw_w xCL cA xkd ad v0) H → va_S (fw_A xCL ad) s.heap H locs → lv_has ls 2 [(0, .ref (ad 19 r)), (1, .int (1 : Int32))] → W p l e (headSpec (Cond.code xy_De_lacksParameter xb_De_lacksParameter 2 (some .boolean) :: vTB) xrm_De_lacksParameter).room s m ([.ref (ad 19 r)] : List Value).toArray below meth c H locs 0 0 (MQ below (fw_Qb D vcls xCL cA xkd ad v0 (xf_De_lacksParameter v0 r)) ([.ref (ad 19 r)] : List Value).toArray s 0 0 (fw_A xCL ad)) (F0 m 2 ls []) := by
    intro  H locs ls hj  hI hP hS hl
    clear J7 J6 J5
    refine lv_iload_n hx hb xd_De_lacksParameter_2 rfl (lv_at hl 1 rfl) ?_
    refine lv_iconst (v := (3 : Int32)) hx hb xd_De_lacksParameter_3 (by decide) ?_
    refine lv_icmp_ge (tgt := 49) hx hb xd_De_lacksParameter_4 (by decide) (fun c_4 => absurd c_4 (by decide)) (fun _ => ?_)
    refine lv_aload_n hx hb xd_De_lacksParameter_7 rfl (lv_at hl 0 rfl) ?_
    refine lv_iload_n hx hb xd_De_lacksParameter_8 rfl (lv_at hl 1 rfl) ?_
    refine fw_cb (va_runV (As := [.int (1 : Int32)]) (rest := []) ⟨hx, hb, hml, hown, hts⟩ (xc_De_isGood l hD v0 hI (r) (by omega) (1 : Int32) (fw_inc (by decide))) (xw_De_isGood hts L_De_164 ⟨Nat.le_of_ble_eq_true rfl, Nat.le_of_ble_eq_true rfl⟩) (fw_preV hN hK hP (xm_19 (by omega)) (xk_19 r) rfl) rfl rfl hl.1 rfl (lv_room (Nat.le_of_ble_eq_true rfl)) xd_De_lacksParameter_9 ⟨Nat.le_of_ble_eq_true rfl, Nat.le_of_ble_eq_true rfl⟩) hS (fun r5 H locs zr5 er5 hP hS => ?_)
    refine lv_if_eq (tgt := 43) hx hb xd_De_lacksParameter_12 (by decide) (fun c_6 => ?_) (fun c_6 => ?_)
    · exact J4  _ _ _ (by rw [hj]; subst er5; simp only [xf_De_lacksParameter_j3, if_pos c_6])   hI hP hS (lv_sub hl [0, 1] rfl)
    · refine lv_aload_n hx hb xd_De_lacksParameter_15 rfl (lv_at hl 0 rfl) ?_
      refine fw_getr hx hb hts i_De hown hK hP (xm_19 (by omega)) (xk_19 r) rfl 1 (by decide) (hts _ L_De_48) (fun _ h9 => h9) rfl xd_De_lacksParameter_16 ?_
      refine lv_aload_n hx hb xd_De_lacksParameter_19 rfl (lv_at hl 0 rfl) ?_
      refine fw_getr hx hb hts i_De hown hK hP (xm_19 (by omega)) (xk_19 r) rfl 13 (by decide) (hts _ L_De_39) (fun _ h9 => h9) rfl xd_De_lacksParameter_20 ?_
      refine lv_iload_n hx hb xd_De_lacksParameter_23 rfl (lv_at hl 1 rfl) ?_
      refine fw_iald hx hb hK hP (xm_26 (by omega)) (xk_26 r) 0 rfl (j := 1) (by decide) (fw_inc (by decide)) xd_De_lacksParameter_24 ?_
      refine fw_cb (va_runV (As := [.int (v0 26 r 1)]) (rest := []) ⟨hx, hb, hml, hown, hts⟩ (xc_KT_needsParameter l hD v0 hI (v0 26 r 1)) (xw_KT_needsParameter hts L_De_167 ⟨Nat.le_of_ble_eq_true rfl, Nat.le_of_ble_eq_true rfl⟩) (fw_preV hN hK hP (xm_1 (by decide)) (xk_1 0) rfl) rfl rfl hl.1 rfl (lv_room (Nat.le_of_ble_eq_true rfl)) xd_De_lacksParameter_25 ⟨Nat.le_of_ble_eq_true rfl, Nat.le_of_ble_eq_true rfl⟩) hS (fun r14 H locs zr14 er14 hP hS => ?_)
      refine lv_if_eq (tgt := 43) hx hb xd_De_lacksParameter_28 (by decide) (fun c_15 => ?_) (fun c_15 => ?_)
      · exact J4  _ _ _ (by rw [hj]; subst er5 er14; simp only [xf_De_lacksParameter_j3, if_neg c_6, if_pos c_15])   hI hP hS (lv_sub hl [0, 1] rfl)
      · refine lv_aload_n hx hb xd_De_lacksParameter_31 rfl (lv_at hl 0 rfl) ?_
        refine fw_getr hx hb hts i_De hown hK hP (xm_19 (by omega)) (xk_19 r) rfl 14 (by decide) (hts _ L_De_42) (fun _ h9 => h9) rfl xd_De_lacksParameter_32 ?_
        refine lv_iload_n hx hb xd_De_lacksParameter_35 rfl (lv_at hl 1 rfl) ?_
        refine fw_iald hx hb hK hP (xm_27 (by omega)) (xk_27 r) 0 rfl (j := 1) (by decide) (fw_inc (by decide)) xd_De_lacksParameter_36 ?_
        refine lv_iconst (v := (-1 : Int32)) hx hb xd_De_lacksParameter_37 (by decide) ?_
        refine lv_icmp_ne (tgt := 43) hx hb xd_De_lacksParameter_38 (by decide) (fun c_16 => ?_) (fun c_16 => ?_)
        · exact J4  _ _ _ (by rw [hj]; subst er5 er14; simp only [xf_De_lacksParameter_j3, if_neg c_6, if_neg c_15, if_neg c_16])   hI hP hS (lv_sub hl [0, 1] rfl)
        · refine lv_iconst (v := (1 : Int32)) hx hb xd_De_lacksParameter_41 (by decide) ?_
          exact fw_bret hx hb hr hlocks hS hP xd_De_lacksParameter_42 (by decide) (by rw [hj]; subst er5 er14; simp only [xf_De_lacksParameter_j3, if_neg c_6, if_neg c_15, if_pos c_16])
  have J2 : ∀  (H : Heap) (locs : List Loc) (ls : Array Slot), xf_De_lacksParameter v0 r = xf_De_lacksParameter_j2 v0 r → xI b v0 → va_P D vcls (fw_w xCL cA xkd ad v0) H → va_S (fw_A xCL ad) s.heap H locs → lv_has ls 2 [(0, .ref (ad 19 r)), (1, .int (0 : Int32))] → W p l e (headSpec (Cond.code xy_De_lacksParameter xb_De_lacksParameter 2 (some .boolean) :: vTB) xrm_De_lacksParameter).room s m ([.ref (ad 19 r)] : List Value).toArray below meth c H locs 0 0 (MQ below (fw_Qb D vcls xCL cA xkd ad v0 (xf_De_lacksParameter v0 r)) ([.ref (ad 19 r)] : List Value).toArray s 0 0 (fw_A xCL ad)) (F0 m 43 ls []) := by
    intro  H locs ls hj  hI hP hS hl
    clear J7 J6 J5 J4
    refine lv_iinc (v := (1 : Int32)) (lv' := [(1, .int (1 : Int32)), (0, .ref (ad 19 r))]) hx hb xd_De_lacksParameter_43 hl (k := 1) rfl (by decide) (by decide) rfl (fun ls hl => ?_)
    refine lv_goto (tgt := 2) hx hb xd_De_lacksParameter_46 (by decide) ?_
    exact J3  _ _ _ (by rw [hj]; simp only [xf_De_lacksParameter_j2])   hI hP hS (lv_sub hl [1, 0] rfl)
  have J1 : ∀  (H : Heap) (locs : List Loc) (ls : Array Slot), xf_De_lacksParameter v0 r = xf_De_lacksParameter_j1 v0 r → xI b v0 → va_P D vcls (fw_w xCL cA xkd ad v0) H → va_S (fw_A xCL ad) s.heap H locs → lv_has ls 2 [(0, .ref (ad 19 r)), (1, .int (0 : Int32))] → W p l e (headSpec (Cond.code xy_De_lacksParameter xb_De_lacksParameter 2 (some .boolean) :: vTB) xrm_De_lacksParameter).room s m ([.ref (ad 19 r)] : List Value).toArray below meth c H locs 0 0 (MQ below (fw_Qb D vcls xCL cA xkd ad v0 (xf_De_lacksParameter v0 r)) ([.ref (ad 19 r)] : List Value).toArray s 0 0 (fw_A xCL ad)) (F0 m 2 ls []) := by
    intro  H locs ls hj  hI hP hS hl
    clear J7 J6 J5 J4 J3
    refine lv_iload_n hx hb xd_De_lacksParameter_2 rfl (lv_at hl 1 rfl) ?_
    refine lv_iconst (v := (3 : Int32)) hx hb xd_De_lacksParameter_3 (by decide) ?_
    refine lv_icmp_ge (tgt := 49) hx hb xd_De_lacksParameter_4 (by decide) (fun c_1 => absurd c_1 (by decide)) (fun _ => ?_)
    refine lv_aload_n hx hb xd_De_lacksParameter_7 rfl (lv_at hl 0 rfl) ?_
    refine lv_iload_n hx hb xd_De_lacksParameter_8 rfl (lv_at hl 1 rfl) ?_
    refine fw_cb (va_runV (As := [.int (0 : Int32)]) (rest := []) ⟨hx, hb, hml, hown, hts⟩ (xc_De_isGood l hD v0 hI (r) (by omega) (0 : Int32) (fw_inc (by decide))) (xw_De_isGood hts L_De_164 ⟨Nat.le_of_ble_eq_true rfl, Nat.le_of_ble_eq_true rfl⟩) (fw_preV hN hK hP (xm_19 (by omega)) (xk_19 r) rfl) rfl rfl hl.1 rfl (lv_room (Nat.le_of_ble_eq_true rfl)) xd_De_lacksParameter_9 ⟨Nat.le_of_ble_eq_true rfl, Nat.le_of_ble_eq_true rfl⟩) hS (fun r2 H locs zr2 er2 hP hS => ?_)
    refine lv_if_eq (tgt := 43) hx hb xd_De_lacksParameter_12 (by decide) (fun c_3 => ?_) (fun c_3 => ?_)
    · exact J2  _ _ _ (by rw [hj]; subst er2; simp only [xf_De_lacksParameter_j1, if_pos c_3])   hI hP hS (lv_sub hl [0, 1] rfl)
    · refine lv_aload_n hx hb xd_De_lacksParameter_15 rfl (lv_at hl 0 rfl) ?_
      refine fw_getr hx hb hts i_De hown hK hP (xm_19 (by omega)) (xk_19 r) rfl 1 (by decide) (hts _ L_De_48) (fun _ h9 => h9) rfl xd_De_lacksParameter_16 ?_
      refine lv_aload_n hx hb xd_De_lacksParameter_19 rfl (lv_at hl 0 rfl) ?_
      refine fw_getr hx hb hts i_De hown hK hP (xm_19 (by omega)) (xk_19 r) rfl 13 (by decide) (hts _ L_De_39) (fun _ h9 => h9) rfl xd_De_lacksParameter_20 ?_
      refine lv_iload_n hx hb xd_De_lacksParameter_23 rfl (lv_at hl 1 rfl) ?_
      refine fw_iald hx hb hK hP (xm_26 (by omega)) (xk_26 r) 0 rfl (j := 0) (by decide) (fw_inc (by decide)) xd_De_lacksParameter_24 ?_
      refine fw_cb (va_runV (As := [.int (v0 26 r 0)]) (rest := []) ⟨hx, hb, hml, hown, hts⟩ (xc_KT_needsParameter l hD v0 hI (v0 26 r 0)) (xw_KT_needsParameter hts L_De_167 ⟨Nat.le_of_ble_eq_true rfl, Nat.le_of_ble_eq_true rfl⟩) (fw_preV hN hK hP (xm_1 (by decide)) (xk_1 0) rfl) rfl rfl hl.1 rfl (lv_room (Nat.le_of_ble_eq_true rfl)) xd_De_lacksParameter_25 ⟨Nat.le_of_ble_eq_true rfl, Nat.le_of_ble_eq_true rfl⟩) hS (fun r17 H locs zr17 er17 hP hS => ?_)
      refine lv_if_eq (tgt := 43) hx hb xd_De_lacksParameter_28 (by decide) (fun c_18 => ?_) (fun c_18 => ?_)
      · exact J2  _ _ _ (by rw [hj]; subst er2 er17; simp only [xf_De_lacksParameter_j1, if_neg c_3, if_pos c_18])   hI hP hS (lv_sub hl [0, 1] rfl)
      · refine lv_aload_n hx hb xd_De_lacksParameter_31 rfl (lv_at hl 0 rfl) ?_
        refine fw_getr hx hb hts i_De hown hK hP (xm_19 (by omega)) (xk_19 r) rfl 14 (by decide) (hts _ L_De_42) (fun _ h9 => h9) rfl xd_De_lacksParameter_32 ?_
        refine lv_iload_n hx hb xd_De_lacksParameter_35 rfl (lv_at hl 1 rfl) ?_
        refine fw_iald hx hb hK hP (xm_27 (by omega)) (xk_27 r) 0 rfl (j := 0) (by decide) (fw_inc (by decide)) xd_De_lacksParameter_36 ?_
        refine lv_iconst (v := (-1 : Int32)) hx hb xd_De_lacksParameter_37 (by decide) ?_
        refine lv_icmp_ne (tgt := 43) hx hb xd_De_lacksParameter_38 (by decide) (fun c_19 => ?_) (fun c_19 => ?_)
        · exact J2  _ _ _ (by rw [hj]; subst er2 er17; simp only [xf_De_lacksParameter_j1, if_neg c_3, if_neg c_18, if_neg c_19])   hI hP hS (lv_sub hl [0, 1] rfl)
        · refine lv_iconst (v := (1 : Int32)) hx hb xd_De_lacksParameter_41 (by decide) ?_
          exact fw_bret hx hb hr hlocks hS hP xd_De_lacksParameter_42 (by decide) (by rw [hj]; subst er2 er17; simp only [xf_De_lacksParameter_j1, if_neg c_3, if_neg c_18, if_pos c_19])
  clear J7 J6 J5 J4 J3 J2
  have hl := lv_entry ([.ref (ad 19 r)]) (n := 2) (Nat.le_of_ble_eq_true rfl)
  rw [lg_entry_eq]
  generalize (lg_sl ([.ref (ad 19 r)]) ++ List.replicate (2 - (lg_sl ([.ref (ad 19 r)])).length) Slot.unset).toArray = ls at hl ⊢
  have hl : lv_has ls 2 [(0, .ref (ad 19 r))] := hl
  refine lv_iconst (v := (0 : Int32)) hx hb xd_De_lacksParameter_0 (by decide) ?_
  refine lv_istore_n (lv' := [(1, .int (0 : Int32)), (0, .ref (ad 19 r))]) hx hb xd_De_lacksParameter_1 rfl hl (by decide) rfl (fun ls hl => ?_)
  exact J1  _ _ _ (by simp only [xf_De_lacksParameter])   hI hP hS (lv_sub hl [1, 0] rfl)
def xf_AQ_clear (v0 : fw_V) (r : Nat) : fw_V :=
  let v1 := fw_up v0 20 r 2 (0 : Int32)
  let v2 := fw_up v1 20 r 3 (0 : Int32)
  let v3 := fw_up v2 20 r 4 (0 : Int32)
  v3

set_option maxHeartbeats 4000000 in
set_option maxRecDepth 100000 in
theorem xc_AQ_clear (l : Launch) {D : va_G} {cA : Nat → ClassId} {ad : Nat → Nat → Nat} (hD : fw_D xCL ad) {b : Nat} (v0 : fw_V) (hI : xI b v0) (r : Nat) (hr0 : r < 2)  : Met l xy_AQ_clear (Cond.code xy_AQ_clear xb_AQ_clear 1 none :: vTB) xrm_AQ_clear (fw_Pc vNL D vcls (vtys cA) xCL cA xkd ad v0 [.ref (ad 20 r)]) (fw_Qv D vcls xCL cA xkd ad (xI b) (xf_AQ_clear v0 r)) 0 0 (fw_A xCL ad) := by
  refine Met.ofW (cc := xb_AQ_clear) (maxL := 1) (ret := none) (by decide) rfl ?_
  intro p e s m args below meth c s₁ B hml hv
  obtain ⟨rfl, hP, hK, hN⟩ := hv
  have hx := B.exec
  have hb := B.bytes
  have hr := B.returns
  have hts : ∀ w ∈ vTB, w.before ([.ref (ad 20 r)] : List Value).toArray s = true := fun w h => atoms_spec (ws := (Cond.code xy_AQ_clear xb_AQ_clear 1 none :: vTB)) B.pre w (List.mem_cons_of_mem _ h)
  have hown : s.vm.findClass R_AQ = some m.cls := findClass_of_methodNamed B.named
  have hlocks := B.notSynchronized
  have hS : va_S (fw_A xCL ad) s.heap s.heap [] := va_S.rf
  skip
  have hl := lv_entry ([.ref (ad 20 r)]) (n := 1) (Nat.le_of_ble_eq_true rfl)
  rw [lg_entry_eq]
  generalize (lg_sl ([.ref (ad 20 r)]) ++ List.replicate (1 - (lg_sl ([.ref (ad 20 r)])).length) Slot.unset).toArray = ls at hl ⊢
  have hl : lv_has ls 1 [(0, .ref (ad 20 r))] := hl
  refine lv_aload_n hx hb xd_AQ_clear_0 rfl (lv_at hl 0 rfl) ?_
  refine lv_iconst (v := (0 : Int32)) hx hb xd_AQ_clear_1 (by decide) ?_
  refine fw_puti hx hb hts i_AQ t_AQ t_AQ_ok n_AQ hown hK hD hP hS (xm_20 (by omega)) (xk_20 r) rfl 2 (by decide) (hts _ L_AQ_16) (fun _ h9 => h9) rfl fw_pdI rfl rfl rfl xd_AQ_clear_2 (fun v1 H locs ev1 hP hS => ?_)
  refine lv_aload_n hx hb xd_AQ_clear_5 rfl (lv_at hl 0 rfl) ?_
  refine lv_iconst (v := (0 : Int32)) hx hb xd_AQ_clear_6 (by decide) ?_
  refine fw_puti hx hb hts i_AQ t_AQ t_AQ_ok n_AQ hown hK hD hP hS (xm_20 (by omega)) (xk_20 r) rfl 3 (by decide) (hts _ L_AQ_20) (fun _ h9 => h9) rfl fw_pdI rfl rfl rfl xd_AQ_clear_7 (fun v2 H locs ev2 hP hS => ?_)
  have hI : xI b v2 := by rw [ev2, ev1]; exact xI_clear hI
  refine lv_aload_n hx hb xd_AQ_clear_10 rfl (lv_at hl 0 rfl) ?_
  refine lv_iconst (v := (0 : Int32)) hx hb xd_AQ_clear_11 (by decide) ?_
  refine fw_puti hx hb hts i_AQ t_AQ t_AQ_ok n_AQ hown hK hD hP hS (xm_20 (by omega)) (xk_20 r) rfl 4 (by decide) (hts _ L_AQ_23) (fun _ h9 => h9) rfl fw_pdI rfl rfl rfl xd_AQ_clear_12 (fun v3 H locs ev3 hP hS => ?_)
  have hI : xI b v3 := by rw [ev3]; exact xI_up hI trivial trivial
  exact fw_vret hx hb hr hlocks hS hP hI xd_AQ_clear_15 (by subst ev1 ev2 ev3; simp only [xf_AQ_clear])
def xf_De_becomeIdle_j1 (v : fw_V) (r : Nat)  : fw_V :=
  let v2 := fw_up v 19 r 11 (0 : Int32)
  let v3 := fw_up v2 19 r 12 (0 : Int32)
  let v4 := fw_up v3 19 r 16 (0 : Int32)
  let v5 := fw_up v4 19 r 15 (0 : Int32)
  let v6 := xf_AQ_clear v5 (r)
  let v7 := fw_row v6 27 r (fun _ => (-1 : Int32))
  v7
def xf_De_becomeIdle_j5 (v : fw_V) (r : Nat)  : fw_V :=
  xf_De_becomeIdle_j1 v r
def xf_De_becomeIdle_j4 (v : fw_V) (r : Nat)  : fw_V :=
  let v13 := xf_De_showFallback v (r) (2 : Int32)
  xf_De_becomeIdle_j5 v13 r
def xf_De_becomeIdle_j3 (v : fw_V) (r : Nat)  : fw_V :=
  let v11 := xf_De_showFallback v (r) (1 : Int32)
  xf_De_becomeIdle_j4 v11 r
def xf_De_becomeIdle_j2 (v : fw_V) (r : Nat)  : fw_V :=
  let v9 := xf_De_showFallback v (r) (0 : Int32)
  xf_De_becomeIdle_j3 v9 r
def xf_De_becomeIdle (v0 : fw_V) (r : Nat) : fw_V :=
  if (v0 19 r 11) = (3 : Int32) then
    xf_De_becomeIdle_j2 v0 r
  else
    xf_De_becomeIdle_j1 v0 r

set_option maxHeartbeats 4000000 in
set_option maxRecDepth 100000 in
theorem xc_De_becomeIdle (l : Launch) {D : va_G} {cA : Nat → ClassId} {ad : Nat → Nat → Nat} (hD : fw_D xCL ad) {b : Nat} (v0 : fw_V) (hI : xI b v0) (r : Nat) (hr0 : r < 2)  : Met l xy_De_becomeIdle (Cond.code xy_De_becomeIdle xb_De_becomeIdle 2 none :: vTB) xrm_De_becomeIdle (fw_Pc vNL D vcls (vtys cA) xCL cA xkd ad v0 [.ref (ad 19 r)]) (fw_Qv D vcls xCL cA xkd ad (xI b) (xf_De_becomeIdle v0 r)) 0 0 (fw_A xCL ad) := by
  refine Met.ofW (cc := xb_De_becomeIdle) (maxL := 2) (ret := none) (by decide) rfl ?_
  intro p e s m args below meth c s₁ B hml hv
  obtain ⟨rfl, hP, hK, hN⟩ := hv
  have hx := B.exec
  have hb := B.bytes
  have hr := B.returns
  have hts : ∀ w ∈ vTB, w.before ([.ref (ad 19 r)] : List Value).toArray s = true := fun w h => atoms_spec (ws := (Cond.code xy_De_becomeIdle xb_De_becomeIdle 2 none :: vTB)) B.pre w (List.mem_cons_of_mem _ h)
  have hown : s.vm.findClass R_De = some m.cls := findClass_of_methodNamed B.named
  have hlocks := B.notSynchronized
  have hS : va_S (fw_A xCL ad) s.heap s.heap [] := va_S.rf
  have J1 : ∀ (v : fw_V)  (H : Heap) (locs : List Loc) (ls : Array Slot), xf_De_becomeIdle v0 r = xf_De_becomeIdle_j1 v r → xI b v → va_P D vcls (fw_w xCL cA xkd ad v) H → va_S (fw_A xCL ad) s.heap H locs → lv_has ls 2 [(0, .ref (ad 19 r))] → W p l e (headSpec (Cond.code xy_De_becomeIdle xb_De_becomeIdle 2 none :: vTB) xrm_De_becomeIdle).room s m ([.ref (ad 19 r)] : List Value).toArray below meth c H locs 0 0 (MQ below (fw_Qv D vcls xCL cA xkd ad (xI b) (xf_De_becomeIdle v0 r)) ([.ref (ad 19 r)] : List Value).toArray s 0 0 (fw_A xCL ad)) (F0 m 26 ls []) := by
    intro v  H locs ls hj  hI hP hS hl
    refine lv_aload_n hx hb xd_De_becomeIdle_26 rfl (lv_at hl 0 rfl) ?_
    refine lv_iconst (v := (0 : Int32)) hx hb xd_De_becomeIdle_27 (by decide) ?_
    refine fw_puti hx hb hts i_De t_De t_De_ok n_De hown hK hD hP hS (xm_19 (by omega)) (xk_19 r) rfl 11 (by decide) (hts _ L_De_62) (fun _ h9 => h9) rfl fw_pdI rfl rfl rfl xd_De_becomeIdle_28 (fun v2 H locs ev2 hP hS => ?_)
    have hI : xI b v2 := by rw [ev2]; exact xI_up hI trivial trivial
    refine lv_aload_n hx hb xd_De_becomeIdle_31 rfl (lv_at hl 0 rfl) ?_
    refine lv_iconst (v := (0 : Int32)) hx hb xd_De_becomeIdle_32 (by decide) ?_
    refine fw_puti hx hb hts i_De t_De t_De_ok n_De hown hK hD hP hS (xm_19 (by omega)) (xk_19 r) rfl 12 (by decide) (hts _ L_De_101) (fun _ h9 => h9) rfl fw_pdI rfl rfl rfl xd_De_becomeIdle_33 (fun v3 H locs ev3 hP hS => ?_)
    have hI : xI b v3 := by rw [ev3]; exact xI_up hI trivial trivial
    refine lv_aload_n hx hb xd_De_becomeIdle_36 rfl (lv_at hl 0 rfl) ?_
    refine lv_iconst (v := (0 : Int32)) hx hb xd_De_becomeIdle_37 (by decide) ?_
    refine fw_puti hx hb hts i_De t_De t_De_ok n_De hown hK hD hP hS (xm_19 (by omega)) (xk_19 r) rfl 16 (by decide) (hts _ L_De_120) (fun _ h9 => h9) rfl fw_pdI rfl rfl rfl xd_De_becomeIdle_38 (fun v4 H locs ev4 hP hS => ?_)
    have hI : xI b v4 := by rw [ev4]; exact xI_up hI trivial trivial
    refine lv_aload_n hx hb xd_De_becomeIdle_41 rfl (lv_at hl 0 rfl) ?_
    refine lv_iconst (v := (0 : Int32)) hx hb xd_De_becomeIdle_42 (by decide) ?_
    refine fw_puti hx hb hts i_De t_De t_De_ok n_De hown hK hD hP hS (xm_19 (by omega)) (xk_19 r) rfl 15 (by decide) (hts _ L_De_72) (fun _ h9 => h9) rfl fw_pdI rfl rfl rfl xd_De_becomeIdle_43 (fun v5 H locs ev5 hP hS => ?_)
    have hI : xI b v5 := by rw [ev5]; exact xI_up hI trivial trivial
    refine lv_aload_n hx hb xd_De_becomeIdle_46 rfl (lv_at hl 0 rfl) ?_
    refine fw_getr hx hb hts i_De hown hK hP (xm_19 (by omega)) (xk_19 r) rfl 4 (by decide) (hts _ L_De_21) (fun _ h9 => h9) rfl xd_De_becomeIdle_47 ?_
    refine fw_cv (va_runV (As := []) (rest := []) ⟨hx, hb, hml, hown, hts⟩ (xc_AQ_clear l hD v5 hI (r) (by omega)) (xw_AQ_clear hts L_De_222 ⟨Nat.le_of_ble_eq_true rfl, Nat.le_of_ble_eq_true rfl⟩) (fw_preV hN hK hP (xm_20 (by omega)) (xk_20 r) rfl) rfl rfl hl.1 rfl (lv_room (Nat.le_of_ble_eq_true rfl)) xd_De_becomeIdle_50 ⟨Nat.le_of_ble_eq_true rfl, Nat.le_of_ble_eq_true rfl⟩) hS (fun v6 H locs ev6 hI hP hS => ?_)
    refine lv_aload_n hx hb xd_De_becomeIdle_53 rfl (lv_at hl 0 rfl) ?_
    refine fw_getr hx hb hts i_De hown hK hP (xm_19 (by omega)) (xk_19 r) rfl 14 (by decide) (hts _ L_De_42) (fun _ h9 => h9) rfl xd_De_becomeIdle_54 ?_
    refine lv_iconst (v := (-1 : Int32)) hx hb xd_De_becomeIdle_57 (by decide) ?_
    refine fw_cv (va_runS (As := [.ref (ad 27 r), .int (-1 : Int32)]) (rest := []) ⟨hx, hb, hml, hown, hts⟩ (xc_fill l hD v6 hI (xm_27 (by omega)) (xk_27 r) (by decide) (-1 : Int32) (fun _ => trivial)) (xw_fill hts L_De_56 ⟨Nat.le_of_ble_eq_true rfl, Nat.le_of_ble_eq_true rfl⟩) (fw_preS hN hK hP) rfl rfl hl.1 rfl (lv_room (Nat.le_of_ble_eq_true rfl)) xd_De_becomeIdle_58 ⟨Nat.le_of_ble_eq_true rfl, Nat.le_of_ble_eq_true rfl⟩) hS (fun v7 H locs ev7 hI hP hS => ?_)
    exact fw_vret hx hb hr hlocks hS hP hI xd_De_becomeIdle_61 (by rw [hj]; subst ev2 ev3 ev4 ev5 ev6 ev7; simp only [xf_De_becomeIdle_j1])
  have J5 : ∀ (v : fw_V)  (H : Heap) (locs : List Loc) (ls : Array Slot), xf_De_becomeIdle v0 r = xf_De_becomeIdle_j5 v r → xI b v → va_P D vcls (fw_w xCL cA xkd ad v) H → va_S (fw_A xCL ad) s.heap H locs → lv_has ls 2 [(0, .ref (ad 19 r)), (1, .int (3 : Int32))] → W p l e (headSpec (Cond.code xy_De_becomeIdle xb_De_becomeIdle 2 none :: vTB) xrm_De_becomeIdle).room s m ([.ref (ad 19 r)] : List Value).toArray below meth c H locs 0 0 (MQ below (fw_Qv D vcls xCL cA xkd ad (xI b) (xf_De_becomeIdle v0 r)) ([.ref (ad 19 r)] : List Value).toArray s 0 0 (fw_A xCL ad)) (F0 m 10 ls []) := by
    intro v  H locs ls hj  hI hP hS hl
    refine lv_iload_n hx hb xd_De_becomeIdle_10 rfl (lv_at hl 1 rfl) ?_
    refine lv_iconst (v := (3 : Int32)) hx hb xd_De_becomeIdle_11 (by decide) ?_
    refine lv_icmp_ge (tgt := 26) hx hb xd_De_becomeIdle_12 (by decide) (fun _ => ?_) (fun c_14 => absurd (by decide) c_14)
    exact J1 v  _ _ _ (by rw [hj]; simp only [xf_De_becomeIdle_j5])   hI hP hS (lv_sub hl [0] rfl)
  have J4 : ∀ (v : fw_V)  (H : Heap) (locs : List Loc) (ls : Array Slot), xf_De_becomeIdle v0 r = xf_De_becomeIdle_j4 v r → xI b v → va_P D vcls (fw_w xCL cA xkd ad v) H → va_S (fw_A xCL ad) s.heap H locs → lv_has ls 2 [(0, .ref (ad 19 r)), (1, .int (2 : Int32))] → W p l e (headSpec (Cond.code xy_De_becomeIdle xb_De_becomeIdle 2 none :: vTB) xrm_De_becomeIdle).room s m ([.ref (ad 19 r)] : List Value).toArray below meth c H locs 0 0 (MQ below (fw_Qv D vcls xCL cA xkd ad (xI b) (xf_De_becomeIdle v0 r)) ([.ref (ad 19 r)] : List Value).toArray s 0 0 (fw_A xCL ad)) (F0 m 10 ls []) := by
    intro v  H locs ls hj  hI hP hS hl
    clear J1
    refine lv_iload_n hx hb xd_De_becomeIdle_10 rfl (lv_at hl 1 rfl) ?_
    refine lv_iconst (v := (3 : Int32)) hx hb xd_De_becomeIdle_11 (by decide) ?_
    refine lv_icmp_ge (tgt := 26) hx hb xd_De_becomeIdle_12 (by decide) (fun c_12 => absurd c_12 (by decide)) (fun _ => ?_)
    refine lv_aload_n hx hb xd_De_becomeIdle_15 rfl (lv_at hl 0 rfl) ?_
    refine lv_iload_n hx hb xd_De_becomeIdle_16 rfl (lv_at hl 1 rfl) ?_
    refine fw_cv (va_runV (As := [.int (2 : Int32)]) (rest := []) ⟨hx, hb, hml, hown, hts⟩ (xc_De_showFallback l hD v hI (r) (by omega) (2 : Int32) (fw_inc (by decide))) (xw_De_showFallback hts L_De_68 ⟨Nat.le_of_ble_eq_true rfl, Nat.le_of_ble_eq_true rfl⟩) (fw_preV hN hK hP (xm_19 (by omega)) (xk_19 r) rfl) rfl rfl hl.1 rfl (lv_room (Nat.le_of_ble_eq_true rfl)) xd_De_becomeIdle_17 ⟨Nat.le_of_ble_eq_true rfl, Nat.le_of_ble_eq_true rfl⟩) hS (fun v13 H locs ev13 hI hP hS => ?_)
    refine lv_iinc (v := (3 : Int32)) (lv' := [(1, .int (3 : Int32)), (0, .ref (ad 19 r))]) hx hb xd_De_becomeIdle_20 hl (k := 1) rfl (by decide) (by decide) rfl (fun ls hl => ?_)
    refine lv_goto (tgt := 10) hx hb xd_De_becomeIdle_23 (by decide) ?_
    exact J5 v13  _ _ _ (by rw [hj]; subst ev13; simp only [xf_De_becomeIdle_j4])   hI hP hS (lv_sub hl [1, 0] rfl)
  have J3 : ∀ (v : fw_V)  (H : Heap) (locs : List Loc) (ls : Array Slot), xf_De_becomeIdle v0 r = xf_De_becomeIdle_j3 v r → xI b v → va_P D vcls (fw_w xCL cA xkd ad v) H → va_S (fw_A xCL ad) s.heap H locs → lv_has ls 2 [(0, .ref (ad 19 r)), (1, .int (1 : Int32))] → W p l e (headSpec (Cond.code xy_De_becomeIdle xb_De_becomeIdle 2 none :: vTB) xrm_De_becomeIdle).room s m ([.ref (ad 19 r)] : List Value).toArray below meth c H locs 0 0 (MQ below (fw_Qv D vcls xCL cA xkd ad (xI b) (xf_De_becomeIdle v0 r)) ([.ref (ad 19 r)] : List Value).toArray s 0 0 (fw_A xCL ad)) (F0 m 10 ls []) := by
    intro v  H locs ls hj  hI hP hS hl
    clear J1 J5
    refine lv_iload_n hx hb xd_De_becomeIdle_10 rfl (lv_at hl 1 rfl) ?_
    refine lv_iconst (v := (3 : Int32)) hx hb xd_De_becomeIdle_11 (by decide) ?_
    refine lv_icmp_ge (tgt := 26) hx hb xd_De_becomeIdle_12 (by decide) (fun c_10 => absurd c_10 (by decide)) (fun _ => ?_)
    refine lv_aload_n hx hb xd_De_becomeIdle_15 rfl (lv_at hl 0 rfl) ?_
    refine lv_iload_n hx hb xd_De_becomeIdle_16 rfl (lv_at hl 1 rfl) ?_
    refine fw_cv (va_runV (As := [.int (1 : Int32)]) (rest := []) ⟨hx, hb, hml, hown, hts⟩ (xc_De_showFallback l hD v hI (r) (by omega) (1 : Int32) (fw_inc (by decide))) (xw_De_showFallback hts L_De_68 ⟨Nat.le_of_ble_eq_true rfl, Nat.le_of_ble_eq_true rfl⟩) (fw_preV hN hK hP (xm_19 (by omega)) (xk_19 r) rfl) rfl rfl hl.1 rfl (lv_room (Nat.le_of_ble_eq_true rfl)) xd_De_becomeIdle_17 ⟨Nat.le_of_ble_eq_true rfl, Nat.le_of_ble_eq_true rfl⟩) hS (fun v11 H locs ev11 hI hP hS => ?_)
    refine lv_iinc (v := (2 : Int32)) (lv' := [(1, .int (2 : Int32)), (0, .ref (ad 19 r))]) hx hb xd_De_becomeIdle_20 hl (k := 1) rfl (by decide) (by decide) rfl (fun ls hl => ?_)
    refine lv_goto (tgt := 10) hx hb xd_De_becomeIdle_23 (by decide) ?_
    exact J4 v11  _ _ _ (by rw [hj]; subst ev11; simp only [xf_De_becomeIdle_j3])   hI hP hS (lv_sub hl [1, 0] rfl)
  have J2 : ∀ (v : fw_V)  (H : Heap) (locs : List Loc) (ls : Array Slot), xf_De_becomeIdle v0 r = xf_De_becomeIdle_j2 v r → xI b v → va_P D vcls (fw_w xCL cA xkd ad v) H → va_S (fw_A xCL ad) s.heap H locs → lv_has ls 2 [(0, .ref (ad 19 r)), (1, .int (0 : Int32))] → W p l e (headSpec (Cond.code xy_De_becomeIdle xb_De_becomeIdle 2 none :: vTB) xrm_De_becomeIdle).room s m ([.ref (ad 19 r)] : List Value).toArray below meth c H locs 0 0 (MQ below (fw_Qv D vcls xCL cA xkd ad (xI b) (xf_De_becomeIdle v0 r)) ([.ref (ad 19 r)] : List Value).toArray s 0 0 (fw_A xCL ad)) (F0 m 10 ls []) := by
    intro v  H locs ls hj  hI hP hS hl
    clear J1 J5 J4
    refine lv_iload_n hx hb xd_De_becomeIdle_10 rfl (lv_at hl 1 rfl) ?_
    refine lv_iconst (v := (3 : Int32)) hx hb xd_De_becomeIdle_11 (by decide) ?_
    refine lv_icmp_ge (tgt := 26) hx hb xd_De_becomeIdle_12 (by decide) (fun c_8 => absurd c_8 (by decide)) (fun _ => ?_)
    refine lv_aload_n hx hb xd_De_becomeIdle_15 rfl (lv_at hl 0 rfl) ?_
    refine lv_iload_n hx hb xd_De_becomeIdle_16 rfl (lv_at hl 1 rfl) ?_
    refine fw_cv (va_runV (As := [.int (0 : Int32)]) (rest := []) ⟨hx, hb, hml, hown, hts⟩ (xc_De_showFallback l hD v hI (r) (by omega) (0 : Int32) (fw_inc (by decide))) (xw_De_showFallback hts L_De_68 ⟨Nat.le_of_ble_eq_true rfl, Nat.le_of_ble_eq_true rfl⟩) (fw_preV hN hK hP (xm_19 (by omega)) (xk_19 r) rfl) rfl rfl hl.1 rfl (lv_room (Nat.le_of_ble_eq_true rfl)) xd_De_becomeIdle_17 ⟨Nat.le_of_ble_eq_true rfl, Nat.le_of_ble_eq_true rfl⟩) hS (fun v9 H locs ev9 hI hP hS => ?_)
    refine lv_iinc (v := (1 : Int32)) (lv' := [(1, .int (1 : Int32)), (0, .ref (ad 19 r))]) hx hb xd_De_becomeIdle_20 hl (k := 1) rfl (by decide) (by decide) rfl (fun ls hl => ?_)
    refine lv_goto (tgt := 10) hx hb xd_De_becomeIdle_23 (by decide) ?_
    exact J3 v9  _ _ _ (by rw [hj]; subst ev9; simp only [xf_De_becomeIdle_j2])   hI hP hS (lv_sub hl [1, 0] rfl)
  clear J5 J4 J3
  have hl := lv_entry ([.ref (ad 19 r)]) (n := 2) (Nat.le_of_ble_eq_true rfl)
  rw [lg_entry_eq]
  generalize (lg_sl ([.ref (ad 19 r)]) ++ List.replicate (2 - (lg_sl ([.ref (ad 19 r)])).length) Slot.unset).toArray = ls at hl ⊢
  have hl : lv_has ls 2 [(0, .ref (ad 19 r))] := hl
  refine lv_aload_n hx hb xd_De_becomeIdle_0 rfl (lv_at hl 0 rfl) ?_
  refine fw_geti hx hb hts i_De hown hK hP (xm_19 (by omega)) (xk_19 r) rfl 11 (by decide) (hts _ L_De_62) (fun _ h9 => h9) rfl xd_De_becomeIdle_1 ?_
  refine lv_iconst (v := (3 : Int32)) hx hb xd_De_becomeIdle_4 (by decide) ?_
  refine lv_icmp_ne (tgt := 26) hx hb xd_De_becomeIdle_5 (by decide) (fun c_1 => ?_) (fun c_1 => ?_)
  · exact J1 v0  _ _ _ (by simp only [xf_De_becomeIdle, if_neg c_1])   hI hP hS (lv_sub hl [0] rfl)
  · refine lv_iconst (v := (0 : Int32)) hx hb xd_De_becomeIdle_8 (by decide) ?_
    refine lv_istore_n (lv' := [(1, .int (0 : Int32)), (0, .ref (ad 19 r))]) hx hb xd_De_becomeIdle_9 rfl hl (by decide) rfl (fun ls hl => ?_)
    exact J2 v0  _ _ _ (by simp only [xf_De_becomeIdle, if_pos c_1])   hI hP hS (lv_sub hl [1, 0] rfl)
def xf_De_abort (v0 : fw_V) (r : Nat) : fw_V :=
  let p3 := xf_Wi_send v0 (16 : Int32) (v0 19 r 12) (0 : Int32) (2 : Int32)
  let y1 := p3.1
  let v2 := p3.2
  let v4 := xf_De_becomeIdle v2 (r)
  v4

set_option maxHeartbeats 4000000 in
set_option maxRecDepth 100000 in
theorem xc_De_abort (l : Launch) {D : va_G} {cA : Nat → ClassId} {ad : Nat → Nat → Nat} (hD : fw_D xCL ad) {b : Nat} (v0 : fw_V) (hI : xI b v0) (r : Nat) (hr0 : r < 2)  : Met l xy_De_abort (Cond.code xy_De_abort xb_De_abort 1 none :: vTB) xrm_De_abort (fw_Pc vNL D vcls (vtys cA) xCL cA xkd ad v0 [.ref (ad 19 r)]) (fw_Qv D vcls xCL cA xkd ad (xI b) (xf_De_abort v0 r)) 0 0 (fw_A xCL ad) := by
  refine Met.ofW (cc := xb_De_abort) (maxL := 1) (ret := none) (by decide) rfl ?_
  intro p e s m args below meth c s₁ B hml hv
  obtain ⟨rfl, hP, hK, hN⟩ := hv
  have hx := B.exec
  have hb := B.bytes
  have hr := B.returns
  have hts : ∀ w ∈ vTB, w.before ([.ref (ad 19 r)] : List Value).toArray s = true := fun w h => atoms_spec (ws := (Cond.code xy_De_abort xb_De_abort 1 none :: vTB)) B.pre w (List.mem_cons_of_mem _ h)
  have hown : s.vm.findClass R_De = some m.cls := findClass_of_methodNamed B.named
  have hlocks := B.notSynchronized
  have hS : va_S (fw_A xCL ad) s.heap s.heap [] := va_S.rf
  skip
  have hl := lv_entry ([.ref (ad 19 r)]) (n := 1) (Nat.le_of_ble_eq_true rfl)
  rw [lg_entry_eq]
  generalize (lg_sl ([.ref (ad 19 r)]) ++ List.replicate (1 - (lg_sl ([.ref (ad 19 r)])).length) Slot.unset).toArray = ls at hl ⊢
  have hl : lv_has ls 1 [(0, .ref (ad 19 r))] := hl
  refine lv_aload_n hx hb xd_De_abort_0 rfl (lv_at hl 0 rfl) ?_
  refine fw_getr hx hb hts i_De hown hK hP (xm_19 (by omega)) (xk_19 r) rfl 2 (by decide) (hts _ L_De_52) (fun _ h9 => h9) rfl xd_De_abort_1 ?_
  refine lv_bipush (v := (16 : Int32)) hx hb xd_De_abort_4 (by decide) ?_
  refine lv_aload_n hx hb xd_De_abort_6 rfl (lv_at hl 0 rfl) ?_
  refine fw_geti hx hb hts i_De hown hK hP (xm_19 (by omega)) (xk_19 r) rfl 12 (by decide) (hts _ L_De_101) (fun _ h9 => h9) rfl xd_De_abort_7 ?_
  refine lv_iconst (v := (0 : Int32)) hx hb xd_De_abort_10 (by decide) ?_
  refine lv_iconst (v := (2 : Int32)) hx hb xd_De_abort_11 (by decide) ?_
  refine fw_cr (va_runV (As := [.int (16 : Int32), .int (v0 19 r 12), .int (0 : Int32), .int (2 : Int32)]) (rest := []) ⟨hx, hb, hml, hown, hts⟩ (xc_Wi_send l hD v0 hI (16 : Int32) (v0 19 r 12) (0 : Int32) (2 : Int32)) (xw_Wi_send hts L_De_138 ⟨Nat.le_of_ble_eq_true rfl, Nat.le_of_ble_eq_true rfl⟩) (fw_preV hN hK hP (xm_5 (by decide)) (xk_5 0) rfl) rfl rfl hl.1 rfl (lv_room (Nat.le_of_ble_eq_true rfl)) xd_De_abort_12 ⟨Nat.le_of_ble_eq_true rfl, Nat.le_of_ble_eq_true rfl⟩) hS (fun y1 v2 H locs ly1 ey1 ev2 hI hP hS => ?_)
  refine lv_pop hx hb xd_De_abort_15 rfl ?_
  refine lv_aload_n hx hb xd_De_abort_16 rfl (lv_at hl 0 rfl) ?_
  refine fw_cv (va_runV (As := []) (rest := []) ⟨hx, hb, hml, hown, hts⟩ (xc_De_becomeIdle l hD v2 hI (r) (by omega)) (xw_De_becomeIdle hts L_De_117 ⟨Nat.le_of_ble_eq_true rfl, Nat.le_of_ble_eq_true rfl⟩) (fw_preV hN hK hP (xm_19 (by omega)) (xk_19 r) rfl) rfl rfl hl.1 rfl (lv_room (Nat.le_of_ble_eq_true rfl)) xd_De_abort_17 ⟨Nat.le_of_ble_eq_true rfl, Nat.le_of_ble_eq_true rfl⟩) hS (fun v4 H locs ev4 hI hP hS => ?_)
  exact fw_vret hx hb hr hlocks hS hP hI xd_De_abort_20 (by subst ey1 ev2 ev4; simp only [xf_De_abort])
def xf_De_answerEnd_j1 (v : fw_V) (r : Nat)  : fw_V :=
  if (v 19 r 11) = (1 : Int32) then
    let v7 := fw_up v 19 r 11 (2 : Int32)
    let v8 := fw_up v7 19 r 16 (0 : Int32)
    let v9 := fw_up v8 19 r 17 (0 : Int32)
    let p12 := xf_Wi_send v9 (9 : Int32) (v9 19 r 12) (0 : Int32) (2 : Int32)
    let y10 := p12.1
    let v11 := p12.2
    let p15 := xf_Wi_send v11 (10 : Int32) (v11 19 r 12) (0 : Int32) (2 : Int32)
    let y13 := p15.1
    let v14 := p15.2
    v14
  else
    if (v 19 r 11) = (2 : Int32) then
      let p6 := xf_Wi_send v (9 : Int32) (v 19 r 12) (0 : Int32) (2 : Int32)
      let y4 := p6.1
      let v5 := p6.2
      v5
    else
      v
def xf_De_answerEnd (v0 : fw_V) (r : Nat) : fw_V :=
  if (v0 19 r 11) = (1 : Int32) then
    let r16 := xf_De_lacksParameter v0 (r)
    if r16 = (0 : Int32) then
      xf_De_answerEnd_j1 v0 r
    else
      let v18 := xf_De_abort v0 (r)
      v18
  else
    xf_De_answerEnd_j1 v0 r

set_option maxHeartbeats 4000000 in
set_option maxRecDepth 100000 in
theorem xc_De_answerEnd (l : Launch) {D : va_G} {cA : Nat → ClassId} {ad : Nat → Nat → Nat} (hD : fw_D xCL ad) {b : Nat} (v0 : fw_V) (hI : xI b v0) (r : Nat) (hr0 : r < 2)  : Met l xy_De_answerEnd (Cond.code xy_De_answerEnd xb_De_answerEnd 1 none :: vTB) xrm_De_answerEnd (fw_Pc vNL D vcls (vtys cA) xCL cA xkd ad v0 [.ref (ad 19 r)]) (fw_Qv D vcls xCL cA xkd ad (xI b) (xf_De_answerEnd v0 r)) 0 0 (fw_A xCL ad) := by
  refine Met.ofW (cc := xb_De_answerEnd) (maxL := 1) (ret := none) (by decide) rfl ?_
  intro p e s m args below meth c s₁ B hml hv
  obtain ⟨rfl, hP, hK, hN⟩ := hv
  have hx := B.exec
  have hb := B.bytes
  have hr := B.returns
  have hts : ∀ w ∈ vTB, w.before ([.ref (ad 19 r)] : List Value).toArray s = true := fun w h => atoms_spec (ws := (Cond.code xy_De_answerEnd xb_De_answerEnd 1 none :: vTB)) B.pre w (List.mem_cons_of_mem _ h)
  have hown : s.vm.findClass R_De = some m.cls := findClass_of_methodNamed B.named
  have hlocks := B.notSynchronized
  have hS : va_S (fw_A xCL ad) s.heap s.heap [] := va_S.rf
  have J1 : ∀ (v : fw_V)  (H : Heap) (locs : List Loc) (ls : Array Slot), xf_De_answerEnd v0 r = xf_De_answerEnd_j1 v r → xI b v → va_P D vcls (fw_w xCL cA xkd ad v) H → va_S (fw_A xCL ad) s.heap H locs → lv_has ls 1 [(0, .ref (ad 19 r))] → W p l e (headSpec (Cond.code xy_De_answerEnd xb_De_answerEnd 1 none :: vTB) xrm_De_answerEnd).room s m ([.ref (ad 19 r)] : List Value).toArray below meth c H locs 0 0 (MQ below (fw_Qv D vcls xCL cA xkd ad (xI b) (xf_De_answerEnd v0 r)) ([.ref (ad 19 r)] : List Value).toArray s 0 0 (fw_A xCL ad)) (F0 m 22 ls []) := by
    intro v  H locs ls hj  hI hP hS hl
    refine lv_aload_n hx hb xd_De_answerEnd_22 rfl (lv_at hl 0 rfl) ?_
    refine fw_geti hx hb hts i_De hown hK hP (xm_19 (by omega)) (xk_19 r) rfl 11 (by decide) (hts _ L_De_62) (fun _ h9 => h9) rfl xd_De_answerEnd_23 ?_
    refine lv_iconst (v := (1 : Int32)) hx hb xd_De_answerEnd_26 (by decide) ?_
    refine lv_icmp_ne (tgt := 80) hx hb xd_De_answerEnd_27 (by decide) (fun c_2 => ?_) (fun c_2 => ?_)
    · refine lv_aload_n hx hb xd_De_answerEnd_80 rfl (lv_at hl 0 rfl) ?_
      refine fw_geti hx hb hts i_De hown hK hP (xm_19 (by omega)) (xk_19 r) rfl 11 (by decide) (hts _ L_De_62) (fun _ h9 => h9) rfl xd_De_answerEnd_81 ?_
      refine lv_iconst (v := (2 : Int32)) hx hb xd_De_answerEnd_84 (by decide) ?_
      refine lv_icmp_ne (tgt := 104) hx hb xd_De_answerEnd_85 (by decide) (fun c_3 => ?_) (fun c_3 => ?_)
      · exact fw_vret hx hb hr hlocks hS hP hI xd_De_answerEnd_104 (by rw [hj]; simp only [xf_De_answerEnd_j1, if_neg c_2, if_neg c_3])
      · refine lv_aload_n hx hb xd_De_answerEnd_88 rfl (lv_at hl 0 rfl) ?_
        refine fw_getr hx hb hts i_De hown hK hP (xm_19 (by omega)) (xk_19 r) rfl 2 (by decide) (hts _ L_De_52) (fun _ h9 => h9) rfl xd_De_answerEnd_89 ?_
        refine lv_bipush (v := (9 : Int32)) hx hb xd_De_answerEnd_92 (by decide) ?_
        refine lv_aload_n hx hb xd_De_answerEnd_94 rfl (lv_at hl 0 rfl) ?_
        refine fw_geti hx hb hts i_De hown hK hP (xm_19 (by omega)) (xk_19 r) rfl 12 (by decide) (hts _ L_De_101) (fun _ h9 => h9) rfl xd_De_answerEnd_95 ?_
        refine lv_iconst (v := (0 : Int32)) hx hb xd_De_answerEnd_98 (by decide) ?_
        refine lv_iconst (v := (2 : Int32)) hx hb xd_De_answerEnd_99 (by decide) ?_
        refine fw_cr (va_runV (As := [.int (9 : Int32), .int (v 19 r 12), .int (0 : Int32), .int (2 : Int32)]) (rest := []) ⟨hx, hb, hml, hown, hts⟩ (xc_Wi_send l hD v hI (9 : Int32) (v 19 r 12) (0 : Int32) (2 : Int32)) (xw_Wi_send hts L_De_138 ⟨Nat.le_of_ble_eq_true rfl, Nat.le_of_ble_eq_true rfl⟩) (fw_preV hN hK hP (xm_5 (by decide)) (xk_5 0) rfl) rfl rfl hl.1 rfl (lv_room (Nat.le_of_ble_eq_true rfl)) xd_De_answerEnd_100 ⟨Nat.le_of_ble_eq_true rfl, Nat.le_of_ble_eq_true rfl⟩) hS (fun y4 v5 H locs ly4 ey4 ev5 hI hP hS => ?_)
        refine lv_pop hx hb xd_De_answerEnd_103 rfl ?_
        exact fw_vret hx hb hr hlocks hS hP hI xd_De_answerEnd_104 (by rw [hj]; subst ey4 ev5; simp only [xf_De_answerEnd_j1, if_neg c_2, if_pos c_3])
    · refine lv_aload_n hx hb xd_De_answerEnd_30 rfl (lv_at hl 0 rfl) ?_
      refine lv_iconst (v := (2 : Int32)) hx hb xd_De_answerEnd_31 (by decide) ?_
      refine fw_puti hx hb hts i_De t_De t_De_ok n_De hown hK hD hP hS (xm_19 (by omega)) (xk_19 r) rfl 11 (by decide) (hts _ L_De_62) (fun _ h9 => h9) rfl fw_pdI rfl rfl rfl xd_De_answerEnd_32 (fun v7 H locs ev7 hP hS => ?_)
      have hI : xI b v7 := by rw [ev7]; exact xI_up hI trivial trivial
      refine lv_aload_n hx hb xd_De_answerEnd_35 rfl (lv_at hl 0 rfl) ?_
      refine lv_iconst (v := (0 : Int32)) hx hb xd_De_answerEnd_36 (by decide) ?_
      refine fw_puti hx hb hts i_De t_De t_De_ok n_De hown hK hD hP hS (xm_19 (by omega)) (xk_19 r) rfl 16 (by decide) (hts _ L_De_120) (fun _ h9 => h9) rfl fw_pdI rfl rfl rfl xd_De_answerEnd_37 (fun v8 H locs ev8 hP hS => ?_)
      have hI : xI b v8 := by rw [ev8]; exact xI_up hI trivial trivial
      refine lv_aload_n hx hb xd_De_answerEnd_40 rfl (lv_at hl 0 rfl) ?_
      refine lv_iconst (v := (0 : Int32)) hx hb xd_De_answerEnd_41 (by decide) ?_
      refine fw_puti hx hb hts i_De t_De t_De_ok n_De hown hK hD hP hS (xm_19 (by omega)) (xk_19 r) rfl 17 (by decide) (hts _ L_De_161) (fun _ h9 => h9) rfl fw_pdI rfl rfl rfl xd_De_answerEnd_42 (fun v9 H locs ev9 hP hS => ?_)
      have hI : xI b v9 := by rw [ev9]; exact xI_up hI trivial trivial
      refine lv_aload_n hx hb xd_De_answerEnd_45 rfl (lv_at hl 0 rfl) ?_
      refine fw_getr hx hb hts i_De hown hK hP (xm_19 (by omega)) (xk_19 r) rfl 2 (by decide) (hts _ L_De_52) (fun _ h9 => h9) rfl xd_De_answerEnd_46 ?_
      refine lv_bipush (v := (9 : Int32)) hx hb xd_De_answerEnd_49 (by decide) ?_
      refine lv_aload_n hx hb xd_De_answerEnd_51 rfl (lv_at hl 0 rfl) ?_
      refine fw_geti hx hb hts i_De hown hK hP (xm_19 (by omega)) (xk_19 r) rfl 12 (by decide) (hts _ L_De_101) (fun _ h9 => h9) rfl xd_De_answerEnd_52 ?_
      refine lv_iconst (v := (0 : Int32)) hx hb xd_De_answerEnd_55 (by decide) ?_
      refine lv_iconst (v := (2 : Int32)) hx hb xd_De_answerEnd_56 (by decide) ?_
      refine fw_cr (va_runV (As := [.int (9 : Int32), .int (v9 19 r 12), .int (0 : Int32), .int (2 : Int32)]) (rest := []) ⟨hx, hb, hml, hown, hts⟩ (xc_Wi_send l hD v9 hI (9 : Int32) (v9 19 r 12) (0 : Int32) (2 : Int32)) (xw_Wi_send hts L_De_138 ⟨Nat.le_of_ble_eq_true rfl, Nat.le_of_ble_eq_true rfl⟩) (fw_preV hN hK hP (xm_5 (by decide)) (xk_5 0) rfl) rfl rfl hl.1 rfl (lv_room (Nat.le_of_ble_eq_true rfl)) xd_De_answerEnd_57 ⟨Nat.le_of_ble_eq_true rfl, Nat.le_of_ble_eq_true rfl⟩) hS (fun y10 v11 H locs ly10 ey10 ev11 hI hP hS => ?_)
      refine lv_pop hx hb xd_De_answerEnd_60 rfl ?_
      refine lv_aload_n hx hb xd_De_answerEnd_61 rfl (lv_at hl 0 rfl) ?_
      refine fw_getr hx hb hts i_De hown hK hP (xm_19 (by omega)) (xk_19 r) rfl 2 (by decide) (hts _ L_De_52) (fun _ h9 => h9) rfl xd_De_answerEnd_62 ?_
      refine lv_bipush (v := (10 : Int32)) hx hb xd_De_answerEnd_65 (by decide) ?_
      refine lv_aload_n hx hb xd_De_answerEnd_67 rfl (lv_at hl 0 rfl) ?_
      refine fw_geti hx hb hts i_De hown hK hP (xm_19 (by omega)) (xk_19 r) rfl 12 (by decide) (hts _ L_De_101) (fun _ h9 => h9) rfl xd_De_answerEnd_68 ?_
      refine lv_iconst (v := (0 : Int32)) hx hb xd_De_answerEnd_71 (by decide) ?_
      refine lv_iconst (v := (2 : Int32)) hx hb xd_De_answerEnd_72 (by decide) ?_
      refine fw_cr (va_runV (As := [.int (10 : Int32), .int (v11 19 r 12), .int (0 : Int32), .int (2 : Int32)]) (rest := []) ⟨hx, hb, hml, hown, hts⟩ (xc_Wi_send l hD v11 hI (10 : Int32) (v11 19 r 12) (0 : Int32) (2 : Int32)) (xw_Wi_send hts L_De_138 ⟨Nat.le_of_ble_eq_true rfl, Nat.le_of_ble_eq_true rfl⟩) (fw_preV hN hK hP (xm_5 (by decide)) (xk_5 0) rfl) rfl rfl hl.1 rfl (lv_room (Nat.le_of_ble_eq_true rfl)) xd_De_answerEnd_73 ⟨Nat.le_of_ble_eq_true rfl, Nat.le_of_ble_eq_true rfl⟩) hS (fun y13 v14 H locs ly13 ey13 ev14 hI hP hS => ?_)
      refine lv_pop hx hb xd_De_answerEnd_76 rfl ?_
      refine lv_goto (tgt := 104) hx hb xd_De_answerEnd_77 (by decide) ?_
      exact fw_vret hx hb hr hlocks hS hP hI xd_De_answerEnd_104 (by rw [hj]; subst ev7 ev8 ev9 ey10 ev11 ey13 ev14; simp only [xf_De_answerEnd_j1, if_pos c_2])
  skip
  have hl := lv_entry ([.ref (ad 19 r)]) (n := 1) (Nat.le_of_ble_eq_true rfl)
  rw [lg_entry_eq]
  generalize (lg_sl ([.ref (ad 19 r)]) ++ List.replicate (1 - (lg_sl ([.ref (ad 19 r)])).length) Slot.unset).toArray = ls at hl ⊢
  have hl : lv_has ls 1 [(0, .ref (ad 19 r))] := hl
  refine lv_aload_n hx hb xd_De_answerEnd_0 rfl (lv_at hl 0 rfl) ?_
  refine fw_geti hx hb hts i_De hown hK hP (xm_19 (by omega)) (xk_19 r) rfl 11 (by decide) (hts _ L_De_62) (fun _ h9 => h9) rfl xd_De_answerEnd_1 ?_
  refine lv_iconst (v := (1 : Int32)) hx hb xd_De_answerEnd_4 (by decide) ?_
  refine lv_icmp_ne (tgt := 22) hx hb xd_De_answerEnd_5 (by decide) (fun c_1 => ?_) (fun c_1 => ?_)
  · exact J1 v0  _ _ _ (by simp only [xf_De_answerEnd, if_neg c_1])   hI hP hS (lv_sub hl [0] rfl)
  · refine lv_aload_n hx hb xd_De_answerEnd_8 rfl (lv_at hl 0 rfl) ?_
    refine fw_cb (va_runV (As := []) (rest := []) ⟨hx, hb, hml, hown, hts⟩ (xc_De_lacksParameter l hD v0 hI (r) (by omega)) (xw_De_lacksParameter hts L_De_154 ⟨Nat.le_of_ble_eq_true rfl, Nat.le_of_ble_eq_true rfl⟩) (fw_preV hN hK hP (xm_19 (by omega)) (xk_19 r) rfl) rfl rfl hl.1 rfl (lv_room (Nat.le_of_ble_eq_true rfl)) xd_De_answerEnd_9 ⟨Nat.le_of_ble_eq_true rfl, Nat.le_of_ble_eq_true rfl⟩) hS (fun r16 H locs zr16 er16 hP hS => ?_)
    refine lv_if_eq (tgt := 22) hx hb xd_De_answerEnd_12 (by decide) (fun c_17 => ?_) (fun c_17 => ?_)
    · exact J1 v0  _ _ _ (by subst er16; simp only [xf_De_answerEnd, if_pos c_1, if_pos c_17])   hI hP hS (lv_sub hl [0] rfl)
    · refine lv_aload_n hx hb xd_De_answerEnd_15 rfl (lv_at hl 0 rfl) ?_
      refine fw_cv (va_runV (As := []) (rest := []) ⟨hx, hb, hml, hown, hts⟩ (xc_De_abort l hD v0 hI (r) (by omega)) (xw_De_abort hts L_De_158 ⟨Nat.le_of_ble_eq_true rfl, Nat.le_of_ble_eq_true rfl⟩) (fw_preV hN hK hP (xm_19 (by omega)) (xk_19 r) rfl) rfl rfl hl.1 rfl (lv_room (Nat.le_of_ble_eq_true rfl)) xd_De_answerEnd_16 ⟨Nat.le_of_ble_eq_true rfl, Nat.le_of_ble_eq_true rfl⟩) hS (fun v18 H locs ev18 hI hP hS => ?_)
      refine lv_goto (tgt := 104) hx hb xd_De_answerEnd_19 (by decide) ?_
      exact fw_vret hx hb hr hlocks hS hP hI xd_De_answerEnd_104 (by subst er16 ev18; simp only [xf_De_answerEnd, if_pos c_1, if_neg c_17])
def xf_De_beginData (v0 : fw_V) (r : Nat) : fw_V :=
  if (v0 19 r 11) = (2 : Int32) then
    let v2 := fw_up v0 19 r 11 (3 : Int32)
    let v3 := fw_up v2 19 r 16 (0 : Int32)
    let v4 := xf_Cy_restart v3 ((r + 2))
    v4
  else
    v0

set_option maxHeartbeats 4000000 in
set_option maxRecDepth 100000 in
theorem xc_De_beginData (l : Launch) {D : va_G} {cA : Nat → ClassId} {ad : Nat → Nat → Nat} (hD : fw_D xCL ad) {b : Nat} (v0 : fw_V) (hI : xI b v0) (r : Nat) (hr0 : r < 2)  : Met l xy_De_beginData (Cond.code xy_De_beginData xb_De_beginData 1 none :: vTB) xrm_De_beginData (fw_Pc vNL D vcls (vtys cA) xCL cA xkd ad v0 [.ref (ad 19 r)]) (fw_Qv D vcls xCL cA xkd ad (xI b) (xf_De_beginData v0 r)) 0 0 (fw_A xCL ad) := by
  refine Met.ofW (cc := xb_De_beginData) (maxL := 1) (ret := none) (by decide) rfl ?_
  intro p e s m args below meth c s₁ B hml hv
  obtain ⟨rfl, hP, hK, hN⟩ := hv
  have hx := B.exec
  have hb := B.bytes
  have hr := B.returns
  have hts : ∀ w ∈ vTB, w.before ([.ref (ad 19 r)] : List Value).toArray s = true := fun w h => atoms_spec (ws := (Cond.code xy_De_beginData xb_De_beginData 1 none :: vTB)) B.pre w (List.mem_cons_of_mem _ h)
  have hown : s.vm.findClass R_De = some m.cls := findClass_of_methodNamed B.named
  have hlocks := B.notSynchronized
  have hS : va_S (fw_A xCL ad) s.heap s.heap [] := va_S.rf
  skip
  have hl := lv_entry ([.ref (ad 19 r)]) (n := 1) (Nat.le_of_ble_eq_true rfl)
  rw [lg_entry_eq]
  generalize (lg_sl ([.ref (ad 19 r)]) ++ List.replicate (1 - (lg_sl ([.ref (ad 19 r)])).length) Slot.unset).toArray = ls at hl ⊢
  have hl : lv_has ls 1 [(0, .ref (ad 19 r))] := hl
  refine lv_aload_n hx hb xd_De_beginData_0 rfl (lv_at hl 0 rfl) ?_
  refine fw_geti hx hb hts i_De hown hK hP (xm_19 (by omega)) (xk_19 r) rfl 11 (by decide) (hts _ L_De_62) (fun _ h9 => h9) rfl xd_De_beginData_1 ?_
  refine lv_iconst (v := (2 : Int32)) hx hb xd_De_beginData_4 (by decide) ?_
  refine lv_icmp_ne (tgt := 25) hx hb xd_De_beginData_5 (by decide) (fun c_1 => ?_) (fun c_1 => ?_)
  · exact fw_vret hx hb hr hlocks hS hP hI xd_De_beginData_25 (by simp only [xf_De_beginData, if_neg c_1])
  · refine lv_aload_n hx hb xd_De_beginData_8 rfl (lv_at hl 0 rfl) ?_
    refine lv_iconst (v := (3 : Int32)) hx hb xd_De_beginData_9 (by decide) ?_
    refine fw_puti hx hb hts i_De t_De t_De_ok n_De hown hK hD hP hS (xm_19 (by omega)) (xk_19 r) rfl 11 (by decide) (hts _ L_De_62) (fun _ h9 => h9) rfl fw_pdI rfl rfl rfl xd_De_beginData_10 (fun v2 H locs ev2 hP hS => ?_)
    have hI : xI b v2 := by rw [ev2]; exact xI_up hI trivial trivial
    refine lv_aload_n hx hb xd_De_beginData_13 rfl (lv_at hl 0 rfl) ?_
    refine lv_iconst (v := (0 : Int32)) hx hb xd_De_beginData_14 (by decide) ?_
    refine fw_puti hx hb hts i_De t_De t_De_ok n_De hown hK hD hP hS (xm_19 (by omega)) (xk_19 r) rfl 16 (by decide) (hts _ L_De_120) (fun _ h9 => h9) rfl fw_pdI rfl rfl rfl xd_De_beginData_15 (fun v3 H locs ev3 hP hS => ?_)
    have hI : xI b v3 := by rw [ev3]; exact xI_up hI trivial trivial
    refine lv_aload_n hx hb xd_De_beginData_18 rfl (lv_at hl 0 rfl) ?_
    refine fw_getr hx hb hts i_De hown hK hP (xm_19 (by omega)) (xk_19 r) rfl 3 (by decide) (hts _ L_De_12) (fun _ h9 => h9) rfl xd_De_beginData_19 ?_
    refine fw_cv (va_runV (As := []) (rest := []) ⟨hx, hb, hml, hown, hts⟩ (xc_Cy_restart l hD v3 hI ((r + 2)) (by omega)) (xw_Cy_restart hts L_De_172 ⟨Nat.le_of_ble_eq_true rfl, Nat.le_of_ble_eq_true rfl⟩) (fw_preV hN hK hP (xm_14 (by omega)) (xk_14 (r + 2)) rfl) rfl rfl hl.1 rfl (lv_room (Nat.le_of_ble_eq_true rfl)) xd_De_beginData_22 ⟨Nat.le_of_ble_eq_true rfl, Nat.le_of_ble_eq_true rfl⟩) hS (fun v4 H locs ev4 hI hP hS => ?_)
    exact fw_vret hx hb hr hlocks hS hP hI xd_De_beginData_25 (by subst ev2 ev3 ev4; simp only [xf_De_beginData, if_pos c_1])
def xf_De_showRow_j5 (v : fw_V) (r : Nat) (k1 : Nat) (a2 : Int32) (x3 : Int32) : fw_V :=
  v
def xf_De_showRow_j4 (v : fw_V) (r : Nat) (k1 : Nat) (a2 : Int32) (x3 : Int32) (x91 : Int32) : fw_V :=
  let v12 := fw_up v 25 r (x91.toNatClampNeg) (0 : Int32)
  xf_De_showRow_j5 v12 r k1 a2 (x3)
def xf_De_showRow_j6 (v : fw_V) (r : Nat) (k1 : Nat) (a2 : Int32) (x3 : Int32) (x90 : Int32) (x91 : Int32) : fw_V :=
  let v16 := fw_up v 25 r (x91.toNatClampNeg) x90
  xf_De_showRow_j5 v16 r k1 a2 (x3)
def xf_De_showRow_j3 (v : fw_V) (r : Nat) (k1 : Nat) (a2 : Int32) (x3 : Int32) : fw_V :=
  let r9 := xf_FR_place a2 (1 : Int32)
  if x3 ≤ (1 : Int32) then
    xf_De_showRow_j4 v r k1 a2 (x3) (r9)
  else
    let r14 := xf_FR_place a2 (1 : Int32)
    xf_De_showRow_j6 v r k1 a2 (x3) ((v 8 k1 r14.toNatClampNeg)) (r9)
def xf_De_showRow_j2 (v : fw_V) (r : Nat) (k1 : Nat) (a2 : Int32) (x3 : Int32) (x91 : Int32) : fw_V :=
  let v7 := fw_up v 25 r (x91.toNatClampNeg) (0 : Int32)
  xf_De_showRow_j3 v7 r k1 a2 (x3)
def xf_De_showRow_j7 (v : fw_V) (r : Nat) (k1 : Nat) (a2 : Int32) (x3 : Int32) (x90 : Int32) (x91 : Int32) : fw_V :=
  let v19 := fw_up v 25 r (x91.toNatClampNeg) x90
  xf_De_showRow_j3 v19 r k1 a2 (x3)
def xf_De_showRow_j1 (v : fw_V) (r : Nat) (k1 : Nat) (a2 : Int32) (x3 : Int32) : fw_V :=
  let r4 := xf_FR_place a2 (0 : Int32)
  if x3 ≤ (0 : Int32) then
    xf_De_showRow_j2 v r k1 a2 (x3) (r4)
  else
    let r17 := xf_FR_place a2 (0 : Int32)
    xf_De_showRow_j7 v r k1 a2 (x3) ((v 8 k1 r17.toNatClampNeg)) (r4)
def xf_De_showRow (v0 : fw_V) (r : Nat) (k1 : Nat) (a2 : Int32) : fw_V :=
  let r1 := xf_KT_outsOf v0 (v0 23 r a2.toNatClampNeg)
  xf_De_showRow_j1 v0 r k1 a2 (r1)

set_option maxHeartbeats 4000000 in
set_option maxRecDepth 100000 in
theorem xc_De_showRow (l : Launch) {D : va_G} {cA : Nat → ClassId} {ad : Nat → Nat → Nat} (hD : fw_D xCL ad) {b : Nat} (v0 : fw_V) (hI : xI b v0) (r : Nat) (hr0 : r < 2) (k1 : Nat) (hk1 : k1 < 18) (a2 : Int32) (hq0 : vp_in a2 3) : Met l xy_De_showRow (Cond.code xy_De_showRow xb_De_showRow 5 none :: vTB) xrm_De_showRow (fw_Pc vNL D vcls (vtys cA) xCL cA xkd ad v0 [.ref (ad 19 r), .ref (ad 7 k1), .int a2]) (fw_Qv D vcls xCL cA xkd ad (xI b) (xf_De_showRow v0 r k1 a2)) 0 0 (fw_A xCL ad) := by
  refine Met.ofW (cc := xb_De_showRow) (maxL := 5) (ret := none) (by decide) rfl ?_
  intro p e s m args below meth c s₁ B hml hv
  obtain ⟨rfl, hP, hK, hN⟩ := hv
  have hx := B.exec
  have hb := B.bytes
  have hr := B.returns
  have hts : ∀ w ∈ vTB, w.before ([.ref (ad 19 r), .ref (ad 7 k1), .int a2] : List Value).toArray s = true := fun w h => atoms_spec (ws := (Cond.code xy_De_showRow xb_De_showRow 5 none :: vTB)) B.pre w (List.mem_cons_of_mem _ h)
  have hown : s.vm.findClass R_De = some m.cls := findClass_of_methodNamed B.named
  have hlocks := B.notSynchronized
  have hS : va_S (fw_A xCL ad) s.heap s.heap [] := va_S.rf
  have J5 : ∀ (v : fw_V) (x3 : Int32) (H : Heap) (locs : List Loc) (ls : Array Slot), xf_De_showRow v0 r k1 a2 = xf_De_showRow_j5 v r k1 a2 x3 → vp_in a2 3 → vp_in x3 3 → xI b v → va_P D vcls (fw_w xCL cA xkd ad v) H → va_S (fw_A xCL ad) s.heap H locs → lv_has ls 5 [(0, .ref (ad 19 r)), (1, .ref (ad 7 k1)), (2, .int a2), (3, .int x3), (4, .int (2 : Int32))] → W p l e (headSpec (Cond.code xy_De_showRow xb_De_showRow 5 none :: vTB) xrm_De_showRow).room s m ([.ref (ad 19 r), .ref (ad 7 k1), .int a2] : List Value).toArray below meth c H locs 0 0 (MQ below (fw_Qv D vcls xCL cA xkd ad (xI b) (xf_De_showRow v0 r k1 a2)) ([.ref (ad 19 r), .ref (ad 7 k1), .int a2] : List Value).toArray s 0 0 (fw_A xCL ad)) (F0 m 17 ls []) := by
    intro v x3 H locs ls hj hc0 hc1 hI hP hS hl
    refine lv_iload hx hb xd_De_showRow_17 (lv_at hl 4 rfl) ?_
    refine lv_iconst (v := (2 : Int32)) hx hb xd_De_showRow_19 (by decide) ?_
    refine lv_icmp_ge (tgt := 61) hx hb xd_De_showRow_20 (by decide) (fun _ => ?_) (fun c_13 => absurd (by decide) c_13)
    exact fw_vret hx hb hr hlocks hS hP hI xd_De_showRow_61 (by rw [hj]; simp only [xf_De_showRow_j5])
  have J4 : ∀ (v : fw_V) (x3 : Int32) (x91 : Int32) (H : Heap) (locs : List Loc) (ls : Array Slot), xf_De_showRow v0 r k1 a2 = xf_De_showRow_j4 v r k1 a2 x3 x91 → vp_in a2 3 → vp_in x3 3 → vp_in x91 6 → xI b v → va_P D vcls (fw_w xCL cA xkd ad v) H → va_S (fw_A xCL ad) s.heap H locs → lv_has ls 5 [(0, .ref (ad 19 r)), (1, .ref (ad 7 k1)), (2, .int a2), (3, .int x3), (4, .int (1 : Int32))] → W p l e (headSpec (Cond.code xy_De_showRow xb_De_showRow 5 none :: vTB) xrm_De_showRow).room s m ([.ref (ad 19 r), .ref (ad 7 k1), .int a2] : List Value).toArray below meth c H locs 0 0 (MQ below (fw_Qv D vcls xCL cA xkd ad (xI b) (xf_De_showRow v0 r k1 a2)) ([.ref (ad 19 r), .ref (ad 7 k1), .int a2] : List Value).toArray s 0 0 (fw_A xCL ad)) (F0 m 54 ls [.int (0 : Int32), .int x91, .ref (ad 25 r)]) := by
    intro v x3 x91 H locs ls hj hc0 hc1 hc2 hI hP hS hl
    refine fw_iast hx hb hK hD hP hS (xm_25 (by omega)) (xk_25 r) 0 rfl (j := x91.toNatClampNeg) rfl hc2 xd_De_showRow_54 (fun v12 H locs ev12 hP hS => ?_)
    have hI : xI b v12 := by rw [ev12]; exact xI_up hI trivial trivial
    refine lv_iinc (v := (2 : Int32)) (lv' := [(4, .int (2 : Int32)), (0, .ref (ad 19 r)), (1, .ref (ad 7 k1)), (2, .int a2), (3, .int x3)]) hx hb xd_De_showRow_55 hl (k := 4) rfl (by decide) (by decide) rfl (fun ls hl => ?_)
    refine lv_goto (tgt := 17) hx hb xd_De_showRow_58 (by decide) ?_
    exact J5 v12 (x3) _ _ _ (by rw [hj]; subst ev12; simp only [xf_De_showRow_j4]) hc0 hc1  hI hP hS (lv_sub hl [1, 2, 3, 4, 0] rfl)
  have J6 : ∀ (v : fw_V) (x3 : Int32) (x90 : Int32) (x91 : Int32) (H : Heap) (locs : List Loc) (ls : Array Slot), xf_De_showRow v0 r k1 a2 = xf_De_showRow_j6 v r k1 a2 x3 x90 x91 → vp_in a2 3 → vp_in x3 3 → vp_in x91 6 → xI b v → va_P D vcls (fw_w xCL cA xkd ad v) H → va_S (fw_A xCL ad) s.heap H locs → lv_has ls 5 [(0, .ref (ad 19 r)), (1, .ref (ad 7 k1)), (2, .int a2), (3, .int x3), (4, .int (1 : Int32))] → W p l e (headSpec (Cond.code xy_De_showRow xb_De_showRow 5 none :: vTB) xrm_De_showRow).room s m ([.ref (ad 19 r), .ref (ad 7 k1), .int a2] : List Value).toArray below meth c H locs 0 0 (MQ below (fw_Qv D vcls xCL cA xkd ad (xI b) (xf_De_showRow v0 r k1 a2)) ([.ref (ad 19 r), .ref (ad 7 k1), .int a2] : List Value).toArray s 0 0 (fw_A xCL ad)) (F0 m 54 ls [.int x90, .int x91, .ref (ad 25 r)]) := by
    intro v x3 x90 x91 H locs ls hj hc0 hc1 hc2 hI hP hS hl
    clear J4
    refine fw_iast hx hb hK hD hP hS (xm_25 (by omega)) (xk_25 r) 0 rfl (j := x91.toNatClampNeg) rfl hc2 xd_De_showRow_54 (fun v16 H locs ev16 hP hS => ?_)
    have hI : xI b v16 := by rw [ev16]; exact xI_up hI trivial trivial
    refine lv_iinc (v := (2 : Int32)) (lv' := [(4, .int (2 : Int32)), (0, .ref (ad 19 r)), (1, .ref (ad 7 k1)), (2, .int a2), (3, .int x3)]) hx hb xd_De_showRow_55 hl (k := 4) rfl (by decide) (by decide) rfl (fun ls hl => ?_)
    refine lv_goto (tgt := 17) hx hb xd_De_showRow_58 (by decide) ?_
    exact J5 v16 (x3) _ _ _ (by rw [hj]; subst ev16; simp only [xf_De_showRow_j6]) hc0 hc1  hI hP hS (lv_sub hl [1, 2, 3, 4, 0] rfl)
  have J3 : ∀ (v : fw_V) (x3 : Int32) (H : Heap) (locs : List Loc) (ls : Array Slot), xf_De_showRow v0 r k1 a2 = xf_De_showRow_j3 v r k1 a2 x3 → vp_in a2 3 → vp_in x3 3 → xI b v → va_P D vcls (fw_w xCL cA xkd ad v) H → va_S (fw_A xCL ad) s.heap H locs → lv_has ls 5 [(0, .ref (ad 19 r)), (1, .ref (ad 7 k1)), (2, .int a2), (3, .int x3), (4, .int (1 : Int32))] → W p l e (headSpec (Cond.code xy_De_showRow xb_De_showRow 5 none :: vTB) xrm_De_showRow).room s m ([.ref (ad 19 r), .ref (ad 7 k1), .int a2] : List Value).toArray below meth c H locs 0 0 (MQ below (fw_Qv D vcls xCL cA xkd ad (xI b) (xf_De_showRow v0 r k1 a2)) ([.ref (ad 19 r), .ref (ad 7 k1), .int a2] : List Value).toArray s 0 0 (fw_A xCL ad)) (F0 m 17 ls []) := by
    intro v x3 H locs ls hj hc0 hc1 hI hP hS hl
    clear J5
    refine lv_iload hx hb xd_De_showRow_17 (lv_at hl 4 rfl) ?_
    refine lv_iconst (v := (2 : Int32)) hx hb xd_De_showRow_19 (by decide) ?_
    refine lv_icmp_ge (tgt := 61) hx hb xd_De_showRow_20 (by decide) (fun c_8 => absurd c_8 (by decide)) (fun _ => ?_)
    refine lv_aload_n hx hb xd_De_showRow_23 rfl (lv_at hl 0 rfl) ?_
    refine fw_getr hx hb hts i_De hown hK hP (xm_19 (by omega)) (xk_19 r) rfl 10 (by decide) (hts _ L_De_36) (fun _ h9 => h9) rfl xd_De_showRow_24 ?_
    refine lv_iload_n hx hb xd_De_showRow_27 rfl (lv_at hl 2 rfl) ?_
    refine lv_iload hx hb xd_De_showRow_28 (lv_at hl 4 rfl) ?_
    refine fw_co (va_runSN (As := [.int a2, .int (1 : Int32)]) (rest := [.ref (ad 25 r)]) ⟨hx, hb, hml, hown, hts⟩ (xc_FR_place l hD v hI a2 (1 : Int32)) (xwn_FR_place hts (hN.2 _ L_De_186) ⟨Nat.le_of_ble_eq_true rfl, Nat.le_of_ble_eq_true rfl⟩) (fw_preS hN hK hP) rfl rfl hl.1 rfl (lv_room (Nat.le_of_ble_eq_true rfl)) xd_De_showRow_30 ⟨Nat.le_of_ble_eq_true rfl, Nat.le_of_ble_eq_true rfl⟩) hS (fun r9 H locs er9 hP hS => ?_)
    have h_10 : vp_in r9 6 := xp_place er9 hc0 (fw_inc (by decide))
    refine lv_iload hx hb xd_De_showRow_33 (lv_at hl 4 rfl) ?_
    refine lv_iload_n hx hb xd_De_showRow_35 rfl (lv_at hl 3 rfl) ?_
    refine lv_icmp_ge (tgt := 53) hx hb xd_De_showRow_36 (by decide) (fun c_11 => ?_) (fun c_11 => ?_)
    · refine lv_iconst (v := (0 : Int32)) hx hb xd_De_showRow_53 (by decide) ?_
      exact J4 v (x3) (r9) _ _ _ (by rw [hj]; subst er9; simp only [xf_De_showRow_j3, if_pos c_11]) hc0 hc1 h_10  hI hP hS (lv_sub hl [0, 1, 2, 3, 4] rfl)
    · refine lv_aload_n hx hb xd_De_showRow_39 rfl (lv_at hl 1 rfl) ?_
      refine fw_getr hx hb hts i_Fm hown hK hP (xm_7 (by omega)) (xk_7 k1) rfl 4 (by decide) (hts _ L_De_144) (fun _ h9 => h9) rfl xd_De_showRow_40 ?_
      refine lv_iload_n hx hb xd_De_showRow_43 rfl (lv_at hl 2 rfl) ?_
      refine lv_iload hx hb xd_De_showRow_44 (lv_at hl 4 rfl) ?_
      refine fw_co (va_runSN (As := [.int a2, .int (1 : Int32)]) (rest := [.ref (ad 8 k1), .int r9, .ref (ad 25 r)]) ⟨hx, hb, hml, hown, hts⟩ (xc_FR_place l hD v hI a2 (1 : Int32)) (xwn_FR_place hts (hN.2 _ L_De_186) ⟨Nat.le_of_ble_eq_true rfl, Nat.le_of_ble_eq_true rfl⟩) (fw_preS hN hK hP) rfl rfl hl.1 rfl (lv_room (Nat.le_of_ble_eq_true rfl)) xd_De_showRow_46 ⟨Nat.le_of_ble_eq_true rfl, Nat.le_of_ble_eq_true rfl⟩) hS (fun r14 H locs er14 hP hS => ?_)
      have h_15 : vp_in r14 6 := xp_place er14 hc0 (fw_inc (by decide))
      refine fw_iald hx hb hK hP (xm_8 (by omega)) (xk_8 k1) 0 rfl (j := r14.toNatClampNeg) rfl (fw_inm h_15 (by decide)) xd_De_showRow_49 ?_
      refine lv_goto (tgt := 54) hx hb xd_De_showRow_50 (by decide) ?_
      exact J6 v (x3) ((v 8 k1 r14.toNatClampNeg)) (r9) _ _ _ (by rw [hj]; subst er9 er14; simp only [xf_De_showRow_j3, if_neg c_11]) hc0 hc1 h_10  hI hP hS (lv_sub hl [0, 1, 2, 3, 4] rfl)
  have J2 : ∀ (v : fw_V) (x3 : Int32) (x91 : Int32) (H : Heap) (locs : List Loc) (ls : Array Slot), xf_De_showRow v0 r k1 a2 = xf_De_showRow_j2 v r k1 a2 x3 x91 → vp_in a2 3 → vp_in x3 3 → vp_in x91 6 → xI b v → va_P D vcls (fw_w xCL cA xkd ad v) H → va_S (fw_A xCL ad) s.heap H locs → lv_has ls 5 [(0, .ref (ad 19 r)), (1, .ref (ad 7 k1)), (2, .int a2), (3, .int x3), (4, .int (0 : Int32))] → W p l e (headSpec (Cond.code xy_De_showRow xb_De_showRow 5 none :: vTB) xrm_De_showRow).room s m ([.ref (ad 19 r), .ref (ad 7 k1), .int a2] : List Value).toArray below meth c H locs 0 0 (MQ below (fw_Qv D vcls xCL cA xkd ad (xI b) (xf_De_showRow v0 r k1 a2)) ([.ref (ad 19 r), .ref (ad 7 k1), .int a2] : List Value).toArray s 0 0 (fw_A xCL ad)) (F0 m 54 ls [.int (0 : Int32), .int x91, .ref (ad 25 r)]) := by
    intro v x3 x91 H locs ls hj hc0 hc1 hc2 hI hP hS hl
    clear J5 J4 J6
    refine fw_iast hx hb hK hD hP hS (xm_25 (by omega)) (xk_25 r) 0 rfl (j := x91.toNatClampNeg) rfl hc2 xd_De_showRow_54 (fun v7 H locs ev7 hP hS => ?_)
    have hI : xI b v7 := by rw [ev7]; exact xI_up hI trivial trivial
    refine lv_iinc (v := (1 : Int32)) (lv' := [(4, .int (1 : Int32)), (0, .ref (ad 19 r)), (1, .ref (ad 7 k1)), (2, .int a2), (3, .int x3)]) hx hb xd_De_showRow_55 hl (k := 4) rfl (by decide) (by decide) rfl (fun ls hl => ?_)
    refine lv_goto (tgt := 17) hx hb xd_De_showRow_58 (by decide) ?_
    exact J3 v7 (x3) _ _ _ (by rw [hj]; subst ev7; simp only [xf_De_showRow_j2]) hc0 hc1  hI hP hS (lv_sub hl [1, 2, 3, 4, 0] rfl)
  have J7 : ∀ (v : fw_V) (x3 : Int32) (x90 : Int32) (x91 : Int32) (H : Heap) (locs : List Loc) (ls : Array Slot), xf_De_showRow v0 r k1 a2 = xf_De_showRow_j7 v r k1 a2 x3 x90 x91 → vp_in a2 3 → vp_in x3 3 → vp_in x91 6 → xI b v → va_P D vcls (fw_w xCL cA xkd ad v) H → va_S (fw_A xCL ad) s.heap H locs → lv_has ls 5 [(0, .ref (ad 19 r)), (1, .ref (ad 7 k1)), (2, .int a2), (3, .int x3), (4, .int (0 : Int32))] → W p l e (headSpec (Cond.code xy_De_showRow xb_De_showRow 5 none :: vTB) xrm_De_showRow).room s m ([.ref (ad 19 r), .ref (ad 7 k1), .int a2] : List Value).toArray below meth c H locs 0 0 (MQ below (fw_Qv D vcls xCL cA xkd ad (xI b) (xf_De_showRow v0 r k1 a2)) ([.ref (ad 19 r), .ref (ad 7 k1), .int a2] : List Value).toArray s 0 0 (fw_A xCL ad)) (F0 m 54 ls [.int x90, .int x91, .ref (ad 25 r)]) := by
    intro v x3 x90 x91 H locs ls hj hc0 hc1 hc2 hI hP hS hl
    clear J5 J4 J6 J2
    refine fw_iast hx hb hK hD hP hS (xm_25 (by omega)) (xk_25 r) 0 rfl (j := x91.toNatClampNeg) rfl hc2 xd_De_showRow_54 (fun v19 H locs ev19 hP hS => ?_)
    have hI : xI b v19 := by rw [ev19]; exact xI_up hI trivial trivial
    refine lv_iinc (v := (1 : Int32)) (lv' := [(4, .int (1 : Int32)), (0, .ref (ad 19 r)), (1, .ref (ad 7 k1)), (2, .int a2), (3, .int x3)]) hx hb xd_De_showRow_55 hl (k := 4) rfl (by decide) (by decide) rfl (fun ls hl => ?_)
    refine lv_goto (tgt := 17) hx hb xd_De_showRow_58 (by decide) ?_
    exact J3 v19 (x3) _ _ _ (by rw [hj]; subst ev19; simp only [xf_De_showRow_j7]) hc0 hc1  hI hP hS (lv_sub hl [1, 2, 3, 4, 0] rfl)
  have J1 : ∀ (v : fw_V) (x3 : Int32) (H : Heap) (locs : List Loc) (ls : Array Slot), xf_De_showRow v0 r k1 a2 = xf_De_showRow_j1 v r k1 a2 x3 → vp_in a2 3 → vp_in x3 3 → xI b v → va_P D vcls (fw_w xCL cA xkd ad v) H → va_S (fw_A xCL ad) s.heap H locs → lv_has ls 5 [(0, .ref (ad 19 r)), (1, .ref (ad 7 k1)), (2, .int a2), (3, .int x3), (4, .int (0 : Int32))] → W p l e (headSpec (Cond.code xy_De_showRow xb_De_showRow 5 none :: vTB) xrm_De_showRow).room s m ([.ref (ad 19 r), .ref (ad 7 k1), .int a2] : List Value).toArray below meth c H locs 0 0 (MQ below (fw_Qv D vcls xCL cA xkd ad (xI b) (xf_De_showRow v0 r k1 a2)) ([.ref (ad 19 r), .ref (ad 7 k1), .int a2] : List Value).toArray s 0 0 (fw_A xCL ad)) (F0 m 17 ls []) := by
    intro v x3 H locs ls hj hc0 hc1 hI hP hS hl
    clear J5 J4 J6 J3
    refine lv_iload hx hb xd_De_showRow_17 (lv_at hl 4 rfl) ?_
    refine lv_iconst (v := (2 : Int32)) hx hb xd_De_showRow_19 (by decide) ?_
    refine lv_icmp_ge (tgt := 61) hx hb xd_De_showRow_20 (by decide) (fun c_3 => absurd c_3 (by decide)) (fun _ => ?_)
    refine lv_aload_n hx hb xd_De_showRow_23 rfl (lv_at hl 0 rfl) ?_
    refine fw_getr hx hb hts i_De hown hK hP (xm_19 (by omega)) (xk_19 r) rfl 10 (by decide) (hts _ L_De_36) (fun _ h9 => h9) rfl xd_De_showRow_24 ?_
    refine lv_iload_n hx hb xd_De_showRow_27 rfl (lv_at hl 2 rfl) ?_
    refine lv_iload hx hb xd_De_showRow_28 (lv_at hl 4 rfl) ?_
    refine fw_co (va_runSN (As := [.int a2, .int (0 : Int32)]) (rest := [.ref (ad 25 r)]) ⟨hx, hb, hml, hown, hts⟩ (xc_FR_place l hD v hI a2 (0 : Int32)) (xwn_FR_place hts (hN.2 _ L_De_186) ⟨Nat.le_of_ble_eq_true rfl, Nat.le_of_ble_eq_true rfl⟩) (fw_preS hN hK hP) rfl rfl hl.1 rfl (lv_room (Nat.le_of_ble_eq_true rfl)) xd_De_showRow_30 ⟨Nat.le_of_ble_eq_true rfl, Nat.le_of_ble_eq_true rfl⟩) hS (fun r4 H locs er4 hP hS => ?_)
    have h_5 : vp_in r4 6 := xp_place er4 hc0 (fw_inc (by decide))
    refine lv_iload hx hb xd_De_showRow_33 (lv_at hl 4 rfl) ?_
    refine lv_iload_n hx hb xd_De_showRow_35 rfl (lv_at hl 3 rfl) ?_
    refine lv_icmp_ge (tgt := 53) hx hb xd_De_showRow_36 (by decide) (fun c_6 => ?_) (fun c_6 => ?_)
    · refine lv_iconst (v := (0 : Int32)) hx hb xd_De_showRow_53 (by decide) ?_
      exact J2 v (x3) (r4) _ _ _ (by rw [hj]; subst er4; simp only [xf_De_showRow_j1, if_pos c_6]) hc0 hc1 h_5  hI hP hS (lv_sub hl [0, 1, 2, 3, 4] rfl)
    · refine lv_aload_n hx hb xd_De_showRow_39 rfl (lv_at hl 1 rfl) ?_
      refine fw_getr hx hb hts i_Fm hown hK hP (xm_7 (by omega)) (xk_7 k1) rfl 4 (by decide) (hts _ L_De_144) (fun _ h9 => h9) rfl xd_De_showRow_40 ?_
      refine lv_iload_n hx hb xd_De_showRow_43 rfl (lv_at hl 2 rfl) ?_
      refine lv_iload hx hb xd_De_showRow_44 (lv_at hl 4 rfl) ?_
      refine fw_co (va_runSN (As := [.int a2, .int (0 : Int32)]) (rest := [.ref (ad 8 k1), .int r4, .ref (ad 25 r)]) ⟨hx, hb, hml, hown, hts⟩ (xc_FR_place l hD v hI a2 (0 : Int32)) (xwn_FR_place hts (hN.2 _ L_De_186) ⟨Nat.le_of_ble_eq_true rfl, Nat.le_of_ble_eq_true rfl⟩) (fw_preS hN hK hP) rfl rfl hl.1 rfl (lv_room (Nat.le_of_ble_eq_true rfl)) xd_De_showRow_46 ⟨Nat.le_of_ble_eq_true rfl, Nat.le_of_ble_eq_true rfl⟩) hS (fun r17 H locs er17 hP hS => ?_)
      have h_18 : vp_in r17 6 := xp_place er17 hc0 (fw_inc (by decide))
      refine fw_iald hx hb hK hP (xm_8 (by omega)) (xk_8 k1) 0 rfl (j := r17.toNatClampNeg) rfl (fw_inm h_18 (by decide)) xd_De_showRow_49 ?_
      refine lv_goto (tgt := 54) hx hb xd_De_showRow_50 (by decide) ?_
      exact J7 v (x3) ((v 8 k1 r17.toNatClampNeg)) (r4) _ _ _ (by rw [hj]; subst er4 er17; simp only [xf_De_showRow_j1, if_neg c_6]) hc0 hc1 h_5  hI hP hS (lv_sub hl [0, 1, 2, 3, 4] rfl)
  clear J5 J4 J6 J3 J2 J7
  have hl := lv_entry ([.ref (ad 19 r), .ref (ad 7 k1), .int a2]) (n := 5) (Nat.le_of_ble_eq_true rfl)
  rw [lg_entry_eq]
  generalize (lg_sl ([.ref (ad 19 r), .ref (ad 7 k1), .int a2]) ++ List.replicate (5 - (lg_sl ([.ref (ad 19 r), .ref (ad 7 k1), .int a2])).length) Slot.unset).toArray = ls at hl ⊢
  have hl : lv_has ls 5 [(0, .ref (ad 19 r)), (1, .ref (ad 7 k1)), (2, .int a2)] := hl
  refine lv_aload_n hx hb xd_De_showRow_0 rfl (lv_at hl 0 rfl) ?_
  refine fw_getr hx hb hts i_De hown hK hP (xm_19 (by omega)) (xk_19 r) rfl 1 (by decide) (hts _ L_De_48) (fun _ h9 => h9) rfl xd_De_showRow_1 ?_
  refine lv_aload_n hx hb xd_De_showRow_4 rfl (lv_at hl 0 rfl) ?_
  refine fw_getr hx hb hts i_De hown hK hP (xm_19 (by omega)) (xk_19 r) rfl 8 (by decide) (hts _ L_De_29) (fun _ h9 => h9) rfl xd_De_showRow_5 ?_
  refine lv_iload_n hx hb xd_De_showRow_8 rfl (lv_at hl 2 rfl) ?_
  refine fw_iald hx hb hK hP (xm_23 (by omega)) (xk_23 r) 0 rfl (j := a2.toNatClampNeg) rfl hq0 xd_De_showRow_9 ?_
  refine fw_co (va_runV (As := [.int (v0 23 r a2.toNatClampNeg)]) (rest := []) ⟨hx, hb, hml, hown, hts⟩ (xc_KT_outsOf l hD v0 hI (v0 23 r a2.toNatClampNeg)) (xw_KT_outsOf hts L_De_182 ⟨Nat.le_of_ble_eq_true rfl, Nat.le_of_ble_eq_true rfl⟩) (fw_preV hN hK hP (xm_1 (by decide)) (xk_1 0) rfl) rfl rfl hl.1 rfl (lv_room (Nat.le_of_ble_eq_true rfl)) xd_De_showRow_10 ⟨Nat.le_of_ble_eq_true rfl, Nat.le_of_ble_eq_true rfl⟩) hS (fun r1 H locs er1 hP hS => ?_)
  have h_2 : vp_in r1 3 := xp_KT_outsOf er1 hI
  refine lv_istore_n (lv' := [(3, .int r1), (0, .ref (ad 19 r)), (1, .ref (ad 7 k1)), (2, .int a2)]) hx hb xd_De_showRow_13 rfl hl (by decide) rfl (fun ls hl => ?_)
  refine lv_iconst (v := (0 : Int32)) hx hb xd_De_showRow_14 (by decide) ?_
  refine lv_istore (lv' := [(4, .int (0 : Int32)), (3, .int r1), (0, .ref (ad 19 r)), (1, .ref (ad 7 k1)), (2, .int a2)]) hx hb xd_De_showRow_15 hl (by decide) rfl (fun ls hl => ?_)
  exact J1 v0 (r1) _ _ _ (by subst er1; simp only [xf_De_showRow]) hq0 h_2  hI hP hS (lv_sub hl [2, 3, 4, 1, 0] rfl)
def xf_De_takeOutput_j7 (v : fw_V) (r : Nat) (k1 : Nat)  : fw_V :=
  v
def xf_De_takeOutput_j6 (v : fw_V) (r : Nat) (k1 : Nat)  : fw_V :=
  xf_De_takeOutput_j7 v r k1
def xf_De_takeOutput_j5 (v : fw_V) (r : Nat) (k1 : Nat)  : fw_V :=
  let r14 := xf_De_isGood v (r) (2 : Int32)
  if r14 = (0 : Int32) then
    xf_De_takeOutput_j6 v r k1
  else
    let v17 := xf_De_showRow v (r) (k1) (2 : Int32)
    xf_De_takeOutput_j6 v17 r k1
def xf_De_takeOutput_j4 (v : fw_V) (r : Nat) (k1 : Nat)  : fw_V :=
  xf_De_takeOutput_j5 v r k1
def xf_De_takeOutput_j3 (v : fw_V) (r : Nat) (k1 : Nat)  : fw_V :=
  let r11 := xf_De_isGood v (r) (1 : Int32)
  if r11 = (0 : Int32) then
    xf_De_takeOutput_j4 v r k1
  else
    let v18 := xf_De_showRow v (r) (k1) (1 : Int32)
    xf_De_takeOutput_j4 v18 r k1
def xf_De_takeOutput_j2 (v : fw_V) (r : Nat) (k1 : Nat)  : fw_V :=
  xf_De_takeOutput_j3 v r k1
def xf_De_takeOutput_j1 (v : fw_V) (r : Nat) (k1 : Nat)  : fw_V :=
  let r8 := xf_De_isGood v (r) (0 : Int32)
  if r8 = (0 : Int32) then
    xf_De_takeOutput_j2 v r k1
  else
    let v19 := xf_De_showRow v (r) (k1) (0 : Int32)
    xf_De_takeOutput_j2 v19 r k1
def xf_De_takeOutput (v0 : fw_V) (r : Nat) (k1 : Nat) : fw_V :=
  if (v0 19 r 11) = (3 : Int32) then
    let p4 := xf_Cy_takes v0 ((r + 2)) (v0 7 k1 2)
    let r2 := p4.1
    let v3 := p4.2
    if r2 = (0 : Int32) then
      v3
    else
      let v6 := fw_up v3 19 r 16 (0 : Int32)
      xf_De_takeOutput_j1 v6 r k1
  else
    v0

set_option maxHeartbeats 4000000 in
set_option maxRecDepth 100000 in
theorem xc_De_takeOutput (l : Launch) {D : va_G} {cA : Nat → ClassId} {ad : Nat → Nat → Nat} (hD : fw_D xCL ad) {b : Nat} (v0 : fw_V) (hI : xI b v0) (r : Nat) (hr0 : r < 2) (k1 : Nat) (hk1 : k1 < 18)  : Met l xy_De_takeOutput (Cond.code xy_De_takeOutput xb_De_takeOutput 3 none :: vTB) xrm_De_takeOutput (fw_Pc vNL D vcls (vtys cA) xCL cA xkd ad v0 [.ref (ad 19 r), .ref (ad 7 k1)]) (fw_Qv D vcls xCL cA xkd ad (xI b) (xf_De_takeOutput v0 r k1)) 0 0 (fw_A xCL ad) := by
  refine Met.ofW (cc := xb_De_takeOutput) (maxL := 3) (ret := none) (by decide) rfl ?_
  intro p e s m args below meth c s₁ B hml hv
  obtain ⟨rfl, hP, hK, hN⟩ := hv
  have hx := B.exec
  have hb := B.bytes
  have hr := B.returns
  have hts : ∀ w ∈ vTB, w.before ([.ref (ad 19 r), .ref (ad 7 k1)] : List Value).toArray s = true := fun w h => atoms_spec (ws := (Cond.code xy_De_takeOutput xb_De_takeOutput 3 none :: vTB)) B.pre w (List.mem_cons_of_mem _ h)
  have hown : s.vm.findClass R_De = some m.cls := findClass_of_methodNamed B.named
  have hlocks := B.notSynchronized
  have hS : va_S (fw_A xCL ad) s.heap s.heap [] := va_S.rf
  have J7 : ∀ (v : fw_V)  (H : Heap) (locs : List Loc) (ls : Array Slot), xf_De_takeOutput v0 r k1 = xf_De_takeOutput_j7 v r k1 → xI b v → va_P D vcls (fw_w xCL cA xkd ad v) H → va_S (fw_A xCL ad) s.heap H locs → lv_has ls 3 [(0, .ref (ad 19 r)), (1, .ref (ad 7 k1)), (2, .int (3 : Int32))] → W p l e (headSpec (Cond.code xy_De_takeOutput xb_De_takeOutput 3 none :: vTB) xrm_De_takeOutput).room s m ([.ref (ad 19 r), .ref (ad 7 k1)] : List Value).toArray below meth c H locs 0 0 (MQ below (fw_Qv D vcls xCL cA xkd ad (xI b) (xf_De_takeOutput v0 r k1)) ([.ref (ad 19 r), .ref (ad 7 k1)] : List Value).toArray s 0 0 (fw_A xCL ad)) (F0 m 30 ls []) := by
    intro v  H locs ls hj  hI hP hS hl
    refine lv_iload_n hx hb xd_De_takeOutput_30 rfl (lv_at hl 2 rfl) ?_
    refine lv_iconst (v := (3 : Int32)) hx hb xd_De_takeOutput_31 (by decide) ?_
    refine lv_icmp_ge (tgt := 55) hx hb xd_De_takeOutput_32 (by decide) (fun _ => ?_) (fun c_16 => absurd (by decide) c_16)
    exact fw_vret hx hb hr hlocks hS hP hI xd_De_takeOutput_55 (by rw [hj]; simp only [xf_De_takeOutput_j7])
  have J6 : ∀ (v : fw_V)  (H : Heap) (locs : List Loc) (ls : Array Slot), xf_De_takeOutput v0 r k1 = xf_De_takeOutput_j6 v r k1 → xI b v → va_P D vcls (fw_w xCL cA xkd ad v) H → va_S (fw_A xCL ad) s.heap H locs → lv_has ls 3 [(0, .ref (ad 19 r)), (1, .ref (ad 7 k1)), (2, .int (2 : Int32))] → W p l e (headSpec (Cond.code xy_De_takeOutput xb_De_takeOutput 3 none :: vTB) xrm_De_takeOutput).room s m ([.ref (ad 19 r), .ref (ad 7 k1)] : List Value).toArray below meth c H locs 0 0 (MQ below (fw_Qv D vcls xCL cA xkd ad (xI b) (xf_De_takeOutput v0 r k1)) ([.ref (ad 19 r), .ref (ad 7 k1)] : List Value).toArray s 0 0 (fw_A xCL ad)) (F0 m 49 ls []) := by
    intro v  H locs ls hj  hI hP hS hl
    refine lv_iinc (v := (3 : Int32)) (lv' := [(2, .int (3 : Int32)), (0, .ref (ad 19 r)), (1, .ref (ad 7 k1))]) hx hb xd_De_takeOutput_49 hl (k := 2) rfl (by decide) (by decide) rfl (fun ls hl => ?_)
    refine lv_goto (tgt := 30) hx hb xd_De_takeOutput_52 (by decide) ?_
    exact J7 v  _ _ _ (by rw [hj]; simp only [xf_De_takeOutput_j6])   hI hP hS (lv_sub hl [1, 2, 0] rfl)
  have J5 : ∀ (v : fw_V)  (H : Heap) (locs : List Loc) (ls : Array Slot), xf_De_takeOutput v0 r k1 = xf_De_takeOutput_j5 v r k1 → xI b v → va_P D vcls (fw_w xCL cA xkd ad v) H → va_S (fw_A xCL ad) s.heap H locs → lv_has ls 3 [(0, .ref (ad 19 r)), (1, .ref (ad 7 k1)), (2, .int (2 : Int32))] → W p l e (headSpec (Cond.code xy_De_takeOutput xb_De_takeOutput 3 none :: vTB) xrm_De_takeOutput).room s m ([.ref (ad 19 r), .ref (ad 7 k1)] : List Value).toArray below meth c H locs 0 0 (MQ below (fw_Qv D vcls xCL cA xkd ad (xI b) (xf_De_takeOutput v0 r k1)) ([.ref (ad 19 r), .ref (ad 7 k1)] : List Value).toArray s 0 0 (fw_A xCL ad)) (F0 m 30 ls []) := by
    intro v  H locs ls hj  hI hP hS hl
    clear J7
    refine lv_iload_n hx hb xd_De_takeOutput_30 rfl (lv_at hl 2 rfl) ?_
    refine lv_iconst (v := (3 : Int32)) hx hb xd_De_takeOutput_31 (by decide) ?_
    refine lv_icmp_ge (tgt := 55) hx hb xd_De_takeOutput_32 (by decide) (fun c_13 => absurd c_13 (by decide)) (fun _ => ?_)
    refine lv_aload_n hx hb xd_De_takeOutput_35 rfl (lv_at hl 0 rfl) ?_
    refine lv_iload_n hx hb xd_De_takeOutput_36 rfl (lv_at hl 2 rfl) ?_
    refine fw_cb (va_runV (As := [.int (2 : Int32)]) (rest := []) ⟨hx, hb, hml, hown, hts⟩ (xc_De_isGood l hD v hI (r) (by omega) (2 : Int32) (fw_inc (by decide))) (xw_De_isGood hts L_De_164 ⟨Nat.le_of_ble_eq_true rfl, Nat.le_of_ble_eq_true rfl⟩) (fw_preV hN hK hP (xm_19 (by omega)) (xk_19 r) rfl) rfl rfl hl.1 rfl (lv_room (Nat.le_of_ble_eq_true rfl)) xd_De_takeOutput_37 ⟨Nat.le_of_ble_eq_true rfl, Nat.le_of_ble_eq_true rfl⟩) hS (fun r14 H locs zr14 er14 hP hS => ?_)
    refine lv_if_eq (tgt := 49) hx hb xd_De_takeOutput_40 (by decide) (fun c_15 => ?_) (fun c_15 => ?_)
    · exact J6 v  _ _ _ (by rw [hj]; subst er14; simp only [xf_De_takeOutput_j5, if_pos c_15])   hI hP hS (lv_sub hl [0, 1, 2] rfl)
    · refine lv_aload_n hx hb xd_De_takeOutput_43 rfl (lv_at hl 0 rfl) ?_
      refine lv_aload_n hx hb xd_De_takeOutput_44 rfl (lv_at hl 1 rfl) ?_
      refine lv_iload_n hx hb xd_De_takeOutput_45 rfl (lv_at hl 2 rfl) ?_
      refine fw_cv (va_runV (As := [.ref (ad 7 k1), .int (2 : Int32)]) (rest := []) ⟨hx, hb, hml, hown, hts⟩ (xc_De_showRow l hD v hI (r) (by omega) (k1) (by omega) (2 : Int32) (fw_inc (by decide))) (xw_De_showRow hts L_De_178 ⟨Nat.le_of_ble_eq_true rfl, Nat.le_of_ble_eq_true rfl⟩) (fw_preV hN hK hP (xm_19 (by omega)) (xk_19 r) rfl) rfl rfl hl.1 rfl (lv_room (Nat.le_of_ble_eq_true rfl)) xd_De_takeOutput_46 ⟨Nat.le_of_ble_eq_true rfl, Nat.le_of_ble_eq_true rfl⟩) hS (fun v17 H locs ev17 hI hP hS => ?_)
      exact J6 v17  _ _ _ (by rw [hj]; subst er14 ev17; simp only [xf_De_takeOutput_j5, if_neg c_15])   hI hP hS (lv_sub hl [0, 1, 2] rfl)
  have J4 : ∀ (v : fw_V)  (H : Heap) (locs : List Loc) (ls : Array Slot), xf_De_takeOutput v0 r k1 = xf_De_takeOutput_j4 v r k1 → xI b v → va_P D vcls (fw_w xCL cA xkd ad v) H → va_S (fw_A xCL ad) s.heap H locs → lv_has ls 3 [(0, .ref (ad 19 r)), (1, .ref (ad 7 k1)), (2, .int (1 : Int32))] → W p l e (headSpec (Cond.code xy_De_takeOutput xb_De_takeOutput 3 none :: vTB) xrm_De_takeOutput).room s m ([.ref (ad 19 r), .ref (ad 7 k1)] : List Value).toArray below meth c H locs 0 0 (MQ below (fw_Qv D vcls xCL cA xkd ad (xI b) (xf_De_takeOutput v0 r k1)) ([.ref (ad 19 r), .ref (ad 7 k1)] : List Value).toArray s 0 0 (fw_A xCL ad)) (F0 m 49 ls []) := by
    intro v  H locs ls hj  hI hP hS hl
    clear J7 J6
    refine lv_iinc (v := (2 : Int32)) (lv' := [(2, .int (2 : Int32)), (0, .ref (ad 19 r)), (1, .ref (ad 7 k1))]) hx hb xd_De_takeOutput_49 hl (k := 2) rfl (by decide) (by decide) rfl (fun ls hl => ?_)
    refine lv_goto (tgt := 30) hx hb xd_De_takeOutput_52 (by decide) ?_
    exact J5 v  _ _ _ (by rw [hj]; simp only [xf_De_takeOutput_j4])   hI hP hS (lv_sub hl [1, 2, 0] rfl)
  have J3 : ∀ (v : fw_V)  (H : Heap) (locs : List Loc) (ls : Array Slot), xf_De_takeOutput v0 r k1 = xf_De_takeOutput_j3 v r k1 → xI b v → va_P D vcls (fw_w xCL cA xkd ad v) H → va_S (fw_A xCL ad) s.heap H locs → lv_has ls 3 [(0, .ref (ad 19 r)), (1, .ref (ad 7 k1)), (2, .int (1 : Int32))] → W p l e (headSpec (Cond.code xy_De_takeOutput xb_De_takeOutput 3 none :: vTB) xrm_De_takeOutput).room s m ([.ref (ad 19 r), .ref (ad 7 k1)] : List Value).toArray below meth c H locs 0 0 (MQ below (fw_Qv D vcls xCL cA xkd ad (xI b) (xf_De_takeOutput v0 r k1)) ([.ref (ad 19 r), .ref (ad 7 k1)] : List Value).toArray s 0 0 (fw_A xCL ad)) (F0 m 30 ls []) := by
    intro v  H locs ls hj  hI hP hS hl
    clear J7 J6 J5
    refine lv_iload_n hx hb xd_De_takeOutput_30 rfl (lv_at hl 2 rfl) ?_
    refine lv_iconst (v := (3 : Int32)) hx hb xd_De_takeOutput_31 (by decide) ?_
    refine lv_icmp_ge (tgt := 55) hx hb xd_De_takeOutput_32 (by decide) (fun c_10 => absurd c_10 (by decide)) (fun _ => ?_)
    refine lv_aload_n hx hb xd_De_takeOutput_35 rfl (lv_at hl 0 rfl) ?_
    refine lv_iload_n hx hb xd_De_takeOutput_36 rfl (lv_at hl 2 rfl) ?_
    refine fw_cb (va_runV (As := [.int (1 : Int32)]) (rest := []) ⟨hx, hb, hml, hown, hts⟩ (xc_De_isGood l hD v hI (r) (by omega) (1 : Int32) (fw_inc (by decide))) (xw_De_isGood hts L_De_164 ⟨Nat.le_of_ble_eq_true rfl, Nat.le_of_ble_eq_true rfl⟩) (fw_preV hN hK hP (xm_19 (by omega)) (xk_19 r) rfl) rfl rfl hl.1 rfl (lv_room (Nat.le_of_ble_eq_true rfl)) xd_De_takeOutput_37 ⟨Nat.le_of_ble_eq_true rfl, Nat.le_of_ble_eq_true rfl⟩) hS (fun r11 H locs zr11 er11 hP hS => ?_)
    refine lv_if_eq (tgt := 49) hx hb xd_De_takeOutput_40 (by decide) (fun c_12 => ?_) (fun c_12 => ?_)
    · exact J4 v  _ _ _ (by rw [hj]; subst er11; simp only [xf_De_takeOutput_j3, if_pos c_12])   hI hP hS (lv_sub hl [0, 1, 2] rfl)
    · refine lv_aload_n hx hb xd_De_takeOutput_43 rfl (lv_at hl 0 rfl) ?_
      refine lv_aload_n hx hb xd_De_takeOutput_44 rfl (lv_at hl 1 rfl) ?_
      refine lv_iload_n hx hb xd_De_takeOutput_45 rfl (lv_at hl 2 rfl) ?_
      refine fw_cv (va_runV (As := [.ref (ad 7 k1), .int (1 : Int32)]) (rest := []) ⟨hx, hb, hml, hown, hts⟩ (xc_De_showRow l hD v hI (r) (by omega) (k1) (by omega) (1 : Int32) (fw_inc (by decide))) (xw_De_showRow hts L_De_178 ⟨Nat.le_of_ble_eq_true rfl, Nat.le_of_ble_eq_true rfl⟩) (fw_preV hN hK hP (xm_19 (by omega)) (xk_19 r) rfl) rfl rfl hl.1 rfl (lv_room (Nat.le_of_ble_eq_true rfl)) xd_De_takeOutput_46 ⟨Nat.le_of_ble_eq_true rfl, Nat.le_of_ble_eq_true rfl⟩) hS (fun v18 H locs ev18 hI hP hS => ?_)
      exact J4 v18  _ _ _ (by rw [hj]; subst er11 ev18; simp only [xf_De_takeOutput_j3, if_neg c_12])   hI hP hS (lv_sub hl [0, 1, 2] rfl)
  have J2 : ∀ (v : fw_V)  (H : Heap) (locs : List Loc) (ls : Array Slot), xf_De_takeOutput v0 r k1 = xf_De_takeOutput_j2 v r k1 → xI b v → va_P D vcls (fw_w xCL cA xkd ad v) H → va_S (fw_A xCL ad) s.heap H locs → lv_has ls 3 [(0, .ref (ad 19 r)), (1, .ref (ad 7 k1)), (2, .int (0 : Int32))] → W p l e (headSpec (Cond.code xy_De_takeOutput xb_De_takeOutput 3 none :: vTB) xrm_De_takeOutput).room s m ([.ref (ad 19 r), .ref (ad 7 k1)] : List Value).toArray below meth c H locs 0 0 (MQ below (fw_Qv D vcls xCL cA xkd ad (xI b) (xf_De_takeOutput v0 r k1)) ([.ref (ad 19 r), .ref (ad 7 k1)] : List Value).toArray s 0 0 (fw_A xCL ad)) (F0 m 49 ls []) := by
    intro v  H locs ls hj  hI hP hS hl
    clear J7 J6 J5 J4
    refine lv_iinc (v := (1 : Int32)) (lv' := [(2, .int (1 : Int32)), (0, .ref (ad 19 r)), (1, .ref (ad 7 k1))]) hx hb xd_De_takeOutput_49 hl (k := 2) rfl (by decide) (by decide) rfl (fun ls hl => ?_)
    refine lv_goto (tgt := 30) hx hb xd_De_takeOutput_52 (by decide) ?_
    exact J3 v  _ _ _ (by rw [hj]; simp only [xf_De_takeOutput_j2])   hI hP hS (lv_sub hl [1, 2, 0] rfl)
  have J1 : ∀ (v : fw_V)  (H : Heap) (locs : List Loc) (ls : Array Slot), xf_De_takeOutput v0 r k1 = xf_De_takeOutput_j1 v r k1 → xI b v → va_P D vcls (fw_w xCL cA xkd ad v) H → va_S (fw_A xCL ad) s.heap H locs → lv_has ls 3 [(0, .ref (ad 19 r)), (1, .ref (ad 7 k1)), (2, .int (0 : Int32))] → W p l e (headSpec (Cond.code xy_De_takeOutput xb_De_takeOutput 3 none :: vTB) xrm_De_takeOutput).room s m ([.ref (ad 19 r), .ref (ad 7 k1)] : List Value).toArray below meth c H locs 0 0 (MQ below (fw_Qv D vcls xCL cA xkd ad (xI b) (xf_De_takeOutput v0 r k1)) ([.ref (ad 19 r), .ref (ad 7 k1)] : List Value).toArray s 0 0 (fw_A xCL ad)) (F0 m 30 ls []) := by
    intro v  H locs ls hj  hI hP hS hl
    clear J7 J6 J5 J4 J3
    refine lv_iload_n hx hb xd_De_takeOutput_30 rfl (lv_at hl 2 rfl) ?_
    refine lv_iconst (v := (3 : Int32)) hx hb xd_De_takeOutput_31 (by decide) ?_
    refine lv_icmp_ge (tgt := 55) hx hb xd_De_takeOutput_32 (by decide) (fun c_7 => absurd c_7 (by decide)) (fun _ => ?_)
    refine lv_aload_n hx hb xd_De_takeOutput_35 rfl (lv_at hl 0 rfl) ?_
    refine lv_iload_n hx hb xd_De_takeOutput_36 rfl (lv_at hl 2 rfl) ?_
    refine fw_cb (va_runV (As := [.int (0 : Int32)]) (rest := []) ⟨hx, hb, hml, hown, hts⟩ (xc_De_isGood l hD v hI (r) (by omega) (0 : Int32) (fw_inc (by decide))) (xw_De_isGood hts L_De_164 ⟨Nat.le_of_ble_eq_true rfl, Nat.le_of_ble_eq_true rfl⟩) (fw_preV hN hK hP (xm_19 (by omega)) (xk_19 r) rfl) rfl rfl hl.1 rfl (lv_room (Nat.le_of_ble_eq_true rfl)) xd_De_takeOutput_37 ⟨Nat.le_of_ble_eq_true rfl, Nat.le_of_ble_eq_true rfl⟩) hS (fun r8 H locs zr8 er8 hP hS => ?_)
    refine lv_if_eq (tgt := 49) hx hb xd_De_takeOutput_40 (by decide) (fun c_9 => ?_) (fun c_9 => ?_)
    · exact J2 v  _ _ _ (by rw [hj]; subst er8; simp only [xf_De_takeOutput_j1, if_pos c_9])   hI hP hS (lv_sub hl [0, 1, 2] rfl)
    · refine lv_aload_n hx hb xd_De_takeOutput_43 rfl (lv_at hl 0 rfl) ?_
      refine lv_aload_n hx hb xd_De_takeOutput_44 rfl (lv_at hl 1 rfl) ?_
      refine lv_iload_n hx hb xd_De_takeOutput_45 rfl (lv_at hl 2 rfl) ?_
      refine fw_cv (va_runV (As := [.ref (ad 7 k1), .int (0 : Int32)]) (rest := []) ⟨hx, hb, hml, hown, hts⟩ (xc_De_showRow l hD v hI (r) (by omega) (k1) (by omega) (0 : Int32) (fw_inc (by decide))) (xw_De_showRow hts L_De_178 ⟨Nat.le_of_ble_eq_true rfl, Nat.le_of_ble_eq_true rfl⟩) (fw_preV hN hK hP (xm_19 (by omega)) (xk_19 r) rfl) rfl rfl hl.1 rfl (lv_room (Nat.le_of_ble_eq_true rfl)) xd_De_takeOutput_46 ⟨Nat.le_of_ble_eq_true rfl, Nat.le_of_ble_eq_true rfl⟩) hS (fun v19 H locs ev19 hI hP hS => ?_)
      exact J2 v19  _ _ _ (by rw [hj]; subst er8 ev19; simp only [xf_De_takeOutput_j1, if_neg c_9])   hI hP hS (lv_sub hl [0, 1, 2] rfl)
  clear J7 J6 J5 J4 J3 J2
  have hl := lv_entry ([.ref (ad 19 r), .ref (ad 7 k1)]) (n := 3) (Nat.le_of_ble_eq_true rfl)
  rw [lg_entry_eq]
  generalize (lg_sl ([.ref (ad 19 r), .ref (ad 7 k1)]) ++ List.replicate (3 - (lg_sl ([.ref (ad 19 r), .ref (ad 7 k1)])).length) Slot.unset).toArray = ls at hl ⊢
  have hl : lv_has ls 3 [(0, .ref (ad 19 r)), (1, .ref (ad 7 k1))] := hl
  refine lv_aload_n hx hb xd_De_takeOutput_0 rfl (lv_at hl 0 rfl) ?_
  refine fw_geti hx hb hts i_De hown hK hP (xm_19 (by omega)) (xk_19 r) rfl 11 (by decide) (hts _ L_De_62) (fun _ h9 => h9) rfl xd_De_takeOutput_1 ?_
  refine lv_iconst (v := (3 : Int32)) hx hb xd_De_takeOutput_4 (by decide) ?_
  refine lv_icmp_ne (tgt := 22) hx hb xd_De_takeOutput_5 (by decide) (fun c_1 => ?_) (fun c_1 => ?_)
  · exact fw_vret hx hb hr hlocks hS hP hI xd_De_takeOutput_22 (by simp only [xf_De_takeOutput, if_neg c_1])
  · refine lv_aload_n hx hb xd_De_takeOutput_8 rfl (lv_at hl 0 rfl) ?_
    refine fw_getr hx hb hts i_De hown hK hP (xm_19 (by omega)) (xk_19 r) rfl 3 (by decide) (hts _ L_De_12) (fun _ h9 => h9) rfl xd_De_takeOutput_9 ?_
    refine lv_aload_n hx hb xd_De_takeOutput_12 rfl (lv_at hl 1 rfl) ?_
    refine fw_geti hx hb hts i_Fm hown hK hP (xm_7 (by omega)) (xk_7 k1) rfl 2 (by decide) (hts _ L_De_88) (fun _ h9 => h9) rfl xd_De_takeOutput_13 ?_
    refine fw_cz (va_runV (As := [.int (v0 7 k1 2)]) (rest := []) ⟨hx, hb, hml, hown, hts⟩ (xc_Cy_takes l hD v0 hI ((r + 2)) (by omega) (v0 7 k1 2)) (xw_Cy_takes hts L_De_175 ⟨Nat.le_of_ble_eq_true rfl, Nat.le_of_ble_eq_true rfl⟩) (fw_preV hN hK hP (xm_14 (by omega)) (xk_14 (r + 2)) rfl) rfl rfl hl.1 rfl (lv_room (Nat.le_of_ble_eq_true rfl)) xd_De_takeOutput_16 ⟨Nat.le_of_ble_eq_true rfl, Nat.le_of_ble_eq_true rfl⟩) hS (fun r2 v3 H locs zr2 er2 ev3 hI hP hS => ?_)
    refine lv_if_ne (tgt := 23) hx hb xd_De_takeOutput_19 (by decide) (fun c_5 => ?_) (fun c_5 => ?_)
    · refine lv_aload_n hx hb xd_De_takeOutput_23 rfl (lv_at hl 0 rfl) ?_
      refine lv_iconst (v := (0 : Int32)) hx hb xd_De_takeOutput_24 (by decide) ?_
      refine fw_puti hx hb hts i_De t_De t_De_ok n_De hown hK hD hP hS (xm_19 (by omega)) (xk_19 r) rfl 16 (by decide) (hts _ L_De_120) (fun _ h9 => h9) rfl fw_pdI rfl rfl rfl xd_De_takeOutput_25 (fun v6 H locs ev6 hP hS => ?_)
      have hI : xI b v6 := by rw [ev6]; exact xI_up hI trivial trivial
      refine lv_iconst (v := (0 : Int32)) hx hb xd_De_takeOutput_28 (by decide) ?_
      refine lv_istore_n (lv' := [(2, .int (0 : Int32)), (0, .ref (ad 19 r)), (1, .ref (ad 7 k1))]) hx hb xd_De_takeOutput_29 rfl hl (by decide) rfl (fun ls hl => ?_)
      exact J1 v6  _ _ _ (by subst er2 ev3 ev6; simp only [xf_De_takeOutput, if_pos c_1, if_neg c_5])   hI hP hS (lv_sub hl [1, 2, 0] rfl)
    · exact fw_vret hx hb hr hlocks hS hP hI xd_De_takeOutput_22 (by subst er2 ev3; simp only [xf_De_takeOutput, if_pos c_1, if_pos c_5])

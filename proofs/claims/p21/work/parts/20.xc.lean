def xf_FR_within (a1 : Int32) (a2 : Int32) (a3 : Int32) : Int32 :=
  if a1 < a2 then
    (0 : Int32)
  else
    if a3 < a1 then
      (0 : Int32)
    else
      (1 : Int32)

theorem xp_w {a lo hi : Int32} (c : ¬ xf_FR_within a lo hi = 0) : lo.toInt ≤ a.toInt ∧ a.toInt ≤ hi.toInt := by
  unfold xf_FR_within at c
  by_cases h1 : a < lo
  · rw [if_pos h1] at c; exact absurd rfl c
  · by_cases h2 : hi < a
    · rw [if_neg h1, if_pos h2] at c; exact absurd rfl c
    · rw [Int32.lt_iff_toInt_lt] at h1 h2; omega
theorem xp_in {a hi : Int32} {n : Nat} (c : ¬ xf_FR_within a 0 hi = 0) (hh : hi.toInt + 1 = (n : Int)) : vp_in a n := by
  have h := xp_w c
  have e0 : (0 : Int32).toInt = 0 := by decide
  rw [vp_in_iff]; omega
theorem xp_within {r a hi : Int32} {n : Nat} (er : r = xf_FR_within a 0 hi) (c : ¬ r = 0) (hh : hi.toInt + 1 = (n : Int)) : vp_in a n := xp_in (by rw [← er]; exact c) hh
theorem xp_rng {r a lo hi : Int32} (er : r = xf_FR_within a lo hi) (c : ¬ r = 0) : lo.toInt ≤ a.toInt ∧ a.toInt ≤ hi.toInt := xp_w (by rw [← er]; exact c)
theorem xp_tell {r a : Int32} (er : r = xf_FR_within a 4 10) (c : ¬ r = 0) : vp_in (a - 4) 7 := by
  have h := xp_rng er c
  have e4 : (4 : Int32).toInt = 4 := by decide
  have e10 : (10 : Int32).toInt = 10 := by decide
  obtain ⟨j, hj, e, ej⟩ := fw_nI (x := a) (by omega)
  rw [e, show (4 : Int32) = nI 4 from rfl, pk_sub (by omega)]
  exact vp_in_nI (by omega) (by decide)
theorem xp_latest {r k t : Int32} (er : r = xf_FR_within k 0 ((if (8 : Int32) < t then (8 : Int32) else t) - 1)) (c : ¬ r = 0) (h : 0 ≤ t.toInt) : vp_in (((t - 1) - k) - ((t - 1) - k) / 8 * 8) 8 := by
  have hw := xp_rng er c
  have e0 : (0 : Int32).toInt = 0 := by decide
  obtain ⟨j, hj, e, ej⟩ := fw_nI (x := t) h
  obtain ⟨q, hq, e2, eq⟩ := fw_nI (x := k) (by omega)
  have hm : ((if (8 : Int32) < t then (8 : Int32) else t) - 1).toInt ≤ t.toInt - 1 := by
    by_cases h8 : (8 : Int32) < t
    · rw [if_pos h8]
      rw [Int32.lt_iff_toInt_lt] at h8
      have e8 : (8 : Int32).toInt = 8 := by decide
      have e7 : ((8 : Int32) - 1).toInt = 7 := by decide
      omega
    · rw [if_neg h8, fw_pred (n := 9) (vp_in_iff.mpr ⟨h, by
        rw [Int32.lt_iff_toInt_lt] at h8
        have e8 : (8 : Int32).toInt = 8 := by decide
        omega⟩) (by decide)]
      omega
  have hqj : q + 1 ≤ j := by omega
  apply fw_rem8
  rw [e, e2, show (1 : Int32) = nI 1 from rfl, pk_sub (by omega), pk_sub (by omega), nI_toInt (by omega)]
  omega
set_option maxHeartbeats 4000000 in
set_option maxRecDepth 100000 in
theorem xc_FR_within (l : Launch) {D : va_G} {cA : Nat → ClassId} {ad : Nat → Nat → Nat} (hD : fw_D xCL ad) {b : Nat} (v0 : fw_V) (hI : xI b v0) (a1 : Int32) (a2 : Int32) (a3 : Int32)  : Met l xy_FR_within (Cond.code xy_FR_within xb_FR_within 3 (some .boolean) :: vTB) xrm_FR_within (fw_Pc vNL D vcls (vtys cA) xCL cA xkd ad v0 [.int a1, .int a2, .int a3]) (fw_Qb D vcls xCL cA xkd ad v0 (xf_FR_within a1 a2 a3)) 0 0 (fw_A xCL ad) := by
  refine Met.ofW (cc := xb_FR_within) (maxL := 3) (ret := (some .boolean)) (by decide) rfl ?_
  intro p e s m args below meth c s₁ B hml hv
  obtain ⟨rfl, hP, hK, hN⟩ := hv
  have hx := B.exec
  have hb := B.bytes
  have hr := B.returns
  have hts : ∀ w ∈ vTB, w.before ([.int a1, .int a2, .int a3] : List Value).toArray s = true := fun w h => atoms_spec (ws := (Cond.code xy_FR_within xb_FR_within 3 (some .boolean) :: vTB)) B.pre w (List.mem_cons_of_mem _ h)
  have hown : s.vm.findClass R_FR = some m.cls := findClass_of_methodNamed B.named
  have hlocks := B.notSynchronized
  have hS : va_S (fw_A xCL ad) s.heap s.heap [] := va_S.rf
  skip
  have hl := lv_entry ([.int a1, .int a2, .int a3]) (n := 3) (Nat.le_of_ble_eq_true rfl)
  rw [lg_entry_eq]
  generalize (lg_sl ([.int a1, .int a2, .int a3]) ++ List.replicate (3 - (lg_sl ([.int a1, .int a2, .int a3])).length) Slot.unset).toArray = ls at hl ⊢
  have hl : lv_has ls 3 [(0, .int a1), (1, .int a2), (2, .int a3)] := hl
  refine lv_iload_n hx hb xd_FR_within_0 rfl (lv_at hl 0 rfl) ?_
  refine lv_iload_n hx hb xd_FR_within_1 rfl (lv_at hl 1 rfl) ?_
  refine lv_icmp_lt (tgt := 14) hx hb xd_FR_within_2 (by decide) (fun c_1 => ?_) (fun c_1 => ?_)
  · refine lv_iconst (v := (0 : Int32)) hx hb xd_FR_within_14 (by decide) ?_
    exact fw_bret hx hb hr hlocks hS hP xd_FR_within_15 (by decide) (by simp only [xf_FR_within, if_pos c_1])
  · refine lv_iload_n hx hb xd_FR_within_5 rfl (lv_at hl 0 rfl) ?_
    refine lv_iload_n hx hb xd_FR_within_6 rfl (lv_at hl 2 rfl) ?_
    refine lv_icmp_gt (tgt := 14) hx hb xd_FR_within_7 (by decide) (fun c_2 => ?_) (fun c_2 => ?_)
    · refine lv_iconst (v := (0 : Int32)) hx hb xd_FR_within_14 (by decide) ?_
      exact fw_bret hx hb hr hlocks hS hP xd_FR_within_15 (by decide) (by simp only [xf_FR_within, if_neg c_1, if_pos c_2])
    · refine lv_iconst (v := (1 : Int32)) hx hb xd_FR_within_10 (by decide) ?_
      refine lv_goto (tgt := 15) hx hb xd_FR_within_11 (by decide) ?_
      exact fw_bret hx hb hr hlocks hS hP xd_FR_within_15 (by decide) (by simp only [xf_FR_within, if_neg c_1, if_neg c_2])
def xf_FR_isKind (a1 : Int32) : Int32 :=
  let r1 := xf_FR_within a1 (0 : Int32) (7 : Int32)
  r1

theorem xp_FR_isKind {r d : Int32} (er : r = xf_FR_isKind d) (c : ¬ r = 0) : vp_in d 8 := xp_in (a := d) (hi := 7) (by rw [er] at c; exact c) (by decide)
set_option maxHeartbeats 4000000 in
set_option maxRecDepth 100000 in
theorem xc_FR_isKind (l : Launch) {D : va_G} {cA : Nat → ClassId} {ad : Nat → Nat → Nat} (hD : fw_D xCL ad) {b : Nat} (v0 : fw_V) (hI : xI b v0) (a1 : Int32)  : Met l xy_FR_isKind (Cond.code xy_FR_isKind xb_FR_isKind 1 (some .boolean) :: vTB) xrm_FR_isKind (fw_Pc vNL D vcls (vtys cA) xCL cA xkd ad v0 [.int a1]) (fw_Qb D vcls xCL cA xkd ad v0 (xf_FR_isKind a1)) 0 0 (fw_A xCL ad) := by
  refine Met.ofW (cc := xb_FR_isKind) (maxL := 1) (ret := (some .boolean)) (by decide) rfl ?_
  intro p e s m args below meth c s₁ B hml hv
  obtain ⟨rfl, hP, hK, hN⟩ := hv
  have hx := B.exec
  have hb := B.bytes
  have hr := B.returns
  have hts : ∀ w ∈ vTB, w.before ([.int a1] : List Value).toArray s = true := fun w h => atoms_spec (ws := (Cond.code xy_FR_isKind xb_FR_isKind 1 (some .boolean) :: vTB)) B.pre w (List.mem_cons_of_mem _ h)
  have hown : s.vm.findClass R_FR = some m.cls := findClass_of_methodNamed B.named
  have hlocks := B.notSynchronized
  have hS : va_S (fw_A xCL ad) s.heap s.heap [] := va_S.rf
  skip
  have hl := lv_entry ([.int a1]) (n := 1) (Nat.le_of_ble_eq_true rfl)
  rw [lg_entry_eq]
  generalize (lg_sl ([.int a1]) ++ List.replicate (1 - (lg_sl ([.int a1])).length) Slot.unset).toArray = ls at hl ⊢
  have hl : lv_has ls 1 [(0, .int a1)] := hl
  refine lv_iload_n hx hb xd_FR_isKind_0 rfl (lv_at hl 0 rfl) ?_
  refine lv_iconst (v := (0 : Int32)) hx hb xd_FR_isKind_1 (by decide) ?_
  refine lv_bipush (v := (7 : Int32)) hx hb xd_FR_isKind_2 (by decide) ?_
  refine fw_cb (va_runS (As := [.int a1, .int (0 : Int32), .int (7 : Int32)]) (rest := []) ⟨hx, hb, hml, hown, hts⟩ (xc_FR_within l hD v0 hI a1 (0 : Int32) (7 : Int32)) (xw_FR_within hts L_FR_52 ⟨Nat.le_of_ble_eq_true rfl, Nat.le_of_ble_eq_true rfl⟩) (fw_preS hN hK hP) rfl rfl hl.1 rfl (lv_room (Nat.le_of_ble_eq_true rfl)) xd_FR_isKind_4 ⟨Nat.le_of_ble_eq_true rfl, Nat.le_of_ble_eq_true rfl⟩) hS (fun r1 H locs zr1 er1 hP hS => ?_)
  exact fw_bret hx hb hr hlocks hS hP xd_FR_isKind_7 zr1 (by subst er1; simp only [xf_FR_isKind])
def xf_Re_isClosed (v0 : fw_V) (r : Nat) : Int32 :=
  if (v0 13 r 10) = (0 : Int32) then
    (1 : Int32)
  else
    (0 : Int32)

set_option maxHeartbeats 4000000 in
set_option maxRecDepth 100000 in
theorem xc_Re_isClosed (l : Launch) {D : va_G} {cA : Nat → ClassId} {ad : Nat → Nat → Nat} (hD : fw_D xCL ad) {b : Nat} (v0 : fw_V) (hI : xI b v0) (r : Nat) (hr0 : r < 2)  : Met l xy_Re_isClosed (Cond.code xy_Re_isClosed xb_Re_isClosed 1 (some .boolean) :: vTB) xrm_Re_isClosed (fw_Pc vNL D vcls (vtys cA) xCL cA xkd ad v0 [.ref (ad 13 r)]) (fw_Qb D vcls xCL cA xkd ad v0 (xf_Re_isClosed v0 r)) 0 0 (fw_A xCL ad) := by
  refine Met.ofW (cc := xb_Re_isClosed) (maxL := 1) (ret := (some .boolean)) (by decide) rfl ?_
  intro p e s m args below meth c s₁ B hml hv
  obtain ⟨rfl, hP, hK, hN⟩ := hv
  have hx := B.exec
  have hb := B.bytes
  have hr := B.returns
  have hts : ∀ w ∈ vTB, w.before ([.ref (ad 13 r)] : List Value).toArray s = true := fun w h => atoms_spec (ws := (Cond.code xy_Re_isClosed xb_Re_isClosed 1 (some .boolean) :: vTB)) B.pre w (List.mem_cons_of_mem _ h)
  have hown : s.vm.findClass R_Re = some m.cls := findClass_of_methodNamed B.named
  have hlocks := B.notSynchronized
  have hS : va_S (fw_A xCL ad) s.heap s.heap [] := va_S.rf
  skip
  have hl := lv_entry ([.ref (ad 13 r)]) (n := 1) (Nat.le_of_ble_eq_true rfl)
  rw [lg_entry_eq]
  generalize (lg_sl ([.ref (ad 13 r)]) ++ List.replicate (1 - (lg_sl ([.ref (ad 13 r)])).length) Slot.unset).toArray = ls at hl ⊢
  have hl : lv_has ls 1 [(0, .ref (ad 13 r))] := hl
  refine lv_aload_n hx hb xd_Re_isClosed_0 rfl (lv_at hl 0 rfl) ?_
  refine fw_geti hx hb hts i_Re hown hK hP (xm_13 (by omega)) (xk_13 r) rfl 10 (by decide) (hts _ L_Re_56) (fun _ h9 => h9) rfl xd_Re_isClosed_1 ?_
  refine lv_if_ne (tgt := 11) hx hb xd_Re_isClosed_4 (by decide) (fun c_1 => ?_) (fun c_1 => ?_)
  · refine lv_iconst (v := (0 : Int32)) hx hb xd_Re_isClosed_11 (by decide) ?_
    exact fw_bret hx hb hr hlocks hS hP xd_Re_isClosed_12 (by decide) (by simp only [xf_Re_isClosed, if_neg c_1])
  · refine lv_iconst (v := (1 : Int32)) hx hb xd_Re_isClosed_7 (by decide) ?_
    refine lv_goto (tgt := 12) hx hb xd_Re_isClosed_8 (by decide) ?_
    exact fw_bret hx hb hr hlocks hS hP xd_Re_isClosed_12 (by decide) (by simp only [xf_Re_isClosed, if_pos c_1])
def xf_De_isIdle (v0 : fw_V) (r : Nat) : Int32 :=
  if (v0 19 r 11) = (0 : Int32) then
    (1 : Int32)
  else
    (0 : Int32)

set_option maxHeartbeats 4000000 in
set_option maxRecDepth 100000 in
theorem xc_De_isIdle (l : Launch) {D : va_G} {cA : Nat → ClassId} {ad : Nat → Nat → Nat} (hD : fw_D xCL ad) {b : Nat} (v0 : fw_V) (hI : xI b v0) (r : Nat) (hr0 : r < 2)  : Met l xy_De_isIdle (Cond.code xy_De_isIdle xb_De_isIdle 1 (some .boolean) :: vTB) xrm_De_isIdle (fw_Pc vNL D vcls (vtys cA) xCL cA xkd ad v0 [.ref (ad 19 r)]) (fw_Qb D vcls xCL cA xkd ad v0 (xf_De_isIdle v0 r)) 0 0 (fw_A xCL ad) := by
  refine Met.ofW (cc := xb_De_isIdle) (maxL := 1) (ret := (some .boolean)) (by decide) rfl ?_
  intro p e s m args below meth c s₁ B hml hv
  obtain ⟨rfl, hP, hK, hN⟩ := hv
  have hx := B.exec
  have hb := B.bytes
  have hr := B.returns
  have hts : ∀ w ∈ vTB, w.before ([.ref (ad 19 r)] : List Value).toArray s = true := fun w h => atoms_spec (ws := (Cond.code xy_De_isIdle xb_De_isIdle 1 (some .boolean) :: vTB)) B.pre w (List.mem_cons_of_mem _ h)
  have hown : s.vm.findClass R_De = some m.cls := findClass_of_methodNamed B.named
  have hlocks := B.notSynchronized
  have hS : va_S (fw_A xCL ad) s.heap s.heap [] := va_S.rf
  skip
  have hl := lv_entry ([.ref (ad 19 r)]) (n := 1) (Nat.le_of_ble_eq_true rfl)
  rw [lg_entry_eq]
  generalize (lg_sl ([.ref (ad 19 r)]) ++ List.replicate (1 - (lg_sl ([.ref (ad 19 r)])).length) Slot.unset).toArray = ls at hl ⊢
  have hl : lv_has ls 1 [(0, .ref (ad 19 r))] := hl
  refine lv_aload_n hx hb xd_De_isIdle_0 rfl (lv_at hl 0 rfl) ?_
  refine fw_geti hx hb hts i_De hown hK hP (xm_19 (by omega)) (xk_19 r) rfl 11 (by decide) (hts _ L_De_62) (fun _ h9 => h9) rfl xd_De_isIdle_1 ?_
  refine lv_if_ne (tgt := 11) hx hb xd_De_isIdle_4 (by decide) (fun c_1 => ?_) (fun c_1 => ?_)
  · refine lv_iconst (v := (0 : Int32)) hx hb xd_De_isIdle_11 (by decide) ?_
    exact fw_bret hx hb hr hlocks hS hP xd_De_isIdle_12 (by decide) (by simp only [xf_De_isIdle, if_neg c_1])
  · refine lv_iconst (v := (1 : Int32)) hx hb xd_De_isIdle_7 (by decide) ?_
    refine lv_goto (tgt := 12) hx hb xd_De_isIdle_8 (by decide) ?_
    exact fw_bret hx hb hr hlocks hS hP xd_De_isIdle_12 (by decide) (by simp only [xf_De_isIdle, if_pos c_1])
def xf_FR_allAtRest_j3 (v0 : fw_V)   : Int32 :=
  (1 : Int32)
def xf_FR_allAtRest_j2 (v0 : fw_V)   : Int32 :=
  let r7 := xf_Re_isClosed v0 (1)
  if r7 = (0 : Int32) then
    (0 : Int32)
  else
    let r9 := xf_De_isIdle v0 (1)
    if r9 = (0 : Int32) then
      (0 : Int32)
    else
      xf_FR_allAtRest_j3 v0
def xf_FR_allAtRest_j1 (v0 : fw_V)   : Int32 :=
  let r2 := xf_Re_isClosed v0 (0)
  if r2 = (0 : Int32) then
    (0 : Int32)
  else
    let r4 := xf_De_isIdle v0 (0)
    if r4 = (0 : Int32) then
      (0 : Int32)
    else
      xf_FR_allAtRest_j2 v0
def xf_FR_allAtRest (v0 : fw_V) : Int32 :=
  xf_FR_allAtRest_j1 v0

set_option maxHeartbeats 4000000 in
set_option maxRecDepth 100000 in
theorem xc_FR_allAtRest (l : Launch) {D : va_G} {cA : Nat → ClassId} {ad : Nat → Nat → Nat} (hD : fw_D xCL ad) {b : Nat} (v0 : fw_V) (hI : xI b v0)   : Met l xy_FR_allAtRest (Cond.code xy_FR_allAtRest xb_FR_allAtRest 2 (some .boolean) :: vTB) xrm_FR_allAtRest (fw_Pc vNL D vcls (vtys cA) xCL cA xkd ad v0 [.ref (ad 0 0)]) (fw_Qb D vcls xCL cA xkd ad v0 (xf_FR_allAtRest v0)) 0 0 (fw_A xCL ad) := by
  refine Met.ofW (cc := xb_FR_allAtRest) (maxL := 2) (ret := (some .boolean)) (by decide) rfl ?_
  intro p e s m args below meth c s₁ B hml hv
  obtain ⟨rfl, hP, hK, hN⟩ := hv
  have hx := B.exec
  have hb := B.bytes
  have hr := B.returns
  have hts : ∀ w ∈ vTB, w.before ([.ref (ad 0 0)] : List Value).toArray s = true := fun w h => atoms_spec (ws := (Cond.code xy_FR_allAtRest xb_FR_allAtRest 2 (some .boolean) :: vTB)) B.pre w (List.mem_cons_of_mem _ h)
  have hown : s.vm.findClass R_FR = some m.cls := findClass_of_methodNamed B.named
  have hlocks := B.notSynchronized
  have hS : va_S (fw_A xCL ad) s.heap s.heap [] := va_S.rf
  have J3 : ∀  (H : Heap) (locs : List Loc) (ls : Array Slot), xf_FR_allAtRest v0 = xf_FR_allAtRest_j3 v0 → xI b v0 → va_P D vcls (fw_w xCL cA xkd ad v0) H → va_S (fw_A xCL ad) s.heap H locs → lv_has ls 2 [(0, .ref (ad 0 0)), (1, .int (2 : Int32))] → W p l e (headSpec (Cond.code xy_FR_allAtRest xb_FR_allAtRest 2 (some .boolean) :: vTB) xrm_FR_allAtRest).room s m ([.ref (ad 0 0)] : List Value).toArray below meth c H locs 0 0 (MQ below (fw_Qb D vcls xCL cA xkd ad v0 (xf_FR_allAtRest v0)) ([.ref (ad 0 0)] : List Value).toArray s 0 0 (fw_A xCL ad)) (F0 m 2 ls []) := by
    intro  H locs ls hj  hI hP hS hl
    refine lv_iload_n hx hb xd_FR_allAtRest_2 rfl (lv_at hl 1 rfl) ?_
    refine lv_iconst (v := (2 : Int32)) hx hb xd_FR_allAtRest_3 (by decide) ?_
    refine lv_icmp_ge (tgt := 39) hx hb xd_FR_allAtRest_4 (by decide) (fun _ => ?_) (fun c_11 => absurd (by decide) c_11)
    refine lv_iconst (v := (1 : Int32)) hx hb xd_FR_allAtRest_39 (by decide) ?_
    exact fw_bret hx hb hr hlocks hS hP xd_FR_allAtRest_40 (by decide) (by rw [hj]; simp only [xf_FR_allAtRest_j3])
  have J2 : ∀  (H : Heap) (locs : List Loc) (ls : Array Slot), xf_FR_allAtRest v0 = xf_FR_allAtRest_j2 v0 → xI b v0 → va_P D vcls (fw_w xCL cA xkd ad v0) H → va_S (fw_A xCL ad) s.heap H locs → lv_has ls 2 [(0, .ref (ad 0 0)), (1, .int (1 : Int32))] → W p l e (headSpec (Cond.code xy_FR_allAtRest xb_FR_allAtRest 2 (some .boolean) :: vTB) xrm_FR_allAtRest).room s m ([.ref (ad 0 0)] : List Value).toArray below meth c H locs 0 0 (MQ below (fw_Qb D vcls xCL cA xkd ad v0 (xf_FR_allAtRest v0)) ([.ref (ad 0 0)] : List Value).toArray s 0 0 (fw_A xCL ad)) (F0 m 2 ls []) := by
    intro  H locs ls hj  hI hP hS hl
    refine lv_iload_n hx hb xd_FR_allAtRest_2 rfl (lv_at hl 1 rfl) ?_
    refine lv_iconst (v := (2 : Int32)) hx hb xd_FR_allAtRest_3 (by decide) ?_
    refine lv_icmp_ge (tgt := 39) hx hb xd_FR_allAtRest_4 (by decide) (fun c_6 => absurd c_6 (by decide)) (fun _ => ?_)
    refine lv_aload_n hx hb xd_FR_allAtRest_7 rfl (lv_at hl 0 rfl) ?_
    refine fw_getr hx hb hts i_FR hown hK hP (xm_0 (by decide)) (xk_0 0) rfl 3 (by decide) (hts _ L_FR_32) (fun _ h9 => h9) rfl xd_FR_allAtRest_8 ?_
    refine lv_iload_n hx hb xd_FR_allAtRest_11 rfl (lv_at hl 1 rfl) ?_
    refine fw_alds hx hb hK hP (xm_11 (by decide)) (xk_11 0) 3 rfl (j := 1) (by decide) (fw_inc (by decide)) xd_FR_allAtRest_12 ?_
    refine fw_cb (va_runV (As := []) (rest := []) ⟨hx, hb, hml, hown, hts⟩ (xc_Re_isClosed l hD v0 hI (1) (by omega)) (xw_Re_isClosed hts L_FR_99 ⟨Nat.le_of_ble_eq_true rfl, Nat.le_of_ble_eq_true rfl⟩) (fw_preV hN hK hP (xm_13 (by decide)) (xk_13 1) rfl) rfl rfl hl.1 rfl (lv_room (Nat.le_of_ble_eq_true rfl)) xd_FR_allAtRest_13 ⟨Nat.le_of_ble_eq_true rfl, Nat.le_of_ble_eq_true rfl⟩) hS (fun r7 H locs zr7 er7 hP hS => ?_)
    refine lv_if_eq (tgt := 31) hx hb xd_FR_allAtRest_16 (by decide) (fun c_8 => ?_) (fun c_8 => ?_)
    · refine lv_iconst (v := (0 : Int32)) hx hb xd_FR_allAtRest_31 (by decide) ?_
      exact fw_bret hx hb hr hlocks hS hP xd_FR_allAtRest_32 (by decide) (by rw [hj]; subst er7; simp only [xf_FR_allAtRest_j2, if_pos c_8])
    · refine lv_aload_n hx hb xd_FR_allAtRest_19 rfl (lv_at hl 0 rfl) ?_
      refine fw_getr hx hb hts i_FR hown hK hP (xm_0 (by decide)) (xk_0 0) rfl 4 (by decide) (hts _ L_FR_38) (fun _ h9 => h9) rfl xd_FR_allAtRest_20 ?_
      refine lv_iload_n hx hb xd_FR_allAtRest_23 rfl (lv_at hl 1 rfl) ?_
      refine fw_alds hx hb hK hP (xm_12 (by decide)) (xk_12 0) 4 rfl (j := 1) (by decide) (fw_inc (by decide)) xd_FR_allAtRest_24 ?_
      refine fw_cb (va_runV (As := []) (rest := []) ⟨hx, hb, hml, hown, hts⟩ (xc_De_isIdle l hD v0 hI (1) (by omega)) (xw_De_isIdle hts L_FR_194 ⟨Nat.le_of_ble_eq_true rfl, Nat.le_of_ble_eq_true rfl⟩) (fw_preV hN hK hP (xm_19 (by decide)) (xk_19 1) rfl) rfl rfl hl.1 rfl (lv_room (Nat.le_of_ble_eq_true rfl)) xd_FR_allAtRest_25 ⟨Nat.le_of_ble_eq_true rfl, Nat.le_of_ble_eq_true rfl⟩) hS (fun r9 H locs zr9 er9 hP hS => ?_)
      refine lv_if_ne (tgt := 33) hx hb xd_FR_allAtRest_28 (by decide) (fun c_10 => ?_) (fun c_10 => ?_)
      · refine lv_iinc (v := (2 : Int32)) (lv' := [(1, .int (2 : Int32)), (0, .ref (ad 0 0))]) hx hb xd_FR_allAtRest_33 hl (k := 1) rfl (by decide) (by decide) rfl (fun ls hl => ?_)
        refine lv_goto (tgt := 2) hx hb xd_FR_allAtRest_36 (by decide) ?_
        exact J3  _ _ _ (by rw [hj]; subst er7 er9; simp only [xf_FR_allAtRest_j2, if_neg c_8, if_neg c_10])   hI hP hS (lv_sub hl [1, 0] rfl)
      · refine lv_iconst (v := (0 : Int32)) hx hb xd_FR_allAtRest_31 (by decide) ?_
        exact fw_bret hx hb hr hlocks hS hP xd_FR_allAtRest_32 (by decide) (by rw [hj]; subst er7 er9; simp only [xf_FR_allAtRest_j2, if_neg c_8, if_pos c_10])
  have J1 : ∀  (H : Heap) (locs : List Loc) (ls : Array Slot), xf_FR_allAtRest v0 = xf_FR_allAtRest_j1 v0 → xI b v0 → va_P D vcls (fw_w xCL cA xkd ad v0) H → va_S (fw_A xCL ad) s.heap H locs → lv_has ls 2 [(0, .ref (ad 0 0)), (1, .int (0 : Int32))] → W p l e (headSpec (Cond.code xy_FR_allAtRest xb_FR_allAtRest 2 (some .boolean) :: vTB) xrm_FR_allAtRest).room s m ([.ref (ad 0 0)] : List Value).toArray below meth c H locs 0 0 (MQ below (fw_Qb D vcls xCL cA xkd ad v0 (xf_FR_allAtRest v0)) ([.ref (ad 0 0)] : List Value).toArray s 0 0 (fw_A xCL ad)) (F0 m 2 ls []) := by
    intro  H locs ls hj  hI hP hS hl
    clear J3
    refine lv_iload_n hx hb xd_FR_allAtRest_2 rfl (lv_at hl 1 rfl) ?_
    refine lv_iconst (v := (2 : Int32)) hx hb xd_FR_allAtRest_3 (by decide) ?_
    refine lv_icmp_ge (tgt := 39) hx hb xd_FR_allAtRest_4 (by decide) (fun c_1 => absurd c_1 (by decide)) (fun _ => ?_)
    refine lv_aload_n hx hb xd_FR_allAtRest_7 rfl (lv_at hl 0 rfl) ?_
    refine fw_getr hx hb hts i_FR hown hK hP (xm_0 (by decide)) (xk_0 0) rfl 3 (by decide) (hts _ L_FR_32) (fun _ h9 => h9) rfl xd_FR_allAtRest_8 ?_
    refine lv_iload_n hx hb xd_FR_allAtRest_11 rfl (lv_at hl 1 rfl) ?_
    refine fw_alds hx hb hK hP (xm_11 (by decide)) (xk_11 0) 3 rfl (j := 0) (by decide) (fw_inc (by decide)) xd_FR_allAtRest_12 ?_
    refine fw_cb (va_runV (As := []) (rest := []) ⟨hx, hb, hml, hown, hts⟩ (xc_Re_isClosed l hD v0 hI (0) (by omega)) (xw_Re_isClosed hts L_FR_99 ⟨Nat.le_of_ble_eq_true rfl, Nat.le_of_ble_eq_true rfl⟩) (fw_preV hN hK hP (xm_13 (by decide)) (xk_13 0) rfl) rfl rfl hl.1 rfl (lv_room (Nat.le_of_ble_eq_true rfl)) xd_FR_allAtRest_13 ⟨Nat.le_of_ble_eq_true rfl, Nat.le_of_ble_eq_true rfl⟩) hS (fun r2 H locs zr2 er2 hP hS => ?_)
    refine lv_if_eq (tgt := 31) hx hb xd_FR_allAtRest_16 (by decide) (fun c_3 => ?_) (fun c_3 => ?_)
    · refine lv_iconst (v := (0 : Int32)) hx hb xd_FR_allAtRest_31 (by decide) ?_
      exact fw_bret hx hb hr hlocks hS hP xd_FR_allAtRest_32 (by decide) (by rw [hj]; subst er2; simp only [xf_FR_allAtRest_j1, if_pos c_3])
    · refine lv_aload_n hx hb xd_FR_allAtRest_19 rfl (lv_at hl 0 rfl) ?_
      refine fw_getr hx hb hts i_FR hown hK hP (xm_0 (by decide)) (xk_0 0) rfl 4 (by decide) (hts _ L_FR_38) (fun _ h9 => h9) rfl xd_FR_allAtRest_20 ?_
      refine lv_iload_n hx hb xd_FR_allAtRest_23 rfl (lv_at hl 1 rfl) ?_
      refine fw_alds hx hb hK hP (xm_12 (by decide)) (xk_12 0) 4 rfl (j := 0) (by decide) (fw_inc (by decide)) xd_FR_allAtRest_24 ?_
      refine fw_cb (va_runV (As := []) (rest := []) ⟨hx, hb, hml, hown, hts⟩ (xc_De_isIdle l hD v0 hI (0) (by omega)) (xw_De_isIdle hts L_FR_194 ⟨Nat.le_of_ble_eq_true rfl, Nat.le_of_ble_eq_true rfl⟩) (fw_preV hN hK hP (xm_19 (by decide)) (xk_19 0) rfl) rfl rfl hl.1 rfl (lv_room (Nat.le_of_ble_eq_true rfl)) xd_FR_allAtRest_25 ⟨Nat.le_of_ble_eq_true rfl, Nat.le_of_ble_eq_true rfl⟩) hS (fun r4 H locs zr4 er4 hP hS => ?_)
      refine lv_if_ne (tgt := 33) hx hb xd_FR_allAtRest_28 (by decide) (fun c_5 => ?_) (fun c_5 => ?_)
      · refine lv_iinc (v := (1 : Int32)) (lv' := [(1, .int (1 : Int32)), (0, .ref (ad 0 0))]) hx hb xd_FR_allAtRest_33 hl (k := 1) rfl (by decide) (by decide) rfl (fun ls hl => ?_)
        refine lv_goto (tgt := 2) hx hb xd_FR_allAtRest_36 (by decide) ?_
        exact J2  _ _ _ (by rw [hj]; subst er2 er4; simp only [xf_FR_allAtRest_j1, if_neg c_3, if_neg c_5])   hI hP hS (lv_sub hl [1, 0] rfl)
      · refine lv_iconst (v := (0 : Int32)) hx hb xd_FR_allAtRest_31 (by decide) ?_
        exact fw_bret hx hb hr hlocks hS hP xd_FR_allAtRest_32 (by decide) (by rw [hj]; subst er2 er4; simp only [xf_FR_allAtRest_j1, if_neg c_3, if_pos c_5])
  clear J3 J2
  have hl := lv_entry ([.ref (ad 0 0)]) (n := 2) (Nat.le_of_ble_eq_true rfl)
  rw [lg_entry_eq]
  generalize (lg_sl ([.ref (ad 0 0)]) ++ List.replicate (2 - (lg_sl ([.ref (ad 0 0)])).length) Slot.unset).toArray = ls at hl ⊢
  have hl : lv_has ls 2 [(0, .ref (ad 0 0))] := hl
  refine lv_iconst (v := (0 : Int32)) hx hb xd_FR_allAtRest_0 (by decide) ?_
  refine lv_istore_n (lv' := [(1, .int (0 : Int32)), (0, .ref (ad 0 0))]) hx hb xd_FR_allAtRest_1 rfl hl (by decide) rfl (fun ls hl => ?_)
  exact J1  _ _ _ (by simp only [xf_FR_allAtRest])   hI hP hS (lv_sub hl [1, 0] rfl)
def xf_KT_define (v0 : fw_V) (a1 : Int32) (a2 : Int32) (a3 : Int32) (a4 : Int32) : fw_V :=
  let v1 := fw_up v0 2 0 (a1.toNatClampNeg) a2
  let v2 := fw_up v1 3 0 (a1.toNatClampNeg) a3
  let v3 := fw_up v2 4 0 (a1.toNatClampNeg) (vp_nar .boolean a4)
  v3

set_option maxHeartbeats 4000000 in
set_option maxRecDepth 100000 in
theorem xc_KT_define (l : Launch) {D : va_G} {cA : Nat → ClassId} {ad : Nat → Nat → Nat} (hD : fw_D xCL ad) {b : Nat} (v0 : fw_V) (hI : xI b v0) (a1 : Int32) (a2 : Int32) (a3 : Int32) (a4 : Int32) (hq0 : vp_in a1 8) (hq1 : vp_in a2 3) (hq2 : vp_in a3 3) : Met l xy_KT_define (Cond.code xy_KT_define xb_KT_define 5 none :: vTB) xrm_KT_define (fw_Pc vNL D vcls (vtys cA) xCL cA xkd ad v0 [.ref (ad 1 0), .int a1, .int a2, .int a3, .int a4]) (fw_Qv D vcls xCL cA xkd ad (xI b) (xf_KT_define v0 a1 a2 a3 a4)) 0 0 (fw_A xCL ad) := by
  refine Met.ofW (cc := xb_KT_define) (maxL := 5) (ret := none) (by decide) rfl ?_
  intro p e s m args below meth c s₁ B hml hv
  obtain ⟨rfl, hP, hK, hN⟩ := hv
  have hx := B.exec
  have hb := B.bytes
  have hr := B.returns
  have hts : ∀ w ∈ vTB, w.before ([.ref (ad 1 0), .int a1, .int a2, .int a3, .int a4] : List Value).toArray s = true := fun w h => atoms_spec (ws := (Cond.code xy_KT_define xb_KT_define 5 none :: vTB)) B.pre w (List.mem_cons_of_mem _ h)
  have hown : s.vm.findClass R_KT = some m.cls := findClass_of_methodNamed B.named
  have hlocks := B.notSynchronized
  have hS : va_S (fw_A xCL ad) s.heap s.heap [] := va_S.rf
  skip
  have hl := lv_entry ([.ref (ad 1 0), .int a1, .int a2, .int a3, .int a4]) (n := 5) (Nat.le_of_ble_eq_true rfl)
  rw [lg_entry_eq]
  generalize (lg_sl ([.ref (ad 1 0), .int a1, .int a2, .int a3, .int a4]) ++ List.replicate (5 - (lg_sl ([.ref (ad 1 0), .int a1, .int a2, .int a3, .int a4])).length) Slot.unset).toArray = ls at hl ⊢
  have hl : lv_has ls 5 [(0, .ref (ad 1 0)), (1, .int a1), (2, .int a2), (3, .int a3), (4, .int a4)] := hl
  refine lv_aload_n hx hb xd_KT_define_0 rfl (lv_at hl 0 rfl) ?_
  refine fw_getr hx hb hts i_KT hown hK hP (xm_1 (by decide)) (xk_1 0) rfl 0 (by decide) (hts _ L_KT_9) (fun _ h9 => h9) rfl xd_KT_define_1 ?_
  refine lv_iload_n hx hb xd_KT_define_4 rfl (lv_at hl 1 rfl) ?_
  refine lv_iload_n hx hb xd_KT_define_5 rfl (lv_at hl 2 rfl) ?_
  refine fw_iast hx hb hK hD hP hS (xm_2 (by decide)) (xk_2 0) 0 rfl (j := a1.toNatClampNeg) rfl hq0 xd_KT_define_6 (fun v1 H locs ev1 hP hS => ?_)
  have hI : xI b v1 := by rw [ev1]; exact xI_up hI hq1 trivial
  refine lv_aload_n hx hb xd_KT_define_7 rfl (lv_at hl 0 rfl) ?_
  refine fw_getr hx hb hts i_KT hown hK hP (xm_1 (by decide)) (xk_1 0) rfl 1 (by decide) (hts _ L_KT_15) (fun _ h9 => h9) rfl xd_KT_define_8 ?_
  refine lv_iload_n hx hb xd_KT_define_11 rfl (lv_at hl 1 rfl) ?_
  refine lv_iload_n hx hb xd_KT_define_12 rfl (lv_at hl 3 rfl) ?_
  refine fw_iast hx hb hK hD hP hS (xm_3 (by decide)) (xk_3 0) 0 rfl (j := a1.toNatClampNeg) rfl hq0 xd_KT_define_13 (fun v2 H locs ev2 hP hS => ?_)
  have hI : xI b v2 := by rw [ev2]; exact xI_up hI hq2 trivial
  refine lv_aload_n hx hb xd_KT_define_14 rfl (lv_at hl 0 rfl) ?_
  refine fw_getr hx hb hts i_KT hown hK hP (xm_1 (by decide)) (xk_1 0) rfl 2 (by decide) (hts _ L_KT_18) (fun _ h9 => h9) rfl xd_KT_define_15 ?_
  refine lv_iload_n hx hb xd_KT_define_18 rfl (lv_at hl 1 rfl) ?_
  refine lv_iload hx hb xd_KT_define_19 (lv_at hl 4 rfl) ?_
  refine fw_zast hx hb hK hD hP hS (xm_4 (by decide)) (xk_4 0) 1 rfl (j := a1.toNatClampNeg) rfl hq0 xd_KT_define_21 (fun v3 H locs ev3 hP hS => ?_)
  have hI : xI b v3 := by rw [ev3]; exact xI_up hI trivial trivial
  exact fw_vret hx hb hr hlocks hS hP hI xd_KT_define_22 (by subst ev1 ev2 ev3; simp only [xf_KT_define])
def xf_FR_kind (v0 : fw_V) (a1 : Int32) (a2 : Int32) (a3 : Int32) (a4 : Int32) : Int32 × fw_V :=
  let r1 := xf_FR_isKind a1
  if r1 = (0 : Int32) then
    ((0 : Int32), v0)
  else
    let r4 := xf_FR_within a2 (0 : Int32) (2 : Int32)
    if r4 = (0 : Int32) then
      ((0 : Int32), v0)
    else
      let r7 := xf_FR_within a3 (0 : Int32) (2 : Int32)
      if r7 = (0 : Int32) then
        ((0 : Int32), v0)
      else
        let r10 := xf_FR_allAtRest v0
        if r10 = (0 : Int32) then
          ((0 : Int32), v0)
        else
          let v12 := xf_KT_define v0 a1 a2 a3 a4
          ((1 : Int32), v12)

set_option maxHeartbeats 4000000 in
set_option maxRecDepth 100000 in
theorem xc_FR_kind (l : Launch) {D : va_G} {cA : Nat → ClassId} {ad : Nat → Nat → Nat} (hD : fw_D xCL ad) {b : Nat} (v0 : fw_V) (hI : xI b v0) (a1 : Int32) (a2 : Int32) (a3 : Int32) (a4 : Int32)  : Met l xy_FR_kind (Cond.code xy_FR_kind xb_FR_kind 5 (some .boolean) :: vTB) xrm_FR_kind (fw_Pc vNL D vcls (vtys cA) xCL cA xkd ad v0 [.ref (ad 0 0), .int a1, .int a2, .int a3, .int a4]) (fw_Qz D vcls xCL cA xkd ad (xI b) (xf_FR_kind v0 a1 a2 a3 a4)) 0 0 (fw_A xCL ad) := by
  refine Met.ofW (cc := xb_FR_kind) (maxL := 5) (ret := (some .boolean)) (by decide) rfl ?_
  intro p e s m args below meth c s₁ B hml hv
  obtain ⟨rfl, hP, hK, hN⟩ := hv
  have hx := B.exec
  have hb := B.bytes
  have hr := B.returns
  have hts : ∀ w ∈ vTB, w.before ([.ref (ad 0 0), .int a1, .int a2, .int a3, .int a4] : List Value).toArray s = true := fun w h => atoms_spec (ws := (Cond.code xy_FR_kind xb_FR_kind 5 (some .boolean) :: vTB)) B.pre w (List.mem_cons_of_mem _ h)
  have hown : s.vm.findClass R_FR = some m.cls := findClass_of_methodNamed B.named
  have hlocks := B.notSynchronized
  have hS : va_S (fw_A xCL ad) s.heap s.heap [] := va_S.rf
  skip
  have hl := lv_entry ([.ref (ad 0 0), .int a1, .int a2, .int a3, .int a4]) (n := 5) (Nat.le_of_ble_eq_true rfl)
  rw [lg_entry_eq]
  generalize (lg_sl ([.ref (ad 0 0), .int a1, .int a2, .int a3, .int a4]) ++ List.replicate (5 - (lg_sl ([.ref (ad 0 0), .int a1, .int a2, .int a3, .int a4])).length) Slot.unset).toArray = ls at hl ⊢
  have hl : lv_has ls 5 [(0, .ref (ad 0 0)), (1, .int a1), (2, .int a2), (3, .int a3), (4, .int a4)] := hl
  refine lv_iload_n hx hb xd_FR_kind_0 rfl (lv_at hl 1 rfl) ?_
  refine fw_cb (va_runS (As := [.int a1]) (rest := []) ⟨hx, hb, hml, hown, hts⟩ (xc_FR_isKind l hD v0 hI a1) (xw_FR_isKind hts L_FR_48 ⟨Nat.le_of_ble_eq_true rfl, Nat.le_of_ble_eq_true rfl⟩) (fw_preS hN hK hP) rfl rfl hl.1 rfl (lv_room (Nat.le_of_ble_eq_true rfl)) xd_FR_kind_1 ⟨Nat.le_of_ble_eq_true rfl, Nat.le_of_ble_eq_true rfl⟩) hS (fun r1 H locs zr1 er1 hP hS => ?_)
  refine lv_if_eq (tgt := 32) hx hb xd_FR_kind_4 (by decide) (fun c_2 => ?_) (fun c_2 => ?_)
  · refine lv_iconst (v := (0 : Int32)) hx hb xd_FR_kind_32 (by decide) ?_
    exact fw_zret hx hb hr hlocks hS hP hI xd_FR_kind_33 (by decide) (by subst er1; simp only [xf_FR_kind, if_pos c_2])
  · have h_3 : vp_in a1 8 := xp_FR_isKind er1 c_2
    refine lv_iload_n hx hb xd_FR_kind_7 rfl (lv_at hl 2 rfl) ?_
    refine lv_iconst (v := (0 : Int32)) hx hb xd_FR_kind_8 (by decide) ?_
    refine lv_iconst (v := (2 : Int32)) hx hb xd_FR_kind_9 (by decide) ?_
    refine fw_cb (va_runS (As := [.int a2, .int (0 : Int32), .int (2 : Int32)]) (rest := []) ⟨hx, hb, hml, hown, hts⟩ (xc_FR_within l hD v0 hI a2 (0 : Int32) (2 : Int32)) (xw_FR_within hts L_FR_52 ⟨Nat.le_of_ble_eq_true rfl, Nat.le_of_ble_eq_true rfl⟩) (fw_preS hN hK hP) rfl rfl hl.1 rfl (lv_room (Nat.le_of_ble_eq_true rfl)) xd_FR_kind_10 ⟨Nat.le_of_ble_eq_true rfl, Nat.le_of_ble_eq_true rfl⟩) hS (fun r4 H locs zr4 er4 hP hS => ?_)
    refine lv_if_eq (tgt := 32) hx hb xd_FR_kind_13 (by decide) (fun c_5 => ?_) (fun c_5 => ?_)
    · refine lv_iconst (v := (0 : Int32)) hx hb xd_FR_kind_32 (by decide) ?_
      exact fw_zret hx hb hr hlocks hS hP hI xd_FR_kind_33 (by decide) (by subst er1 er4; simp only [xf_FR_kind, if_neg c_2, if_pos c_5])
    · have h_6 : vp_in a2 3 := xp_within er4 c_5 (by decide)
      refine lv_iload_n hx hb xd_FR_kind_16 rfl (lv_at hl 3 rfl) ?_
      refine lv_iconst (v := (0 : Int32)) hx hb xd_FR_kind_17 (by decide) ?_
      refine lv_iconst (v := (2 : Int32)) hx hb xd_FR_kind_18 (by decide) ?_
      refine fw_cb (va_runS (As := [.int a3, .int (0 : Int32), .int (2 : Int32)]) (rest := []) ⟨hx, hb, hml, hown, hts⟩ (xc_FR_within l hD v0 hI a3 (0 : Int32) (2 : Int32)) (xw_FR_within hts L_FR_52 ⟨Nat.le_of_ble_eq_true rfl, Nat.le_of_ble_eq_true rfl⟩) (fw_preS hN hK hP) rfl rfl hl.1 rfl (lv_room (Nat.le_of_ble_eq_true rfl)) xd_FR_kind_19 ⟨Nat.le_of_ble_eq_true rfl, Nat.le_of_ble_eq_true rfl⟩) hS (fun r7 H locs zr7 er7 hP hS => ?_)
      refine lv_if_eq (tgt := 32) hx hb xd_FR_kind_22 (by decide) (fun c_8 => ?_) (fun c_8 => ?_)
      · refine lv_iconst (v := (0 : Int32)) hx hb xd_FR_kind_32 (by decide) ?_
        exact fw_zret hx hb hr hlocks hS hP hI xd_FR_kind_33 (by decide) (by subst er1 er4 er7; simp only [xf_FR_kind, if_neg c_2, if_neg c_5, if_pos c_8])
      · have h_9 : vp_in a3 3 := xp_within er7 c_8 (by decide)
        refine lv_aload_n hx hb xd_FR_kind_25 rfl (lv_at hl 0 rfl) ?_
        refine fw_cb (va_runV (As := []) (rest := []) ⟨hx, hb, hml, hown, hts⟩ (xc_FR_allAtRest l hD v0 hI ) (xw_FR_allAtRest hts L_FR_56 ⟨Nat.le_of_ble_eq_true rfl, Nat.le_of_ble_eq_true rfl⟩) (fw_preV hN hK hP (xm_0 (by decide)) (xk_0 0) rfl) rfl rfl hl.1 rfl (lv_room (Nat.le_of_ble_eq_true rfl)) xd_FR_kind_26 ⟨Nat.le_of_ble_eq_true rfl, Nat.le_of_ble_eq_true rfl⟩) hS (fun r10 H locs zr10 er10 hP hS => ?_)
        refine lv_if_ne (tgt := 34) hx hb xd_FR_kind_29 (by decide) (fun c_11 => ?_) (fun c_11 => ?_)
        · refine lv_aload_n hx hb xd_FR_kind_34 rfl (lv_at hl 0 rfl) ?_
          refine fw_getr hx hb hts i_FR hown hK hP (xm_0 (by decide)) (xk_0 0) rfl 0 (by decide) (hts _ L_FR_12) (fun _ h9 => h9) rfl xd_FR_kind_35 ?_
          refine lv_iload_n hx hb xd_FR_kind_38 rfl (lv_at hl 1 rfl) ?_
          refine lv_iload_n hx hb xd_FR_kind_39 rfl (lv_at hl 2 rfl) ?_
          refine lv_iload_n hx hb xd_FR_kind_40 rfl (lv_at hl 3 rfl) ?_
          refine lv_iload hx hb xd_FR_kind_41 (lv_at hl 4 rfl) ?_
          refine fw_cv (va_runV (As := [.int a1, .int a2, .int a3, .int a4]) (rest := []) ⟨hx, hb, hml, hown, hts⟩ (xc_KT_define l hD v0 hI a1 a2 a3 a4 h_3 h_6 h_9) (xw_KT_define hts L_FR_60 ⟨Nat.le_of_ble_eq_true rfl, Nat.le_of_ble_eq_true rfl⟩) (fw_preV hN hK hP (xm_1 (by decide)) (xk_1 0) rfl) rfl rfl hl.1 rfl (lv_room (Nat.le_of_ble_eq_true rfl)) xd_FR_kind_43 ⟨Nat.le_of_ble_eq_true rfl, Nat.le_of_ble_eq_true rfl⟩) hS (fun v12 H locs ev12 hI hP hS => ?_)
          refine lv_iconst (v := (1 : Int32)) hx hb xd_FR_kind_46 (by decide) ?_
          exact fw_zret hx hb hr hlocks hS hP hI xd_FR_kind_47 (by decide) (by subst er1 er4 er7 er10 ev12; simp only [xf_FR_kind, if_neg c_2, if_neg c_5, if_neg c_8, if_neg c_11])
        · refine lv_iconst (v := (0 : Int32)) hx hb xd_FR_kind_32 (by decide) ?_
          exact fw_zret hx hb hr hlocks hS hP hI xd_FR_kind_33 (by decide) (by subst er1 er4 er7 er10; simp only [xf_FR_kind, if_neg c_2, if_neg c_5, if_neg c_8, if_pos c_11])
def xf_FR_isDevice (a1 : Int32) : Int32 :=
  let r1 := xf_FR_within a1 (0 : Int32) (1 : Int32)
  r1

theorem xp_FR_isDevice {r d : Int32} (er : r = xf_FR_isDevice d) (c : ¬ r = 0) : vp_in d 2 := xp_in (a := d) (hi := 1) (by rw [er] at c; exact c) (by decide)
set_option maxHeartbeats 4000000 in
set_option maxRecDepth 100000 in
theorem xc_FR_isDevice (l : Launch) {D : va_G} {cA : Nat → ClassId} {ad : Nat → Nat → Nat} (hD : fw_D xCL ad) {b : Nat} (v0 : fw_V) (hI : xI b v0) (a1 : Int32)  : Met l xy_FR_isDevice (Cond.code xy_FR_isDevice xb_FR_isDevice 1 (some .boolean) :: vTB) xrm_FR_isDevice (fw_Pc vNL D vcls (vtys cA) xCL cA xkd ad v0 [.int a1]) (fw_Qb D vcls xCL cA xkd ad v0 (xf_FR_isDevice a1)) 0 0 (fw_A xCL ad) := by
  refine Met.ofW (cc := xb_FR_isDevice) (maxL := 1) (ret := (some .boolean)) (by decide) rfl ?_
  intro p e s m args below meth c s₁ B hml hv
  obtain ⟨rfl, hP, hK, hN⟩ := hv
  have hx := B.exec
  have hb := B.bytes
  have hr := B.returns
  have hts : ∀ w ∈ vTB, w.before ([.int a1] : List Value).toArray s = true := fun w h => atoms_spec (ws := (Cond.code xy_FR_isDevice xb_FR_isDevice 1 (some .boolean) :: vTB)) B.pre w (List.mem_cons_of_mem _ h)
  have hown : s.vm.findClass R_FR = some m.cls := findClass_of_methodNamed B.named
  have hlocks := B.notSynchronized
  have hS : va_S (fw_A xCL ad) s.heap s.heap [] := va_S.rf
  skip
  have hl := lv_entry ([.int a1]) (n := 1) (Nat.le_of_ble_eq_true rfl)
  rw [lg_entry_eq]
  generalize (lg_sl ([.int a1]) ++ List.replicate (1 - (lg_sl ([.int a1])).length) Slot.unset).toArray = ls at hl ⊢
  have hl : lv_has ls 1 [(0, .int a1)] := hl
  refine lv_iload_n hx hb xd_FR_isDevice_0 rfl (lv_at hl 0 rfl) ?_
  refine lv_iconst (v := (0 : Int32)) hx hb xd_FR_isDevice_1 (by decide) ?_
  refine lv_iconst (v := (1 : Int32)) hx hb xd_FR_isDevice_2 (by decide) ?_
  refine fw_cb (va_runS (As := [.int a1, .int (0 : Int32), .int (1 : Int32)]) (rest := []) ⟨hx, hb, hml, hown, hts⟩ (xc_FR_within l hD v0 hI a1 (0 : Int32) (1 : Int32)) (xw_FR_within hts L_FR_52 ⟨Nat.le_of_ble_eq_true rfl, Nat.le_of_ble_eq_true rfl⟩) (fw_preS hN hK hP) rfl rfl hl.1 rfl (lv_room (Nat.le_of_ble_eq_true rfl)) xd_FR_isDevice_3 ⟨Nat.le_of_ble_eq_true rfl, Nat.le_of_ble_eq_true rfl⟩) hS (fun r1 H locs zr1 er1 hP hS => ?_)
  exact fw_bret hx hb hr hlocks hS hP xd_FR_isDevice_6 zr1 (by subst er1; simp only [xf_FR_isDevice])
def xf_FR_name (v0 : fw_V) (a1 : Int32) (a2 : Int32) : Int32 × fw_V :=
  let r1 := xf_FR_isDevice a1
  if r1 = (0 : Int32) then
    ((0 : Int32), v0)
  else
    let r4 := xf_FR_within a2 (0 : Int32) (15 : Int32)
    if r4 = (0 : Int32) then
      ((0 : Int32), v0)
    else
      let v8 := fw_up v0 19 (a1.toNatClampNeg) 5 a2
      ((1 : Int32), v8)

set_option maxHeartbeats 4000000 in
set_option maxRecDepth 100000 in
theorem xc_FR_name (l : Launch) {D : va_G} {cA : Nat → ClassId} {ad : Nat → Nat → Nat} (hD : fw_D xCL ad) {b : Nat} (v0 : fw_V) (hI : xI b v0) (a1 : Int32) (a2 : Int32)  : Met l xy_FR_name (Cond.code xy_FR_name xb_FR_name 3 (some .boolean) :: vTB) xrm_FR_name (fw_Pc vNL D vcls (vtys cA) xCL cA xkd ad v0 [.ref (ad 0 0), .int a1, .int a2]) (fw_Qz D vcls xCL cA xkd ad (xI b) (xf_FR_name v0 a1 a2)) 0 0 (fw_A xCL ad) := by
  refine Met.ofW (cc := xb_FR_name) (maxL := 3) (ret := (some .boolean)) (by decide) rfl ?_
  intro p e s m args below meth c s₁ B hml hv
  obtain ⟨rfl, hP, hK, hN⟩ := hv
  have hx := B.exec
  have hb := B.bytes
  have hr := B.returns
  have hts : ∀ w ∈ vTB, w.before ([.ref (ad 0 0), .int a1, .int a2] : List Value).toArray s = true := fun w h => atoms_spec (ws := (Cond.code xy_FR_name xb_FR_name 3 (some .boolean) :: vTB)) B.pre w (List.mem_cons_of_mem _ h)
  have hown : s.vm.findClass R_FR = some m.cls := findClass_of_methodNamed B.named
  have hlocks := B.notSynchronized
  have hS : va_S (fw_A xCL ad) s.heap s.heap [] := va_S.rf
  skip
  have hl := lv_entry ([.ref (ad 0 0), .int a1, .int a2]) (n := 3) (Nat.le_of_ble_eq_true rfl)
  rw [lg_entry_eq]
  generalize (lg_sl ([.ref (ad 0 0), .int a1, .int a2]) ++ List.replicate (3 - (lg_sl ([.ref (ad 0 0), .int a1, .int a2])).length) Slot.unset).toArray = ls at hl ⊢
  have hl : lv_has ls 3 [(0, .ref (ad 0 0)), (1, .int a1), (2, .int a2)] := hl
  refine lv_iload_n hx hb xd_FR_name_0 rfl (lv_at hl 1 rfl) ?_
  refine fw_cb (va_runS (As := [.int a1]) (rest := []) ⟨hx, hb, hml, hown, hts⟩ (xc_FR_isDevice l hD v0 hI a1) (xw_FR_isDevice hts L_FR_64 ⟨Nat.le_of_ble_eq_true rfl, Nat.le_of_ble_eq_true rfl⟩) (fw_preS hN hK hP) rfl rfl hl.1 rfl (lv_room (Nat.le_of_ble_eq_true rfl)) xd_FR_name_1 ⟨Nat.le_of_ble_eq_true rfl, Nat.le_of_ble_eq_true rfl⟩) hS (fun r1 H locs zr1 er1 hP hS => ?_)
  refine lv_if_eq (tgt := 17) hx hb xd_FR_name_4 (by decide) (fun c_2 => ?_) (fun c_2 => ?_)
  · refine lv_iconst (v := (0 : Int32)) hx hb xd_FR_name_17 (by decide) ?_
    exact fw_zret hx hb hr hlocks hS hP hI xd_FR_name_18 (by decide) (by subst er1; simp only [xf_FR_name, if_pos c_2])
  · have h_3 : vp_in a1 2 := xp_FR_isDevice er1 c_2
    refine lv_iload_n hx hb xd_FR_name_7 rfl (lv_at hl 2 rfl) ?_
    refine lv_iconst (v := (0 : Int32)) hx hb xd_FR_name_8 (by decide) ?_
    refine lv_bipush (v := (15 : Int32)) hx hb xd_FR_name_9 (by decide) ?_
    refine fw_cb (va_runS (As := [.int a2, .int (0 : Int32), .int (15 : Int32)]) (rest := []) ⟨hx, hb, hml, hown, hts⟩ (xc_FR_within l hD v0 hI a2 (0 : Int32) (15 : Int32)) (xw_FR_within hts L_FR_52 ⟨Nat.le_of_ble_eq_true rfl, Nat.le_of_ble_eq_true rfl⟩) (fw_preS hN hK hP) rfl rfl hl.1 rfl (lv_room (Nat.le_of_ble_eq_true rfl)) xd_FR_name_11 ⟨Nat.le_of_ble_eq_true rfl, Nat.le_of_ble_eq_true rfl⟩) hS (fun r4 H locs zr4 er4 hP hS => ?_)
    refine lv_if_ne (tgt := 19) hx hb xd_FR_name_14 (by decide) (fun c_5 => ?_) (fun c_5 => ?_)
    · have h_6 : vp_in a2 16 := xp_within er4 c_5 (by decide)
      refine lv_aload_n hx hb xd_FR_name_19 rfl (lv_at hl 0 rfl) ?_
      refine fw_getr hx hb hts i_FR hown hK hP (xm_0 (by decide)) (xk_0 0) rfl 4 (by decide) (hts _ L_FR_38) (fun _ h9 => h9) rfl xd_FR_name_20 ?_
      refine lv_iload_n hx hb xd_FR_name_23 rfl (lv_at hl 1 rfl) ?_
      have k_7 : a1.toNatClampNeg < 2 := fw_inlt h_3
      refine fw_alds hx hb hK hP (xm_12 (by decide)) (xk_12 0) 4 rfl (j := a1.toNatClampNeg) rfl h_3 xd_FR_name_24 ?_
      refine lv_iload_n hx hb xd_FR_name_25 rfl (lv_at hl 2 rfl) ?_
      refine fw_puti hx hb hts i_De t_De t_De_ok n_De hown hK hD hP hS (xm_19 (by omega)) (xk_19 (a1.toNatClampNeg)) rfl 5 (by decide) (hts _ L_FR_67) (fun _ h9 => h9) rfl fw_pdI rfl rfl rfl xd_FR_name_26 (fun v8 H locs ev8 hP hS => ?_)
      have hI : xI b v8 := by rw [ev8]; exact xI_up hI trivial trivial
      refine lv_iconst (v := (1 : Int32)) hx hb xd_FR_name_29 (by decide) ?_
      exact fw_zret hx hb hr hlocks hS hP hI xd_FR_name_30 (by decide) (by subst er1 er4 ev8; simp only [xf_FR_name, if_neg c_2, if_neg c_5])
    · refine lv_iconst (v := (0 : Int32)) hx hb xd_FR_name_17 (by decide) ?_
      exact fw_zret hx hb hr hlocks hS hP hI xd_FR_name_18 (by decide) (by subst er1 er4; simp only [xf_FR_name, if_neg c_2, if_pos c_5])
def xf_FR_isSlot (a1 : Int32) : Int32 :=
  let r1 := xf_FR_within a1 (0 : Int32) (2 : Int32)
  r1

theorem xp_FR_isSlot {r d : Int32} (er : r = xf_FR_isSlot d) (c : ¬ r = 0) : vp_in d 3 := xp_in (a := d) (hi := 2) (by rw [er] at c; exact c) (by decide)
set_option maxHeartbeats 4000000 in
set_option maxRecDepth 100000 in
theorem xc_FR_isSlot (l : Launch) {D : va_G} {cA : Nat → ClassId} {ad : Nat → Nat → Nat} (hD : fw_D xCL ad) {b : Nat} (v0 : fw_V) (hI : xI b v0) (a1 : Int32)  : Met l xy_FR_isSlot (Cond.code xy_FR_isSlot xb_FR_isSlot 1 (some .boolean) :: vTB) xrm_FR_isSlot (fw_Pc vNL D vcls (vtys cA) xCL cA xkd ad v0 [.int a1]) (fw_Qb D vcls xCL cA xkd ad v0 (xf_FR_isSlot a1)) 0 0 (fw_A xCL ad) := by
  refine Met.ofW (cc := xb_FR_isSlot) (maxL := 1) (ret := (some .boolean)) (by decide) rfl ?_
  intro p e s m args below meth c s₁ B hml hv
  obtain ⟨rfl, hP, hK, hN⟩ := hv
  have hx := B.exec
  have hb := B.bytes
  have hr := B.returns
  have hts : ∀ w ∈ vTB, w.before ([.int a1] : List Value).toArray s = true := fun w h => atoms_spec (ws := (Cond.code xy_FR_isSlot xb_FR_isSlot 1 (some .boolean) :: vTB)) B.pre w (List.mem_cons_of_mem _ h)
  have hown : s.vm.findClass R_FR = some m.cls := findClass_of_methodNamed B.named
  have hlocks := B.notSynchronized
  have hS : va_S (fw_A xCL ad) s.heap s.heap [] := va_S.rf
  skip
  have hl := lv_entry ([.int a1]) (n := 1) (Nat.le_of_ble_eq_true rfl)
  rw [lg_entry_eq]
  generalize (lg_sl ([.int a1]) ++ List.replicate (1 - (lg_sl ([.int a1])).length) Slot.unset).toArray = ls at hl ⊢
  have hl : lv_has ls 1 [(0, .int a1)] := hl
  refine lv_iload_n hx hb xd_FR_isSlot_0 rfl (lv_at hl 0 rfl) ?_
  refine lv_iconst (v := (0 : Int32)) hx hb xd_FR_isSlot_1 (by decide) ?_
  refine lv_iconst (v := (2 : Int32)) hx hb xd_FR_isSlot_2 (by decide) ?_
  refine fw_cb (va_runS (As := [.int a1, .int (0 : Int32), .int (2 : Int32)]) (rest := []) ⟨hx, hb, hml, hown, hts⟩ (xc_FR_within l hD v0 hI a1 (0 : Int32) (2 : Int32)) (xw_FR_within hts L_FR_52 ⟨Nat.le_of_ble_eq_true rfl, Nat.le_of_ble_eq_true rfl⟩) (fw_preS hN hK hP) rfl rfl hl.1 rfl (lv_room (Nat.le_of_ble_eq_true rfl)) xd_FR_isSlot_3 ⟨Nat.le_of_ble_eq_true rfl, Nat.le_of_ble_eq_true rfl⟩) hS (fun r1 H locs zr1 er1 hP hS => ?_)
  exact fw_bret hx hb hr hlocks hS hP xd_FR_isSlot_6 zr1 (by subst er1; simp only [xf_FR_isSlot])
def xf_FR_isKindOrNone (a1 : Int32) : Int32 :=
  if a1 = (-1 : Int32) then
    (1 : Int32)
  else
    let r2 := xf_FR_isKind a1
    if r2 = (0 : Int32) then
      (0 : Int32)
    else
      (1 : Int32)

set_option maxHeartbeats 4000000 in
set_option maxRecDepth 100000 in
theorem xc_FR_isKindOrNone (l : Launch) {D : va_G} {cA : Nat → ClassId} {ad : Nat → Nat → Nat} (hD : fw_D xCL ad) {b : Nat} (v0 : fw_V) (hI : xI b v0) (a1 : Int32)  : Met l xy_FR_isKindOrNone (Cond.code xy_FR_isKindOrNone xb_FR_isKindOrNone 1 (some .boolean) :: vTB) xrm_FR_isKindOrNone (fw_Pc vNL D vcls (vtys cA) xCL cA xkd ad v0 [.int a1]) (fw_Qb D vcls xCL cA xkd ad v0 (xf_FR_isKindOrNone a1)) 0 0 (fw_A xCL ad) := by
  refine Met.ofW (cc := xb_FR_isKindOrNone) (maxL := 1) (ret := (some .boolean)) (by decide) rfl ?_
  intro p e s m args below meth c s₁ B hml hv
  obtain ⟨rfl, hP, hK, hN⟩ := hv
  have hx := B.exec
  have hb := B.bytes
  have hr := B.returns
  have hts : ∀ w ∈ vTB, w.before ([.int a1] : List Value).toArray s = true := fun w h => atoms_spec (ws := (Cond.code xy_FR_isKindOrNone xb_FR_isKindOrNone 1 (some .boolean) :: vTB)) B.pre w (List.mem_cons_of_mem _ h)
  have hown : s.vm.findClass R_FR = some m.cls := findClass_of_methodNamed B.named
  have hlocks := B.notSynchronized
  have hS : va_S (fw_A xCL ad) s.heap s.heap [] := va_S.rf
  skip
  have hl := lv_entry ([.int a1]) (n := 1) (Nat.le_of_ble_eq_true rfl)
  rw [lg_entry_eq]
  generalize (lg_sl ([.int a1]) ++ List.replicate (1 - (lg_sl ([.int a1])).length) Slot.unset).toArray = ls at hl ⊢
  have hl : lv_has ls 1 [(0, .int a1)] := hl
  refine lv_iload_n hx hb xd_FR_isKindOrNone_0 rfl (lv_at hl 0 rfl) ?_
  refine lv_iconst (v := (-1 : Int32)) hx hb xd_FR_isKindOrNone_1 (by decide) ?_
  refine lv_icmp_eq (tgt := 12) hx hb xd_FR_isKindOrNone_2 (by decide) (fun c_1 => ?_) (fun c_1 => ?_)
  · refine lv_iconst (v := (1 : Int32)) hx hb xd_FR_isKindOrNone_12 (by decide) ?_
    refine lv_goto (tgt := 17) hx hb xd_FR_isKindOrNone_13 (by decide) ?_
    exact fw_bret hx hb hr hlocks hS hP xd_FR_isKindOrNone_17 (by decide) (by simp only [xf_FR_isKindOrNone, if_pos c_1])
  · refine lv_iload_n hx hb xd_FR_isKindOrNone_5 rfl (lv_at hl 0 rfl) ?_
    refine fw_cb (va_runS (As := [.int a1]) (rest := []) ⟨hx, hb, hml, hown, hts⟩ (xc_FR_isKind l hD v0 hI a1) (xw_FR_isKind hts L_FR_48 ⟨Nat.le_of_ble_eq_true rfl, Nat.le_of_ble_eq_true rfl⟩) (fw_preS hN hK hP) rfl rfl hl.1 rfl (lv_room (Nat.le_of_ble_eq_true rfl)) xd_FR_isKindOrNone_6 ⟨Nat.le_of_ble_eq_true rfl, Nat.le_of_ble_eq_true rfl⟩) hS (fun r2 H locs zr2 er2 hP hS => ?_)
    refine lv_if_eq (tgt := 16) hx hb xd_FR_isKindOrNone_9 (by decide) (fun c_3 => ?_) (fun c_3 => ?_)
    · refine lv_iconst (v := (0 : Int32)) hx hb xd_FR_isKindOrNone_16 (by decide) ?_
      exact fw_bret hx hb hr hlocks hS hP xd_FR_isKindOrNone_17 (by decide) (by subst er2; simp only [xf_FR_isKindOrNone, if_neg c_1, if_pos c_3])
    · have h_4 : vp_in a1 8 := xp_FR_isKind er2 c_3
      refine lv_iconst (v := (1 : Int32)) hx hb xd_FR_isKindOrNone_12 (by decide) ?_
      refine lv_goto (tgt := 17) hx hb xd_FR_isKindOrNone_13 (by decide) ?_
      exact fw_bret hx hb hr hlocks hS hP xd_FR_isKindOrNone_17 (by decide) (by subst er2; simp only [xf_FR_isKindOrNone, if_neg c_1, if_neg c_3])
def xf_KT_outsOf (v0 : fw_V) (a1 : Int32) : Int32 :=
  if a1 < (0 : Int32) then
    (0 : Int32)
  else
    if (8 : Int32) ≤ a1 then
      (0 : Int32)
    else
      (v0 3 0 a1.toNatClampNeg)

theorem xp_KT_outsOf {b : Nat} {r k : Int32} {v : fw_V} (er : r = xf_KT_outsOf v k) (hI : xI b v) : vp_in r 3 := by
  rw [er]; unfold xf_KT_outsOf
  split
  · exact fw_inc (by decide)
  · split
    · exact fw_inc (by decide)
    · exact hI.1 3 0 _
set_option maxHeartbeats 4000000 in
set_option maxRecDepth 100000 in
theorem xc_KT_outsOf (l : Launch) {D : va_G} {cA : Nat → ClassId} {ad : Nat → Nat → Nat} (hD : fw_D xCL ad) {b : Nat} (v0 : fw_V) (hI : xI b v0) (a1 : Int32)  : Met l xy_KT_outsOf (Cond.code xy_KT_outsOf xb_KT_outsOf 2 (some .int) :: vTB) xrm_KT_outsOf (fw_Pc vNL D vcls (vtys cA) xCL cA xkd ad v0 [.ref (ad 1 0), .int a1]) (fw_Qo D vcls xCL cA xkd ad v0 (xf_KT_outsOf v0 a1)) 0 0 (fw_A xCL ad) := by
  refine Met.ofW (cc := xb_KT_outsOf) (maxL := 2) (ret := (some .int)) (by decide) rfl ?_
  intro p e s m args below meth c s₁ B hml hv
  obtain ⟨rfl, hP, hK, hN⟩ := hv
  have hx := B.exec
  have hb := B.bytes
  have hr := B.returns
  have hts : ∀ w ∈ vTB, w.before ([.ref (ad 1 0), .int a1] : List Value).toArray s = true := fun w h => atoms_spec (ws := (Cond.code xy_KT_outsOf xb_KT_outsOf 2 (some .int) :: vTB)) B.pre w (List.mem_cons_of_mem _ h)
  have hown : s.vm.findClass R_KT = some m.cls := findClass_of_methodNamed B.named
  have hlocks := B.notSynchronized
  have hS : va_S (fw_A xCL ad) s.heap s.heap [] := va_S.rf
  skip
  have hl := lv_entry ([.ref (ad 1 0), .int a1]) (n := 2) (Nat.le_of_ble_eq_true rfl)
  rw [lg_entry_eq]
  generalize (lg_sl ([.ref (ad 1 0), .int a1]) ++ List.replicate (2 - (lg_sl ([.ref (ad 1 0), .int a1])).length) Slot.unset).toArray = ls at hl ⊢
  have hl : lv_has ls 2 [(0, .ref (ad 1 0)), (1, .int a1)] := hl
  refine lv_iload_n hx hb xd_KT_outsOf_0 rfl (lv_at hl 1 rfl) ?_
  refine lv_if_lt (tgt := 19) hx hb xd_KT_outsOf_1 (by decide) (fun c_1 => ?_) (fun c_1 => ?_)
  · refine lv_iconst (v := (0 : Int32)) hx hb xd_KT_outsOf_19 (by decide) ?_
    exact fw_oret hx hb hr hlocks hS hP xd_KT_outsOf_20 (by simp only [xf_KT_outsOf, if_pos c_1])
  · refine lv_iload_n hx hb xd_KT_outsOf_4 rfl (lv_at hl 1 rfl) ?_
    refine lv_bipush (v := (8 : Int32)) hx hb xd_KT_outsOf_5 (by decide) ?_
    refine lv_icmp_ge (tgt := 19) hx hb xd_KT_outsOf_7 (by decide) (fun c_2 => ?_) (fun c_2 => ?_)
    · refine lv_iconst (v := (0 : Int32)) hx hb xd_KT_outsOf_19 (by decide) ?_
      exact fw_oret hx hb hr hlocks hS hP xd_KT_outsOf_20 (by simp only [xf_KT_outsOf, if_neg c_1, if_pos c_2])
    · have h_3 : vp_in a1 8 := fw_in2 c_1 c_2
      refine lv_aload_n hx hb xd_KT_outsOf_10 rfl (lv_at hl 0 rfl) ?_
      refine fw_getr hx hb hts i_KT hown hK hP (xm_1 (by decide)) (xk_1 0) rfl 1 (by decide) (hts _ L_KT_15) (fun _ h9 => h9) rfl xd_KT_outsOf_11 ?_
      refine lv_iload_n hx hb xd_KT_outsOf_14 rfl (lv_at hl 1 rfl) ?_
      refine fw_iald hx hb hK hP (xm_3 (by decide)) (xk_3 0) 0 rfl (j := a1.toNatClampNeg) rfl h_3 xd_KT_outsOf_15 ?_
      have h_4 : vp_in (v0 3 0 a1.toNatClampNeg) 3 := hI.1 3 0 (a1.toNatClampNeg)
      refine lv_goto (tgt := 20) hx hb xd_KT_outsOf_16 (by decide) ?_
      exact fw_oret hx hb hr hlocks hS hP xd_KT_outsOf_20 (by simp only [xf_KT_outsOf, if_neg c_1, if_neg c_2])
def xf_FR_place (a1 : Int32) (a2 : Int32) : Int32 :=
  ((a1 * (2 : Int32)) + a2)

theorem xp_place {r s i : Int32} (er : r = xf_FR_place s i) (hs : vp_in s 3) (hi : vp_in i 2) : vp_in r 6 := by
  obtain ⟨a, ha, ea⟩ := vp_in_of hs (by decide)
  obtain ⟨b, hb, eb⟩ := vp_in_of hi (by decide)
  rw [er, ea, eb]
  show vp_in (nI a * nI 2 + nI b) 6
  rw [pk_mul, nI_add]
  exact vp_in_nI (by omega) (by decide)
set_option maxHeartbeats 4000000 in
set_option maxRecDepth 100000 in
theorem xc_FR_place (l : Launch) {D : va_G} {cA : Nat → ClassId} {ad : Nat → Nat → Nat} (hD : fw_D xCL ad) {b : Nat} (v0 : fw_V) (hI : xI b v0) (a1 : Int32) (a2 : Int32)  : Met l xy_FR_place (Cond.code xy_FR_place xb_FR_place 2 (some .int) :: vTB) xrm_FR_place (fw_Pc vNL D vcls (vtys cA) xCL cA xkd ad v0 [.int a1, .int a2]) (fw_Qo D vcls xCL cA xkd ad v0 (xf_FR_place a1 a2)) 0 0 (fw_A xCL ad) := by
  refine Met.ofW (cc := xb_FR_place) (maxL := 2) (ret := (some .int)) (by decide) rfl ?_
  intro p e s m args below meth c s₁ B hml hv
  obtain ⟨rfl, hP, hK, hN⟩ := hv
  have hx := B.exec
  have hb := B.bytes
  have hr := B.returns
  have hts : ∀ w ∈ vTB, w.before ([.int a1, .int a2] : List Value).toArray s = true := fun w h => atoms_spec (ws := (Cond.code xy_FR_place xb_FR_place 2 (some .int) :: vTB)) B.pre w (List.mem_cons_of_mem _ h)
  have hown : s.vm.findClass R_FR = some m.cls := findClass_of_methodNamed B.named
  have hlocks := B.notSynchronized
  have hS : va_S (fw_A xCL ad) s.heap s.heap [] := va_S.rf
  skip
  have hl := lv_entry ([.int a1, .int a2]) (n := 2) (Nat.le_of_ble_eq_true rfl)
  rw [lg_entry_eq]
  generalize (lg_sl ([.int a1, .int a2]) ++ List.replicate (2 - (lg_sl ([.int a1, .int a2])).length) Slot.unset).toArray = ls at hl ⊢
  have hl : lv_has ls 2 [(0, .int a1), (1, .int a2)] := hl
  refine lv_iload_n hx hb xd_FR_place_0 rfl (lv_at hl 0 rfl) ?_
  refine lv_iconst (v := (2 : Int32)) hx hb xd_FR_place_1 (by decide) ?_
  refine lv_imul hx hb xd_FR_place_2 ?_
  refine lv_iload_n hx hb xd_FR_place_3 rfl (lv_at hl 1 rfl) ?_
  refine lv_iadd hx hb xd_FR_place_4 ?_
  exact fw_oret hx hb hr hlocks hS hP xd_FR_place_5 (by simp only [xf_FR_place])
def xf_De_showFallback_j7 (v : fw_V) (r : Nat) (a1 : Int32) (x2 : Int32) : fw_V :=
  v
def xf_De_showFallback_j6 (v : fw_V) (r : Nat) (a1 : Int32) (x2 : Int32) : fw_V :=
  xf_De_showFallback_j7 v r a1 (x2)
def xf_De_showFallback_j5 (v : fw_V) (r : Nat) (a1 : Int32) (x2 : Int32) (x4 : Int32) : fw_V :=
  let v12 := fw_up v 25 r (x4.toNatClampNeg) (0 : Int32)
  xf_De_showFallback_j6 v12 r a1 (x2)
def xf_De_showFallback_j4 (v : fw_V) (r : Nat) (a1 : Int32) (x2 : Int32) : fw_V :=
  let r9 := xf_FR_place a1 (1 : Int32)
  if x2 ≤ (1 : Int32) then
    xf_De_showFallback_j5 v r a1 (x2) (r9)
  else
    if (v 19 r 6) = (0 : Int32) then
      xf_De_showFallback_j5 v r a1 (x2) (r9)
    else
      if (v 19 r 6) = (1 : Int32) then
        xf_De_showFallback_j6 v r a1 (x2)
      else
        let v16 := fw_up v 25 r (r9.toNatClampNeg) (v 19 r 7)
        xf_De_showFallback_j6 v16 r a1 (x2)
def xf_De_showFallback_j3 (v : fw_V) (r : Nat) (a1 : Int32) (x2 : Int32) : fw_V :=
  xf_De_showFallback_j4 v r a1 (x2)
def xf_De_showFallback_j2 (v : fw_V) (r : Nat) (a1 : Int32) (x2 : Int32) (x4 : Int32) : fw_V :=
  let v7 := fw_up v 25 r (x4.toNatClampNeg) (0 : Int32)
  xf_De_showFallback_j3 v7 r a1 (x2)
def xf_De_showFallback_j1 (v : fw_V) (r : Nat) (a1 : Int32) (x2 : Int32) : fw_V :=
  let r4 := xf_FR_place a1 (0 : Int32)
  if x2 ≤ (0 : Int32) then
    xf_De_showFallback_j2 v r a1 (x2) (r4)
  else
    if (v 19 r 6) = (0 : Int32) then
      xf_De_showFallback_j2 v r a1 (x2) (r4)
    else
      if (v 19 r 6) = (1 : Int32) then
        xf_De_showFallback_j3 v r a1 (x2)
      else
        let v19 := fw_up v 25 r (r4.toNatClampNeg) (v 19 r 7)
        xf_De_showFallback_j3 v19 r a1 (x2)
def xf_De_showFallback (v0 : fw_V) (r : Nat) (a1 : Int32) : fw_V :=
  let r1 := xf_KT_outsOf v0 (v0 23 r a1.toNatClampNeg)
  xf_De_showFallback_j1 v0 r a1 (r1)

set_option maxHeartbeats 4000000 in
set_option maxRecDepth 100000 in
theorem xc_De_showFallback (l : Launch) {D : va_G} {cA : Nat → ClassId} {ad : Nat → Nat → Nat} (hD : fw_D xCL ad) {b : Nat} (v0 : fw_V) (hI : xI b v0) (r : Nat) (hr0 : r < 2) (a1 : Int32) (hq0 : vp_in a1 3) : Met l xy_De_showFallback (Cond.code xy_De_showFallback xb_De_showFallback 5 none :: vTB) xrm_De_showFallback (fw_Pc vNL D vcls (vtys cA) xCL cA xkd ad v0 [.ref (ad 19 r), .int a1]) (fw_Qv D vcls xCL cA xkd ad (xI b) (xf_De_showFallback v0 r a1)) 0 0 (fw_A xCL ad) := by
  refine Met.ofW (cc := xb_De_showFallback) (maxL := 5) (ret := none) (by decide) rfl ?_
  intro p e s m args below meth c s₁ B hml hv
  obtain ⟨rfl, hP, hK, hN⟩ := hv
  have hx := B.exec
  have hb := B.bytes
  have hr := B.returns
  have hts : ∀ w ∈ vTB, w.before ([.ref (ad 19 r), .int a1] : List Value).toArray s = true := fun w h => atoms_spec (ws := (Cond.code xy_De_showFallback xb_De_showFallback 5 none :: vTB)) B.pre w (List.mem_cons_of_mem _ h)
  have hown : s.vm.findClass R_De = some m.cls := findClass_of_methodNamed B.named
  have hlocks := B.notSynchronized
  have hS : va_S (fw_A xCL ad) s.heap s.heap [] := va_S.rf
  have J7 : ∀ (v : fw_V) (x2 : Int32) (H : Heap) (locs : List Loc) (ls : Array Slot), xf_De_showFallback v0 r a1 = xf_De_showFallback_j7 v r a1 x2 → vp_in a1 3 → vp_in x2 3 → xI b v → va_P D vcls (fw_w xCL cA xkd ad v) H → va_S (fw_A xCL ad) s.heap H locs → lv_has ls 5 [(0, .ref (ad 19 r)), (1, .int a1), (2, .int x2), (3, .int (2 : Int32))] → W p l e (headSpec (Cond.code xy_De_showFallback xb_De_showFallback 5 none :: vTB) xrm_De_showFallback).room s m ([.ref (ad 19 r), .int a1] : List Value).toArray below meth c H locs 0 0 (MQ below (fw_Qv D vcls xCL cA xkd ad (xI b) (xf_De_showFallback v0 r a1)) ([.ref (ad 19 r), .int a1] : List Value).toArray s 0 0 (fw_A xCL ad)) (F0 m 16 ls []) := by
    intro v x2 H locs ls hj hc0 hc1 hI hP hS hl
    refine lv_iload_n hx hb xd_De_showFallback_16 rfl (lv_at hl 3 rfl) ?_
    refine lv_iconst (v := (2 : Int32)) hx hb xd_De_showFallback_17 (by decide) ?_
    refine lv_icmp_ge (tgt := 76) hx hb xd_De_showFallback_18 (by decide) (fun _ => ?_) (fun c_13 => absurd (by decide) c_13)
    exact fw_vret hx hb hr hlocks hS hP hI xd_De_showFallback_76 (by rw [hj]; simp only [xf_De_showFallback_j7])
  have J6 : ∀ (v : fw_V) (x2 : Int32) (H : Heap) (locs : List Loc) (ls : Array Slot), xf_De_showFallback v0 r a1 = xf_De_showFallback_j6 v r a1 x2 → vp_in a1 3 → vp_in x2 3 → xI b v → va_P D vcls (fw_w xCL cA xkd ad v) H → va_S (fw_A xCL ad) s.heap H locs → lv_has ls 5 [(0, .ref (ad 19 r)), (1, .int a1), (2, .int x2), (3, .int (1 : Int32))] → W p l e (headSpec (Cond.code xy_De_showFallback xb_De_showFallback 5 none :: vTB) xrm_De_showFallback).room s m ([.ref (ad 19 r), .int a1] : List Value).toArray below meth c H locs 0 0 (MQ below (fw_Qv D vcls xCL cA xkd ad (xI b) (xf_De_showFallback v0 r a1)) ([.ref (ad 19 r), .int a1] : List Value).toArray s 0 0 (fw_A xCL ad)) (F0 m 70 ls []) := by
    intro v x2 H locs ls hj hc0 hc1 hI hP hS hl
    refine lv_iinc (v := (2 : Int32)) (lv' := [(3, .int (2 : Int32)), (0, .ref (ad 19 r)), (1, .int a1), (2, .int x2)]) hx hb xd_De_showFallback_70 hl (k := 3) rfl (by decide) (by decide) rfl (fun ls hl => ?_)
    refine lv_goto (tgt := 16) hx hb xd_De_showFallback_73 (by decide) ?_
    exact J7 v (x2) _ _ _ (by rw [hj]; simp only [xf_De_showFallback_j6]) hc0 hc1  hI hP hS (lv_sub hl [1, 2, 3, 0] rfl)
  have J5 : ∀ (v : fw_V) (x2 : Int32) (x4 : Int32) (H : Heap) (locs : List Loc) (ls : Array Slot), xf_De_showFallback v0 r a1 = xf_De_showFallback_j5 v r a1 x2 x4 → vp_in a1 3 → vp_in x2 3 → vp_in x4 6 → xI b v → va_P D vcls (fw_w xCL cA xkd ad v) H → va_S (fw_A xCL ad) s.heap H locs → lv_has ls 5 [(0, .ref (ad 19 r)), (1, .int a1), (2, .int x2), (3, .int (1 : Int32)), (4, .int x4)] → W p l e (headSpec (Cond.code xy_De_showFallback xb_De_showFallback 5 none :: vTB) xrm_De_showFallback).room s m ([.ref (ad 19 r), .int a1] : List Value).toArray below meth c H locs 0 0 (MQ below (fw_Qv D vcls xCL cA xkd ad (xI b) (xf_De_showFallback v0 r a1)) ([.ref (ad 19 r), .int a1] : List Value).toArray s 0 0 (fw_A xCL ad)) (F0 m 40 ls []) := by
    intro v x2 x4 H locs ls hj hc0 hc1 hc2 hI hP hS hl
    clear J7
    refine lv_aload_n hx hb xd_De_showFallback_40 rfl (lv_at hl 0 rfl) ?_
    refine fw_getr hx hb hts i_De hown hK hP (xm_19 (by omega)) (xk_19 r) rfl 10 (by decide) (hts _ L_De_36) (fun _ h9 => h9) rfl xd_De_showFallback_41 ?_
    refine lv_iload hx hb xd_De_showFallback_44 (lv_at hl 4 rfl) ?_
    refine lv_iconst (v := (0 : Int32)) hx hb xd_De_showFallback_46 (by decide) ?_
    refine fw_iast hx hb hK hD hP hS (xm_25 (by omega)) (xk_25 r) 0 rfl (j := x4.toNatClampNeg) rfl hc2 xd_De_showFallback_47 (fun v12 H locs ev12 hP hS => ?_)
    have hI : xI b v12 := by rw [ev12]; exact xI_up hI trivial trivial
    refine lv_goto (tgt := 70) hx hb xd_De_showFallback_48 (by decide) ?_
    exact J6 v12 (x2) _ _ _ (by rw [hj]; subst ev12; simp only [xf_De_showFallback_j5]) hc0 hc1  hI hP hS (lv_sub hl [0, 1, 2, 3] rfl)
  have J4 : ∀ (v : fw_V) (x2 : Int32) (H : Heap) (locs : List Loc) (ls : Array Slot), xf_De_showFallback v0 r a1 = xf_De_showFallback_j4 v r a1 x2 → vp_in a1 3 → vp_in x2 3 → xI b v → va_P D vcls (fw_w xCL cA xkd ad v) H → va_S (fw_A xCL ad) s.heap H locs → lv_has ls 5 [(0, .ref (ad 19 r)), (1, .int a1), (2, .int x2), (3, .int (1 : Int32))] → W p l e (headSpec (Cond.code xy_De_showFallback xb_De_showFallback 5 none :: vTB) xrm_De_showFallback).room s m ([.ref (ad 19 r), .int a1] : List Value).toArray below meth c H locs 0 0 (MQ below (fw_Qv D vcls xCL cA xkd ad (xI b) (xf_De_showFallback v0 r a1)) ([.ref (ad 19 r), .int a1] : List Value).toArray s 0 0 (fw_A xCL ad)) (F0 m 16 ls []) := by
    intro v x2 H locs ls hj hc0 hc1 hI hP hS hl
    clear J7
    refine lv_iload_n hx hb xd_De_showFallback_16 rfl (lv_at hl 3 rfl) ?_
    refine lv_iconst (v := (2 : Int32)) hx hb xd_De_showFallback_17 (by decide) ?_
    refine lv_icmp_ge (tgt := 76) hx hb xd_De_showFallback_18 (by decide) (fun c_8 => absurd c_8 (by decide)) (fun _ => ?_)
    refine lv_iload_n hx hb xd_De_showFallback_21 rfl (lv_at hl 1 rfl) ?_
    refine lv_iload_n hx hb xd_De_showFallback_22 rfl (lv_at hl 3 rfl) ?_
    refine fw_co (va_runSN (As := [.int a1, .int (1 : Int32)]) (rest := []) ⟨hx, hb, hml, hown, hts⟩ (xc_FR_place l hD v hI a1 (1 : Int32)) (xwn_FR_place hts (hN.2 _ L_De_186) ⟨Nat.le_of_ble_eq_true rfl, Nat.le_of_ble_eq_true rfl⟩) (fw_preS hN hK hP) rfl rfl hl.1 rfl (lv_room (Nat.le_of_ble_eq_true rfl)) xd_De_showFallback_23 ⟨Nat.le_of_ble_eq_true rfl, Nat.le_of_ble_eq_true rfl⟩) hS (fun r9 H locs er9 hP hS => ?_)
    have h_10 : vp_in r9 6 := xp_place er9 hc0 (fw_inc (by decide))
    refine lv_istore (lv' := [(4, .int r9), (0, .ref (ad 19 r)), (1, .int a1), (2, .int x2), (3, .int (1 : Int32))]) hx hb xd_De_showFallback_26 hl (by decide) rfl (fun ls hl => ?_)
    refine lv_iload_n hx hb xd_De_showFallback_28 rfl (lv_at hl 4 rfl) ?_
    refine lv_iload_n hx hb xd_De_showFallback_29 rfl (lv_at hl 3 rfl) ?_
    refine lv_icmp_ge (tgt := 40) hx hb xd_De_showFallback_30 (by decide) (fun c_11 => ?_) (fun c_11 => ?_)
    · exact J5 v (x2) (r9) _ _ _ (by rw [hj]; subst er9; simp only [xf_De_showFallback_j4, if_pos c_11]) hc0 hc1 h_10  hI hP hS (lv_sub hl [1, 2, 3, 4, 0] rfl)
    · refine lv_aload_n hx hb xd_De_showFallback_33 rfl (lv_at hl 1 rfl) ?_
      refine fw_geti hx hb hts i_De hown hK hP (xm_19 (by omega)) (xk_19 r) rfl 6 (by decide) (hts _ L_De_25) (fun _ h9 => h9) rfl xd_De_showFallback_34 ?_
      refine lv_if_ne (tgt := 51) hx hb xd_De_showFallback_37 (by decide) (fun c_14 => ?_) (fun c_14 => ?_)
      · refine lv_aload_n hx hb xd_De_showFallback_51 rfl (lv_at hl 1 rfl) ?_
        refine fw_geti hx hb hts i_De hown hK hP (xm_19 (by omega)) (xk_19 r) rfl 6 (by decide) (hts _ L_De_25) (fun _ h9 => h9) rfl xd_De_showFallback_52 ?_
        refine lv_iconst (v := (1 : Int32)) hx hb xd_De_showFallback_55 (by decide) ?_
        refine lv_icmp_eq (tgt := 70) hx hb xd_De_showFallback_56 (by decide) (fun c_15 => ?_) (fun c_15 => ?_)
        · exact J6 v (x2) _ _ _ (by rw [hj]; subst er9; simp only [xf_De_showFallback_j4, if_neg c_11, if_neg c_14, if_pos c_15]) hc0 hc1  hI hP hS (lv_sub hl [1, 2, 3, 4] rfl)
        · refine lv_aload_n hx hb xd_De_showFallback_59 rfl (lv_at hl 1 rfl) ?_
          refine fw_getr hx hb hts i_De hown hK hP (xm_19 (by omega)) (xk_19 r) rfl 10 (by decide) (hts _ L_De_36) (fun _ h9 => h9) rfl xd_De_showFallback_60 ?_
          refine lv_iload hx hb xd_De_showFallback_63 (lv_at hl 0 rfl) ?_
          refine lv_aload_n hx hb xd_De_showFallback_65 rfl (lv_at hl 1 rfl) ?_
          refine fw_geti hx hb hts i_De hown hK hP (xm_19 (by omega)) (xk_19 r) rfl 7 (by decide) (hts _ L_De_65) (fun _ h9 => h9) rfl xd_De_showFallback_66 ?_
          refine fw_iast hx hb hK hD hP hS (xm_25 (by omega)) (xk_25 r) 0 rfl (j := r9.toNatClampNeg) rfl h_10 xd_De_showFallback_69 (fun v16 H locs ev16 hP hS => ?_)
          have hI : xI b v16 := by rw [ev16]; exact xI_up hI trivial trivial
          exact J6 v16 (x2) _ _ _ (by rw [hj]; subst er9 ev16; simp only [xf_De_showFallback_j4, if_neg c_11, if_neg c_14, if_neg c_15]) hc0 hc1  hI hP hS (lv_sub hl [1, 2, 3, 4] rfl)
      · exact J5 v (x2) (r9) _ _ _ (by rw [hj]; subst er9; simp only [xf_De_showFallback_j4, if_neg c_11, if_pos c_14]) hc0 hc1 h_10  hI hP hS (lv_sub hl [1, 2, 3, 4, 0] rfl)
  have J3 : ∀ (v : fw_V) (x2 : Int32) (H : Heap) (locs : List Loc) (ls : Array Slot), xf_De_showFallback v0 r a1 = xf_De_showFallback_j3 v r a1 x2 → vp_in a1 3 → vp_in x2 3 → xI b v → va_P D vcls (fw_w xCL cA xkd ad v) H → va_S (fw_A xCL ad) s.heap H locs → lv_has ls 5 [(0, .ref (ad 19 r)), (1, .int a1), (2, .int x2), (3, .int (0 : Int32))] → W p l e (headSpec (Cond.code xy_De_showFallback xb_De_showFallback 5 none :: vTB) xrm_De_showFallback).room s m ([.ref (ad 19 r), .int a1] : List Value).toArray below meth c H locs 0 0 (MQ below (fw_Qv D vcls xCL cA xkd ad (xI b) (xf_De_showFallback v0 r a1)) ([.ref (ad 19 r), .int a1] : List Value).toArray s 0 0 (fw_A xCL ad)) (F0 m 70 ls []) := by
    intro v x2 H locs ls hj hc0 hc1 hI hP hS hl
    clear J7 J6 J5
    refine lv_iinc (v := (1 : Int32)) (lv' := [(3, .int (1 : Int32)), (0, .ref (ad 19 r)), (1, .int a1), (2, .int x2)]) hx hb xd_De_showFallback_70 hl (k := 3) rfl (by decide) (by decide) rfl (fun ls hl => ?_)
    refine lv_goto (tgt := 16) hx hb xd_De_showFallback_73 (by decide) ?_
    exact J4 v (x2) _ _ _ (by rw [hj]; simp only [xf_De_showFallback_j3]) hc0 hc1  hI hP hS (lv_sub hl [1, 2, 3, 0] rfl)
  have J2 : ∀ (v : fw_V) (x2 : Int32) (x4 : Int32) (H : Heap) (locs : List Loc) (ls : Array Slot), xf_De_showFallback v0 r a1 = xf_De_showFallback_j2 v r a1 x2 x4 → vp_in a1 3 → vp_in x2 3 → vp_in x4 6 → xI b v → va_P D vcls (fw_w xCL cA xkd ad v) H → va_S (fw_A xCL ad) s.heap H locs → lv_has ls 5 [(0, .ref (ad 19 r)), (1, .int a1), (2, .int x2), (3, .int (0 : Int32)), (4, .int x4)] → W p l e (headSpec (Cond.code xy_De_showFallback xb_De_showFallback 5 none :: vTB) xrm_De_showFallback).room s m ([.ref (ad 19 r), .int a1] : List Value).toArray below meth c H locs 0 0 (MQ below (fw_Qv D vcls xCL cA xkd ad (xI b) (xf_De_showFallback v0 r a1)) ([.ref (ad 19 r), .int a1] : List Value).toArray s 0 0 (fw_A xCL ad)) (F0 m 40 ls []) := by
    intro v x2 x4 H locs ls hj hc0 hc1 hc2 hI hP hS hl
    clear J7 J6 J5 J4
    refine lv_aload_n hx hb xd_De_showFallback_40 rfl (lv_at hl 0 rfl) ?_
    refine fw_getr hx hb hts i_De hown hK hP (xm_19 (by omega)) (xk_19 r) rfl 10 (by decide) (hts _ L_De_36) (fun _ h9 => h9) rfl xd_De_showFallback_41 ?_
    refine lv_iload hx hb xd_De_showFallback_44 (lv_at hl 4 rfl) ?_
    refine lv_iconst (v := (0 : Int32)) hx hb xd_De_showFallback_46 (by decide) ?_
    refine fw_iast hx hb hK hD hP hS (xm_25 (by omega)) (xk_25 r) 0 rfl (j := x4.toNatClampNeg) rfl hc2 xd_De_showFallback_47 (fun v7 H locs ev7 hP hS => ?_)
    have hI : xI b v7 := by rw [ev7]; exact xI_up hI trivial trivial
    refine lv_goto (tgt := 70) hx hb xd_De_showFallback_48 (by decide) ?_
    exact J3 v7 (x2) _ _ _ (by rw [hj]; subst ev7; simp only [xf_De_showFallback_j2]) hc0 hc1  hI hP hS (lv_sub hl [0, 1, 2, 3] rfl)
  have J1 : ∀ (v : fw_V) (x2 : Int32) (H : Heap) (locs : List Loc) (ls : Array Slot), xf_De_showFallback v0 r a1 = xf_De_showFallback_j1 v r a1 x2 → vp_in a1 3 → vp_in x2 3 → xI b v → va_P D vcls (fw_w xCL cA xkd ad v) H → va_S (fw_A xCL ad) s.heap H locs → lv_has ls 5 [(0, .ref (ad 19 r)), (1, .int a1), (2, .int x2), (3, .int (0 : Int32))] → W p l e (headSpec (Cond.code xy_De_showFallback xb_De_showFallback 5 none :: vTB) xrm_De_showFallback).room s m ([.ref (ad 19 r), .int a1] : List Value).toArray below meth c H locs 0 0 (MQ below (fw_Qv D vcls xCL cA xkd ad (xI b) (xf_De_showFallback v0 r a1)) ([.ref (ad 19 r), .int a1] : List Value).toArray s 0 0 (fw_A xCL ad)) (F0 m 16 ls []) := by
    intro v x2 H locs ls hj hc0 hc1 hI hP hS hl
    clear J7 J6 J5 J4
    refine lv_iload_n hx hb xd_De_showFallback_16 rfl (lv_at hl 3 rfl) ?_
    refine lv_iconst (v := (2 : Int32)) hx hb xd_De_showFallback_17 (by decide) ?_
    refine lv_icmp_ge (tgt := 76) hx hb xd_De_showFallback_18 (by decide) (fun c_3 => absurd c_3 (by decide)) (fun _ => ?_)
    refine lv_iload_n hx hb xd_De_showFallback_21 rfl (lv_at hl 1 rfl) ?_
    refine lv_iload_n hx hb xd_De_showFallback_22 rfl (lv_at hl 3 rfl) ?_
    refine fw_co (va_runSN (As := [.int a1, .int (0 : Int32)]) (rest := []) ⟨hx, hb, hml, hown, hts⟩ (xc_FR_place l hD v hI a1 (0 : Int32)) (xwn_FR_place hts (hN.2 _ L_De_186) ⟨Nat.le_of_ble_eq_true rfl, Nat.le_of_ble_eq_true rfl⟩) (fw_preS hN hK hP) rfl rfl hl.1 rfl (lv_room (Nat.le_of_ble_eq_true rfl)) xd_De_showFallback_23 ⟨Nat.le_of_ble_eq_true rfl, Nat.le_of_ble_eq_true rfl⟩) hS (fun r4 H locs er4 hP hS => ?_)
    have h_5 : vp_in r4 6 := xp_place er4 hc0 (fw_inc (by decide))
    refine lv_istore (lv' := [(4, .int r4), (0, .ref (ad 19 r)), (1, .int a1), (2, .int x2), (3, .int (0 : Int32))]) hx hb xd_De_showFallback_26 hl (by decide) rfl (fun ls hl => ?_)
    refine lv_iload_n hx hb xd_De_showFallback_28 rfl (lv_at hl 4 rfl) ?_
    refine lv_iload_n hx hb xd_De_showFallback_29 rfl (lv_at hl 3 rfl) ?_
    refine lv_icmp_ge (tgt := 40) hx hb xd_De_showFallback_30 (by decide) (fun c_6 => ?_) (fun c_6 => ?_)
    · exact J2 v (x2) (r4) _ _ _ (by rw [hj]; subst er4; simp only [xf_De_showFallback_j1, if_pos c_6]) hc0 hc1 h_5  hI hP hS (lv_sub hl [1, 2, 3, 4, 0] rfl)
    · refine lv_aload_n hx hb xd_De_showFallback_33 rfl (lv_at hl 1 rfl) ?_
      refine fw_geti hx hb hts i_De hown hK hP (xm_19 (by omega)) (xk_19 r) rfl 6 (by decide) (hts _ L_De_25) (fun _ h9 => h9) rfl xd_De_showFallback_34 ?_
      refine lv_if_ne (tgt := 51) hx hb xd_De_showFallback_37 (by decide) (fun c_17 => ?_) (fun c_17 => ?_)
      · refine lv_aload_n hx hb xd_De_showFallback_51 rfl (lv_at hl 1 rfl) ?_
        refine fw_geti hx hb hts i_De hown hK hP (xm_19 (by omega)) (xk_19 r) rfl 6 (by decide) (hts _ L_De_25) (fun _ h9 => h9) rfl xd_De_showFallback_52 ?_
        refine lv_iconst (v := (1 : Int32)) hx hb xd_De_showFallback_55 (by decide) ?_
        refine lv_icmp_eq (tgt := 70) hx hb xd_De_showFallback_56 (by decide) (fun c_18 => ?_) (fun c_18 => ?_)
        · exact J3 v (x2) _ _ _ (by rw [hj]; subst er4; simp only [xf_De_showFallback_j1, if_neg c_6, if_neg c_17, if_pos c_18]) hc0 hc1  hI hP hS (lv_sub hl [1, 2, 3, 4] rfl)
        · refine lv_aload_n hx hb xd_De_showFallback_59 rfl (lv_at hl 1 rfl) ?_
          refine fw_getr hx hb hts i_De hown hK hP (xm_19 (by omega)) (xk_19 r) rfl 10 (by decide) (hts _ L_De_36) (fun _ h9 => h9) rfl xd_De_showFallback_60 ?_
          refine lv_iload hx hb xd_De_showFallback_63 (lv_at hl 0 rfl) ?_
          refine lv_aload_n hx hb xd_De_showFallback_65 rfl (lv_at hl 1 rfl) ?_
          refine fw_geti hx hb hts i_De hown hK hP (xm_19 (by omega)) (xk_19 r) rfl 7 (by decide) (hts _ L_De_65) (fun _ h9 => h9) rfl xd_De_showFallback_66 ?_
          refine fw_iast hx hb hK hD hP hS (xm_25 (by omega)) (xk_25 r) 0 rfl (j := r4.toNatClampNeg) rfl h_5 xd_De_showFallback_69 (fun v19 H locs ev19 hP hS => ?_)
          have hI : xI b v19 := by rw [ev19]; exact xI_up hI trivial trivial
          exact J3 v19 (x2) _ _ _ (by rw [hj]; subst er4 ev19; simp only [xf_De_showFallback_j1, if_neg c_6, if_neg c_17, if_neg c_18]) hc0 hc1  hI hP hS (lv_sub hl [1, 2, 3, 4] rfl)
      · exact J2 v (x2) (r4) _ _ _ (by rw [hj]; subst er4; simp only [xf_De_showFallback_j1, if_neg c_6, if_pos c_17]) hc0 hc1 h_5  hI hP hS (lv_sub hl [1, 2, 3, 4, 0] rfl)
  clear J7 J6 J5 J4 J3 J2
  have hl := lv_entry ([.ref (ad 19 r), .int a1]) (n := 5) (Nat.le_of_ble_eq_true rfl)
  rw [lg_entry_eq]
  generalize (lg_sl ([.ref (ad 19 r), .int a1]) ++ List.replicate (5 - (lg_sl ([.ref (ad 19 r), .int a1])).length) Slot.unset).toArray = ls at hl ⊢
  have hl : lv_has ls 5 [(0, .ref (ad 19 r)), (1, .int a1)] := hl
  refine lv_aload_n hx hb xd_De_showFallback_0 rfl (lv_at hl 0 rfl) ?_
  refine fw_getr hx hb hts i_De hown hK hP (xm_19 (by omega)) (xk_19 r) rfl 1 (by decide) (hts _ L_De_48) (fun _ h9 => h9) rfl xd_De_showFallback_1 ?_
  refine lv_aload_n hx hb xd_De_showFallback_4 rfl (lv_at hl 0 rfl) ?_
  refine fw_getr hx hb hts i_De hown hK hP (xm_19 (by omega)) (xk_19 r) rfl 8 (by decide) (hts _ L_De_29) (fun _ h9 => h9) rfl xd_De_showFallback_5 ?_
  refine lv_iload_n hx hb xd_De_showFallback_8 rfl (lv_at hl 1 rfl) ?_
  refine fw_iald hx hb hK hP (xm_23 (by omega)) (xk_23 r) 0 rfl (j := a1.toNatClampNeg) rfl hq0 xd_De_showFallback_9 ?_
  refine fw_co (va_runV (As := [.int (v0 23 r a1.toNatClampNeg)]) (rest := []) ⟨hx, hb, hml, hown, hts⟩ (xc_KT_outsOf l hD v0 hI (v0 23 r a1.toNatClampNeg)) (xw_KT_outsOf hts L_De_182 ⟨Nat.le_of_ble_eq_true rfl, Nat.le_of_ble_eq_true rfl⟩) (fw_preV hN hK hP (xm_1 (by decide)) (xk_1 0) rfl) rfl rfl hl.1 rfl (lv_room (Nat.le_of_ble_eq_true rfl)) xd_De_showFallback_10 ⟨Nat.le_of_ble_eq_true rfl, Nat.le_of_ble_eq_true rfl⟩) hS (fun r1 H locs er1 hP hS => ?_)
  have h_2 : vp_in r1 3 := xp_KT_outsOf er1 hI
  refine lv_istore_n (lv' := [(2, .int r1), (0, .ref (ad 19 r)), (1, .int a1)]) hx hb xd_De_showFallback_13 rfl hl (by decide) rfl (fun ls hl => ?_)
  refine lv_iconst (v := (0 : Int32)) hx hb xd_De_showFallback_14 (by decide) ?_
  refine lv_istore_n (lv' := [(3, .int (0 : Int32)), (2, .int r1), (0, .ref (ad 19 r)), (1, .int a1)]) hx hb xd_De_showFallback_15 rfl hl (by decide) rfl (fun ls hl => ?_)
  exact J1 v0 (r1) _ _ _ (by subst er1; simp only [xf_De_showFallback]) hq0 h_2  hI hP hS (lv_sub hl [2, 3, 1, 0] rfl)
def xf_FR_withSlot (a1 : Int32) (a2 : Int32) (a3 : Int32) : Int32 :=
  if a3 = (0 : Int32) then
    (a1 &&& (((1 : Int32) <<< (a2 &&& 31)) ^^^ (-1 : Int32)))
  else
    (a1 ||| ((1 : Int32) <<< (a2 &&& 31)))

set_option maxHeartbeats 4000000 in
set_option maxRecDepth 100000 in
theorem xc_FR_withSlot (l : Launch) {D : va_G} {cA : Nat → ClassId} {ad : Nat → Nat → Nat} (hD : fw_D xCL ad) {b : Nat} (v0 : fw_V) (hI : xI b v0) (a1 : Int32) (a2 : Int32) (a3 : Int32)  : Met l xy_FR_withSlot (Cond.code xy_FR_withSlot xb_FR_withSlot 3 (some .int) :: vTB) xrm_FR_withSlot (fw_Pc vNL D vcls (vtys cA) xCL cA xkd ad v0 [.int a1, .int a2, .int a3]) (fw_Qo D vcls xCL cA xkd ad v0 (xf_FR_withSlot a1 a2 a3)) 0 0 (fw_A xCL ad) := by
  refine Met.ofW (cc := xb_FR_withSlot) (maxL := 3) (ret := (some .int)) (by decide) rfl ?_
  intro p e s m args below meth c s₁ B hml hv
  obtain ⟨rfl, hP, hK, hN⟩ := hv
  have hx := B.exec
  have hb := B.bytes
  have hr := B.returns
  have hts : ∀ w ∈ vTB, w.before ([.int a1, .int a2, .int a3] : List Value).toArray s = true := fun w h => atoms_spec (ws := (Cond.code xy_FR_withSlot xb_FR_withSlot 3 (some .int) :: vTB)) B.pre w (List.mem_cons_of_mem _ h)
  have hown : s.vm.findClass R_FR = some m.cls := findClass_of_methodNamed B.named
  have hlocks := B.notSynchronized
  have hS : va_S (fw_A xCL ad) s.heap s.heap [] := va_S.rf
  skip
  have hl := lv_entry ([.int a1, .int a2, .int a3]) (n := 3) (Nat.le_of_ble_eq_true rfl)
  rw [lg_entry_eq]
  generalize (lg_sl ([.int a1, .int a2, .int a3]) ++ List.replicate (3 - (lg_sl ([.int a1, .int a2, .int a3])).length) Slot.unset).toArray = ls at hl ⊢
  have hl : lv_has ls 3 [(0, .int a1), (1, .int a2), (2, .int a3)] := hl
  refine lv_iload_n hx hb xd_FR_withSlot_0 rfl (lv_at hl 2 rfl) ?_
  refine lv_if_eq (tgt := 12) hx hb xd_FR_withSlot_1 (by decide) (fun c_1 => ?_) (fun c_1 => ?_)
  · refine lv_iload_n hx hb xd_FR_withSlot_12 rfl (lv_at hl 0 rfl) ?_
    refine lv_iconst (v := (1 : Int32)) hx hb xd_FR_withSlot_13 (by decide) ?_
    refine lv_iload_n hx hb xd_FR_withSlot_14 rfl (lv_at hl 1 rfl) ?_
    refine lv_ishl hx hb xd_FR_withSlot_15 ?_
    refine lv_iconst (v := (-1 : Int32)) hx hb xd_FR_withSlot_16 (by decide) ?_
    refine lv_ixor hx hb xd_FR_withSlot_17 ?_
    refine lv_iand hx hb xd_FR_withSlot_18 ?_
    exact fw_oret hx hb hr hlocks hS hP xd_FR_withSlot_19 (by simp only [xf_FR_withSlot, if_pos c_1])
  · refine lv_iload_n hx hb xd_FR_withSlot_4 rfl (lv_at hl 0 rfl) ?_
    refine lv_iconst (v := (1 : Int32)) hx hb xd_FR_withSlot_5 (by decide) ?_
    refine lv_iload_n hx hb xd_FR_withSlot_6 rfl (lv_at hl 1 rfl) ?_
    refine lv_ishl hx hb xd_FR_withSlot_7 ?_
    refine lv_ior hx hb xd_FR_withSlot_8 ?_
    refine lv_goto (tgt := 19) hx hb xd_FR_withSlot_9 (by decide) ?_
    exact fw_oret hx hb hr hlocks hS hP xd_FR_withSlot_19 (by simp only [xf_FR_withSlot, if_neg c_1])
def xf_AQ_add (v0 : fw_V) (r : Nat) (a1 : Int32) (a2 : Int32) : fw_V :=
  if (4 : Int32) ≤ (v0 20 r 2) then
    v0
  else
    let v4 := fw_up v0 21 r ((v0 20 r 2).toNatClampNeg) a1
    let v7 := fw_up v4 22 r ((v4 20 r 2).toNatClampNeg) a2
    let v10 := fw_up v7 20 r 2 ((v7 20 r 2) + (1 : Int32))
    v10

set_option maxHeartbeats 4000000 in
set_option maxRecDepth 100000 in
theorem xc_AQ_add (l : Launch) {D : va_G} {cA : Nat → ClassId} {ad : Nat → Nat → Nat} (hD : fw_D xCL ad) {b : Nat} (v0 : fw_V) (hI : xI b v0) (r : Nat) (hr0 : r < 2) (a1 : Int32) (a2 : Int32)  : Met l xy_AQ_add (Cond.code xy_AQ_add xb_AQ_add 3 none :: vTB) xrm_AQ_add (fw_Pc vNL D vcls (vtys cA) xCL cA xkd ad v0 [.ref (ad 20 r), .int a1, .int a2]) (fw_Qv D vcls xCL cA xkd ad (xI b) (xf_AQ_add v0 r a1 a2)) 0 0 (fw_A xCL ad) := by
  refine Met.ofW (cc := xb_AQ_add) (maxL := 3) (ret := none) (by decide) rfl ?_
  intro p e s m args below meth c s₁ B hml hv
  obtain ⟨rfl, hP, hK, hN⟩ := hv
  have hx := B.exec
  have hb := B.bytes
  have hr := B.returns
  have hts : ∀ w ∈ vTB, w.before ([.ref (ad 20 r), .int a1, .int a2] : List Value).toArray s = true := fun w h => atoms_spec (ws := (Cond.code xy_AQ_add xb_AQ_add 3 none :: vTB)) B.pre w (List.mem_cons_of_mem _ h)
  have hown : s.vm.findClass R_AQ = some m.cls := findClass_of_methodNamed B.named
  have hlocks := B.notSynchronized
  have hS : va_S (fw_A xCL ad) s.heap s.heap [] := va_S.rf
  skip
  have hl := lv_entry ([.ref (ad 20 r), .int a1, .int a2]) (n := 3) (Nat.le_of_ble_eq_true rfl)
  rw [lg_entry_eq]
  generalize (lg_sl ([.ref (ad 20 r), .int a1, .int a2]) ++ List.replicate (3 - (lg_sl ([.ref (ad 20 r), .int a1, .int a2])).length) Slot.unset).toArray = ls at hl ⊢
  have hl : lv_has ls 3 [(0, .ref (ad 20 r)), (1, .int a1), (2, .int a2)] := hl
  refine lv_aload_n hx hb xd_AQ_add_0 rfl (lv_at hl 0 rfl) ?_
  refine fw_geti hx hb hts i_AQ hown hK hP (xm_20 (by omega)) (xk_20 r) rfl 2 (by decide) (hts _ L_AQ_16) (fun _ h9 => h9) rfl xd_AQ_add_1 ?_
  have h_1 : vp_in (v0 20 r 2) 5 := hI.1 20 r 2
  refine lv_iconst (v := (4 : Int32)) hx hb xd_AQ_add_4 (by decide) ?_
  refine lv_icmp_ge (tgt := 38) hx hb xd_AQ_add_5 (by decide) (fun c_2 => ?_) (fun c_2 => ?_)
  · exact fw_vret hx hb hr hlocks hS hP hI xd_AQ_add_38 (by simp only [xf_AQ_add, if_pos c_2])
  · have h_3 : vp_in (v0 20 r 2) 4 := fw_in1 h_1 c_2
    refine lv_aload_n hx hb xd_AQ_add_8 rfl (lv_at hl 0 rfl) ?_
    refine fw_getr hx hb hts i_AQ hown hK hP (xm_20 (by omega)) (xk_20 r) rfl 0 (by decide) (hts _ L_AQ_9) (fun _ h9 => h9) rfl xd_AQ_add_9 ?_
    refine lv_aload_n hx hb xd_AQ_add_12 rfl (lv_at hl 0 rfl) ?_
    refine fw_geti hx hb hts i_AQ hown hK hP (xm_20 (by omega)) (xk_20 r) rfl 2 (by decide) (hts _ L_AQ_16) (fun _ h9 => h9) rfl xd_AQ_add_13 ?_
    refine lv_iload_n hx hb xd_AQ_add_16 rfl (lv_at hl 1 rfl) ?_
    refine fw_iast hx hb hK hD hP hS (xm_21 (by omega)) (xk_21 r) 0 rfl (j := (v0 20 r 2).toNatClampNeg) rfl h_3 xd_AQ_add_17 (fun v4 H locs ev4 hP hS => ?_)
    have hI : xI b v4 := by rw [ev4]; exact xI_up hI trivial trivial
    refine lv_aload_n hx hb xd_AQ_add_18 rfl (lv_at hl 0 rfl) ?_
    refine fw_getr hx hb hts i_AQ hown hK hP (xm_20 (by omega)) (xk_20 r) rfl 1 (by decide) (hts _ L_AQ_13) (fun _ h9 => h9) rfl xd_AQ_add_19 ?_
    refine lv_aload_n hx hb xd_AQ_add_22 rfl (lv_at hl 0 rfl) ?_
    refine fw_geti hx hb hts i_AQ hown hK hP (xm_20 (by omega)) (xk_20 r) rfl 2 (by decide) (hts _ L_AQ_16) (fun _ h9 => h9) rfl xd_AQ_add_23 ?_
    have h_5 : vp_in (v4 20 r 2) 5 := hI.1 20 r 2
    have h_6 : vp_in (v4 20 r 2) 4 := (by rw [ev4, fw_up_c (c := 21) (c' := 20) (by decide)]; exact h_3)
    refine lv_iload_n hx hb xd_AQ_add_26 rfl (lv_at hl 2 rfl) ?_
    refine fw_iast hx hb hK hD hP hS (xm_22 (by omega)) (xk_22 r) 0 rfl (j := (v4 20 r 2).toNatClampNeg) rfl h_6 xd_AQ_add_27 (fun v7 H locs ev7 hP hS => ?_)
    have hI : xI b v7 := by rw [ev7]; exact xI_up hI trivial trivial
    refine lv_aload_n hx hb xd_AQ_add_28 rfl (lv_at hl 0 rfl) ?_
    refine lv_dup hx hb xd_AQ_add_29 rfl ?_
    refine fw_geti hx hb hts i_AQ hown hK hP (xm_20 (by omega)) (xk_20 r) rfl 2 (by decide) (hts _ L_AQ_16) (fun _ h9 => h9) rfl xd_AQ_add_30 ?_
    have h_8 : vp_in (v7 20 r 2) 5 := hI.1 20 r 2
    have h_9 : vp_in (v7 20 r 2) 4 := (by rw [ev7, fw_up_c (c := 22) (c' := 20) (by decide)]; exact h_6)
    refine lv_iconst (v := (1 : Int32)) hx hb xd_AQ_add_33 (by decide) ?_
    refine lv_iadd hx hb xd_AQ_add_34 ?_
    refine fw_puti hx hb hts i_AQ t_AQ t_AQ_ok n_AQ hown hK hD hP hS (xm_20 (by omega)) (xk_20 r) rfl 2 (by decide) (hts _ L_AQ_16) (fun _ h9 => h9) rfl fw_pdI rfl rfl rfl xd_AQ_add_35 (fun v10 H locs ev10 hP hS => ?_)
    have hI : xI b v10 := by rw [ev10]; exact xI_up hI (fw_inp1 h_9 (by decide)) (Or.inr (fw_posp1 h_9 (by decide)))
    exact fw_vret hx hb hr hlocks hS hP hI xd_AQ_add_38 (by subst ev4 ev7 ev10; simp only [xf_AQ_add, if_neg c_2])
def xf_De_changeModule_j1 (v : fw_V) (r : Nat) (a1 : Int32) (a2 : Int32) (x92 : Int32) : fw_V :=
  let r7 := xf_FR_withSlot x92 a1 (0 : Int32)
  let v8 := fw_up v 19 r 15 r7
  let v9 := xf_AQ_add v8 (r) a1 (a2 + (1 : Int32))
  v9
def xf_De_changeModule_j2 (v : fw_V) (r : Nat) (a1 : Int32) (a2 : Int32) (x92 : Int32) : fw_V :=
  let r10 := xf_FR_withSlot x92 a1 (1 : Int32)
  let v11 := fw_up v 19 r 15 r10
  let v12 := xf_AQ_add v11 (r) a1 (a2 + (1 : Int32))
  v12
def xf_De_changeModule (v0 : fw_V) (r : Nat) (a1 : Int32) (a2 : Int32) : fw_V :=
  if (v0 23 r a1.toNatClampNeg) = a2 then
    v0
  else
    let v2 := fw_up v0 23 r (a1.toNatClampNeg) a2
    let v3 := xf_De_showFallback v2 (r) a1
    if (v3 19 r 11) = (3 : Int32) then
      if (v3 26 r a1.toNatClampNeg) = (-1 : Int32) then
        v3
      else
        if a2 = (v3 26 r a1.toNatClampNeg) then
          xf_De_changeModule_j1 v3 r a1 a2 ((v3 19 r 15))
        else
          xf_De_changeModule_j2 v3 r a1 a2 ((v3 19 r 15))
    else
      v3

set_option maxHeartbeats 4000000 in
set_option maxRecDepth 100000 in
theorem xc_De_changeModule (l : Launch) {D : va_G} {cA : Nat → ClassId} {ad : Nat → Nat → Nat} (hD : fw_D xCL ad) {b : Nat} (v0 : fw_V) (hI : xI b v0) (r : Nat) (hr0 : r < 2) (a1 : Int32) (a2 : Int32) (hq0 : vp_in a1 3) : Met l xy_De_changeModule (Cond.code xy_De_changeModule xb_De_changeModule 3 none :: vTB) xrm_De_changeModule (fw_Pc vNL D vcls (vtys cA) xCL cA xkd ad v0 [.ref (ad 19 r), .int a1, .int a2]) (fw_Qv D vcls xCL cA xkd ad (xI b) (xf_De_changeModule v0 r a1 a2)) 0 0 (fw_A xCL ad) := by
  refine Met.ofW (cc := xb_De_changeModule) (maxL := 3) (ret := none) (by decide) rfl ?_
  intro p e s m args below meth c s₁ B hml hv
  obtain ⟨rfl, hP, hK, hN⟩ := hv
  have hx := B.exec
  have hb := B.bytes
  have hr := B.returns
  have hts : ∀ w ∈ vTB, w.before ([.ref (ad 19 r), .int a1, .int a2] : List Value).toArray s = true := fun w h => atoms_spec (ws := (Cond.code xy_De_changeModule xb_De_changeModule 3 none :: vTB)) B.pre w (List.mem_cons_of_mem _ h)
  have hown : s.vm.findClass R_De = some m.cls := findClass_of_methodNamed B.named
  have hlocks := B.notSynchronized
  have hS : va_S (fw_A xCL ad) s.heap s.heap [] := va_S.rf
  have J1 : ∀ (v : fw_V) (x92 : Int32) (H : Heap) (locs : List Loc) (ls : Array Slot), xf_De_changeModule v0 r a1 a2 = xf_De_changeModule_j1 v r a1 a2 x92 → vp_in a1 3 → vp_in a1 3 → xI b v → va_P D vcls (fw_w xCL cA xkd ad v) H → va_S (fw_A xCL ad) s.heap H locs → lv_has ls 3 [(0, .ref (ad 19 r)), (1, .int a1), (2, .int a2)] → W p l e (headSpec (Cond.code xy_De_changeModule xb_De_changeModule 3 none :: vTB) xrm_De_changeModule).room s m ([.ref (ad 19 r), .int a1, .int a2] : List Value).toArray below meth c H locs 0 0 (MQ below (fw_Qv D vcls xCL cA xkd ad (xI b) (xf_De_changeModule v0 r a1 a2)) ([.ref (ad 19 r), .int a1, .int a2] : List Value).toArray s 0 0 (fw_A xCL ad)) (F0 m 62 ls [.int (0 : Int32), .int a1, .int x92, .ref (ad 19 r)]) := by
    intro v x92 H locs ls hj hc0 hc1 hI hP hS hl
    refine fw_co (va_runSN (As := [.int x92, .int a1, .int (0 : Int32)]) (rest := [.ref (ad 19 r)]) ⟨hx, hb, hml, hown, hts⟩ (xc_FR_withSlot l hD v hI x92 a1 (0 : Int32)) (xwn_FR_withSlot hts (hN.2 _ L_De_75) ⟨Nat.le_of_ble_eq_true rfl, Nat.le_of_ble_eq_true rfl⟩) (fw_preS hN hK hP) rfl rfl hl.1 rfl (lv_room (Nat.le_of_ble_eq_true rfl)) xd_De_changeModule_62 ⟨Nat.le_of_ble_eq_true rfl, Nat.le_of_ble_eq_true rfl⟩) hS (fun r7 H locs er7 hP hS => ?_)
    refine fw_puti hx hb hts i_De t_De t_De_ok n_De hown hK hD hP hS (xm_19 (by omega)) (xk_19 r) rfl 15 (by decide) (hts _ L_De_72) (fun _ h9 => h9) rfl fw_pdI rfl rfl rfl xd_De_changeModule_65 (fun v8 H locs ev8 hP hS => ?_)
    have hI : xI b v8 := by rw [ev8]; exact xI_up hI trivial trivial
    refine lv_aload_n hx hb xd_De_changeModule_68 rfl (lv_at hl 0 rfl) ?_
    refine fw_getr hx hb hts i_De hown hK hP (xm_19 (by omega)) (xk_19 r) rfl 4 (by decide) (hts _ L_De_21) (fun _ h9 => h9) rfl xd_De_changeModule_69 ?_
    refine lv_iload_n hx hb xd_De_changeModule_72 rfl (lv_at hl 1 rfl) ?_
    refine lv_iload_n hx hb xd_De_changeModule_73 rfl (lv_at hl 2 rfl) ?_
    refine lv_iconst (v := (1 : Int32)) hx hb xd_De_changeModule_74 (by decide) ?_
    refine lv_iadd hx hb xd_De_changeModule_75 ?_
    refine fw_cv (va_runV (As := [.int a1, .int (a2 + (1 : Int32))]) (rest := []) ⟨hx, hb, hml, hown, hts⟩ (xc_AQ_add l hD v8 hI (r) (by omega) a1 (a2 + (1 : Int32))) (xw_AQ_add hts L_De_79 ⟨Nat.le_of_ble_eq_true rfl, Nat.le_of_ble_eq_true rfl⟩) (fw_preV hN hK hP (xm_20 (by omega)) (xk_20 r) rfl) rfl rfl hl.1 rfl (lv_room (Nat.le_of_ble_eq_true rfl)) xd_De_changeModule_76 ⟨Nat.le_of_ble_eq_true rfl, Nat.le_of_ble_eq_true rfl⟩) hS (fun v9 H locs ev9 hI hP hS => ?_)
    exact fw_vret hx hb hr hlocks hS hP hI xd_De_changeModule_79 (by rw [hj]; subst er7 ev8 ev9; simp only [xf_De_changeModule_j1])
  have J2 : ∀ (v : fw_V) (x92 : Int32) (H : Heap) (locs : List Loc) (ls : Array Slot), xf_De_changeModule v0 r a1 a2 = xf_De_changeModule_j2 v r a1 a2 x92 → vp_in a1 3 → vp_in a1 3 → xI b v → va_P D vcls (fw_w xCL cA xkd ad v) H → va_S (fw_A xCL ad) s.heap H locs → lv_has ls 3 [(0, .ref (ad 19 r)), (1, .int a1), (2, .int a2)] → W p l e (headSpec (Cond.code xy_De_changeModule xb_De_changeModule 3 none :: vTB) xrm_De_changeModule).room s m ([.ref (ad 19 r), .int a1, .int a2] : List Value).toArray below meth c H locs 0 0 (MQ below (fw_Qv D vcls xCL cA xkd ad (xI b) (xf_De_changeModule v0 r a1 a2)) ([.ref (ad 19 r), .int a1, .int a2] : List Value).toArray s 0 0 (fw_A xCL ad)) (F0 m 62 ls [.int (1 : Int32), .int a1, .int x92, .ref (ad 19 r)]) := by
    intro v x92 H locs ls hj hc0 hc1 hI hP hS hl
    clear J1
    refine fw_co (va_runSN (As := [.int x92, .int a1, .int (1 : Int32)]) (rest := [.ref (ad 19 r)]) ⟨hx, hb, hml, hown, hts⟩ (xc_FR_withSlot l hD v hI x92 a1 (1 : Int32)) (xwn_FR_withSlot hts (hN.2 _ L_De_75) ⟨Nat.le_of_ble_eq_true rfl, Nat.le_of_ble_eq_true rfl⟩) (fw_preS hN hK hP) rfl rfl hl.1 rfl (lv_room (Nat.le_of_ble_eq_true rfl)) xd_De_changeModule_62 ⟨Nat.le_of_ble_eq_true rfl, Nat.le_of_ble_eq_true rfl⟩) hS (fun r10 H locs er10 hP hS => ?_)
    refine fw_puti hx hb hts i_De t_De t_De_ok n_De hown hK hD hP hS (xm_19 (by omega)) (xk_19 r) rfl 15 (by decide) (hts _ L_De_72) (fun _ h9 => h9) rfl fw_pdI rfl rfl rfl xd_De_changeModule_65 (fun v11 H locs ev11 hP hS => ?_)
    have hI : xI b v11 := by rw [ev11]; exact xI_up hI trivial trivial
    refine lv_aload_n hx hb xd_De_changeModule_68 rfl (lv_at hl 0 rfl) ?_
    refine fw_getr hx hb hts i_De hown hK hP (xm_19 (by omega)) (xk_19 r) rfl 4 (by decide) (hts _ L_De_21) (fun _ h9 => h9) rfl xd_De_changeModule_69 ?_
    refine lv_iload_n hx hb xd_De_changeModule_72 rfl (lv_at hl 1 rfl) ?_
    refine lv_iload_n hx hb xd_De_changeModule_73 rfl (lv_at hl 2 rfl) ?_
    refine lv_iconst (v := (1 : Int32)) hx hb xd_De_changeModule_74 (by decide) ?_
    refine lv_iadd hx hb xd_De_changeModule_75 ?_
    refine fw_cv (va_runV (As := [.int a1, .int (a2 + (1 : Int32))]) (rest := []) ⟨hx, hb, hml, hown, hts⟩ (xc_AQ_add l hD v11 hI (r) (by omega) a1 (a2 + (1 : Int32))) (xw_AQ_add hts L_De_79 ⟨Nat.le_of_ble_eq_true rfl, Nat.le_of_ble_eq_true rfl⟩) (fw_preV hN hK hP (xm_20 (by omega)) (xk_20 r) rfl) rfl rfl hl.1 rfl (lv_room (Nat.le_of_ble_eq_true rfl)) xd_De_changeModule_76 ⟨Nat.le_of_ble_eq_true rfl, Nat.le_of_ble_eq_true rfl⟩) hS (fun v12 H locs ev12 hI hP hS => ?_)
    exact fw_vret hx hb hr hlocks hS hP hI xd_De_changeModule_79 (by rw [hj]; subst er10 ev11 ev12; simp only [xf_De_changeModule_j2])
  skip
  have hl := lv_entry ([.ref (ad 19 r), .int a1, .int a2]) (n := 3) (Nat.le_of_ble_eq_true rfl)
  rw [lg_entry_eq]
  generalize (lg_sl ([.ref (ad 19 r), .int a1, .int a2]) ++ List.replicate (3 - (lg_sl ([.ref (ad 19 r), .int a1, .int a2])).length) Slot.unset).toArray = ls at hl ⊢
  have hl : lv_has ls 3 [(0, .ref (ad 19 r)), (1, .int a1), (2, .int a2)] := hl
  refine lv_aload_n hx hb xd_De_changeModule_0 rfl (lv_at hl 0 rfl) ?_
  refine fw_getr hx hb hts i_De hown hK hP (xm_19 (by omega)) (xk_19 r) rfl 8 (by decide) (hts _ L_De_29) (fun _ h9 => h9) rfl xd_De_changeModule_1 ?_
  refine lv_iload_n hx hb xd_De_changeModule_4 rfl (lv_at hl 1 rfl) ?_
  refine fw_iald hx hb hK hP (xm_23 (by omega)) (xk_23 r) 0 rfl (j := a1.toNatClampNeg) rfl hq0 xd_De_changeModule_5 ?_
  refine lv_iload_n hx hb xd_De_changeModule_6 rfl (lv_at hl 2 rfl) ?_
  refine lv_icmp_ne (tgt := 11) hx hb xd_De_changeModule_7 (by decide) (fun c_1 => ?_) (fun c_1 => ?_)
  · refine lv_aload_n hx hb xd_De_changeModule_11 rfl (lv_at hl 0 rfl) ?_
    refine fw_getr hx hb hts i_De hown hK hP (xm_19 (by omega)) (xk_19 r) rfl 8 (by decide) (hts _ L_De_29) (fun _ h9 => h9) rfl xd_De_changeModule_12 ?_
    refine lv_iload_n hx hb xd_De_changeModule_15 rfl (lv_at hl 1 rfl) ?_
    refine lv_iload_n hx hb xd_De_changeModule_16 rfl (lv_at hl 2 rfl) ?_
    refine fw_iast hx hb hK hD hP hS (xm_23 (by omega)) (xk_23 r) 0 rfl (j := a1.toNatClampNeg) rfl hq0 xd_De_changeModule_17 (fun v2 H locs ev2 hP hS => ?_)
    have hI : xI b v2 := by rw [ev2]; exact xI_up hI trivial trivial
    refine lv_aload_n hx hb xd_De_changeModule_18 rfl (lv_at hl 0 rfl) ?_
    refine lv_iload_n hx hb xd_De_changeModule_19 rfl (lv_at hl 1 rfl) ?_
    refine fw_cv (va_runV (As := [.int a1]) (rest := []) ⟨hx, hb, hml, hown, hts⟩ (xc_De_showFallback l hD v2 hI (r) (by omega) a1 hq0) (xw_De_showFallback hts L_De_68 ⟨Nat.le_of_ble_eq_true rfl, Nat.le_of_ble_eq_true rfl⟩) (fw_preV hN hK hP (xm_19 (by omega)) (xk_19 r) rfl) rfl rfl hl.1 rfl (lv_room (Nat.le_of_ble_eq_true rfl)) xd_De_changeModule_20 ⟨Nat.le_of_ble_eq_true rfl, Nat.le_of_ble_eq_true rfl⟩) hS (fun v3 H locs ev3 hI hP hS => ?_)
    refine lv_aload_n hx hb xd_De_changeModule_23 rfl (lv_at hl 0 rfl) ?_
    refine fw_geti hx hb hts i_De hown hK hP (xm_19 (by omega)) (xk_19 r) rfl 11 (by decide) (hts _ L_De_62) (fun _ h9 => h9) rfl xd_De_changeModule_24 ?_
    refine lv_iconst (v := (3 : Int32)) hx hb xd_De_changeModule_27 (by decide) ?_
    refine lv_icmp_ne (tgt := 79) hx hb xd_De_changeModule_28 (by decide) (fun c_4 => ?_) (fun c_4 => ?_)
    · exact fw_vret hx hb hr hlocks hS hP hI xd_De_changeModule_79 (by subst ev2 ev3; simp only [xf_De_changeModule, if_neg c_1, if_neg c_4])
    · refine lv_aload_n hx hb xd_De_changeModule_31 rfl (lv_at hl 0 rfl) ?_
      refine fw_getr hx hb hts i_De hown hK hP (xm_19 (by omega)) (xk_19 r) rfl 13 (by decide) (hts _ L_De_39) (fun _ h9 => h9) rfl xd_De_changeModule_32 ?_
      refine lv_iload_n hx hb xd_De_changeModule_35 rfl (lv_at hl 1 rfl) ?_
      refine fw_iald hx hb hK hP (xm_26 (by omega)) (xk_26 r) 0 rfl (j := a1.toNatClampNeg) rfl hq0 xd_De_changeModule_36 ?_
      refine lv_iconst (v := (-1 : Int32)) hx hb xd_De_changeModule_37 (by decide) ?_
      refine lv_icmp_eq (tgt := 79) hx hb xd_De_changeModule_38 (by decide) (fun c_5 => ?_) (fun c_5 => ?_)
      · exact fw_vret hx hb hr hlocks hS hP hI xd_De_changeModule_79 (by subst ev2 ev3; simp only [xf_De_changeModule, if_neg c_1, if_pos c_4, if_pos c_5])
      · refine lv_aload_n hx hb xd_De_changeModule_41 rfl (lv_at hl 0 rfl) ?_
        refine lv_aload_n hx hb xd_De_changeModule_42 rfl (lv_at hl 0 rfl) ?_
        refine fw_geti hx hb hts i_De hown hK hP (xm_19 (by omega)) (xk_19 r) rfl 15 (by decide) (hts _ L_De_72) (fun _ h9 => h9) rfl xd_De_changeModule_43 ?_
        refine lv_iload_n hx hb xd_De_changeModule_46 rfl (lv_at hl 1 rfl) ?_
        refine lv_iload_n hx hb xd_De_changeModule_47 rfl (lv_at hl 2 rfl) ?_
        refine lv_aload_n hx hb xd_De_changeModule_48 rfl (lv_at hl 0 rfl) ?_
        refine fw_getr hx hb hts i_De hown hK hP (xm_19 (by omega)) (xk_19 r) rfl 13 (by decide) (hts _ L_De_39) (fun _ h9 => h9) rfl xd_De_changeModule_49 ?_
        refine lv_iload_n hx hb xd_De_changeModule_52 rfl (lv_at hl 1 rfl) ?_
        refine fw_iald hx hb hK hP (xm_26 (by omega)) (xk_26 r) 0 rfl (j := a1.toNatClampNeg) rfl hq0 xd_De_changeModule_53 ?_
        refine lv_icmp_eq (tgt := 61) hx hb xd_De_changeModule_54 (by decide) (fun c_6 => ?_) (fun c_6 => ?_)
        · refine lv_iconst (v := (0 : Int32)) hx hb xd_De_changeModule_61 (by decide) ?_
          exact J1 v3 ((v3 19 r 15)) _ _ _ (by subst ev2 ev3; simp only [xf_De_changeModule, if_neg c_1, if_pos c_4, if_neg c_5, if_pos c_6]) hq0 hq0  hI hP hS (lv_sub hl [0, 1, 2] rfl)
        · refine lv_iconst (v := (1 : Int32)) hx hb xd_De_changeModule_57 (by decide) ?_
          refine lv_goto (tgt := 62) hx hb xd_De_changeModule_58 (by decide) ?_
          exact J2 v3 ((v3 19 r 15)) _ _ _ (by subst ev2 ev3; simp only [xf_De_changeModule, if_neg c_1, if_pos c_4, if_neg c_5, if_neg c_6]) hq0 hq0  hI hP hS (lv_sub hl [0, 1, 2] rfl)
  · exact fw_vret hx hb hr hlocks hS hP hI xd_De_changeModule_10 (by simp only [xf_De_changeModule, if_pos c_1])

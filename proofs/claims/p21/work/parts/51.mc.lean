def mf_Mo_mark_0_j2 (v0 : fw_V) (a2 : Int32)  : fw_V :=
  let v4 := fw_up v0 31 0 (0) ((v0 31 0 0) &&& (((1 : Int32) <<< (a2 &&& 31)) ^^^ (-1 : Int32)))
  v4
def mf_Mo_mark_0_j1 (v0 : fw_V) (a2 : Int32)  : fw_V :=
  mf_Mo_mark_0_j2 v0 a2
def mf_Mo_mark_0_j3 (v0 : fw_V) (a2 : Int32)  : fw_V :=
  let v10 := fw_up v0 31 0 (0) ((v0 31 0 0) ||| ((1 : Int32) <<< (a2 &&& 31)))
  v10
def mf_Mo_mark_0 (v0 : fw_V) (a2 : Int32) : fw_V :=
  if (v0 43 0 ((0 : Int32) + a2).toNatClampNeg) < (0 : Int32) then
    mf_Mo_mark_0_j1 v0 a2
  else
    if (v0 42 0 ((0 : Int32) + a2).toNatClampNeg) = (v0 43 0 ((0 : Int32) + a2).toNatClampNeg) then
      mf_Mo_mark_0_j1 v0 a2
    else
      mf_Mo_mark_0_j3 v0 a2

theorem mca_Mo_mark_0_j2 {v0 : fw_V} {a2 : Int32} {i k : Nat} : mf_Mo_mark_0_j2 v0 a2 10 i k = v0 10 i k := by
  unfold mf_Mo_mark_0_j2
  try dsimp only
  all_goals ((repeat' split) <;> simp [fw_up, fw_row])
theorem mca_Mo_mark_0_j1 {v0 : fw_V} {a2 : Int32} {i k : Nat} : mf_Mo_mark_0_j1 v0 a2 10 i k = v0 10 i k := by
  unfold mf_Mo_mark_0_j1
  try dsimp only
  all_goals ((repeat' split) <;> simp [fw_up, fw_row, mca_Mo_mark_0_j2])
theorem mca_Mo_mark_0_j3 {v0 : fw_V} {a2 : Int32} {i k : Nat} : mf_Mo_mark_0_j3 v0 a2 10 i k = v0 10 i k := by
  unfold mf_Mo_mark_0_j3
  try dsimp only
  all_goals ((repeat' split) <;> simp [fw_up, fw_row])
theorem mca_Mo_mark_0 {v0 : fw_V} {a2 : Int32} {i k : Nat} : mf_Mo_mark_0 v0 a2 10 i k = v0 10 i k := by
  unfold mf_Mo_mark_0
  try dsimp only
  all_goals ((repeat' split) <;> simp [fw_up, fw_row, mca_Mo_mark_0_j1, mca_Mo_mark_0_j3])
set_option maxHeartbeats 4000000 in
set_option maxRecDepth 100000 in
theorem mc_Mo_mark_0 (l : Launch) {D : va_G} {cA : Nat → ClassId} {ad : Nat → Nat → Nat} (hD : fw_D mCL ad) {b : Nat} (v0 : fw_V) (hI : mI b v0) (a2 : Int32) (hq0 : vp_in a2 3) : Met l my_Mo_mark (Cond.code my_Mo_mark mb_Mo_mark 5 none :: vTB) mrm_Mo_mark (fw_Pc vNL D vcls (vtys cA) mCL cA mkd ad v0 [.ref (ad 0 0), .int (0 : Int32), .int a2]) (fw_Qv D vcls mCL cA mkd ad (mI b) (mf_Mo_mark_0 v0 a2)) 0 0 (fw_A mCL ad) := by
  refine Met.ofW (cc := mb_Mo_mark) (maxL := 5) (ret := none) (by decide) rfl ?_
  intro p e s m args below meth c s₁ B hml hv
  obtain ⟨rfl, hP, hK, hN⟩ := hv
  have hx := B.exec
  have hb := B.bytes
  have hr := B.returns
  have hts : ∀ w ∈ vTB, w.before ([.ref (ad 0 0), .int (0 : Int32), .int a2] : List Value).toArray s = true := fun w h => atoms_spec (ws := (Cond.code my_Mo_mark mb_Mo_mark 5 none :: vTB)) B.pre w (List.mem_cons_of_mem _ h)
  have hown : s.vm.findClass R_Mo = some m.cls := findClass_of_methodNamed B.named
  have hlocks := B.notSynchronized
  have hS : va_S (fw_A mCL ad) s.heap s.heap [] := va_S.rf
  have J2 : ∀  (H : Heap) (locs : List Loc) (ls : Array Slot), mf_Mo_mark_0 v0 a2 = mf_Mo_mark_0_j2 v0 a2 → vp_in a2 3 → mI b v0 → va_P D vcls (fw_w mCL cA mkd ad v0) H → va_S (fw_A mCL ad) s.heap H locs → lv_has ls 5 [(0, .ref (ad 0 0)), (1, .int (0 : Int32)), (2, .int a2)] → W p l e (headSpec (Cond.code my_Mo_mark mb_Mo_mark 5 none :: vTB) mrm_Mo_mark).room s m ([.ref (ad 0 0), .int (0 : Int32), .int a2] : List Value).toArray below meth c H locs 0 0 (MQ below (fw_Qv D vcls mCL cA mkd ad (mI b) (mf_Mo_mark_0 v0 a2)) ([.ref (ad 0 0), .int (0 : Int32), .int a2] : List Value).toArray s 0 0 (fw_A mCL ad)) (F0 m 35 ls [.int (0 : Int32)]) := by
    intro  H locs ls hj hc0 hI hP hS hl
    refine lv_istore (lv' := [(4, .int (0 : Int32)), (0, .ref (ad 0 0)), (1, .int (0 : Int32)), (2, .int a2)]) hx hb md_Mo_mark_35 hl (by decide) rfl (fun ls hl => ?_)
    refine lv_aload_n hx hb md_Mo_mark_37 rfl (lv_at hl 1 rfl) ?_
    refine fw_getr hx hb hts i_Mo hown hK hP (mm_0 (by decide)) (mk_0 0) rfl 30 (by decide) (hts _ L_Mo_98) (fun _ h9 => h9) rfl md_Mo_mark_38 ?_
    refine lv_iload_n hx hb md_Mo_mark_41 rfl (lv_at hl 2 rfl) ?_
    refine lv_iload hx hb md_Mo_mark_42 (lv_at hl 0 rfl) ?_
    refine lv_if_eq (tgt := 60) hx hb md_Mo_mark_44 (by decide) (fun _ => ?_) (fun c_3 => absurd (by decide) c_3)
    refine lv_aload_n hx hb md_Mo_mark_60 rfl (lv_at hl 1 rfl) ?_
    refine fw_getr hx hb hts i_Mo hown hK hP (mm_0 (by decide)) (mk_0 0) rfl 30 (by decide) (hts _ L_Mo_98) (fun _ h9 => h9) rfl md_Mo_mark_61 ?_
    refine lv_iload_n hx hb md_Mo_mark_64 rfl (lv_at hl 2 rfl) ?_
    refine fw_iald hx hb hK hP (mm_31 (by decide)) (mk_31 0) 0 rfl (j := 0) (by decide) (fw_inc (by decide)) md_Mo_mark_65 ?_
    refine lv_iconst (v := (1 : Int32)) hx hb md_Mo_mark_66 (by decide) ?_
    refine lv_iload_n hx hb md_Mo_mark_67 rfl (lv_at hl 3 rfl) ?_
    refine lv_ishl hx hb md_Mo_mark_68 ?_
    refine lv_iconst (v := (-1 : Int32)) hx hb md_Mo_mark_69 (by decide) ?_
    refine lv_ixor hx hb md_Mo_mark_70 ?_
    refine lv_iand hx hb md_Mo_mark_71 ?_
    refine fw_iast hx hb hK hD hP hS (mm_31 (by decide)) (mk_31 0) 0 rfl (j := 0) (by decide) (fw_inc (by decide)) md_Mo_mark_72 (fun v4 H locs ev4 hP hS => ?_)
    have hI : mI b v4 := by rw [ev4]; exact mI_up hI trivial trivial
    exact fw_vret hx hb hr hlocks hS hP hI md_Mo_mark_73 (by rw [hj]; subst ev4; simp only [mf_Mo_mark_0_j2])
  have J1 : ∀  (H : Heap) (locs : List Loc) (ls : Array Slot), mf_Mo_mark_0 v0 a2 = mf_Mo_mark_0_j1 v0 a2 → vp_in a2 3 → mI b v0 → va_P D vcls (fw_w mCL cA mkd ad v0) H → va_S (fw_A mCL ad) s.heap H locs → lv_has ls 5 [(0, .ref (ad 0 0)), (1, .int (0 : Int32)), (2, .int a2)] → W p l e (headSpec (Cond.code my_Mo_mark mb_Mo_mark 5 none :: vTB) mrm_Mo_mark).room s m ([.ref (ad 0 0), .int (0 : Int32), .int a2] : List Value).toArray below meth c H locs 0 0 (MQ below (fw_Qv D vcls mCL cA mkd ad (mI b) (mf_Mo_mark_0 v0 a2)) ([.ref (ad 0 0), .int (0 : Int32), .int a2] : List Value).toArray s 0 0 (fw_A mCL ad)) (F0 m 34 ls []) := by
    intro  H locs ls hj hc0 hI hP hS hl
    refine lv_iconst (v := (0 : Int32)) hx hb md_Mo_mark_34 (by decide) ?_
    exact J2  _ _ _ (by rw [hj]; simp only [mf_Mo_mark_0_j1]) hc0  hI hP hS (lv_sub hl [0, 1, 2] rfl)
  have J3 : ∀  (H : Heap) (locs : List Loc) (ls : Array Slot), mf_Mo_mark_0 v0 a2 = mf_Mo_mark_0_j3 v0 a2 → vp_in a2 3 → mI b v0 → va_P D vcls (fw_w mCL cA mkd ad v0) H → va_S (fw_A mCL ad) s.heap H locs → lv_has ls 5 [(0, .ref (ad 0 0)), (1, .int (0 : Int32)), (2, .int a2)] → W p l e (headSpec (Cond.code my_Mo_mark mb_Mo_mark 5 none :: vTB) mrm_Mo_mark).room s m ([.ref (ad 0 0), .int (0 : Int32), .int a2] : List Value).toArray below meth c H locs 0 0 (MQ below (fw_Qv D vcls mCL cA mkd ad (mI b) (mf_Mo_mark_0 v0 a2)) ([.ref (ad 0 0), .int (0 : Int32), .int a2] : List Value).toArray s 0 0 (fw_A mCL ad)) (F0 m 35 ls [.int (1 : Int32)]) := by
    intro  H locs ls hj hc0 hI hP hS hl
    clear J2 J1
    refine lv_istore (lv' := [(4, .int (1 : Int32)), (0, .ref (ad 0 0)), (1, .int (0 : Int32)), (2, .int a2)]) hx hb md_Mo_mark_35 hl (by decide) rfl (fun ls hl => ?_)
    refine lv_aload_n hx hb md_Mo_mark_37 rfl (lv_at hl 1 rfl) ?_
    refine fw_getr hx hb hts i_Mo hown hK hP (mm_0 (by decide)) (mk_0 0) rfl 30 (by decide) (hts _ L_Mo_98) (fun _ h9 => h9) rfl md_Mo_mark_38 ?_
    refine lv_iload_n hx hb md_Mo_mark_41 rfl (lv_at hl 2 rfl) ?_
    refine lv_iload hx hb md_Mo_mark_42 (lv_at hl 0 rfl) ?_
    refine lv_if_eq (tgt := 60) hx hb md_Mo_mark_44 (by decide) (fun c_9 => absurd c_9 (by decide)) (fun _ => ?_)
    refine lv_aload_n hx hb md_Mo_mark_47 rfl (lv_at hl 1 rfl) ?_
    refine fw_getr hx hb hts i_Mo hown hK hP (mm_0 (by decide)) (mk_0 0) rfl 30 (by decide) (hts _ L_Mo_98) (fun _ h9 => h9) rfl md_Mo_mark_48 ?_
    refine lv_iload_n hx hb md_Mo_mark_51 rfl (lv_at hl 2 rfl) ?_
    refine fw_iald hx hb hK hP (mm_31 (by decide)) (mk_31 0) 0 rfl (j := 0) (by decide) (fw_inc (by decide)) md_Mo_mark_52 ?_
    refine lv_iconst (v := (1 : Int32)) hx hb md_Mo_mark_53 (by decide) ?_
    refine lv_iload_n hx hb md_Mo_mark_54 rfl (lv_at hl 3 rfl) ?_
    refine lv_ishl hx hb md_Mo_mark_55 ?_
    refine lv_ior hx hb md_Mo_mark_56 ?_
    refine lv_goto (tgt := 72) hx hb md_Mo_mark_57 (by decide) ?_
    refine fw_iast hx hb hK hD hP hS (mm_31 (by decide)) (mk_31 0) 0 rfl (j := 0) (by decide) (fw_inc (by decide)) md_Mo_mark_72 (fun v10 H locs ev10 hP hS => ?_)
    have hI : mI b v10 := by rw [ev10]; exact mI_up hI trivial trivial
    exact fw_vret hx hb hr hlocks hS hP hI md_Mo_mark_73 (by rw [hj]; subst ev10; simp only [mf_Mo_mark_0_j3])
  clear J2
  have hl := lv_entry ([.ref (ad 0 0), .int (0 : Int32), .int a2]) (n := 5) (Nat.le_of_ble_eq_true rfl)
  rw [lg_entry_eq]
  generalize (lg_sl ([.ref (ad 0 0), .int (0 : Int32), .int a2]) ++ List.replicate (5 - (lg_sl ([.ref (ad 0 0), .int (0 : Int32), .int a2])).length) Slot.unset).toArray = ls at hl ⊢
  have hl : lv_has ls 5 [(0, .ref (ad 0 0)), (1, .int (0 : Int32)), (2, .int a2)] := hl
  refine lv_iconst (v := (3 : Int32)) hx hb md_Mo_mark_0 (by decide) ?_
  refine lv_iload_n hx hb md_Mo_mark_1 rfl (lv_at hl 1 rfl) ?_
  refine lv_imul hx hb md_Mo_mark_2 ?_
  refine fw_top (y := (0 : Int32)) (by decide) ?_
  refine lv_iload_n hx hb md_Mo_mark_3 rfl (lv_at hl 2 rfl) ?_
  refine lv_iadd hx hb md_Mo_mark_4 ?_
  refine lv_istore_n (lv' := [(3, .int ((0 : Int32) + a2)), (0, .ref (ad 0 0)), (1, .int (0 : Int32)), (2, .int a2)]) hx hb md_Mo_mark_5 rfl hl (by decide) rfl (fun ls hl => ?_)
  refine lv_aload_n hx hb md_Mo_mark_6 rfl (lv_at hl 1 rfl) ?_
  refine fw_getr hx hb hts i_Mo hown hK hP (mm_0 (by decide)) (mk_0 0) rfl 42 (by decide) (hts _ L_Mo_134) (fun _ h9 => h9) rfl md_Mo_mark_7 ?_
  refine lv_iload_n hx hb md_Mo_mark_10 rfl (lv_at hl 0 rfl) ?_
  refine fw_iald hx hb hK hP (mm_43 (by decide)) (mk_43 0) 0 rfl (j := ((0 : Int32) + a2).toNatClampNeg) rfl (fw_inm (fw_inadd2 (n := 1) (m := 3) (t := 3) (fw_inc (by decide)) hq0 (by decide)) (by decide)) md_Mo_mark_11 ?_
  have h_1 : vp_in ((v0 43 0 ((0 : Int32) + a2).toNatClampNeg) + 1) 9 := hI.1 43 0 (((0 : Int32) + a2).toNatClampNeg)
  refine lv_if_lt (tgt := 34) hx hb md_Mo_mark_12 (by decide) (fun c_2 => ?_) (fun c_2 => ?_)
  · exact J1  _ _ _ (by simp only [mf_Mo_mark_0, if_pos c_2]) hq0  hI hP hS (lv_sub hl [1, 2, 3] rfl)
  · have h_5 : vp_in (v0 43 0 ((0 : Int32) + a2).toNatClampNeg) 8 := fw_m8 h_1 c_2
    refine lv_aload_n hx hb md_Mo_mark_15 rfl (lv_at hl 1 rfl) ?_
    refine fw_getr hx hb hts i_Mo hown hK hP (mm_0 (by decide)) (mk_0 0) rfl 41 (by decide) (hts _ L_Mo_131) (fun _ h9 => h9) rfl md_Mo_mark_16 ?_
    refine lv_iload_n hx hb md_Mo_mark_19 rfl (lv_at hl 0 rfl) ?_
    refine fw_iald hx hb hK hP (mm_42 (by decide)) (mk_42 0) 0 rfl (j := ((0 : Int32) + a2).toNatClampNeg) rfl (fw_inm (fw_inadd2 (n := 1) (m := 3) (t := 3) (fw_inc (by decide)) hq0 (by decide)) (by decide)) md_Mo_mark_20 ?_
    have h_6 : vp_in ((v0 42 0 ((0 : Int32) + a2).toNatClampNeg) + 1) 9 := hI.1 42 0 (((0 : Int32) + a2).toNatClampNeg)
    refine lv_aload_n hx hb md_Mo_mark_21 rfl (lv_at hl 1 rfl) ?_
    refine fw_getr hx hb hts i_Mo hown hK hP (mm_0 (by decide)) (mk_0 0) rfl 42 (by decide) (hts _ L_Mo_134) (fun _ h9 => h9) rfl md_Mo_mark_22 ?_
    refine lv_iload_n hx hb md_Mo_mark_25 rfl (lv_at hl 0 rfl) ?_
    refine fw_iald hx hb hK hP (mm_43 (by decide)) (mk_43 0) 0 rfl (j := ((0 : Int32) + a2).toNatClampNeg) rfl (fw_inm (fw_inadd2 (n := 1) (m := 3) (t := 3) (fw_inc (by decide)) hq0 (by decide)) (by decide)) md_Mo_mark_26 ?_
    refine lv_icmp_eq (tgt := 34) hx hb md_Mo_mark_27 (by decide) (fun c_7 => ?_) (fun c_7 => ?_)
    · have h_8 : vp_in (v0 42 0 ((0 : Int32) + a2).toNatClampNeg) 8 := by rw [c_7]; exact h_5
      exact J1  _ _ _ (by simp only [mf_Mo_mark_0, if_neg c_2, if_pos c_7]) hq0  hI hP hS (lv_sub hl [1, 2, 3] rfl)
    · refine lv_iconst (v := (1 : Int32)) hx hb md_Mo_mark_30 (by decide) ?_
      refine lv_goto (tgt := 35) hx hb md_Mo_mark_31 (by decide) ?_
      exact J3  _ _ _ (by simp only [mf_Mo_mark_0, if_neg c_2, if_neg c_7]) hq0  hI hP hS (lv_sub hl [1, 2, 3] rfl)
def mf_Mo_mark_1_j2 (v0 : fw_V) (a2 : Int32)  : fw_V :=
  let v4 := fw_up v0 31 0 (1) ((v0 31 0 1) &&& (((1 : Int32) <<< (a2 &&& 31)) ^^^ (-1 : Int32)))
  v4
def mf_Mo_mark_1_j1 (v0 : fw_V) (a2 : Int32)  : fw_V :=
  mf_Mo_mark_1_j2 v0 a2
def mf_Mo_mark_1_j3 (v0 : fw_V) (a2 : Int32)  : fw_V :=
  let v10 := fw_up v0 31 0 (1) ((v0 31 0 1) ||| ((1 : Int32) <<< (a2 &&& 31)))
  v10
def mf_Mo_mark_1 (v0 : fw_V) (a2 : Int32) : fw_V :=
  if (v0 43 0 ((3 : Int32) + a2).toNatClampNeg) < (0 : Int32) then
    mf_Mo_mark_1_j1 v0 a2
  else
    if (v0 42 0 ((3 : Int32) + a2).toNatClampNeg) = (v0 43 0 ((3 : Int32) + a2).toNatClampNeg) then
      mf_Mo_mark_1_j1 v0 a2
    else
      mf_Mo_mark_1_j3 v0 a2

theorem mca_Mo_mark_1_j2 {v0 : fw_V} {a2 : Int32} {i k : Nat} : mf_Mo_mark_1_j2 v0 a2 10 i k = v0 10 i k := by
  unfold mf_Mo_mark_1_j2
  try dsimp only
  all_goals ((repeat' split) <;> simp [fw_up, fw_row])
theorem mca_Mo_mark_1_j1 {v0 : fw_V} {a2 : Int32} {i k : Nat} : mf_Mo_mark_1_j1 v0 a2 10 i k = v0 10 i k := by
  unfold mf_Mo_mark_1_j1
  try dsimp only
  all_goals ((repeat' split) <;> simp [fw_up, fw_row, mca_Mo_mark_1_j2])
theorem mca_Mo_mark_1_j3 {v0 : fw_V} {a2 : Int32} {i k : Nat} : mf_Mo_mark_1_j3 v0 a2 10 i k = v0 10 i k := by
  unfold mf_Mo_mark_1_j3
  try dsimp only
  all_goals ((repeat' split) <;> simp [fw_up, fw_row])
theorem mca_Mo_mark_1 {v0 : fw_V} {a2 : Int32} {i k : Nat} : mf_Mo_mark_1 v0 a2 10 i k = v0 10 i k := by
  unfold mf_Mo_mark_1
  try dsimp only
  all_goals ((repeat' split) <;> simp [fw_up, fw_row, mca_Mo_mark_1_j1, mca_Mo_mark_1_j3])
set_option maxHeartbeats 4000000 in
set_option maxRecDepth 100000 in
theorem mc_Mo_mark_1 (l : Launch) {D : va_G} {cA : Nat → ClassId} {ad : Nat → Nat → Nat} (hD : fw_D mCL ad) {b : Nat} (v0 : fw_V) (hI : mI b v0) (a2 : Int32) (hq0 : vp_in a2 3) : Met l my_Mo_mark (Cond.code my_Mo_mark mb_Mo_mark 5 none :: vTB) mrm_Mo_mark (fw_Pc vNL D vcls (vtys cA) mCL cA mkd ad v0 [.ref (ad 0 0), .int (1 : Int32), .int a2]) (fw_Qv D vcls mCL cA mkd ad (mI b) (mf_Mo_mark_1 v0 a2)) 0 0 (fw_A mCL ad) := by
  refine Met.ofW (cc := mb_Mo_mark) (maxL := 5) (ret := none) (by decide) rfl ?_
  intro p e s m args below meth c s₁ B hml hv
  obtain ⟨rfl, hP, hK, hN⟩ := hv
  have hx := B.exec
  have hb := B.bytes
  have hr := B.returns
  have hts : ∀ w ∈ vTB, w.before ([.ref (ad 0 0), .int (1 : Int32), .int a2] : List Value).toArray s = true := fun w h => atoms_spec (ws := (Cond.code my_Mo_mark mb_Mo_mark 5 none :: vTB)) B.pre w (List.mem_cons_of_mem _ h)
  have hown : s.vm.findClass R_Mo = some m.cls := findClass_of_methodNamed B.named
  have hlocks := B.notSynchronized
  have hS : va_S (fw_A mCL ad) s.heap s.heap [] := va_S.rf
  have J2 : ∀  (H : Heap) (locs : List Loc) (ls : Array Slot), mf_Mo_mark_1 v0 a2 = mf_Mo_mark_1_j2 v0 a2 → vp_in a2 3 → mI b v0 → va_P D vcls (fw_w mCL cA mkd ad v0) H → va_S (fw_A mCL ad) s.heap H locs → lv_has ls 5 [(0, .ref (ad 0 0)), (1, .int (1 : Int32)), (2, .int a2)] → W p l e (headSpec (Cond.code my_Mo_mark mb_Mo_mark 5 none :: vTB) mrm_Mo_mark).room s m ([.ref (ad 0 0), .int (1 : Int32), .int a2] : List Value).toArray below meth c H locs 0 0 (MQ below (fw_Qv D vcls mCL cA mkd ad (mI b) (mf_Mo_mark_1 v0 a2)) ([.ref (ad 0 0), .int (1 : Int32), .int a2] : List Value).toArray s 0 0 (fw_A mCL ad)) (F0 m 35 ls [.int (0 : Int32)]) := by
    intro  H locs ls hj hc0 hI hP hS hl
    refine lv_istore (lv' := [(4, .int (0 : Int32)), (0, .ref (ad 0 0)), (1, .int (1 : Int32)), (2, .int a2)]) hx hb md_Mo_mark_35 hl (by decide) rfl (fun ls hl => ?_)
    refine lv_aload_n hx hb md_Mo_mark_37 rfl (lv_at hl 1 rfl) ?_
    refine fw_getr hx hb hts i_Mo hown hK hP (mm_0 (by decide)) (mk_0 0) rfl 30 (by decide) (hts _ L_Mo_98) (fun _ h9 => h9) rfl md_Mo_mark_38 ?_
    refine lv_iload_n hx hb md_Mo_mark_41 rfl (lv_at hl 2 rfl) ?_
    refine lv_iload hx hb md_Mo_mark_42 (lv_at hl 0 rfl) ?_
    refine lv_if_eq (tgt := 60) hx hb md_Mo_mark_44 (by decide) (fun _ => ?_) (fun c_3 => absurd (by decide) c_3)
    refine lv_aload_n hx hb md_Mo_mark_60 rfl (lv_at hl 1 rfl) ?_
    refine fw_getr hx hb hts i_Mo hown hK hP (mm_0 (by decide)) (mk_0 0) rfl 30 (by decide) (hts _ L_Mo_98) (fun _ h9 => h9) rfl md_Mo_mark_61 ?_
    refine lv_iload_n hx hb md_Mo_mark_64 rfl (lv_at hl 2 rfl) ?_
    refine fw_iald hx hb hK hP (mm_31 (by decide)) (mk_31 0) 0 rfl (j := 1) (by decide) (fw_inc (by decide)) md_Mo_mark_65 ?_
    refine lv_iconst (v := (1 : Int32)) hx hb md_Mo_mark_66 (by decide) ?_
    refine lv_iload_n hx hb md_Mo_mark_67 rfl (lv_at hl 3 rfl) ?_
    refine lv_ishl hx hb md_Mo_mark_68 ?_
    refine lv_iconst (v := (-1 : Int32)) hx hb md_Mo_mark_69 (by decide) ?_
    refine lv_ixor hx hb md_Mo_mark_70 ?_
    refine lv_iand hx hb md_Mo_mark_71 ?_
    refine fw_iast hx hb hK hD hP hS (mm_31 (by decide)) (mk_31 0) 0 rfl (j := 1) (by decide) (fw_inc (by decide)) md_Mo_mark_72 (fun v4 H locs ev4 hP hS => ?_)
    have hI : mI b v4 := by rw [ev4]; exact mI_up hI trivial trivial
    exact fw_vret hx hb hr hlocks hS hP hI md_Mo_mark_73 (by rw [hj]; subst ev4; simp only [mf_Mo_mark_1_j2])
  have J1 : ∀  (H : Heap) (locs : List Loc) (ls : Array Slot), mf_Mo_mark_1 v0 a2 = mf_Mo_mark_1_j1 v0 a2 → vp_in a2 3 → mI b v0 → va_P D vcls (fw_w mCL cA mkd ad v0) H → va_S (fw_A mCL ad) s.heap H locs → lv_has ls 5 [(0, .ref (ad 0 0)), (1, .int (1 : Int32)), (2, .int a2)] → W p l e (headSpec (Cond.code my_Mo_mark mb_Mo_mark 5 none :: vTB) mrm_Mo_mark).room s m ([.ref (ad 0 0), .int (1 : Int32), .int a2] : List Value).toArray below meth c H locs 0 0 (MQ below (fw_Qv D vcls mCL cA mkd ad (mI b) (mf_Mo_mark_1 v0 a2)) ([.ref (ad 0 0), .int (1 : Int32), .int a2] : List Value).toArray s 0 0 (fw_A mCL ad)) (F0 m 34 ls []) := by
    intro  H locs ls hj hc0 hI hP hS hl
    refine lv_iconst (v := (0 : Int32)) hx hb md_Mo_mark_34 (by decide) ?_
    exact J2  _ _ _ (by rw [hj]; simp only [mf_Mo_mark_1_j1]) hc0  hI hP hS (lv_sub hl [0, 1, 2] rfl)
  have J3 : ∀  (H : Heap) (locs : List Loc) (ls : Array Slot), mf_Mo_mark_1 v0 a2 = mf_Mo_mark_1_j3 v0 a2 → vp_in a2 3 → mI b v0 → va_P D vcls (fw_w mCL cA mkd ad v0) H → va_S (fw_A mCL ad) s.heap H locs → lv_has ls 5 [(0, .ref (ad 0 0)), (1, .int (1 : Int32)), (2, .int a2)] → W p l e (headSpec (Cond.code my_Mo_mark mb_Mo_mark 5 none :: vTB) mrm_Mo_mark).room s m ([.ref (ad 0 0), .int (1 : Int32), .int a2] : List Value).toArray below meth c H locs 0 0 (MQ below (fw_Qv D vcls mCL cA mkd ad (mI b) (mf_Mo_mark_1 v0 a2)) ([.ref (ad 0 0), .int (1 : Int32), .int a2] : List Value).toArray s 0 0 (fw_A mCL ad)) (F0 m 35 ls [.int (1 : Int32)]) := by
    intro  H locs ls hj hc0 hI hP hS hl
    clear J2 J1
    refine lv_istore (lv' := [(4, .int (1 : Int32)), (0, .ref (ad 0 0)), (1, .int (1 : Int32)), (2, .int a2)]) hx hb md_Mo_mark_35 hl (by decide) rfl (fun ls hl => ?_)
    refine lv_aload_n hx hb md_Mo_mark_37 rfl (lv_at hl 1 rfl) ?_
    refine fw_getr hx hb hts i_Mo hown hK hP (mm_0 (by decide)) (mk_0 0) rfl 30 (by decide) (hts _ L_Mo_98) (fun _ h9 => h9) rfl md_Mo_mark_38 ?_
    refine lv_iload_n hx hb md_Mo_mark_41 rfl (lv_at hl 2 rfl) ?_
    refine lv_iload hx hb md_Mo_mark_42 (lv_at hl 0 rfl) ?_
    refine lv_if_eq (tgt := 60) hx hb md_Mo_mark_44 (by decide) (fun c_9 => absurd c_9 (by decide)) (fun _ => ?_)
    refine lv_aload_n hx hb md_Mo_mark_47 rfl (lv_at hl 1 rfl) ?_
    refine fw_getr hx hb hts i_Mo hown hK hP (mm_0 (by decide)) (mk_0 0) rfl 30 (by decide) (hts _ L_Mo_98) (fun _ h9 => h9) rfl md_Mo_mark_48 ?_
    refine lv_iload_n hx hb md_Mo_mark_51 rfl (lv_at hl 2 rfl) ?_
    refine fw_iald hx hb hK hP (mm_31 (by decide)) (mk_31 0) 0 rfl (j := 1) (by decide) (fw_inc (by decide)) md_Mo_mark_52 ?_
    refine lv_iconst (v := (1 : Int32)) hx hb md_Mo_mark_53 (by decide) ?_
    refine lv_iload_n hx hb md_Mo_mark_54 rfl (lv_at hl 3 rfl) ?_
    refine lv_ishl hx hb md_Mo_mark_55 ?_
    refine lv_ior hx hb md_Mo_mark_56 ?_
    refine lv_goto (tgt := 72) hx hb md_Mo_mark_57 (by decide) ?_
    refine fw_iast hx hb hK hD hP hS (mm_31 (by decide)) (mk_31 0) 0 rfl (j := 1) (by decide) (fw_inc (by decide)) md_Mo_mark_72 (fun v10 H locs ev10 hP hS => ?_)
    have hI : mI b v10 := by rw [ev10]; exact mI_up hI trivial trivial
    exact fw_vret hx hb hr hlocks hS hP hI md_Mo_mark_73 (by rw [hj]; subst ev10; simp only [mf_Mo_mark_1_j3])
  clear J2
  have hl := lv_entry ([.ref (ad 0 0), .int (1 : Int32), .int a2]) (n := 5) (Nat.le_of_ble_eq_true rfl)
  rw [lg_entry_eq]
  generalize (lg_sl ([.ref (ad 0 0), .int (1 : Int32), .int a2]) ++ List.replicate (5 - (lg_sl ([.ref (ad 0 0), .int (1 : Int32), .int a2])).length) Slot.unset).toArray = ls at hl ⊢
  have hl : lv_has ls 5 [(0, .ref (ad 0 0)), (1, .int (1 : Int32)), (2, .int a2)] := hl
  refine lv_iconst (v := (3 : Int32)) hx hb md_Mo_mark_0 (by decide) ?_
  refine lv_iload_n hx hb md_Mo_mark_1 rfl (lv_at hl 1 rfl) ?_
  refine lv_imul hx hb md_Mo_mark_2 ?_
  refine fw_top (y := (3 : Int32)) (by decide) ?_
  refine lv_iload_n hx hb md_Mo_mark_3 rfl (lv_at hl 2 rfl) ?_
  refine lv_iadd hx hb md_Mo_mark_4 ?_
  refine lv_istore_n (lv' := [(3, .int ((3 : Int32) + a2)), (0, .ref (ad 0 0)), (1, .int (1 : Int32)), (2, .int a2)]) hx hb md_Mo_mark_5 rfl hl (by decide) rfl (fun ls hl => ?_)
  refine lv_aload_n hx hb md_Mo_mark_6 rfl (lv_at hl 1 rfl) ?_
  refine fw_getr hx hb hts i_Mo hown hK hP (mm_0 (by decide)) (mk_0 0) rfl 42 (by decide) (hts _ L_Mo_134) (fun _ h9 => h9) rfl md_Mo_mark_7 ?_
  refine lv_iload_n hx hb md_Mo_mark_10 rfl (lv_at hl 0 rfl) ?_
  refine fw_iald hx hb hK hP (mm_43 (by decide)) (mk_43 0) 0 rfl (j := ((3 : Int32) + a2).toNatClampNeg) rfl (fw_inadd2 (n := 4) (m := 3) (t := 6) (fw_inc (by decide)) hq0 (by decide)) md_Mo_mark_11 ?_
  have h_1 : vp_in ((v0 43 0 ((3 : Int32) + a2).toNatClampNeg) + 1) 9 := hI.1 43 0 (((3 : Int32) + a2).toNatClampNeg)
  refine lv_if_lt (tgt := 34) hx hb md_Mo_mark_12 (by decide) (fun c_2 => ?_) (fun c_2 => ?_)
  · exact J1  _ _ _ (by simp only [mf_Mo_mark_1, if_pos c_2]) hq0  hI hP hS (lv_sub hl [1, 2, 3] rfl)
  · have h_5 : vp_in (v0 43 0 ((3 : Int32) + a2).toNatClampNeg) 8 := fw_m8 h_1 c_2
    refine lv_aload_n hx hb md_Mo_mark_15 rfl (lv_at hl 1 rfl) ?_
    refine fw_getr hx hb hts i_Mo hown hK hP (mm_0 (by decide)) (mk_0 0) rfl 41 (by decide) (hts _ L_Mo_131) (fun _ h9 => h9) rfl md_Mo_mark_16 ?_
    refine lv_iload_n hx hb md_Mo_mark_19 rfl (lv_at hl 0 rfl) ?_
    refine fw_iald hx hb hK hP (mm_42 (by decide)) (mk_42 0) 0 rfl (j := ((3 : Int32) + a2).toNatClampNeg) rfl (fw_inadd2 (n := 4) (m := 3) (t := 6) (fw_inc (by decide)) hq0 (by decide)) md_Mo_mark_20 ?_
    have h_6 : vp_in ((v0 42 0 ((3 : Int32) + a2).toNatClampNeg) + 1) 9 := hI.1 42 0 (((3 : Int32) + a2).toNatClampNeg)
    refine lv_aload_n hx hb md_Mo_mark_21 rfl (lv_at hl 1 rfl) ?_
    refine fw_getr hx hb hts i_Mo hown hK hP (mm_0 (by decide)) (mk_0 0) rfl 42 (by decide) (hts _ L_Mo_134) (fun _ h9 => h9) rfl md_Mo_mark_22 ?_
    refine lv_iload_n hx hb md_Mo_mark_25 rfl (lv_at hl 0 rfl) ?_
    refine fw_iald hx hb hK hP (mm_43 (by decide)) (mk_43 0) 0 rfl (j := ((3 : Int32) + a2).toNatClampNeg) rfl (fw_inadd2 (n := 4) (m := 3) (t := 6) (fw_inc (by decide)) hq0 (by decide)) md_Mo_mark_26 ?_
    refine lv_icmp_eq (tgt := 34) hx hb md_Mo_mark_27 (by decide) (fun c_7 => ?_) (fun c_7 => ?_)
    · have h_8 : vp_in (v0 42 0 ((3 : Int32) + a2).toNatClampNeg) 8 := by rw [c_7]; exact h_5
      exact J1  _ _ _ (by simp only [mf_Mo_mark_1, if_neg c_2, if_pos c_7]) hq0  hI hP hS (lv_sub hl [1, 2, 3] rfl)
    · refine lv_iconst (v := (1 : Int32)) hx hb md_Mo_mark_30 (by decide) ?_
      refine lv_goto (tgt := 35) hx hb md_Mo_mark_31 (by decide) ?_
      exact J3  _ _ _ (by simp only [mf_Mo_mark_1, if_neg c_2, if_neg c_7]) hq0  hI hP hS (lv_sub hl [1, 2, 3] rfl)
def mf_Mo_plug (v0 : fw_V) (a1 : Int32) (a2 : Int32) (a3 : Int32) : Int32 × fw_V :=
  let r1 := mf_Mo_is a1 (0 : Int32) (1 : Int32)
  if r1 = (0 : Int32) then
    ((0 : Int32), v0)
  else
    let r4 := mf_Mo_is a2 (0 : Int32) (2 : Int32)
    if r4 = (0 : Int32) then
      ((0 : Int32), v0)
    else
      let r7 := mf_Mo_is a3 (-1 : Int32) (7 : Int32)
      if r7 = (0 : Int32) then
        ((0 : Int32), v0)
      else
        if (v0 42 0 (((3 : Int32) * a1) + a2).toNatClampNeg) = a3 then
          ((1 : Int32), v0)
        else
          let v12 := fw_up v0 42 0 ((((3 : Int32) * a1) + a2).toNatClampNeg) a3
          if a1 = (0 : Int32) then
            let v14 := mf_Mo_replace_0 v12 a2
            if (v14 28 0 a1.toNatClampNeg) = (3 : Int32) then
              if (0 : Int32) ≤ (v14 43 0 (((3 : Int32) * a1) + a2).toNatClampNeg) then
                let v19 := mf_Mo_mark_0 v14 a2
                if (4 : Int32) ≤ (v19 37 0 a1.toNatClampNeg) then
                  ((1 : Int32), v19)
                else
                  let v24 := fw_up v19 47 0 ((((4 : Int32) * a1) + (v19 37 0 a1.toNatClampNeg)).toNatClampNeg) a2
                  let v27 := fw_up v24 37 0 (a1.toNatClampNeg) ((v24 37 0 a1.toNatClampNeg) + (1 : Int32))
                  let v28 := fw_up v27 48 0 ((((4 : Int32) * a1) + (v24 37 0 a1.toNatClampNeg)).toNatClampNeg) (a3 + (1 : Int32))
                  ((1 : Int32), v28)
              else
                ((1 : Int32), v14)
            else
              ((1 : Int32), v14)
          else
            let v30 := mf_Mo_replace_1 v12 a2
            if (v30 28 0 a1.toNatClampNeg) = (3 : Int32) then
              if (0 : Int32) ≤ (v30 43 0 (((3 : Int32) * a1) + a2).toNatClampNeg) then
                let v35 := mf_Mo_mark_1 v30 a2
                if (4 : Int32) ≤ (v35 37 0 a1.toNatClampNeg) then
                  ((1 : Int32), v35)
                else
                  let v40 := fw_up v35 47 0 ((((4 : Int32) * a1) + (v35 37 0 a1.toNatClampNeg)).toNatClampNeg) a2
                  let v43 := fw_up v40 37 0 (a1.toNatClampNeg) ((v40 37 0 a1.toNatClampNeg) + (1 : Int32))
                  let v44 := fw_up v43 48 0 ((((4 : Int32) * a1) + (v40 37 0 a1.toNatClampNeg)).toNatClampNeg) (a3 + (1 : Int32))
                  ((1 : Int32), v44)
              else
                ((1 : Int32), v30)
            else
              ((1 : Int32), v30)

set_option maxHeartbeats 4000000 in
set_option maxRecDepth 100000 in
theorem mc_Mo_plug (l : Launch) {D : va_G} {cA : Nat → ClassId} {ad : Nat → Nat → Nat} (hD : fw_D mCL ad) {b : Nat} (v0 : fw_V) (hI : mI b v0) (a1 : Int32) (a2 : Int32) (a3 : Int32)  : Met l my_Mo_plug (Cond.code my_Mo_plug mb_Mo_plug 5 (some .boolean) :: vTB) mrm_Mo_plug (fw_Pc vNL D vcls (vtys cA) mCL cA mkd ad v0 [.ref (ad 0 0), .int a1, .int a2, .int a3]) (fw_Qz D vcls mCL cA mkd ad (mI b) (mf_Mo_plug v0 a1 a2 a3)) 0 0 (fw_A mCL ad) := by
  refine Met.ofW (cc := mb_Mo_plug) (maxL := 5) (ret := (some .boolean)) (by decide) rfl ?_
  intro p e s m args below meth c s₁ B hml hv
  obtain ⟨rfl, hP, hK, hN⟩ := hv
  have hx := B.exec
  have hb := B.bytes
  have hr := B.returns
  have hts : ∀ w ∈ vTB, w.before ([.ref (ad 0 0), .int a1, .int a2, .int a3] : List Value).toArray s = true := fun w h => atoms_spec (ws := (Cond.code my_Mo_plug mb_Mo_plug 5 (some .boolean) :: vTB)) B.pre w (List.mem_cons_of_mem _ h)
  have hown : s.vm.findClass R_Mo = some m.cls := findClass_of_methodNamed B.named
  have hlocks := B.notSynchronized
  have hS : va_S (fw_A mCL ad) s.heap s.heap [] := va_S.rf
  skip
  have hl := lv_entry ([.ref (ad 0 0), .int a1, .int a2, .int a3]) (n := 5) (Nat.le_of_ble_eq_true rfl)
  rw [lg_entry_eq]
  generalize (lg_sl ([.ref (ad 0 0), .int a1, .int a2, .int a3]) ++ List.replicate (5 - (lg_sl ([.ref (ad 0 0), .int a1, .int a2, .int a3])).length) Slot.unset).toArray = ls at hl ⊢
  have hl : lv_has ls 5 [(0, .ref (ad 0 0)), (1, .int a1), (2, .int a2), (3, .int a3)] := hl
  refine lv_iload_n hx hb md_Mo_plug_0 rfl (lv_at hl 1 rfl) ?_
  refine lv_iconst (v := (0 : Int32)) hx hb md_Mo_plug_1 (by decide) ?_
  refine lv_iconst (v := (1 : Int32)) hx hb md_Mo_plug_2 (by decide) ?_
  refine fw_cb (va_runS (As := [.int a1, .int (0 : Int32), .int (1 : Int32)]) (rest := []) ⟨hx, hb, hml, hown, hts⟩ (mc_Mo_is l hD v0 hI a1 (0 : Int32) (1 : Int32)) (mw_Mo_is hts L_Mo_155 ⟨Nat.le_of_ble_eq_true rfl, Nat.le_of_ble_eq_true rfl⟩) (fw_preS hN hK hP) rfl rfl hl.1 rfl (lv_room (Nat.le_of_ble_eq_true rfl)) md_Mo_plug_3 ⟨Nat.le_of_ble_eq_true rfl, Nat.le_of_ble_eq_true rfl⟩) hS (fun r1 H locs zr1 er1 hP hS => ?_)
  refine lv_if_eq (tgt := 28) hx hb md_Mo_plug_6 (by decide) (fun c_2 => ?_) (fun c_2 => ?_)
  · refine lv_iconst (v := (0 : Int32)) hx hb md_Mo_plug_28 (by decide) ?_
    exact fw_zret hx hb hr hlocks hS hP hI md_Mo_plug_29 (by decide) (by subst er1; simp only [mf_Mo_plug, if_pos c_2])
  · have h_3 : vp_in a1 2 := mp_in er1 c_2 (by decide)
    refine lv_iload_n hx hb md_Mo_plug_9 rfl (lv_at hl 2 rfl) ?_
    refine lv_iconst (v := (0 : Int32)) hx hb md_Mo_plug_10 (by decide) ?_
    refine lv_iconst (v := (2 : Int32)) hx hb md_Mo_plug_11 (by decide) ?_
    refine fw_cb (va_runS (As := [.int a2, .int (0 : Int32), .int (2 : Int32)]) (rest := []) ⟨hx, hb, hml, hown, hts⟩ (mc_Mo_is l hD v0 hI a2 (0 : Int32) (2 : Int32)) (mw_Mo_is hts L_Mo_155 ⟨Nat.le_of_ble_eq_true rfl, Nat.le_of_ble_eq_true rfl⟩) (fw_preS hN hK hP) rfl rfl hl.1 rfl (lv_room (Nat.le_of_ble_eq_true rfl)) md_Mo_plug_12 ⟨Nat.le_of_ble_eq_true rfl, Nat.le_of_ble_eq_true rfl⟩) hS (fun r4 H locs zr4 er4 hP hS => ?_)
    refine lv_if_eq (tgt := 28) hx hb md_Mo_plug_15 (by decide) (fun c_5 => ?_) (fun c_5 => ?_)
    · refine lv_iconst (v := (0 : Int32)) hx hb md_Mo_plug_28 (by decide) ?_
      exact fw_zret hx hb hr hlocks hS hP hI md_Mo_plug_29 (by decide) (by subst er1 er4; simp only [mf_Mo_plug, if_neg c_2, if_pos c_5])
    · have h_6 : vp_in a2 3 := mp_in er4 c_5 (by decide)
      refine lv_iload_n hx hb md_Mo_plug_18 rfl (lv_at hl 3 rfl) ?_
      refine lv_iconst (v := (-1 : Int32)) hx hb md_Mo_plug_19 (by decide) ?_
      refine lv_bipush (v := (7 : Int32)) hx hb md_Mo_plug_20 (by decide) ?_
      refine fw_cb (va_runS (As := [.int a3, .int (-1 : Int32), .int (7 : Int32)]) (rest := []) ⟨hx, hb, hml, hown, hts⟩ (mc_Mo_is l hD v0 hI a3 (-1 : Int32) (7 : Int32)) (mw_Mo_is hts L_Mo_155 ⟨Nat.le_of_ble_eq_true rfl, Nat.le_of_ble_eq_true rfl⟩) (fw_preS hN hK hP) rfl rfl hl.1 rfl (lv_room (Nat.le_of_ble_eq_true rfl)) md_Mo_plug_22 ⟨Nat.le_of_ble_eq_true rfl, Nat.le_of_ble_eq_true rfl⟩) hS (fun r7 H locs zr7 er7 hP hS => ?_)
      refine lv_if_ne (tgt := 30) hx hb md_Mo_plug_25 (by decide) (fun c_8 => ?_) (fun c_8 => ?_)
      · have h_9 : vp_in (a3 + 1) 9 := mp_m8 er7 c_8
        refine lv_iconst (v := (3 : Int32)) hx hb md_Mo_plug_30 (by decide) ?_
        refine lv_iload_n hx hb md_Mo_plug_31 rfl (lv_at hl 1 rfl) ?_
        refine lv_imul hx hb md_Mo_plug_32 ?_
        refine lv_iload_n hx hb md_Mo_plug_33 rfl (lv_at hl 2 rfl) ?_
        refine lv_iadd hx hb md_Mo_plug_34 ?_
        refine lv_istore (lv' := [(4, .int (((3 : Int32) * a1) + a2)), (0, .ref (ad 0 0)), (1, .int a1), (2, .int a2), (3, .int a3)]) hx hb md_Mo_plug_35 hl (by decide) rfl (fun ls hl => ?_)
        refine lv_aload_n hx hb md_Mo_plug_37 rfl (lv_at hl 1 rfl) ?_
        refine fw_getr hx hb hts i_Mo hown hK hP (mm_0 (by decide)) (mk_0 0) rfl 41 (by decide) (hts _ L_Mo_131) (fun _ h9 => h9) rfl md_Mo_plug_38 ?_
        refine lv_iload hx hb md_Mo_plug_41 (lv_at hl 0 rfl) ?_
        refine fw_iald hx hb hK hP (mm_42 (by decide)) (mk_42 0) 0 rfl (j := (((3 : Int32) * a1) + a2).toNatClampNeg) rfl (fw_inadd2 (n := 4) (m := 3) (t := 6) (fw_inmul (c := (3 : Int32)) (k := 3) (n := 2) (m := 4) rfl h_3 (by decide) (by decide)) h_6 (by decide)) md_Mo_plug_43 ?_
        have h_10 : vp_in ((v0 42 0 (((3 : Int32) * a1) + a2).toNatClampNeg) + 1) 9 := hI.1 42 0 ((((3 : Int32) * a1) + a2).toNatClampNeg)
        refine lv_iload_n hx hb md_Mo_plug_44 rfl (lv_at hl 4 rfl) ?_
        refine lv_icmp_ne (tgt := 50) hx hb md_Mo_plug_45 (by decide) (fun c_11 => ?_) (fun c_11 => ?_)
        · refine lv_aload_n hx hb md_Mo_plug_50 rfl (lv_at hl 1 rfl) ?_
          refine fw_getr hx hb hts i_Mo hown hK hP (mm_0 (by decide)) (mk_0 0) rfl 41 (by decide) (hts _ L_Mo_131) (fun _ h9 => h9) rfl md_Mo_plug_51 ?_
          refine lv_iload hx hb md_Mo_plug_54 (lv_at hl 0 rfl) ?_
          refine lv_iload_n hx hb md_Mo_plug_56 rfl (lv_at hl 4 rfl) ?_
          refine fw_iast hx hb hK hD hP hS (mm_42 (by decide)) (mk_42 0) 0 rfl (j := (((3 : Int32) * a1) + a2).toNatClampNeg) rfl (fw_inadd2 (n := 4) (m := 3) (t := 6) (fw_inmul (c := (3 : Int32)) (k := 3) (n := 2) (m := 4) rfl h_3 (by decide) (by decide)) h_6 (by decide)) md_Mo_plug_57 (fun v12 H locs ev12 hP hS => ?_)
          have hI : mI b v12 := by rw [ev12]; exact mI_up hI h_9 trivial
          refine lv_aload_n hx hb md_Mo_plug_58 rfl (lv_at hl 1 rfl) ?_
          refine lv_iload_n hx hb md_Mo_plug_59 rfl (lv_at hl 2 rfl) ?_
          refine lv_iload_n hx hb md_Mo_plug_60 rfl (lv_at hl 3 rfl) ?_
          by_cases c_13 : a1 = (0 : Int32)
          · refine W.eq (g2 := F0 m 61 ls [.int a2, .int (0 : Int32), .ref (ad 0 0)]) (by rw [c_13]) ?_
            refine fw_cv (va_runV (As := [.int (0 : Int32), .int a2]) (rest := []) ⟨hx, hb, hml, hown, hts⟩ (mc_Mo_replace_0 l hD v12 hI a2 h_6) (mw_Mo_replace hts L_Mo_159 ⟨Nat.le_of_ble_eq_true rfl, Nat.le_of_ble_eq_true rfl⟩) (fw_preV hN hK hP (mm_0 (by decide)) (mk_0 0) rfl) rfl rfl hl.1 rfl (lv_room (Nat.le_of_ble_eq_true rfl)) md_Mo_plug_61 ⟨Nat.le_of_ble_eq_true rfl, Nat.le_of_ble_eq_true rfl⟩) hS (fun v14 H locs ev14 hI hP hS => ?_)
            refine lv_aload_n hx hb md_Mo_plug_64 rfl (lv_at hl 1 rfl) ?_
            refine fw_getr hx hb hts i_Mo hown hK hP (mm_0 (by decide)) (mk_0 0) rfl 27 (by decide) (hts _ L_Mo_89) (fun _ h9 => h9) rfl md_Mo_plug_65 ?_
            refine lv_iload_n hx hb md_Mo_plug_68 rfl (lv_at hl 2 rfl) ?_
            refine fw_iald hx hb hK hP (mm_28 (by decide)) (mk_28 0) 0 rfl (j := a1.toNatClampNeg) rfl h_3 md_Mo_plug_69 ?_
            refine lv_iconst (v := (3 : Int32)) hx hb md_Mo_plug_70 (by decide) ?_
            refine lv_icmp_ne (tgt := 84) hx hb md_Mo_plug_71 (by decide) (fun c_15 => ?_) (fun c_15 => ?_)
            · refine lv_iconst (v := (1 : Int32)) hx hb md_Mo_plug_84 (by decide) ?_
              exact fw_zret hx hb hr hlocks hS hP hI md_Mo_plug_85 (by decide) (by subst er1 er4 er7 ev12 ev14; simp only [mf_Mo_plug, if_neg c_2, if_neg c_5, if_neg c_8, if_neg c_11, if_pos c_13, if_neg c_15])
            · refine lv_aload_n hx hb md_Mo_plug_74 rfl (lv_at hl 1 rfl) ?_
              refine fw_getr hx hb hts i_Mo hown hK hP (mm_0 (by decide)) (mk_0 0) rfl 42 (by decide) (hts _ L_Mo_134) (fun _ h9 => h9) rfl md_Mo_plug_75 ?_
              refine lv_iload hx hb md_Mo_plug_78 (lv_at hl 0 rfl) ?_
              refine fw_iald hx hb hK hP (mm_43 (by decide)) (mk_43 0) 0 rfl (j := (((3 : Int32) * a1) + a2).toNatClampNeg) rfl (fw_inadd2 (n := 4) (m := 3) (t := 6) (fw_inmul (c := (3 : Int32)) (k := 3) (n := 2) (m := 4) rfl h_3 (by decide) (by decide)) h_6 (by decide)) md_Mo_plug_80 ?_
              have h_16 : vp_in ((v14 43 0 (((3 : Int32) * a1) + a2).toNatClampNeg) + 1) 9 := hI.1 43 0 ((((3 : Int32) * a1) + a2).toNatClampNeg)
              refine lv_if_ge (tgt := 86) hx hb md_Mo_plug_81 (by decide) (fun c_17 => ?_) (fun c_17 => ?_)
              · have h_18 : vp_in (v14 43 0 (((3 : Int32) * a1) + a2).toNatClampNeg) 8 := fw_m8' h_16 c_17
                refine lv_aload_n hx hb md_Mo_plug_86 rfl (lv_at hl 1 rfl) ?_
                refine lv_iload_n hx hb md_Mo_plug_87 rfl (lv_at hl 2 rfl) ?_
                refine lv_iload_n hx hb md_Mo_plug_88 rfl (lv_at hl 3 rfl) ?_
                refine W.eq (g2 := F0 m 89 ls [.int a2, .int (0 : Int32), .ref (ad 0 0)]) (by rw [c_13]) ?_
                refine fw_cv (va_runV (As := [.int (0 : Int32), .int a2]) (rest := []) ⟨hx, hb, hml, hown, hts⟩ (mc_Mo_mark_0 l hD v14 hI a2 h_6) (mw_Mo_mark hts L_Mo_163 ⟨Nat.le_of_ble_eq_true rfl, Nat.le_of_ble_eq_true rfl⟩) (fw_preV hN hK hP (mm_0 (by decide)) (mk_0 0) rfl) rfl rfl hl.1 rfl (lv_room (Nat.le_of_ble_eq_true rfl)) md_Mo_plug_89 ⟨Nat.le_of_ble_eq_true rfl, Nat.le_of_ble_eq_true rfl⟩) hS (fun v19 H locs ev19 hI hP hS => ?_)
                refine lv_aload_n hx hb md_Mo_plug_92 rfl (lv_at hl 1 rfl) ?_
                refine fw_getr hx hb hts i_Mo hown hK hP (mm_0 (by decide)) (mk_0 0) rfl 36 (by decide) (hts _ L_Mo_116) (fun _ h9 => h9) rfl md_Mo_plug_93 ?_
                refine lv_iload_n hx hb md_Mo_plug_96 rfl (lv_at hl 2 rfl) ?_
                refine fw_iald hx hb hK hP (mm_37 (by decide)) (mk_37 0) 0 rfl (j := a1.toNatClampNeg) rfl h_3 md_Mo_plug_97 ?_
                have h_20 : vp_in (v19 37 0 a1.toNatClampNeg) 5 := hI.1 37 0 (a1.toNatClampNeg)
                refine lv_iconst (v := (4 : Int32)) hx hb md_Mo_plug_98 (by decide) ?_
                refine lv_icmp_ge (tgt := 141) hx hb md_Mo_plug_99 (by decide) (fun c_21 => ?_) (fun c_21 => ?_)
                · refine lv_iconst (v := (1 : Int32)) hx hb md_Mo_plug_141 (by decide) ?_
                  exact fw_zret hx hb hr hlocks hS hP hI md_Mo_plug_142 (by decide) (by subst er1 er4 er7 ev12 ev14 ev19; simp only [mf_Mo_plug, if_neg c_2, if_neg c_5, if_neg c_8, if_neg c_11, if_pos c_13, if_pos c_15, if_pos c_17, if_pos c_21])
                · have h_22 : vp_in (v19 37 0 a1.toNatClampNeg) 4 := fw_in1 h_20 c_21
                  refine lv_aload_n hx hb md_Mo_plug_102 rfl (lv_at hl 1 rfl) ?_
                  refine fw_getr hx hb hts i_Mo hown hK hP (mm_0 (by decide)) (mk_0 0) rfl 46 (by decide) (hts _ L_Mo_146) (fun _ h9 => h9) rfl md_Mo_plug_103 ?_
                  refine lv_iconst (v := (4 : Int32)) hx hb md_Mo_plug_106 (by decide) ?_
                  refine lv_iload_n hx hb md_Mo_plug_107 rfl (lv_at hl 2 rfl) ?_
                  refine lv_imul hx hb md_Mo_plug_108 ?_
                  refine lv_aload_n hx hb md_Mo_plug_109 rfl (lv_at hl 1 rfl) ?_
                  refine fw_getr hx hb hts i_Mo hown hK hP (mm_0 (by decide)) (mk_0 0) rfl 36 (by decide) (hts _ L_Mo_116) (fun _ h9 => h9) rfl md_Mo_plug_110 ?_
                  refine lv_iload_n hx hb md_Mo_plug_113 rfl (lv_at hl 2 rfl) ?_
                  refine fw_iald hx hb hK hP (mm_37 (by decide)) (mk_37 0) 0 rfl (j := a1.toNatClampNeg) rfl h_3 md_Mo_plug_114 ?_
                  have h_23 : vp_in (v19 37 0 a1.toNatClampNeg) 5 := hI.1 37 0 (a1.toNatClampNeg)
                  refine lv_iadd hx hb md_Mo_plug_115 ?_
                  refine lv_iload_n hx hb md_Mo_plug_116 rfl (lv_at hl 3 rfl) ?_
                  refine fw_iast hx hb hK hD hP hS (mm_47 (by decide)) (mk_47 0) 0 rfl (j := (((4 : Int32) * a1) + (v19 37 0 a1.toNatClampNeg)).toNatClampNeg) rfl (fw_inadd2 (n := 5) (m := 4) (t := 8) (fw_inmul (c := (4 : Int32)) (k := 4) (n := 2) (m := 5) rfl h_3 (by decide) (by decide)) h_22 (by decide)) md_Mo_plug_117 (fun v24 H locs ev24 hP hS => ?_)
                  have hI : mI b v24 := by rw [ev24]; exact mI_up hI h_6 trivial
                  refine lv_aload_n hx hb md_Mo_plug_118 rfl (lv_at hl 1 rfl) ?_
                  refine fw_getr hx hb hts i_Mo hown hK hP (mm_0 (by decide)) (mk_0 0) rfl 47 (by decide) (hts _ L_Mo_149) (fun _ h9 => h9) rfl md_Mo_plug_119 ?_
                  refine lv_iconst (v := (4 : Int32)) hx hb md_Mo_plug_122 (by decide) ?_
                  refine lv_iload_n hx hb md_Mo_plug_123 rfl (lv_at hl 2 rfl) ?_
                  refine lv_imul hx hb md_Mo_plug_124 ?_
                  refine lv_aload_n hx hb md_Mo_plug_125 rfl (lv_at hl 1 rfl) ?_
                  refine fw_getr hx hb hts i_Mo hown hK hP (mm_0 (by decide)) (mk_0 0) rfl 36 (by decide) (hts _ L_Mo_116) (fun _ h9 => h9) rfl md_Mo_plug_126 ?_
                  refine lv_iload_n hx hb md_Mo_plug_129 rfl (lv_at hl 2 rfl) ?_
                  refine lv_dup2_11 hx hb md_Mo_plug_130 rfl rfl ?_
                  refine fw_iald hx hb hK hP (mm_37 (by decide)) (mk_37 0) 0 rfl (j := a1.toNatClampNeg) rfl h_3 md_Mo_plug_131 ?_
                  have h_25 : vp_in (v24 37 0 a1.toNatClampNeg) 4 := (by rw [ev24, fw_up_c (c := 47) (c' := 37) (by decide)]; exact h_22)
                  have h_26 : vp_in (v24 37 0 a1.toNatClampNeg) 5 := hI.1 37 0 (a1.toNatClampNeg)
                  refine lv_dup_x2 hx hb md_Mo_plug_132 rfl rfl rfl ?_
                  refine lv_iconst (v := (1 : Int32)) hx hb md_Mo_plug_133 (by decide) ?_
                  refine lv_iadd hx hb md_Mo_plug_134 ?_
                  refine fw_iast hx hb hK hD hP hS (mm_37 (by decide)) (mk_37 0) 0 rfl (j := a1.toNatClampNeg) rfl h_3 md_Mo_plug_135 (fun v27 H locs ev27 hP hS => ?_)
                  have hI : mI b v27 := by rw [ev27]; exact mI_up hI (fw_inp1 h_25 (by decide)) (Or.inr (fw_posp1 h_25 (by decide)))
                  refine lv_iadd hx hb md_Mo_plug_136 ?_
                  refine lv_iload_n hx hb md_Mo_plug_137 rfl (lv_at hl 4 rfl) ?_
                  refine lv_iconst (v := (1 : Int32)) hx hb md_Mo_plug_138 (by decide) ?_
                  refine lv_iadd hx hb md_Mo_plug_139 ?_
                  refine fw_iast hx hb hK hD hP hS (mm_48 (by decide)) (mk_48 0) 0 rfl (j := (((4 : Int32) * a1) + (v24 37 0 a1.toNatClampNeg)).toNatClampNeg) rfl (fw_inadd2 (n := 5) (m := 4) (t := 8) (fw_inmul (c := (4 : Int32)) (k := 4) (n := 2) (m := 5) rfl h_3 (by decide) (by decide)) h_25 (by decide)) md_Mo_plug_140 (fun v28 H locs ev28 hP hS => ?_)
                  have hI : mI b v28 := by rw [ev28]; exact mI_up hI trivial trivial
                  refine lv_iconst (v := (1 : Int32)) hx hb md_Mo_plug_141 (by decide) ?_
                  exact fw_zret hx hb hr hlocks hS hP hI md_Mo_plug_142 (by decide) (by subst er1 er4 er7 ev12 ev14 ev19 ev24 ev27 ev28; simp only [mf_Mo_plug, if_neg c_2, if_neg c_5, if_neg c_8, if_neg c_11, if_pos c_13, if_pos c_15, if_pos c_17, if_neg c_21])
              · refine lv_iconst (v := (1 : Int32)) hx hb md_Mo_plug_84 (by decide) ?_
                exact fw_zret hx hb hr hlocks hS hP hI md_Mo_plug_85 (by decide) (by subst er1 er4 er7 ev12 ev14; simp only [mf_Mo_plug, if_neg c_2, if_neg c_5, if_neg c_8, if_neg c_11, if_pos c_13, if_pos c_15, if_neg c_17])
          · have h_29 : a1 = (1 : Int32) := fw_one h_3 c_13
            refine W.eq (g2 := F0 m 61 ls [.int a2, .int (1 : Int32), .ref (ad 0 0)]) (by rw [h_29]) ?_
            refine fw_cv (va_runV (As := [.int (1 : Int32), .int a2]) (rest := []) ⟨hx, hb, hml, hown, hts⟩ (mc_Mo_replace_1 l hD v12 hI a2 h_6) (mw_Mo_replace hts L_Mo_159 ⟨Nat.le_of_ble_eq_true rfl, Nat.le_of_ble_eq_true rfl⟩) (fw_preV hN hK hP (mm_0 (by decide)) (mk_0 0) rfl) rfl rfl hl.1 rfl (lv_room (Nat.le_of_ble_eq_true rfl)) md_Mo_plug_61 ⟨Nat.le_of_ble_eq_true rfl, Nat.le_of_ble_eq_true rfl⟩) hS (fun v30 H locs ev30 hI hP hS => ?_)
            refine lv_aload_n hx hb md_Mo_plug_64 rfl (lv_at hl 1 rfl) ?_
            refine fw_getr hx hb hts i_Mo hown hK hP (mm_0 (by decide)) (mk_0 0) rfl 27 (by decide) (hts _ L_Mo_89) (fun _ h9 => h9) rfl md_Mo_plug_65 ?_
            refine lv_iload_n hx hb md_Mo_plug_68 rfl (lv_at hl 2 rfl) ?_
            refine fw_iald hx hb hK hP (mm_28 (by decide)) (mk_28 0) 0 rfl (j := a1.toNatClampNeg) rfl h_3 md_Mo_plug_69 ?_
            refine lv_iconst (v := (3 : Int32)) hx hb md_Mo_plug_70 (by decide) ?_
            refine lv_icmp_ne (tgt := 84) hx hb md_Mo_plug_71 (by decide) (fun c_31 => ?_) (fun c_31 => ?_)
            · refine lv_iconst (v := (1 : Int32)) hx hb md_Mo_plug_84 (by decide) ?_
              exact fw_zret hx hb hr hlocks hS hP hI md_Mo_plug_85 (by decide) (by subst er1 er4 er7 ev12 ev30; simp only [mf_Mo_plug, if_neg c_2, if_neg c_5, if_neg c_8, if_neg c_11, if_neg c_13, if_neg c_31])
            · refine lv_aload_n hx hb md_Mo_plug_74 rfl (lv_at hl 1 rfl) ?_
              refine fw_getr hx hb hts i_Mo hown hK hP (mm_0 (by decide)) (mk_0 0) rfl 42 (by decide) (hts _ L_Mo_134) (fun _ h9 => h9) rfl md_Mo_plug_75 ?_
              refine lv_iload hx hb md_Mo_plug_78 (lv_at hl 0 rfl) ?_
              refine fw_iald hx hb hK hP (mm_43 (by decide)) (mk_43 0) 0 rfl (j := (((3 : Int32) * a1) + a2).toNatClampNeg) rfl (fw_inadd2 (n := 4) (m := 3) (t := 6) (fw_inmul (c := (3 : Int32)) (k := 3) (n := 2) (m := 4) rfl h_3 (by decide) (by decide)) h_6 (by decide)) md_Mo_plug_80 ?_
              have h_32 : vp_in ((v30 43 0 (((3 : Int32) * a1) + a2).toNatClampNeg) + 1) 9 := hI.1 43 0 ((((3 : Int32) * a1) + a2).toNatClampNeg)
              refine lv_if_ge (tgt := 86) hx hb md_Mo_plug_81 (by decide) (fun c_33 => ?_) (fun c_33 => ?_)
              · have h_34 : vp_in (v30 43 0 (((3 : Int32) * a1) + a2).toNatClampNeg) 8 := fw_m8' h_32 c_33
                refine lv_aload_n hx hb md_Mo_plug_86 rfl (lv_at hl 1 rfl) ?_
                refine lv_iload_n hx hb md_Mo_plug_87 rfl (lv_at hl 2 rfl) ?_
                refine lv_iload_n hx hb md_Mo_plug_88 rfl (lv_at hl 3 rfl) ?_
                refine W.eq (g2 := F0 m 89 ls [.int a2, .int (1 : Int32), .ref (ad 0 0)]) (by rw [h_29]) ?_
                refine fw_cv (va_runV (As := [.int (1 : Int32), .int a2]) (rest := []) ⟨hx, hb, hml, hown, hts⟩ (mc_Mo_mark_1 l hD v30 hI a2 h_6) (mw_Mo_mark hts L_Mo_163 ⟨Nat.le_of_ble_eq_true rfl, Nat.le_of_ble_eq_true rfl⟩) (fw_preV hN hK hP (mm_0 (by decide)) (mk_0 0) rfl) rfl rfl hl.1 rfl (lv_room (Nat.le_of_ble_eq_true rfl)) md_Mo_plug_89 ⟨Nat.le_of_ble_eq_true rfl, Nat.le_of_ble_eq_true rfl⟩) hS (fun v35 H locs ev35 hI hP hS => ?_)
                refine lv_aload_n hx hb md_Mo_plug_92 rfl (lv_at hl 1 rfl) ?_
                refine fw_getr hx hb hts i_Mo hown hK hP (mm_0 (by decide)) (mk_0 0) rfl 36 (by decide) (hts _ L_Mo_116) (fun _ h9 => h9) rfl md_Mo_plug_93 ?_
                refine lv_iload_n hx hb md_Mo_plug_96 rfl (lv_at hl 2 rfl) ?_
                refine fw_iald hx hb hK hP (mm_37 (by decide)) (mk_37 0) 0 rfl (j := a1.toNatClampNeg) rfl h_3 md_Mo_plug_97 ?_
                have h_36 : vp_in (v35 37 0 a1.toNatClampNeg) 5 := hI.1 37 0 (a1.toNatClampNeg)
                refine lv_iconst (v := (4 : Int32)) hx hb md_Mo_plug_98 (by decide) ?_
                refine lv_icmp_ge (tgt := 141) hx hb md_Mo_plug_99 (by decide) (fun c_37 => ?_) (fun c_37 => ?_)
                · refine lv_iconst (v := (1 : Int32)) hx hb md_Mo_plug_141 (by decide) ?_
                  exact fw_zret hx hb hr hlocks hS hP hI md_Mo_plug_142 (by decide) (by subst er1 er4 er7 ev12 ev30 ev35; simp only [mf_Mo_plug, if_neg c_2, if_neg c_5, if_neg c_8, if_neg c_11, if_neg c_13, if_pos c_31, if_pos c_33, if_pos c_37])
                · have h_38 : vp_in (v35 37 0 a1.toNatClampNeg) 4 := fw_in1 h_36 c_37
                  refine lv_aload_n hx hb md_Mo_plug_102 rfl (lv_at hl 1 rfl) ?_
                  refine fw_getr hx hb hts i_Mo hown hK hP (mm_0 (by decide)) (mk_0 0) rfl 46 (by decide) (hts _ L_Mo_146) (fun _ h9 => h9) rfl md_Mo_plug_103 ?_
                  refine lv_iconst (v := (4 : Int32)) hx hb md_Mo_plug_106 (by decide) ?_
                  refine lv_iload_n hx hb md_Mo_plug_107 rfl (lv_at hl 2 rfl) ?_
                  refine lv_imul hx hb md_Mo_plug_108 ?_
                  refine lv_aload_n hx hb md_Mo_plug_109 rfl (lv_at hl 1 rfl) ?_
                  refine fw_getr hx hb hts i_Mo hown hK hP (mm_0 (by decide)) (mk_0 0) rfl 36 (by decide) (hts _ L_Mo_116) (fun _ h9 => h9) rfl md_Mo_plug_110 ?_
                  refine lv_iload_n hx hb md_Mo_plug_113 rfl (lv_at hl 2 rfl) ?_
                  refine fw_iald hx hb hK hP (mm_37 (by decide)) (mk_37 0) 0 rfl (j := a1.toNatClampNeg) rfl h_3 md_Mo_plug_114 ?_
                  have h_39 : vp_in (v35 37 0 a1.toNatClampNeg) 5 := hI.1 37 0 (a1.toNatClampNeg)
                  refine lv_iadd hx hb md_Mo_plug_115 ?_
                  refine lv_iload_n hx hb md_Mo_plug_116 rfl (lv_at hl 3 rfl) ?_
                  refine fw_iast hx hb hK hD hP hS (mm_47 (by decide)) (mk_47 0) 0 rfl (j := (((4 : Int32) * a1) + (v35 37 0 a1.toNatClampNeg)).toNatClampNeg) rfl (fw_inadd2 (n := 5) (m := 4) (t := 8) (fw_inmul (c := (4 : Int32)) (k := 4) (n := 2) (m := 5) rfl h_3 (by decide) (by decide)) h_38 (by decide)) md_Mo_plug_117 (fun v40 H locs ev40 hP hS => ?_)
                  have hI : mI b v40 := by rw [ev40]; exact mI_up hI h_6 trivial
                  refine lv_aload_n hx hb md_Mo_plug_118 rfl (lv_at hl 1 rfl) ?_
                  refine fw_getr hx hb hts i_Mo hown hK hP (mm_0 (by decide)) (mk_0 0) rfl 47 (by decide) (hts _ L_Mo_149) (fun _ h9 => h9) rfl md_Mo_plug_119 ?_
                  refine lv_iconst (v := (4 : Int32)) hx hb md_Mo_plug_122 (by decide) ?_
                  refine lv_iload_n hx hb md_Mo_plug_123 rfl (lv_at hl 2 rfl) ?_
                  refine lv_imul hx hb md_Mo_plug_124 ?_
                  refine lv_aload_n hx hb md_Mo_plug_125 rfl (lv_at hl 1 rfl) ?_
                  refine fw_getr hx hb hts i_Mo hown hK hP (mm_0 (by decide)) (mk_0 0) rfl 36 (by decide) (hts _ L_Mo_116) (fun _ h9 => h9) rfl md_Mo_plug_126 ?_
                  refine lv_iload_n hx hb md_Mo_plug_129 rfl (lv_at hl 2 rfl) ?_
                  refine lv_dup2_11 hx hb md_Mo_plug_130 rfl rfl ?_
                  refine fw_iald hx hb hK hP (mm_37 (by decide)) (mk_37 0) 0 rfl (j := a1.toNatClampNeg) rfl h_3 md_Mo_plug_131 ?_
                  have h_41 : vp_in (v40 37 0 a1.toNatClampNeg) 4 := (by rw [ev40, fw_up_c (c := 47) (c' := 37) (by decide)]; exact h_38)
                  have h_42 : vp_in (v40 37 0 a1.toNatClampNeg) 5 := hI.1 37 0 (a1.toNatClampNeg)
                  refine lv_dup_x2 hx hb md_Mo_plug_132 rfl rfl rfl ?_
                  refine lv_iconst (v := (1 : Int32)) hx hb md_Mo_plug_133 (by decide) ?_
                  refine lv_iadd hx hb md_Mo_plug_134 ?_
                  refine fw_iast hx hb hK hD hP hS (mm_37 (by decide)) (mk_37 0) 0 rfl (j := a1.toNatClampNeg) rfl h_3 md_Mo_plug_135 (fun v43 H locs ev43 hP hS => ?_)
                  have hI : mI b v43 := by rw [ev43]; exact mI_up hI (fw_inp1 h_41 (by decide)) (Or.inr (fw_posp1 h_41 (by decide)))
                  refine lv_iadd hx hb md_Mo_plug_136 ?_
                  refine lv_iload_n hx hb md_Mo_plug_137 rfl (lv_at hl 4 rfl) ?_
                  refine lv_iconst (v := (1 : Int32)) hx hb md_Mo_plug_138 (by decide) ?_
                  refine lv_iadd hx hb md_Mo_plug_139 ?_
                  refine fw_iast hx hb hK hD hP hS (mm_48 (by decide)) (mk_48 0) 0 rfl (j := (((4 : Int32) * a1) + (v40 37 0 a1.toNatClampNeg)).toNatClampNeg) rfl (fw_inadd2 (n := 5) (m := 4) (t := 8) (fw_inmul (c := (4 : Int32)) (k := 4) (n := 2) (m := 5) rfl h_3 (by decide) (by decide)) h_41 (by decide)) md_Mo_plug_140 (fun v44 H locs ev44 hP hS => ?_)
                  have hI : mI b v44 := by rw [ev44]; exact mI_up hI trivial trivial
                  refine lv_iconst (v := (1 : Int32)) hx hb md_Mo_plug_141 (by decide) ?_
                  exact fw_zret hx hb hr hlocks hS hP hI md_Mo_plug_142 (by decide) (by subst er1 er4 er7 ev12 ev30 ev35 ev40 ev43 ev44; simp only [mf_Mo_plug, if_neg c_2, if_neg c_5, if_neg c_8, if_neg c_11, if_neg c_13, if_pos c_31, if_pos c_33, if_neg c_37])
              · refine lv_iconst (v := (1 : Int32)) hx hb md_Mo_plug_84 (by decide) ?_
                exact fw_zret hx hb hr hlocks hS hP hI md_Mo_plug_85 (by decide) (by subst er1 er4 er7 ev12 ev30; simp only [mf_Mo_plug, if_neg c_2, if_neg c_5, if_neg c_8, if_neg c_11, if_neg c_13, if_pos c_31, if_neg c_33])
        · refine lv_iconst (v := (1 : Int32)) hx hb md_Mo_plug_48 (by decide) ?_
          exact fw_zret hx hb hr hlocks hS hP hI md_Mo_plug_49 (by decide) (by subst er1 er4 er7; simp only [mf_Mo_plug, if_neg c_2, if_neg c_5, if_neg c_8, if_pos c_11])
      · refine lv_iconst (v := (0 : Int32)) hx hb md_Mo_plug_28 (by decide) ?_
        exact fw_zret hx hb hr hlocks hS hP hI md_Mo_plug_29 (by decide) (by subst er1 er4 er7; simp only [mf_Mo_plug, if_neg c_2, if_neg c_5, if_pos c_8])
def mf_Mo_clear (v0 : fw_V) : fw_V :=
  let v2 := fw_up v0 9 0 (0) (0 : Int32)
  let v4 := fw_up v2 9 0 (1) (0 : Int32)
  let v6 := fw_up v4 9 0 (2) (0 : Int32)
  let v8 := fw_up v6 9 0 (3) (0 : Int32)
  let v10 := fw_up v8 9 0 (4) (0 : Int32)
  let v12 := fw_up v10 9 0 (5) (0 : Int32)
  let v14 := fw_up v12 9 0 (6) (0 : Int32)
  v14

theorem mca_Mo_clear {v0 : fw_V} {i k : Nat} : mf_Mo_clear v0 10 i k = v0 10 i k := by
  unfold mf_Mo_clear
  try dsimp only
  all_goals ((repeat' split) <;> simp [fw_up, fw_row])
theorem mfr_Mo_clear {v0 : fw_V} {c : Nat} {i k : Nat} (hc : c ≠ 9) : mf_Mo_clear v0 c i k = v0 c i k := by
  unfold mf_Mo_clear
  try dsimp only
  all_goals ((repeat' split) <;> simp [fw_up, fw_row, hc])
set_option maxHeartbeats 4000000 in
set_option maxRecDepth 100000 in
theorem mc_Mo_clear (l : Launch) {D : va_G} {cA : Nat → ClassId} {ad : Nat → Nat → Nat} (hD : fw_D mCL ad) {b : Nat} (v0 : fw_V) (hI : mI0 b v0)   : Met l my_Mo_clear (Cond.code my_Mo_clear mb_Mo_clear 2 none :: vTB) mrm_Mo_clear (fw_Pc vNL D vcls (vtys cA) mCL cA mkd ad v0 [.ref (ad 0 0)]) (fw_Qv D vcls mCL cA mkd ad (mI0 b) (mf_Mo_clear v0)) 0 0 (fw_A mCL ad) := by
  refine Met.ofW (cc := mb_Mo_clear) (maxL := 2) (ret := none) (by decide) rfl ?_
  intro p e s m args below meth c s₁ B hml hv
  obtain ⟨rfl, hP, hK, hN⟩ := hv
  have hx := B.exec
  have hb := B.bytes
  have hr := B.returns
  have hts : ∀ w ∈ vTB, w.before ([.ref (ad 0 0)] : List Value).toArray s = true := fun w h => atoms_spec (ws := (Cond.code my_Mo_clear mb_Mo_clear 2 none :: vTB)) B.pre w (List.mem_cons_of_mem _ h)
  have hown : s.vm.findClass R_Mo = some m.cls := findClass_of_methodNamed B.named
  have hlocks := B.notSynchronized
  have hS : va_S (fw_A mCL ad) s.heap s.heap [] := va_S.rf
  skip
  have hl := lv_entry ([.ref (ad 0 0)]) (n := 2) (Nat.le_of_ble_eq_true rfl)
  rw [lg_entry_eq]
  generalize (lg_sl ([.ref (ad 0 0)]) ++ List.replicate (2 - (lg_sl ([.ref (ad 0 0)])).length) Slot.unset).toArray = ls at hl ⊢
  have hl : lv_has ls 2 [(0, .ref (ad 0 0))] := hl
  refine lv_iconst (v := (0 : Int32)) hx hb md_Mo_clear_0 (by decide) ?_
  refine lv_istore_n (lv' := [(1, .int (0 : Int32)), (0, .ref (ad 0 0))]) hx hb md_Mo_clear_1 rfl hl (by decide) rfl (fun ls hl => ?_)
  refine lv_iload_n hx hb md_Mo_clear_2 rfl (lv_at hl 0 rfl) ?_
  refine lv_bipush (v := (7 : Int32)) hx hb md_Mo_clear_3 (by decide) ?_
  refine lv_icmp_ge (tgt := 21) hx hb md_Mo_clear_5 (by decide) (fun c_1 => absurd c_1 (by decide)) (fun _ => ?_)
  refine lv_aload_n hx hb md_Mo_clear_8 rfl (lv_at hl 1 rfl) ?_
  refine fw_getr hx hb hts i_Mo hown hK hP (mm_0 (by decide)) (mk_0 0) rfl 8 (by decide) (hts _ L_Mo_35) (fun _ h9 => h9) rfl md_Mo_clear_9 ?_
  refine lv_iload_n hx hb md_Mo_clear_12 rfl (lv_at hl 0 rfl) ?_
  refine lv_iconst (v := (0 : Int32)) hx hb md_Mo_clear_13 (by decide) ?_
  refine fw_iast hx hb hK hD hP hS (mm_9 (by decide)) (mk_9 0) 0 rfl (j := 0) (by decide) (fw_inc (by decide)) md_Mo_clear_14 (fun v2 H locs ev2 hP hS => ?_)
  have hI : mI0 b v2 := by rw [ev2]; exact mI0_up hI trivial trivial
  refine lv_iinc (v := (1 : Int32)) (lv' := [(1, .int (1 : Int32)), (0, .ref (ad 0 0))]) hx hb md_Mo_clear_15 hl (k := 0) rfl (by decide) (by decide) rfl (fun ls hl => ?_)
  refine lv_goto (tgt := 2) hx hb md_Mo_clear_18 (by decide) ?_
  refine lv_iload_n hx hb md_Mo_clear_2 rfl (lv_at hl 0 rfl) ?_
  refine lv_bipush (v := (7 : Int32)) hx hb md_Mo_clear_3 (by decide) ?_
  refine lv_icmp_ge (tgt := 21) hx hb md_Mo_clear_5 (by decide) (fun c_3 => absurd c_3 (by decide)) (fun _ => ?_)
  refine lv_aload_n hx hb md_Mo_clear_8 rfl (lv_at hl 1 rfl) ?_
  refine fw_getr hx hb hts i_Mo hown hK hP (mm_0 (by decide)) (mk_0 0) rfl 8 (by decide) (hts _ L_Mo_35) (fun _ h9 => h9) rfl md_Mo_clear_9 ?_
  refine lv_iload_n hx hb md_Mo_clear_12 rfl (lv_at hl 0 rfl) ?_
  refine lv_iconst (v := (0 : Int32)) hx hb md_Mo_clear_13 (by decide) ?_
  refine fw_iast hx hb hK hD hP hS (mm_9 (by decide)) (mk_9 0) 0 rfl (j := 1) (by decide) (fw_inc (by decide)) md_Mo_clear_14 (fun v4 H locs ev4 hP hS => ?_)
  have hI : mI0 b v4 := by rw [ev4]; exact mI0_up hI trivial trivial
  refine lv_iinc (v := (2 : Int32)) (lv' := [(1, .int (2 : Int32)), (0, .ref (ad 0 0))]) hx hb md_Mo_clear_15 hl (k := 0) rfl (by decide) (by decide) rfl (fun ls hl => ?_)
  refine lv_goto (tgt := 2) hx hb md_Mo_clear_18 (by decide) ?_
  refine lv_iload_n hx hb md_Mo_clear_2 rfl (lv_at hl 0 rfl) ?_
  refine lv_bipush (v := (7 : Int32)) hx hb md_Mo_clear_3 (by decide) ?_
  refine lv_icmp_ge (tgt := 21) hx hb md_Mo_clear_5 (by decide) (fun c_5 => absurd c_5 (by decide)) (fun _ => ?_)
  refine lv_aload_n hx hb md_Mo_clear_8 rfl (lv_at hl 1 rfl) ?_
  refine fw_getr hx hb hts i_Mo hown hK hP (mm_0 (by decide)) (mk_0 0) rfl 8 (by decide) (hts _ L_Mo_35) (fun _ h9 => h9) rfl md_Mo_clear_9 ?_
  refine lv_iload_n hx hb md_Mo_clear_12 rfl (lv_at hl 0 rfl) ?_
  refine lv_iconst (v := (0 : Int32)) hx hb md_Mo_clear_13 (by decide) ?_
  refine fw_iast hx hb hK hD hP hS (mm_9 (by decide)) (mk_9 0) 0 rfl (j := 2) (by decide) (fw_inc (by decide)) md_Mo_clear_14 (fun v6 H locs ev6 hP hS => ?_)
  have hI : mI0 b v6 := by rw [ev6]; exact mI0_up hI trivial trivial
  refine lv_iinc (v := (3 : Int32)) (lv' := [(1, .int (3 : Int32)), (0, .ref (ad 0 0))]) hx hb md_Mo_clear_15 hl (k := 0) rfl (by decide) (by decide) rfl (fun ls hl => ?_)
  refine lv_goto (tgt := 2) hx hb md_Mo_clear_18 (by decide) ?_
  refine lv_iload_n hx hb md_Mo_clear_2 rfl (lv_at hl 0 rfl) ?_
  refine lv_bipush (v := (7 : Int32)) hx hb md_Mo_clear_3 (by decide) ?_
  refine lv_icmp_ge (tgt := 21) hx hb md_Mo_clear_5 (by decide) (fun c_7 => absurd c_7 (by decide)) (fun _ => ?_)
  refine lv_aload_n hx hb md_Mo_clear_8 rfl (lv_at hl 1 rfl) ?_
  refine fw_getr hx hb hts i_Mo hown hK hP (mm_0 (by decide)) (mk_0 0) rfl 8 (by decide) (hts _ L_Mo_35) (fun _ h9 => h9) rfl md_Mo_clear_9 ?_
  refine lv_iload_n hx hb md_Mo_clear_12 rfl (lv_at hl 0 rfl) ?_
  refine lv_iconst (v := (0 : Int32)) hx hb md_Mo_clear_13 (by decide) ?_
  refine fw_iast hx hb hK hD hP hS (mm_9 (by decide)) (mk_9 0) 0 rfl (j := 3) (by decide) (fw_inc (by decide)) md_Mo_clear_14 (fun v8 H locs ev8 hP hS => ?_)
  have hI : mI0 b v8 := by rw [ev8]; exact mI0_up hI trivial trivial
  refine lv_iinc (v := (4 : Int32)) (lv' := [(1, .int (4 : Int32)), (0, .ref (ad 0 0))]) hx hb md_Mo_clear_15 hl (k := 0) rfl (by decide) (by decide) rfl (fun ls hl => ?_)
  refine lv_goto (tgt := 2) hx hb md_Mo_clear_18 (by decide) ?_
  refine lv_iload_n hx hb md_Mo_clear_2 rfl (lv_at hl 0 rfl) ?_
  refine lv_bipush (v := (7 : Int32)) hx hb md_Mo_clear_3 (by decide) ?_
  refine lv_icmp_ge (tgt := 21) hx hb md_Mo_clear_5 (by decide) (fun c_9 => absurd c_9 (by decide)) (fun _ => ?_)
  refine lv_aload_n hx hb md_Mo_clear_8 rfl (lv_at hl 1 rfl) ?_
  refine fw_getr hx hb hts i_Mo hown hK hP (mm_0 (by decide)) (mk_0 0) rfl 8 (by decide) (hts _ L_Mo_35) (fun _ h9 => h9) rfl md_Mo_clear_9 ?_
  refine lv_iload_n hx hb md_Mo_clear_12 rfl (lv_at hl 0 rfl) ?_
  refine lv_iconst (v := (0 : Int32)) hx hb md_Mo_clear_13 (by decide) ?_
  refine fw_iast hx hb hK hD hP hS (mm_9 (by decide)) (mk_9 0) 0 rfl (j := 4) (by decide) (fw_inc (by decide)) md_Mo_clear_14 (fun v10 H locs ev10 hP hS => ?_)
  have hI : mI0 b v10 := by rw [ev10]; exact mI0_up hI trivial trivial
  refine lv_iinc (v := (5 : Int32)) (lv' := [(1, .int (5 : Int32)), (0, .ref (ad 0 0))]) hx hb md_Mo_clear_15 hl (k := 0) rfl (by decide) (by decide) rfl (fun ls hl => ?_)
  refine lv_goto (tgt := 2) hx hb md_Mo_clear_18 (by decide) ?_
  refine lv_iload_n hx hb md_Mo_clear_2 rfl (lv_at hl 0 rfl) ?_
  refine lv_bipush (v := (7 : Int32)) hx hb md_Mo_clear_3 (by decide) ?_
  refine lv_icmp_ge (tgt := 21) hx hb md_Mo_clear_5 (by decide) (fun c_11 => absurd c_11 (by decide)) (fun _ => ?_)
  refine lv_aload_n hx hb md_Mo_clear_8 rfl (lv_at hl 1 rfl) ?_
  refine fw_getr hx hb hts i_Mo hown hK hP (mm_0 (by decide)) (mk_0 0) rfl 8 (by decide) (hts _ L_Mo_35) (fun _ h9 => h9) rfl md_Mo_clear_9 ?_
  refine lv_iload_n hx hb md_Mo_clear_12 rfl (lv_at hl 0 rfl) ?_
  refine lv_iconst (v := (0 : Int32)) hx hb md_Mo_clear_13 (by decide) ?_
  refine fw_iast hx hb hK hD hP hS (mm_9 (by decide)) (mk_9 0) 0 rfl (j := 5) (by decide) (fw_inc (by decide)) md_Mo_clear_14 (fun v12 H locs ev12 hP hS => ?_)
  have hI : mI0 b v12 := by rw [ev12]; exact mI0_up hI trivial trivial
  refine lv_iinc (v := (6 : Int32)) (lv' := [(1, .int (6 : Int32)), (0, .ref (ad 0 0))]) hx hb md_Mo_clear_15 hl (k := 0) rfl (by decide) (by decide) rfl (fun ls hl => ?_)
  refine lv_goto (tgt := 2) hx hb md_Mo_clear_18 (by decide) ?_
  refine lv_iload_n hx hb md_Mo_clear_2 rfl (lv_at hl 0 rfl) ?_
  refine lv_bipush (v := (7 : Int32)) hx hb md_Mo_clear_3 (by decide) ?_
  refine lv_icmp_ge (tgt := 21) hx hb md_Mo_clear_5 (by decide) (fun c_13 => absurd c_13 (by decide)) (fun _ => ?_)
  refine lv_aload_n hx hb md_Mo_clear_8 rfl (lv_at hl 1 rfl) ?_
  refine fw_getr hx hb hts i_Mo hown hK hP (mm_0 (by decide)) (mk_0 0) rfl 8 (by decide) (hts _ L_Mo_35) (fun _ h9 => h9) rfl md_Mo_clear_9 ?_
  refine lv_iload_n hx hb md_Mo_clear_12 rfl (lv_at hl 0 rfl) ?_
  refine lv_iconst (v := (0 : Int32)) hx hb md_Mo_clear_13 (by decide) ?_
  refine fw_iast hx hb hK hD hP hS (mm_9 (by decide)) (mk_9 0) 0 rfl (j := 6) (by decide) (fw_inc (by decide)) md_Mo_clear_14 (fun v14 H locs ev14 hP hS => ?_)
  have hI : mI0 b v14 := by rw [ev14]; exact mI0_up hI trivial trivial
  refine lv_iinc (v := (7 : Int32)) (lv' := [(1, .int (7 : Int32)), (0, .ref (ad 0 0))]) hx hb md_Mo_clear_15 hl (k := 0) rfl (by decide) (by decide) rfl (fun ls hl => ?_)
  refine lv_goto (tgt := 2) hx hb md_Mo_clear_18 (by decide) ?_
  refine lv_iload_n hx hb md_Mo_clear_2 rfl (lv_at hl 0 rfl) ?_
  refine lv_bipush (v := (7 : Int32)) hx hb md_Mo_clear_3 (by decide) ?_
  refine lv_icmp_ge (tgt := 21) hx hb md_Mo_clear_5 (by decide) (fun _ => ?_) (fun c_15 => absurd (by decide) c_15)
  exact fw_vret hx hb hr hlocks hS hP hI md_Mo_clear_21 (by subst ev2 ev4 ev6 ev8 ev10 ev12 ev14; simp only [mf_Mo_clear])
def mf_Mo_send (v0 : fw_V) (a1 : Int32) (a2 : Int32) (a3 : Int32) (a4 : Int32) : fw_V :=
  let v1 := fw_up v0 0 0 50 ((v0 0 0 50) + (1 : Int32))
  if (v1 0 0 10) = (16 : Int32) then
    let v48 := fw_up v1 0 0 51 ((v1 0 0 51) + (1 : Int32))
    let v49 := mf_Mo_clear v48
    v49
  else
    let v5 := fw_up v1 4 0 ((v1 0 0 10).toNatClampNeg) a1
    let v8 := fw_up v5 5 0 ((v5 0 0 10).toNatClampNeg) a2
    let v11 := fw_up v8 6 0 ((v8 0 0 10).toNatClampNeg) a3
    let v14 := fw_up v11 7 0 ((v11 0 0 10).toNatClampNeg) a4
    let v18 := fw_up v14 8 0 ((((7 : Int32) * (v14 0 0 10)) + (0 : Int32)).toNatClampNeg) (v14 9 0 0)
    let v22 := fw_up v18 8 0 ((((7 : Int32) * (v18 0 0 10)) + (1 : Int32)).toNatClampNeg) (v18 9 0 1)
    let v26 := fw_up v22 8 0 ((((7 : Int32) * (v22 0 0 10)) + (2 : Int32)).toNatClampNeg) (v22 9 0 2)
    let v30 := fw_up v26 8 0 ((((7 : Int32) * (v26 0 0 10)) + (3 : Int32)).toNatClampNeg) (v26 9 0 3)
    let v34 := fw_up v30 8 0 ((((7 : Int32) * (v30 0 0 10)) + (4 : Int32)).toNatClampNeg) (v30 9 0 4)
    let v38 := fw_up v34 8 0 ((((7 : Int32) * (v34 0 0 10)) + (5 : Int32)).toNatClampNeg) (v34 9 0 5)
    let v42 := fw_up v38 8 0 ((((7 : Int32) * (v38 0 0 10)) + (6 : Int32)).toNatClampNeg) (v38 9 0 6)
    let v46 := fw_up v42 0 0 10 ((v42 0 0 10) + (1 : Int32))
    let v47 := mf_Mo_clear v46
    v47

theorem i7 {n i : Nat} (hn : n < 17) (hi : i < 7) : (((7 : Int32) * nI n) + nI i).toNatClampNeg = 7 * n + i := by
  show ((nI 7 * nI n) + nI i).toNatClampNeg = 7 * n + i
  rw [pk_mul, nI_add, nI_clamp (by omega)]
/-- send with room: the cells that it writes, at their places -/
theorem msend_ex {w : fw_V} {a b c d : Int32} {n : Nat} (hn : n < 16) (e : w 0 0 10 = nI n) :
    mf_Mo_send w a b c d = mf_Mo_clear (fw_up (fw_up (fw_up (fw_up (fw_up (fw_up (fw_up (fw_up (fw_up (fw_up (fw_up (fw_up (fw_up w 0 0 50 (w 0 0 50 + 1)) 4 0 n a) 5 0 n b) 6 0 n c) 7 0 n d) 8 0 (7 * n + 0) (w 9 0 0)) 8 0 (7 * n + 1) (w 9 0 1)) 8 0 (7 * n + 2) (w 9 0 2)) 8 0 (7 * n + 3) (w 9 0 3)) 8 0 (7 * n + 4) (w 9 0 4)) 8 0 (7 * n + 5) (w 9 0 5)) 8 0 (7 * n + 6) (w 9 0 6)) 0 0 10 (nI (n + 1))) := by
  have w0 : ¬ fw_up w 0 0 50 ((w 0 0 50) + (1 : Int32)) 0 0 10 = (16 : Int32) := by
    rw [fw_up_k (by decide), e]
    intro h
    have : nI n = nI 16 := h
    rw [nI_eq (by omega) (by omega)] at this
    omega
  have cn : (nI n).toNatClampNeg = n := nI_clamp (by omega)
  have x0 : (((7 : Int32) * nI n) + (0 : Int32)).toNatClampNeg = 7 * n + 0 := i7 (by omega) (i := 0) (by decide)
  have x1 : (((7 : Int32) * nI n) + (1 : Int32)).toNatClampNeg = 7 * n + 1 := i7 (by omega) (i := 1) (by decide)
  have x2 : (((7 : Int32) * nI n) + (2 : Int32)).toNatClampNeg = 7 * n + 2 := i7 (by omega) (i := 2) (by decide)
  have x3 : (((7 : Int32) * nI n) + (3 : Int32)).toNatClampNeg = 7 * n + 3 := i7 (by omega) (i := 3) (by decide)
  have x4 : (((7 : Int32) * nI n) + (4 : Int32)).toNatClampNeg = 7 * n + 4 := i7 (by omega) (i := 4) (by decide)
  have x5 : (((7 : Int32) * nI n) + (5 : Int32)).toNatClampNeg = 7 * n + 5 := i7 (by omega) (i := 5) (by decide)
  have x6 : (((7 : Int32) * nI n) + (6 : Int32)).toNatClampNeg = 7 * n + 6 := i7 (by omega) (i := 6) (by decide)
  have key : ∀ v1 v5 v8 v11 v14 v18 v22 v26 v30 v34 v38 v42 v46 : fw_V, v1 = fw_up w 0 0 50 ((w 0 0 50) + (1 : Int32)) → v5 = fw_up v1 4 0 ((v1 0 0 10).toNatClampNeg) a → v8 = fw_up v5 5 0 ((v5 0 0 10).toNatClampNeg) b → v11 = fw_up v8 6 0 ((v8 0 0 10).toNatClampNeg) c → v14 = fw_up v11 7 0 ((v11 0 0 10).toNatClampNeg) d → v18 = fw_up v14 8 0 ((((7 : Int32) * (v14 0 0 10)) + (0 : Int32)).toNatClampNeg) (v14 9 0 0) → v22 = fw_up v18 8 0 ((((7 : Int32) * (v18 0 0 10)) + (1 : Int32)).toNatClampNeg) (v18 9 0 1) → v26 = fw_up v22 8 0 ((((7 : Int32) * (v22 0 0 10)) + (2 : Int32)).toNatClampNeg) (v22 9 0 2) → v30 = fw_up v26 8 0 ((((7 : Int32) * (v26 0 0 10)) + (3 : Int32)).toNatClampNeg) (v26 9 0 3) → v34 = fw_up v30 8 0 ((((7 : Int32) * (v30 0 0 10)) + (4 : Int32)).toNatClampNeg) (v30 9 0 4) → v38 = fw_up v34 8 0 ((((7 : Int32) * (v34 0 0 10)) + (5 : Int32)).toNatClampNeg) (v34 9 0 5) → v42 = fw_up v38 8 0 ((((7 : Int32) * (v38 0 0 10)) + (6 : Int32)).toNatClampNeg) (v38 9 0 6) → v46 = fw_up v42 0 0 10 ((v42 0 0 10) + (1 : Int32)) → v46 = fw_up (fw_up (fw_up (fw_up (fw_up (fw_up (fw_up (fw_up (fw_up (fw_up (fw_up (fw_up (fw_up w 0 0 50 (w 0 0 50 + 1)) 4 0 n a) 5 0 n b) 6 0 n c) 7 0 n d) 8 0 (7 * n + 0) (w 9 0 0)) 8 0 (7 * n + 1) (w 9 0 1)) 8 0 (7 * n + 2) (w 9 0 2)) 8 0 (7 * n + 3) (w 9 0 3)) 8 0 (7 * n + 4) (w 9 0 4)) 8 0 (7 * n + 5) (w 9 0 5)) 8 0 (7 * n + 6) (w 9 0 6)) 0 0 10 (nI (n + 1)) := by
    intro v1 v5 v8 v11 v14 v18 v22 v26 v30 v34 v38 v42 v46 h1 h5 h8 h11 h14 h18 h22 h26 h30 h34 h38 h42 h46
    have z1 : v1 0 0 10 = nI n := by rw [h1, fw_up_k (by decide)]; exact e
    rw [z1, cn] at h5
    have z5 : v5 0 0 10 = nI n := by rw [h5, fw_up_c (by decide)]; exact z1
    rw [z5, cn] at h8
    have z8 : v8 0 0 10 = nI n := by rw [h8, fw_up_c (by decide)]; exact z5
    rw [z8, cn] at h11
    have z11 : v11 0 0 10 = nI n := by rw [h11, fw_up_c (by decide)]; exact z8
    rw [z11, cn] at h14
    have z14 : v14 0 0 10 = nI n := by rw [h14, fw_up_c (by decide)]; exact z11
    have a14 : ∀ k, v14 9 0 k = w 9 0 k := fun k => by rw [h14, fw_up_c (by decide), h11, fw_up_c (by decide), h8, fw_up_c (by decide), h5, fw_up_c (by decide), h1, fw_up_c (by decide)]
    rw [z14, x0, a14] at h18
    have z18 : v18 0 0 10 = nI n := by rw [h18, fw_up_c (by decide)]; exact z14
    have a18 : ∀ k, v18 9 0 k = w 9 0 k := fun k => by rw [h18, fw_up_c (by decide)]; exact a14 k
    rw [z18, x1, a18] at h22
    have z22 : v22 0 0 10 = nI n := by rw [h22, fw_up_c (by decide)]; exact z18
    have a22 : ∀ k, v22 9 0 k = w 9 0 k := fun k => by rw [h22, fw_up_c (by decide)]; exact a18 k
    rw [z22, x2, a22] at h26
    have z26 : v26 0 0 10 = nI n := by rw [h26, fw_up_c (by decide)]; exact z22
    have a26 : ∀ k, v26 9 0 k = w 9 0 k := fun k => by rw [h26, fw_up_c (by decide)]; exact a22 k
    rw [z26, x3, a26] at h30
    have z30 : v30 0 0 10 = nI n := by rw [h30, fw_up_c (by decide)]; exact z26
    have a30 : ∀ k, v30 9 0 k = w 9 0 k := fun k => by rw [h30, fw_up_c (by decide)]; exact a26 k
    rw [z30, x4, a30] at h34
    have z34 : v34 0 0 10 = nI n := by rw [h34, fw_up_c (by decide)]; exact z30
    have a34 : ∀ k, v34 9 0 k = w 9 0 k := fun k => by rw [h34, fw_up_c (by decide)]; exact a30 k
    rw [z34, x5, a34] at h38
    have z38 : v38 0 0 10 = nI n := by rw [h38, fw_up_c (by decide)]; exact z34
    have a38 : ∀ k, v38 9 0 k = w 9 0 k := fun k => by rw [h38, fw_up_c (by decide)]; exact a34 k
    rw [z38, x6, a38] at h42
    have z42 : v42 0 0 10 = nI n := by rw [h42, fw_up_c (by decide)]; exact z38
    rw [z42, nI_1] at h46
    rw [h46, h42, h38, h34, h30, h26, h22, h18, h14, h11, h8, h5, h1]
  have e1 := key _ _ _ _ _ _ _ _ _ _ _ _ _ rfl rfl rfl rfl rfl rfl rfl rfl rfl rfl rfl rfl rfl
  rw [← e1]
  exact if_neg w0
theorem mI_send {b : Nat} {v : fw_V} {a1 a2 a3 a4 : Int32} (h : mI b v) (h14 : a1 = (14 : Int32) → vp_in (v 9 0 0) 3) (h6 : a1 = (6 : Int32) → vp_in a3 3) (h3 : a1 = (3 : Int32) → (vp_in (v 9 0 0) 9 ∧ vp_in (v 9 0 1) 9 ∧ vp_in (v 9 0 2) 9)) (h0 : mI0 b (mf_Mo_send v a1 a2 a3 a4)) : mI b (mf_Mo_send v a1 a2 a3 a4) := by
  refine h0.to (fun j hj => ?_)
  have hF := h.2.2.2 j hj
  by_cases hw : v 0 0 10 = 16
  · have e : ∀ c i k, c ≠ 9 → c ≠ 0 → mf_Mo_send v a1 a2 a3 a4 c i k = v c i k := by
      intro c i k hc9 hc0
      unfold mf_Mo_send
      dsimp only
      rw [if_pos (show fw_up v 0 0 50 ((v 0 0 50) + (1 : Int32)) 0 0 10 = 16 by rw [fw_up_k (by decide)]; exact hw), mfr_Mo_clear hc9, fw_up_c hc0, fw_up_c hc0]
    unfold mFr
    rw [e 4 _ _ (by decide) (by decide), e 6 _ _ (by decide) (by decide), e 8 _ _ (by decide) (by decide), e 8 _ _ (by decide) (by decide), e 8 _ _ (by decide) (by decide)]
    exact hF
  · have hin : vp_in (v 0 0 10) 16 := fw_inne (h.1 0 0 10) hw (by decide)
    obtain ⟨n, hn, en⟩ := vp_in_of hin (by decide)
    have f4 : ∀ k, mf_Mo_send v a1 a2 a3 a4 4 0 k = if k = n then a1 else v 4 0 k := by
      intro k
      rw [msend_ex hn en, mfr_Mo_clear (by decide)]
      simp [fw_up]
    have f6 : ∀ k, mf_Mo_send v a1 a2 a3 a4 6 0 k = if k = n then a3 else v 6 0 k := by
      intro k
      rw [msend_ex hn en, mfr_Mo_clear (by decide)]
      simp [fw_up]
    have f8 : ∀ k, mf_Mo_send v a1 a2 a3 a4 8 0 k = if k = 7 * n + 6 then v 9 0 6 else if k = 7 * n + 5 then v 9 0 5 else if k = 7 * n + 4 then v 9 0 4 else if k = 7 * n + 3 then v 9 0 3 else if k = 7 * n + 2 then v 9 0 2 else if k = 7 * n + 1 then v 9 0 1 else if k = 7 * n + 0 then v 9 0 0 else v 8 0 k := by
      intro k
      rw [msend_ex hn en, mfr_Mo_clear (by decide)]
      simp [fw_up]
    unfold mFr
    rw [f4, f6, f8, f8, f8]
    by_cases hjn : j = n
    · subst hjn
      rw [if_pos rfl, if_pos rfl]
      refine ⟨fun q => ?_, h6, fun q => ⟨?_, ?_, ?_⟩⟩
      · rw [if_neg (by omega), if_neg (by omega), if_neg (by omega), if_neg (by omega), if_neg (by omega), if_neg (by omega), if_pos (by omega)]; exact h14 q
      · rw [if_neg (by omega), if_neg (by omega), if_neg (by omega), if_neg (by omega), if_neg (by omega), if_neg (by omega), if_pos (by omega)]; exact (h3 q).1
      · rw [if_neg (by omega), if_neg (by omega), if_neg (by omega), if_neg (by omega), if_neg (by omega), if_pos (by omega)]; exact (h3 q).2.1
      · rw [if_neg (by omega), if_neg (by omega), if_neg (by omega), if_neg (by omega), if_pos (by omega)]; exact (h3 q).2.2
    · rw [if_neg hjn, if_neg hjn, if_neg (by omega), if_neg (by omega), if_neg (by omega), if_neg (by omega), if_neg (by omega), if_neg (by omega), if_neg (by omega), if_neg (by omega), if_neg (by omega), if_neg (by omega), if_neg (by omega), if_neg (by omega), if_neg (by omega), if_neg (by omega), if_neg (by omega), if_neg (by omega), if_neg (by omega), if_neg (by omega), if_neg (by omega), if_neg (by omega), if_neg (by omega)]
      exact hF

theorem mca_Mo_send {v0 : fw_V} {a1 : Int32} {a2 : Int32} {a3 : Int32} {a4 : Int32} {i k : Nat} : mf_Mo_send v0 a1 a2 a3 a4 10 i k = v0 10 i k := by
  unfold mf_Mo_send
  try dsimp only
  all_goals ((repeat' split) <;> simp [fw_up, fw_row, mca_Mo_clear])
theorem mfr_Mo_send {v0 : fw_V} {a1 : Int32} {a2 : Int32} {a3 : Int32} {a4 : Int32} {c : Nat} {i k : Nat} (hc : c ≠ 0 ∧ c ≠ 4 ∧ c ≠ 5 ∧ c ≠ 6 ∧ c ≠ 7 ∧ c ≠ 8 ∧ c ≠ 9) : mf_Mo_send v0 a1 a2 a3 a4 c i k = v0 c i k := by
  unfold mf_Mo_send
  try dsimp only
  all_goals ((repeat' split) <;> simp [fw_up, fw_row, mfr_Mo_clear, hc])
set_option maxHeartbeats 4000000 in
set_option maxRecDepth 100000 in
theorem mc_Mo_send (l : Launch) {D : va_G} {cA : Nat → ClassId} {ad : Nat → Nat → Nat} (hD : fw_D mCL ad) {b : Nat} (v0 : fw_V) (hI : mI b v0) (a1 : Int32) (a2 : Int32) (a3 : Int32) (a4 : Int32) (hq0 : a1 = (14 : Int32) → vp_in (v0 9 0 0) 3) (hq1 : a1 = (6 : Int32) → vp_in a3 3) (hq2 : a1 = (3 : Int32) → (vp_in (v0 9 0 0) 9 ∧ vp_in (v0 9 0 1) 9 ∧ vp_in (v0 9 0 2) 9)) : Met l my_Mo_send (Cond.code my_Mo_send mb_Mo_send 6 none :: vTB) mrm_Mo_send (fw_Pc vNL D vcls (vtys cA) mCL cA mkd ad v0 [.ref (ad 0 0), .int a1, .int a2, .int a3, .int a4]) (fw_Qv D vcls mCL cA mkd ad (mI b) (mf_Mo_send v0 a1 a2 a3 a4)) 0 0 (fw_A mCL ad) := by
  refine Met.ofW (cc := mb_Mo_send) (maxL := 6) (ret := none) (by decide) rfl ?_
  intro p e s m args below meth c s₁ B hml hv
  obtain ⟨rfl, hP, hK, hN⟩ := hv
  have hx := B.exec
  have hb := B.bytes
  have hr := B.returns
  have hts : ∀ w ∈ vTB, w.before ([.ref (ad 0 0), .int a1, .int a2, .int a3, .int a4] : List Value).toArray s = true := fun w h => atoms_spec (ws := (Cond.code my_Mo_send mb_Mo_send 6 none :: vTB)) B.pre w (List.mem_cons_of_mem _ h)
  have hown : s.vm.findClass R_Mo = some m.cls := findClass_of_methodNamed B.named
  have hlocks := B.notSynchronized
  have hS : va_S (fw_A mCL ad) s.heap s.heap [] := va_S.rf
  have hIF := hI
  have hI : mI0 b v0 := hI.to0
  skip
  have hl := lv_entry ([.ref (ad 0 0), .int a1, .int a2, .int a3, .int a4]) (n := 6) (Nat.le_of_ble_eq_true rfl)
  rw [lg_entry_eq]
  generalize (lg_sl ([.ref (ad 0 0), .int a1, .int a2, .int a3, .int a4]) ++ List.replicate (6 - (lg_sl ([.ref (ad 0 0), .int a1, .int a2, .int a3, .int a4])).length) Slot.unset).toArray = ls at hl ⊢
  have hl : lv_has ls 6 [(0, .ref (ad 0 0)), (1, .int a1), (2, .int a2), (3, .int a3), (4, .int a4)] := hl
  refine lv_aload_n hx hb md_Mo_send_0 rfl (lv_at hl 0 rfl) ?_
  refine lv_dup hx hb md_Mo_send_1 rfl ?_
  refine fw_geti hx hb hts i_Mo hown hK hP (mm_0 (by decide)) (mk_0 0) rfl 50 (by decide) (hts _ L_Mo_166) (fun _ h9 => h9) rfl md_Mo_send_2 ?_
  refine lv_iconst (v := (1 : Int32)) hx hb md_Mo_send_5 (by decide) ?_
  refine lv_iadd hx hb md_Mo_send_6 ?_
  refine fw_puti hx hb hts i_Mo t_Mo t_Mo_ok n_Mo hown hK hD hP hS (mm_0 (by decide)) (mk_0 0) rfl 50 (by decide) (hts _ L_Mo_166) (fun _ h9 => h9) rfl fw_pdI rfl rfl rfl md_Mo_send_7 (fun v1 H locs ev1 hP hS => ?_)
  have hI : mI0 b v1 := by rw [ev1]; exact mI0_up hI trivial trivial
  refine lv_aload_n hx hb md_Mo_send_10 rfl (lv_at hl 0 rfl) ?_
  refine fw_geti hx hb hts i_Mo hown hK hP (mm_0 (by decide)) (mk_0 0) rfl 10 (by decide) (hts _ L_Mo_170) (fun _ h9 => h9) rfl md_Mo_send_11 ?_
  have h_2 : vp_in (v1 0 0 10) 17 := hI.1 0 0 10
  refine lv_bipush (v := (16 : Int32)) hx hb md_Mo_send_14 (by decide) ?_
  refine lv_icmp_ne (tgt := 32) hx hb md_Mo_send_16 (by decide) (fun c_3 => ?_) (fun c_3 => ?_)
  · have h_4 : vp_in (v1 0 0 10) 16 := fw_inne h_2 c_3 (by decide)
    refine lv_aload_n hx hb md_Mo_send_32 rfl (lv_at hl 0 rfl) ?_
    refine fw_getr hx hb hts i_Mo hown hK hP (mm_0 (by decide)) (mk_0 0) rfl 3 (by decide) (hts _ L_Mo_20) (fun _ h9 => h9) rfl md_Mo_send_33 ?_
    refine lv_aload_n hx hb md_Mo_send_36 rfl (lv_at hl 0 rfl) ?_
    refine fw_geti hx hb hts i_Mo hown hK hP (mm_0 (by decide)) (mk_0 0) rfl 10 (by decide) (hts _ L_Mo_170) (fun _ h9 => h9) rfl md_Mo_send_37 ?_
    refine lv_iload_n hx hb md_Mo_send_40 rfl (lv_at hl 1 rfl) ?_
    refine fw_iast hx hb hK hD hP hS (mm_4 (by decide)) (mk_4 0) 0 rfl (j := (v1 0 0 10).toNatClampNeg) rfl h_4 md_Mo_send_41 (fun v5 H locs ev5 hP hS => ?_)
    have hI : mI0 b v5 := by rw [ev5]; exact mI0_up hI trivial trivial
    refine lv_aload_n hx hb md_Mo_send_42 rfl (lv_at hl 0 rfl) ?_
    refine fw_getr hx hb hts i_Mo hown hK hP (mm_0 (by decide)) (mk_0 0) rfl 4 (by decide) (hts _ L_Mo_23) (fun _ h9 => h9) rfl md_Mo_send_43 ?_
    refine lv_aload_n hx hb md_Mo_send_46 rfl (lv_at hl 0 rfl) ?_
    refine fw_geti hx hb hts i_Mo hown hK hP (mm_0 (by decide)) (mk_0 0) rfl 10 (by decide) (hts _ L_Mo_170) (fun _ h9 => h9) rfl md_Mo_send_47 ?_
    have h_6 : vp_in (v5 0 0 10) 17 := hI.1 0 0 10
    have h_7 : vp_in (v5 0 0 10) 16 := (by rw [ev5, fw_up_c (c := 4) (c' := 0) (by decide)]; exact h_4)
    refine lv_iload_n hx hb md_Mo_send_50 rfl (lv_at hl 2 rfl) ?_
    refine fw_iast hx hb hK hD hP hS (mm_5 (by decide)) (mk_5 0) 0 rfl (j := (v5 0 0 10).toNatClampNeg) rfl h_7 md_Mo_send_51 (fun v8 H locs ev8 hP hS => ?_)
    have hI : mI0 b v8 := by rw [ev8]; exact mI0_up hI trivial trivial
    refine lv_aload_n hx hb md_Mo_send_52 rfl (lv_at hl 0 rfl) ?_
    refine fw_getr hx hb hts i_Mo hown hK hP (mm_0 (by decide)) (mk_0 0) rfl 5 (by decide) (hts _ L_Mo_26) (fun _ h9 => h9) rfl md_Mo_send_53 ?_
    refine lv_aload_n hx hb md_Mo_send_56 rfl (lv_at hl 0 rfl) ?_
    refine fw_geti hx hb hts i_Mo hown hK hP (mm_0 (by decide)) (mk_0 0) rfl 10 (by decide) (hts _ L_Mo_170) (fun _ h9 => h9) rfl md_Mo_send_57 ?_
    have h_9 : vp_in (v8 0 0 10) 17 := hI.1 0 0 10
    have h_10 : vp_in (v8 0 0 10) 16 := (by rw [ev8, fw_up_c (c := 5) (c' := 0) (by decide)]; exact h_7)
    refine lv_iload_n hx hb md_Mo_send_60 rfl (lv_at hl 3 rfl) ?_
    refine fw_iast hx hb hK hD hP hS (mm_6 (by decide)) (mk_6 0) 0 rfl (j := (v8 0 0 10).toNatClampNeg) rfl h_10 md_Mo_send_61 (fun v11 H locs ev11 hP hS => ?_)
    have hI : mI0 b v11 := by rw [ev11]; exact mI0_up hI trivial trivial
    refine lv_aload_n hx hb md_Mo_send_62 rfl (lv_at hl 0 rfl) ?_
    refine fw_getr hx hb hts i_Mo hown hK hP (mm_0 (by decide)) (mk_0 0) rfl 6 (by decide) (hts _ L_Mo_29) (fun _ h9 => h9) rfl md_Mo_send_63 ?_
    refine lv_aload_n hx hb md_Mo_send_66 rfl (lv_at hl 0 rfl) ?_
    refine fw_geti hx hb hts i_Mo hown hK hP (mm_0 (by decide)) (mk_0 0) rfl 10 (by decide) (hts _ L_Mo_170) (fun _ h9 => h9) rfl md_Mo_send_67 ?_
    have h_12 : vp_in (v11 0 0 10) 17 := hI.1 0 0 10
    have h_13 : vp_in (v11 0 0 10) 16 := (by rw [ev11, fw_up_c (c := 6) (c' := 0) (by decide)]; exact h_10)
    refine lv_iload hx hb md_Mo_send_70 (lv_at hl 4 rfl) ?_
    refine fw_iast hx hb hK hD hP hS (mm_7 (by decide)) (mk_7 0) 0 rfl (j := (v11 0 0 10).toNatClampNeg) rfl h_13 md_Mo_send_72 (fun v14 H locs ev14 hP hS => ?_)
    have hI : mI0 b v14 := by rw [ev14]; exact mI0_up hI trivial trivial
    refine lv_iconst (v := (0 : Int32)) hx hb md_Mo_send_73 (by decide) ?_
    refine lv_istore (lv' := [(5, .int (0 : Int32)), (0, .ref (ad 0 0)), (1, .int a1), (2, .int a2), (3, .int a3), (4, .int a4)]) hx hb md_Mo_send_74 hl (by decide) rfl (fun ls hl => ?_)
    refine lv_iload hx hb md_Mo_send_76 (lv_at hl 0 rfl) ?_
    refine lv_bipush (v := (7 : Int32)) hx hb md_Mo_send_78 (by decide) ?_
    refine lv_icmp_ge (tgt := 111) hx hb md_Mo_send_80 (by decide) (fun c_15 => absurd c_15 (by decide)) (fun _ => ?_)
    refine lv_aload_n hx hb md_Mo_send_83 rfl (lv_at hl 1 rfl) ?_
    refine fw_getr hx hb hts i_Mo hown hK hP (mm_0 (by decide)) (mk_0 0) rfl 7 (by decide) (hts _ L_Mo_32) (fun _ h9 => h9) rfl md_Mo_send_84 ?_
    refine lv_bipush (v := (7 : Int32)) hx hb md_Mo_send_87 (by decide) ?_
    refine lv_aload_n hx hb md_Mo_send_89 rfl (lv_at hl 1 rfl) ?_
    refine fw_geti hx hb hts i_Mo hown hK hP (mm_0 (by decide)) (mk_0 0) rfl 10 (by decide) (hts _ L_Mo_170) (fun _ h9 => h9) rfl md_Mo_send_90 ?_
    have h_16 : vp_in (v14 0 0 10) 17 := hI.1 0 0 10
    have h_17 : vp_in (v14 0 0 10) 16 := (by rw [ev14, fw_up_c (c := 7) (c' := 0) (by decide)]; exact h_13)
    refine lv_imul hx hb md_Mo_send_93 ?_
    refine lv_iload hx hb md_Mo_send_94 (lv_at hl 0 rfl) ?_
    refine lv_iadd hx hb md_Mo_send_96 ?_
    refine lv_aload_n hx hb md_Mo_send_97 rfl (lv_at hl 1 rfl) ?_
    refine fw_getr hx hb hts i_Mo hown hK hP (mm_0 (by decide)) (mk_0 0) rfl 8 (by decide) (hts _ L_Mo_35) (fun _ h9 => h9) rfl md_Mo_send_98 ?_
    refine lv_iload hx hb md_Mo_send_101 (lv_at hl 0 rfl) ?_
    refine fw_iald hx hb hK hP (mm_9 (by decide)) (mk_9 0) 0 rfl (j := 0) (by decide) (fw_inc (by decide)) md_Mo_send_103 ?_
    refine fw_iast hx hb hK hD hP hS (mm_8 (by decide)) (mk_8 0) 0 rfl (j := (((7 : Int32) * (v14 0 0 10)) + (0 : Int32)).toNatClampNeg) rfl (fw_inm (fw_inadd2 (n := 106) (m := 1) (t := 106) (fw_inmul (c := (7 : Int32)) (k := 7) (n := 16) (m := 106) rfl h_17 (by decide) (by decide)) (fw_inc (by decide)) (by decide)) (by decide)) md_Mo_send_104 (fun v18 H locs ev18 hP hS => ?_)
    have hI : mI0 b v18 := by rw [ev18]; exact mI0_up hI trivial trivial
    refine lv_iinc (v := (1 : Int32)) (lv' := [(5, .int (1 : Int32)), (0, .ref (ad 0 0)), (1, .int a1), (2, .int a2), (3, .int a3), (4, .int a4)]) hx hb md_Mo_send_105 hl (k := 0) rfl (by decide) (by decide) rfl (fun ls hl => ?_)
    refine lv_goto (tgt := 76) hx hb md_Mo_send_108 (by decide) ?_
    refine lv_iload hx hb md_Mo_send_76 (lv_at hl 0 rfl) ?_
    refine lv_bipush (v := (7 : Int32)) hx hb md_Mo_send_78 (by decide) ?_
    refine lv_icmp_ge (tgt := 111) hx hb md_Mo_send_80 (by decide) (fun c_19 => absurd c_19 (by decide)) (fun _ => ?_)
    refine lv_aload_n hx hb md_Mo_send_83 rfl (lv_at hl 1 rfl) ?_
    refine fw_getr hx hb hts i_Mo hown hK hP (mm_0 (by decide)) (mk_0 0) rfl 7 (by decide) (hts _ L_Mo_32) (fun _ h9 => h9) rfl md_Mo_send_84 ?_
    refine lv_bipush (v := (7 : Int32)) hx hb md_Mo_send_87 (by decide) ?_
    refine lv_aload_n hx hb md_Mo_send_89 rfl (lv_at hl 1 rfl) ?_
    refine fw_geti hx hb hts i_Mo hown hK hP (mm_0 (by decide)) (mk_0 0) rfl 10 (by decide) (hts _ L_Mo_170) (fun _ h9 => h9) rfl md_Mo_send_90 ?_
    have h_20 : vp_in (v18 0 0 10) 17 := hI.1 0 0 10
    have h_21 : vp_in (v18 0 0 10) 16 := (by rw [ev18, fw_up_c (c := 8) (c' := 0) (by decide)]; exact h_17)
    refine lv_imul hx hb md_Mo_send_93 ?_
    refine lv_iload hx hb md_Mo_send_94 (lv_at hl 0 rfl) ?_
    refine lv_iadd hx hb md_Mo_send_96 ?_
    refine lv_aload_n hx hb md_Mo_send_97 rfl (lv_at hl 1 rfl) ?_
    refine fw_getr hx hb hts i_Mo hown hK hP (mm_0 (by decide)) (mk_0 0) rfl 8 (by decide) (hts _ L_Mo_35) (fun _ h9 => h9) rfl md_Mo_send_98 ?_
    refine lv_iload hx hb md_Mo_send_101 (lv_at hl 0 rfl) ?_
    refine fw_iald hx hb hK hP (mm_9 (by decide)) (mk_9 0) 0 rfl (j := 1) (by decide) (fw_inc (by decide)) md_Mo_send_103 ?_
    refine fw_iast hx hb hK hD hP hS (mm_8 (by decide)) (mk_8 0) 0 rfl (j := (((7 : Int32) * (v18 0 0 10)) + (1 : Int32)).toNatClampNeg) rfl (fw_inp1 (fw_inm (fw_inmul (c := (7 : Int32)) (k := 7) (n := 16) (m := 106) rfl h_21 (by decide) (by decide)) (by decide)) (by decide)) md_Mo_send_104 (fun v22 H locs ev22 hP hS => ?_)
    have hI : mI0 b v22 := by rw [ev22]; exact mI0_up hI trivial trivial
    refine lv_iinc (v := (2 : Int32)) (lv' := [(5, .int (2 : Int32)), (0, .ref (ad 0 0)), (1, .int a1), (2, .int a2), (3, .int a3), (4, .int a4)]) hx hb md_Mo_send_105 hl (k := 0) rfl (by decide) (by decide) rfl (fun ls hl => ?_)
    refine lv_goto (tgt := 76) hx hb md_Mo_send_108 (by decide) ?_
    refine lv_iload hx hb md_Mo_send_76 (lv_at hl 0 rfl) ?_
    refine lv_bipush (v := (7 : Int32)) hx hb md_Mo_send_78 (by decide) ?_
    refine lv_icmp_ge (tgt := 111) hx hb md_Mo_send_80 (by decide) (fun c_23 => absurd c_23 (by decide)) (fun _ => ?_)
    refine lv_aload_n hx hb md_Mo_send_83 rfl (lv_at hl 1 rfl) ?_
    refine fw_getr hx hb hts i_Mo hown hK hP (mm_0 (by decide)) (mk_0 0) rfl 7 (by decide) (hts _ L_Mo_32) (fun _ h9 => h9) rfl md_Mo_send_84 ?_
    refine lv_bipush (v := (7 : Int32)) hx hb md_Mo_send_87 (by decide) ?_
    refine lv_aload_n hx hb md_Mo_send_89 rfl (lv_at hl 1 rfl) ?_
    refine fw_geti hx hb hts i_Mo hown hK hP (mm_0 (by decide)) (mk_0 0) rfl 10 (by decide) (hts _ L_Mo_170) (fun _ h9 => h9) rfl md_Mo_send_90 ?_
    have h_24 : vp_in (v22 0 0 10) 17 := hI.1 0 0 10
    have h_25 : vp_in (v22 0 0 10) 16 := (by rw [ev22, fw_up_c (c := 8) (c' := 0) (by decide)]; exact h_21)
    refine lv_imul hx hb md_Mo_send_93 ?_
    refine lv_iload hx hb md_Mo_send_94 (lv_at hl 0 rfl) ?_
    refine lv_iadd hx hb md_Mo_send_96 ?_
    refine lv_aload_n hx hb md_Mo_send_97 rfl (lv_at hl 1 rfl) ?_
    refine fw_getr hx hb hts i_Mo hown hK hP (mm_0 (by decide)) (mk_0 0) rfl 8 (by decide) (hts _ L_Mo_35) (fun _ h9 => h9) rfl md_Mo_send_98 ?_
    refine lv_iload hx hb md_Mo_send_101 (lv_at hl 0 rfl) ?_
    refine fw_iald hx hb hK hP (mm_9 (by decide)) (mk_9 0) 0 rfl (j := 2) (by decide) (fw_inc (by decide)) md_Mo_send_103 ?_
    refine fw_iast hx hb hK hD hP hS (mm_8 (by decide)) (mk_8 0) 0 rfl (j := (((7 : Int32) * (v22 0 0 10)) + (2 : Int32)).toNatClampNeg) rfl (fw_inm (fw_inadd2 (n := 106) (m := 3) (t := 108) (fw_inmul (c := (7 : Int32)) (k := 7) (n := 16) (m := 106) rfl h_25 (by decide) (by decide)) (fw_inc (by decide)) (by decide)) (by decide)) md_Mo_send_104 (fun v26 H locs ev26 hP hS => ?_)
    have hI : mI0 b v26 := by rw [ev26]; exact mI0_up hI trivial trivial
    refine lv_iinc (v := (3 : Int32)) (lv' := [(5, .int (3 : Int32)), (0, .ref (ad 0 0)), (1, .int a1), (2, .int a2), (3, .int a3), (4, .int a4)]) hx hb md_Mo_send_105 hl (k := 0) rfl (by decide) (by decide) rfl (fun ls hl => ?_)
    refine lv_goto (tgt := 76) hx hb md_Mo_send_108 (by decide) ?_
    refine lv_iload hx hb md_Mo_send_76 (lv_at hl 0 rfl) ?_
    refine lv_bipush (v := (7 : Int32)) hx hb md_Mo_send_78 (by decide) ?_
    refine lv_icmp_ge (tgt := 111) hx hb md_Mo_send_80 (by decide) (fun c_27 => absurd c_27 (by decide)) (fun _ => ?_)
    refine lv_aload_n hx hb md_Mo_send_83 rfl (lv_at hl 1 rfl) ?_
    refine fw_getr hx hb hts i_Mo hown hK hP (mm_0 (by decide)) (mk_0 0) rfl 7 (by decide) (hts _ L_Mo_32) (fun _ h9 => h9) rfl md_Mo_send_84 ?_
    refine lv_bipush (v := (7 : Int32)) hx hb md_Mo_send_87 (by decide) ?_
    refine lv_aload_n hx hb md_Mo_send_89 rfl (lv_at hl 1 rfl) ?_
    refine fw_geti hx hb hts i_Mo hown hK hP (mm_0 (by decide)) (mk_0 0) rfl 10 (by decide) (hts _ L_Mo_170) (fun _ h9 => h9) rfl md_Mo_send_90 ?_
    have h_28 : vp_in (v26 0 0 10) 17 := hI.1 0 0 10
    have h_29 : vp_in (v26 0 0 10) 16 := (by rw [ev26, fw_up_c (c := 8) (c' := 0) (by decide)]; exact h_25)
    refine lv_imul hx hb md_Mo_send_93 ?_
    refine lv_iload hx hb md_Mo_send_94 (lv_at hl 0 rfl) ?_
    refine lv_iadd hx hb md_Mo_send_96 ?_
    refine lv_aload_n hx hb md_Mo_send_97 rfl (lv_at hl 1 rfl) ?_
    refine fw_getr hx hb hts i_Mo hown hK hP (mm_0 (by decide)) (mk_0 0) rfl 8 (by decide) (hts _ L_Mo_35) (fun _ h9 => h9) rfl md_Mo_send_98 ?_
    refine lv_iload hx hb md_Mo_send_101 (lv_at hl 0 rfl) ?_
    refine fw_iald hx hb hK hP (mm_9 (by decide)) (mk_9 0) 0 rfl (j := 3) (by decide) (fw_inc (by decide)) md_Mo_send_103 ?_
    refine fw_iast hx hb hK hD hP hS (mm_8 (by decide)) (mk_8 0) 0 rfl (j := (((7 : Int32) * (v26 0 0 10)) + (3 : Int32)).toNatClampNeg) rfl (fw_inm (fw_inadd2 (n := 106) (m := 4) (t := 109) (fw_inmul (c := (7 : Int32)) (k := 7) (n := 16) (m := 106) rfl h_29 (by decide) (by decide)) (fw_inc (by decide)) (by decide)) (by decide)) md_Mo_send_104 (fun v30 H locs ev30 hP hS => ?_)
    have hI : mI0 b v30 := by rw [ev30]; exact mI0_up hI trivial trivial
    refine lv_iinc (v := (4 : Int32)) (lv' := [(5, .int (4 : Int32)), (0, .ref (ad 0 0)), (1, .int a1), (2, .int a2), (3, .int a3), (4, .int a4)]) hx hb md_Mo_send_105 hl (k := 0) rfl (by decide) (by decide) rfl (fun ls hl => ?_)
    refine lv_goto (tgt := 76) hx hb md_Mo_send_108 (by decide) ?_
    refine lv_iload hx hb md_Mo_send_76 (lv_at hl 0 rfl) ?_
    refine lv_bipush (v := (7 : Int32)) hx hb md_Mo_send_78 (by decide) ?_
    refine lv_icmp_ge (tgt := 111) hx hb md_Mo_send_80 (by decide) (fun c_31 => absurd c_31 (by decide)) (fun _ => ?_)
    refine lv_aload_n hx hb md_Mo_send_83 rfl (lv_at hl 1 rfl) ?_
    refine fw_getr hx hb hts i_Mo hown hK hP (mm_0 (by decide)) (mk_0 0) rfl 7 (by decide) (hts _ L_Mo_32) (fun _ h9 => h9) rfl md_Mo_send_84 ?_
    refine lv_bipush (v := (7 : Int32)) hx hb md_Mo_send_87 (by decide) ?_
    refine lv_aload_n hx hb md_Mo_send_89 rfl (lv_at hl 1 rfl) ?_
    refine fw_geti hx hb hts i_Mo hown hK hP (mm_0 (by decide)) (mk_0 0) rfl 10 (by decide) (hts _ L_Mo_170) (fun _ h9 => h9) rfl md_Mo_send_90 ?_
    have h_32 : vp_in (v30 0 0 10) 17 := hI.1 0 0 10
    have h_33 : vp_in (v30 0 0 10) 16 := (by rw [ev30, fw_up_c (c := 8) (c' := 0) (by decide)]; exact h_29)
    refine lv_imul hx hb md_Mo_send_93 ?_
    refine lv_iload hx hb md_Mo_send_94 (lv_at hl 0 rfl) ?_
    refine lv_iadd hx hb md_Mo_send_96 ?_
    refine lv_aload_n hx hb md_Mo_send_97 rfl (lv_at hl 1 rfl) ?_
    refine fw_getr hx hb hts i_Mo hown hK hP (mm_0 (by decide)) (mk_0 0) rfl 8 (by decide) (hts _ L_Mo_35) (fun _ h9 => h9) rfl md_Mo_send_98 ?_
    refine lv_iload hx hb md_Mo_send_101 (lv_at hl 0 rfl) ?_
    refine fw_iald hx hb hK hP (mm_9 (by decide)) (mk_9 0) 0 rfl (j := 4) (by decide) (fw_inc (by decide)) md_Mo_send_103 ?_
    refine fw_iast hx hb hK hD hP hS (mm_8 (by decide)) (mk_8 0) 0 rfl (j := (((7 : Int32) * (v30 0 0 10)) + (4 : Int32)).toNatClampNeg) rfl (fw_inm (fw_inadd2 (n := 106) (m := 5) (t := 110) (fw_inmul (c := (7 : Int32)) (k := 7) (n := 16) (m := 106) rfl h_33 (by decide) (by decide)) (fw_inc (by decide)) (by decide)) (by decide)) md_Mo_send_104 (fun v34 H locs ev34 hP hS => ?_)
    have hI : mI0 b v34 := by rw [ev34]; exact mI0_up hI trivial trivial
    refine lv_iinc (v := (5 : Int32)) (lv' := [(5, .int (5 : Int32)), (0, .ref (ad 0 0)), (1, .int a1), (2, .int a2), (3, .int a3), (4, .int a4)]) hx hb md_Mo_send_105 hl (k := 0) rfl (by decide) (by decide) rfl (fun ls hl => ?_)
    refine lv_goto (tgt := 76) hx hb md_Mo_send_108 (by decide) ?_
    refine lv_iload hx hb md_Mo_send_76 (lv_at hl 0 rfl) ?_
    refine lv_bipush (v := (7 : Int32)) hx hb md_Mo_send_78 (by decide) ?_
    refine lv_icmp_ge (tgt := 111) hx hb md_Mo_send_80 (by decide) (fun c_35 => absurd c_35 (by decide)) (fun _ => ?_)
    refine lv_aload_n hx hb md_Mo_send_83 rfl (lv_at hl 1 rfl) ?_
    refine fw_getr hx hb hts i_Mo hown hK hP (mm_0 (by decide)) (mk_0 0) rfl 7 (by decide) (hts _ L_Mo_32) (fun _ h9 => h9) rfl md_Mo_send_84 ?_
    refine lv_bipush (v := (7 : Int32)) hx hb md_Mo_send_87 (by decide) ?_
    refine lv_aload_n hx hb md_Mo_send_89 rfl (lv_at hl 1 rfl) ?_
    refine fw_geti hx hb hts i_Mo hown hK hP (mm_0 (by decide)) (mk_0 0) rfl 10 (by decide) (hts _ L_Mo_170) (fun _ h9 => h9) rfl md_Mo_send_90 ?_
    have h_36 : vp_in (v34 0 0 10) 17 := hI.1 0 0 10
    have h_37 : vp_in (v34 0 0 10) 16 := (by rw [ev34, fw_up_c (c := 8) (c' := 0) (by decide)]; exact h_33)
    refine lv_imul hx hb md_Mo_send_93 ?_
    refine lv_iload hx hb md_Mo_send_94 (lv_at hl 0 rfl) ?_
    refine lv_iadd hx hb md_Mo_send_96 ?_
    refine lv_aload_n hx hb md_Mo_send_97 rfl (lv_at hl 1 rfl) ?_
    refine fw_getr hx hb hts i_Mo hown hK hP (mm_0 (by decide)) (mk_0 0) rfl 8 (by decide) (hts _ L_Mo_35) (fun _ h9 => h9) rfl md_Mo_send_98 ?_
    refine lv_iload hx hb md_Mo_send_101 (lv_at hl 0 rfl) ?_
    refine fw_iald hx hb hK hP (mm_9 (by decide)) (mk_9 0) 0 rfl (j := 5) (by decide) (fw_inc (by decide)) md_Mo_send_103 ?_
    refine fw_iast hx hb hK hD hP hS (mm_8 (by decide)) (mk_8 0) 0 rfl (j := (((7 : Int32) * (v34 0 0 10)) + (5 : Int32)).toNatClampNeg) rfl (fw_inm (fw_inadd2 (n := 106) (m := 6) (t := 111) (fw_inmul (c := (7 : Int32)) (k := 7) (n := 16) (m := 106) rfl h_37 (by decide) (by decide)) (fw_inc (by decide)) (by decide)) (by decide)) md_Mo_send_104 (fun v38 H locs ev38 hP hS => ?_)
    have hI : mI0 b v38 := by rw [ev38]; exact mI0_up hI trivial trivial
    refine lv_iinc (v := (6 : Int32)) (lv' := [(5, .int (6 : Int32)), (0, .ref (ad 0 0)), (1, .int a1), (2, .int a2), (3, .int a3), (4, .int a4)]) hx hb md_Mo_send_105 hl (k := 0) rfl (by decide) (by decide) rfl (fun ls hl => ?_)
    refine lv_goto (tgt := 76) hx hb md_Mo_send_108 (by decide) ?_
    refine lv_iload hx hb md_Mo_send_76 (lv_at hl 0 rfl) ?_
    refine lv_bipush (v := (7 : Int32)) hx hb md_Mo_send_78 (by decide) ?_
    refine lv_icmp_ge (tgt := 111) hx hb md_Mo_send_80 (by decide) (fun c_39 => absurd c_39 (by decide)) (fun _ => ?_)
    refine lv_aload_n hx hb md_Mo_send_83 rfl (lv_at hl 1 rfl) ?_
    refine fw_getr hx hb hts i_Mo hown hK hP (mm_0 (by decide)) (mk_0 0) rfl 7 (by decide) (hts _ L_Mo_32) (fun _ h9 => h9) rfl md_Mo_send_84 ?_
    refine lv_bipush (v := (7 : Int32)) hx hb md_Mo_send_87 (by decide) ?_
    refine lv_aload_n hx hb md_Mo_send_89 rfl (lv_at hl 1 rfl) ?_
    refine fw_geti hx hb hts i_Mo hown hK hP (mm_0 (by decide)) (mk_0 0) rfl 10 (by decide) (hts _ L_Mo_170) (fun _ h9 => h9) rfl md_Mo_send_90 ?_
    have h_40 : vp_in (v38 0 0 10) 17 := hI.1 0 0 10
    have h_41 : vp_in (v38 0 0 10) 16 := (by rw [ev38, fw_up_c (c := 8) (c' := 0) (by decide)]; exact h_37)
    refine lv_imul hx hb md_Mo_send_93 ?_
    refine lv_iload hx hb md_Mo_send_94 (lv_at hl 0 rfl) ?_
    refine lv_iadd hx hb md_Mo_send_96 ?_
    refine lv_aload_n hx hb md_Mo_send_97 rfl (lv_at hl 1 rfl) ?_
    refine fw_getr hx hb hts i_Mo hown hK hP (mm_0 (by decide)) (mk_0 0) rfl 8 (by decide) (hts _ L_Mo_35) (fun _ h9 => h9) rfl md_Mo_send_98 ?_
    refine lv_iload hx hb md_Mo_send_101 (lv_at hl 0 rfl) ?_
    refine fw_iald hx hb hK hP (mm_9 (by decide)) (mk_9 0) 0 rfl (j := 6) (by decide) (fw_inc (by decide)) md_Mo_send_103 ?_
    refine fw_iast hx hb hK hD hP hS (mm_8 (by decide)) (mk_8 0) 0 rfl (j := (((7 : Int32) * (v38 0 0 10)) + (6 : Int32)).toNatClampNeg) rfl (fw_inadd2 (n := 106) (m := 7) (t := 112) (fw_inmul (c := (7 : Int32)) (k := 7) (n := 16) (m := 106) rfl h_41 (by decide) (by decide)) (fw_inc (by decide)) (by decide)) md_Mo_send_104 (fun v42 H locs ev42 hP hS => ?_)
    have hI : mI0 b v42 := by rw [ev42]; exact mI0_up hI trivial trivial
    refine lv_iinc (v := (7 : Int32)) (lv' := [(5, .int (7 : Int32)), (0, .ref (ad 0 0)), (1, .int a1), (2, .int a2), (3, .int a3), (4, .int a4)]) hx hb md_Mo_send_105 hl (k := 0) rfl (by decide) (by decide) rfl (fun ls hl => ?_)
    refine lv_goto (tgt := 76) hx hb md_Mo_send_108 (by decide) ?_
    refine lv_iload hx hb md_Mo_send_76 (lv_at hl 0 rfl) ?_
    refine lv_bipush (v := (7 : Int32)) hx hb md_Mo_send_78 (by decide) ?_
    refine lv_icmp_ge (tgt := 111) hx hb md_Mo_send_80 (by decide) (fun _ => ?_) (fun c_43 => absurd (by decide) c_43)
    refine lv_aload_n hx hb md_Mo_send_111 rfl (lv_at hl 1 rfl) ?_
    refine lv_dup hx hb md_Mo_send_112 rfl ?_
    refine fw_geti hx hb hts i_Mo hown hK hP (mm_0 (by decide)) (mk_0 0) rfl 10 (by decide) (hts _ L_Mo_170) (fun _ h9 => h9) rfl md_Mo_send_113 ?_
    have h_44 : vp_in (v42 0 0 10) 17 := hI.1 0 0 10
    have h_45 : vp_in (v42 0 0 10) 16 := (by rw [ev42, fw_up_c (c := 8) (c' := 0) (by decide)]; exact h_41)
    refine lv_iconst (v := (1 : Int32)) hx hb md_Mo_send_116 (by decide) ?_
    refine lv_iadd hx hb md_Mo_send_117 ?_
    refine fw_puti hx hb hts i_Mo t_Mo t_Mo_ok n_Mo hown hK hD hP hS (mm_0 (by decide)) (mk_0 0) rfl 10 (by decide) (hts _ L_Mo_170) (fun _ h9 => h9) rfl fw_pdI rfl rfl rfl md_Mo_send_118 (fun v46 H locs ev46 hP hS => ?_)
    have hI : mI0 b v46 := by rw [ev46]; exact mI0_up hI (fw_inp1 h_45 (by decide)) trivial
    refine lv_aload_n hx hb md_Mo_send_121 rfl (lv_at hl 1 rfl) ?_
    refine fw_cv (va_runV (As := []) (rest := []) ⟨hx, hb, hml, hown, hts⟩ (mc_Mo_clear l hD v46 hI ) (mw_Mo_clear hts L_Mo_176 ⟨Nat.le_of_ble_eq_true rfl, Nat.le_of_ble_eq_true rfl⟩) (fw_preV hN hK hP (mm_0 (by decide)) (mk_0 0) rfl) rfl rfl hl.1 rfl (lv_room (Nat.le_of_ble_eq_true rfl)) md_Mo_send_122 ⟨Nat.le_of_ble_eq_true rfl, Nat.le_of_ble_eq_true rfl⟩) hS (fun v47 H locs ev47 hI hP hS => ?_)
    have hf9 : v47 = mf_Mo_send v0 a1 a2 a3 a4 := (by subst ev1 ev5 ev8 ev11 ev14 ev18 ev22 ev26 ev30 ev34 ev38 ev42 ev46 ev47; simp only [mf_Mo_send, if_neg c_3])
    exact fw_vret hx hb hr hlocks hS hP (by rw [hf9]; exact mI_send hIF hq0 hq1 hq2 (by rw [← hf9]; exact hI)) md_Mo_send_125 hf9
  · refine lv_aload_n hx hb md_Mo_send_19 rfl (lv_at hl 0 rfl) ?_
    refine lv_dup hx hb md_Mo_send_20 rfl ?_
    refine fw_geti hx hb hts i_Mo hown hK hP (mm_0 (by decide)) (mk_0 0) rfl 51 (by decide) (hts _ L_Mo_173) (fun _ h9 => h9) rfl md_Mo_send_21 ?_
    refine lv_iconst (v := (1 : Int32)) hx hb md_Mo_send_24 (by decide) ?_
    refine lv_iadd hx hb md_Mo_send_25 ?_
    refine fw_puti hx hb hts i_Mo t_Mo t_Mo_ok n_Mo hown hK hD hP hS (mm_0 (by decide)) (mk_0 0) rfl 51 (by decide) (hts _ L_Mo_173) (fun _ h9 => h9) rfl fw_pdI rfl rfl rfl md_Mo_send_26 (fun v48 H locs ev48 hP hS => ?_)
    have hI : mI0 b v48 := by rw [ev48]; exact mI0_up hI trivial trivial
    refine lv_goto (tgt := 121) hx hb md_Mo_send_29 (by decide) ?_
    refine lv_aload_n hx hb md_Mo_send_121 rfl (lv_at hl 0 rfl) ?_
    refine fw_cv (va_runV (As := []) (rest := []) ⟨hx, hb, hml, hown, hts⟩ (mc_Mo_clear l hD v48 hI ) (mw_Mo_clear hts L_Mo_176 ⟨Nat.le_of_ble_eq_true rfl, Nat.le_of_ble_eq_true rfl⟩) (fw_preV hN hK hP (mm_0 (by decide)) (mk_0 0) rfl) rfl rfl hl.1 rfl (lv_room (Nat.le_of_ble_eq_true rfl)) md_Mo_send_122 ⟨Nat.le_of_ble_eq_true rfl, Nat.le_of_ble_eq_true rfl⟩) hS (fun v49 H locs ev49 hI hP hS => ?_)
    have hf9 : v49 = mf_Mo_send v0 a1 a2 a3 a4 := (by subst ev1 ev48 ev49; simp only [mf_Mo_send, if_pos c_3])
    exact fw_vret hx hb hr hlocks hS hP (by rw [hf9]; exact mI_send hIF hq0 hq1 hq2 (by rw [← hf9]; exact hI)) md_Mo_send_125 hf9
def mf_Mo_move (v0 : fw_V) (a1 : Int32) (a2 : Int32) : fw_V :=
  let v1 := fw_up v0 4 0 (a2.toNatClampNeg) (v0 4 0 a1.toNatClampNeg)
  let v2 := fw_up v1 5 0 (a2.toNatClampNeg) (v1 5 0 a1.toNatClampNeg)
  let v3 := fw_up v2 6 0 (a2.toNatClampNeg) (v2 6 0 a1.toNatClampNeg)
  let v4 := fw_up v3 7 0 (a2.toNatClampNeg) (v3 7 0 a1.toNatClampNeg)
  let v6 := fw_up v4 8 0 ((((7 : Int32) * a2) + (0 : Int32)).toNatClampNeg) (v4 8 0 (((7 : Int32) * a1) + (0 : Int32)).toNatClampNeg)
  let v8 := fw_up v6 8 0 ((((7 : Int32) * a2) + (1 : Int32)).toNatClampNeg) (v6 8 0 (((7 : Int32) * a1) + (1 : Int32)).toNatClampNeg)
  let v10 := fw_up v8 8 0 ((((7 : Int32) * a2) + (2 : Int32)).toNatClampNeg) (v8 8 0 (((7 : Int32) * a1) + (2 : Int32)).toNatClampNeg)
  let v12 := fw_up v10 8 0 ((((7 : Int32) * a2) + (3 : Int32)).toNatClampNeg) (v10 8 0 (((7 : Int32) * a1) + (3 : Int32)).toNatClampNeg)
  let v14 := fw_up v12 8 0 ((((7 : Int32) * a2) + (4 : Int32)).toNatClampNeg) (v12 8 0 (((7 : Int32) * a1) + (4 : Int32)).toNatClampNeg)
  let v16 := fw_up v14 8 0 ((((7 : Int32) * a2) + (5 : Int32)).toNatClampNeg) (v14 8 0 (((7 : Int32) * a1) + (5 : Int32)).toNatClampNeg)
  let v18 := fw_up v16 8 0 ((((7 : Int32) * a2) + (6 : Int32)).toNatClampNeg) (v16 8 0 (((7 : Int32) * a1) + (6 : Int32)).toNatClampNeg)
  v18

theorem mI_move {b : Nat} {v : fw_V} {a1 a2 : Int32} (h : mI b v) (h1 : vp_in a1 16) (h2 : vp_in a2 16) (h0 : mI0 b (mf_Mo_move v a1 a2)) : mI b (mf_Mo_move v a1 a2) := by
  refine h0.to (fun j hj => ?_)
  obtain ⟨m, hm, em⟩ := vp_in_of h1 (by decide)
  obtain ⟨n, hn, en⟩ := vp_in_of h2 (by decide)
  have e7 : ∀ (z i : Nat), z < 16 → i < 7 → (((7 : Int32) * nI z) + nI i).toNatClampNeg = 7 * z + i := by
    intro z i hz hi
    show ((nI 7 * nI z) + nI i).toNatClampNeg = 7 * z + i
    rw [pk_mul, nI_add, nI_clamp (by omega)]
  have cm : (nI m).toNatClampNeg = m := nI_clamp (by omega)
  have cn : (nI n).toNatClampNeg = n := nI_clamp (by omega)
  have y0 : (((7 : Int32) * nI m) + (0 : Int32)).toNatClampNeg = 7 * m + 0 := e7 m 0 hm (by decide)
  have y1 : (((7 : Int32) * nI m) + (1 : Int32)).toNatClampNeg = 7 * m + 1 := e7 m 1 hm (by decide)
  have y2 : (((7 : Int32) * nI m) + (2 : Int32)).toNatClampNeg = 7 * m + 2 := e7 m 2 hm (by decide)
  have y3 : (((7 : Int32) * nI m) + (3 : Int32)).toNatClampNeg = 7 * m + 3 := e7 m 3 hm (by decide)
  have y4 : (((7 : Int32) * nI m) + (4 : Int32)).toNatClampNeg = 7 * m + 4 := e7 m 4 hm (by decide)
  have y5 : (((7 : Int32) * nI m) + (5 : Int32)).toNatClampNeg = 7 * m + 5 := e7 m 5 hm (by decide)
  have y6 : (((7 : Int32) * nI m) + (6 : Int32)).toNatClampNeg = 7 * m + 6 := e7 m 6 hm (by decide)
  have x0 : (((7 : Int32) * nI n) + (0 : Int32)).toNatClampNeg = 7 * n + 0 := e7 n 0 hn (by decide)
  have x1 : (((7 : Int32) * nI n) + (1 : Int32)).toNatClampNeg = 7 * n + 1 := e7 n 1 hn (by decide)
  have x2 : (((7 : Int32) * nI n) + (2 : Int32)).toNatClampNeg = 7 * n + 2 := e7 n 2 hn (by decide)
  have x3 : (((7 : Int32) * nI n) + (3 : Int32)).toNatClampNeg = 7 * n + 3 := e7 n 3 hn (by decide)
  have x4 : (((7 : Int32) * nI n) + (4 : Int32)).toNatClampNeg = 7 * n + 4 := e7 n 4 hn (by decide)
  have x5 : (((7 : Int32) * nI n) + (5 : Int32)).toNatClampNeg = 7 * n + 5 := e7 n 5 hn (by decide)
  have x6 : (((7 : Int32) * nI n) + (6 : Int32)).toNatClampNeg = 7 * n + 6 := e7 n 6 hn (by decide)
  have f4 : ∀ k, mf_Mo_move v a1 a2 4 0 k = if k = n then v 4 0 m else v 4 0 k := by
    intro k
    unfold mf_Mo_move
    try dsimp only
    simp [fw_up, em, en, cm, cn]
  have f6 : ∀ k, mf_Mo_move v a1 a2 6 0 k = if k = n then v 6 0 m else v 6 0 k := by
    intro k
    unfold mf_Mo_move
    try dsimp only
    simp [fw_up, em, en, cm, cn]
  have g8 : ∀ i, i < 3 → mf_Mo_move v a1 a2 8 0 (7 * n + i) = v 8 0 (7 * m + i) := by
    intro i hi
    by_cases hmn : m = n
    · subst hmn
      unfold mf_Mo_move
      try dsimp only
      simp only [fw_up, em, en, cm, cn, x0, x1, x2, x3, x4, x5, x6]
      rcases (show i = 0 ∨ i = 1 ∨ i = 2 by omega) with rfl | rfl | rfl <;> simp
    · unfold mf_Mo_move
      try dsimp only
      simp only [fw_up, em, en, cm, cn, x0, x1, x2, x3, x4, x5, x6, y0, y1, y2, y3, y4, y5, y6]
      have z : ∀ p q : Nat, p < 7 → q < 7 → ¬ (7 * m + p = 7 * n + q) := fun p q hp hq h9 => hmn (by omega)
      rcases (show i = 0 ∨ i = 1 ∨ i = 2 by omega) with rfl | rfl | rfl <;> simp [z] <;> (intros; exfalso; omega)
  have k8 : ∀ i, i < 3 → j ≠ n → mf_Mo_move v a1 a2 8 0 (7 * j + i) = v 8 0 (7 * j + i) := by
    intro i hi hjn
    have z : ∀ q : Nat, q < 7 → ¬ (7 * j + i = 7 * n + q) := fun q hq h9 => hjn (by omega)
    unfold mf_Mo_move
    try dsimp only
    simp only [fw_up, em, en, cm, cn, x0, x1, x2, x3, x4, x5, x6]
    (try simp [z]) <;> (intros; exfalso; omega)
  unfold mFr
  rw [f4, f6]
  by_cases hjn : j = n
  · subst hjn
    rw [if_pos rfl, if_pos rfl, show 7 * j = 7 * j + 0 from rfl, g8 0 (by decide), g8 1 (by decide), g8 2 (by decide)]
    exact h.2.2.2 m hm
  · rw [if_neg hjn, if_neg hjn, show 7 * j = 7 * j + 0 from rfl, k8 0 (by decide) hjn, k8 1 (by decide) hjn, k8 2 (by decide) hjn]
    exact h.2.2.2 j hj

theorem mca_Mo_move {v0 : fw_V} {a1 : Int32} {a2 : Int32} {i k : Nat} : mf_Mo_move v0 a1 a2 10 i k = v0 10 i k := by
  unfold mf_Mo_move
  try dsimp only
  all_goals ((repeat' split) <;> simp [fw_up, fw_row])
theorem mfr_Mo_move {v0 : fw_V} {a1 : Int32} {a2 : Int32} {c : Nat} {i k : Nat} (hc : c ≠ 4 ∧ c ≠ 5 ∧ c ≠ 6 ∧ c ≠ 7 ∧ c ≠ 8) : mf_Mo_move v0 a1 a2 c i k = v0 c i k := by
  unfold mf_Mo_move
  try dsimp only
  all_goals ((repeat' split) <;> simp [fw_up, fw_row, hc])
set_option maxHeartbeats 4000000 in
set_option maxRecDepth 100000 in
theorem mc_Mo_move (l : Launch) {D : va_G} {cA : Nat → ClassId} {ad : Nat → Nat → Nat} (hD : fw_D mCL ad) {b : Nat} (v0 : fw_V) (hI : mI b v0) (a1 : Int32) (a2 : Int32) (hq0 : vp_in a1 16) (hq1 : vp_in a2 16) : Met l my_Mo_move (Cond.code my_Mo_move mb_Mo_move 4 none :: vTB) mrm_Mo_move (fw_Pc vNL D vcls (vtys cA) mCL cA mkd ad v0 [.ref (ad 0 0), .int a1, .int a2]) (fw_Qv D vcls mCL cA mkd ad (mI b) (mf_Mo_move v0 a1 a2)) 0 0 (fw_A mCL ad) := by
  refine Met.ofW (cc := mb_Mo_move) (maxL := 4) (ret := none) (by decide) rfl ?_
  intro p e s m args below meth c s₁ B hml hv
  obtain ⟨rfl, hP, hK, hN⟩ := hv
  have hx := B.exec
  have hb := B.bytes
  have hr := B.returns
  have hts : ∀ w ∈ vTB, w.before ([.ref (ad 0 0), .int a1, .int a2] : List Value).toArray s = true := fun w h => atoms_spec (ws := (Cond.code my_Mo_move mb_Mo_move 4 none :: vTB)) B.pre w (List.mem_cons_of_mem _ h)
  have hown : s.vm.findClass R_Mo = some m.cls := findClass_of_methodNamed B.named
  have hlocks := B.notSynchronized
  have hS : va_S (fw_A mCL ad) s.heap s.heap [] := va_S.rf
  have hIF := hI
  have hI : mI0 b v0 := hI.to0
  skip
  have hl := lv_entry ([.ref (ad 0 0), .int a1, .int a2]) (n := 4) (Nat.le_of_ble_eq_true rfl)
  rw [lg_entry_eq]
  generalize (lg_sl ([.ref (ad 0 0), .int a1, .int a2]) ++ List.replicate (4 - (lg_sl ([.ref (ad 0 0), .int a1, .int a2])).length) Slot.unset).toArray = ls at hl ⊢
  have hl : lv_has ls 4 [(0, .ref (ad 0 0)), (1, .int a1), (2, .int a2)] := hl
  refine lv_aload_n hx hb md_Mo_move_0 rfl (lv_at hl 0 rfl) ?_
  refine fw_getr hx hb hts i_Mo hown hK hP (mm_0 (by decide)) (mk_0 0) rfl 3 (by decide) (hts _ L_Mo_20) (fun _ h9 => h9) rfl md_Mo_move_1 ?_
  refine lv_iload_n hx hb md_Mo_move_4 rfl (lv_at hl 2 rfl) ?_
  refine lv_aload_n hx hb md_Mo_move_5 rfl (lv_at hl 0 rfl) ?_
  refine fw_getr hx hb hts i_Mo hown hK hP (mm_0 (by decide)) (mk_0 0) rfl 3 (by decide) (hts _ L_Mo_20) (fun _ h9 => h9) rfl md_Mo_move_6 ?_
  refine lv_iload_n hx hb md_Mo_move_9 rfl (lv_at hl 1 rfl) ?_
  refine fw_iald hx hb hK hP (mm_4 (by decide)) (mk_4 0) 0 rfl (j := a1.toNatClampNeg) rfl hq0 md_Mo_move_10 ?_
  refine fw_iast hx hb hK hD hP hS (mm_4 (by decide)) (mk_4 0) 0 rfl (j := a2.toNatClampNeg) rfl hq1 md_Mo_move_11 (fun v1 H locs ev1 hP hS => ?_)
  have hI : mI0 b v1 := by rw [ev1]; exact mI0_up hI trivial trivial
  refine lv_aload_n hx hb md_Mo_move_12 rfl (lv_at hl 0 rfl) ?_
  refine fw_getr hx hb hts i_Mo hown hK hP (mm_0 (by decide)) (mk_0 0) rfl 4 (by decide) (hts _ L_Mo_23) (fun _ h9 => h9) rfl md_Mo_move_13 ?_
  refine lv_iload_n hx hb md_Mo_move_16 rfl (lv_at hl 2 rfl) ?_
  refine lv_aload_n hx hb md_Mo_move_17 rfl (lv_at hl 0 rfl) ?_
  refine fw_getr hx hb hts i_Mo hown hK hP (mm_0 (by decide)) (mk_0 0) rfl 4 (by decide) (hts _ L_Mo_23) (fun _ h9 => h9) rfl md_Mo_move_18 ?_
  refine lv_iload_n hx hb md_Mo_move_21 rfl (lv_at hl 1 rfl) ?_
  refine fw_iald hx hb hK hP (mm_5 (by decide)) (mk_5 0) 0 rfl (j := a1.toNatClampNeg) rfl hq0 md_Mo_move_22 ?_
  refine fw_iast hx hb hK hD hP hS (mm_5 (by decide)) (mk_5 0) 0 rfl (j := a2.toNatClampNeg) rfl hq1 md_Mo_move_23 (fun v2 H locs ev2 hP hS => ?_)
  have hI : mI0 b v2 := by rw [ev2]; exact mI0_up hI trivial trivial
  refine lv_aload_n hx hb md_Mo_move_24 rfl (lv_at hl 0 rfl) ?_
  refine fw_getr hx hb hts i_Mo hown hK hP (mm_0 (by decide)) (mk_0 0) rfl 5 (by decide) (hts _ L_Mo_26) (fun _ h9 => h9) rfl md_Mo_move_25 ?_
  refine lv_iload_n hx hb md_Mo_move_28 rfl (lv_at hl 2 rfl) ?_
  refine lv_aload_n hx hb md_Mo_move_29 rfl (lv_at hl 0 rfl) ?_
  refine fw_getr hx hb hts i_Mo hown hK hP (mm_0 (by decide)) (mk_0 0) rfl 5 (by decide) (hts _ L_Mo_26) (fun _ h9 => h9) rfl md_Mo_move_30 ?_
  refine lv_iload_n hx hb md_Mo_move_33 rfl (lv_at hl 1 rfl) ?_
  refine fw_iald hx hb hK hP (mm_6 (by decide)) (mk_6 0) 0 rfl (j := a1.toNatClampNeg) rfl hq0 md_Mo_move_34 ?_
  refine fw_iast hx hb hK hD hP hS (mm_6 (by decide)) (mk_6 0) 0 rfl (j := a2.toNatClampNeg) rfl hq1 md_Mo_move_35 (fun v3 H locs ev3 hP hS => ?_)
  have hI : mI0 b v3 := by rw [ev3]; exact mI0_up hI trivial trivial
  refine lv_aload_n hx hb md_Mo_move_36 rfl (lv_at hl 0 rfl) ?_
  refine fw_getr hx hb hts i_Mo hown hK hP (mm_0 (by decide)) (mk_0 0) rfl 6 (by decide) (hts _ L_Mo_29) (fun _ h9 => h9) rfl md_Mo_move_37 ?_
  refine lv_iload_n hx hb md_Mo_move_40 rfl (lv_at hl 2 rfl) ?_
  refine lv_aload_n hx hb md_Mo_move_41 rfl (lv_at hl 0 rfl) ?_
  refine fw_getr hx hb hts i_Mo hown hK hP (mm_0 (by decide)) (mk_0 0) rfl 6 (by decide) (hts _ L_Mo_29) (fun _ h9 => h9) rfl md_Mo_move_42 ?_
  refine lv_iload_n hx hb md_Mo_move_45 rfl (lv_at hl 1 rfl) ?_
  refine fw_iald hx hb hK hP (mm_7 (by decide)) (mk_7 0) 0 rfl (j := a1.toNatClampNeg) rfl hq0 md_Mo_move_46 ?_
  refine fw_iast hx hb hK hD hP hS (mm_7 (by decide)) (mk_7 0) 0 rfl (j := a2.toNatClampNeg) rfl hq1 md_Mo_move_47 (fun v4 H locs ev4 hP hS => ?_)
  have hI : mI0 b v4 := by rw [ev4]; exact mI0_up hI trivial trivial
  refine lv_iconst (v := (0 : Int32)) hx hb md_Mo_move_48 (by decide) ?_
  refine lv_istore_n (lv' := [(3, .int (0 : Int32)), (0, .ref (ad 0 0)), (1, .int a1), (2, .int a2)]) hx hb md_Mo_move_49 rfl hl (by decide) rfl (fun ls hl => ?_)
  refine lv_iload_n hx hb md_Mo_move_50 rfl (lv_at hl 0 rfl) ?_
  refine lv_bipush (v := (7 : Int32)) hx hb md_Mo_move_51 (by decide) ?_
  refine lv_icmp_ge (tgt := 84) hx hb md_Mo_move_53 (by decide) (fun c_5 => absurd c_5 (by decide)) (fun _ => ?_)
  refine lv_aload_n hx hb md_Mo_move_56 rfl (lv_at hl 1 rfl) ?_
  refine fw_getr hx hb hts i_Mo hown hK hP (mm_0 (by decide)) (mk_0 0) rfl 7 (by decide) (hts _ L_Mo_32) (fun _ h9 => h9) rfl md_Mo_move_57 ?_
  refine lv_bipush (v := (7 : Int32)) hx hb md_Mo_move_60 (by decide) ?_
  refine lv_iload_n hx hb md_Mo_move_62 rfl (lv_at hl 3 rfl) ?_
  refine lv_imul hx hb md_Mo_move_63 ?_
  refine lv_iload_n hx hb md_Mo_move_64 rfl (lv_at hl 0 rfl) ?_
  refine lv_iadd hx hb md_Mo_move_65 ?_
  refine lv_aload_n hx hb md_Mo_move_66 rfl (lv_at hl 1 rfl) ?_
  refine fw_getr hx hb hts i_Mo hown hK hP (mm_0 (by decide)) (mk_0 0) rfl 7 (by decide) (hts _ L_Mo_32) (fun _ h9 => h9) rfl md_Mo_move_67 ?_
  refine lv_bipush (v := (7 : Int32)) hx hb md_Mo_move_70 (by decide) ?_
  refine lv_iload_n hx hb md_Mo_move_72 rfl (lv_at hl 2 rfl) ?_
  refine lv_imul hx hb md_Mo_move_73 ?_
  refine lv_iload_n hx hb md_Mo_move_74 rfl (lv_at hl 0 rfl) ?_
  refine lv_iadd hx hb md_Mo_move_75 ?_
  refine fw_iald hx hb hK hP (mm_8 (by decide)) (mk_8 0) 0 rfl (j := (((7 : Int32) * a1) + (0 : Int32)).toNatClampNeg) rfl (fw_inm (fw_inadd2 (n := 106) (m := 1) (t := 106) (fw_inmul (c := (7 : Int32)) (k := 7) (n := 16) (m := 106) rfl hq0 (by decide) (by decide)) (fw_inc (by decide)) (by decide)) (by decide)) md_Mo_move_76 ?_
  refine fw_iast hx hb hK hD hP hS (mm_8 (by decide)) (mk_8 0) 0 rfl (j := (((7 : Int32) * a2) + (0 : Int32)).toNatClampNeg) rfl (fw_inm (fw_inadd2 (n := 106) (m := 1) (t := 106) (fw_inmul (c := (7 : Int32)) (k := 7) (n := 16) (m := 106) rfl hq1 (by decide) (by decide)) (fw_inc (by decide)) (by decide)) (by decide)) md_Mo_move_77 (fun v6 H locs ev6 hP hS => ?_)
  have hI : mI0 b v6 := by rw [ev6]; exact mI0_up hI trivial trivial
  refine lv_iinc (v := (1 : Int32)) (lv' := [(3, .int (1 : Int32)), (0, .ref (ad 0 0)), (1, .int a1), (2, .int a2)]) hx hb md_Mo_move_78 hl (k := 0) rfl (by decide) (by decide) rfl (fun ls hl => ?_)
  refine lv_goto (tgt := 50) hx hb md_Mo_move_81 (by decide) ?_
  refine lv_iload_n hx hb md_Mo_move_50 rfl (lv_at hl 0 rfl) ?_
  refine lv_bipush (v := (7 : Int32)) hx hb md_Mo_move_51 (by decide) ?_
  refine lv_icmp_ge (tgt := 84) hx hb md_Mo_move_53 (by decide) (fun c_7 => absurd c_7 (by decide)) (fun _ => ?_)
  refine lv_aload_n hx hb md_Mo_move_56 rfl (lv_at hl 1 rfl) ?_
  refine fw_getr hx hb hts i_Mo hown hK hP (mm_0 (by decide)) (mk_0 0) rfl 7 (by decide) (hts _ L_Mo_32) (fun _ h9 => h9) rfl md_Mo_move_57 ?_
  refine lv_bipush (v := (7 : Int32)) hx hb md_Mo_move_60 (by decide) ?_
  refine lv_iload_n hx hb md_Mo_move_62 rfl (lv_at hl 3 rfl) ?_
  refine lv_imul hx hb md_Mo_move_63 ?_
  refine lv_iload_n hx hb md_Mo_move_64 rfl (lv_at hl 0 rfl) ?_
  refine lv_iadd hx hb md_Mo_move_65 ?_
  refine lv_aload_n hx hb md_Mo_move_66 rfl (lv_at hl 1 rfl) ?_
  refine fw_getr hx hb hts i_Mo hown hK hP (mm_0 (by decide)) (mk_0 0) rfl 7 (by decide) (hts _ L_Mo_32) (fun _ h9 => h9) rfl md_Mo_move_67 ?_
  refine lv_bipush (v := (7 : Int32)) hx hb md_Mo_move_70 (by decide) ?_
  refine lv_iload_n hx hb md_Mo_move_72 rfl (lv_at hl 2 rfl) ?_
  refine lv_imul hx hb md_Mo_move_73 ?_
  refine lv_iload_n hx hb md_Mo_move_74 rfl (lv_at hl 0 rfl) ?_
  refine lv_iadd hx hb md_Mo_move_75 ?_
  refine fw_iald hx hb hK hP (mm_8 (by decide)) (mk_8 0) 0 rfl (j := (((7 : Int32) * a1) + (1 : Int32)).toNatClampNeg) rfl (fw_inp1 (fw_inm (fw_inmul (c := (7 : Int32)) (k := 7) (n := 16) (m := 106) rfl hq0 (by decide) (by decide)) (by decide)) (by decide)) md_Mo_move_76 ?_
  refine fw_iast hx hb hK hD hP hS (mm_8 (by decide)) (mk_8 0) 0 rfl (j := (((7 : Int32) * a2) + (1 : Int32)).toNatClampNeg) rfl (fw_inp1 (fw_inm (fw_inmul (c := (7 : Int32)) (k := 7) (n := 16) (m := 106) rfl hq1 (by decide) (by decide)) (by decide)) (by decide)) md_Mo_move_77 (fun v8 H locs ev8 hP hS => ?_)
  have hI : mI0 b v8 := by rw [ev8]; exact mI0_up hI trivial trivial
  refine lv_iinc (v := (2 : Int32)) (lv' := [(3, .int (2 : Int32)), (0, .ref (ad 0 0)), (1, .int a1), (2, .int a2)]) hx hb md_Mo_move_78 hl (k := 0) rfl (by decide) (by decide) rfl (fun ls hl => ?_)
  refine lv_goto (tgt := 50) hx hb md_Mo_move_81 (by decide) ?_
  refine lv_iload_n hx hb md_Mo_move_50 rfl (lv_at hl 0 rfl) ?_
  refine lv_bipush (v := (7 : Int32)) hx hb md_Mo_move_51 (by decide) ?_
  refine lv_icmp_ge (tgt := 84) hx hb md_Mo_move_53 (by decide) (fun c_9 => absurd c_9 (by decide)) (fun _ => ?_)
  refine lv_aload_n hx hb md_Mo_move_56 rfl (lv_at hl 1 rfl) ?_
  refine fw_getr hx hb hts i_Mo hown hK hP (mm_0 (by decide)) (mk_0 0) rfl 7 (by decide) (hts _ L_Mo_32) (fun _ h9 => h9) rfl md_Mo_move_57 ?_
  refine lv_bipush (v := (7 : Int32)) hx hb md_Mo_move_60 (by decide) ?_
  refine lv_iload_n hx hb md_Mo_move_62 rfl (lv_at hl 3 rfl) ?_
  refine lv_imul hx hb md_Mo_move_63 ?_
  refine lv_iload_n hx hb md_Mo_move_64 rfl (lv_at hl 0 rfl) ?_
  refine lv_iadd hx hb md_Mo_move_65 ?_
  refine lv_aload_n hx hb md_Mo_move_66 rfl (lv_at hl 1 rfl) ?_
  refine fw_getr hx hb hts i_Mo hown hK hP (mm_0 (by decide)) (mk_0 0) rfl 7 (by decide) (hts _ L_Mo_32) (fun _ h9 => h9) rfl md_Mo_move_67 ?_
  refine lv_bipush (v := (7 : Int32)) hx hb md_Mo_move_70 (by decide) ?_
  refine lv_iload_n hx hb md_Mo_move_72 rfl (lv_at hl 2 rfl) ?_
  refine lv_imul hx hb md_Mo_move_73 ?_
  refine lv_iload_n hx hb md_Mo_move_74 rfl (lv_at hl 0 rfl) ?_
  refine lv_iadd hx hb md_Mo_move_75 ?_
  refine fw_iald hx hb hK hP (mm_8 (by decide)) (mk_8 0) 0 rfl (j := (((7 : Int32) * a1) + (2 : Int32)).toNatClampNeg) rfl (fw_inm (fw_inadd2 (n := 106) (m := 3) (t := 108) (fw_inmul (c := (7 : Int32)) (k := 7) (n := 16) (m := 106) rfl hq0 (by decide) (by decide)) (fw_inc (by decide)) (by decide)) (by decide)) md_Mo_move_76 ?_
  refine fw_iast hx hb hK hD hP hS (mm_8 (by decide)) (mk_8 0) 0 rfl (j := (((7 : Int32) * a2) + (2 : Int32)).toNatClampNeg) rfl (fw_inm (fw_inadd2 (n := 106) (m := 3) (t := 108) (fw_inmul (c := (7 : Int32)) (k := 7) (n := 16) (m := 106) rfl hq1 (by decide) (by decide)) (fw_inc (by decide)) (by decide)) (by decide)) md_Mo_move_77 (fun v10 H locs ev10 hP hS => ?_)
  have hI : mI0 b v10 := by rw [ev10]; exact mI0_up hI trivial trivial
  refine lv_iinc (v := (3 : Int32)) (lv' := [(3, .int (3 : Int32)), (0, .ref (ad 0 0)), (1, .int a1), (2, .int a2)]) hx hb md_Mo_move_78 hl (k := 0) rfl (by decide) (by decide) rfl (fun ls hl => ?_)
  refine lv_goto (tgt := 50) hx hb md_Mo_move_81 (by decide) ?_
  refine lv_iload_n hx hb md_Mo_move_50 rfl (lv_at hl 0 rfl) ?_
  refine lv_bipush (v := (7 : Int32)) hx hb md_Mo_move_51 (by decide) ?_
  refine lv_icmp_ge (tgt := 84) hx hb md_Mo_move_53 (by decide) (fun c_11 => absurd c_11 (by decide)) (fun _ => ?_)
  refine lv_aload_n hx hb md_Mo_move_56 rfl (lv_at hl 1 rfl) ?_
  refine fw_getr hx hb hts i_Mo hown hK hP (mm_0 (by decide)) (mk_0 0) rfl 7 (by decide) (hts _ L_Mo_32) (fun _ h9 => h9) rfl md_Mo_move_57 ?_
  refine lv_bipush (v := (7 : Int32)) hx hb md_Mo_move_60 (by decide) ?_
  refine lv_iload_n hx hb md_Mo_move_62 rfl (lv_at hl 3 rfl) ?_
  refine lv_imul hx hb md_Mo_move_63 ?_
  refine lv_iload_n hx hb md_Mo_move_64 rfl (lv_at hl 0 rfl) ?_
  refine lv_iadd hx hb md_Mo_move_65 ?_
  refine lv_aload_n hx hb md_Mo_move_66 rfl (lv_at hl 1 rfl) ?_
  refine fw_getr hx hb hts i_Mo hown hK hP (mm_0 (by decide)) (mk_0 0) rfl 7 (by decide) (hts _ L_Mo_32) (fun _ h9 => h9) rfl md_Mo_move_67 ?_
  refine lv_bipush (v := (7 : Int32)) hx hb md_Mo_move_70 (by decide) ?_
  refine lv_iload_n hx hb md_Mo_move_72 rfl (lv_at hl 2 rfl) ?_
  refine lv_imul hx hb md_Mo_move_73 ?_
  refine lv_iload_n hx hb md_Mo_move_74 rfl (lv_at hl 0 rfl) ?_
  refine lv_iadd hx hb md_Mo_move_75 ?_
  refine fw_iald hx hb hK hP (mm_8 (by decide)) (mk_8 0) 0 rfl (j := (((7 : Int32) * a1) + (3 : Int32)).toNatClampNeg) rfl (fw_inm (fw_inadd2 (n := 106) (m := 4) (t := 109) (fw_inmul (c := (7 : Int32)) (k := 7) (n := 16) (m := 106) rfl hq0 (by decide) (by decide)) (fw_inc (by decide)) (by decide)) (by decide)) md_Mo_move_76 ?_
  refine fw_iast hx hb hK hD hP hS (mm_8 (by decide)) (mk_8 0) 0 rfl (j := (((7 : Int32) * a2) + (3 : Int32)).toNatClampNeg) rfl (fw_inm (fw_inadd2 (n := 106) (m := 4) (t := 109) (fw_inmul (c := (7 : Int32)) (k := 7) (n := 16) (m := 106) rfl hq1 (by decide) (by decide)) (fw_inc (by decide)) (by decide)) (by decide)) md_Mo_move_77 (fun v12 H locs ev12 hP hS => ?_)
  have hI : mI0 b v12 := by rw [ev12]; exact mI0_up hI trivial trivial
  refine lv_iinc (v := (4 : Int32)) (lv' := [(3, .int (4 : Int32)), (0, .ref (ad 0 0)), (1, .int a1), (2, .int a2)]) hx hb md_Mo_move_78 hl (k := 0) rfl (by decide) (by decide) rfl (fun ls hl => ?_)
  refine lv_goto (tgt := 50) hx hb md_Mo_move_81 (by decide) ?_
  refine lv_iload_n hx hb md_Mo_move_50 rfl (lv_at hl 0 rfl) ?_
  refine lv_bipush (v := (7 : Int32)) hx hb md_Mo_move_51 (by decide) ?_
  refine lv_icmp_ge (tgt := 84) hx hb md_Mo_move_53 (by decide) (fun c_13 => absurd c_13 (by decide)) (fun _ => ?_)
  refine lv_aload_n hx hb md_Mo_move_56 rfl (lv_at hl 1 rfl) ?_
  refine fw_getr hx hb hts i_Mo hown hK hP (mm_0 (by decide)) (mk_0 0) rfl 7 (by decide) (hts _ L_Mo_32) (fun _ h9 => h9) rfl md_Mo_move_57 ?_
  refine lv_bipush (v := (7 : Int32)) hx hb md_Mo_move_60 (by decide) ?_
  refine lv_iload_n hx hb md_Mo_move_62 rfl (lv_at hl 3 rfl) ?_
  refine lv_imul hx hb md_Mo_move_63 ?_
  refine lv_iload_n hx hb md_Mo_move_64 rfl (lv_at hl 0 rfl) ?_
  refine lv_iadd hx hb md_Mo_move_65 ?_
  refine lv_aload_n hx hb md_Mo_move_66 rfl (lv_at hl 1 rfl) ?_
  refine fw_getr hx hb hts i_Mo hown hK hP (mm_0 (by decide)) (mk_0 0) rfl 7 (by decide) (hts _ L_Mo_32) (fun _ h9 => h9) rfl md_Mo_move_67 ?_
  refine lv_bipush (v := (7 : Int32)) hx hb md_Mo_move_70 (by decide) ?_
  refine lv_iload_n hx hb md_Mo_move_72 rfl (lv_at hl 2 rfl) ?_
  refine lv_imul hx hb md_Mo_move_73 ?_
  refine lv_iload_n hx hb md_Mo_move_74 rfl (lv_at hl 0 rfl) ?_
  refine lv_iadd hx hb md_Mo_move_75 ?_
  refine fw_iald hx hb hK hP (mm_8 (by decide)) (mk_8 0) 0 rfl (j := (((7 : Int32) * a1) + (4 : Int32)).toNatClampNeg) rfl (fw_inm (fw_inadd2 (n := 106) (m := 5) (t := 110) (fw_inmul (c := (7 : Int32)) (k := 7) (n := 16) (m := 106) rfl hq0 (by decide) (by decide)) (fw_inc (by decide)) (by decide)) (by decide)) md_Mo_move_76 ?_
  refine fw_iast hx hb hK hD hP hS (mm_8 (by decide)) (mk_8 0) 0 rfl (j := (((7 : Int32) * a2) + (4 : Int32)).toNatClampNeg) rfl (fw_inm (fw_inadd2 (n := 106) (m := 5) (t := 110) (fw_inmul (c := (7 : Int32)) (k := 7) (n := 16) (m := 106) rfl hq1 (by decide) (by decide)) (fw_inc (by decide)) (by decide)) (by decide)) md_Mo_move_77 (fun v14 H locs ev14 hP hS => ?_)
  have hI : mI0 b v14 := by rw [ev14]; exact mI0_up hI trivial trivial
  refine lv_iinc (v := (5 : Int32)) (lv' := [(3, .int (5 : Int32)), (0, .ref (ad 0 0)), (1, .int a1), (2, .int a2)]) hx hb md_Mo_move_78 hl (k := 0) rfl (by decide) (by decide) rfl (fun ls hl => ?_)
  refine lv_goto (tgt := 50) hx hb md_Mo_move_81 (by decide) ?_
  refine lv_iload_n hx hb md_Mo_move_50 rfl (lv_at hl 0 rfl) ?_
  refine lv_bipush (v := (7 : Int32)) hx hb md_Mo_move_51 (by decide) ?_
  refine lv_icmp_ge (tgt := 84) hx hb md_Mo_move_53 (by decide) (fun c_15 => absurd c_15 (by decide)) (fun _ => ?_)
  refine lv_aload_n hx hb md_Mo_move_56 rfl (lv_at hl 1 rfl) ?_
  refine fw_getr hx hb hts i_Mo hown hK hP (mm_0 (by decide)) (mk_0 0) rfl 7 (by decide) (hts _ L_Mo_32) (fun _ h9 => h9) rfl md_Mo_move_57 ?_
  refine lv_bipush (v := (7 : Int32)) hx hb md_Mo_move_60 (by decide) ?_
  refine lv_iload_n hx hb md_Mo_move_62 rfl (lv_at hl 3 rfl) ?_
  refine lv_imul hx hb md_Mo_move_63 ?_
  refine lv_iload_n hx hb md_Mo_move_64 rfl (lv_at hl 0 rfl) ?_
  refine lv_iadd hx hb md_Mo_move_65 ?_
  refine lv_aload_n hx hb md_Mo_move_66 rfl (lv_at hl 1 rfl) ?_
  refine fw_getr hx hb hts i_Mo hown hK hP (mm_0 (by decide)) (mk_0 0) rfl 7 (by decide) (hts _ L_Mo_32) (fun _ h9 => h9) rfl md_Mo_move_67 ?_
  refine lv_bipush (v := (7 : Int32)) hx hb md_Mo_move_70 (by decide) ?_
  refine lv_iload_n hx hb md_Mo_move_72 rfl (lv_at hl 2 rfl) ?_
  refine lv_imul hx hb md_Mo_move_73 ?_
  refine lv_iload_n hx hb md_Mo_move_74 rfl (lv_at hl 0 rfl) ?_
  refine lv_iadd hx hb md_Mo_move_75 ?_
  refine fw_iald hx hb hK hP (mm_8 (by decide)) (mk_8 0) 0 rfl (j := (((7 : Int32) * a1) + (5 : Int32)).toNatClampNeg) rfl (fw_inm (fw_inadd2 (n := 106) (m := 6) (t := 111) (fw_inmul (c := (7 : Int32)) (k := 7) (n := 16) (m := 106) rfl hq0 (by decide) (by decide)) (fw_inc (by decide)) (by decide)) (by decide)) md_Mo_move_76 ?_
  refine fw_iast hx hb hK hD hP hS (mm_8 (by decide)) (mk_8 0) 0 rfl (j := (((7 : Int32) * a2) + (5 : Int32)).toNatClampNeg) rfl (fw_inm (fw_inadd2 (n := 106) (m := 6) (t := 111) (fw_inmul (c := (7 : Int32)) (k := 7) (n := 16) (m := 106) rfl hq1 (by decide) (by decide)) (fw_inc (by decide)) (by decide)) (by decide)) md_Mo_move_77 (fun v16 H locs ev16 hP hS => ?_)
  have hI : mI0 b v16 := by rw [ev16]; exact mI0_up hI trivial trivial
  refine lv_iinc (v := (6 : Int32)) (lv' := [(3, .int (6 : Int32)), (0, .ref (ad 0 0)), (1, .int a1), (2, .int a2)]) hx hb md_Mo_move_78 hl (k := 0) rfl (by decide) (by decide) rfl (fun ls hl => ?_)
  refine lv_goto (tgt := 50) hx hb md_Mo_move_81 (by decide) ?_
  refine lv_iload_n hx hb md_Mo_move_50 rfl (lv_at hl 0 rfl) ?_
  refine lv_bipush (v := (7 : Int32)) hx hb md_Mo_move_51 (by decide) ?_
  refine lv_icmp_ge (tgt := 84) hx hb md_Mo_move_53 (by decide) (fun c_17 => absurd c_17 (by decide)) (fun _ => ?_)
  refine lv_aload_n hx hb md_Mo_move_56 rfl (lv_at hl 1 rfl) ?_
  refine fw_getr hx hb hts i_Mo hown hK hP (mm_0 (by decide)) (mk_0 0) rfl 7 (by decide) (hts _ L_Mo_32) (fun _ h9 => h9) rfl md_Mo_move_57 ?_
  refine lv_bipush (v := (7 : Int32)) hx hb md_Mo_move_60 (by decide) ?_
  refine lv_iload_n hx hb md_Mo_move_62 rfl (lv_at hl 3 rfl) ?_
  refine lv_imul hx hb md_Mo_move_63 ?_
  refine lv_iload_n hx hb md_Mo_move_64 rfl (lv_at hl 0 rfl) ?_
  refine lv_iadd hx hb md_Mo_move_65 ?_
  refine lv_aload_n hx hb md_Mo_move_66 rfl (lv_at hl 1 rfl) ?_
  refine fw_getr hx hb hts i_Mo hown hK hP (mm_0 (by decide)) (mk_0 0) rfl 7 (by decide) (hts _ L_Mo_32) (fun _ h9 => h9) rfl md_Mo_move_67 ?_
  refine lv_bipush (v := (7 : Int32)) hx hb md_Mo_move_70 (by decide) ?_
  refine lv_iload_n hx hb md_Mo_move_72 rfl (lv_at hl 2 rfl) ?_
  refine lv_imul hx hb md_Mo_move_73 ?_
  refine lv_iload_n hx hb md_Mo_move_74 rfl (lv_at hl 0 rfl) ?_
  refine lv_iadd hx hb md_Mo_move_75 ?_
  refine fw_iald hx hb hK hP (mm_8 (by decide)) (mk_8 0) 0 rfl (j := (((7 : Int32) * a1) + (6 : Int32)).toNatClampNeg) rfl (fw_inadd2 (n := 106) (m := 7) (t := 112) (fw_inmul (c := (7 : Int32)) (k := 7) (n := 16) (m := 106) rfl hq0 (by decide) (by decide)) (fw_inc (by decide)) (by decide)) md_Mo_move_76 ?_
  refine fw_iast hx hb hK hD hP hS (mm_8 (by decide)) (mk_8 0) 0 rfl (j := (((7 : Int32) * a2) + (6 : Int32)).toNatClampNeg) rfl (fw_inadd2 (n := 106) (m := 7) (t := 112) (fw_inmul (c := (7 : Int32)) (k := 7) (n := 16) (m := 106) rfl hq1 (by decide) (by decide)) (fw_inc (by decide)) (by decide)) md_Mo_move_77 (fun v18 H locs ev18 hP hS => ?_)
  have hI : mI0 b v18 := by rw [ev18]; exact mI0_up hI trivial trivial
  refine lv_iinc (v := (7 : Int32)) (lv' := [(3, .int (7 : Int32)), (0, .ref (ad 0 0)), (1, .int a1), (2, .int a2)]) hx hb md_Mo_move_78 hl (k := 0) rfl (by decide) (by decide) rfl (fun ls hl => ?_)
  refine lv_goto (tgt := 50) hx hb md_Mo_move_81 (by decide) ?_
  refine lv_iload_n hx hb md_Mo_move_50 rfl (lv_at hl 0 rfl) ?_
  refine lv_bipush (v := (7 : Int32)) hx hb md_Mo_move_51 (by decide) ?_
  refine lv_icmp_ge (tgt := 84) hx hb md_Mo_move_53 (by decide) (fun _ => ?_) (fun c_19 => absurd (by decide) c_19)
  have hf9 : v18 = mf_Mo_move v0 a1 a2 := (by subst ev1 ev2 ev3 ev4 ev6 ev8 ev10 ev12 ev14 ev16 ev18; simp only [mf_Mo_move])
  exact fw_vret hx hb hr hlocks hS hP (by rw [hf9]; exact mI_move hIF hq0 hq1 (by rw [← hf9]; exact hI)) md_Mo_move_84 hf9

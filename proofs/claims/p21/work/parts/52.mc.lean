def mf_Mo_remove_j1 : Nat → fw_V → Int32 → Int32 → fw_V
  | 0, v, a1, x2 => v
  | n + 1, v, a1, x2 =>
    if (v 0 0 10) ≤ x2 then
      v
    else
      let v6 := mf_Mo_move v (x2 + (1 : Int32)) x2
      mf_Mo_remove_j1 n v6 a1 ((x2 + (1 : Int32)))
def mf_Mo_remove (v0 : fw_V) (a1 : Int32) : fw_V :=
  let v2 := fw_up v0 0 0 10 ((v0 0 0 10) - (1 : Int32))
  mf_Mo_remove_j1 20 v2 a1 (a1)

theorem mca_Mo_remove_j1 {i k : Nat} : ∀ (n : Nat) (v : fw_V) (a1 : Int32) (x2 : Int32), mf_Mo_remove_j1 n v a1 x2 10 i k = v 10 i k := by
  intro n
  induction n with
  | zero => intros; rfl
  | succ n ih =>
    intro v a1 x2
    unfold mf_Mo_remove_j1
    try dsimp only
    all_goals ((repeat' split) <;> simp [fw_up, fw_row, ih, mca_Mo_move])
theorem mca_Mo_remove {v0 : fw_V} {a1 : Int32} {i k : Nat} : mf_Mo_remove v0 a1 10 i k = v0 10 i k := by
  unfold mf_Mo_remove
  try dsimp only
  all_goals ((repeat' split) <;> simp [fw_up, fw_row, mca_Mo_remove_j1])
theorem mfr_Mo_remove_j1 {c : Nat} {i k : Nat} (hc : c ≠ 0 ∧ c ≠ 4 ∧ c ≠ 5 ∧ c ≠ 6 ∧ c ≠ 7 ∧ c ≠ 8) : ∀ (n : Nat) (v : fw_V) (a1 : Int32) (x2 : Int32), mf_Mo_remove_j1 n v a1 x2 c i k = v c i k := by
  intro n
  induction n with
  | zero => intros; rfl
  | succ n ih =>
    intro v a1 x2
    unfold mf_Mo_remove_j1
    try dsimp only
    all_goals ((repeat' split) <;> simp [fw_up, fw_row, ih, mfr_Mo_move, hc])
theorem mfr_Mo_remove {v0 : fw_V} {a1 : Int32} {c : Nat} {i k : Nat} (hc : c ≠ 0 ∧ c ≠ 4 ∧ c ≠ 5 ∧ c ≠ 6 ∧ c ≠ 7 ∧ c ≠ 8) : mf_Mo_remove v0 a1 c i k = v0 c i k := by
  unfold mf_Mo_remove
  try dsimp only
  all_goals ((repeat' split) <;> simp [fw_up, fw_row, mfr_Mo_remove_j1, hc])
set_option maxHeartbeats 4000000 in
set_option maxRecDepth 100000 in
theorem mc_Mo_remove (l : Launch) {D : va_G} {cA : Nat → ClassId} {ad : Nat → Nat → Nat} (hD : fw_D mCL ad) {b : Nat} (v0 : fw_V) (hI : mI b v0) (a1 : Int32) (hq0 : vp_in a1 16) (hq1 : a1.toInt < (v0 0 0 10).toInt) : Met l my_Mo_remove (Cond.code my_Mo_remove mb_Mo_remove 3 none :: vTB) mrm_Mo_remove (fw_Pc vNL D vcls (vtys cA) mCL cA mkd ad v0 [.ref (ad 0 0), .int a1]) (fw_Qv D vcls mCL cA mkd ad (mI b) (mf_Mo_remove v0 a1)) 0 0 (fw_A mCL ad) := by
  refine Met.ofW (cc := mb_Mo_remove) (maxL := 3) (ret := none) (by decide) rfl ?_
  intro p e s m args below meth c s₁ B hml hv
  obtain ⟨rfl, hP, hK, hN⟩ := hv
  have hx := B.exec
  have hb := B.bytes
  have hr := B.returns
  have hts : ∀ w ∈ vTB, w.before ([.ref (ad 0 0), .int a1] : List Value).toArray s = true := fun w h => atoms_spec (ws := (Cond.code my_Mo_remove mb_Mo_remove 3 none :: vTB)) B.pre w (List.mem_cons_of_mem _ h)
  have hown : s.vm.findClass R_Mo = some m.cls := findClass_of_methodNamed B.named
  have hlocks := B.notSynchronized
  have hS : va_S (fw_A mCL ad) s.heap s.heap [] := va_S.rf
  have J1 : ∀ (n : Nat) (v : fw_V) (x2 : Int32) (H : Heap) (locs : List Loc) (ls : Array Slot), mf_Mo_remove v0 a1 = mf_Mo_remove_j1 n v a1 x2 → (0 ≤ x2.toInt ∧ x2.toInt ≤ (v 0 0 10).toInt ∧ (v 0 0 10).toInt < x2.toInt + n) → vp_in (v 0 0 10) 16 → mI b v → va_P D vcls (fw_w mCL cA mkd ad v) H → va_S (fw_A mCL ad) s.heap H locs → lv_has ls 3 [(0, .ref (ad 0 0)), (2, .int x2)] → W p l e (headSpec (Cond.code my_Mo_remove mb_Mo_remove 3 none :: vTB) mrm_Mo_remove).room s m ([.ref (ad 0 0), .int a1] : List Value).toArray below meth c H locs 0 0 (MQ below (fw_Qv D vcls mCL cA mkd ad (mI b) (mf_Mo_remove v0 a1)) ([.ref (ad 0 0), .int a1] : List Value).toArray s 0 0 (fw_A mCL ad)) (F0 m 12 ls []) := by
    intro n
    induction n with
    | zero =>
      intro v x2 H locs ls hj hn
      exact absurd hn.2.2 (by omega)
    | succ n ih =>
      intro v x2 H locs ls hj hn hkf0 hI hP hS hl
      refine lv_iload_n hx hb md_Mo_remove_12 rfl (lv_at hl 1 rfl) ?_
      refine lv_aload_n hx hb md_Mo_remove_13 rfl (lv_at hl 0 rfl) ?_
      refine fw_geti hx hb hts i_Mo hown hK hP (mm_0 (by decide)) (mk_0 0) rfl 10 (by decide) (hts _ L_Mo_170) (fun _ h9 => h9) rfl md_Mo_remove_14 ?_
      have h_3 : vp_in (v 0 0 10) 17 := hI.1 0 0 10
      refine lv_icmp_ge (tgt := 34) hx hb md_Mo_remove_17 (by decide) (fun c_4 => ?_) (fun c_4 => ?_)
      · exact fw_vret hx hb hr hlocks hS hP hI md_Mo_remove_34 (by rw [hj]; simp only [mf_Mo_remove_j1, if_pos c_4])
      · have h_5 : vp_in x2 15 := fw_ltb hn.1 c_4 hkf0
        refine lv_aload_n hx hb md_Mo_remove_20 rfl (lv_at hl 0 rfl) ?_
        refine lv_iload_n hx hb md_Mo_remove_21 rfl (lv_at hl 1 rfl) ?_
        refine lv_iconst (v := (1 : Int32)) hx hb md_Mo_remove_22 (by decide) ?_
        refine lv_iadd hx hb md_Mo_remove_23 ?_
        refine lv_iload_n hx hb md_Mo_remove_24 rfl (lv_at hl 1 rfl) ?_
        refine fw_cv (va_runV (As := [.int (x2 + (1 : Int32)), .int x2]) (rest := []) ⟨hx, hb, hml, hown, hts⟩ (mc_Mo_move l hD v hI (x2 + (1 : Int32)) x2 (fw_inp1 h_5 (by decide)) (fw_inm h_5 (by decide))) (mw_Mo_move hts L_Mo_179 ⟨Nat.le_of_ble_eq_true rfl, Nat.le_of_ble_eq_true rfl⟩) (fw_preV hN hK hP (mm_0 (by decide)) (mk_0 0) rfl) rfl rfl hl.1 rfl (lv_room (Nat.le_of_ble_eq_true rfl)) md_Mo_remove_25 ⟨Nat.le_of_ble_eq_true rfl, Nat.le_of_ble_eq_true rfl⟩) hS (fun v6 H locs ev6 hI hP hS => ?_)
        refine lv_iinc (v := (x2 + (1 : Int32))) (lv' := [(2, .int (x2 + (1 : Int32))), (0, .ref (ad 0 0))]) hx hb md_Mo_remove_28 hl (k := 1) rfl rfl (by decide) rfl (fun ls hl => ?_)
        refine lv_goto (tgt := 12) hx hb md_Mo_remove_31 (by decide) ?_
        exact ih v6 ((x2 + (1 : Int32))) _ _ _ (by rw [hj]; subst ev6; simp only [mf_Mo_remove_j1, if_neg c_4]) (by rw [show v6 0 0 10 = v 0 0 10 from by rw [ev6, mfr_Mo_move (c := 0) (by decide)]]; exact fw_step c_4 hn)  (by rw [ev6, mfr_Mo_move (c := 0) (by decide)]; exact hkf0) hI hP hS (lv_sub hl [1, 0] rfl)
  skip
  have hl := lv_entry ([.ref (ad 0 0), .int a1]) (n := 3) (Nat.le_of_ble_eq_true rfl)
  rw [lg_entry_eq]
  generalize (lg_sl ([.ref (ad 0 0), .int a1]) ++ List.replicate (3 - (lg_sl ([.ref (ad 0 0), .int a1])).length) Slot.unset).toArray = ls at hl ⊢
  have hl : lv_has ls 3 [(0, .ref (ad 0 0)), (1, .int a1)] := hl
  have hI0 := hI
  have hpos : 0 < (v0 0 0 10).toInt := fw_ltpos hq0 hq1
  refine lv_aload_n hx hb md_Mo_remove_0 rfl (lv_at hl 0 rfl) ?_
  refine lv_dup hx hb md_Mo_remove_1 rfl ?_
  refine fw_geti hx hb hts i_Mo hown hK hP (mm_0 (by decide)) (mk_0 0) rfl 10 (by decide) (hts _ L_Mo_170) (fun _ h9 => h9) rfl md_Mo_remove_2 ?_
  have h_1 : vp_in (v0 0 0 10) 17 := hI.1 0 0 10
  refine lv_iconst (v := (1 : Int32)) hx hb md_Mo_remove_5 (by decide) ?_
  refine lv_isub hx hb md_Mo_remove_6 ?_
  refine fw_puti hx hb hts i_Mo t_Mo t_Mo_ok n_Mo hown hK hD hP hS (mm_0 (by decide)) (mk_0 0) rfl 10 (by decide) (hts _ L_Mo_170) (fun _ h9 => h9) rfl fw_pdI rfl rfl rfl md_Mo_remove_7 (fun v2 H locs ev2 hP hS => ?_)
  have hI : mI b v2 := by rw [ev2]; exact mI_up hI (fw_inm (fw_inm1 h_1 hpos) (by decide)) trivial
  refine lv_iload_n hx hb md_Mo_remove_10 rfl (lv_at hl 1 rfl) ?_
  refine lv_istore_n (lv' := [(2, .int a1), (0, .ref (ad 0 0)), (1, .int a1)]) hx hb md_Mo_remove_11 rfl hl (by decide) rfl (fun ls hl => ?_)
  exact J1 20 v2 (a1) _ _ _ (by subst ev2; simp only [mf_Mo_remove]) (mp_remIn hq0 hq1 (hI0.1 0 0 10) (by rw [ev2, fw_up_s]))  (by rw [ev2, fw_up_s]; exact (fw_inm1 h_1 hpos)) hI hP hS (lv_sub hl [1, 0] rfl)
def mf_Mo_lose (v0 : fw_V) (a1 : Int32) : Int32 × fw_V :=
  let r2 := mf_Mo_is a1 (0 : Int32) ((v0 0 0 10) - (1 : Int32))
  if r2 = (0 : Int32) then
    ((-2 : Int32), v0)
  else
    let v7 := mf_Mo_remove v0 a1
    ((v7 0 0 10), v7)

set_option maxHeartbeats 4000000 in
set_option maxRecDepth 100000 in
theorem mc_Mo_lose (l : Launch) {D : va_G} {cA : Nat → ClassId} {ad : Nat → Nat → Nat} (hD : fw_D mCL ad) {b : Nat} (v0 : fw_V) (hI : mI b v0) (a1 : Int32)  : Met l my_Mo_lose (Cond.code my_Mo_lose mb_Mo_lose 2 (some .int) :: vTB) mrm_Mo_lose (fw_Pc vNL D vcls (vtys cA) mCL cA mkd ad v0 [.ref (ad 0 0), .int a1]) (fw_Qi D vcls mCL cA mkd ad (mI b) (mf_Mo_lose v0 a1)) 0 0 (fw_A mCL ad) := by
  refine Met.ofW (cc := mb_Mo_lose) (maxL := 2) (ret := (some .int)) (by decide) rfl ?_
  intro p e s m args below meth c s₁ B hml hv
  obtain ⟨rfl, hP, hK, hN⟩ := hv
  have hx := B.exec
  have hb := B.bytes
  have hr := B.returns
  have hts : ∀ w ∈ vTB, w.before ([.ref (ad 0 0), .int a1] : List Value).toArray s = true := fun w h => atoms_spec (ws := (Cond.code my_Mo_lose mb_Mo_lose 2 (some .int) :: vTB)) B.pre w (List.mem_cons_of_mem _ h)
  have hown : s.vm.findClass R_Mo = some m.cls := findClass_of_methodNamed B.named
  have hlocks := B.notSynchronized
  have hS : va_S (fw_A mCL ad) s.heap s.heap [] := va_S.rf
  skip
  have hl := lv_entry ([.ref (ad 0 0), .int a1]) (n := 2) (Nat.le_of_ble_eq_true rfl)
  rw [lg_entry_eq]
  generalize (lg_sl ([.ref (ad 0 0), .int a1]) ++ List.replicate (2 - (lg_sl ([.ref (ad 0 0), .int a1])).length) Slot.unset).toArray = ls at hl ⊢
  have hl : lv_has ls 2 [(0, .ref (ad 0 0)), (1, .int a1)] := hl
  refine lv_iload_n hx hb md_Mo_lose_0 rfl (lv_at hl 1 rfl) ?_
  refine lv_iconst (v := (0 : Int32)) hx hb md_Mo_lose_1 (by decide) ?_
  refine lv_aload_n hx hb md_Mo_lose_2 rfl (lv_at hl 0 rfl) ?_
  refine fw_geti hx hb hts i_Mo hown hK hP (mm_0 (by decide)) (mk_0 0) rfl 10 (by decide) (hts _ L_Mo_170) (fun _ h9 => h9) rfl md_Mo_lose_3 ?_
  have h_1 : vp_in (v0 0 0 10) 17 := hI.1 0 0 10
  refine lv_iconst (v := (1 : Int32)) hx hb md_Mo_lose_6 (by decide) ?_
  refine lv_isub hx hb md_Mo_lose_7 ?_
  refine fw_cb (va_runS (As := [.int a1, .int (0 : Int32), .int ((v0 0 0 10) - (1 : Int32))]) (rest := []) ⟨hx, hb, hml, hown, hts⟩ (mc_Mo_is l hD v0 hI a1 (0 : Int32) ((v0 0 0 10) - (1 : Int32))) (mw_Mo_is hts L_Mo_155 ⟨Nat.le_of_ble_eq_true rfl, Nat.le_of_ble_eq_true rfl⟩) (fw_preS hN hK hP) rfl rfl hl.1 rfl (lv_room (Nat.le_of_ble_eq_true rfl)) md_Mo_lose_8 ⟨Nat.le_of_ble_eq_true rfl, Nat.le_of_ble_eq_true rfl⟩) hS (fun r2 H locs zr2 er2 hP hS => ?_)
  refine lv_if_ne (tgt := 17) hx hb md_Mo_lose_11 (by decide) (fun c_3 => ?_) (fun c_3 => ?_)
  · have h_4 : vp_in a1 16 := mp_has er2 c_3 (hI.1 0 0 10)
    have h_5 : 0 < (v0 0 0 10).toInt := mp_hasPos er2 c_3 (hI.1 0 0 10)
    have h_6 : a1.toInt < (v0 0 0 10).toInt := mp_hasLt er2 c_3 (hI.1 0 0 10)
    refine lv_aload_n hx hb md_Mo_lose_17 rfl (lv_at hl 0 rfl) ?_
    refine lv_iload_n hx hb md_Mo_lose_18 rfl (lv_at hl 1 rfl) ?_
    refine fw_cv (va_runV (As := [.int a1]) (rest := []) ⟨hx, hb, hml, hown, hts⟩ (mc_Mo_remove l hD v0 hI a1 h_4 h_6) (mw_Mo_remove hts L_Mo_182 ⟨Nat.le_of_ble_eq_true rfl, Nat.le_of_ble_eq_true rfl⟩) (fw_preV hN hK hP (mm_0 (by decide)) (mk_0 0) rfl) rfl rfl hl.1 rfl (lv_room (Nat.le_of_ble_eq_true rfl)) md_Mo_lose_19 ⟨Nat.le_of_ble_eq_true rfl, Nat.le_of_ble_eq_true rfl⟩) hS (fun v7 H locs ev7 hI hP hS => ?_)
    refine lv_aload_n hx hb md_Mo_lose_22 rfl (lv_at hl 0 rfl) ?_
    refine fw_geti hx hb hts i_Mo hown hK hP (mm_0 (by decide)) (mk_0 0) rfl 10 (by decide) (hts _ L_Mo_170) (fun _ h9 => h9) rfl md_Mo_lose_23 ?_
    have h_8 : vp_in (v7 0 0 10) 17 := hI.1 0 0 10
    exact fw_iret hx hb hr hlocks hS hP hI md_Mo_lose_26 (by subst er2 ev7; simp only [mf_Mo_lose, if_neg c_3])
  · refine lv_bipush (v := (-2 : Int32)) hx hb md_Mo_lose_14 (by decide) ?_
    exact fw_iret hx hb hr hlocks hS hP hI md_Mo_lose_16 (by subst er2; simp only [mf_Mo_lose, if_pos c_3])
def mf_Mo_repeat (v0 : fw_V) (a1 : Int32) : Int32 × fw_V :=
  let r2 := mf_Mo_is a1 (0 : Int32) ((v0 0 0 10) - (1 : Int32))
  if r2 = (0 : Int32) then
    ((-2 : Int32), v0)
  else
    if (v0 0 0 10) = (16 : Int32) then
      ((-2 : Int32), v0)
    else
      let v8 := mf_Mo_move v0 a1 (v0 0 0 10)
      let v12 := fw_up v8 0 0 10 ((v8 0 0 10) + (1 : Int32))
      (((v8 0 0 10) + (1 : Int32)), v12)

set_option maxHeartbeats 4000000 in
set_option maxRecDepth 100000 in
theorem mc_Mo_repeat (l : Launch) {D : va_G} {cA : Nat → ClassId} {ad : Nat → Nat → Nat} (hD : fw_D mCL ad) {b : Nat} (v0 : fw_V) (hI : mI b v0) (a1 : Int32)  : Met l my_Mo_repeat (Cond.code my_Mo_repeat mb_Mo_repeat 2 (some .int) :: vTB) mrm_Mo_repeat (fw_Pc vNL D vcls (vtys cA) mCL cA mkd ad v0 [.ref (ad 0 0), .int a1]) (fw_Qi D vcls mCL cA mkd ad (mI b) (mf_Mo_repeat v0 a1)) 0 0 (fw_A mCL ad) := by
  refine Met.ofW (cc := mb_Mo_repeat) (maxL := 2) (ret := (some .int)) (by decide) rfl ?_
  intro p e s m args below meth c s₁ B hml hv
  obtain ⟨rfl, hP, hK, hN⟩ := hv
  have hx := B.exec
  have hb := B.bytes
  have hr := B.returns
  have hts : ∀ w ∈ vTB, w.before ([.ref (ad 0 0), .int a1] : List Value).toArray s = true := fun w h => atoms_spec (ws := (Cond.code my_Mo_repeat mb_Mo_repeat 2 (some .int) :: vTB)) B.pre w (List.mem_cons_of_mem _ h)
  have hown : s.vm.findClass R_Mo = some m.cls := findClass_of_methodNamed B.named
  have hlocks := B.notSynchronized
  have hS : va_S (fw_A mCL ad) s.heap s.heap [] := va_S.rf
  skip
  have hl := lv_entry ([.ref (ad 0 0), .int a1]) (n := 2) (Nat.le_of_ble_eq_true rfl)
  rw [lg_entry_eq]
  generalize (lg_sl ([.ref (ad 0 0), .int a1]) ++ List.replicate (2 - (lg_sl ([.ref (ad 0 0), .int a1])).length) Slot.unset).toArray = ls at hl ⊢
  have hl : lv_has ls 2 [(0, .ref (ad 0 0)), (1, .int a1)] := hl
  refine lv_iload_n hx hb md_Mo_repeat_0 rfl (lv_at hl 1 rfl) ?_
  refine lv_iconst (v := (0 : Int32)) hx hb md_Mo_repeat_1 (by decide) ?_
  refine lv_aload_n hx hb md_Mo_repeat_2 rfl (lv_at hl 0 rfl) ?_
  refine fw_geti hx hb hts i_Mo hown hK hP (mm_0 (by decide)) (mk_0 0) rfl 10 (by decide) (hts _ L_Mo_170) (fun _ h9 => h9) rfl md_Mo_repeat_3 ?_
  have h_1 : vp_in (v0 0 0 10) 17 := hI.1 0 0 10
  refine lv_iconst (v := (1 : Int32)) hx hb md_Mo_repeat_6 (by decide) ?_
  refine lv_isub hx hb md_Mo_repeat_7 ?_
  refine fw_cb (va_runS (As := [.int a1, .int (0 : Int32), .int ((v0 0 0 10) - (1 : Int32))]) (rest := []) ⟨hx, hb, hml, hown, hts⟩ (mc_Mo_is l hD v0 hI a1 (0 : Int32) ((v0 0 0 10) - (1 : Int32))) (mw_Mo_is hts L_Mo_155 ⟨Nat.le_of_ble_eq_true rfl, Nat.le_of_ble_eq_true rfl⟩) (fw_preS hN hK hP) rfl rfl hl.1 rfl (lv_room (Nat.le_of_ble_eq_true rfl)) md_Mo_repeat_8 ⟨Nat.le_of_ble_eq_true rfl, Nat.le_of_ble_eq_true rfl⟩) hS (fun r2 H locs zr2 er2 hP hS => ?_)
  refine lv_if_eq (tgt := 23) hx hb md_Mo_repeat_11 (by decide) (fun c_3 => ?_) (fun c_3 => ?_)
  · refine lv_bipush (v := (-2 : Int32)) hx hb md_Mo_repeat_23 (by decide) ?_
    exact fw_iret hx hb hr hlocks hS hP hI md_Mo_repeat_25 (by subst er2; simp only [mf_Mo_repeat, if_pos c_3])
  · have h_4 : vp_in a1 16 := mp_has er2 c_3 (hI.1 0 0 10)
    have h_5 : 0 < (v0 0 0 10).toInt := mp_hasPos er2 c_3 (hI.1 0 0 10)
    refine lv_aload_n hx hb md_Mo_repeat_14 rfl (lv_at hl 0 rfl) ?_
    refine fw_geti hx hb hts i_Mo hown hK hP (mm_0 (by decide)) (mk_0 0) rfl 10 (by decide) (hts _ L_Mo_170) (fun _ h9 => h9) rfl md_Mo_repeat_15 ?_
    refine lv_bipush (v := (16 : Int32)) hx hb md_Mo_repeat_18 (by decide) ?_
    refine lv_icmp_ne (tgt := 26) hx hb md_Mo_repeat_20 (by decide) (fun c_6 => ?_) (fun c_6 => ?_)
    · have h_7 : vp_in (v0 0 0 10) 16 := fw_inne h_1 c_6 (by decide)
      refine lv_aload_n hx hb md_Mo_repeat_26 rfl (lv_at hl 0 rfl) ?_
      refine lv_iload_n hx hb md_Mo_repeat_27 rfl (lv_at hl 1 rfl) ?_
      refine lv_aload_n hx hb md_Mo_repeat_28 rfl (lv_at hl 0 rfl) ?_
      refine fw_geti hx hb hts i_Mo hown hK hP (mm_0 (by decide)) (mk_0 0) rfl 10 (by decide) (hts _ L_Mo_170) (fun _ h9 => h9) rfl md_Mo_repeat_29 ?_
      refine fw_cv (va_runV (As := [.int a1, .int (v0 0 0 10)]) (rest := []) ⟨hx, hb, hml, hown, hts⟩ (mc_Mo_move l hD v0 hI a1 (v0 0 0 10) h_4 h_7) (mw_Mo_move hts L_Mo_179 ⟨Nat.le_of_ble_eq_true rfl, Nat.le_of_ble_eq_true rfl⟩) (fw_preV hN hK hP (mm_0 (by decide)) (mk_0 0) rfl) rfl rfl hl.1 rfl (lv_room (Nat.le_of_ble_eq_true rfl)) md_Mo_repeat_32 ⟨Nat.le_of_ble_eq_true rfl, Nat.le_of_ble_eq_true rfl⟩) hS (fun v8 H locs ev8 hI hP hS => ?_)
      refine lv_aload_n hx hb md_Mo_repeat_35 rfl (lv_at hl 0 rfl) ?_
      refine lv_dup hx hb md_Mo_repeat_36 rfl ?_
      refine fw_geti hx hb hts i_Mo hown hK hP (mm_0 (by decide)) (mk_0 0) rfl 10 (by decide) (hts _ L_Mo_170) (fun _ h9 => h9) rfl md_Mo_repeat_37 ?_
      have h_9 : vp_in (v8 0 0 10) 17 := hI.1 0 0 10
      have h_10 : 0 < (v8 0 0 10).toInt := (by rw [ev8, mfr_Mo_move (c := 0) (by decide)]; exact h_5)
      have h_11 : vp_in (v8 0 0 10) 16 := (by rw [ev8, mfr_Mo_move (c := 0) (by decide)]; exact h_7)
      refine lv_iconst (v := (1 : Int32)) hx hb md_Mo_repeat_40 (by decide) ?_
      refine lv_iadd hx hb md_Mo_repeat_41 ?_
      refine lv_dup_x1 hx hb md_Mo_repeat_42 rfl rfl ?_
      refine fw_puti hx hb hts i_Mo t_Mo t_Mo_ok n_Mo hown hK hD hP hS (mm_0 (by decide)) (mk_0 0) rfl 10 (by decide) (hts _ L_Mo_170) (fun _ h9 => h9) rfl fw_pdI rfl rfl rfl md_Mo_repeat_43 (fun v12 H locs ev12 hP hS => ?_)
      have hI : mI b v12 := by rw [ev12]; exact mI_up hI (fw_inp1 h_11 (by decide)) trivial
      exact fw_iret hx hb hr hlocks hS hP hI md_Mo_repeat_46 (by subst er2 ev8 ev12; simp only [mf_Mo_repeat, if_neg c_3, if_neg c_6])
    · refine lv_bipush (v := (-2 : Int32)) hx hb md_Mo_repeat_23 (by decide) ?_
      exact fw_iret hx hb hr hlocks hS hP hI md_Mo_repeat_25 (by subst er2; simp only [mf_Mo_repeat, if_neg c_3, if_pos c_6])
def mf_Mo_enter_0 (v0 : fw_V) (a2 : Int32) : fw_V :=
  let v1 := fw_up v0 12 0 (0) a2
  let v2 := fw_up v1 18 0 (0) (0 : Int32)
  let v3 := fw_up v2 19 0 (0) (0 : Int32)
  v3

theorem mI_enter_0 {b : Nat} {v : fw_V} (h : mI b v) (a : Int32) (ha : a ≠ 3) : mI b (mf_Mo_enter_0 v a) := by
  unfold mf_Mo_enter_0
  exact mI_up (mI_up (mI_up h trivial (fun q => absurd q ha)) trivial trivial) trivial trivial
theorem mI_write_0 {b : Nat} {v : fw_V} {a x : Int32} (h : mI b v) (hx : vp_in x 4) (h3 : a = 3 → vp_in x 3) : mI b (fw_up (mf_Mo_enter_0 v a) 20 0 0 x) := by
  unfold mf_Mo_enter_0
  refine ⟨fun c' i' k' => ?_, fun k' => ?_, fun k' => ?_, fun j hj => mFr_up (mFr_up (mFr_up (mFr_up (h.2.2.2 j hj) (by decide) (by decide) (by decide)) (by decide) (by decide) (by decide)) (by decide) (by decide) (by decide)) (by decide) (by decide) (by decide)⟩
  · by_cases h2 : c' = 20 ∧ i' = 0 ∧ k' = 0
    · obtain ⟨rfl, rfl, rfl⟩ := h2
      rw [fw_up_s]; exact hx
    · rw [fw_up_ne h2]
      by_cases h4 : c' = 19 ∨ c' = 18 ∨ c' = 12
      · rcases h4 with rfl | rfl | rfl <;> exact trivial
      · rw [fw_up_c (by omega), fw_up_c (by omega), fw_up_c (by omega)]; exact h.1 c' i' k'
  · rw [fw_up_c (by decide), fw_up_c (by decide), fw_up_c (by decide), fw_up_c (by decide), fw_up_c (by decide), fw_up_c (by decide), fw_up_c (by decide), fw_up_c (by decide)]; exact h.2.1 k'
  · rw [fw_up_c (c := 20) (c' := 12) (by decide), fw_up_c (c := 19) (c' := 12) (by decide), fw_up_c (c := 18) (c' := 12) (by decide)]
    by_cases hk : k' = 0
    · subst hk
      rw [fw_up_s, fw_up_s]; exact h3
    · rw [fw_up_k hk, fw_up_k hk, fw_up_c (c := 19) (c' := 20) (by decide), fw_up_c (c := 18) (c' := 20) (by decide), fw_up_c (c := 12) (c' := 20) (by decide)]; exact h.2.2.1 k'
theorem mca_Mo_enter_0 {v0 : fw_V} {a2 : Int32} {i k : Nat} : mf_Mo_enter_0 v0 a2 10 i k = v0 10 i k := by
  unfold mf_Mo_enter_0
  try dsimp only
  all_goals ((repeat' split) <;> simp [fw_up, fw_row])
set_option maxHeartbeats 4000000 in
set_option maxRecDepth 100000 in
theorem mc_Mo_enter_0 (l : Launch) {D : va_G} {cA : Nat → ClassId} {ad : Nat → Nat → Nat} (hD : fw_D mCL ad) {b : Nat} (v0 : fw_V)  (a2 : Int32)  (I : fw_V → Prop) (hI2 : I (mf_Mo_enter_0 v0 a2)) : Met l my_Mo_enter (Cond.code my_Mo_enter mb_Mo_enter 3 none :: vTB) mrm_Mo_enter (fw_Pc vNL D vcls (vtys cA) mCL cA mkd ad v0 [.ref (ad 0 0), .int (0 : Int32), .int a2]) (fw_Qv D vcls mCL cA mkd ad I (mf_Mo_enter_0 v0 a2)) 0 0 (fw_A mCL ad) := by
  refine Met.ofW (cc := mb_Mo_enter) (maxL := 3) (ret := none) (by decide) rfl ?_
  intro p e s m args below meth c s₁ B hml hv
  obtain ⟨rfl, hP, hK, hN⟩ := hv
  have hx := B.exec
  have hb := B.bytes
  have hr := B.returns
  have hts : ∀ w ∈ vTB, w.before ([.ref (ad 0 0), .int (0 : Int32), .int a2] : List Value).toArray s = true := fun w h => atoms_spec (ws := (Cond.code my_Mo_enter mb_Mo_enter 3 none :: vTB)) B.pre w (List.mem_cons_of_mem _ h)
  have hown : s.vm.findClass R_Mo = some m.cls := findClass_of_methodNamed B.named
  have hlocks := B.notSynchronized
  have hS : va_S (fw_A mCL ad) s.heap s.heap [] := va_S.rf
  skip
  have hl := lv_entry ([.ref (ad 0 0), .int (0 : Int32), .int a2]) (n := 3) (Nat.le_of_ble_eq_true rfl)
  rw [lg_entry_eq]
  generalize (lg_sl ([.ref (ad 0 0), .int (0 : Int32), .int a2]) ++ List.replicate (3 - (lg_sl ([.ref (ad 0 0), .int (0 : Int32), .int a2])).length) Slot.unset).toArray = ls at hl ⊢
  have hl : lv_has ls 3 [(0, .ref (ad 0 0)), (1, .int (0 : Int32)), (2, .int a2)] := hl
  refine lv_aload_n hx hb md_Mo_enter_0 rfl (lv_at hl 0 rfl) ?_
  refine fw_getr hx hb hts i_Mo hown hK hP (mm_0 (by decide)) (mk_0 0) rfl 11 (by decide) (hts _ L_Mo_41) (fun _ h9 => h9) rfl md_Mo_enter_1 ?_
  refine lv_iload_n hx hb md_Mo_enter_4 rfl (lv_at hl 1 rfl) ?_
  refine lv_iload_n hx hb md_Mo_enter_5 rfl (lv_at hl 2 rfl) ?_
  refine fw_iast hx hb hK hD hP hS (mm_12 (by decide)) (mk_12 0) 0 rfl (j := 0) (by decide) (fw_inc (by decide)) md_Mo_enter_6 (fun v1 H locs ev1 hP hS => ?_)
  refine lv_aload_n hx hb md_Mo_enter_7 rfl (lv_at hl 0 rfl) ?_
  refine fw_getr hx hb hts i_Mo hown hK hP (mm_0 (by decide)) (mk_0 0) rfl 17 (by decide) (hts _ L_Mo_59) (fun _ h9 => h9) rfl md_Mo_enter_8 ?_
  refine lv_iload_n hx hb md_Mo_enter_11 rfl (lv_at hl 1 rfl) ?_
  refine lv_iconst (v := (0 : Int32)) hx hb md_Mo_enter_12 (by decide) ?_
  refine fw_iast hx hb hK hD hP hS (mm_18 (by decide)) (mk_18 0) 0 rfl (j := 0) (by decide) (fw_inc (by decide)) md_Mo_enter_13 (fun v2 H locs ev2 hP hS => ?_)
  refine lv_aload_n hx hb md_Mo_enter_14 rfl (lv_at hl 0 rfl) ?_
  refine fw_getr hx hb hts i_Mo hown hK hP (mm_0 (by decide)) (mk_0 0) rfl 18 (by decide) (hts _ L_Mo_62) (fun _ h9 => h9) rfl md_Mo_enter_15 ?_
  refine lv_iload_n hx hb md_Mo_enter_18 rfl (lv_at hl 1 rfl) ?_
  refine lv_iconst (v := (0 : Int32)) hx hb md_Mo_enter_19 (by decide) ?_
  refine fw_iast hx hb hK hD hP hS (mm_19 (by decide)) (mk_19 0) 0 rfl (j := 0) (by decide) (fw_inc (by decide)) md_Mo_enter_20 (fun v3 H locs ev3 hP hS => ?_)
  have hf9 : v3 = mf_Mo_enter_0 v0 a2 := (by subst ev1 ev2 ev3; simp only [mf_Mo_enter_0])
  exact fw_vret hx hb hr hlocks hS hP (by rw [hf9]; exact hI2) md_Mo_enter_21 hf9
def mf_Mo_enter_1 (v0 : fw_V) (a2 : Int32) : fw_V :=
  let v1 := fw_up v0 12 0 (1) a2
  let v2 := fw_up v1 18 0 (1) (0 : Int32)
  let v3 := fw_up v2 19 0 (1) (0 : Int32)
  v3

theorem mI_enter_1 {b : Nat} {v : fw_V} (h : mI b v) (a : Int32) (ha : a ≠ 3) : mI b (mf_Mo_enter_1 v a) := by
  unfold mf_Mo_enter_1
  exact mI_up (mI_up (mI_up h trivial (fun q => absurd q ha)) trivial trivial) trivial trivial
theorem mI_write_1 {b : Nat} {v : fw_V} {a x : Int32} (h : mI b v) (hx : vp_in x 4) (h3 : a = 3 → vp_in x 3) : mI b (fw_up (mf_Mo_enter_1 v a) 20 0 1 x) := by
  unfold mf_Mo_enter_1
  refine ⟨fun c' i' k' => ?_, fun k' => ?_, fun k' => ?_, fun j hj => mFr_up (mFr_up (mFr_up (mFr_up (h.2.2.2 j hj) (by decide) (by decide) (by decide)) (by decide) (by decide) (by decide)) (by decide) (by decide) (by decide)) (by decide) (by decide) (by decide)⟩
  · by_cases h2 : c' = 20 ∧ i' = 0 ∧ k' = 1
    · obtain ⟨rfl, rfl, rfl⟩ := h2
      rw [fw_up_s]; exact hx
    · rw [fw_up_ne h2]
      by_cases h4 : c' = 19 ∨ c' = 18 ∨ c' = 12
      · rcases h4 with rfl | rfl | rfl <;> exact trivial
      · rw [fw_up_c (by omega), fw_up_c (by omega), fw_up_c (by omega)]; exact h.1 c' i' k'
  · rw [fw_up_c (by decide), fw_up_c (by decide), fw_up_c (by decide), fw_up_c (by decide), fw_up_c (by decide), fw_up_c (by decide), fw_up_c (by decide), fw_up_c (by decide)]; exact h.2.1 k'
  · rw [fw_up_c (c := 20) (c' := 12) (by decide), fw_up_c (c := 19) (c' := 12) (by decide), fw_up_c (c := 18) (c' := 12) (by decide)]
    by_cases hk : k' = 1
    · subst hk
      rw [fw_up_s, fw_up_s]; exact h3
    · rw [fw_up_k hk, fw_up_k hk, fw_up_c (c := 19) (c' := 20) (by decide), fw_up_c (c := 18) (c' := 20) (by decide), fw_up_c (c := 12) (c' := 20) (by decide)]; exact h.2.2.1 k'
theorem mca_Mo_enter_1 {v0 : fw_V} {a2 : Int32} {i k : Nat} : mf_Mo_enter_1 v0 a2 10 i k = v0 10 i k := by
  unfold mf_Mo_enter_1
  try dsimp only
  all_goals ((repeat' split) <;> simp [fw_up, fw_row])
set_option maxHeartbeats 4000000 in
set_option maxRecDepth 100000 in
theorem mc_Mo_enter_1 (l : Launch) {D : va_G} {cA : Nat → ClassId} {ad : Nat → Nat → Nat} (hD : fw_D mCL ad) {b : Nat} (v0 : fw_V)  (a2 : Int32)  (I : fw_V → Prop) (hI2 : I (mf_Mo_enter_1 v0 a2)) : Met l my_Mo_enter (Cond.code my_Mo_enter mb_Mo_enter 3 none :: vTB) mrm_Mo_enter (fw_Pc vNL D vcls (vtys cA) mCL cA mkd ad v0 [.ref (ad 0 0), .int (1 : Int32), .int a2]) (fw_Qv D vcls mCL cA mkd ad I (mf_Mo_enter_1 v0 a2)) 0 0 (fw_A mCL ad) := by
  refine Met.ofW (cc := mb_Mo_enter) (maxL := 3) (ret := none) (by decide) rfl ?_
  intro p e s m args below meth c s₁ B hml hv
  obtain ⟨rfl, hP, hK, hN⟩ := hv
  have hx := B.exec
  have hb := B.bytes
  have hr := B.returns
  have hts : ∀ w ∈ vTB, w.before ([.ref (ad 0 0), .int (1 : Int32), .int a2] : List Value).toArray s = true := fun w h => atoms_spec (ws := (Cond.code my_Mo_enter mb_Mo_enter 3 none :: vTB)) B.pre w (List.mem_cons_of_mem _ h)
  have hown : s.vm.findClass R_Mo = some m.cls := findClass_of_methodNamed B.named
  have hlocks := B.notSynchronized
  have hS : va_S (fw_A mCL ad) s.heap s.heap [] := va_S.rf
  skip
  have hl := lv_entry ([.ref (ad 0 0), .int (1 : Int32), .int a2]) (n := 3) (Nat.le_of_ble_eq_true rfl)
  rw [lg_entry_eq]
  generalize (lg_sl ([.ref (ad 0 0), .int (1 : Int32), .int a2]) ++ List.replicate (3 - (lg_sl ([.ref (ad 0 0), .int (1 : Int32), .int a2])).length) Slot.unset).toArray = ls at hl ⊢
  have hl : lv_has ls 3 [(0, .ref (ad 0 0)), (1, .int (1 : Int32)), (2, .int a2)] := hl
  refine lv_aload_n hx hb md_Mo_enter_0 rfl (lv_at hl 0 rfl) ?_
  refine fw_getr hx hb hts i_Mo hown hK hP (mm_0 (by decide)) (mk_0 0) rfl 11 (by decide) (hts _ L_Mo_41) (fun _ h9 => h9) rfl md_Mo_enter_1 ?_
  refine lv_iload_n hx hb md_Mo_enter_4 rfl (lv_at hl 1 rfl) ?_
  refine lv_iload_n hx hb md_Mo_enter_5 rfl (lv_at hl 2 rfl) ?_
  refine fw_iast hx hb hK hD hP hS (mm_12 (by decide)) (mk_12 0) 0 rfl (j := 1) (by decide) (fw_inc (by decide)) md_Mo_enter_6 (fun v1 H locs ev1 hP hS => ?_)
  refine lv_aload_n hx hb md_Mo_enter_7 rfl (lv_at hl 0 rfl) ?_
  refine fw_getr hx hb hts i_Mo hown hK hP (mm_0 (by decide)) (mk_0 0) rfl 17 (by decide) (hts _ L_Mo_59) (fun _ h9 => h9) rfl md_Mo_enter_8 ?_
  refine lv_iload_n hx hb md_Mo_enter_11 rfl (lv_at hl 1 rfl) ?_
  refine lv_iconst (v := (0 : Int32)) hx hb md_Mo_enter_12 (by decide) ?_
  refine fw_iast hx hb hK hD hP hS (mm_18 (by decide)) (mk_18 0) 0 rfl (j := 1) (by decide) (fw_inc (by decide)) md_Mo_enter_13 (fun v2 H locs ev2 hP hS => ?_)
  refine lv_aload_n hx hb md_Mo_enter_14 rfl (lv_at hl 0 rfl) ?_
  refine fw_getr hx hb hts i_Mo hown hK hP (mm_0 (by decide)) (mk_0 0) rfl 18 (by decide) (hts _ L_Mo_62) (fun _ h9 => h9) rfl md_Mo_enter_15 ?_
  refine lv_iload_n hx hb md_Mo_enter_18 rfl (lv_at hl 1 rfl) ?_
  refine lv_iconst (v := (0 : Int32)) hx hb md_Mo_enter_19 (by decide) ?_
  refine fw_iast hx hb hK hD hP hS (mm_19 (by decide)) (mk_19 0) 0 rfl (j := 1) (by decide) (fw_inc (by decide)) md_Mo_enter_20 (fun v3 H locs ev3 hP hS => ?_)
  have hf9 : v3 = mf_Mo_enter_1 v0 a2 := (by subst ev1 ev2 ev3; simp only [mf_Mo_enter_1])
  exact fw_vret hx hb hr hlocks hS hP (by rw [hf9]; exact hI2) md_Mo_enter_21 hf9
def mf_Mo_ask_0 (v0 : fw_V) : fw_V :=
  let v1 := fw_up v0 18 0 (0) (0 : Int32)
  if (v1 12 0 0) = (1 : Int32) then
    let v23 := mf_Mo_send v1 (1 : Int32) (0 : Int32) (v1 14 0 0) (3 : Int32)
    v23
  else
    if (v1 12 0 0) = (2 : Int32) then
      let v14 := fw_up v1 9 0 (0) ((v1 24 0 0) + (1 : Int32))
      let v17 := fw_up v14 9 0 (1) ((v14 24 0 1) + (1 : Int32))
      let v20 := fw_up v17 9 0 (2) ((v17 24 0 2) + (1 : Int32))
      let v22 := mf_Mo_send v20 (3 : Int32) (v20 13 0 0) (0 : Int32) (v20 15 0 0)
      v22
    else
      if (v1 12 0 0) = (3 : Int32) then
        let v8 := fw_up v1 9 0 (0) (v1 25 0 ((0 : Int32) + (v1 20 0 0)).toNatClampNeg)
        let v11 := mf_Mo_send v8 (6 : Int32) (v8 13 0 0) (v8 20 0 0) (v8 15 0 0)
        v11
      else
        let v5 := mf_Mo_send v1 (8 : Int32) (v1 13 0 0) (0 : Int32) (v1 15 0 0)
        v5

theorem mca_Mo_ask_0 {v0 : fw_V} {i k : Nat} : mf_Mo_ask_0 v0 10 i k = v0 10 i k := by
  unfold mf_Mo_ask_0
  try dsimp only
  all_goals ((repeat' split) <;> simp [fw_up, fw_row, mca_Mo_send])
set_option maxHeartbeats 4000000 in
set_option maxRecDepth 100000 in
theorem mc_Mo_ask_0 (l : Launch) {D : va_G} {cA : Nat → ClassId} {ad : Nat → Nat → Nat} (hD : fw_D mCL ad) {b : Nat} (v0 : fw_V) (hI : mI b v0)   : Met l my_Mo_ask (Cond.code my_Mo_ask mb_Mo_ask 4 none :: vTB) mrm_Mo_ask (fw_Pc vNL D vcls (vtys cA) mCL cA mkd ad v0 [.ref (ad 0 0), .int (0 : Int32)]) (fw_Qv D vcls mCL cA mkd ad (mI b) (mf_Mo_ask_0 v0)) 0 0 (fw_A mCL ad) := by
  refine Met.ofW (cc := mb_Mo_ask) (maxL := 4) (ret := none) (by decide) rfl ?_
  intro p e s m args below meth c s₁ B hml hv
  obtain ⟨rfl, hP, hK, hN⟩ := hv
  have hx := B.exec
  have hb := B.bytes
  have hr := B.returns
  have hts : ∀ w ∈ vTB, w.before ([.ref (ad 0 0), .int (0 : Int32)] : List Value).toArray s = true := fun w h => atoms_spec (ws := (Cond.code my_Mo_ask mb_Mo_ask 4 none :: vTB)) B.pre w (List.mem_cons_of_mem _ h)
  have hown : s.vm.findClass R_Mo = some m.cls := findClass_of_methodNamed B.named
  have hlocks := B.notSynchronized
  have hS : va_S (fw_A mCL ad) s.heap s.heap [] := va_S.rf
  skip
  have hl := lv_entry ([.ref (ad 0 0), .int (0 : Int32)]) (n := 4) (Nat.le_of_ble_eq_true rfl)
  rw [lg_entry_eq]
  generalize (lg_sl ([.ref (ad 0 0), .int (0 : Int32)]) ++ List.replicate (4 - (lg_sl ([.ref (ad 0 0), .int (0 : Int32)])).length) Slot.unset).toArray = ls at hl ⊢
  have hl : lv_has ls 4 [(0, .ref (ad 0 0)), (1, .int (0 : Int32))] := hl
  refine lv_aload_n hx hb md_Mo_ask_0 rfl (lv_at hl 0 rfl) ?_
  refine fw_getr hx hb hts i_Mo hown hK hP (mm_0 (by decide)) (mk_0 0) rfl 17 (by decide) (hts _ L_Mo_59) (fun _ h9 => h9) rfl md_Mo_ask_1 ?_
  refine lv_iload_n hx hb md_Mo_ask_4 rfl (lv_at hl 1 rfl) ?_
  refine lv_iconst (v := (0 : Int32)) hx hb md_Mo_ask_5 (by decide) ?_
  refine fw_iast hx hb hK hD hP hS (mm_18 (by decide)) (mk_18 0) 0 rfl (j := 0) (by decide) (fw_inc (by decide)) md_Mo_ask_6 (fun v1 H locs ev1 hP hS => ?_)
  have hI : mI b v1 := by rw [ev1]; exact mI_up hI trivial trivial
  refine lv_iconst (v := (3 : Int32)) hx hb md_Mo_ask_7 (by decide) ?_
  refine lv_iload_n hx hb md_Mo_ask_8 rfl (lv_at hl 1 rfl) ?_
  refine lv_imul hx hb md_Mo_ask_9 ?_
  refine fw_top (y := (0 : Int32)) (by decide) ?_
  refine lv_istore_n (lv' := [(2, .int (0 : Int32)), (0, .ref (ad 0 0)), (1, .int (0 : Int32))]) hx hb md_Mo_ask_10 rfl hl (by decide) rfl (fun ls hl => ?_)
  refine lv_aload_n hx hb md_Mo_ask_11 rfl (lv_at hl 1 rfl) ?_
  refine fw_getr hx hb hts i_Mo hown hK hP (mm_0 (by decide)) (mk_0 0) rfl 11 (by decide) (hts _ L_Mo_41) (fun _ h9 => h9) rfl md_Mo_ask_12 ?_
  refine lv_iload_n hx hb md_Mo_ask_15 rfl (lv_at hl 2 rfl) ?_
  refine fw_iald hx hb hK hP (mm_12 (by decide)) (mk_12 0) 0 rfl (j := 0) (by decide) (fw_inc (by decide)) md_Mo_ask_16 ?_
  refine lv_iconst (v := (1 : Int32)) hx hb md_Mo_ask_17 (by decide) ?_
  refine lv_icmp_ne (tgt := 37) hx hb md_Mo_ask_18 (by decide) (fun c_2 => ?_) (fun c_2 => ?_)
  · refine lv_aload_n hx hb md_Mo_ask_37 rfl (lv_at hl 1 rfl) ?_
    refine fw_getr hx hb hts i_Mo hown hK hP (mm_0 (by decide)) (mk_0 0) rfl 11 (by decide) (hts _ L_Mo_41) (fun _ h9 => h9) rfl md_Mo_ask_38 ?_
    refine lv_iload_n hx hb md_Mo_ask_41 rfl (lv_at hl 2 rfl) ?_
    refine fw_iald hx hb hK hP (mm_12 (by decide)) (mk_12 0) 0 rfl (j := 0) (by decide) (fw_inc (by decide)) md_Mo_ask_42 ?_
    refine lv_iconst (v := (2 : Int32)) hx hb md_Mo_ask_43 (by decide) ?_
    refine lv_icmp_ne (tgt := 97) hx hb md_Mo_ask_44 (by decide) (fun c_3 => ?_) (fun c_3 => ?_)
    · refine lv_aload_n hx hb md_Mo_ask_97 rfl (lv_at hl 1 rfl) ?_
      refine fw_getr hx hb hts i_Mo hown hK hP (mm_0 (by decide)) (mk_0 0) rfl 11 (by decide) (hts _ L_Mo_41) (fun _ h9 => h9) rfl md_Mo_ask_98 ?_
      refine lv_iload_n hx hb md_Mo_ask_101 rfl (lv_at hl 2 rfl) ?_
      refine fw_iald hx hb hK hP (mm_12 (by decide)) (mk_12 0) 0 rfl (j := 0) (by decide) (fw_inc (by decide)) md_Mo_ask_102 ?_
      refine lv_iconst (v := (3 : Int32)) hx hb md_Mo_ask_103 (by decide) ?_
      refine lv_icmp_ne (tgt := 153) hx hb md_Mo_ask_104 (by decide) (fun c_4 => ?_) (fun c_4 => ?_)
      · refine lv_aload_n hx hb md_Mo_ask_153 rfl (lv_at hl 1 rfl) ?_
        refine lv_bipush (v := (8 : Int32)) hx hb md_Mo_ask_154 (by decide) ?_
        refine lv_aload_n hx hb md_Mo_ask_156 rfl (lv_at hl 1 rfl) ?_
        refine fw_getr hx hb hts i_Mo hown hK hP (mm_0 (by decide)) (mk_0 0) rfl 12 (by decide) (hts _ L_Mo_44) (fun _ h9 => h9) rfl md_Mo_ask_157 ?_
        refine lv_iload_n hx hb md_Mo_ask_160 rfl (lv_at hl 2 rfl) ?_
        refine fw_iald hx hb hK hP (mm_13 (by decide)) (mk_13 0) 0 rfl (j := 0) (by decide) (fw_inc (by decide)) md_Mo_ask_161 ?_
        refine lv_iconst (v := (0 : Int32)) hx hb md_Mo_ask_162 (by decide) ?_
        refine lv_aload_n hx hb md_Mo_ask_163 rfl (lv_at hl 1 rfl) ?_
        refine fw_getr hx hb hts i_Mo hown hK hP (mm_0 (by decide)) (mk_0 0) rfl 14 (by decide) (hts _ L_Mo_50) (fun _ h9 => h9) rfl md_Mo_ask_164 ?_
        refine lv_iload_n hx hb md_Mo_ask_167 rfl (lv_at hl 2 rfl) ?_
        refine fw_iald hx hb hK hP (mm_15 (by decide)) (mk_15 0) 0 rfl (j := 0) (by decide) (fw_inc (by decide)) md_Mo_ask_168 ?_
        refine fw_cv (va_runV (As := [.int (8 : Int32), .int (v1 13 0 0), .int (0 : Int32), .int (v1 15 0 0)]) (rest := []) ⟨hx, hb, hml, hown, hts⟩ (mc_Mo_send l hD v1 hI (8 : Int32) (v1 13 0 0) (0 : Int32) (v1 15 0 0) (fun q => absurd q (by decide)) (fun q => absurd q (by decide)) (fun q => absurd q (by decide))) (mw_Mo_send hts L_Mo_197 ⟨Nat.le_of_ble_eq_true rfl, Nat.le_of_ble_eq_true rfl⟩) (fw_preV hN hK hP (mm_0 (by decide)) (mk_0 0) rfl) rfl rfl hl.1 rfl (lv_room (Nat.le_of_ble_eq_true rfl)) md_Mo_ask_169 ⟨Nat.le_of_ble_eq_true rfl, Nat.le_of_ble_eq_true rfl⟩) hS (fun v5 H locs ev5 hI hP hS => ?_)
        exact fw_vret hx hb hr hlocks hS hP hI md_Mo_ask_172 (by subst ev1 ev5; simp only [mf_Mo_ask_0, if_neg c_2, if_neg c_3, if_neg c_4])
      · have h_6 : vp_in (v1 20 0 0) 3 := hI.2.2.1 0 c_4
        refine lv_aload_n hx hb md_Mo_ask_107 rfl (lv_at hl 1 rfl) ?_
        refine fw_getr hx hb hts i_Mo hown hK hP (mm_0 (by decide)) (mk_0 0) rfl 8 (by decide) (hts _ L_Mo_35) (fun _ h9 => h9) rfl md_Mo_ask_108 ?_
        refine lv_iconst (v := (0 : Int32)) hx hb md_Mo_ask_111 (by decide) ?_
        refine lv_aload_n hx hb md_Mo_ask_112 rfl (lv_at hl 1 rfl) ?_
        refine fw_getr hx hb hts i_Mo hown hK hP (mm_0 (by decide)) (mk_0 0) rfl 24 (by decide) (hts _ L_Mo_80) (fun _ h9 => h9) rfl md_Mo_ask_113 ?_
        refine lv_iload_n hx hb md_Mo_ask_116 rfl (lv_at hl 0 rfl) ?_
        refine lv_aload_n hx hb md_Mo_ask_117 rfl (lv_at hl 1 rfl) ?_
        refine fw_getr hx hb hts i_Mo hown hK hP (mm_0 (by decide)) (mk_0 0) rfl 19 (by decide) (hts _ L_Mo_65) (fun _ h9 => h9) rfl md_Mo_ask_118 ?_
        refine lv_iload_n hx hb md_Mo_ask_121 rfl (lv_at hl 2 rfl) ?_
        refine fw_iald hx hb hK hP (mm_20 (by decide)) (mk_20 0) 0 rfl (j := 0) (by decide) (fw_inc (by decide)) md_Mo_ask_122 ?_
        have h_7 : vp_in (v1 20 0 0) 4 := hI.1 20 0 (0)
        refine lv_iadd hx hb md_Mo_ask_123 ?_
        refine fw_iald hx hb hK hP (mm_25 (by decide)) (mk_25 0) 0 rfl (j := ((0 : Int32) + (v1 20 0 0)).toNatClampNeg) rfl (fw_inm (fw_inadd2 (n := 1) (m := 3) (t := 3) (fw_inc (by decide)) h_6 (by decide)) (by decide)) md_Mo_ask_124 ?_
        refine fw_iast hx hb hK hD hP hS (mm_9 (by decide)) (mk_9 0) 0 rfl (j := 0) (by decide) (fw_inc (by decide)) md_Mo_ask_125 (fun v8 H locs ev8 hP hS => ?_)
        have hI : mI b v8 := by rw [ev8]; exact mI_up hI trivial trivial
        refine lv_aload_n hx hb md_Mo_ask_126 rfl (lv_at hl 1 rfl) ?_
        refine lv_bipush (v := (6 : Int32)) hx hb md_Mo_ask_127 (by decide) ?_
        refine lv_aload_n hx hb md_Mo_ask_129 rfl (lv_at hl 1 rfl) ?_
        refine fw_getr hx hb hts i_Mo hown hK hP (mm_0 (by decide)) (mk_0 0) rfl 12 (by decide) (hts _ L_Mo_44) (fun _ h9 => h9) rfl md_Mo_ask_130 ?_
        refine lv_iload_n hx hb md_Mo_ask_133 rfl (lv_at hl 2 rfl) ?_
        refine fw_iald hx hb hK hP (mm_13 (by decide)) (mk_13 0) 0 rfl (j := 0) (by decide) (fw_inc (by decide)) md_Mo_ask_134 ?_
        refine lv_aload_n hx hb md_Mo_ask_135 rfl (lv_at hl 1 rfl) ?_
        refine fw_getr hx hb hts i_Mo hown hK hP (mm_0 (by decide)) (mk_0 0) rfl 19 (by decide) (hts _ L_Mo_65) (fun _ h9 => h9) rfl md_Mo_ask_136 ?_
        refine lv_iload_n hx hb md_Mo_ask_139 rfl (lv_at hl 2 rfl) ?_
        refine fw_iald hx hb hK hP (mm_20 (by decide)) (mk_20 0) 0 rfl (j := 0) (by decide) (fw_inc (by decide)) md_Mo_ask_140 ?_
        have h_9 : vp_in (v8 20 0 0) 3 := (by rw [ev8, fw_up_c (c := 9) (c' := 20) (by decide)]; exact h_6)
        have h_10 : vp_in (v8 20 0 0) 4 := hI.1 20 0 (0)
        refine lv_aload_n hx hb md_Mo_ask_141 rfl (lv_at hl 1 rfl) ?_
        refine fw_getr hx hb hts i_Mo hown hK hP (mm_0 (by decide)) (mk_0 0) rfl 14 (by decide) (hts _ L_Mo_50) (fun _ h9 => h9) rfl md_Mo_ask_142 ?_
        refine lv_iload_n hx hb md_Mo_ask_145 rfl (lv_at hl 2 rfl) ?_
        refine fw_iald hx hb hK hP (mm_15 (by decide)) (mk_15 0) 0 rfl (j := 0) (by decide) (fw_inc (by decide)) md_Mo_ask_146 ?_
        refine fw_cv (va_runV (As := [.int (6 : Int32), .int (v8 13 0 0), .int (v8 20 0 0), .int (v8 15 0 0)]) (rest := []) ⟨hx, hb, hml, hown, hts⟩ (mc_Mo_send l hD v8 hI (6 : Int32) (v8 13 0 0) (v8 20 0 0) (v8 15 0 0) (fun q => absurd q (by decide)) (fun _ => h_9) (fun q => absurd q (by decide))) (mw_Mo_send hts L_Mo_197 ⟨Nat.le_of_ble_eq_true rfl, Nat.le_of_ble_eq_true rfl⟩) (fw_preV hN hK hP (mm_0 (by decide)) (mk_0 0) rfl) rfl rfl hl.1 rfl (lv_room (Nat.le_of_ble_eq_true rfl)) md_Mo_ask_147 ⟨Nat.le_of_ble_eq_true rfl, Nat.le_of_ble_eq_true rfl⟩) hS (fun v11 H locs ev11 hI hP hS => ?_)
        refine lv_goto (tgt := 172) hx hb md_Mo_ask_150 (by decide) ?_
        exact fw_vret hx hb hr hlocks hS hP hI md_Mo_ask_172 (by subst ev1 ev8 ev11; simp only [mf_Mo_ask_0, if_neg c_2, if_neg c_3, if_pos c_4])
    · refine lv_iconst (v := (0 : Int32)) hx hb md_Mo_ask_47 (by decide) ?_
      refine lv_istore_n (lv' := [(3, .int (0 : Int32)), (2, .int (0 : Int32)), (0, .ref (ad 0 0)), (1, .int (0 : Int32))]) hx hb md_Mo_ask_48 rfl hl (by decide) rfl (fun ls hl => ?_)
      refine lv_iload_n hx hb md_Mo_ask_49 rfl (lv_at hl 0 rfl) ?_
      refine lv_iconst (v := (3 : Int32)) hx hb md_Mo_ask_50 (by decide) ?_
      refine lv_icmp_ge (tgt := 76) hx hb md_Mo_ask_51 (by decide) (fun c_12 => absurd c_12 (by decide)) (fun _ => ?_)
      refine lv_aload_n hx hb md_Mo_ask_54 rfl (lv_at hl 2 rfl) ?_
      refine fw_getr hx hb hts i_Mo hown hK hP (mm_0 (by decide)) (mk_0 0) rfl 8 (by decide) (hts _ L_Mo_35) (fun _ h9 => h9) rfl md_Mo_ask_55 ?_
      refine lv_iload_n hx hb md_Mo_ask_58 rfl (lv_at hl 0 rfl) ?_
      refine lv_aload_n hx hb md_Mo_ask_59 rfl (lv_at hl 2 rfl) ?_
      refine fw_getr hx hb hts i_Mo hown hK hP (mm_0 (by decide)) (mk_0 0) rfl 23 (by decide) (hts _ L_Mo_77) (fun _ h9 => h9) rfl md_Mo_ask_60 ?_
      refine lv_iload_n hx hb md_Mo_ask_63 rfl (lv_at hl 1 rfl) ?_
      refine lv_iload_n hx hb md_Mo_ask_64 rfl (lv_at hl 0 rfl) ?_
      refine lv_iadd hx hb md_Mo_ask_65 ?_
      refine fw_top (y := (0 : Int32)) (by decide) ?_
      refine fw_iald hx hb hK hP (mm_24 (by decide)) (mk_24 0) 0 rfl (j := 0) (by decide) (fw_inc (by decide)) md_Mo_ask_66 ?_
      have h_13 : vp_in ((v1 24 0 0) + 1) 9 := hI.1 24 0 (0)
      refine lv_iconst (v := (1 : Int32)) hx hb md_Mo_ask_67 (by decide) ?_
      refine lv_iadd hx hb md_Mo_ask_68 ?_
      refine fw_iast hx hb hK hD hP hS (mm_9 (by decide)) (mk_9 0) 0 rfl (j := 0) (by decide) (fw_inc (by decide)) md_Mo_ask_69 (fun v14 H locs ev14 hP hS => ?_)
      have hI : mI b v14 := by rw [ev14]; exact mI_up hI trivial trivial
      refine lv_iinc (v := (1 : Int32)) (lv' := [(3, .int (1 : Int32)), (2, .int (0 : Int32)), (0, .ref (ad 0 0)), (1, .int (0 : Int32))]) hx hb md_Mo_ask_70 hl (k := 0) rfl (by decide) (by decide) rfl (fun ls hl => ?_)
      refine lv_goto (tgt := 49) hx hb md_Mo_ask_73 (by decide) ?_
      refine lv_iload_n hx hb md_Mo_ask_49 rfl (lv_at hl 0 rfl) ?_
      refine lv_iconst (v := (3 : Int32)) hx hb md_Mo_ask_50 (by decide) ?_
      refine lv_icmp_ge (tgt := 76) hx hb md_Mo_ask_51 (by decide) (fun c_15 => absurd c_15 (by decide)) (fun _ => ?_)
      refine lv_aload_n hx hb md_Mo_ask_54 rfl (lv_at hl 2 rfl) ?_
      refine fw_getr hx hb hts i_Mo hown hK hP (mm_0 (by decide)) (mk_0 0) rfl 8 (by decide) (hts _ L_Mo_35) (fun _ h9 => h9) rfl md_Mo_ask_55 ?_
      refine lv_iload_n hx hb md_Mo_ask_58 rfl (lv_at hl 0 rfl) ?_
      refine lv_aload_n hx hb md_Mo_ask_59 rfl (lv_at hl 2 rfl) ?_
      refine fw_getr hx hb hts i_Mo hown hK hP (mm_0 (by decide)) (mk_0 0) rfl 23 (by decide) (hts _ L_Mo_77) (fun _ h9 => h9) rfl md_Mo_ask_60 ?_
      refine lv_iload_n hx hb md_Mo_ask_63 rfl (lv_at hl 1 rfl) ?_
      refine lv_iload_n hx hb md_Mo_ask_64 rfl (lv_at hl 0 rfl) ?_
      refine lv_iadd hx hb md_Mo_ask_65 ?_
      refine fw_top (y := (1 : Int32)) (by decide) ?_
      refine fw_iald hx hb hK hP (mm_24 (by decide)) (mk_24 0) 0 rfl (j := 1) (by decide) (fw_inc (by decide)) md_Mo_ask_66 ?_
      have h_16 : vp_in ((v14 24 0 1) + 1) 9 := hI.1 24 0 (1)
      refine lv_iconst (v := (1 : Int32)) hx hb md_Mo_ask_67 (by decide) ?_
      refine lv_iadd hx hb md_Mo_ask_68 ?_
      refine fw_iast hx hb hK hD hP hS (mm_9 (by decide)) (mk_9 0) 0 rfl (j := 1) (by decide) (fw_inc (by decide)) md_Mo_ask_69 (fun v17 H locs ev17 hP hS => ?_)
      have hI : mI b v17 := by rw [ev17]; exact mI_up hI trivial trivial
      refine lv_iinc (v := (2 : Int32)) (lv' := [(3, .int (2 : Int32)), (2, .int (0 : Int32)), (0, .ref (ad 0 0)), (1, .int (0 : Int32))]) hx hb md_Mo_ask_70 hl (k := 0) rfl (by decide) (by decide) rfl (fun ls hl => ?_)
      refine lv_goto (tgt := 49) hx hb md_Mo_ask_73 (by decide) ?_
      refine lv_iload_n hx hb md_Mo_ask_49 rfl (lv_at hl 0 rfl) ?_
      refine lv_iconst (v := (3 : Int32)) hx hb md_Mo_ask_50 (by decide) ?_
      refine lv_icmp_ge (tgt := 76) hx hb md_Mo_ask_51 (by decide) (fun c_18 => absurd c_18 (by decide)) (fun _ => ?_)
      refine lv_aload_n hx hb md_Mo_ask_54 rfl (lv_at hl 2 rfl) ?_
      refine fw_getr hx hb hts i_Mo hown hK hP (mm_0 (by decide)) (mk_0 0) rfl 8 (by decide) (hts _ L_Mo_35) (fun _ h9 => h9) rfl md_Mo_ask_55 ?_
      refine lv_iload_n hx hb md_Mo_ask_58 rfl (lv_at hl 0 rfl) ?_
      refine lv_aload_n hx hb md_Mo_ask_59 rfl (lv_at hl 2 rfl) ?_
      refine fw_getr hx hb hts i_Mo hown hK hP (mm_0 (by decide)) (mk_0 0) rfl 23 (by decide) (hts _ L_Mo_77) (fun _ h9 => h9) rfl md_Mo_ask_60 ?_
      refine lv_iload_n hx hb md_Mo_ask_63 rfl (lv_at hl 1 rfl) ?_
      refine lv_iload_n hx hb md_Mo_ask_64 rfl (lv_at hl 0 rfl) ?_
      refine lv_iadd hx hb md_Mo_ask_65 ?_
      refine fw_top (y := (2 : Int32)) (by decide) ?_
      refine fw_iald hx hb hK hP (mm_24 (by decide)) (mk_24 0) 0 rfl (j := 2) (by decide) (fw_inc (by decide)) md_Mo_ask_66 ?_
      have h_19 : vp_in ((v17 24 0 2) + 1) 9 := hI.1 24 0 (2)
      refine lv_iconst (v := (1 : Int32)) hx hb md_Mo_ask_67 (by decide) ?_
      refine lv_iadd hx hb md_Mo_ask_68 ?_
      refine fw_iast hx hb hK hD hP hS (mm_9 (by decide)) (mk_9 0) 0 rfl (j := 2) (by decide) (fw_inc (by decide)) md_Mo_ask_69 (fun v20 H locs ev20 hP hS => ?_)
      have hI : mI b v20 := by rw [ev20]; exact mI_up hI trivial trivial
      refine lv_iinc (v := (3 : Int32)) (lv' := [(3, .int (3 : Int32)), (2, .int (0 : Int32)), (0, .ref (ad 0 0)), (1, .int (0 : Int32))]) hx hb md_Mo_ask_70 hl (k := 0) rfl (by decide) (by decide) rfl (fun ls hl => ?_)
      refine lv_goto (tgt := 49) hx hb md_Mo_ask_73 (by decide) ?_
      refine lv_iload_n hx hb md_Mo_ask_49 rfl (lv_at hl 0 rfl) ?_
      refine lv_iconst (v := (3 : Int32)) hx hb md_Mo_ask_50 (by decide) ?_
      refine lv_icmp_ge (tgt := 76) hx hb md_Mo_ask_51 (by decide) (fun _ => ?_) (fun c_21 => absurd (by decide) c_21)
      refine lv_aload_n hx hb md_Mo_ask_76 rfl (lv_at hl 2 rfl) ?_
      refine lv_iconst (v := (3 : Int32)) hx hb md_Mo_ask_77 (by decide) ?_
      refine lv_aload_n hx hb md_Mo_ask_78 rfl (lv_at hl 2 rfl) ?_
      refine fw_getr hx hb hts i_Mo hown hK hP (mm_0 (by decide)) (mk_0 0) rfl 12 (by decide) (hts _ L_Mo_44) (fun _ h9 => h9) rfl md_Mo_ask_79 ?_
      refine lv_iload_n hx hb md_Mo_ask_82 rfl (lv_at hl 3 rfl) ?_
      refine fw_iald hx hb hK hP (mm_13 (by decide)) (mk_13 0) 0 rfl (j := 0) (by decide) (fw_inc (by decide)) md_Mo_ask_83 ?_
      refine lv_iconst (v := (0 : Int32)) hx hb md_Mo_ask_84 (by decide) ?_
      refine lv_aload_n hx hb md_Mo_ask_85 rfl (lv_at hl 2 rfl) ?_
      refine fw_getr hx hb hts i_Mo hown hK hP (mm_0 (by decide)) (mk_0 0) rfl 14 (by decide) (hts _ L_Mo_50) (fun _ h9 => h9) rfl md_Mo_ask_86 ?_
      refine lv_iload_n hx hb md_Mo_ask_89 rfl (lv_at hl 3 rfl) ?_
      refine fw_iald hx hb hK hP (mm_15 (by decide)) (mk_15 0) 0 rfl (j := 0) (by decide) (fw_inc (by decide)) md_Mo_ask_90 ?_
      refine fw_cv (va_runV (As := [.int (3 : Int32), .int (v20 13 0 0), .int (0 : Int32), .int (v20 15 0 0)]) (rest := []) ⟨hx, hb, hml, hown, hts⟩ (mc_Mo_send l hD v20 hI (3 : Int32) (v20 13 0 0) (0 : Int32) (v20 15 0 0) (fun q => absurd q (by decide)) (fun q => absurd q (by decide)) (fun _ => ⟨by rw [ev20, fw_up_k (k := 2) (k' := 0) (by decide), ev17, fw_up_k (k := 1) (k' := 0) (by decide), ev14, fw_up_s]; exact h_13, by rw [ev20, fw_up_k (k := 2) (k' := 1) (by decide), ev17, fw_up_s]; exact h_16, by rw [ev20, fw_up_s]; exact h_19⟩)) (mw_Mo_send hts L_Mo_197 ⟨Nat.le_of_ble_eq_true rfl, Nat.le_of_ble_eq_true rfl⟩) (fw_preV hN hK hP (mm_0 (by decide)) (mk_0 0) rfl) rfl rfl hl.1 rfl (lv_room (Nat.le_of_ble_eq_true rfl)) md_Mo_ask_91 ⟨Nat.le_of_ble_eq_true rfl, Nat.le_of_ble_eq_true rfl⟩) hS (fun v22 H locs ev22 hI hP hS => ?_)
      refine lv_goto (tgt := 172) hx hb md_Mo_ask_94 (by decide) ?_
      exact fw_vret hx hb hr hlocks hS hP hI md_Mo_ask_172 (by subst ev1 ev14 ev17 ev20 ev22; simp only [mf_Mo_ask_0, if_neg c_2, if_pos c_3])
  · refine lv_aload_n hx hb md_Mo_ask_21 rfl (lv_at hl 1 rfl) ?_
    refine lv_iconst (v := (1 : Int32)) hx hb md_Mo_ask_22 (by decide) ?_
    refine lv_iconst (v := (0 : Int32)) hx hb md_Mo_ask_23 (by decide) ?_
    refine lv_aload_n hx hb md_Mo_ask_24 rfl (lv_at hl 1 rfl) ?_
    refine fw_getr hx hb hts i_Mo hown hK hP (mm_0 (by decide)) (mk_0 0) rfl 13 (by decide) (hts _ L_Mo_47) (fun _ h9 => h9) rfl md_Mo_ask_25 ?_
    refine lv_iload_n hx hb md_Mo_ask_28 rfl (lv_at hl 2 rfl) ?_
    refine fw_iald hx hb hK hP (mm_14 (by decide)) (mk_14 0) 0 rfl (j := 0) (by decide) (fw_inc (by decide)) md_Mo_ask_29 ?_
    refine lv_iconst (v := (3 : Int32)) hx hb md_Mo_ask_30 (by decide) ?_
    refine fw_cv (va_runV (As := [.int (1 : Int32), .int (0 : Int32), .int (v1 14 0 0), .int (3 : Int32)]) (rest := []) ⟨hx, hb, hml, hown, hts⟩ (mc_Mo_send l hD v1 hI (1 : Int32) (0 : Int32) (v1 14 0 0) (3 : Int32) (fun q => absurd q (by decide)) (fun q => absurd q (by decide)) (fun q => absurd q (by decide))) (mw_Mo_send hts L_Mo_197 ⟨Nat.le_of_ble_eq_true rfl, Nat.le_of_ble_eq_true rfl⟩) (fw_preV hN hK hP (mm_0 (by decide)) (mk_0 0) rfl) rfl rfl hl.1 rfl (lv_room (Nat.le_of_ble_eq_true rfl)) md_Mo_ask_31 ⟨Nat.le_of_ble_eq_true rfl, Nat.le_of_ble_eq_true rfl⟩) hS (fun v23 H locs ev23 hI hP hS => ?_)
    refine lv_goto (tgt := 172) hx hb md_Mo_ask_34 (by decide) ?_
    exact fw_vret hx hb hr hlocks hS hP hI md_Mo_ask_172 (by subst ev1 ev23; simp only [mf_Mo_ask_0, if_pos c_2])
def mf_Mo_ask_1 (v0 : fw_V) : fw_V :=
  let v1 := fw_up v0 18 0 (1) (0 : Int32)
  if (v1 12 0 1) = (1 : Int32) then
    let v23 := mf_Mo_send v1 (1 : Int32) (0 : Int32) (v1 14 0 1) (3 : Int32)
    v23
  else
    if (v1 12 0 1) = (2 : Int32) then
      let v14 := fw_up v1 9 0 (0) ((v1 24 0 3) + (1 : Int32))
      let v17 := fw_up v14 9 0 (1) ((v14 24 0 4) + (1 : Int32))
      let v20 := fw_up v17 9 0 (2) ((v17 24 0 5) + (1 : Int32))
      let v22 := mf_Mo_send v20 (3 : Int32) (v20 13 0 1) (0 : Int32) (v20 15 0 1)
      v22
    else
      if (v1 12 0 1) = (3 : Int32) then
        let v8 := fw_up v1 9 0 (0) (v1 25 0 ((3 : Int32) + (v1 20 0 1)).toNatClampNeg)
        let v11 := mf_Mo_send v8 (6 : Int32) (v8 13 0 1) (v8 20 0 1) (v8 15 0 1)
        v11
      else
        let v5 := mf_Mo_send v1 (8 : Int32) (v1 13 0 1) (0 : Int32) (v1 15 0 1)
        v5

theorem mca_Mo_ask_1 {v0 : fw_V} {i k : Nat} : mf_Mo_ask_1 v0 10 i k = v0 10 i k := by
  unfold mf_Mo_ask_1
  try dsimp only
  all_goals ((repeat' split) <;> simp [fw_up, fw_row, mca_Mo_send])
set_option maxHeartbeats 4000000 in
set_option maxRecDepth 100000 in
theorem mc_Mo_ask_1 (l : Launch) {D : va_G} {cA : Nat → ClassId} {ad : Nat → Nat → Nat} (hD : fw_D mCL ad) {b : Nat} (v0 : fw_V) (hI : mI b v0)   : Met l my_Mo_ask (Cond.code my_Mo_ask mb_Mo_ask 4 none :: vTB) mrm_Mo_ask (fw_Pc vNL D vcls (vtys cA) mCL cA mkd ad v0 [.ref (ad 0 0), .int (1 : Int32)]) (fw_Qv D vcls mCL cA mkd ad (mI b) (mf_Mo_ask_1 v0)) 0 0 (fw_A mCL ad) := by
  refine Met.ofW (cc := mb_Mo_ask) (maxL := 4) (ret := none) (by decide) rfl ?_
  intro p e s m args below meth c s₁ B hml hv
  obtain ⟨rfl, hP, hK, hN⟩ := hv
  have hx := B.exec
  have hb := B.bytes
  have hr := B.returns
  have hts : ∀ w ∈ vTB, w.before ([.ref (ad 0 0), .int (1 : Int32)] : List Value).toArray s = true := fun w h => atoms_spec (ws := (Cond.code my_Mo_ask mb_Mo_ask 4 none :: vTB)) B.pre w (List.mem_cons_of_mem _ h)
  have hown : s.vm.findClass R_Mo = some m.cls := findClass_of_methodNamed B.named
  have hlocks := B.notSynchronized
  have hS : va_S (fw_A mCL ad) s.heap s.heap [] := va_S.rf
  skip
  have hl := lv_entry ([.ref (ad 0 0), .int (1 : Int32)]) (n := 4) (Nat.le_of_ble_eq_true rfl)
  rw [lg_entry_eq]
  generalize (lg_sl ([.ref (ad 0 0), .int (1 : Int32)]) ++ List.replicate (4 - (lg_sl ([.ref (ad 0 0), .int (1 : Int32)])).length) Slot.unset).toArray = ls at hl ⊢
  have hl : lv_has ls 4 [(0, .ref (ad 0 0)), (1, .int (1 : Int32))] := hl
  refine lv_aload_n hx hb md_Mo_ask_0 rfl (lv_at hl 0 rfl) ?_
  refine fw_getr hx hb hts i_Mo hown hK hP (mm_0 (by decide)) (mk_0 0) rfl 17 (by decide) (hts _ L_Mo_59) (fun _ h9 => h9) rfl md_Mo_ask_1 ?_
  refine lv_iload_n hx hb md_Mo_ask_4 rfl (lv_at hl 1 rfl) ?_
  refine lv_iconst (v := (0 : Int32)) hx hb md_Mo_ask_5 (by decide) ?_
  refine fw_iast hx hb hK hD hP hS (mm_18 (by decide)) (mk_18 0) 0 rfl (j := 1) (by decide) (fw_inc (by decide)) md_Mo_ask_6 (fun v1 H locs ev1 hP hS => ?_)
  have hI : mI b v1 := by rw [ev1]; exact mI_up hI trivial trivial
  refine lv_iconst (v := (3 : Int32)) hx hb md_Mo_ask_7 (by decide) ?_
  refine lv_iload_n hx hb md_Mo_ask_8 rfl (lv_at hl 1 rfl) ?_
  refine lv_imul hx hb md_Mo_ask_9 ?_
  refine fw_top (y := (3 : Int32)) (by decide) ?_
  refine lv_istore_n (lv' := [(2, .int (3 : Int32)), (0, .ref (ad 0 0)), (1, .int (1 : Int32))]) hx hb md_Mo_ask_10 rfl hl (by decide) rfl (fun ls hl => ?_)
  refine lv_aload_n hx hb md_Mo_ask_11 rfl (lv_at hl 1 rfl) ?_
  refine fw_getr hx hb hts i_Mo hown hK hP (mm_0 (by decide)) (mk_0 0) rfl 11 (by decide) (hts _ L_Mo_41) (fun _ h9 => h9) rfl md_Mo_ask_12 ?_
  refine lv_iload_n hx hb md_Mo_ask_15 rfl (lv_at hl 2 rfl) ?_
  refine fw_iald hx hb hK hP (mm_12 (by decide)) (mk_12 0) 0 rfl (j := 1) (by decide) (fw_inc (by decide)) md_Mo_ask_16 ?_
  refine lv_iconst (v := (1 : Int32)) hx hb md_Mo_ask_17 (by decide) ?_
  refine lv_icmp_ne (tgt := 37) hx hb md_Mo_ask_18 (by decide) (fun c_2 => ?_) (fun c_2 => ?_)
  · refine lv_aload_n hx hb md_Mo_ask_37 rfl (lv_at hl 1 rfl) ?_
    refine fw_getr hx hb hts i_Mo hown hK hP (mm_0 (by decide)) (mk_0 0) rfl 11 (by decide) (hts _ L_Mo_41) (fun _ h9 => h9) rfl md_Mo_ask_38 ?_
    refine lv_iload_n hx hb md_Mo_ask_41 rfl (lv_at hl 2 rfl) ?_
    refine fw_iald hx hb hK hP (mm_12 (by decide)) (mk_12 0) 0 rfl (j := 1) (by decide) (fw_inc (by decide)) md_Mo_ask_42 ?_
    refine lv_iconst (v := (2 : Int32)) hx hb md_Mo_ask_43 (by decide) ?_
    refine lv_icmp_ne (tgt := 97) hx hb md_Mo_ask_44 (by decide) (fun c_3 => ?_) (fun c_3 => ?_)
    · refine lv_aload_n hx hb md_Mo_ask_97 rfl (lv_at hl 1 rfl) ?_
      refine fw_getr hx hb hts i_Mo hown hK hP (mm_0 (by decide)) (mk_0 0) rfl 11 (by decide) (hts _ L_Mo_41) (fun _ h9 => h9) rfl md_Mo_ask_98 ?_
      refine lv_iload_n hx hb md_Mo_ask_101 rfl (lv_at hl 2 rfl) ?_
      refine fw_iald hx hb hK hP (mm_12 (by decide)) (mk_12 0) 0 rfl (j := 1) (by decide) (fw_inc (by decide)) md_Mo_ask_102 ?_
      refine lv_iconst (v := (3 : Int32)) hx hb md_Mo_ask_103 (by decide) ?_
      refine lv_icmp_ne (tgt := 153) hx hb md_Mo_ask_104 (by decide) (fun c_4 => ?_) (fun c_4 => ?_)
      · refine lv_aload_n hx hb md_Mo_ask_153 rfl (lv_at hl 1 rfl) ?_
        refine lv_bipush (v := (8 : Int32)) hx hb md_Mo_ask_154 (by decide) ?_
        refine lv_aload_n hx hb md_Mo_ask_156 rfl (lv_at hl 1 rfl) ?_
        refine fw_getr hx hb hts i_Mo hown hK hP (mm_0 (by decide)) (mk_0 0) rfl 12 (by decide) (hts _ L_Mo_44) (fun _ h9 => h9) rfl md_Mo_ask_157 ?_
        refine lv_iload_n hx hb md_Mo_ask_160 rfl (lv_at hl 2 rfl) ?_
        refine fw_iald hx hb hK hP (mm_13 (by decide)) (mk_13 0) 0 rfl (j := 1) (by decide) (fw_inc (by decide)) md_Mo_ask_161 ?_
        refine lv_iconst (v := (0 : Int32)) hx hb md_Mo_ask_162 (by decide) ?_
        refine lv_aload_n hx hb md_Mo_ask_163 rfl (lv_at hl 1 rfl) ?_
        refine fw_getr hx hb hts i_Mo hown hK hP (mm_0 (by decide)) (mk_0 0) rfl 14 (by decide) (hts _ L_Mo_50) (fun _ h9 => h9) rfl md_Mo_ask_164 ?_
        refine lv_iload_n hx hb md_Mo_ask_167 rfl (lv_at hl 2 rfl) ?_
        refine fw_iald hx hb hK hP (mm_15 (by decide)) (mk_15 0) 0 rfl (j := 1) (by decide) (fw_inc (by decide)) md_Mo_ask_168 ?_
        refine fw_cv (va_runV (As := [.int (8 : Int32), .int (v1 13 0 1), .int (0 : Int32), .int (v1 15 0 1)]) (rest := []) ⟨hx, hb, hml, hown, hts⟩ (mc_Mo_send l hD v1 hI (8 : Int32) (v1 13 0 1) (0 : Int32) (v1 15 0 1) (fun q => absurd q (by decide)) (fun q => absurd q (by decide)) (fun q => absurd q (by decide))) (mw_Mo_send hts L_Mo_197 ⟨Nat.le_of_ble_eq_true rfl, Nat.le_of_ble_eq_true rfl⟩) (fw_preV hN hK hP (mm_0 (by decide)) (mk_0 0) rfl) rfl rfl hl.1 rfl (lv_room (Nat.le_of_ble_eq_true rfl)) md_Mo_ask_169 ⟨Nat.le_of_ble_eq_true rfl, Nat.le_of_ble_eq_true rfl⟩) hS (fun v5 H locs ev5 hI hP hS => ?_)
        exact fw_vret hx hb hr hlocks hS hP hI md_Mo_ask_172 (by subst ev1 ev5; simp only [mf_Mo_ask_1, if_neg c_2, if_neg c_3, if_neg c_4])
      · have h_6 : vp_in (v1 20 0 1) 3 := hI.2.2.1 1 c_4
        refine lv_aload_n hx hb md_Mo_ask_107 rfl (lv_at hl 1 rfl) ?_
        refine fw_getr hx hb hts i_Mo hown hK hP (mm_0 (by decide)) (mk_0 0) rfl 8 (by decide) (hts _ L_Mo_35) (fun _ h9 => h9) rfl md_Mo_ask_108 ?_
        refine lv_iconst (v := (0 : Int32)) hx hb md_Mo_ask_111 (by decide) ?_
        refine lv_aload_n hx hb md_Mo_ask_112 rfl (lv_at hl 1 rfl) ?_
        refine fw_getr hx hb hts i_Mo hown hK hP (mm_0 (by decide)) (mk_0 0) rfl 24 (by decide) (hts _ L_Mo_80) (fun _ h9 => h9) rfl md_Mo_ask_113 ?_
        refine lv_iload_n hx hb md_Mo_ask_116 rfl (lv_at hl 0 rfl) ?_
        refine lv_aload_n hx hb md_Mo_ask_117 rfl (lv_at hl 1 rfl) ?_
        refine fw_getr hx hb hts i_Mo hown hK hP (mm_0 (by decide)) (mk_0 0) rfl 19 (by decide) (hts _ L_Mo_65) (fun _ h9 => h9) rfl md_Mo_ask_118 ?_
        refine lv_iload_n hx hb md_Mo_ask_121 rfl (lv_at hl 2 rfl) ?_
        refine fw_iald hx hb hK hP (mm_20 (by decide)) (mk_20 0) 0 rfl (j := 1) (by decide) (fw_inc (by decide)) md_Mo_ask_122 ?_
        have h_7 : vp_in (v1 20 0 1) 4 := hI.1 20 0 (1)
        refine lv_iadd hx hb md_Mo_ask_123 ?_
        refine fw_iald hx hb hK hP (mm_25 (by decide)) (mk_25 0) 0 rfl (j := ((3 : Int32) + (v1 20 0 1)).toNatClampNeg) rfl (fw_inadd2 (n := 4) (m := 3) (t := 6) (fw_inc (by decide)) h_6 (by decide)) md_Mo_ask_124 ?_
        refine fw_iast hx hb hK hD hP hS (mm_9 (by decide)) (mk_9 0) 0 rfl (j := 0) (by decide) (fw_inc (by decide)) md_Mo_ask_125 (fun v8 H locs ev8 hP hS => ?_)
        have hI : mI b v8 := by rw [ev8]; exact mI_up hI trivial trivial
        refine lv_aload_n hx hb md_Mo_ask_126 rfl (lv_at hl 1 rfl) ?_
        refine lv_bipush (v := (6 : Int32)) hx hb md_Mo_ask_127 (by decide) ?_
        refine lv_aload_n hx hb md_Mo_ask_129 rfl (lv_at hl 1 rfl) ?_
        refine fw_getr hx hb hts i_Mo hown hK hP (mm_0 (by decide)) (mk_0 0) rfl 12 (by decide) (hts _ L_Mo_44) (fun _ h9 => h9) rfl md_Mo_ask_130 ?_
        refine lv_iload_n hx hb md_Mo_ask_133 rfl (lv_at hl 2 rfl) ?_
        refine fw_iald hx hb hK hP (mm_13 (by decide)) (mk_13 0) 0 rfl (j := 1) (by decide) (fw_inc (by decide)) md_Mo_ask_134 ?_
        refine lv_aload_n hx hb md_Mo_ask_135 rfl (lv_at hl 1 rfl) ?_
        refine fw_getr hx hb hts i_Mo hown hK hP (mm_0 (by decide)) (mk_0 0) rfl 19 (by decide) (hts _ L_Mo_65) (fun _ h9 => h9) rfl md_Mo_ask_136 ?_
        refine lv_iload_n hx hb md_Mo_ask_139 rfl (lv_at hl 2 rfl) ?_
        refine fw_iald hx hb hK hP (mm_20 (by decide)) (mk_20 0) 0 rfl (j := 1) (by decide) (fw_inc (by decide)) md_Mo_ask_140 ?_
        have h_9 : vp_in (v8 20 0 1) 3 := (by rw [ev8, fw_up_c (c := 9) (c' := 20) (by decide)]; exact h_6)
        have h_10 : vp_in (v8 20 0 1) 4 := hI.1 20 0 (1)
        refine lv_aload_n hx hb md_Mo_ask_141 rfl (lv_at hl 1 rfl) ?_
        refine fw_getr hx hb hts i_Mo hown hK hP (mm_0 (by decide)) (mk_0 0) rfl 14 (by decide) (hts _ L_Mo_50) (fun _ h9 => h9) rfl md_Mo_ask_142 ?_
        refine lv_iload_n hx hb md_Mo_ask_145 rfl (lv_at hl 2 rfl) ?_
        refine fw_iald hx hb hK hP (mm_15 (by decide)) (mk_15 0) 0 rfl (j := 1) (by decide) (fw_inc (by decide)) md_Mo_ask_146 ?_
        refine fw_cv (va_runV (As := [.int (6 : Int32), .int (v8 13 0 1), .int (v8 20 0 1), .int (v8 15 0 1)]) (rest := []) ⟨hx, hb, hml, hown, hts⟩ (mc_Mo_send l hD v8 hI (6 : Int32) (v8 13 0 1) (v8 20 0 1) (v8 15 0 1) (fun q => absurd q (by decide)) (fun _ => h_9) (fun q => absurd q (by decide))) (mw_Mo_send hts L_Mo_197 ⟨Nat.le_of_ble_eq_true rfl, Nat.le_of_ble_eq_true rfl⟩) (fw_preV hN hK hP (mm_0 (by decide)) (mk_0 0) rfl) rfl rfl hl.1 rfl (lv_room (Nat.le_of_ble_eq_true rfl)) md_Mo_ask_147 ⟨Nat.le_of_ble_eq_true rfl, Nat.le_of_ble_eq_true rfl⟩) hS (fun v11 H locs ev11 hI hP hS => ?_)
        refine lv_goto (tgt := 172) hx hb md_Mo_ask_150 (by decide) ?_
        exact fw_vret hx hb hr hlocks hS hP hI md_Mo_ask_172 (by subst ev1 ev8 ev11; simp only [mf_Mo_ask_1, if_neg c_2, if_neg c_3, if_pos c_4])
    · refine lv_iconst (v := (0 : Int32)) hx hb md_Mo_ask_47 (by decide) ?_
      refine lv_istore_n (lv' := [(3, .int (0 : Int32)), (2, .int (3 : Int32)), (0, .ref (ad 0 0)), (1, .int (1 : Int32))]) hx hb md_Mo_ask_48 rfl hl (by decide) rfl (fun ls hl => ?_)
      refine lv_iload_n hx hb md_Mo_ask_49 rfl (lv_at hl 0 rfl) ?_
      refine lv_iconst (v := (3 : Int32)) hx hb md_Mo_ask_50 (by decide) ?_
      refine lv_icmp_ge (tgt := 76) hx hb md_Mo_ask_51 (by decide) (fun c_12 => absurd c_12 (by decide)) (fun _ => ?_)
      refine lv_aload_n hx hb md_Mo_ask_54 rfl (lv_at hl 2 rfl) ?_
      refine fw_getr hx hb hts i_Mo hown hK hP (mm_0 (by decide)) (mk_0 0) rfl 8 (by decide) (hts _ L_Mo_35) (fun _ h9 => h9) rfl md_Mo_ask_55 ?_
      refine lv_iload_n hx hb md_Mo_ask_58 rfl (lv_at hl 0 rfl) ?_
      refine lv_aload_n hx hb md_Mo_ask_59 rfl (lv_at hl 2 rfl) ?_
      refine fw_getr hx hb hts i_Mo hown hK hP (mm_0 (by decide)) (mk_0 0) rfl 23 (by decide) (hts _ L_Mo_77) (fun _ h9 => h9) rfl md_Mo_ask_60 ?_
      refine lv_iload_n hx hb md_Mo_ask_63 rfl (lv_at hl 1 rfl) ?_
      refine lv_iload_n hx hb md_Mo_ask_64 rfl (lv_at hl 0 rfl) ?_
      refine lv_iadd hx hb md_Mo_ask_65 ?_
      refine fw_top (y := (3 : Int32)) (by decide) ?_
      refine fw_iald hx hb hK hP (mm_24 (by decide)) (mk_24 0) 0 rfl (j := 3) (by decide) (fw_inc (by decide)) md_Mo_ask_66 ?_
      have h_13 : vp_in ((v1 24 0 3) + 1) 9 := hI.1 24 0 (3)
      refine lv_iconst (v := (1 : Int32)) hx hb md_Mo_ask_67 (by decide) ?_
      refine lv_iadd hx hb md_Mo_ask_68 ?_
      refine fw_iast hx hb hK hD hP hS (mm_9 (by decide)) (mk_9 0) 0 rfl (j := 0) (by decide) (fw_inc (by decide)) md_Mo_ask_69 (fun v14 H locs ev14 hP hS => ?_)
      have hI : mI b v14 := by rw [ev14]; exact mI_up hI trivial trivial
      refine lv_iinc (v := (1 : Int32)) (lv' := [(3, .int (1 : Int32)), (2, .int (3 : Int32)), (0, .ref (ad 0 0)), (1, .int (1 : Int32))]) hx hb md_Mo_ask_70 hl (k := 0) rfl (by decide) (by decide) rfl (fun ls hl => ?_)
      refine lv_goto (tgt := 49) hx hb md_Mo_ask_73 (by decide) ?_
      refine lv_iload_n hx hb md_Mo_ask_49 rfl (lv_at hl 0 rfl) ?_
      refine lv_iconst (v := (3 : Int32)) hx hb md_Mo_ask_50 (by decide) ?_
      refine lv_icmp_ge (tgt := 76) hx hb md_Mo_ask_51 (by decide) (fun c_15 => absurd c_15 (by decide)) (fun _ => ?_)
      refine lv_aload_n hx hb md_Mo_ask_54 rfl (lv_at hl 2 rfl) ?_
      refine fw_getr hx hb hts i_Mo hown hK hP (mm_0 (by decide)) (mk_0 0) rfl 8 (by decide) (hts _ L_Mo_35) (fun _ h9 => h9) rfl md_Mo_ask_55 ?_
      refine lv_iload_n hx hb md_Mo_ask_58 rfl (lv_at hl 0 rfl) ?_
      refine lv_aload_n hx hb md_Mo_ask_59 rfl (lv_at hl 2 rfl) ?_
      refine fw_getr hx hb hts i_Mo hown hK hP (mm_0 (by decide)) (mk_0 0) rfl 23 (by decide) (hts _ L_Mo_77) (fun _ h9 => h9) rfl md_Mo_ask_60 ?_
      refine lv_iload_n hx hb md_Mo_ask_63 rfl (lv_at hl 1 rfl) ?_
      refine lv_iload_n hx hb md_Mo_ask_64 rfl (lv_at hl 0 rfl) ?_
      refine lv_iadd hx hb md_Mo_ask_65 ?_
      refine fw_top (y := (4 : Int32)) (by decide) ?_
      refine fw_iald hx hb hK hP (mm_24 (by decide)) (mk_24 0) 0 rfl (j := 4) (by decide) (fw_inc (by decide)) md_Mo_ask_66 ?_
      have h_16 : vp_in ((v14 24 0 4) + 1) 9 := hI.1 24 0 (4)
      refine lv_iconst (v := (1 : Int32)) hx hb md_Mo_ask_67 (by decide) ?_
      refine lv_iadd hx hb md_Mo_ask_68 ?_
      refine fw_iast hx hb hK hD hP hS (mm_9 (by decide)) (mk_9 0) 0 rfl (j := 1) (by decide) (fw_inc (by decide)) md_Mo_ask_69 (fun v17 H locs ev17 hP hS => ?_)
      have hI : mI b v17 := by rw [ev17]; exact mI_up hI trivial trivial
      refine lv_iinc (v := (2 : Int32)) (lv' := [(3, .int (2 : Int32)), (2, .int (3 : Int32)), (0, .ref (ad 0 0)), (1, .int (1 : Int32))]) hx hb md_Mo_ask_70 hl (k := 0) rfl (by decide) (by decide) rfl (fun ls hl => ?_)
      refine lv_goto (tgt := 49) hx hb md_Mo_ask_73 (by decide) ?_
      refine lv_iload_n hx hb md_Mo_ask_49 rfl (lv_at hl 0 rfl) ?_
      refine lv_iconst (v := (3 : Int32)) hx hb md_Mo_ask_50 (by decide) ?_
      refine lv_icmp_ge (tgt := 76) hx hb md_Mo_ask_51 (by decide) (fun c_18 => absurd c_18 (by decide)) (fun _ => ?_)
      refine lv_aload_n hx hb md_Mo_ask_54 rfl (lv_at hl 2 rfl) ?_
      refine fw_getr hx hb hts i_Mo hown hK hP (mm_0 (by decide)) (mk_0 0) rfl 8 (by decide) (hts _ L_Mo_35) (fun _ h9 => h9) rfl md_Mo_ask_55 ?_
      refine lv_iload_n hx hb md_Mo_ask_58 rfl (lv_at hl 0 rfl) ?_
      refine lv_aload_n hx hb md_Mo_ask_59 rfl (lv_at hl 2 rfl) ?_
      refine fw_getr hx hb hts i_Mo hown hK hP (mm_0 (by decide)) (mk_0 0) rfl 23 (by decide) (hts _ L_Mo_77) (fun _ h9 => h9) rfl md_Mo_ask_60 ?_
      refine lv_iload_n hx hb md_Mo_ask_63 rfl (lv_at hl 1 rfl) ?_
      refine lv_iload_n hx hb md_Mo_ask_64 rfl (lv_at hl 0 rfl) ?_
      refine lv_iadd hx hb md_Mo_ask_65 ?_
      refine fw_top (y := (5 : Int32)) (by decide) ?_
      refine fw_iald hx hb hK hP (mm_24 (by decide)) (mk_24 0) 0 rfl (j := 5) (by decide) (fw_inc (by decide)) md_Mo_ask_66 ?_
      have h_19 : vp_in ((v17 24 0 5) + 1) 9 := hI.1 24 0 (5)
      refine lv_iconst (v := (1 : Int32)) hx hb md_Mo_ask_67 (by decide) ?_
      refine lv_iadd hx hb md_Mo_ask_68 ?_
      refine fw_iast hx hb hK hD hP hS (mm_9 (by decide)) (mk_9 0) 0 rfl (j := 2) (by decide) (fw_inc (by decide)) md_Mo_ask_69 (fun v20 H locs ev20 hP hS => ?_)
      have hI : mI b v20 := by rw [ev20]; exact mI_up hI trivial trivial
      refine lv_iinc (v := (3 : Int32)) (lv' := [(3, .int (3 : Int32)), (2, .int (3 : Int32)), (0, .ref (ad 0 0)), (1, .int (1 : Int32))]) hx hb md_Mo_ask_70 hl (k := 0) rfl (by decide) (by decide) rfl (fun ls hl => ?_)
      refine lv_goto (tgt := 49) hx hb md_Mo_ask_73 (by decide) ?_
      refine lv_iload_n hx hb md_Mo_ask_49 rfl (lv_at hl 0 rfl) ?_
      refine lv_iconst (v := (3 : Int32)) hx hb md_Mo_ask_50 (by decide) ?_
      refine lv_icmp_ge (tgt := 76) hx hb md_Mo_ask_51 (by decide) (fun _ => ?_) (fun c_21 => absurd (by decide) c_21)
      refine lv_aload_n hx hb md_Mo_ask_76 rfl (lv_at hl 2 rfl) ?_
      refine lv_iconst (v := (3 : Int32)) hx hb md_Mo_ask_77 (by decide) ?_
      refine lv_aload_n hx hb md_Mo_ask_78 rfl (lv_at hl 2 rfl) ?_
      refine fw_getr hx hb hts i_Mo hown hK hP (mm_0 (by decide)) (mk_0 0) rfl 12 (by decide) (hts _ L_Mo_44) (fun _ h9 => h9) rfl md_Mo_ask_79 ?_
      refine lv_iload_n hx hb md_Mo_ask_82 rfl (lv_at hl 3 rfl) ?_
      refine fw_iald hx hb hK hP (mm_13 (by decide)) (mk_13 0) 0 rfl (j := 1) (by decide) (fw_inc (by decide)) md_Mo_ask_83 ?_
      refine lv_iconst (v := (0 : Int32)) hx hb md_Mo_ask_84 (by decide) ?_
      refine lv_aload_n hx hb md_Mo_ask_85 rfl (lv_at hl 2 rfl) ?_
      refine fw_getr hx hb hts i_Mo hown hK hP (mm_0 (by decide)) (mk_0 0) rfl 14 (by decide) (hts _ L_Mo_50) (fun _ h9 => h9) rfl md_Mo_ask_86 ?_
      refine lv_iload_n hx hb md_Mo_ask_89 rfl (lv_at hl 3 rfl) ?_
      refine fw_iald hx hb hK hP (mm_15 (by decide)) (mk_15 0) 0 rfl (j := 1) (by decide) (fw_inc (by decide)) md_Mo_ask_90 ?_
      refine fw_cv (va_runV (As := [.int (3 : Int32), .int (v20 13 0 1), .int (0 : Int32), .int (v20 15 0 1)]) (rest := []) ⟨hx, hb, hml, hown, hts⟩ (mc_Mo_send l hD v20 hI (3 : Int32) (v20 13 0 1) (0 : Int32) (v20 15 0 1) (fun q => absurd q (by decide)) (fun q => absurd q (by decide)) (fun _ => ⟨by rw [ev20, fw_up_k (k := 2) (k' := 0) (by decide), ev17, fw_up_k (k := 1) (k' := 0) (by decide), ev14, fw_up_s]; exact h_13, by rw [ev20, fw_up_k (k := 2) (k' := 1) (by decide), ev17, fw_up_s]; exact h_16, by rw [ev20, fw_up_s]; exact h_19⟩)) (mw_Mo_send hts L_Mo_197 ⟨Nat.le_of_ble_eq_true rfl, Nat.le_of_ble_eq_true rfl⟩) (fw_preV hN hK hP (mm_0 (by decide)) (mk_0 0) rfl) rfl rfl hl.1 rfl (lv_room (Nat.le_of_ble_eq_true rfl)) md_Mo_ask_91 ⟨Nat.le_of_ble_eq_true rfl, Nat.le_of_ble_eq_true rfl⟩) hS (fun v22 H locs ev22 hI hP hS => ?_)
      refine lv_goto (tgt := 172) hx hb md_Mo_ask_94 (by decide) ?_
      exact fw_vret hx hb hr hlocks hS hP hI md_Mo_ask_172 (by subst ev1 ev14 ev17 ev20 ev22; simp only [mf_Mo_ask_1, if_neg c_2, if_pos c_3])
  · refine lv_aload_n hx hb md_Mo_ask_21 rfl (lv_at hl 1 rfl) ?_
    refine lv_iconst (v := (1 : Int32)) hx hb md_Mo_ask_22 (by decide) ?_
    refine lv_iconst (v := (0 : Int32)) hx hb md_Mo_ask_23 (by decide) ?_
    refine lv_aload_n hx hb md_Mo_ask_24 rfl (lv_at hl 1 rfl) ?_
    refine fw_getr hx hb hts i_Mo hown hK hP (mm_0 (by decide)) (mk_0 0) rfl 13 (by decide) (hts _ L_Mo_47) (fun _ h9 => h9) rfl md_Mo_ask_25 ?_
    refine lv_iload_n hx hb md_Mo_ask_28 rfl (lv_at hl 2 rfl) ?_
    refine fw_iald hx hb hK hP (mm_14 (by decide)) (mk_14 0) 0 rfl (j := 1) (by decide) (fw_inc (by decide)) md_Mo_ask_29 ?_
    refine lv_iconst (v := (3 : Int32)) hx hb md_Mo_ask_30 (by decide) ?_
    refine fw_cv (va_runV (As := [.int (1 : Int32), .int (0 : Int32), .int (v1 14 0 1), .int (3 : Int32)]) (rest := []) ⟨hx, hb, hml, hown, hts⟩ (mc_Mo_send l hD v1 hI (1 : Int32) (0 : Int32) (v1 14 0 1) (3 : Int32) (fun q => absurd q (by decide)) (fun q => absurd q (by decide)) (fun q => absurd q (by decide))) (mw_Mo_send hts L_Mo_197 ⟨Nat.le_of_ble_eq_true rfl, Nat.le_of_ble_eq_true rfl⟩) (fw_preV hN hK hP (mm_0 (by decide)) (mk_0 0) rfl) rfl rfl hl.1 rfl (lv_room (Nat.le_of_ble_eq_true rfl)) md_Mo_ask_31 ⟨Nat.le_of_ble_eq_true rfl, Nat.le_of_ble_eq_true rfl⟩) hS (fun v23 H locs ev23 hI hP hS => ?_)
    refine lv_goto (tgt := 172) hx hb md_Mo_ask_34 (by decide) ?_
    exact fw_vret hx hb hr hlocks hS hP hI md_Mo_ask_172 (by subst ev1 ev23; simp only [mf_Mo_ask_1, if_pos c_2])
def mf_Mo_write_0_j2 (v : fw_V) (a2 : Int32) (x3 : Int32) : fw_V :=
  if (3 : Int32) ≤ x3 then
    let v3 := mf_Mo_enter_0 v (4 : Int32)
    let v4 := fw_up v3 20 0 (0) x3
    let v5 := mf_Mo_ask_0 v4
    v5
  else
    let v7 := mf_Mo_enter_0 v (3 : Int32)
    let v8 := fw_up v7 20 0 (0) x3
    let v9 := mf_Mo_ask_0 v8
    v9
def mf_Mo_write_0_j3 (v : fw_V) (a2 : Int32) (x3 : Int32) : fw_V :=
  if (3 : Int32) ≤ x3 then
    let v17 := mf_Mo_enter_0 v (4 : Int32)
    let v18 := fw_up v17 20 0 (0) x3
    let v19 := mf_Mo_ask_0 v18
    v19
  else
    let v21 := mf_Mo_enter_0 v (3 : Int32)
    let v22 := fw_up v21 20 0 (0) x3
    let v23 := mf_Mo_ask_0 v22
    v23
def mf_Mo_write_0_j1 : Nat → fw_V → Int32 → Int32 → fw_V
  | 0, v, a2, x3 => v
  | n + 1, v, a2, x3 =>
    if (3 : Int32) ≤ x3 then
      mf_Mo_write_0_j2 v a2 (x3)
    else
      if (v 24 0 ((0 : Int32) + x3).toNatClampNeg) < (0 : Int32) then
        mf_Mo_write_0_j1 n v a2 ((x3 + (1 : Int32)))
      else
        if (v 3 0 (v 24 0 ((0 : Int32) + x3).toNatClampNeg).toNatClampNeg) = (0 : Int32) then
          mf_Mo_write_0_j1 n v a2 ((x3 + (1 : Int32)))
        else
          if (((v 16 0 0) >>> (x3 &&& 31)) &&& (1 : Int32)) = (1 : Int32) then
            mf_Mo_write_0_j1 n v a2 ((x3 + (1 : Int32)))
          else
            mf_Mo_write_0_j3 v a2 (x3)
def mf_Mo_write_0 (v0 : fw_V) (a2 : Int32) : fw_V :=
  mf_Mo_write_0_j1 6 v0 a2 (a2)

theorem mca_Mo_write_0_j2 {v : fw_V} {a2 : Int32} {x3 : Int32} {i k : Nat} : mf_Mo_write_0_j2 v a2 x3 10 i k = v 10 i k := by
  unfold mf_Mo_write_0_j2
  try dsimp only
  all_goals ((repeat' split) <;> simp [fw_up, fw_row, mca_Mo_enter_0, mca_Mo_ask_0])
theorem mca_Mo_write_0_j3 {v : fw_V} {a2 : Int32} {x3 : Int32} {i k : Nat} : mf_Mo_write_0_j3 v a2 x3 10 i k = v 10 i k := by
  unfold mf_Mo_write_0_j3
  try dsimp only
  all_goals ((repeat' split) <;> simp [fw_up, fw_row, mca_Mo_enter_0, mca_Mo_ask_0])
theorem mca_Mo_write_0_j1 {i k : Nat} : ∀ (n : Nat) (v : fw_V) (a2 : Int32) (x3 : Int32), mf_Mo_write_0_j1 n v a2 x3 10 i k = v 10 i k := by
  intro n
  induction n with
  | zero => intros; rfl
  | succ n ih =>
    intro v a2 x3
    unfold mf_Mo_write_0_j1
    try dsimp only
    all_goals ((repeat' split) <;> simp [fw_up, fw_row, ih, mca_Mo_write_0_j2, mca_Mo_write_0_j3])
theorem mca_Mo_write_0 {v0 : fw_V} {a2 : Int32} {i k : Nat} : mf_Mo_write_0 v0 a2 10 i k = v0 10 i k := by
  unfold mf_Mo_write_0
  try dsimp only
  all_goals ((repeat' split) <;> simp [fw_up, fw_row, mca_Mo_write_0_j1])
set_option maxHeartbeats 4000000 in
set_option maxRecDepth 100000 in
theorem mc_Mo_write_0 (l : Launch) {D : va_G} {cA : Nat → ClassId} {ad : Nat → Nat → Nat} (hD : fw_D mCL ad) {b : Nat} (v0 : fw_V) (hI : mI b v0) (a2 : Int32) (hq0 : vp_in a2 4) : Met l my_Mo_write (Cond.code my_Mo_write mb_Mo_write 4 none :: vTB) mrm_Mo_write (fw_Pc vNL D vcls (vtys cA) mCL cA mkd ad v0 [.ref (ad 0 0), .int (0 : Int32), .int a2]) (fw_Qv D vcls mCL cA mkd ad (mI b) (mf_Mo_write_0 v0 a2)) 0 0 (fw_A mCL ad) := by
  refine Met.ofW (cc := mb_Mo_write) (maxL := 4) (ret := none) (by decide) rfl ?_
  intro p e s m args below meth c s₁ B hml hv
  obtain ⟨rfl, hP, hK, hN⟩ := hv
  have hx := B.exec
  have hb := B.bytes
  have hr := B.returns
  have hts : ∀ w ∈ vTB, w.before ([.ref (ad 0 0), .int (0 : Int32), .int a2] : List Value).toArray s = true := fun w h => atoms_spec (ws := (Cond.code my_Mo_write mb_Mo_write 4 none :: vTB)) B.pre w (List.mem_cons_of_mem _ h)
  have hown : s.vm.findClass R_Mo = some m.cls := findClass_of_methodNamed B.named
  have hlocks := B.notSynchronized
  have hS : va_S (fw_A mCL ad) s.heap s.heap [] := va_S.rf
  have J2 : ∀ (v : fw_V) (x3 : Int32) (H : Heap) (locs : List Loc) (ls : Array Slot), mf_Mo_write_0 v0 a2 = mf_Mo_write_0_j2 v a2 x3 → vp_in x3 4 → mI b v → va_P D vcls (fw_w mCL cA mkd ad v) H → va_S (fw_A mCL ad) s.heap H locs → lv_has ls 4 [(0, .ref (ad 0 0)), (1, .int (0 : Int32)), (3, .int x3)] → W p l e (headSpec (Cond.code my_Mo_write mb_Mo_write 4 none :: vTB) mrm_Mo_write).room s m ([.ref (ad 0 0), .int (0 : Int32), .int a2] : List Value).toArray below meth c H locs 0 0 (MQ below (fw_Qv D vcls mCL cA mkd ad (mI b) (mf_Mo_write_0 v0 a2)) ([.ref (ad 0 0), .int (0 : Int32), .int a2] : List Value).toArray s 0 0 (fw_A mCL ad)) (F0 m 58 ls []) := by
    intro v x3 H locs ls hj hc0 hI hP hS hl
    refine lv_aload_n hx hb md_Mo_write_58 rfl (lv_at hl 0 rfl) ?_
    refine lv_iload_n hx hb md_Mo_write_59 rfl (lv_at hl 1 rfl) ?_
    refine lv_iload_n hx hb md_Mo_write_60 rfl (lv_at hl 2 rfl) ?_
    refine lv_iconst (v := (3 : Int32)) hx hb md_Mo_write_61 (by decide) ?_
    refine lv_icmp_ge (tgt := 69) hx hb md_Mo_write_62 (by decide) (fun c_2 => ?_) (fun c_2 => ?_)
    · refine lv_iconst (v := (4 : Int32)) hx hb md_Mo_write_69 (by decide) ?_
      refine fw_cv (va_runV (As := [.int (0 : Int32), .int (4 : Int32)]) (rest := []) ⟨hx, hb, hml, hown, hts⟩ (mc_Mo_enter_0 l hD (b := b) v (4 : Int32) (fun _ => True) trivial) (mw_Mo_enter hts L_Mo_200 ⟨Nat.le_of_ble_eq_true rfl, Nat.le_of_ble_eq_true rfl⟩) (fw_preV hN hK hP (mm_0 (by decide)) (mk_0 0) rfl) rfl rfl hl.1 rfl (lv_room (Nat.le_of_ble_eq_true rfl)) md_Mo_write_70 ⟨Nat.le_of_ble_eq_true rfl, Nat.le_of_ble_eq_true rfl⟩) hS (fun v3 H locs ev3 _ hP hS => ?_)
      refine lv_aload_n hx hb md_Mo_write_73 rfl (lv_at hl 0 rfl) ?_
      refine fw_getr hx hb hts i_Mo hown hK hP (mm_0 (by decide)) (mk_0 0) rfl 19 (by decide) (hts _ L_Mo_65) (fun _ h9 => h9) rfl md_Mo_write_74 ?_
      refine lv_iload_n hx hb md_Mo_write_77 rfl (lv_at hl 1 rfl) ?_
      refine lv_iload_n hx hb md_Mo_write_78 rfl (lv_at hl 2 rfl) ?_
      refine fw_iast hx hb hK hD hP hS (mm_20 (by decide)) (mk_20 0) 0 rfl (j := 0) (by decide) (fw_inc (by decide)) md_Mo_write_79 (fun v4 H locs ev4 hP hS => ?_)
      have hI : mI b v4 := by rw [ev4, ev3]; exact mI_write_0 hI hc0 (fun h => absurd h (by decide))
      refine lv_aload_n hx hb md_Mo_write_80 rfl (lv_at hl 0 rfl) ?_
      refine lv_iload_n hx hb md_Mo_write_81 rfl (lv_at hl 1 rfl) ?_
      refine fw_cv (va_runV (As := [.int (0 : Int32)]) (rest := []) ⟨hx, hb, hml, hown, hts⟩ (mc_Mo_ask_0 l hD v4 hI ) (mw_Mo_ask hts L_Mo_213 ⟨Nat.le_of_ble_eq_true rfl, Nat.le_of_ble_eq_true rfl⟩) (fw_preV hN hK hP (mm_0 (by decide)) (mk_0 0) rfl) rfl rfl hl.1 rfl (lv_room (Nat.le_of_ble_eq_true rfl)) md_Mo_write_82 ⟨Nat.le_of_ble_eq_true rfl, Nat.le_of_ble_eq_true rfl⟩) hS (fun v5 H locs ev5 hI hP hS => ?_)
      exact fw_vret hx hb hr hlocks hS hP hI md_Mo_write_85 (by rw [hj]; subst ev3 ev4 ev5; simp only [mf_Mo_write_0_j2, if_pos c_2])
    · have h_6 : vp_in x3 3 := fw_in1 hc0 c_2
      refine lv_iconst (v := (3 : Int32)) hx hb md_Mo_write_65 (by decide) ?_
      refine lv_goto (tgt := 70) hx hb md_Mo_write_66 (by decide) ?_
      refine fw_cv (va_runV (As := [.int (0 : Int32), .int (3 : Int32)]) (rest := []) ⟨hx, hb, hml, hown, hts⟩ (mc_Mo_enter_0 l hD (b := b) v (3 : Int32) (fun _ => True) trivial) (mw_Mo_enter hts L_Mo_200 ⟨Nat.le_of_ble_eq_true rfl, Nat.le_of_ble_eq_true rfl⟩) (fw_preV hN hK hP (mm_0 (by decide)) (mk_0 0) rfl) rfl rfl hl.1 rfl (lv_room (Nat.le_of_ble_eq_true rfl)) md_Mo_write_70 ⟨Nat.le_of_ble_eq_true rfl, Nat.le_of_ble_eq_true rfl⟩) hS (fun v7 H locs ev7 _ hP hS => ?_)
      refine lv_aload_n hx hb md_Mo_write_73 rfl (lv_at hl 0 rfl) ?_
      refine fw_getr hx hb hts i_Mo hown hK hP (mm_0 (by decide)) (mk_0 0) rfl 19 (by decide) (hts _ L_Mo_65) (fun _ h9 => h9) rfl md_Mo_write_74 ?_
      refine lv_iload_n hx hb md_Mo_write_77 rfl (lv_at hl 1 rfl) ?_
      refine lv_iload_n hx hb md_Mo_write_78 rfl (lv_at hl 2 rfl) ?_
      refine fw_iast hx hb hK hD hP hS (mm_20 (by decide)) (mk_20 0) 0 rfl (j := 0) (by decide) (fw_inc (by decide)) md_Mo_write_79 (fun v8 H locs ev8 hP hS => ?_)
      have hI : mI b v8 := by rw [ev8, ev7]; exact mI_write_0 hI hc0 (fun _ => h_6)
      refine lv_aload_n hx hb md_Mo_write_80 rfl (lv_at hl 0 rfl) ?_
      refine lv_iload_n hx hb md_Mo_write_81 rfl (lv_at hl 1 rfl) ?_
      refine fw_cv (va_runV (As := [.int (0 : Int32)]) (rest := []) ⟨hx, hb, hml, hown, hts⟩ (mc_Mo_ask_0 l hD v8 hI ) (mw_Mo_ask hts L_Mo_213 ⟨Nat.le_of_ble_eq_true rfl, Nat.le_of_ble_eq_true rfl⟩) (fw_preV hN hK hP (mm_0 (by decide)) (mk_0 0) rfl) rfl rfl hl.1 rfl (lv_room (Nat.le_of_ble_eq_true rfl)) md_Mo_write_82 ⟨Nat.le_of_ble_eq_true rfl, Nat.le_of_ble_eq_true rfl⟩) hS (fun v9 H locs ev9 hI hP hS => ?_)
      exact fw_vret hx hb hr hlocks hS hP hI md_Mo_write_85 (by rw [hj]; subst ev7 ev8 ev9; simp only [mf_Mo_write_0_j2, if_neg c_2])
  have J3 : ∀ (v : fw_V) (x3 : Int32) (H : Heap) (locs : List Loc) (ls : Array Slot), mf_Mo_write_0 v0 a2 = mf_Mo_write_0_j3 v a2 x3 → vp_in x3 3 → mI b v → va_P D vcls (fw_w mCL cA mkd ad v) H → va_S (fw_A mCL ad) s.heap H locs → lv_has ls 4 [(0, .ref (ad 0 0)), (1, .int (0 : Int32)), (3, .int x3)] → W p l e (headSpec (Cond.code my_Mo_write mb_Mo_write 4 none :: vTB) mrm_Mo_write).room s m ([.ref (ad 0 0), .int (0 : Int32), .int a2] : List Value).toArray below meth c H locs 0 0 (MQ below (fw_Qv D vcls mCL cA mkd ad (mI b) (mf_Mo_write_0 v0 a2)) ([.ref (ad 0 0), .int (0 : Int32), .int a2] : List Value).toArray s 0 0 (fw_A mCL ad)) (F0 m 58 ls []) := by
    intro v x3 H locs ls hj hc0 hI hP hS hl
    clear J2
    refine lv_aload_n hx hb md_Mo_write_58 rfl (lv_at hl 0 rfl) ?_
    refine lv_iload_n hx hb md_Mo_write_59 rfl (lv_at hl 1 rfl) ?_
    refine lv_iload_n hx hb md_Mo_write_60 rfl (lv_at hl 2 rfl) ?_
    refine lv_iconst (v := (3 : Int32)) hx hb md_Mo_write_61 (by decide) ?_
    refine lv_icmp_ge (tgt := 69) hx hb md_Mo_write_62 (by decide) (fun c_16 => ?_) (fun c_16 => ?_)
    · refine lv_iconst (v := (4 : Int32)) hx hb md_Mo_write_69 (by decide) ?_
      refine fw_cv (va_runV (As := [.int (0 : Int32), .int (4 : Int32)]) (rest := []) ⟨hx, hb, hml, hown, hts⟩ (mc_Mo_enter_0 l hD (b := b) v (4 : Int32) (fun _ => True) trivial) (mw_Mo_enter hts L_Mo_200 ⟨Nat.le_of_ble_eq_true rfl, Nat.le_of_ble_eq_true rfl⟩) (fw_preV hN hK hP (mm_0 (by decide)) (mk_0 0) rfl) rfl rfl hl.1 rfl (lv_room (Nat.le_of_ble_eq_true rfl)) md_Mo_write_70 ⟨Nat.le_of_ble_eq_true rfl, Nat.le_of_ble_eq_true rfl⟩) hS (fun v17 H locs ev17 _ hP hS => ?_)
      refine lv_aload_n hx hb md_Mo_write_73 rfl (lv_at hl 0 rfl) ?_
      refine fw_getr hx hb hts i_Mo hown hK hP (mm_0 (by decide)) (mk_0 0) rfl 19 (by decide) (hts _ L_Mo_65) (fun _ h9 => h9) rfl md_Mo_write_74 ?_
      refine lv_iload_n hx hb md_Mo_write_77 rfl (lv_at hl 1 rfl) ?_
      refine lv_iload_n hx hb md_Mo_write_78 rfl (lv_at hl 2 rfl) ?_
      refine fw_iast hx hb hK hD hP hS (mm_20 (by decide)) (mk_20 0) 0 rfl (j := 0) (by decide) (fw_inc (by decide)) md_Mo_write_79 (fun v18 H locs ev18 hP hS => ?_)
      have hI : mI b v18 := by rw [ev18, ev17]; exact mI_write_0 hI (fw_inm hc0 (by decide)) (fun h => absurd h (by decide))
      refine lv_aload_n hx hb md_Mo_write_80 rfl (lv_at hl 0 rfl) ?_
      refine lv_iload_n hx hb md_Mo_write_81 rfl (lv_at hl 1 rfl) ?_
      refine fw_cv (va_runV (As := [.int (0 : Int32)]) (rest := []) ⟨hx, hb, hml, hown, hts⟩ (mc_Mo_ask_0 l hD v18 hI ) (mw_Mo_ask hts L_Mo_213 ⟨Nat.le_of_ble_eq_true rfl, Nat.le_of_ble_eq_true rfl⟩) (fw_preV hN hK hP (mm_0 (by decide)) (mk_0 0) rfl) rfl rfl hl.1 rfl (lv_room (Nat.le_of_ble_eq_true rfl)) md_Mo_write_82 ⟨Nat.le_of_ble_eq_true rfl, Nat.le_of_ble_eq_true rfl⟩) hS (fun v19 H locs ev19 hI hP hS => ?_)
      exact fw_vret hx hb hr hlocks hS hP hI md_Mo_write_85 (by rw [hj]; subst ev17 ev18 ev19; simp only [mf_Mo_write_0_j3, if_pos c_16])
    · refine lv_iconst (v := (3 : Int32)) hx hb md_Mo_write_65 (by decide) ?_
      refine lv_goto (tgt := 70) hx hb md_Mo_write_66 (by decide) ?_
      refine fw_cv (va_runV (As := [.int (0 : Int32), .int (3 : Int32)]) (rest := []) ⟨hx, hb, hml, hown, hts⟩ (mc_Mo_enter_0 l hD (b := b) v (3 : Int32) (fun _ => True) trivial) (mw_Mo_enter hts L_Mo_200 ⟨Nat.le_of_ble_eq_true rfl, Nat.le_of_ble_eq_true rfl⟩) (fw_preV hN hK hP (mm_0 (by decide)) (mk_0 0) rfl) rfl rfl hl.1 rfl (lv_room (Nat.le_of_ble_eq_true rfl)) md_Mo_write_70 ⟨Nat.le_of_ble_eq_true rfl, Nat.le_of_ble_eq_true rfl⟩) hS (fun v21 H locs ev21 _ hP hS => ?_)
      refine lv_aload_n hx hb md_Mo_write_73 rfl (lv_at hl 0 rfl) ?_
      refine fw_getr hx hb hts i_Mo hown hK hP (mm_0 (by decide)) (mk_0 0) rfl 19 (by decide) (hts _ L_Mo_65) (fun _ h9 => h9) rfl md_Mo_write_74 ?_
      refine lv_iload_n hx hb md_Mo_write_77 rfl (lv_at hl 1 rfl) ?_
      refine lv_iload_n hx hb md_Mo_write_78 rfl (lv_at hl 2 rfl) ?_
      refine fw_iast hx hb hK hD hP hS (mm_20 (by decide)) (mk_20 0) 0 rfl (j := 0) (by decide) (fw_inc (by decide)) md_Mo_write_79 (fun v22 H locs ev22 hP hS => ?_)
      have hI : mI b v22 := by rw [ev22, ev21]; exact mI_write_0 hI (fw_inm hc0 (by decide)) (fun _ => hc0)
      refine lv_aload_n hx hb md_Mo_write_80 rfl (lv_at hl 0 rfl) ?_
      refine lv_iload_n hx hb md_Mo_write_81 rfl (lv_at hl 1 rfl) ?_
      refine fw_cv (va_runV (As := [.int (0 : Int32)]) (rest := []) ⟨hx, hb, hml, hown, hts⟩ (mc_Mo_ask_0 l hD v22 hI ) (mw_Mo_ask hts L_Mo_213 ⟨Nat.le_of_ble_eq_true rfl, Nat.le_of_ble_eq_true rfl⟩) (fw_preV hN hK hP (mm_0 (by decide)) (mk_0 0) rfl) rfl rfl hl.1 rfl (lv_room (Nat.le_of_ble_eq_true rfl)) md_Mo_write_82 ⟨Nat.le_of_ble_eq_true rfl, Nat.le_of_ble_eq_true rfl⟩) hS (fun v23 H locs ev23 hI hP hS => ?_)
      exact fw_vret hx hb hr hlocks hS hP hI md_Mo_write_85 (by rw [hj]; subst ev21 ev22 ev23; simp only [mf_Mo_write_0_j3, if_neg c_16])
  have J1 : ∀ (n : Nat) (v : fw_V) (x3 : Int32) (H : Heap) (locs : List Loc) (ls : Array Slot), mf_Mo_write_0 v0 a2 = mf_Mo_write_0_j1 n v a2 x3 → (0 ≤ x3.toInt ∧ x3.toInt ≤ (3 : Int32).toInt ∧ (3 : Int32).toInt < x3.toInt + n) → mI b v → va_P D vcls (fw_w mCL cA mkd ad v) H → va_S (fw_A mCL ad) s.heap H locs → lv_has ls 4 [(0, .ref (ad 0 0)), (1, .int (0 : Int32)), (3, .int x3)] → W p l e (headSpec (Cond.code my_Mo_write mb_Mo_write 4 none :: vTB) mrm_Mo_write).room s m ([.ref (ad 0 0), .int (0 : Int32), .int a2] : List Value).toArray below meth c H locs 0 0 (MQ below (fw_Qv D vcls mCL cA mkd ad (mI b) (mf_Mo_write_0 v0 a2)) ([.ref (ad 0 0), .int (0 : Int32), .int a2] : List Value).toArray s 0 0 (fw_A mCL ad)) (F0 m 2 ls []) := by
    intro n
    induction n with
    | zero =>
      intro v x3 H locs ls hj hn
      exact absurd hn.2.2 (by omega)
    | succ n ih =>
      intro v x3 H locs ls hj hn  hI hP hS hl
      refine lv_iload_n hx hb md_Mo_write_2 rfl (lv_at hl 2 rfl) ?_
      refine lv_iconst (v := (3 : Int32)) hx hb md_Mo_write_3 (by decide) ?_
      refine lv_icmp_ge (tgt := 58) hx hb md_Mo_write_4 (by decide) (fun c_1 => ?_) (fun c_1 => ?_)
      · exact J2 v (x3) _ _ _ (by rw [hj]; simp only [mf_Mo_write_0_j1, if_pos c_1]) (fw_hn (b := 3) (by decide) hn)  hI hP hS (lv_sub hl [0, 1, 2] rfl)
      · have h_10 : vp_in x3 3 := fw_in1 (fw_hn (b := 3) (by decide) hn) c_1
        refine lv_aload_n hx hb md_Mo_write_7 rfl (lv_at hl 0 rfl) ?_
        refine fw_getr hx hb hts i_Mo hown hK hP (mm_0 (by decide)) (mk_0 0) rfl 23 (by decide) (hts _ L_Mo_77) (fun _ h9 => h9) rfl md_Mo_write_8 ?_
        refine lv_iconst (v := (3 : Int32)) hx hb md_Mo_write_11 (by decide) ?_
        refine lv_iload_n hx hb md_Mo_write_12 rfl (lv_at hl 1 rfl) ?_
        refine lv_imul hx hb md_Mo_write_13 ?_
        refine fw_top (y := (0 : Int32)) (by decide) ?_
        refine lv_iload_n hx hb md_Mo_write_14 rfl (lv_at hl 2 rfl) ?_
        refine lv_iadd hx hb md_Mo_write_15 ?_
        refine fw_iald hx hb hK hP (mm_24 (by decide)) (mk_24 0) 0 rfl (j := ((0 : Int32) + x3).toNatClampNeg) rfl (fw_inm (fw_inadd2 (n := 1) (m := 3) (t := 3) (fw_inc (by decide)) h_10 (by decide)) (by decide)) md_Mo_write_16 ?_
        have h_11 : vp_in ((v 24 0 ((0 : Int32) + x3).toNatClampNeg) + 1) 9 := hI.1 24 0 (((0 : Int32) + x3).toNatClampNeg)
        refine lv_if_lt (tgt := 52) hx hb md_Mo_write_17 (by decide) (fun c_12 => ?_) (fun c_12 => ?_)
        · refine lv_iinc (v := (x3 + (1 : Int32))) (lv' := [(3, .int (x3 + (1 : Int32))), (0, .ref (ad 0 0)), (1, .int (0 : Int32))]) hx hb md_Mo_write_52 hl (k := 2) rfl rfl (by decide) rfl (fun ls hl => ?_)
          refine lv_goto (tgt := 2) hx hb md_Mo_write_55 (by decide) ?_
          exact ih v ((x3 + (1 : Int32))) _ _ _ (by rw [hj]; simp only [mf_Mo_write_0_j1, if_neg c_1, if_pos c_12]) (fw_step c_1 hn)   hI hP hS (lv_sub hl [1, 2, 0] rfl)
        · have h_13 : vp_in (v 24 0 ((0 : Int32) + x3).toNatClampNeg) 8 := fw_m8 h_11 c_12
          refine lv_aload_n hx hb md_Mo_write_20 rfl (lv_at hl 0 rfl) ?_
          refine fw_getr hx hb hts i_Mo hown hK hP (mm_0 (by decide)) (mk_0 0) rfl 2 (by decide) (hts _ L_Mo_16) (fun _ h9 => h9) rfl md_Mo_write_21 ?_
          refine lv_aload_n hx hb md_Mo_write_24 rfl (lv_at hl 0 rfl) ?_
          refine fw_getr hx hb hts i_Mo hown hK hP (mm_0 (by decide)) (mk_0 0) rfl 23 (by decide) (hts _ L_Mo_77) (fun _ h9 => h9) rfl md_Mo_write_25 ?_
          refine lv_iconst (v := (3 : Int32)) hx hb md_Mo_write_28 (by decide) ?_
          refine lv_iload_n hx hb md_Mo_write_29 rfl (lv_at hl 1 rfl) ?_
          refine lv_imul hx hb md_Mo_write_30 ?_
          refine fw_top (y := (0 : Int32)) (by decide) ?_
          refine lv_iload_n hx hb md_Mo_write_31 rfl (lv_at hl 2 rfl) ?_
          refine lv_iadd hx hb md_Mo_write_32 ?_
          refine fw_iald hx hb hK hP (mm_24 (by decide)) (mk_24 0) 0 rfl (j := ((0 : Int32) + x3).toNatClampNeg) rfl (fw_inm (fw_inadd2 (n := 1) (m := 3) (t := 3) (fw_inc (by decide)) h_10 (by decide)) (by decide)) md_Mo_write_33 ?_
          refine fw_zald hx hb hK hP (mm_3 (by decide)) (mk_3 0) 1 rfl (j := (v 24 0 ((0 : Int32) + x3).toNatClampNeg).toNatClampNeg) rfl h_13 md_Mo_write_34 ?_
          refine lv_if_eq (tgt := 52) hx hb md_Mo_write_35 (by decide) (fun c_14 => ?_) (fun c_14 => ?_)
          · refine lv_iinc (v := (x3 + (1 : Int32))) (lv' := [(3, .int (x3 + (1 : Int32))), (0, .ref (ad 0 0)), (1, .int (0 : Int32))]) hx hb md_Mo_write_52 hl (k := 2) rfl rfl (by decide) rfl (fun ls hl => ?_)
            refine lv_goto (tgt := 2) hx hb md_Mo_write_55 (by decide) ?_
            exact ih v ((x3 + (1 : Int32))) _ _ _ (by rw [hj]; simp only [mf_Mo_write_0_j1, if_neg c_1, if_neg c_12, if_pos c_14]) (fw_step c_1 hn)   hI hP hS (lv_sub hl [1, 2, 0] rfl)
          · refine lv_aload_n hx hb md_Mo_write_38 rfl (lv_at hl 0 rfl) ?_
            refine fw_getr hx hb hts i_Mo hown hK hP (mm_0 (by decide)) (mk_0 0) rfl 15 (by decide) (hts _ L_Mo_53) (fun _ h9 => h9) rfl md_Mo_write_39 ?_
            refine lv_iload_n hx hb md_Mo_write_42 rfl (lv_at hl 1 rfl) ?_
            refine fw_iald hx hb hK hP (mm_16 (by decide)) (mk_16 0) 0 rfl (j := 0) (by decide) (fw_inc (by decide)) md_Mo_write_43 ?_
            refine lv_iload_n hx hb md_Mo_write_44 rfl (lv_at hl 2 rfl) ?_
            refine lv_ishr hx hb md_Mo_write_45 ?_
            refine lv_iconst (v := (1 : Int32)) hx hb md_Mo_write_46 (by decide) ?_
            refine lv_iand hx hb md_Mo_write_47 ?_
            refine lv_iconst (v := (1 : Int32)) hx hb md_Mo_write_48 (by decide) ?_
            refine lv_icmp_ne (tgt := 58) hx hb md_Mo_write_49 (by decide) (fun c_15 => ?_) (fun c_15 => ?_)
            · exact J3 v (x3) _ _ _ (by rw [hj]; simp only [mf_Mo_write_0_j1, if_neg c_1, if_neg c_12, if_neg c_14, if_neg c_15]) h_10  hI hP hS (lv_sub hl [0, 1, 2] rfl)
            · refine lv_iinc (v := (x3 + (1 : Int32))) (lv' := [(3, .int (x3 + (1 : Int32))), (0, .ref (ad 0 0)), (1, .int (0 : Int32))]) hx hb md_Mo_write_52 hl (k := 2) rfl rfl (by decide) rfl (fun ls hl => ?_)
              refine lv_goto (tgt := 2) hx hb md_Mo_write_55 (by decide) ?_
              exact ih v ((x3 + (1 : Int32))) _ _ _ (by rw [hj]; simp only [mf_Mo_write_0_j1, if_neg c_1, if_neg c_12, if_neg c_14, if_pos c_15]) (fw_step c_1 hn)   hI hP hS (lv_sub hl [1, 2, 0] rfl)
  clear J2 J3
  have hl := lv_entry ([.ref (ad 0 0), .int (0 : Int32), .int a2]) (n := 4) (Nat.le_of_ble_eq_true rfl)
  rw [lg_entry_eq]
  generalize (lg_sl ([.ref (ad 0 0), .int (0 : Int32), .int a2]) ++ List.replicate (4 - (lg_sl ([.ref (ad 0 0), .int (0 : Int32), .int a2])).length) Slot.unset).toArray = ls at hl ⊢
  have hl : lv_has ls 4 [(0, .ref (ad 0 0)), (1, .int (0 : Int32)), (2, .int a2)] := hl
  refine lv_iload_n hx hb md_Mo_write_0 rfl (lv_at hl 2 rfl) ?_
  refine lv_istore_n (lv' := [(3, .int a2), (0, .ref (ad 0 0)), (1, .int (0 : Int32)), (2, .int a2)]) hx hb md_Mo_write_1 rfl hl (by decide) rfl (fun ls hl => ?_)
  exact J1 6 v0 (a2) _ _ _ (by simp only [mf_Mo_write_0]) (fw_start (b := 3) (by decide) hq0 (by decide))   hI hP hS (lv_sub hl [1, 2, 0] rfl)
def mf_Mo_write_1_j2 (v : fw_V) (a2 : Int32) (x3 : Int32) : fw_V :=
  if (3 : Int32) ≤ x3 then
    let v3 := mf_Mo_enter_1 v (4 : Int32)
    let v4 := fw_up v3 20 0 (1) x3
    let v5 := mf_Mo_ask_1 v4
    v5
  else
    let v7 := mf_Mo_enter_1 v (3 : Int32)
    let v8 := fw_up v7 20 0 (1) x3
    let v9 := mf_Mo_ask_1 v8
    v9
def mf_Mo_write_1_j3 (v : fw_V) (a2 : Int32) (x3 : Int32) : fw_V :=
  if (3 : Int32) ≤ x3 then
    let v17 := mf_Mo_enter_1 v (4 : Int32)
    let v18 := fw_up v17 20 0 (1) x3
    let v19 := mf_Mo_ask_1 v18
    v19
  else
    let v21 := mf_Mo_enter_1 v (3 : Int32)
    let v22 := fw_up v21 20 0 (1) x3
    let v23 := mf_Mo_ask_1 v22
    v23
def mf_Mo_write_1_j1 : Nat → fw_V → Int32 → Int32 → fw_V
  | 0, v, a2, x3 => v
  | n + 1, v, a2, x3 =>
    if (3 : Int32) ≤ x3 then
      mf_Mo_write_1_j2 v a2 (x3)
    else
      if (v 24 0 ((3 : Int32) + x3).toNatClampNeg) < (0 : Int32) then
        mf_Mo_write_1_j1 n v a2 ((x3 + (1 : Int32)))
      else
        if (v 3 0 (v 24 0 ((3 : Int32) + x3).toNatClampNeg).toNatClampNeg) = (0 : Int32) then
          mf_Mo_write_1_j1 n v a2 ((x3 + (1 : Int32)))
        else
          if (((v 16 0 1) >>> (x3 &&& 31)) &&& (1 : Int32)) = (1 : Int32) then
            mf_Mo_write_1_j1 n v a2 ((x3 + (1 : Int32)))
          else
            mf_Mo_write_1_j3 v a2 (x3)
def mf_Mo_write_1 (v0 : fw_V) (a2 : Int32) : fw_V :=
  mf_Mo_write_1_j1 6 v0 a2 (a2)

theorem mca_Mo_write_1_j2 {v : fw_V} {a2 : Int32} {x3 : Int32} {i k : Nat} : mf_Mo_write_1_j2 v a2 x3 10 i k = v 10 i k := by
  unfold mf_Mo_write_1_j2
  try dsimp only
  all_goals ((repeat' split) <;> simp [fw_up, fw_row, mca_Mo_enter_1, mca_Mo_ask_1])
theorem mca_Mo_write_1_j3 {v : fw_V} {a2 : Int32} {x3 : Int32} {i k : Nat} : mf_Mo_write_1_j3 v a2 x3 10 i k = v 10 i k := by
  unfold mf_Mo_write_1_j3
  try dsimp only
  all_goals ((repeat' split) <;> simp [fw_up, fw_row, mca_Mo_enter_1, mca_Mo_ask_1])
theorem mca_Mo_write_1_j1 {i k : Nat} : ∀ (n : Nat) (v : fw_V) (a2 : Int32) (x3 : Int32), mf_Mo_write_1_j1 n v a2 x3 10 i k = v 10 i k := by
  intro n
  induction n with
  | zero => intros; rfl
  | succ n ih =>
    intro v a2 x3
    unfold mf_Mo_write_1_j1
    try dsimp only
    all_goals ((repeat' split) <;> simp [fw_up, fw_row, ih, mca_Mo_write_1_j2, mca_Mo_write_1_j3])
theorem mca_Mo_write_1 {v0 : fw_V} {a2 : Int32} {i k : Nat} : mf_Mo_write_1 v0 a2 10 i k = v0 10 i k := by
  unfold mf_Mo_write_1
  try dsimp only
  all_goals ((repeat' split) <;> simp [fw_up, fw_row, mca_Mo_write_1_j1])
set_option maxHeartbeats 4000000 in
set_option maxRecDepth 100000 in
theorem mc_Mo_write_1 (l : Launch) {D : va_G} {cA : Nat → ClassId} {ad : Nat → Nat → Nat} (hD : fw_D mCL ad) {b : Nat} (v0 : fw_V) (hI : mI b v0) (a2 : Int32) (hq0 : vp_in a2 4) : Met l my_Mo_write (Cond.code my_Mo_write mb_Mo_write 4 none :: vTB) mrm_Mo_write (fw_Pc vNL D vcls (vtys cA) mCL cA mkd ad v0 [.ref (ad 0 0), .int (1 : Int32), .int a2]) (fw_Qv D vcls mCL cA mkd ad (mI b) (mf_Mo_write_1 v0 a2)) 0 0 (fw_A mCL ad) := by
  refine Met.ofW (cc := mb_Mo_write) (maxL := 4) (ret := none) (by decide) rfl ?_
  intro p e s m args below meth c s₁ B hml hv
  obtain ⟨rfl, hP, hK, hN⟩ := hv
  have hx := B.exec
  have hb := B.bytes
  have hr := B.returns
  have hts : ∀ w ∈ vTB, w.before ([.ref (ad 0 0), .int (1 : Int32), .int a2] : List Value).toArray s = true := fun w h => atoms_spec (ws := (Cond.code my_Mo_write mb_Mo_write 4 none :: vTB)) B.pre w (List.mem_cons_of_mem _ h)
  have hown : s.vm.findClass R_Mo = some m.cls := findClass_of_methodNamed B.named
  have hlocks := B.notSynchronized
  have hS : va_S (fw_A mCL ad) s.heap s.heap [] := va_S.rf
  have J2 : ∀ (v : fw_V) (x3 : Int32) (H : Heap) (locs : List Loc) (ls : Array Slot), mf_Mo_write_1 v0 a2 = mf_Mo_write_1_j2 v a2 x3 → vp_in x3 4 → mI b v → va_P D vcls (fw_w mCL cA mkd ad v) H → va_S (fw_A mCL ad) s.heap H locs → lv_has ls 4 [(0, .ref (ad 0 0)), (1, .int (1 : Int32)), (3, .int x3)] → W p l e (headSpec (Cond.code my_Mo_write mb_Mo_write 4 none :: vTB) mrm_Mo_write).room s m ([.ref (ad 0 0), .int (1 : Int32), .int a2] : List Value).toArray below meth c H locs 0 0 (MQ below (fw_Qv D vcls mCL cA mkd ad (mI b) (mf_Mo_write_1 v0 a2)) ([.ref (ad 0 0), .int (1 : Int32), .int a2] : List Value).toArray s 0 0 (fw_A mCL ad)) (F0 m 58 ls []) := by
    intro v x3 H locs ls hj hc0 hI hP hS hl
    refine lv_aload_n hx hb md_Mo_write_58 rfl (lv_at hl 0 rfl) ?_
    refine lv_iload_n hx hb md_Mo_write_59 rfl (lv_at hl 1 rfl) ?_
    refine lv_iload_n hx hb md_Mo_write_60 rfl (lv_at hl 2 rfl) ?_
    refine lv_iconst (v := (3 : Int32)) hx hb md_Mo_write_61 (by decide) ?_
    refine lv_icmp_ge (tgt := 69) hx hb md_Mo_write_62 (by decide) (fun c_2 => ?_) (fun c_2 => ?_)
    · refine lv_iconst (v := (4 : Int32)) hx hb md_Mo_write_69 (by decide) ?_
      refine fw_cv (va_runV (As := [.int (1 : Int32), .int (4 : Int32)]) (rest := []) ⟨hx, hb, hml, hown, hts⟩ (mc_Mo_enter_1 l hD (b := b) v (4 : Int32) (fun _ => True) trivial) (mw_Mo_enter hts L_Mo_200 ⟨Nat.le_of_ble_eq_true rfl, Nat.le_of_ble_eq_true rfl⟩) (fw_preV hN hK hP (mm_0 (by decide)) (mk_0 0) rfl) rfl rfl hl.1 rfl (lv_room (Nat.le_of_ble_eq_true rfl)) md_Mo_write_70 ⟨Nat.le_of_ble_eq_true rfl, Nat.le_of_ble_eq_true rfl⟩) hS (fun v3 H locs ev3 _ hP hS => ?_)
      refine lv_aload_n hx hb md_Mo_write_73 rfl (lv_at hl 0 rfl) ?_
      refine fw_getr hx hb hts i_Mo hown hK hP (mm_0 (by decide)) (mk_0 0) rfl 19 (by decide) (hts _ L_Mo_65) (fun _ h9 => h9) rfl md_Mo_write_74 ?_
      refine lv_iload_n hx hb md_Mo_write_77 rfl (lv_at hl 1 rfl) ?_
      refine lv_iload_n hx hb md_Mo_write_78 rfl (lv_at hl 2 rfl) ?_
      refine fw_iast hx hb hK hD hP hS (mm_20 (by decide)) (mk_20 0) 0 rfl (j := 1) (by decide) (fw_inc (by decide)) md_Mo_write_79 (fun v4 H locs ev4 hP hS => ?_)
      have hI : mI b v4 := by rw [ev4, ev3]; exact mI_write_1 hI hc0 (fun h => absurd h (by decide))
      refine lv_aload_n hx hb md_Mo_write_80 rfl (lv_at hl 0 rfl) ?_
      refine lv_iload_n hx hb md_Mo_write_81 rfl (lv_at hl 1 rfl) ?_
      refine fw_cv (va_runV (As := [.int (1 : Int32)]) (rest := []) ⟨hx, hb, hml, hown, hts⟩ (mc_Mo_ask_1 l hD v4 hI ) (mw_Mo_ask hts L_Mo_213 ⟨Nat.le_of_ble_eq_true rfl, Nat.le_of_ble_eq_true rfl⟩) (fw_preV hN hK hP (mm_0 (by decide)) (mk_0 0) rfl) rfl rfl hl.1 rfl (lv_room (Nat.le_of_ble_eq_true rfl)) md_Mo_write_82 ⟨Nat.le_of_ble_eq_true rfl, Nat.le_of_ble_eq_true rfl⟩) hS (fun v5 H locs ev5 hI hP hS => ?_)
      exact fw_vret hx hb hr hlocks hS hP hI md_Mo_write_85 (by rw [hj]; subst ev3 ev4 ev5; simp only [mf_Mo_write_1_j2, if_pos c_2])
    · have h_6 : vp_in x3 3 := fw_in1 hc0 c_2
      refine lv_iconst (v := (3 : Int32)) hx hb md_Mo_write_65 (by decide) ?_
      refine lv_goto (tgt := 70) hx hb md_Mo_write_66 (by decide) ?_
      refine fw_cv (va_runV (As := [.int (1 : Int32), .int (3 : Int32)]) (rest := []) ⟨hx, hb, hml, hown, hts⟩ (mc_Mo_enter_1 l hD (b := b) v (3 : Int32) (fun _ => True) trivial) (mw_Mo_enter hts L_Mo_200 ⟨Nat.le_of_ble_eq_true rfl, Nat.le_of_ble_eq_true rfl⟩) (fw_preV hN hK hP (mm_0 (by decide)) (mk_0 0) rfl) rfl rfl hl.1 rfl (lv_room (Nat.le_of_ble_eq_true rfl)) md_Mo_write_70 ⟨Nat.le_of_ble_eq_true rfl, Nat.le_of_ble_eq_true rfl⟩) hS (fun v7 H locs ev7 _ hP hS => ?_)
      refine lv_aload_n hx hb md_Mo_write_73 rfl (lv_at hl 0 rfl) ?_
      refine fw_getr hx hb hts i_Mo hown hK hP (mm_0 (by decide)) (mk_0 0) rfl 19 (by decide) (hts _ L_Mo_65) (fun _ h9 => h9) rfl md_Mo_write_74 ?_
      refine lv_iload_n hx hb md_Mo_write_77 rfl (lv_at hl 1 rfl) ?_
      refine lv_iload_n hx hb md_Mo_write_78 rfl (lv_at hl 2 rfl) ?_
      refine fw_iast hx hb hK hD hP hS (mm_20 (by decide)) (mk_20 0) 0 rfl (j := 1) (by decide) (fw_inc (by decide)) md_Mo_write_79 (fun v8 H locs ev8 hP hS => ?_)
      have hI : mI b v8 := by rw [ev8, ev7]; exact mI_write_1 hI hc0 (fun _ => h_6)
      refine lv_aload_n hx hb md_Mo_write_80 rfl (lv_at hl 0 rfl) ?_
      refine lv_iload_n hx hb md_Mo_write_81 rfl (lv_at hl 1 rfl) ?_
      refine fw_cv (va_runV (As := [.int (1 : Int32)]) (rest := []) ⟨hx, hb, hml, hown, hts⟩ (mc_Mo_ask_1 l hD v8 hI ) (mw_Mo_ask hts L_Mo_213 ⟨Nat.le_of_ble_eq_true rfl, Nat.le_of_ble_eq_true rfl⟩) (fw_preV hN hK hP (mm_0 (by decide)) (mk_0 0) rfl) rfl rfl hl.1 rfl (lv_room (Nat.le_of_ble_eq_true rfl)) md_Mo_write_82 ⟨Nat.le_of_ble_eq_true rfl, Nat.le_of_ble_eq_true rfl⟩) hS (fun v9 H locs ev9 hI hP hS => ?_)
      exact fw_vret hx hb hr hlocks hS hP hI md_Mo_write_85 (by rw [hj]; subst ev7 ev8 ev9; simp only [mf_Mo_write_1_j2, if_neg c_2])
  have J3 : ∀ (v : fw_V) (x3 : Int32) (H : Heap) (locs : List Loc) (ls : Array Slot), mf_Mo_write_1 v0 a2 = mf_Mo_write_1_j3 v a2 x3 → vp_in x3 3 → mI b v → va_P D vcls (fw_w mCL cA mkd ad v) H → va_S (fw_A mCL ad) s.heap H locs → lv_has ls 4 [(0, .ref (ad 0 0)), (1, .int (1 : Int32)), (3, .int x3)] → W p l e (headSpec (Cond.code my_Mo_write mb_Mo_write 4 none :: vTB) mrm_Mo_write).room s m ([.ref (ad 0 0), .int (1 : Int32), .int a2] : List Value).toArray below meth c H locs 0 0 (MQ below (fw_Qv D vcls mCL cA mkd ad (mI b) (mf_Mo_write_1 v0 a2)) ([.ref (ad 0 0), .int (1 : Int32), .int a2] : List Value).toArray s 0 0 (fw_A mCL ad)) (F0 m 58 ls []) := by
    intro v x3 H locs ls hj hc0 hI hP hS hl
    clear J2
    refine lv_aload_n hx hb md_Mo_write_58 rfl (lv_at hl 0 rfl) ?_
    refine lv_iload_n hx hb md_Mo_write_59 rfl (lv_at hl 1 rfl) ?_
    refine lv_iload_n hx hb md_Mo_write_60 rfl (lv_at hl 2 rfl) ?_
    refine lv_iconst (v := (3 : Int32)) hx hb md_Mo_write_61 (by decide) ?_
    refine lv_icmp_ge (tgt := 69) hx hb md_Mo_write_62 (by decide) (fun c_16 => ?_) (fun c_16 => ?_)
    · refine lv_iconst (v := (4 : Int32)) hx hb md_Mo_write_69 (by decide) ?_
      refine fw_cv (va_runV (As := [.int (1 : Int32), .int (4 : Int32)]) (rest := []) ⟨hx, hb, hml, hown, hts⟩ (mc_Mo_enter_1 l hD (b := b) v (4 : Int32) (fun _ => True) trivial) (mw_Mo_enter hts L_Mo_200 ⟨Nat.le_of_ble_eq_true rfl, Nat.le_of_ble_eq_true rfl⟩) (fw_preV hN hK hP (mm_0 (by decide)) (mk_0 0) rfl) rfl rfl hl.1 rfl (lv_room (Nat.le_of_ble_eq_true rfl)) md_Mo_write_70 ⟨Nat.le_of_ble_eq_true rfl, Nat.le_of_ble_eq_true rfl⟩) hS (fun v17 H locs ev17 _ hP hS => ?_)
      refine lv_aload_n hx hb md_Mo_write_73 rfl (lv_at hl 0 rfl) ?_
      refine fw_getr hx hb hts i_Mo hown hK hP (mm_0 (by decide)) (mk_0 0) rfl 19 (by decide) (hts _ L_Mo_65) (fun _ h9 => h9) rfl md_Mo_write_74 ?_
      refine lv_iload_n hx hb md_Mo_write_77 rfl (lv_at hl 1 rfl) ?_
      refine lv_iload_n hx hb md_Mo_write_78 rfl (lv_at hl 2 rfl) ?_
      refine fw_iast hx hb hK hD hP hS (mm_20 (by decide)) (mk_20 0) 0 rfl (j := 1) (by decide) (fw_inc (by decide)) md_Mo_write_79 (fun v18 H locs ev18 hP hS => ?_)
      have hI : mI b v18 := by rw [ev18, ev17]; exact mI_write_1 hI (fw_inm hc0 (by decide)) (fun h => absurd h (by decide))
      refine lv_aload_n hx hb md_Mo_write_80 rfl (lv_at hl 0 rfl) ?_
      refine lv_iload_n hx hb md_Mo_write_81 rfl (lv_at hl 1 rfl) ?_
      refine fw_cv (va_runV (As := [.int (1 : Int32)]) (rest := []) ⟨hx, hb, hml, hown, hts⟩ (mc_Mo_ask_1 l hD v18 hI ) (mw_Mo_ask hts L_Mo_213 ⟨Nat.le_of_ble_eq_true rfl, Nat.le_of_ble_eq_true rfl⟩) (fw_preV hN hK hP (mm_0 (by decide)) (mk_0 0) rfl) rfl rfl hl.1 rfl (lv_room (Nat.le_of_ble_eq_true rfl)) md_Mo_write_82 ⟨Nat.le_of_ble_eq_true rfl, Nat.le_of_ble_eq_true rfl⟩) hS (fun v19 H locs ev19 hI hP hS => ?_)
      exact fw_vret hx hb hr hlocks hS hP hI md_Mo_write_85 (by rw [hj]; subst ev17 ev18 ev19; simp only [mf_Mo_write_1_j3, if_pos c_16])
    · refine lv_iconst (v := (3 : Int32)) hx hb md_Mo_write_65 (by decide) ?_
      refine lv_goto (tgt := 70) hx hb md_Mo_write_66 (by decide) ?_
      refine fw_cv (va_runV (As := [.int (1 : Int32), .int (3 : Int32)]) (rest := []) ⟨hx, hb, hml, hown, hts⟩ (mc_Mo_enter_1 l hD (b := b) v (3 : Int32) (fun _ => True) trivial) (mw_Mo_enter hts L_Mo_200 ⟨Nat.le_of_ble_eq_true rfl, Nat.le_of_ble_eq_true rfl⟩) (fw_preV hN hK hP (mm_0 (by decide)) (mk_0 0) rfl) rfl rfl hl.1 rfl (lv_room (Nat.le_of_ble_eq_true rfl)) md_Mo_write_70 ⟨Nat.le_of_ble_eq_true rfl, Nat.le_of_ble_eq_true rfl⟩) hS (fun v21 H locs ev21 _ hP hS => ?_)
      refine lv_aload_n hx hb md_Mo_write_73 rfl (lv_at hl 0 rfl) ?_
      refine fw_getr hx hb hts i_Mo hown hK hP (mm_0 (by decide)) (mk_0 0) rfl 19 (by decide) (hts _ L_Mo_65) (fun _ h9 => h9) rfl md_Mo_write_74 ?_
      refine lv_iload_n hx hb md_Mo_write_77 rfl (lv_at hl 1 rfl) ?_
      refine lv_iload_n hx hb md_Mo_write_78 rfl (lv_at hl 2 rfl) ?_
      refine fw_iast hx hb hK hD hP hS (mm_20 (by decide)) (mk_20 0) 0 rfl (j := 1) (by decide) (fw_inc (by decide)) md_Mo_write_79 (fun v22 H locs ev22 hP hS => ?_)
      have hI : mI b v22 := by rw [ev22, ev21]; exact mI_write_1 hI (fw_inm hc0 (by decide)) (fun _ => hc0)
      refine lv_aload_n hx hb md_Mo_write_80 rfl (lv_at hl 0 rfl) ?_
      refine lv_iload_n hx hb md_Mo_write_81 rfl (lv_at hl 1 rfl) ?_
      refine fw_cv (va_runV (As := [.int (1 : Int32)]) (rest := []) ⟨hx, hb, hml, hown, hts⟩ (mc_Mo_ask_1 l hD v22 hI ) (mw_Mo_ask hts L_Mo_213 ⟨Nat.le_of_ble_eq_true rfl, Nat.le_of_ble_eq_true rfl⟩) (fw_preV hN hK hP (mm_0 (by decide)) (mk_0 0) rfl) rfl rfl hl.1 rfl (lv_room (Nat.le_of_ble_eq_true rfl)) md_Mo_write_82 ⟨Nat.le_of_ble_eq_true rfl, Nat.le_of_ble_eq_true rfl⟩) hS (fun v23 H locs ev23 hI hP hS => ?_)
      exact fw_vret hx hb hr hlocks hS hP hI md_Mo_write_85 (by rw [hj]; subst ev21 ev22 ev23; simp only [mf_Mo_write_1_j3, if_neg c_16])
  have J1 : ∀ (n : Nat) (v : fw_V) (x3 : Int32) (H : Heap) (locs : List Loc) (ls : Array Slot), mf_Mo_write_1 v0 a2 = mf_Mo_write_1_j1 n v a2 x3 → (0 ≤ x3.toInt ∧ x3.toInt ≤ (3 : Int32).toInt ∧ (3 : Int32).toInt < x3.toInt + n) → mI b v → va_P D vcls (fw_w mCL cA mkd ad v) H → va_S (fw_A mCL ad) s.heap H locs → lv_has ls 4 [(0, .ref (ad 0 0)), (1, .int (1 : Int32)), (3, .int x3)] → W p l e (headSpec (Cond.code my_Mo_write mb_Mo_write 4 none :: vTB) mrm_Mo_write).room s m ([.ref (ad 0 0), .int (1 : Int32), .int a2] : List Value).toArray below meth c H locs 0 0 (MQ below (fw_Qv D vcls mCL cA mkd ad (mI b) (mf_Mo_write_1 v0 a2)) ([.ref (ad 0 0), .int (1 : Int32), .int a2] : List Value).toArray s 0 0 (fw_A mCL ad)) (F0 m 2 ls []) := by
    intro n
    induction n with
    | zero =>
      intro v x3 H locs ls hj hn
      exact absurd hn.2.2 (by omega)
    | succ n ih =>
      intro v x3 H locs ls hj hn  hI hP hS hl
      refine lv_iload_n hx hb md_Mo_write_2 rfl (lv_at hl 2 rfl) ?_
      refine lv_iconst (v := (3 : Int32)) hx hb md_Mo_write_3 (by decide) ?_
      refine lv_icmp_ge (tgt := 58) hx hb md_Mo_write_4 (by decide) (fun c_1 => ?_) (fun c_1 => ?_)
      · exact J2 v (x3) _ _ _ (by rw [hj]; simp only [mf_Mo_write_1_j1, if_pos c_1]) (fw_hn (b := 3) (by decide) hn)  hI hP hS (lv_sub hl [0, 1, 2] rfl)
      · have h_10 : vp_in x3 3 := fw_in1 (fw_hn (b := 3) (by decide) hn) c_1
        refine lv_aload_n hx hb md_Mo_write_7 rfl (lv_at hl 0 rfl) ?_
        refine fw_getr hx hb hts i_Mo hown hK hP (mm_0 (by decide)) (mk_0 0) rfl 23 (by decide) (hts _ L_Mo_77) (fun _ h9 => h9) rfl md_Mo_write_8 ?_
        refine lv_iconst (v := (3 : Int32)) hx hb md_Mo_write_11 (by decide) ?_
        refine lv_iload_n hx hb md_Mo_write_12 rfl (lv_at hl 1 rfl) ?_
        refine lv_imul hx hb md_Mo_write_13 ?_
        refine fw_top (y := (3 : Int32)) (by decide) ?_
        refine lv_iload_n hx hb md_Mo_write_14 rfl (lv_at hl 2 rfl) ?_
        refine lv_iadd hx hb md_Mo_write_15 ?_
        refine fw_iald hx hb hK hP (mm_24 (by decide)) (mk_24 0) 0 rfl (j := ((3 : Int32) + x3).toNatClampNeg) rfl (fw_inadd2 (n := 4) (m := 3) (t := 6) (fw_inc (by decide)) h_10 (by decide)) md_Mo_write_16 ?_
        have h_11 : vp_in ((v 24 0 ((3 : Int32) + x3).toNatClampNeg) + 1) 9 := hI.1 24 0 (((3 : Int32) + x3).toNatClampNeg)
        refine lv_if_lt (tgt := 52) hx hb md_Mo_write_17 (by decide) (fun c_12 => ?_) (fun c_12 => ?_)
        · refine lv_iinc (v := (x3 + (1 : Int32))) (lv' := [(3, .int (x3 + (1 : Int32))), (0, .ref (ad 0 0)), (1, .int (1 : Int32))]) hx hb md_Mo_write_52 hl (k := 2) rfl rfl (by decide) rfl (fun ls hl => ?_)
          refine lv_goto (tgt := 2) hx hb md_Mo_write_55 (by decide) ?_
          exact ih v ((x3 + (1 : Int32))) _ _ _ (by rw [hj]; simp only [mf_Mo_write_1_j1, if_neg c_1, if_pos c_12]) (fw_step c_1 hn)   hI hP hS (lv_sub hl [1, 2, 0] rfl)
        · have h_13 : vp_in (v 24 0 ((3 : Int32) + x3).toNatClampNeg) 8 := fw_m8 h_11 c_12
          refine lv_aload_n hx hb md_Mo_write_20 rfl (lv_at hl 0 rfl) ?_
          refine fw_getr hx hb hts i_Mo hown hK hP (mm_0 (by decide)) (mk_0 0) rfl 2 (by decide) (hts _ L_Mo_16) (fun _ h9 => h9) rfl md_Mo_write_21 ?_
          refine lv_aload_n hx hb md_Mo_write_24 rfl (lv_at hl 0 rfl) ?_
          refine fw_getr hx hb hts i_Mo hown hK hP (mm_0 (by decide)) (mk_0 0) rfl 23 (by decide) (hts _ L_Mo_77) (fun _ h9 => h9) rfl md_Mo_write_25 ?_
          refine lv_iconst (v := (3 : Int32)) hx hb md_Mo_write_28 (by decide) ?_
          refine lv_iload_n hx hb md_Mo_write_29 rfl (lv_at hl 1 rfl) ?_
          refine lv_imul hx hb md_Mo_write_30 ?_
          refine fw_top (y := (3 : Int32)) (by decide) ?_
          refine lv_iload_n hx hb md_Mo_write_31 rfl (lv_at hl 2 rfl) ?_
          refine lv_iadd hx hb md_Mo_write_32 ?_
          refine fw_iald hx hb hK hP (mm_24 (by decide)) (mk_24 0) 0 rfl (j := ((3 : Int32) + x3).toNatClampNeg) rfl (fw_inadd2 (n := 4) (m := 3) (t := 6) (fw_inc (by decide)) h_10 (by decide)) md_Mo_write_33 ?_
          refine fw_zald hx hb hK hP (mm_3 (by decide)) (mk_3 0) 1 rfl (j := (v 24 0 ((3 : Int32) + x3).toNatClampNeg).toNatClampNeg) rfl h_13 md_Mo_write_34 ?_
          refine lv_if_eq (tgt := 52) hx hb md_Mo_write_35 (by decide) (fun c_14 => ?_) (fun c_14 => ?_)
          · refine lv_iinc (v := (x3 + (1 : Int32))) (lv' := [(3, .int (x3 + (1 : Int32))), (0, .ref (ad 0 0)), (1, .int (1 : Int32))]) hx hb md_Mo_write_52 hl (k := 2) rfl rfl (by decide) rfl (fun ls hl => ?_)
            refine lv_goto (tgt := 2) hx hb md_Mo_write_55 (by decide) ?_
            exact ih v ((x3 + (1 : Int32))) _ _ _ (by rw [hj]; simp only [mf_Mo_write_1_j1, if_neg c_1, if_neg c_12, if_pos c_14]) (fw_step c_1 hn)   hI hP hS (lv_sub hl [1, 2, 0] rfl)
          · refine lv_aload_n hx hb md_Mo_write_38 rfl (lv_at hl 0 rfl) ?_
            refine fw_getr hx hb hts i_Mo hown hK hP (mm_0 (by decide)) (mk_0 0) rfl 15 (by decide) (hts _ L_Mo_53) (fun _ h9 => h9) rfl md_Mo_write_39 ?_
            refine lv_iload_n hx hb md_Mo_write_42 rfl (lv_at hl 1 rfl) ?_
            refine fw_iald hx hb hK hP (mm_16 (by decide)) (mk_16 0) 0 rfl (j := 1) (by decide) (fw_inc (by decide)) md_Mo_write_43 ?_
            refine lv_iload_n hx hb md_Mo_write_44 rfl (lv_at hl 2 rfl) ?_
            refine lv_ishr hx hb md_Mo_write_45 ?_
            refine lv_iconst (v := (1 : Int32)) hx hb md_Mo_write_46 (by decide) ?_
            refine lv_iand hx hb md_Mo_write_47 ?_
            refine lv_iconst (v := (1 : Int32)) hx hb md_Mo_write_48 (by decide) ?_
            refine lv_icmp_ne (tgt := 58) hx hb md_Mo_write_49 (by decide) (fun c_15 => ?_) (fun c_15 => ?_)
            · exact J3 v (x3) _ _ _ (by rw [hj]; simp only [mf_Mo_write_1_j1, if_neg c_1, if_neg c_12, if_neg c_14, if_neg c_15]) h_10  hI hP hS (lv_sub hl [0, 1, 2] rfl)
            · refine lv_iinc (v := (x3 + (1 : Int32))) (lv' := [(3, .int (x3 + (1 : Int32))), (0, .ref (ad 0 0)), (1, .int (1 : Int32))]) hx hb md_Mo_write_52 hl (k := 2) rfl rfl (by decide) rfl (fun ls hl => ?_)
              refine lv_goto (tgt := 2) hx hb md_Mo_write_55 (by decide) ?_
              exact ih v ((x3 + (1 : Int32))) _ _ _ (by rw [hj]; simp only [mf_Mo_write_1_j1, if_neg c_1, if_neg c_12, if_neg c_14, if_pos c_15]) (fw_step c_1 hn)   hI hP hS (lv_sub hl [1, 2, 0] rfl)
  clear J2 J3
  have hl := lv_entry ([.ref (ad 0 0), .int (1 : Int32), .int a2]) (n := 4) (Nat.le_of_ble_eq_true rfl)
  rw [lg_entry_eq]
  generalize (lg_sl ([.ref (ad 0 0), .int (1 : Int32), .int a2]) ++ List.replicate (4 - (lg_sl ([.ref (ad 0 0), .int (1 : Int32), .int a2])).length) Slot.unset).toArray = ls at hl ⊢
  have hl : lv_has ls 4 [(0, .ref (ad 0 0)), (1, .int (1 : Int32)), (2, .int a2)] := hl
  refine lv_iload_n hx hb md_Mo_write_0 rfl (lv_at hl 2 rfl) ?_
  refine lv_istore_n (lv' := [(3, .int a2), (0, .ref (ad 0 0)), (1, .int (1 : Int32)), (2, .int a2)]) hx hb md_Mo_write_1 rfl hl (by decide) rfl (fun ls hl => ?_)
  exact J1 6 v0 (a2) _ _ _ (by simp only [mf_Mo_write_1]) (fw_start (b := 3) (by decide) hq0 (by decide))   hI hP hS (lv_sub hl [1, 2, 0] rfl)
def mf_Mo_shut_0 (v0 : fw_V) : fw_V :=
  let v1 := mf_Mo_enter_0 v0 (0 : Int32)
  let v2 := fw_up v1 13 0 (0) (0 : Int32)
  let v3 := fw_up v2 15 0 (0) (-1 : Int32)
  let v4 := fw_up v3 16 0 (0) (0 : Int32)
  let v5 := fw_up v4 17 0 (0) (0 : Int32)
  let v7 := fw_up v5 27 0 (0) (0 : Int32)
  let v9 := fw_up v7 27 0 (1) (0 : Int32)
  let v11 := fw_up v9 27 0 (2) (0 : Int32)
  let v13 := fw_up v11 27 0 (3) (0 : Int32)
  let v15 := fw_up v13 27 0 (4) (0 : Int32)
  let v17 := fw_up v15 27 0 (5) (0 : Int32)
  v17

theorem mca_Mo_shut_0 {v0 : fw_V} {i k : Nat} : mf_Mo_shut_0 v0 10 i k = v0 10 i k := by
  unfold mf_Mo_shut_0
  try dsimp only
  all_goals ((repeat' split) <;> simp [fw_up, fw_row, mca_Mo_enter_0])
set_option maxHeartbeats 4000000 in
set_option maxRecDepth 100000 in
theorem mc_Mo_shut_0 (l : Launch) {D : va_G} {cA : Nat → ClassId} {ad : Nat → Nat → Nat} (hD : fw_D mCL ad) {b : Nat} (v0 : fw_V) (hI : mI b v0)   : Met l my_Mo_shut (Cond.code my_Mo_shut mb_Mo_shut 3 none :: vTB) mrm_Mo_shut (fw_Pc vNL D vcls (vtys cA) mCL cA mkd ad v0 [.ref (ad 0 0), .int (0 : Int32)]) (fw_Qv D vcls mCL cA mkd ad (mI b) (mf_Mo_shut_0 v0)) 0 0 (fw_A mCL ad) := by
  refine Met.ofW (cc := mb_Mo_shut) (maxL := 3) (ret := none) (by decide) rfl ?_
  intro p e s m args below meth c s₁ B hml hv
  obtain ⟨rfl, hP, hK, hN⟩ := hv
  have hx := B.exec
  have hb := B.bytes
  have hr := B.returns
  have hts : ∀ w ∈ vTB, w.before ([.ref (ad 0 0), .int (0 : Int32)] : List Value).toArray s = true := fun w h => atoms_spec (ws := (Cond.code my_Mo_shut mb_Mo_shut 3 none :: vTB)) B.pre w (List.mem_cons_of_mem _ h)
  have hown : s.vm.findClass R_Mo = some m.cls := findClass_of_methodNamed B.named
  have hlocks := B.notSynchronized
  have hS : va_S (fw_A mCL ad) s.heap s.heap [] := va_S.rf
  skip
  have hl := lv_entry ([.ref (ad 0 0), .int (0 : Int32)]) (n := 3) (Nat.le_of_ble_eq_true rfl)
  rw [lg_entry_eq]
  generalize (lg_sl ([.ref (ad 0 0), .int (0 : Int32)]) ++ List.replicate (3 - (lg_sl ([.ref (ad 0 0), .int (0 : Int32)])).length) Slot.unset).toArray = ls at hl ⊢
  have hl : lv_has ls 3 [(0, .ref (ad 0 0)), (1, .int (0 : Int32))] := hl
  refine lv_aload_n hx hb md_Mo_shut_0 rfl (lv_at hl 0 rfl) ?_
  refine lv_iload_n hx hb md_Mo_shut_1 rfl (lv_at hl 1 rfl) ?_
  refine lv_iconst (v := (0 : Int32)) hx hb md_Mo_shut_2 (by decide) ?_
  refine fw_cv (va_runV (As := [.int (0 : Int32), .int (0 : Int32)]) (rest := []) ⟨hx, hb, hml, hown, hts⟩ (mc_Mo_enter_0 l hD (b := b) v0 (0 : Int32) (mI b) (mI_enter_0 hI (0 : Int32) (by decide))) (mw_Mo_enter hts L_Mo_200 ⟨Nat.le_of_ble_eq_true rfl, Nat.le_of_ble_eq_true rfl⟩) (fw_preV hN hK hP (mm_0 (by decide)) (mk_0 0) rfl) rfl rfl hl.1 rfl (lv_room (Nat.le_of_ble_eq_true rfl)) md_Mo_shut_3 ⟨Nat.le_of_ble_eq_true rfl, Nat.le_of_ble_eq_true rfl⟩) hS (fun v1 H locs ev1 hI hP hS => ?_)
  refine lv_aload_n hx hb md_Mo_shut_6 rfl (lv_at hl 0 rfl) ?_
  refine fw_getr hx hb hts i_Mo hown hK hP (mm_0 (by decide)) (mk_0 0) rfl 12 (by decide) (hts _ L_Mo_44) (fun _ h9 => h9) rfl md_Mo_shut_7 ?_
  refine lv_iload_n hx hb md_Mo_shut_10 rfl (lv_at hl 1 rfl) ?_
  refine lv_iconst (v := (0 : Int32)) hx hb md_Mo_shut_11 (by decide) ?_
  refine fw_iast hx hb hK hD hP hS (mm_13 (by decide)) (mk_13 0) 0 rfl (j := 0) (by decide) (fw_inc (by decide)) md_Mo_shut_12 (fun v2 H locs ev2 hP hS => ?_)
  have hI : mI b v2 := by rw [ev2]; exact mI_up hI trivial trivial
  refine lv_aload_n hx hb md_Mo_shut_13 rfl (lv_at hl 0 rfl) ?_
  refine fw_getr hx hb hts i_Mo hown hK hP (mm_0 (by decide)) (mk_0 0) rfl 14 (by decide) (hts _ L_Mo_50) (fun _ h9 => h9) rfl md_Mo_shut_14 ?_
  refine lv_iload_n hx hb md_Mo_shut_17 rfl (lv_at hl 1 rfl) ?_
  refine lv_iconst (v := (-1 : Int32)) hx hb md_Mo_shut_18 (by decide) ?_
  refine fw_iast hx hb hK hD hP hS (mm_15 (by decide)) (mk_15 0) 0 rfl (j := 0) (by decide) (fw_inc (by decide)) md_Mo_shut_19 (fun v3 H locs ev3 hP hS => ?_)
  have hI : mI b v3 := by rw [ev3]; exact mI_up hI trivial trivial
  refine lv_aload_n hx hb md_Mo_shut_20 rfl (lv_at hl 0 rfl) ?_
  refine fw_getr hx hb hts i_Mo hown hK hP (mm_0 (by decide)) (mk_0 0) rfl 15 (by decide) (hts _ L_Mo_53) (fun _ h9 => h9) rfl md_Mo_shut_21 ?_
  refine lv_iload_n hx hb md_Mo_shut_24 rfl (lv_at hl 1 rfl) ?_
  refine lv_iconst (v := (0 : Int32)) hx hb md_Mo_shut_25 (by decide) ?_
  refine fw_iast hx hb hK hD hP hS (mm_16 (by decide)) (mk_16 0) 0 rfl (j := 0) (by decide) (fw_inc (by decide)) md_Mo_shut_26 (fun v4 H locs ev4 hP hS => ?_)
  have hI : mI b v4 := by rw [ev4]; exact mI_up hI trivial trivial
  refine lv_aload_n hx hb md_Mo_shut_27 rfl (lv_at hl 0 rfl) ?_
  refine fw_getr hx hb hts i_Mo hown hK hP (mm_0 (by decide)) (mk_0 0) rfl 16 (by decide) (hts _ L_Mo_56) (fun _ h9 => h9) rfl md_Mo_shut_28 ?_
  refine lv_iload_n hx hb md_Mo_shut_31 rfl (lv_at hl 1 rfl) ?_
  refine lv_iconst (v := (0 : Int32)) hx hb md_Mo_shut_32 (by decide) ?_
  refine fw_iast hx hb hK hD hP hS (mm_17 (by decide)) (mk_17 0) 0 rfl (j := 0) (by decide) (fw_inc (by decide)) md_Mo_shut_33 (fun v5 H locs ev5 hP hS => ?_)
  have hI : mI b v5 := by rw [ev5]; exact mI_up hI trivial trivial
  refine lv_bipush (v := (6 : Int32)) hx hb md_Mo_shut_34 (by decide) ?_
  refine lv_iload_n hx hb md_Mo_shut_36 rfl (lv_at hl 1 rfl) ?_
  refine lv_imul hx hb md_Mo_shut_37 ?_
  refine fw_top (y := (0 : Int32)) (by decide) ?_
  refine lv_istore_n (lv' := [(2, .int (0 : Int32)), (0, .ref (ad 0 0)), (1, .int (0 : Int32))]) hx hb md_Mo_shut_38 rfl hl (by decide) rfl (fun ls hl => ?_)
  refine lv_iload_n hx hb md_Mo_shut_39 rfl (lv_at hl 0 rfl) ?_
  refine lv_bipush (v := (6 : Int32)) hx hb md_Mo_shut_40 (by decide) ?_
  refine lv_iload_n hx hb md_Mo_shut_42 rfl (lv_at hl 2 rfl) ?_
  refine lv_imul hx hb md_Mo_shut_43 ?_
  refine fw_top (y := (0 : Int32)) (by decide) ?_
  refine lv_bipush (v := (6 : Int32)) hx hb md_Mo_shut_44 (by decide) ?_
  refine lv_iadd hx hb md_Mo_shut_46 ?_
  refine fw_top (y := (6 : Int32)) (by decide) ?_
  refine lv_icmp_ge (tgt := 63) hx hb md_Mo_shut_47 (by decide) (fun c_6 => absurd c_6 (by decide)) (fun _ => ?_)
  refine lv_aload_n hx hb md_Mo_shut_50 rfl (lv_at hl 1 rfl) ?_
  refine fw_getr hx hb hts i_Mo hown hK hP (mm_0 (by decide)) (mk_0 0) rfl 26 (by decide) (hts _ L_Mo_86) (fun _ h9 => h9) rfl md_Mo_shut_51 ?_
  refine lv_iload_n hx hb md_Mo_shut_54 rfl (lv_at hl 0 rfl) ?_
  refine lv_iconst (v := (0 : Int32)) hx hb md_Mo_shut_55 (by decide) ?_
  refine fw_iast hx hb hK hD hP hS (mm_27 (by decide)) (mk_27 0) 0 rfl (j := 0) (by decide) (fw_inc (by decide)) md_Mo_shut_56 (fun v7 H locs ev7 hP hS => ?_)
  have hI : mI b v7 := by rw [ev7]; exact mI_up hI trivial trivial
  refine lv_iinc (v := (1 : Int32)) (lv' := [(2, .int (1 : Int32)), (0, .ref (ad 0 0)), (1, .int (0 : Int32))]) hx hb md_Mo_shut_57 hl (k := 0) rfl (by decide) (by decide) rfl (fun ls hl => ?_)
  refine lv_goto (tgt := 39) hx hb md_Mo_shut_60 (by decide) ?_
  refine lv_iload_n hx hb md_Mo_shut_39 rfl (lv_at hl 0 rfl) ?_
  refine lv_bipush (v := (6 : Int32)) hx hb md_Mo_shut_40 (by decide) ?_
  refine lv_iload_n hx hb md_Mo_shut_42 rfl (lv_at hl 2 rfl) ?_
  refine lv_imul hx hb md_Mo_shut_43 ?_
  refine fw_top (y := (0 : Int32)) (by decide) ?_
  refine lv_bipush (v := (6 : Int32)) hx hb md_Mo_shut_44 (by decide) ?_
  refine lv_iadd hx hb md_Mo_shut_46 ?_
  refine fw_top (y := (6 : Int32)) (by decide) ?_
  refine lv_icmp_ge (tgt := 63) hx hb md_Mo_shut_47 (by decide) (fun c_8 => absurd c_8 (by decide)) (fun _ => ?_)
  refine lv_aload_n hx hb md_Mo_shut_50 rfl (lv_at hl 1 rfl) ?_
  refine fw_getr hx hb hts i_Mo hown hK hP (mm_0 (by decide)) (mk_0 0) rfl 26 (by decide) (hts _ L_Mo_86) (fun _ h9 => h9) rfl md_Mo_shut_51 ?_
  refine lv_iload_n hx hb md_Mo_shut_54 rfl (lv_at hl 0 rfl) ?_
  refine lv_iconst (v := (0 : Int32)) hx hb md_Mo_shut_55 (by decide) ?_
  refine fw_iast hx hb hK hD hP hS (mm_27 (by decide)) (mk_27 0) 0 rfl (j := 1) (by decide) (fw_inc (by decide)) md_Mo_shut_56 (fun v9 H locs ev9 hP hS => ?_)
  have hI : mI b v9 := by rw [ev9]; exact mI_up hI trivial trivial
  refine lv_iinc (v := (2 : Int32)) (lv' := [(2, .int (2 : Int32)), (0, .ref (ad 0 0)), (1, .int (0 : Int32))]) hx hb md_Mo_shut_57 hl (k := 0) rfl (by decide) (by decide) rfl (fun ls hl => ?_)
  refine lv_goto (tgt := 39) hx hb md_Mo_shut_60 (by decide) ?_
  refine lv_iload_n hx hb md_Mo_shut_39 rfl (lv_at hl 0 rfl) ?_
  refine lv_bipush (v := (6 : Int32)) hx hb md_Mo_shut_40 (by decide) ?_
  refine lv_iload_n hx hb md_Mo_shut_42 rfl (lv_at hl 2 rfl) ?_
  refine lv_imul hx hb md_Mo_shut_43 ?_
  refine fw_top (y := (0 : Int32)) (by decide) ?_
  refine lv_bipush (v := (6 : Int32)) hx hb md_Mo_shut_44 (by decide) ?_
  refine lv_iadd hx hb md_Mo_shut_46 ?_
  refine fw_top (y := (6 : Int32)) (by decide) ?_
  refine lv_icmp_ge (tgt := 63) hx hb md_Mo_shut_47 (by decide) (fun c_10 => absurd c_10 (by decide)) (fun _ => ?_)
  refine lv_aload_n hx hb md_Mo_shut_50 rfl (lv_at hl 1 rfl) ?_
  refine fw_getr hx hb hts i_Mo hown hK hP (mm_0 (by decide)) (mk_0 0) rfl 26 (by decide) (hts _ L_Mo_86) (fun _ h9 => h9) rfl md_Mo_shut_51 ?_
  refine lv_iload_n hx hb md_Mo_shut_54 rfl (lv_at hl 0 rfl) ?_
  refine lv_iconst (v := (0 : Int32)) hx hb md_Mo_shut_55 (by decide) ?_
  refine fw_iast hx hb hK hD hP hS (mm_27 (by decide)) (mk_27 0) 0 rfl (j := 2) (by decide) (fw_inc (by decide)) md_Mo_shut_56 (fun v11 H locs ev11 hP hS => ?_)
  have hI : mI b v11 := by rw [ev11]; exact mI_up hI trivial trivial
  refine lv_iinc (v := (3 : Int32)) (lv' := [(2, .int (3 : Int32)), (0, .ref (ad 0 0)), (1, .int (0 : Int32))]) hx hb md_Mo_shut_57 hl (k := 0) rfl (by decide) (by decide) rfl (fun ls hl => ?_)
  refine lv_goto (tgt := 39) hx hb md_Mo_shut_60 (by decide) ?_
  refine lv_iload_n hx hb md_Mo_shut_39 rfl (lv_at hl 0 rfl) ?_
  refine lv_bipush (v := (6 : Int32)) hx hb md_Mo_shut_40 (by decide) ?_
  refine lv_iload_n hx hb md_Mo_shut_42 rfl (lv_at hl 2 rfl) ?_
  refine lv_imul hx hb md_Mo_shut_43 ?_
  refine fw_top (y := (0 : Int32)) (by decide) ?_
  refine lv_bipush (v := (6 : Int32)) hx hb md_Mo_shut_44 (by decide) ?_
  refine lv_iadd hx hb md_Mo_shut_46 ?_
  refine fw_top (y := (6 : Int32)) (by decide) ?_
  refine lv_icmp_ge (tgt := 63) hx hb md_Mo_shut_47 (by decide) (fun c_12 => absurd c_12 (by decide)) (fun _ => ?_)
  refine lv_aload_n hx hb md_Mo_shut_50 rfl (lv_at hl 1 rfl) ?_
  refine fw_getr hx hb hts i_Mo hown hK hP (mm_0 (by decide)) (mk_0 0) rfl 26 (by decide) (hts _ L_Mo_86) (fun _ h9 => h9) rfl md_Mo_shut_51 ?_
  refine lv_iload_n hx hb md_Mo_shut_54 rfl (lv_at hl 0 rfl) ?_
  refine lv_iconst (v := (0 : Int32)) hx hb md_Mo_shut_55 (by decide) ?_
  refine fw_iast hx hb hK hD hP hS (mm_27 (by decide)) (mk_27 0) 0 rfl (j := 3) (by decide) (fw_inc (by decide)) md_Mo_shut_56 (fun v13 H locs ev13 hP hS => ?_)
  have hI : mI b v13 := by rw [ev13]; exact mI_up hI trivial trivial
  refine lv_iinc (v := (4 : Int32)) (lv' := [(2, .int (4 : Int32)), (0, .ref (ad 0 0)), (1, .int (0 : Int32))]) hx hb md_Mo_shut_57 hl (k := 0) rfl (by decide) (by decide) rfl (fun ls hl => ?_)
  refine lv_goto (tgt := 39) hx hb md_Mo_shut_60 (by decide) ?_
  refine lv_iload_n hx hb md_Mo_shut_39 rfl (lv_at hl 0 rfl) ?_
  refine lv_bipush (v := (6 : Int32)) hx hb md_Mo_shut_40 (by decide) ?_
  refine lv_iload_n hx hb md_Mo_shut_42 rfl (lv_at hl 2 rfl) ?_
  refine lv_imul hx hb md_Mo_shut_43 ?_
  refine fw_top (y := (0 : Int32)) (by decide) ?_
  refine lv_bipush (v := (6 : Int32)) hx hb md_Mo_shut_44 (by decide) ?_
  refine lv_iadd hx hb md_Mo_shut_46 ?_
  refine fw_top (y := (6 : Int32)) (by decide) ?_
  refine lv_icmp_ge (tgt := 63) hx hb md_Mo_shut_47 (by decide) (fun c_14 => absurd c_14 (by decide)) (fun _ => ?_)
  refine lv_aload_n hx hb md_Mo_shut_50 rfl (lv_at hl 1 rfl) ?_
  refine fw_getr hx hb hts i_Mo hown hK hP (mm_0 (by decide)) (mk_0 0) rfl 26 (by decide) (hts _ L_Mo_86) (fun _ h9 => h9) rfl md_Mo_shut_51 ?_
  refine lv_iload_n hx hb md_Mo_shut_54 rfl (lv_at hl 0 rfl) ?_
  refine lv_iconst (v := (0 : Int32)) hx hb md_Mo_shut_55 (by decide) ?_
  refine fw_iast hx hb hK hD hP hS (mm_27 (by decide)) (mk_27 0) 0 rfl (j := 4) (by decide) (fw_inc (by decide)) md_Mo_shut_56 (fun v15 H locs ev15 hP hS => ?_)
  have hI : mI b v15 := by rw [ev15]; exact mI_up hI trivial trivial
  refine lv_iinc (v := (5 : Int32)) (lv' := [(2, .int (5 : Int32)), (0, .ref (ad 0 0)), (1, .int (0 : Int32))]) hx hb md_Mo_shut_57 hl (k := 0) rfl (by decide) (by decide) rfl (fun ls hl => ?_)
  refine lv_goto (tgt := 39) hx hb md_Mo_shut_60 (by decide) ?_
  refine lv_iload_n hx hb md_Mo_shut_39 rfl (lv_at hl 0 rfl) ?_
  refine lv_bipush (v := (6 : Int32)) hx hb md_Mo_shut_40 (by decide) ?_
  refine lv_iload_n hx hb md_Mo_shut_42 rfl (lv_at hl 2 rfl) ?_
  refine lv_imul hx hb md_Mo_shut_43 ?_
  refine fw_top (y := (0 : Int32)) (by decide) ?_
  refine lv_bipush (v := (6 : Int32)) hx hb md_Mo_shut_44 (by decide) ?_
  refine lv_iadd hx hb md_Mo_shut_46 ?_
  refine fw_top (y := (6 : Int32)) (by decide) ?_
  refine lv_icmp_ge (tgt := 63) hx hb md_Mo_shut_47 (by decide) (fun c_16 => absurd c_16 (by decide)) (fun _ => ?_)
  refine lv_aload_n hx hb md_Mo_shut_50 rfl (lv_at hl 1 rfl) ?_
  refine fw_getr hx hb hts i_Mo hown hK hP (mm_0 (by decide)) (mk_0 0) rfl 26 (by decide) (hts _ L_Mo_86) (fun _ h9 => h9) rfl md_Mo_shut_51 ?_
  refine lv_iload_n hx hb md_Mo_shut_54 rfl (lv_at hl 0 rfl) ?_
  refine lv_iconst (v := (0 : Int32)) hx hb md_Mo_shut_55 (by decide) ?_
  refine fw_iast hx hb hK hD hP hS (mm_27 (by decide)) (mk_27 0) 0 rfl (j := 5) (by decide) (fw_inc (by decide)) md_Mo_shut_56 (fun v17 H locs ev17 hP hS => ?_)
  have hI : mI b v17 := by rw [ev17]; exact mI_up hI trivial trivial
  refine lv_iinc (v := (6 : Int32)) (lv' := [(2, .int (6 : Int32)), (0, .ref (ad 0 0)), (1, .int (0 : Int32))]) hx hb md_Mo_shut_57 hl (k := 0) rfl (by decide) (by decide) rfl (fun ls hl => ?_)
  refine lv_goto (tgt := 39) hx hb md_Mo_shut_60 (by decide) ?_
  refine lv_iload_n hx hb md_Mo_shut_39 rfl (lv_at hl 0 rfl) ?_
  refine lv_bipush (v := (6 : Int32)) hx hb md_Mo_shut_40 (by decide) ?_
  refine lv_iload_n hx hb md_Mo_shut_42 rfl (lv_at hl 2 rfl) ?_
  refine lv_imul hx hb md_Mo_shut_43 ?_
  refine fw_top (y := (0 : Int32)) (by decide) ?_
  refine lv_bipush (v := (6 : Int32)) hx hb md_Mo_shut_44 (by decide) ?_
  refine lv_iadd hx hb md_Mo_shut_46 ?_
  refine fw_top (y := (6 : Int32)) (by decide) ?_
  refine lv_icmp_ge (tgt := 63) hx hb md_Mo_shut_47 (by decide) (fun _ => ?_) (fun c_18 => absurd (by decide) c_18)
  exact fw_vret hx hb hr hlocks hS hP hI md_Mo_shut_63 (by subst ev1 ev2 ev3 ev4 ev5 ev7 ev9 ev11 ev13 ev15 ev17; simp only [mf_Mo_shut_0])

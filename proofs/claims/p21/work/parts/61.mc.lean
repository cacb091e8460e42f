def mf_Mo_tick_j1 : Nat → fw_V → Int32 → Int32 → Int32 × fw_V
  | 0, v, a1, x2 => (0, v)
  | n + 1, v, a1, x2 =>
    if a1 ≤ x2 then
      ((v 0 0 10), v)
    else
      let v6 := fw_up v 0 0 49 ((v 0 0 49) + (1 : Int32))
      let v7 := mf_Mo_beat_0 v6
      let v8 := mf_Mo_beat_1 v7
      let v9 := mf_Mo_pulse_0 v8
      let v10 := mf_Mo_pulse_1 v9
      mf_Mo_tick_j1 n v10 a1 ((x2 + (1 : Int32)))
def mf_Mo_tick (v0 : fw_V) (a1 : Int32) : Int32 × fw_V :=
  let r1 := mf_Mo_is a1 (1 : Int32) (8 : Int32)
  if r1 = (0 : Int32) then
    ((-1 : Int32), v0)
  else
    mf_Mo_tick_j1 10 v0 a1 ((0 : Int32))

set_option maxHeartbeats 4000000 in
set_option maxRecDepth 100000 in
theorem mc_Mo_tick (l : Launch) {D : va_G} {cA : Nat → ClassId} {ad : Nat → Nat → Nat} (hD : fw_D mCL ad) {b : Nat} (v0 : fw_V) (hI : mI b v0) (a1 : Int32)  : Met l my_Mo_tick (Cond.code my_Mo_tick mb_Mo_tick 3 (some .int) :: vTB) mrm_Mo_tick (fw_Pc vNL D vcls (vtys cA) mCL cA mkd ad v0 [.ref (ad 0 0), .int a1]) (fw_Qi D vcls mCL cA mkd ad (mI b) (mf_Mo_tick v0 a1)) 0 0 (fw_A mCL ad) := by
  refine Met.ofW (cc := mb_Mo_tick) (maxL := 3) (ret := (some .int)) (by decide) rfl ?_
  intro p e s m args below meth c s₁ B hml hv
  obtain ⟨rfl, hP, hK, hN⟩ := hv
  have hx := B.exec
  have hb := B.bytes
  have hr := B.returns
  have hts : ∀ w ∈ vTB, w.before ([.ref (ad 0 0), .int a1] : List Value).toArray s = true := fun w h => atoms_spec (ws := (Cond.code my_Mo_tick mb_Mo_tick 3 (some .int) :: vTB)) B.pre w (List.mem_cons_of_mem _ h)
  have hown : s.vm.findClass R_Mo = some m.cls := findClass_of_methodNamed B.named
  have hlocks := B.notSynchronized
  have hS : va_S (fw_A mCL ad) s.heap s.heap [] := va_S.rf
  have J1 : ∀ (n : Nat) (v : fw_V) (x2 : Int32) (H : Heap) (locs : List Loc) (ls : Array Slot), mf_Mo_tick v0 a1 = mf_Mo_tick_j1 n v a1 x2 → (0 ≤ x2.toInt ∧ x2.toInt ≤ a1.toInt ∧ a1.toInt < x2.toInt + n) → mI b v → va_P D vcls (fw_w mCL cA mkd ad v) H → va_S (fw_A mCL ad) s.heap H locs → lv_has ls 3 [(0, .ref (ad 0 0)), (1, .int a1), (2, .int x2)] → W p l e (headSpec (Cond.code my_Mo_tick mb_Mo_tick 3 (some .int) :: vTB) mrm_Mo_tick).room s m ([.ref (ad 0 0), .int a1] : List Value).toArray below meth c H locs 0 0 (MQ below (fw_Qi D vcls mCL cA mkd ad (mI b) (mf_Mo_tick v0 a1)) ([.ref (ad 0 0), .int a1] : List Value).toArray s 0 0 (fw_A mCL ad)) (F0 m 14 ls []) := by
    intro n
    induction n with
    | zero =>
      intro v x2 H locs ls hj hn
      exact absurd hn.2.2 (by omega)
    | succ n ih =>
      intro v x2 H locs ls hj hn  hI hP hS hl
      refine lv_iload_n hx hb md_Mo_tick_14 rfl (lv_at hl 2 rfl) ?_
      refine lv_iload_n hx hb md_Mo_tick_15 rfl (lv_at hl 1 rfl) ?_
      refine lv_icmp_ge (tgt := 55) hx hb md_Mo_tick_16 (by decide) (fun c_4 => ?_) (fun c_4 => ?_)
      · refine lv_aload_n hx hb md_Mo_tick_55 rfl (lv_at hl 0 rfl) ?_
        refine fw_geti hx hb hts i_Mo hown hK hP (mm_0 (by decide)) (mk_0 0) rfl 10 (by decide) (hts _ L_Mo_170) (fun _ h9 => h9) rfl md_Mo_tick_56 ?_
        have h_5 : vp_in (v 0 0 10) 17 := hI.1 0 0 10
        exact fw_iret hx hb hr hlocks hS hP hI md_Mo_tick_59 (by rw [hj]; simp only [mf_Mo_tick_j1, if_pos c_4])
      · refine lv_aload_n hx hb md_Mo_tick_19 rfl (lv_at hl 0 rfl) ?_
        refine lv_dup hx hb md_Mo_tick_20 rfl ?_
        refine fw_geti hx hb hts i_Mo hown hK hP (mm_0 (by decide)) (mk_0 0) rfl 49 (by decide) (hts _ L_Mo_266) (fun _ h9 => h9) rfl md_Mo_tick_21 ?_
        refine lv_iconst (v := (1 : Int32)) hx hb md_Mo_tick_24 (by decide) ?_
        refine lv_iadd hx hb md_Mo_tick_25 ?_
        refine fw_puti hx hb hts i_Mo t_Mo t_Mo_ok n_Mo hown hK hD hP hS (mm_0 (by decide)) (mk_0 0) rfl 49 (by decide) (hts _ L_Mo_266) (fun _ h9 => h9) rfl fw_pdI rfl rfl rfl md_Mo_tick_26 (fun v6 H locs ev6 hP hS => ?_)
        have hI : mI b v6 := by rw [ev6]; exact mI_up hI trivial trivial
        refine lv_aload_n hx hb md_Mo_tick_29 rfl (lv_at hl 0 rfl) ?_
        refine lv_iconst (v := (0 : Int32)) hx hb md_Mo_tick_30 (by decide) ?_
        refine fw_cv (va_runV (As := [.int (0 : Int32)]) (rest := []) ⟨hx, hb, hml, hown, hts⟩ (mc_Mo_beat_0 l hD v6 hI ) (mw_Mo_beat hts L_Mo_269 ⟨Nat.le_of_ble_eq_true rfl, Nat.le_of_ble_eq_true rfl⟩) (fw_preV hN hK hP (mm_0 (by decide)) (mk_0 0) rfl) rfl rfl hl.1 rfl (lv_room (Nat.le_of_ble_eq_true rfl)) md_Mo_tick_31 ⟨Nat.le_of_ble_eq_true rfl, Nat.le_of_ble_eq_true rfl⟩) hS (fun v7 H locs ev7 hI hP hS => ?_)
        refine lv_aload_n hx hb md_Mo_tick_34 rfl (lv_at hl 0 rfl) ?_
        refine lv_iconst (v := (1 : Int32)) hx hb md_Mo_tick_35 (by decide) ?_
        refine fw_cv (va_runV (As := [.int (1 : Int32)]) (rest := []) ⟨hx, hb, hml, hown, hts⟩ (mc_Mo_beat_1 l hD v7 hI ) (mw_Mo_beat hts L_Mo_269 ⟨Nat.le_of_ble_eq_true rfl, Nat.le_of_ble_eq_true rfl⟩) (fw_preV hN hK hP (mm_0 (by decide)) (mk_0 0) rfl) rfl rfl hl.1 rfl (lv_room (Nat.le_of_ble_eq_true rfl)) md_Mo_tick_36 ⟨Nat.le_of_ble_eq_true rfl, Nat.le_of_ble_eq_true rfl⟩) hS (fun v8 H locs ev8 hI hP hS => ?_)
        refine lv_aload_n hx hb md_Mo_tick_39 rfl (lv_at hl 0 rfl) ?_
        refine lv_iconst (v := (0 : Int32)) hx hb md_Mo_tick_40 (by decide) ?_
        refine fw_cv (va_runV (As := [.int (0 : Int32)]) (rest := []) ⟨hx, hb, hml, hown, hts⟩ (mc_Mo_pulse_0 l hD v8 hI ) (mw_Mo_pulse hts L_Mo_272 ⟨Nat.le_of_ble_eq_true rfl, Nat.le_of_ble_eq_true rfl⟩) (fw_preV hN hK hP (mm_0 (by decide)) (mk_0 0) rfl) rfl rfl hl.1 rfl (lv_room (Nat.le_of_ble_eq_true rfl)) md_Mo_tick_41 ⟨Nat.le_of_ble_eq_true rfl, Nat.le_of_ble_eq_true rfl⟩) hS (fun v9 H locs ev9 hI hP hS => ?_)
        refine lv_aload_n hx hb md_Mo_tick_44 rfl (lv_at hl 0 rfl) ?_
        refine lv_iconst (v := (1 : Int32)) hx hb md_Mo_tick_45 (by decide) ?_
        refine fw_cv (va_runV (As := [.int (1 : Int32)]) (rest := []) ⟨hx, hb, hml, hown, hts⟩ (mc_Mo_pulse_1 l hD v9 hI ) (mw_Mo_pulse hts L_Mo_272 ⟨Nat.le_of_ble_eq_true rfl, Nat.le_of_ble_eq_true rfl⟩) (fw_preV hN hK hP (mm_0 (by decide)) (mk_0 0) rfl) rfl rfl hl.1 rfl (lv_room (Nat.le_of_ble_eq_true rfl)) md_Mo_tick_46 ⟨Nat.le_of_ble_eq_true rfl, Nat.le_of_ble_eq_true rfl⟩) hS (fun v10 H locs ev10 hI hP hS => ?_)
        refine lv_iinc (v := (x2 + (1 : Int32))) (lv' := [(2, .int (x2 + (1 : Int32))), (0, .ref (ad 0 0)), (1, .int a1)]) hx hb md_Mo_tick_49 hl (k := 2) rfl rfl (by decide) rfl (fun ls hl => ?_)
        refine lv_goto (tgt := 14) hx hb md_Mo_tick_52 (by decide) ?_
        exact ih v10 ((x2 + (1 : Int32))) _ _ _ (by rw [hj]; subst ev6 ev7 ev8 ev9 ev10; simp only [mf_Mo_tick_j1, if_neg c_4]) (fw_step c_4 hn)   hI hP hS (lv_sub hl [1, 2, 0] rfl)
  skip
  have hl := lv_entry ([.ref (ad 0 0), .int a1]) (n := 3) (Nat.le_of_ble_eq_true rfl)
  rw [lg_entry_eq]
  generalize (lg_sl ([.ref (ad 0 0), .int a1]) ++ List.replicate (3 - (lg_sl ([.ref (ad 0 0), .int a1])).length) Slot.unset).toArray = ls at hl ⊢
  have hl : lv_has ls 3 [(0, .ref (ad 0 0)), (1, .int a1)] := hl
  refine lv_iload_n hx hb md_Mo_tick_0 rfl (lv_at hl 1 rfl) ?_
  refine lv_iconst (v := (1 : Int32)) hx hb md_Mo_tick_1 (by decide) ?_
  refine lv_bipush (v := (8 : Int32)) hx hb md_Mo_tick_2 (by decide) ?_
  refine fw_cb (va_runS (As := [.int a1, .int (1 : Int32), .int (8 : Int32)]) (rest := []) ⟨hx, hb, hml, hown, hts⟩ (mc_Mo_is l hD v0 hI a1 (1 : Int32) (8 : Int32)) (mw_Mo_is hts L_Mo_155 ⟨Nat.le_of_ble_eq_true rfl, Nat.le_of_ble_eq_true rfl⟩) (fw_preS hN hK hP) rfl rfl hl.1 rfl (lv_room (Nat.le_of_ble_eq_true rfl)) md_Mo_tick_4 ⟨Nat.le_of_ble_eq_true rfl, Nat.le_of_ble_eq_true rfl⟩) hS (fun r1 H locs zr1 er1 hP hS => ?_)
  refine lv_if_ne (tgt := 12) hx hb md_Mo_tick_7 (by decide) (fun c_2 => ?_) (fun c_2 => ?_)
  · have h_3 : (1 : Int32).toInt ≤ a1.toInt ∧ a1.toInt ≤ (8 : Int32).toInt := mp_rng er1 c_2
    refine lv_iconst (v := (0 : Int32)) hx hb md_Mo_tick_12 (by decide) ?_
    refine lv_istore_n (lv' := [(2, .int (0 : Int32)), (0, .ref (ad 0 0)), (1, .int a1)]) hx hb md_Mo_tick_13 rfl hl (by decide) rfl (fun ls hl => ?_)
    exact J1 10 v0 ((0 : Int32)) _ _ _ (by subst er1; simp only [mf_Mo_tick, if_neg c_2]) (fw_start0 h_3)   hI hP hS (lv_sub hl [1, 2, 0] rfl)
  · refine lv_iconst (v := (-1 : Int32)) hx hb md_Mo_tick_10 (by decide) ?_
    exact fw_iret hx hb hr hlocks hS hP hI md_Mo_tick_11 (by subst er1; simp only [mf_Mo_tick, if_pos c_2])
def mf_Mo_frame (v0 : fw_V) (a1 : Int32) (a2 : Int32) : Int32 :=
  let r2 := mf_Mo_is a1 (0 : Int32) ((v0 0 0 10) - (1 : Int32))
  if r2 = (0 : Int32) then
    (-2 : Int32)
  else
    let r6 := mf_Mo_is a2 (0 : Int32) (10 : Int32)
    if r6 = (0 : Int32) then
      (-1 : Int32)
    else
      if a2 = (0 : Int32) then
        (v0 4 0 a1.toNatClampNeg)
      else
        if a2 = (1 : Int32) then
          (v0 5 0 a1.toNatClampNeg)
        else
          if a2 = (2 : Int32) then
            (v0 6 0 a1.toNatClampNeg)
          else
            if a2 = (3 : Int32) then
              (v0 7 0 a1.toNatClampNeg)
            else
              (v0 8 0 ((((7 : Int32) * a1) + a2) - (4 : Int32)).toNatClampNeg)

set_option maxHeartbeats 4000000 in
set_option maxRecDepth 100000 in
theorem mc_Mo_frame (l : Launch) {D : va_G} {cA : Nat → ClassId} {ad : Nat → Nat → Nat} (hD : fw_D mCL ad) {b : Nat} (v0 : fw_V) (hI : mI b v0) (a1 : Int32) (a2 : Int32)  : Met l my_Mo_frame (Cond.code my_Mo_frame mb_Mo_frame 3 (some .int) :: vTB) mrm_Mo_frame (fw_Pc vNL D vcls (vtys cA) mCL cA mkd ad v0 [.ref (ad 0 0), .int a1, .int a2]) (fw_Qo D vcls mCL cA mkd ad v0 (mf_Mo_frame v0 a1 a2)) 0 0 (fw_A mCL ad) := by
  refine Met.ofW (cc := mb_Mo_frame) (maxL := 3) (ret := (some .int)) (by decide) rfl ?_
  intro p e s m args below meth c s₁ B hml hv
  obtain ⟨rfl, hP, hK, hN⟩ := hv
  have hx := B.exec
  have hb := B.bytes
  have hr := B.returns
  have hts : ∀ w ∈ vTB, w.before ([.ref (ad 0 0), .int a1, .int a2] : List Value).toArray s = true := fun w h => atoms_spec (ws := (Cond.code my_Mo_frame mb_Mo_frame 3 (some .int) :: vTB)) B.pre w (List.mem_cons_of_mem _ h)
  have hown : s.vm.findClass R_Mo = some m.cls := findClass_of_methodNamed B.named
  have hlocks := B.notSynchronized
  have hS : va_S (fw_A mCL ad) s.heap s.heap [] := va_S.rf
  skip
  have hl := lv_entry ([.ref (ad 0 0), .int a1, .int a2]) (n := 3) (Nat.le_of_ble_eq_true rfl)
  rw [lg_entry_eq]
  generalize (lg_sl ([.ref (ad 0 0), .int a1, .int a2]) ++ List.replicate (3 - (lg_sl ([.ref (ad 0 0), .int a1, .int a2])).length) Slot.unset).toArray = ls at hl ⊢
  have hl : lv_has ls 3 [(0, .ref (ad 0 0)), (1, .int a1), (2, .int a2)] := hl
  refine lv_iload_n hx hb md_Mo_frame_0 rfl (lv_at hl 1 rfl) ?_
  refine lv_iconst (v := (0 : Int32)) hx hb md_Mo_frame_1 (by decide) ?_
  refine lv_aload_n hx hb md_Mo_frame_2 rfl (lv_at hl 0 rfl) ?_
  refine fw_geti hx hb hts i_Mo hown hK hP (mm_0 (by decide)) (mk_0 0) rfl 10 (by decide) (hts _ L_Mo_170) (fun _ h9 => h9) rfl md_Mo_frame_3 ?_
  have h_1 : vp_in (v0 0 0 10) 17 := hI.1 0 0 10
  refine lv_iconst (v := (1 : Int32)) hx hb md_Mo_frame_6 (by decide) ?_
  refine lv_isub hx hb md_Mo_frame_7 ?_
  refine fw_cb (va_runS (As := [.int a1, .int (0 : Int32), .int ((v0 0 0 10) - (1 : Int32))]) (rest := []) ⟨hx, hb, hml, hown, hts⟩ (mc_Mo_is l hD v0 hI a1 (0 : Int32) ((v0 0 0 10) - (1 : Int32))) (mw_Mo_is hts L_Mo_155 ⟨Nat.le_of_ble_eq_true rfl, Nat.le_of_ble_eq_true rfl⟩) (fw_preS hN hK hP) rfl rfl hl.1 rfl (lv_room (Nat.le_of_ble_eq_true rfl)) md_Mo_frame_8 ⟨Nat.le_of_ble_eq_true rfl, Nat.le_of_ble_eq_true rfl⟩) hS (fun r2 H locs zr2 er2 hP hS => ?_)
  refine lv_if_ne (tgt := 17) hx hb md_Mo_frame_11 (by decide) (fun c_3 => ?_) (fun c_3 => ?_)
  · have h_4 : vp_in a1 16 := mp_has er2 c_3 (hI.1 0 0 10)
    have h_5 : 0 < (v0 0 0 10).toInt := mp_hasPos er2 c_3 (hI.1 0 0 10)
    refine lv_iload_n hx hb md_Mo_frame_17 rfl (lv_at hl 2 rfl) ?_
    refine lv_iconst (v := (0 : Int32)) hx hb md_Mo_frame_18 (by decide) ?_
    refine lv_bipush (v := (10 : Int32)) hx hb md_Mo_frame_19 (by decide) ?_
    refine fw_cb (va_runS (As := [.int a2, .int (0 : Int32), .int (10 : Int32)]) (rest := []) ⟨hx, hb, hml, hown, hts⟩ (mc_Mo_is l hD v0 hI a2 (0 : Int32) (10 : Int32)) (mw_Mo_is hts L_Mo_155 ⟨Nat.le_of_ble_eq_true rfl, Nat.le_of_ble_eq_true rfl⟩) (fw_preS hN hK hP) rfl rfl hl.1 rfl (lv_room (Nat.le_of_ble_eq_true rfl)) md_Mo_frame_21 ⟨Nat.le_of_ble_eq_true rfl, Nat.le_of_ble_eq_true rfl⟩) hS (fun r6 H locs zr6 er6 hP hS => ?_)
    refine lv_if_ne (tgt := 29) hx hb md_Mo_frame_24 (by decide) (fun c_7 => ?_) (fun c_7 => ?_)
    · have h_8 : vp_in a2 11 := mp_in er6 c_7 (by decide)
      refine lv_iload_n hx hb md_Mo_frame_29 rfl (lv_at hl 2 rfl) ?_
      refine lv_if_ne (tgt := 42) hx hb md_Mo_frame_30 (by decide) (fun c_9 => ?_) (fun c_9 => ?_)
      · have h_10 : 0 < a2.toInt := fw_pos h_8 c_9
        refine lv_iload_n hx hb md_Mo_frame_42 rfl (lv_at hl 2 rfl) ?_
        refine lv_iconst (v := (1 : Int32)) hx hb md_Mo_frame_43 (by decide) ?_
        refine lv_icmp_ne (tgt := 56) hx hb md_Mo_frame_44 (by decide) (fun c_11 => ?_) (fun c_11 => ?_)
        · refine lv_iload_n hx hb md_Mo_frame_56 rfl (lv_at hl 2 rfl) ?_
          refine lv_iconst (v := (2 : Int32)) hx hb md_Mo_frame_57 (by decide) ?_
          refine lv_icmp_ne (tgt := 70) hx hb md_Mo_frame_58 (by decide) (fun c_12 => ?_) (fun c_12 => ?_)
          · refine lv_iload_n hx hb md_Mo_frame_70 rfl (lv_at hl 2 rfl) ?_
            refine lv_iconst (v := (3 : Int32)) hx hb md_Mo_frame_71 (by decide) ?_
            refine lv_icmp_ne (tgt := 84) hx hb md_Mo_frame_72 (by decide) (fun c_13 => ?_) (fun c_13 => ?_)
            · refine lv_aload_n hx hb md_Mo_frame_84 rfl (lv_at hl 0 rfl) ?_
              refine fw_getr hx hb hts i_Mo hown hK hP (mm_0 (by decide)) (mk_0 0) rfl 7 (by decide) (hts _ L_Mo_32) (fun _ h9 => h9) rfl md_Mo_frame_85 ?_
              refine lv_bipush (v := (7 : Int32)) hx hb md_Mo_frame_88 (by decide) ?_
              refine lv_iload_n hx hb md_Mo_frame_90 rfl (lv_at hl 1 rfl) ?_
              refine lv_imul hx hb md_Mo_frame_91 ?_
              refine lv_iload_n hx hb md_Mo_frame_92 rfl (lv_at hl 2 rfl) ?_
              refine lv_iadd hx hb md_Mo_frame_93 ?_
              refine lv_iconst (v := (4 : Int32)) hx hb md_Mo_frame_94 (by decide) ?_
              refine lv_isub hx hb md_Mo_frame_95 ?_
              refine fw_iald hx hb hK hP (mm_8 (by decide)) (mk_8 0) 0 rfl (j := ((((7 : Int32) * a1) + a2) - (4 : Int32)).toNatClampNeg) rfl (mp_frame h_4 h_8 c_9 c_11 c_12 c_13) md_Mo_frame_96 ?_
              exact fw_oret hx hb hr hlocks hS hP md_Mo_frame_97 (by subst er2 er6; simp only [mf_Mo_frame, if_neg c_3, if_neg c_7, if_neg c_9, if_neg c_11, if_neg c_12, if_neg c_13])
            · refine lv_aload_n hx hb md_Mo_frame_75 rfl (lv_at hl 0 rfl) ?_
              refine fw_getr hx hb hts i_Mo hown hK hP (mm_0 (by decide)) (mk_0 0) rfl 6 (by decide) (hts _ L_Mo_29) (fun _ h9 => h9) rfl md_Mo_frame_76 ?_
              refine lv_iload_n hx hb md_Mo_frame_79 rfl (lv_at hl 1 rfl) ?_
              refine fw_iald hx hb hK hP (mm_7 (by decide)) (mk_7 0) 0 rfl (j := a1.toNatClampNeg) rfl h_4 md_Mo_frame_80 ?_
              refine lv_goto (tgt := 97) hx hb md_Mo_frame_81 (by decide) ?_
              exact fw_oret hx hb hr hlocks hS hP md_Mo_frame_97 (by subst er2 er6; simp only [mf_Mo_frame, if_neg c_3, if_neg c_7, if_neg c_9, if_neg c_11, if_neg c_12, if_pos c_13])
          · refine lv_aload_n hx hb md_Mo_frame_61 rfl (lv_at hl 0 rfl) ?_
            refine fw_getr hx hb hts i_Mo hown hK hP (mm_0 (by decide)) (mk_0 0) rfl 5 (by decide) (hts _ L_Mo_26) (fun _ h9 => h9) rfl md_Mo_frame_62 ?_
            refine lv_iload_n hx hb md_Mo_frame_65 rfl (lv_at hl 1 rfl) ?_
            refine fw_iald hx hb hK hP (mm_6 (by decide)) (mk_6 0) 0 rfl (j := a1.toNatClampNeg) rfl h_4 md_Mo_frame_66 ?_
            refine lv_goto (tgt := 97) hx hb md_Mo_frame_67 (by decide) ?_
            exact fw_oret hx hb hr hlocks hS hP md_Mo_frame_97 (by subst er2 er6; simp only [mf_Mo_frame, if_neg c_3, if_neg c_7, if_neg c_9, if_neg c_11, if_pos c_12])
        · refine lv_aload_n hx hb md_Mo_frame_47 rfl (lv_at hl 0 rfl) ?_
          refine fw_getr hx hb hts i_Mo hown hK hP (mm_0 (by decide)) (mk_0 0) rfl 4 (by decide) (hts _ L_Mo_23) (fun _ h9 => h9) rfl md_Mo_frame_48 ?_
          refine lv_iload_n hx hb md_Mo_frame_51 rfl (lv_at hl 1 rfl) ?_
          refine fw_iald hx hb hK hP (mm_5 (by decide)) (mk_5 0) 0 rfl (j := a1.toNatClampNeg) rfl h_4 md_Mo_frame_52 ?_
          refine lv_goto (tgt := 97) hx hb md_Mo_frame_53 (by decide) ?_
          exact fw_oret hx hb hr hlocks hS hP md_Mo_frame_97 (by subst er2 er6; simp only [mf_Mo_frame, if_neg c_3, if_neg c_7, if_neg c_9, if_pos c_11])
      · refine lv_aload_n hx hb md_Mo_frame_33 rfl (lv_at hl 0 rfl) ?_
        refine fw_getr hx hb hts i_Mo hown hK hP (mm_0 (by decide)) (mk_0 0) rfl 3 (by decide) (hts _ L_Mo_20) (fun _ h9 => h9) rfl md_Mo_frame_34 ?_
        refine lv_iload_n hx hb md_Mo_frame_37 rfl (lv_at hl 1 rfl) ?_
        refine fw_iald hx hb hK hP (mm_4 (by decide)) (mk_4 0) 0 rfl (j := a1.toNatClampNeg) rfl h_4 md_Mo_frame_38 ?_
        refine lv_goto (tgt := 97) hx hb md_Mo_frame_39 (by decide) ?_
        exact fw_oret hx hb hr hlocks hS hP md_Mo_frame_97 (by subst er2 er6; simp only [mf_Mo_frame, if_neg c_3, if_neg c_7, if_pos c_9])
    · refine lv_iconst (v := (-1 : Int32)) hx hb md_Mo_frame_27 (by decide) ?_
      exact fw_oret hx hb hr hlocks hS hP md_Mo_frame_28 (by subst er2 er6; simp only [mf_Mo_frame, if_neg c_3, if_pos c_7])
  · refine lv_bipush (v := (-2 : Int32)) hx hb md_Mo_frame_14 (by decide) ?_
    exact fw_oret hx hb hr hlocks hS hP md_Mo_frame_16 (by subst er2; simp only [mf_Mo_frame, if_pos c_3])
def mf_Mo_relation (v0 : fw_V) (a1 : Int32) (a2 : Int32) : Int32 :=
  let r1 := mf_Mo_is a1 (0 : Int32) (1 : Int32)
  if r1 = (0 : Int32) then
    (-1 : Int32)
  else
    if a2 = (0 : Int32) then
      (v0 12 0 a1.toNatClampNeg)
    else
      if a2 = (1 : Int32) then
        (v0 13 0 a1.toNatClampNeg)
      else
        if a2 = (2 : Int32) then
          (v0 15 0 a1.toNatClampNeg)
        else
          if a2 = (3 : Int32) then
            (v0 16 0 a1.toNatClampNeg)
          else
            if a2 = (4 : Int32) then
              (v0 17 0 a1.toNatClampNeg)
            else
              if a2 = (5 : Int32) then
                (v0 18 0 a1.toNatClampNeg)
              else
                if a2 = (6 : Int32) then
                  (v0 19 0 a1.toNatClampNeg)
                else
                  (-1 : Int32)

set_option maxHeartbeats 4000000 in
set_option maxRecDepth 100000 in
theorem mc_Mo_relation (l : Launch) {D : va_G} {cA : Nat → ClassId} {ad : Nat → Nat → Nat} (hD : fw_D mCL ad) {b : Nat} (v0 : fw_V) (hI : mI b v0) (a1 : Int32) (a2 : Int32)  : Met l my_Mo_relation (Cond.code my_Mo_relation mb_Mo_relation 3 (some .int) :: vTB) mrm_Mo_relation (fw_Pc vNL D vcls (vtys cA) mCL cA mkd ad v0 [.ref (ad 0 0), .int a1, .int a2]) (fw_Qo D vcls mCL cA mkd ad v0 (mf_Mo_relation v0 a1 a2)) 0 0 (fw_A mCL ad) := by
  refine Met.ofW (cc := mb_Mo_relation) (maxL := 3) (ret := (some .int)) (by decide) rfl ?_
  intro p e s m args below meth c s₁ B hml hv
  obtain ⟨rfl, hP, hK, hN⟩ := hv
  have hx := B.exec
  have hb := B.bytes
  have hr := B.returns
  have hts : ∀ w ∈ vTB, w.before ([.ref (ad 0 0), .int a1, .int a2] : List Value).toArray s = true := fun w h => atoms_spec (ws := (Cond.code my_Mo_relation mb_Mo_relation 3 (some .int) :: vTB)) B.pre w (List.mem_cons_of_mem _ h)
  have hown : s.vm.findClass R_Mo = some m.cls := findClass_of_methodNamed B.named
  have hlocks := B.notSynchronized
  have hS : va_S (fw_A mCL ad) s.heap s.heap [] := va_S.rf
  skip
  have hl := lv_entry ([.ref (ad 0 0), .int a1, .int a2]) (n := 3) (Nat.le_of_ble_eq_true rfl)
  rw [lg_entry_eq]
  generalize (lg_sl ([.ref (ad 0 0), .int a1, .int a2]) ++ List.replicate (3 - (lg_sl ([.ref (ad 0 0), .int a1, .int a2])).length) Slot.unset).toArray = ls at hl ⊢
  have hl : lv_has ls 3 [(0, .ref (ad 0 0)), (1, .int a1), (2, .int a2)] := hl
  refine lv_iload_n hx hb md_Mo_relation_0 rfl (lv_at hl 1 rfl) ?_
  refine lv_iconst (v := (0 : Int32)) hx hb md_Mo_relation_1 (by decide) ?_
  refine lv_iconst (v := (1 : Int32)) hx hb md_Mo_relation_2 (by decide) ?_
  refine fw_cb (va_runS (As := [.int a1, .int (0 : Int32), .int (1 : Int32)]) (rest := []) ⟨hx, hb, hml, hown, hts⟩ (mc_Mo_is l hD v0 hI a1 (0 : Int32) (1 : Int32)) (mw_Mo_is hts L_Mo_155 ⟨Nat.le_of_ble_eq_true rfl, Nat.le_of_ble_eq_true rfl⟩) (fw_preS hN hK hP) rfl rfl hl.1 rfl (lv_room (Nat.le_of_ble_eq_true rfl)) md_Mo_relation_3 ⟨Nat.le_of_ble_eq_true rfl, Nat.le_of_ble_eq_true rfl⟩) hS (fun r1 H locs zr1 er1 hP hS => ?_)
  refine lv_if_ne (tgt := 11) hx hb md_Mo_relation_6 (by decide) (fun c_2 => ?_) (fun c_2 => ?_)
  · have h_3 : vp_in a1 2 := mp_in er1 c_2 (by decide)
    refine lv_iload_n hx hb md_Mo_relation_11 rfl (lv_at hl 2 rfl) ?_
    by_cases c_4 : a2 = (0 : Int32)
    · refine lv_tableIn (off := 44) (tgt := 56) hx hb md_Mo_relation_12 (by rw [c_4]; decide) (by rw [c_4]; decide) (by rw [c_4]; rfl) (by decide) ?_
      refine lv_aload_n hx hb md_Mo_relation_56 rfl (lv_at hl 0 rfl) ?_
      refine fw_getr hx hb hts i_Mo hown hK hP (mm_0 (by decide)) (mk_0 0) rfl 11 (by decide) (hts _ L_Mo_41) (fun _ h9 => h9) rfl md_Mo_relation_57 ?_
      refine lv_iload_n hx hb md_Mo_relation_60 rfl (lv_at hl 1 rfl) ?_
      refine fw_iald hx hb hK hP (mm_12 (by decide)) (mk_12 0) 0 rfl (j := a1.toNatClampNeg) rfl h_3 md_Mo_relation_61 ?_
      exact fw_oret hx hb hr hlocks hS hP md_Mo_relation_62 (by subst er1; simp only [mf_Mo_relation, if_neg c_2, if_pos c_4])
    · skip
      by_cases c_5 : a2 = (1 : Int32)
      · refine lv_tableIn (off := 51) (tgt := 63) hx hb md_Mo_relation_12 (by rw [c_5]; decide) (by rw [c_5]; decide) (by rw [c_5]; rfl) (by decide) ?_
        refine lv_aload_n hx hb md_Mo_relation_63 rfl (lv_at hl 0 rfl) ?_
        refine fw_getr hx hb hts i_Mo hown hK hP (mm_0 (by decide)) (mk_0 0) rfl 12 (by decide) (hts _ L_Mo_44) (fun _ h9 => h9) rfl md_Mo_relation_64 ?_
        refine lv_iload_n hx hb md_Mo_relation_67 rfl (lv_at hl 1 rfl) ?_
        refine fw_iald hx hb hK hP (mm_13 (by decide)) (mk_13 0) 0 rfl (j := a1.toNatClampNeg) rfl h_3 md_Mo_relation_68 ?_
        exact fw_oret hx hb hr hlocks hS hP md_Mo_relation_69 (by subst er1; simp only [mf_Mo_relation, if_neg c_2, if_neg c_4, if_pos c_5])
      · skip
        by_cases c_6 : a2 = (2 : Int32)
        · refine lv_tableIn (off := 58) (tgt := 70) hx hb md_Mo_relation_12 (by rw [c_6]; decide) (by rw [c_6]; decide) (by rw [c_6]; rfl) (by decide) ?_
          refine lv_aload_n hx hb md_Mo_relation_70 rfl (lv_at hl 0 rfl) ?_
          refine fw_getr hx hb hts i_Mo hown hK hP (mm_0 (by decide)) (mk_0 0) rfl 14 (by decide) (hts _ L_Mo_50) (fun _ h9 => h9) rfl md_Mo_relation_71 ?_
          refine lv_iload_n hx hb md_Mo_relation_74 rfl (lv_at hl 1 rfl) ?_
          refine fw_iald hx hb hK hP (mm_15 (by decide)) (mk_15 0) 0 rfl (j := a1.toNatClampNeg) rfl h_3 md_Mo_relation_75 ?_
          exact fw_oret hx hb hr hlocks hS hP md_Mo_relation_76 (by subst er1; simp only [mf_Mo_relation, if_neg c_2, if_neg c_4, if_neg c_5, if_pos c_6])
        · skip
          by_cases c_7 : a2 = (3 : Int32)
          · refine lv_tableIn (off := 65) (tgt := 77) hx hb md_Mo_relation_12 (by rw [c_7]; decide) (by rw [c_7]; decide) (by rw [c_7]; rfl) (by decide) ?_
            refine lv_aload_n hx hb md_Mo_relation_77 rfl (lv_at hl 0 rfl) ?_
            refine fw_getr hx hb hts i_Mo hown hK hP (mm_0 (by decide)) (mk_0 0) rfl 15 (by decide) (hts _ L_Mo_53) (fun _ h9 => h9) rfl md_Mo_relation_78 ?_
            refine lv_iload_n hx hb md_Mo_relation_81 rfl (lv_at hl 1 rfl) ?_
            refine fw_iald hx hb hK hP (mm_16 (by decide)) (mk_16 0) 0 rfl (j := a1.toNatClampNeg) rfl h_3 md_Mo_relation_82 ?_
            exact fw_oret hx hb hr hlocks hS hP md_Mo_relation_83 (by subst er1; simp only [mf_Mo_relation, if_neg c_2, if_neg c_4, if_neg c_5, if_neg c_6, if_pos c_7])
          · skip
            by_cases c_8 : a2 = (4 : Int32)
            · refine lv_tableIn (off := 72) (tgt := 84) hx hb md_Mo_relation_12 (by rw [c_8]; decide) (by rw [c_8]; decide) (by rw [c_8]; rfl) (by decide) ?_
              refine lv_aload_n hx hb md_Mo_relation_84 rfl (lv_at hl 0 rfl) ?_
              refine fw_getr hx hb hts i_Mo hown hK hP (mm_0 (by decide)) (mk_0 0) rfl 16 (by decide) (hts _ L_Mo_56) (fun _ h9 => h9) rfl md_Mo_relation_85 ?_
              refine lv_iload_n hx hb md_Mo_relation_88 rfl (lv_at hl 1 rfl) ?_
              refine fw_iald hx hb hK hP (mm_17 (by decide)) (mk_17 0) 0 rfl (j := a1.toNatClampNeg) rfl h_3 md_Mo_relation_89 ?_
              exact fw_oret hx hb hr hlocks hS hP md_Mo_relation_90 (by subst er1; simp only [mf_Mo_relation, if_neg c_2, if_neg c_4, if_neg c_5, if_neg c_6, if_neg c_7, if_pos c_8])
            · skip
              by_cases c_9 : a2 = (5 : Int32)
              · refine lv_tableIn (off := 79) (tgt := 91) hx hb md_Mo_relation_12 (by rw [c_9]; decide) (by rw [c_9]; decide) (by rw [c_9]; rfl) (by decide) ?_
                refine lv_aload_n hx hb md_Mo_relation_91 rfl (lv_at hl 0 rfl) ?_
                refine fw_getr hx hb hts i_Mo hown hK hP (mm_0 (by decide)) (mk_0 0) rfl 17 (by decide) (hts _ L_Mo_59) (fun _ h9 => h9) rfl md_Mo_relation_92 ?_
                refine lv_iload_n hx hb md_Mo_relation_95 rfl (lv_at hl 1 rfl) ?_
                refine fw_iald hx hb hK hP (mm_18 (by decide)) (mk_18 0) 0 rfl (j := a1.toNatClampNeg) rfl h_3 md_Mo_relation_96 ?_
                exact fw_oret hx hb hr hlocks hS hP md_Mo_relation_97 (by subst er1; simp only [mf_Mo_relation, if_neg c_2, if_neg c_4, if_neg c_5, if_neg c_6, if_neg c_7, if_neg c_8, if_pos c_9])
              · skip
                by_cases c_10 : a2 = (6 : Int32)
                · refine lv_tableIn (off := 86) (tgt := 98) hx hb md_Mo_relation_12 (by rw [c_10]; decide) (by rw [c_10]; decide) (by rw [c_10]; rfl) (by decide) ?_
                  refine lv_aload_n hx hb md_Mo_relation_98 rfl (lv_at hl 0 rfl) ?_
                  refine fw_getr hx hb hts i_Mo hown hK hP (mm_0 (by decide)) (mk_0 0) rfl 18 (by decide) (hts _ L_Mo_62) (fun _ h9 => h9) rfl md_Mo_relation_99 ?_
                  refine lv_iload_n hx hb md_Mo_relation_102 rfl (lv_at hl 1 rfl) ?_
                  refine fw_iald hx hb hK hP (mm_19 (by decide)) (mk_19 0) 0 rfl (j := a1.toNatClampNeg) rfl h_3 md_Mo_relation_103 ?_
                  exact fw_oret hx hb hr hlocks hS hP md_Mo_relation_104 (by subst er1; simp only [mf_Mo_relation, if_neg c_2, if_neg c_4, if_neg c_5, if_neg c_6, if_neg c_7, if_neg c_8, if_neg c_9, if_pos c_10])
                · skip
                  refine lv_tableOut (tgt := 105) hx hb md_Mo_relation_12 (by have q0 := lv_neT c_4 (a := 0) (by decide); have q1 := lv_neT c_5 (a := 1) (by decide); have q2 := lv_neT c_6 (a := 2) (by decide); have q3 := lv_neT c_7 (a := 3) (by decide); have q4 := lv_neT c_8 (a := 4) (by decide); have q5 := lv_neT c_9 (a := 5) (by decide); have q6 := lv_neT c_10 (a := 6) (by decide); omega) (by decide) ?_
                  refine lv_iconst (v := (-1 : Int32)) hx hb md_Mo_relation_105 (by decide) ?_
                  exact fw_oret hx hb hr hlocks hS hP md_Mo_relation_106 (by subst er1; simp only [mf_Mo_relation, if_neg c_2, if_neg c_4, if_neg c_5, if_neg c_6, if_neg c_7, if_neg c_8, if_neg c_9, if_neg c_10])
  · refine lv_iconst (v := (-1 : Int32)) hx hb md_Mo_relation_9 (by decide) ?_
    exact fw_oret hx hb hr hlocks hS hP md_Mo_relation_10 (by subst er1; simp only [mf_Mo_relation, if_pos c_2])
def mf_Mo_device (v0 : fw_V) (a1 : Int32) (a2 : Int32) : Int32 :=
  let r1 := mf_Mo_is a1 (0 : Int32) (1 : Int32)
  if r1 = (0 : Int32) then
    (-1 : Int32)
  else
    let r4 := mf_Mo_is a2 (0 : Int32) (8 : Int32)
    if r4 = (0 : Int32) then
      (-1 : Int32)
    else
      if a2 = (0 : Int32) then
        (v0 28 0 a1.toNatClampNeg)
      else
        if a2 = (1 : Int32) then
          (v0 29 0 a1.toNatClampNeg)
        else
          if a2 = (2 : Int32) then
            (v0 31 0 a1.toNatClampNeg)
          else
            if a2 = (3 : Int32) then
              (v0 37 0 a1.toNatClampNeg)
            else
              if a2 = (4 : Int32) then
                (v0 36 0 a1.toNatClampNeg)
              else
                if a2 = (8 : Int32) then
                  (v0 32 0 a1.toNatClampNeg)
                else
                  (v0 44 0 ((((3 : Int32) * a1) + a2) - (5 : Int32)).toNatClampNeg)

set_option maxHeartbeats 4000000 in
set_option maxRecDepth 100000 in
theorem mc_Mo_device (l : Launch) {D : va_G} {cA : Nat → ClassId} {ad : Nat → Nat → Nat} (hD : fw_D mCL ad) {b : Nat} (v0 : fw_V) (hI : mI b v0) (a1 : Int32) (a2 : Int32)  : Met l my_Mo_device (Cond.code my_Mo_device mb_Mo_device 3 (some .int) :: vTB) mrm_Mo_device (fw_Pc vNL D vcls (vtys cA) mCL cA mkd ad v0 [.ref (ad 0 0), .int a1, .int a2]) (fw_Qo D vcls mCL cA mkd ad v0 (mf_Mo_device v0 a1 a2)) 0 0 (fw_A mCL ad) := by
  refine Met.ofW (cc := mb_Mo_device) (maxL := 3) (ret := (some .int)) (by decide) rfl ?_
  intro p e s m args below meth c s₁ B hml hv
  obtain ⟨rfl, hP, hK, hN⟩ := hv
  have hx := B.exec
  have hb := B.bytes
  have hr := B.returns
  have hts : ∀ w ∈ vTB, w.before ([.ref (ad 0 0), .int a1, .int a2] : List Value).toArray s = true := fun w h => atoms_spec (ws := (Cond.code my_Mo_device mb_Mo_device 3 (some .int) :: vTB)) B.pre w (List.mem_cons_of_mem _ h)
  have hown : s.vm.findClass R_Mo = some m.cls := findClass_of_methodNamed B.named
  have hlocks := B.notSynchronized
  have hS : va_S (fw_A mCL ad) s.heap s.heap [] := va_S.rf
  skip
  have hl := lv_entry ([.ref (ad 0 0), .int a1, .int a2]) (n := 3) (Nat.le_of_ble_eq_true rfl)
  rw [lg_entry_eq]
  generalize (lg_sl ([.ref (ad 0 0), .int a1, .int a2]) ++ List.replicate (3 - (lg_sl ([.ref (ad 0 0), .int a1, .int a2])).length) Slot.unset).toArray = ls at hl ⊢
  have hl : lv_has ls 3 [(0, .ref (ad 0 0)), (1, .int a1), (2, .int a2)] := hl
  refine lv_iload_n hx hb md_Mo_device_0 rfl (lv_at hl 1 rfl) ?_
  refine lv_iconst (v := (0 : Int32)) hx hb md_Mo_device_1 (by decide) ?_
  refine lv_iconst (v := (1 : Int32)) hx hb md_Mo_device_2 (by decide) ?_
  refine fw_cb (va_runS (As := [.int a1, .int (0 : Int32), .int (1 : Int32)]) (rest := []) ⟨hx, hb, hml, hown, hts⟩ (mc_Mo_is l hD v0 hI a1 (0 : Int32) (1 : Int32)) (mw_Mo_is hts L_Mo_155 ⟨Nat.le_of_ble_eq_true rfl, Nat.le_of_ble_eq_true rfl⟩) (fw_preS hN hK hP) rfl rfl hl.1 rfl (lv_room (Nat.le_of_ble_eq_true rfl)) md_Mo_device_3 ⟨Nat.le_of_ble_eq_true rfl, Nat.le_of_ble_eq_true rfl⟩) hS (fun r1 H locs zr1 er1 hP hS => ?_)
  refine lv_if_eq (tgt := 19) hx hb md_Mo_device_6 (by decide) (fun c_2 => ?_) (fun c_2 => ?_)
  · refine lv_iconst (v := (-1 : Int32)) hx hb md_Mo_device_19 (by decide) ?_
    exact fw_oret hx hb hr hlocks hS hP md_Mo_device_20 (by subst er1; simp only [mf_Mo_device, if_pos c_2])
  · have h_3 : vp_in a1 2 := mp_in er1 c_2 (by decide)
    refine lv_iload_n hx hb md_Mo_device_9 rfl (lv_at hl 2 rfl) ?_
    refine lv_iconst (v := (0 : Int32)) hx hb md_Mo_device_10 (by decide) ?_
    refine lv_bipush (v := (8 : Int32)) hx hb md_Mo_device_11 (by decide) ?_
    refine fw_cb (va_runS (As := [.int a2, .int (0 : Int32), .int (8 : Int32)]) (rest := []) ⟨hx, hb, hml, hown, hts⟩ (mc_Mo_is l hD v0 hI a2 (0 : Int32) (8 : Int32)) (mw_Mo_is hts L_Mo_155 ⟨Nat.le_of_ble_eq_true rfl, Nat.le_of_ble_eq_true rfl⟩) (fw_preS hN hK hP) rfl rfl hl.1 rfl (lv_room (Nat.le_of_ble_eq_true rfl)) md_Mo_device_13 ⟨Nat.le_of_ble_eq_true rfl, Nat.le_of_ble_eq_true rfl⟩) hS (fun r4 H locs zr4 er4 hP hS => ?_)
    refine lv_if_ne (tgt := 21) hx hb md_Mo_device_16 (by decide) (fun c_5 => ?_) (fun c_5 => ?_)
    · have h_6 : vp_in a2 9 := mp_in er4 c_5 (by decide)
      refine lv_iload_n hx hb md_Mo_device_21 rfl (lv_at hl 2 rfl) ?_
      by_cases c_7 : a2 = (0 : Int32)
      · refine lv_tableIn (off := 50) (tgt := 72) hx hb md_Mo_device_22 (by rw [c_7]; decide) (by rw [c_7]; decide) (by rw [c_7]; rfl) (by decide) ?_
        refine lv_aload_n hx hb md_Mo_device_72 rfl (lv_at hl 0 rfl) ?_
        refine fw_getr hx hb hts i_Mo hown hK hP (mm_0 (by decide)) (mk_0 0) rfl 27 (by decide) (hts _ L_Mo_89) (fun _ h9 => h9) rfl md_Mo_device_73 ?_
        refine lv_iload_n hx hb md_Mo_device_76 rfl (lv_at hl 1 rfl) ?_
        refine fw_iald hx hb hK hP (mm_28 (by decide)) (mk_28 0) 0 rfl (j := a1.toNatClampNeg) rfl h_3 md_Mo_device_77 ?_
        exact fw_oret hx hb hr hlocks hS hP md_Mo_device_78 (by subst er1 er4; simp only [mf_Mo_device, if_neg c_2, if_neg c_5, if_pos c_7])
      · skip
        by_cases c_8 : a2 = (1 : Int32)
        · refine lv_tableIn (off := 57) (tgt := 79) hx hb md_Mo_device_22 (by rw [c_8]; decide) (by rw [c_8]; decide) (by rw [c_8]; rfl) (by decide) ?_
          refine lv_aload_n hx hb md_Mo_device_79 rfl (lv_at hl 0 rfl) ?_
          refine fw_getr hx hb hts i_Mo hown hK hP (mm_0 (by decide)) (mk_0 0) rfl 28 (by decide) (hts _ L_Mo_92) (fun _ h9 => h9) rfl md_Mo_device_80 ?_
          refine lv_iload_n hx hb md_Mo_device_83 rfl (lv_at hl 1 rfl) ?_
          refine fw_iald hx hb hK hP (mm_29 (by decide)) (mk_29 0) 0 rfl (j := a1.toNatClampNeg) rfl h_3 md_Mo_device_84 ?_
          exact fw_oret hx hb hr hlocks hS hP md_Mo_device_85 (by subst er1 er4; simp only [mf_Mo_device, if_neg c_2, if_neg c_5, if_neg c_7, if_pos c_8])
        · skip
          by_cases c_9 : a2 = (2 : Int32)
          · refine lv_tableIn (off := 64) (tgt := 86) hx hb md_Mo_device_22 (by rw [c_9]; decide) (by rw [c_9]; decide) (by rw [c_9]; rfl) (by decide) ?_
            refine lv_aload_n hx hb md_Mo_device_86 rfl (lv_at hl 0 rfl) ?_
            refine fw_getr hx hb hts i_Mo hown hK hP (mm_0 (by decide)) (mk_0 0) rfl 30 (by decide) (hts _ L_Mo_98) (fun _ h9 => h9) rfl md_Mo_device_87 ?_
            refine lv_iload_n hx hb md_Mo_device_90 rfl (lv_at hl 1 rfl) ?_
            refine fw_iald hx hb hK hP (mm_31 (by decide)) (mk_31 0) 0 rfl (j := a1.toNatClampNeg) rfl h_3 md_Mo_device_91 ?_
            exact fw_oret hx hb hr hlocks hS hP md_Mo_device_92 (by subst er1 er4; simp only [mf_Mo_device, if_neg c_2, if_neg c_5, if_neg c_7, if_neg c_8, if_pos c_9])
          · skip
            by_cases c_10 : a2 = (3 : Int32)
            · refine lv_tableIn (off := 71) (tgt := 93) hx hb md_Mo_device_22 (by rw [c_10]; decide) (by rw [c_10]; decide) (by rw [c_10]; rfl) (by decide) ?_
              refine lv_aload_n hx hb md_Mo_device_93 rfl (lv_at hl 0 rfl) ?_
              refine fw_getr hx hb hts i_Mo hown hK hP (mm_0 (by decide)) (mk_0 0) rfl 36 (by decide) (hts _ L_Mo_116) (fun _ h9 => h9) rfl md_Mo_device_94 ?_
              refine lv_iload_n hx hb md_Mo_device_97 rfl (lv_at hl 1 rfl) ?_
              refine fw_iald hx hb hK hP (mm_37 (by decide)) (mk_37 0) 0 rfl (j := a1.toNatClampNeg) rfl h_3 md_Mo_device_98 ?_
              have h_11 : vp_in (v0 37 0 a1.toNatClampNeg) 5 := hI.1 37 0 (a1.toNatClampNeg)
              exact fw_oret hx hb hr hlocks hS hP md_Mo_device_99 (by subst er1 er4; simp only [mf_Mo_device, if_neg c_2, if_neg c_5, if_neg c_7, if_neg c_8, if_neg c_9, if_pos c_10])
            · skip
              by_cases c_12 : a2 = (4 : Int32)
              · refine lv_tableIn (off := 78) (tgt := 100) hx hb md_Mo_device_22 (by rw [c_12]; decide) (by rw [c_12]; decide) (by rw [c_12]; rfl) (by decide) ?_
                refine lv_aload_n hx hb md_Mo_device_100 rfl (lv_at hl 0 rfl) ?_
                refine fw_getr hx hb hts i_Mo hown hK hP (mm_0 (by decide)) (mk_0 0) rfl 35 (by decide) (hts _ L_Mo_113) (fun _ h9 => h9) rfl md_Mo_device_101 ?_
                refine lv_iload_n hx hb md_Mo_device_104 rfl (lv_at hl 1 rfl) ?_
                refine fw_iald hx hb hK hP (mm_36 (by decide)) (mk_36 0) 0 rfl (j := a1.toNatClampNeg) rfl h_3 md_Mo_device_105 ?_
                exact fw_oret hx hb hr hlocks hS hP md_Mo_device_106 (by subst er1 er4; simp only [mf_Mo_device, if_neg c_2, if_neg c_5, if_neg c_7, if_neg c_8, if_neg c_9, if_neg c_10, if_pos c_12])
              · skip
                by_cases c_13 : a2 = (8 : Int32)
                · refine lv_tableIn (off := 85) (tgt := 107) hx hb md_Mo_device_22 (by rw [c_13]; decide) (by rw [c_13]; decide) (by rw [c_13]; rfl) (by decide) ?_
                  refine lv_aload_n hx hb md_Mo_device_107 rfl (lv_at hl 0 rfl) ?_
                  refine fw_getr hx hb hts i_Mo hown hK hP (mm_0 (by decide)) (mk_0 0) rfl 31 (by decide) (hts _ L_Mo_101) (fun _ h9 => h9) rfl md_Mo_device_108 ?_
                  refine lv_iload_n hx hb md_Mo_device_111 rfl (lv_at hl 1 rfl) ?_
                  refine fw_iald hx hb hK hP (mm_32 (by decide)) (mk_32 0) 0 rfl (j := a1.toNatClampNeg) rfl h_3 md_Mo_device_112 ?_
                  exact fw_oret hx hb hr hlocks hS hP md_Mo_device_113 (by subst er1 er4; simp only [mf_Mo_device, if_neg c_2, if_neg c_5, if_neg c_7, if_neg c_8, if_neg c_9, if_neg c_10, if_neg c_12, if_pos c_13])
                · skip
                  by_cases c_14 : a2 = (5 : Int32)
                  · refine lv_tableIn (off := 92) (tgt := 114) hx hb md_Mo_device_22 (by rw [c_14]; decide) (by rw [c_14]; decide) (by rw [c_14]; rfl) (by decide) ?_
                    refine lv_aload_n hx hb md_Mo_device_114 rfl (lv_at hl 0 rfl) ?_
                    refine fw_getr hx hb hts i_Mo hown hK hP (mm_0 (by decide)) (mk_0 0) rfl 43 (by decide) (hts _ L_Mo_137) (fun _ h9 => h9) rfl md_Mo_device_115 ?_
                    refine lv_iconst (v := (3 : Int32)) hx hb md_Mo_device_118 (by decide) ?_
                    refine lv_iload_n hx hb md_Mo_device_119 rfl (lv_at hl 1 rfl) ?_
                    refine lv_imul hx hb md_Mo_device_120 ?_
                    refine lv_iload_n hx hb md_Mo_device_121 rfl (lv_at hl 2 rfl) ?_
                    refine lv_iadd hx hb md_Mo_device_122 ?_
                    refine lv_iconst (v := (5 : Int32)) hx hb md_Mo_device_123 (by decide) ?_
                    refine lv_isub hx hb md_Mo_device_124 ?_
                    refine fw_iald hx hb hK hP (mm_44 (by decide)) (mk_44 0) 0 rfl (j := ((((3 : Int32) * a1) + a2) - (5 : Int32)).toNatClampNeg) rfl (mp_device h_3 h_6 c_7 c_8 c_9 c_10 c_12 c_13) md_Mo_device_125 ?_
                    exact fw_oret hx hb hr hlocks hS hP md_Mo_device_126 (by subst er1 er4; simp only [mf_Mo_device, if_neg c_2, if_neg c_5, if_neg c_7, if_neg c_8, if_neg c_9, if_neg c_10, if_neg c_12, if_neg c_13])
                  · skip
                    by_cases c_15 : a2 = (6 : Int32)
                    · refine lv_tableIn (off := 92) (tgt := 114) hx hb md_Mo_device_22 (by rw [c_15]; decide) (by rw [c_15]; decide) (by rw [c_15]; rfl) (by decide) ?_
                      refine lv_aload_n hx hb md_Mo_device_114 rfl (lv_at hl 0 rfl) ?_
                      refine fw_getr hx hb hts i_Mo hown hK hP (mm_0 (by decide)) (mk_0 0) rfl 43 (by decide) (hts _ L_Mo_137) (fun _ h9 => h9) rfl md_Mo_device_115 ?_
                      refine lv_iconst (v := (3 : Int32)) hx hb md_Mo_device_118 (by decide) ?_
                      refine lv_iload_n hx hb md_Mo_device_119 rfl (lv_at hl 1 rfl) ?_
                      refine lv_imul hx hb md_Mo_device_120 ?_
                      refine lv_iload_n hx hb md_Mo_device_121 rfl (lv_at hl 2 rfl) ?_
                      refine lv_iadd hx hb md_Mo_device_122 ?_
                      refine lv_iconst (v := (5 : Int32)) hx hb md_Mo_device_123 (by decide) ?_
                      refine lv_isub hx hb md_Mo_device_124 ?_
                      refine fw_iald hx hb hK hP (mm_44 (by decide)) (mk_44 0) 0 rfl (j := ((((3 : Int32) * a1) + a2) - (5 : Int32)).toNatClampNeg) rfl (mp_device h_3 h_6 c_7 c_8 c_9 c_10 c_12 c_13) md_Mo_device_125 ?_
                      exact fw_oret hx hb hr hlocks hS hP md_Mo_device_126 (by subst er1 er4; simp only [mf_Mo_device, if_neg c_2, if_neg c_5, if_neg c_7, if_neg c_8, if_neg c_9, if_neg c_10, if_neg c_12, if_neg c_13, if_neg c_14])
                    · skip
                      by_cases c_16 : a2 = (7 : Int32)
                      · refine lv_tableIn (off := 92) (tgt := 114) hx hb md_Mo_device_22 (by rw [c_16]; decide) (by rw [c_16]; decide) (by rw [c_16]; rfl) (by decide) ?_
                        refine lv_aload_n hx hb md_Mo_device_114 rfl (lv_at hl 0 rfl) ?_
                        refine fw_getr hx hb hts i_Mo hown hK hP (mm_0 (by decide)) (mk_0 0) rfl 43 (by decide) (hts _ L_Mo_137) (fun _ h9 => h9) rfl md_Mo_device_115 ?_
                        refine lv_iconst (v := (3 : Int32)) hx hb md_Mo_device_118 (by decide) ?_
                        refine lv_iload_n hx hb md_Mo_device_119 rfl (lv_at hl 1 rfl) ?_
                        refine lv_imul hx hb md_Mo_device_120 ?_
                        refine lv_iload_n hx hb md_Mo_device_121 rfl (lv_at hl 2 rfl) ?_
                        refine lv_iadd hx hb md_Mo_device_122 ?_
                        refine lv_iconst (v := (5 : Int32)) hx hb md_Mo_device_123 (by decide) ?_
                        refine lv_isub hx hb md_Mo_device_124 ?_
                        refine fw_iald hx hb hK hP (mm_44 (by decide)) (mk_44 0) 0 rfl (j := ((((3 : Int32) * a1) + a2) - (5 : Int32)).toNatClampNeg) rfl (mp_device h_3 h_6 c_7 c_8 c_9 c_10 c_12 c_13) md_Mo_device_125 ?_
                        exact fw_oret hx hb hr hlocks hS hP md_Mo_device_126 (by subst er1 er4; simp only [mf_Mo_device, if_neg c_2, if_neg c_5, if_neg c_7, if_neg c_8, if_neg c_9, if_neg c_10, if_neg c_12, if_neg c_13, if_neg c_14, if_neg c_15])
                      · skip
                        refine lv_tableOut (tgt := 114) hx hb md_Mo_device_22 (by have q0 := lv_neT c_7 (a := 0) (by decide); have q1 := lv_neT c_8 (a := 1) (by decide); have q2 := lv_neT c_9 (a := 2) (by decide); have q3 := lv_neT c_10 (a := 3) (by decide); have q4 := lv_neT c_12 (a := 4) (by decide); have q5 := lv_neT c_13 (a := 8) (by decide); have q6 := lv_neT c_14 (a := 5) (by decide); have q7 := lv_neT c_15 (a := 6) (by decide); have q8 := lv_neT c_16 (a := 7) (by decide); omega) (by decide) ?_
                        refine lv_aload_n hx hb md_Mo_device_114 rfl (lv_at hl 0 rfl) ?_
                        refine fw_getr hx hb hts i_Mo hown hK hP (mm_0 (by decide)) (mk_0 0) rfl 43 (by decide) (hts _ L_Mo_137) (fun _ h9 => h9) rfl md_Mo_device_115 ?_
                        refine lv_iconst (v := (3 : Int32)) hx hb md_Mo_device_118 (by decide) ?_
                        refine lv_iload_n hx hb md_Mo_device_119 rfl (lv_at hl 1 rfl) ?_
                        refine lv_imul hx hb md_Mo_device_120 ?_
                        refine lv_iload_n hx hb md_Mo_device_121 rfl (lv_at hl 2 rfl) ?_
                        refine lv_iadd hx hb md_Mo_device_122 ?_
                        refine lv_iconst (v := (5 : Int32)) hx hb md_Mo_device_123 (by decide) ?_
                        refine lv_isub hx hb md_Mo_device_124 ?_
                        refine fw_iald hx hb hK hP (mm_44 (by decide)) (mk_44 0) 0 rfl (j := ((((3 : Int32) * a1) + a2) - (5 : Int32)).toNatClampNeg) rfl (mp_device h_3 h_6 c_7 c_8 c_9 c_10 c_12 c_13) md_Mo_device_125 ?_
                        exact fw_oret hx hb hr hlocks hS hP md_Mo_device_126 (by subst er1 er4; simp only [mf_Mo_device, if_neg c_2, if_neg c_5, if_neg c_7, if_neg c_8, if_neg c_9, if_neg c_10, if_neg c_12, if_neg c_13])
    · refine lv_iconst (v := (-1 : Int32)) hx hb md_Mo_device_19 (by decide) ?_
      exact fw_oret hx hb hr hlocks hS hP md_Mo_device_20 (by subst er1 er4; simp only [mf_Mo_device, if_neg c_2, if_pos c_5])
def mf_Mo_data (v0 : fw_V) (a1 : Int32) (a2 : Int32) (a3 : Int32) (a4 : Int32) : Int32 :=
  let r1 := mf_Mo_is a1 (0 : Int32) (1 : Int32)
  if r1 = (0 : Int32) then
    (-1 : Int32)
  else
    let r4 := mf_Mo_is a2 (0 : Int32) (1 : Int32)
    if r4 = (0 : Int32) then
      (-1 : Int32)
    else
      let r7 := mf_Mo_is a3 (0 : Int32) (2 : Int32)
      if r7 = (0 : Int32) then
        (-1 : Int32)
      else
        let r10 := mf_Mo_is a4 (0 : Int32) (1 : Int32)
        if r10 = (0 : Int32) then
          (-1 : Int32)
        else
          if a1 = (0 : Int32) then
            (v0 46 0 ((((6 : Int32) * a2) + ((2 : Int32) * a3)) + a4).toNatClampNeg)
          else
            (v0 27 0 ((((6 : Int32) * a2) + ((2 : Int32) * a3)) + a4).toNatClampNeg)

set_option maxHeartbeats 4000000 in
set_option maxRecDepth 100000 in
theorem mc_Mo_data (l : Launch) {D : va_G} {cA : Nat → ClassId} {ad : Nat → Nat → Nat} (hD : fw_D mCL ad) {b : Nat} (v0 : fw_V) (hI : mI b v0) (a1 : Int32) (a2 : Int32) (a3 : Int32) (a4 : Int32)  : Met l my_Mo_data (Cond.code my_Mo_data mb_Mo_data 5 (some .int) :: vTB) mrm_Mo_data (fw_Pc vNL D vcls (vtys cA) mCL cA mkd ad v0 [.ref (ad 0 0), .int a1, .int a2, .int a3, .int a4]) (fw_Qo D vcls mCL cA mkd ad v0 (mf_Mo_data v0 a1 a2 a3 a4)) 0 0 (fw_A mCL ad) := by
  refine Met.ofW (cc := mb_Mo_data) (maxL := 5) (ret := (some .int)) (by decide) rfl ?_
  intro p e s m args below meth c s₁ B hml hv
  obtain ⟨rfl, hP, hK, hN⟩ := hv
  have hx := B.exec
  have hb := B.bytes
  have hr := B.returns
  have hts : ∀ w ∈ vTB, w.before ([.ref (ad 0 0), .int a1, .int a2, .int a3, .int a4] : List Value).toArray s = true := fun w h => atoms_spec (ws := (Cond.code my_Mo_data mb_Mo_data 5 (some .int) :: vTB)) B.pre w (List.mem_cons_of_mem _ h)
  have hown : s.vm.findClass R_Mo = some m.cls := findClass_of_methodNamed B.named
  have hlocks := B.notSynchronized
  have hS : va_S (fw_A mCL ad) s.heap s.heap [] := va_S.rf
  skip
  have hl := lv_entry ([.ref (ad 0 0), .int a1, .int a2, .int a3, .int a4]) (n := 5) (Nat.le_of_ble_eq_true rfl)
  rw [lg_entry_eq]
  generalize (lg_sl ([.ref (ad 0 0), .int a1, .int a2, .int a3, .int a4]) ++ List.replicate (5 - (lg_sl ([.ref (ad 0 0), .int a1, .int a2, .int a3, .int a4])).length) Slot.unset).toArray = ls at hl ⊢
  have hl : lv_has ls 5 [(0, .ref (ad 0 0)), (1, .int a1), (2, .int a2), (3, .int a3), (4, .int a4)] := hl
  refine lv_iload_n hx hb md_Mo_data_0 rfl (lv_at hl 1 rfl) ?_
  refine lv_iconst (v := (0 : Int32)) hx hb md_Mo_data_1 (by decide) ?_
  refine lv_iconst (v := (1 : Int32)) hx hb md_Mo_data_2 (by decide) ?_
  refine fw_cb (va_runS (As := [.int a1, .int (0 : Int32), .int (1 : Int32)]) (rest := []) ⟨hx, hb, hml, hown, hts⟩ (mc_Mo_is l hD v0 hI a1 (0 : Int32) (1 : Int32)) (mw_Mo_is hts L_Mo_155 ⟨Nat.le_of_ble_eq_true rfl, Nat.le_of_ble_eq_true rfl⟩) (fw_preS hN hK hP) rfl rfl hl.1 rfl (lv_room (Nat.le_of_ble_eq_true rfl)) md_Mo_data_3 ⟨Nat.le_of_ble_eq_true rfl, Nat.le_of_ble_eq_true rfl⟩) hS (fun r1 H locs zr1 er1 hP hS => ?_)
  refine lv_if_eq (tgt := 37) hx hb md_Mo_data_6 (by decide) (fun c_2 => ?_) (fun c_2 => ?_)
  · refine lv_iconst (v := (-1 : Int32)) hx hb md_Mo_data_37 (by decide) ?_
    exact fw_oret hx hb hr hlocks hS hP md_Mo_data_38 (by subst er1; simp only [mf_Mo_data, if_pos c_2])
  · have h_3 : vp_in a1 2 := mp_in er1 c_2 (by decide)
    refine lv_iload_n hx hb md_Mo_data_9 rfl (lv_at hl 2 rfl) ?_
    refine lv_iconst (v := (0 : Int32)) hx hb md_Mo_data_10 (by decide) ?_
    refine lv_iconst (v := (1 : Int32)) hx hb md_Mo_data_11 (by decide) ?_
    refine fw_cb (va_runS (As := [.int a2, .int (0 : Int32), .int (1 : Int32)]) (rest := []) ⟨hx, hb, hml, hown, hts⟩ (mc_Mo_is l hD v0 hI a2 (0 : Int32) (1 : Int32)) (mw_Mo_is hts L_Mo_155 ⟨Nat.le_of_ble_eq_true rfl, Nat.le_of_ble_eq_true rfl⟩) (fw_preS hN hK hP) rfl rfl hl.1 rfl (lv_room (Nat.le_of_ble_eq_true rfl)) md_Mo_data_12 ⟨Nat.le_of_ble_eq_true rfl, Nat.le_of_ble_eq_true rfl⟩) hS (fun r4 H locs zr4 er4 hP hS => ?_)
    refine lv_if_eq (tgt := 37) hx hb md_Mo_data_15 (by decide) (fun c_5 => ?_) (fun c_5 => ?_)
    · refine lv_iconst (v := (-1 : Int32)) hx hb md_Mo_data_37 (by decide) ?_
      exact fw_oret hx hb hr hlocks hS hP md_Mo_data_38 (by subst er1 er4; simp only [mf_Mo_data, if_neg c_2, if_pos c_5])
    · have h_6 : vp_in a2 2 := mp_in er4 c_5 (by decide)
      refine lv_iload_n hx hb md_Mo_data_18 rfl (lv_at hl 3 rfl) ?_
      refine lv_iconst (v := (0 : Int32)) hx hb md_Mo_data_19 (by decide) ?_
      refine lv_iconst (v := (2 : Int32)) hx hb md_Mo_data_20 (by decide) ?_
      refine fw_cb (va_runS (As := [.int a3, .int (0 : Int32), .int (2 : Int32)]) (rest := []) ⟨hx, hb, hml, hown, hts⟩ (mc_Mo_is l hD v0 hI a3 (0 : Int32) (2 : Int32)) (mw_Mo_is hts L_Mo_155 ⟨Nat.le_of_ble_eq_true rfl, Nat.le_of_ble_eq_true rfl⟩) (fw_preS hN hK hP) rfl rfl hl.1 rfl (lv_room (Nat.le_of_ble_eq_true rfl)) md_Mo_data_21 ⟨Nat.le_of_ble_eq_true rfl, Nat.le_of_ble_eq_true rfl⟩) hS (fun r7 H locs zr7 er7 hP hS => ?_)
      refine lv_if_eq (tgt := 37) hx hb md_Mo_data_24 (by decide) (fun c_8 => ?_) (fun c_8 => ?_)
      · refine lv_iconst (v := (-1 : Int32)) hx hb md_Mo_data_37 (by decide) ?_
        exact fw_oret hx hb hr hlocks hS hP md_Mo_data_38 (by subst er1 er4 er7; simp only [mf_Mo_data, if_neg c_2, if_neg c_5, if_pos c_8])
      · have h_9 : vp_in a3 3 := mp_in er7 c_8 (by decide)
        refine lv_iload hx hb md_Mo_data_27 (lv_at hl 4 rfl) ?_
        refine lv_iconst (v := (0 : Int32)) hx hb md_Mo_data_29 (by decide) ?_
        refine lv_iconst (v := (1 : Int32)) hx hb md_Mo_data_30 (by decide) ?_
        refine fw_cb (va_runS (As := [.int a4, .int (0 : Int32), .int (1 : Int32)]) (rest := []) ⟨hx, hb, hml, hown, hts⟩ (mc_Mo_is l hD v0 hI a4 (0 : Int32) (1 : Int32)) (mw_Mo_is hts L_Mo_155 ⟨Nat.le_of_ble_eq_true rfl, Nat.le_of_ble_eq_true rfl⟩) (fw_preS hN hK hP) rfl rfl hl.1 rfl (lv_room (Nat.le_of_ble_eq_true rfl)) md_Mo_data_31 ⟨Nat.le_of_ble_eq_true rfl, Nat.le_of_ble_eq_true rfl⟩) hS (fun r10 H locs zr10 er10 hP hS => ?_)
        refine lv_if_ne (tgt := 39) hx hb md_Mo_data_34 (by decide) (fun c_11 => ?_) (fun c_11 => ?_)
        · have h_12 : vp_in a4 2 := mp_in er10 c_11 (by decide)
          refine lv_iload_n hx hb md_Mo_data_39 rfl (lv_at hl 1 rfl) ?_
          refine lv_if_ne (tgt := 62) hx hb md_Mo_data_40 (by decide) (fun c_13 => ?_) (fun c_13 => ?_)
          · have h_14 : 0 < a1.toInt := fw_pos h_3 c_13
            refine lv_aload_n hx hb md_Mo_data_62 rfl (lv_at hl 0 rfl) ?_
            refine fw_getr hx hb hts i_Mo hown hK hP (mm_0 (by decide)) (mk_0 0) rfl 26 (by decide) (hts _ L_Mo_86) (fun _ h9 => h9) rfl md_Mo_data_63 ?_
            refine lv_bipush (v := (6 : Int32)) hx hb md_Mo_data_66 (by decide) ?_
            refine lv_iload_n hx hb md_Mo_data_68 rfl (lv_at hl 2 rfl) ?_
            refine lv_imul hx hb md_Mo_data_69 ?_
            refine lv_iconst (v := (2 : Int32)) hx hb md_Mo_data_70 (by decide) ?_
            refine lv_iload_n hx hb md_Mo_data_71 rfl (lv_at hl 3 rfl) ?_
            refine lv_imul hx hb md_Mo_data_72 ?_
            refine lv_iadd hx hb md_Mo_data_73 ?_
            refine lv_iload hx hb md_Mo_data_74 (lv_at hl 4 rfl) ?_
            refine lv_iadd hx hb md_Mo_data_76 ?_
            refine fw_iald hx hb hK hP (mm_27 (by decide)) (mk_27 0) 0 rfl (j := ((((6 : Int32) * a2) + ((2 : Int32) * a3)) + a4).toNatClampNeg) rfl (fw_inadd2 (n := 11) (m := 2) (t := 12) (fw_inadd2 (n := 7) (m := 5) (t := 11) (fw_inmul (c := (6 : Int32)) (k := 6) (n := 2) (m := 7) rfl h_6 (by decide) (by decide)) (fw_inmul (c := (2 : Int32)) (k := 2) (n := 3) (m := 5) rfl h_9 (by decide) (by decide)) (by decide)) h_12 (by decide)) md_Mo_data_77 ?_
            exact fw_oret hx hb hr hlocks hS hP md_Mo_data_78 (by subst er1 er4 er7 er10; simp only [mf_Mo_data, if_neg c_2, if_neg c_5, if_neg c_8, if_neg c_11, if_neg c_13])
          · refine lv_aload_n hx hb md_Mo_data_43 rfl (lv_at hl 0 rfl) ?_
            refine fw_getr hx hb hts i_Mo hown hK hP (mm_0 (by decide)) (mk_0 0) rfl 45 (by decide) (hts _ L_Mo_143) (fun _ h9 => h9) rfl md_Mo_data_44 ?_
            refine lv_bipush (v := (6 : Int32)) hx hb md_Mo_data_47 (by decide) ?_
            refine lv_iload_n hx hb md_Mo_data_49 rfl (lv_at hl 2 rfl) ?_
            refine lv_imul hx hb md_Mo_data_50 ?_
            refine lv_iconst (v := (2 : Int32)) hx hb md_Mo_data_51 (by decide) ?_
            refine lv_iload_n hx hb md_Mo_data_52 rfl (lv_at hl 3 rfl) ?_
            refine lv_imul hx hb md_Mo_data_53 ?_
            refine lv_iadd hx hb md_Mo_data_54 ?_
            refine lv_iload hx hb md_Mo_data_55 (lv_at hl 4 rfl) ?_
            refine lv_iadd hx hb md_Mo_data_57 ?_
            refine fw_iald hx hb hK hP (mm_46 (by decide)) (mk_46 0) 0 rfl (j := ((((6 : Int32) * a2) + ((2 : Int32) * a3)) + a4).toNatClampNeg) rfl (fw_inadd2 (n := 11) (m := 2) (t := 12) (fw_inadd2 (n := 7) (m := 5) (t := 11) (fw_inmul (c := (6 : Int32)) (k := 6) (n := 2) (m := 7) rfl h_6 (by decide) (by decide)) (fw_inmul (c := (2 : Int32)) (k := 2) (n := 3) (m := 5) rfl h_9 (by decide) (by decide)) (by decide)) h_12 (by decide)) md_Mo_data_58 ?_
            refine lv_goto (tgt := 78) hx hb md_Mo_data_59 (by decide) ?_
            exact fw_oret hx hb hr hlocks hS hP md_Mo_data_78 (by subst er1 er4 er7 er10; simp only [mf_Mo_data, if_neg c_2, if_neg c_5, if_neg c_8, if_neg c_11, if_pos c_13])
        · refine lv_iconst (v := (-1 : Int32)) hx hb md_Mo_data_37 (by decide) ?_
          exact fw_oret hx hb hr hlocks hS hP md_Mo_data_38 (by subst er1 er4 er7 er10; simp only [mf_Mo_data, if_neg c_2, if_neg c_5, if_neg c_8, if_pos c_11])
def mf_Mo_alarms (v0 : fw_V) (a1 : Int32) : Int32 :=
  if a1 < (0 : Int32) then
    (-2 : Int32)
  else
    if (8 : Int32) ≤ a1 then
      (-2 : Int32)
    else
      if (v0 0 0 55) ≤ a1 then
        (-2 : Int32)
      else
        (v0 49 0 a1.toNatClampNeg)

set_option maxHeartbeats 4000000 in
set_option maxRecDepth 100000 in
theorem mc_Mo_alarms (l : Launch) {D : va_G} {cA : Nat → ClassId} {ad : Nat → Nat → Nat} (hD : fw_D mCL ad) {b : Nat} (v0 : fw_V) (hI : mI b v0) (a1 : Int32)  : Met l my_Mo_alarms (Cond.code my_Mo_alarms mb_Mo_alarms 2 (some .int) :: vTB) mrm_Mo_alarms (fw_Pc vNL D vcls (vtys cA) mCL cA mkd ad v0 [.ref (ad 0 0), .int a1]) (fw_Qo D vcls mCL cA mkd ad v0 (mf_Mo_alarms v0 a1)) 0 0 (fw_A mCL ad) := by
  refine Met.ofW (cc := mb_Mo_alarms) (maxL := 2) (ret := (some .int)) (by decide) rfl ?_
  intro p e s m args below meth c s₁ B hml hv
  obtain ⟨rfl, hP, hK, hN⟩ := hv
  have hx := B.exec
  have hb := B.bytes
  have hr := B.returns
  have hts : ∀ w ∈ vTB, w.before ([.ref (ad 0 0), .int a1] : List Value).toArray s = true := fun w h => atoms_spec (ws := (Cond.code my_Mo_alarms mb_Mo_alarms 2 (some .int) :: vTB)) B.pre w (List.mem_cons_of_mem _ h)
  have hown : s.vm.findClass R_Mo = some m.cls := findClass_of_methodNamed B.named
  have hlocks := B.notSynchronized
  have hS : va_S (fw_A mCL ad) s.heap s.heap [] := va_S.rf
  skip
  have hl := lv_entry ([.ref (ad 0 0), .int a1]) (n := 2) (Nat.le_of_ble_eq_true rfl)
  rw [lg_entry_eq]
  generalize (lg_sl ([.ref (ad 0 0), .int a1]) ++ List.replicate (2 - (lg_sl ([.ref (ad 0 0), .int a1])).length) Slot.unset).toArray = ls at hl ⊢
  have hl : lv_has ls 2 [(0, .ref (ad 0 0)), (1, .int a1)] := hl
  refine lv_iload_n hx hb md_Mo_alarms_0 rfl (lv_at hl 1 rfl) ?_
  refine lv_if_lt (tgt := 27) hx hb md_Mo_alarms_1 (by decide) (fun c_1 => ?_) (fun c_1 => ?_)
  · refine lv_bipush (v := (-2 : Int32)) hx hb md_Mo_alarms_27 (by decide) ?_
    exact fw_oret hx hb hr hlocks hS hP md_Mo_alarms_29 (by simp only [mf_Mo_alarms, if_pos c_1])
  · refine lv_iload_n hx hb md_Mo_alarms_4 rfl (lv_at hl 1 rfl) ?_
    refine lv_bipush (v := (8 : Int32)) hx hb md_Mo_alarms_5 (by decide) ?_
    refine lv_icmp_ge (tgt := 27) hx hb md_Mo_alarms_7 (by decide) (fun c_2 => ?_) (fun c_2 => ?_)
    · refine lv_bipush (v := (-2 : Int32)) hx hb md_Mo_alarms_27 (by decide) ?_
      exact fw_oret hx hb hr hlocks hS hP md_Mo_alarms_29 (by simp only [mf_Mo_alarms, if_neg c_1, if_pos c_2])
    · have h_3 : vp_in a1 8 := fw_in2 c_1 c_2
      refine lv_iload_n hx hb md_Mo_alarms_10 rfl (lv_at hl 1 rfl) ?_
      refine lv_aload_n hx hb md_Mo_alarms_11 rfl (lv_at hl 0 rfl) ?_
      refine fw_geti hx hb hts i_Mo hown hK hP (mm_0 (by decide)) (mk_0 0) rfl 55 (by decide) (hts _ L_Mo_232) (fun _ h9 => h9) rfl md_Mo_alarms_12 ?_
      refine lv_icmp_ge (tgt := 27) hx hb md_Mo_alarms_15 (by decide) (fun c_4 => ?_) (fun c_4 => ?_)
      · refine lv_bipush (v := (-2 : Int32)) hx hb md_Mo_alarms_27 (by decide) ?_
        exact fw_oret hx hb hr hlocks hS hP md_Mo_alarms_29 (by simp only [mf_Mo_alarms, if_neg c_1, if_neg c_2, if_pos c_4])
      · refine lv_aload_n hx hb md_Mo_alarms_18 rfl (lv_at hl 0 rfl) ?_
        refine fw_getr hx hb hts i_Mo hown hK hP (mm_0 (by decide)) (mk_0 0) rfl 48 (by decide) (hts _ L_Mo_152) (fun _ h9 => h9) rfl md_Mo_alarms_19 ?_
        refine lv_iload_n hx hb md_Mo_alarms_22 rfl (lv_at hl 1 rfl) ?_
        refine fw_iald hx hb hK hP (mm_49 (by decide)) (mk_49 0) 0 rfl (j := a1.toNatClampNeg) rfl h_3 md_Mo_alarms_23 ?_
        refine lv_goto (tgt := 29) hx hb md_Mo_alarms_24 (by decide) ?_
        exact fw_oret hx hb hr hlocks hS hP md_Mo_alarms_29 (by simp only [mf_Mo_alarms, if_neg c_1, if_neg c_2, if_neg c_4])
def mf_Mo_count (v0 : fw_V) (a1 : Int32) : Int32 :=
  if a1 = (0 : Int32) then
    (v0 0 0 49)
  else
    if a1 = (1 : Int32) then
      (v0 0 0 50)
    else
      if a1 = (2 : Int32) then
        (v0 0 0 51)
      else
        if a1 = (3 : Int32) then
          (v0 0 0 10)
        else
          if a1 = (4 : Int32) then
            (v0 0 0 52)
          else
            if a1 = (5 : Int32) then
              (v0 0 0 53)
            else
              if a1 = (6 : Int32) then
                (v0 0 0 55)
              else
                if a1 = (7 : Int32) then
                  (v0 0 0 56)
                else
                  (-1 : Int32)

set_option maxHeartbeats 4000000 in
set_option maxRecDepth 100000 in
theorem mc_Mo_count (l : Launch) {D : va_G} {cA : Nat → ClassId} {ad : Nat → Nat → Nat} (hD : fw_D mCL ad) {b : Nat} (v0 : fw_V) (hI : mI b v0) (a1 : Int32)  : Met l my_Mo_count (Cond.code my_Mo_count mb_Mo_count 2 (some .int) :: vTB) mrm_Mo_count (fw_Pc vNL D vcls (vtys cA) mCL cA mkd ad v0 [.ref (ad 0 0), .int a1]) (fw_Qo D vcls mCL cA mkd ad v0 (mf_Mo_count v0 a1)) 0 0 (fw_A mCL ad) := by
  refine Met.ofW (cc := mb_Mo_count) (maxL := 2) (ret := (some .int)) (by decide) rfl ?_
  intro p e s m args below meth c s₁ B hml hv
  obtain ⟨rfl, hP, hK, hN⟩ := hv
  have hx := B.exec
  have hb := B.bytes
  have hr := B.returns
  have hts : ∀ w ∈ vTB, w.before ([.ref (ad 0 0), .int a1] : List Value).toArray s = true := fun w h => atoms_spec (ws := (Cond.code my_Mo_count mb_Mo_count 2 (some .int) :: vTB)) B.pre w (List.mem_cons_of_mem _ h)
  have hown : s.vm.findClass R_Mo = some m.cls := findClass_of_methodNamed B.named
  have hlocks := B.notSynchronized
  have hS : va_S (fw_A mCL ad) s.heap s.heap [] := va_S.rf
  skip
  have hl := lv_entry ([.ref (ad 0 0), .int a1]) (n := 2) (Nat.le_of_ble_eq_true rfl)
  rw [lg_entry_eq]
  generalize (lg_sl ([.ref (ad 0 0), .int a1]) ++ List.replicate (2 - (lg_sl ([.ref (ad 0 0), .int a1])).length) Slot.unset).toArray = ls at hl ⊢
  have hl : lv_has ls 2 [(0, .ref (ad 0 0)), (1, .int a1)] := hl
  refine lv_iload_n hx hb md_Mo_count_0 rfl (lv_at hl 1 rfl) ?_
  by_cases c_1 : a1 = (0 : Int32)
  · refine lv_tableIn (off := 47) (tgt := 48) hx hb md_Mo_count_1 (by rw [c_1]; decide) (by rw [c_1]; decide) (by rw [c_1]; rfl) (by decide) ?_
    refine lv_aload_n hx hb md_Mo_count_48 rfl (lv_at hl 0 rfl) ?_
    refine fw_geti hx hb hts i_Mo hown hK hP (mm_0 (by decide)) (mk_0 0) rfl 49 (by decide) (hts _ L_Mo_266) (fun _ h9 => h9) rfl md_Mo_count_49 ?_
    exact fw_oret hx hb hr hlocks hS hP md_Mo_count_52 (by simp only [mf_Mo_count, if_pos c_1])
  · skip
    by_cases c_2 : a1 = (1 : Int32)
    · refine lv_tableIn (off := 52) (tgt := 53) hx hb md_Mo_count_1 (by rw [c_2]; decide) (by rw [c_2]; decide) (by rw [c_2]; rfl) (by decide) ?_
      refine lv_aload_n hx hb md_Mo_count_53 rfl (lv_at hl 0 rfl) ?_
      refine fw_geti hx hb hts i_Mo hown hK hP (mm_0 (by decide)) (mk_0 0) rfl 50 (by decide) (hts _ L_Mo_166) (fun _ h9 => h9) rfl md_Mo_count_54 ?_
      exact fw_oret hx hb hr hlocks hS hP md_Mo_count_57 (by simp only [mf_Mo_count, if_neg c_1, if_pos c_2])
    · skip
      by_cases c_3 : a1 = (2 : Int32)
      · refine lv_tableIn (off := 57) (tgt := 58) hx hb md_Mo_count_1 (by rw [c_3]; decide) (by rw [c_3]; decide) (by rw [c_3]; rfl) (by decide) ?_
        refine lv_aload_n hx hb md_Mo_count_58 rfl (lv_at hl 0 rfl) ?_
        refine fw_geti hx hb hts i_Mo hown hK hP (mm_0 (by decide)) (mk_0 0) rfl 51 (by decide) (hts _ L_Mo_173) (fun _ h9 => h9) rfl md_Mo_count_59 ?_
        exact fw_oret hx hb hr hlocks hS hP md_Mo_count_62 (by simp only [mf_Mo_count, if_neg c_1, if_neg c_2, if_pos c_3])
      · skip
        by_cases c_4 : a1 = (3 : Int32)
        · refine lv_tableIn (off := 62) (tgt := 63) hx hb md_Mo_count_1 (by rw [c_4]; decide) (by rw [c_4]; decide) (by rw [c_4]; rfl) (by decide) ?_
          refine lv_aload_n hx hb md_Mo_count_63 rfl (lv_at hl 0 rfl) ?_
          refine fw_geti hx hb hts i_Mo hown hK hP (mm_0 (by decide)) (mk_0 0) rfl 10 (by decide) (hts _ L_Mo_170) (fun _ h9 => h9) rfl md_Mo_count_64 ?_
          have h_5 : vp_in (v0 0 0 10) 17 := hI.1 0 0 10
          exact fw_oret hx hb hr hlocks hS hP md_Mo_count_67 (by simp only [mf_Mo_count, if_neg c_1, if_neg c_2, if_neg c_3, if_pos c_4])
        · skip
          by_cases c_6 : a1 = (4 : Int32)
          · refine lv_tableIn (off := 67) (tgt := 68) hx hb md_Mo_count_1 (by rw [c_6]; decide) (by rw [c_6]; decide) (by rw [c_6]; rfl) (by decide) ?_
            refine lv_aload_n hx hb md_Mo_count_68 rfl (lv_at hl 0 rfl) ?_
            refine fw_geti hx hb hts i_Mo hown hK hP (mm_0 (by decide)) (mk_0 0) rfl 52 (by decide) (hts _ L_Mo_186) (fun _ h9 => h9) rfl md_Mo_count_69 ?_
            exact fw_oret hx hb hr hlocks hS hP md_Mo_count_72 (by simp only [mf_Mo_count, if_neg c_1, if_neg c_2, if_neg c_3, if_neg c_4, if_pos c_6])
          · skip
            by_cases c_7 : a1 = (5 : Int32)
            · refine lv_tableIn (off := 72) (tgt := 73) hx hb md_Mo_count_1 (by rw [c_7]; decide) (by rw [c_7]; decide) (by rw [c_7]; rfl) (by decide) ?_
              refine lv_aload_n hx hb md_Mo_count_73 rfl (lv_at hl 0 rfl) ?_
              refine fw_geti hx hb hts i_Mo hown hK hP (mm_0 (by decide)) (mk_0 0) rfl 53 (by decide) (hts _ L_Mo_210) (fun _ h9 => h9) rfl md_Mo_count_74 ?_
              exact fw_oret hx hb hr hlocks hS hP md_Mo_count_77 (by simp only [mf_Mo_count, if_neg c_1, if_neg c_2, if_neg c_3, if_neg c_4, if_neg c_6, if_pos c_7])
            · skip
              by_cases c_8 : a1 = (6 : Int32)
              · refine lv_tableIn (off := 77) (tgt := 78) hx hb md_Mo_count_1 (by rw [c_8]; decide) (by rw [c_8]; decide) (by rw [c_8]; rfl) (by decide) ?_
                refine lv_aload_n hx hb md_Mo_count_78 rfl (lv_at hl 0 rfl) ?_
                refine fw_geti hx hb hts i_Mo hown hK hP (mm_0 (by decide)) (mk_0 0) rfl 55 (by decide) (hts _ L_Mo_232) (fun _ h9 => h9) rfl md_Mo_count_79 ?_
                exact fw_oret hx hb hr hlocks hS hP md_Mo_count_82 (by simp only [mf_Mo_count, if_neg c_1, if_neg c_2, if_neg c_3, if_neg c_4, if_neg c_6, if_neg c_7, if_pos c_8])
              · skip
                by_cases c_9 : a1 = (7 : Int32)
                · refine lv_tableIn (off := 82) (tgt := 83) hx hb md_Mo_count_1 (by rw [c_9]; decide) (by rw [c_9]; decide) (by rw [c_9]; rfl) (by decide) ?_
                  refine lv_aload_n hx hb md_Mo_count_83 rfl (lv_at hl 0 rfl) ?_
                  refine fw_geti hx hb hts i_Mo hown hK hP (mm_0 (by decide)) (mk_0 0) rfl 56 (by decide) (hts _ L_Mo_235) (fun _ h9 => h9) rfl md_Mo_count_84 ?_
                  exact fw_oret hx hb hr hlocks hS hP md_Mo_count_87 (by simp only [mf_Mo_count, if_neg c_1, if_neg c_2, if_neg c_3, if_neg c_4, if_neg c_6, if_neg c_7, if_neg c_8, if_pos c_9])
                · skip
                  refine lv_tableOut (tgt := 88) hx hb md_Mo_count_1 (by have q0 := lv_neT c_1 (a := 0) (by decide); have q1 := lv_neT c_2 (a := 1) (by decide); have q2 := lv_neT c_3 (a := 2) (by decide); have q3 := lv_neT c_4 (a := 3) (by decide); have q4 := lv_neT c_6 (a := 4) (by decide); have q5 := lv_neT c_7 (a := 5) (by decide); have q6 := lv_neT c_8 (a := 6) (by decide); have q7 := lv_neT c_9 (a := 7) (by decide); omega) (by decide) ?_
                  refine lv_iconst (v := (-1 : Int32)) hx hb md_Mo_count_88 (by decide) ?_
                  exact fw_oret hx hb hr hlocks hS hP md_Mo_count_89 (by simp only [mf_Mo_count, if_neg c_1, if_neg c_2, if_neg c_3, if_neg c_4, if_neg c_6, if_neg c_7, if_neg c_8, if_neg c_9])

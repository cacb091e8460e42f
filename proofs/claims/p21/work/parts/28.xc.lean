def xf_FR_tick_j1 : Nat → fw_V → Int32 → Int32 → Int32 × fw_V
  | 0, v, a1, x2 => (0, v)
  | n + 1, v, a1, x2 =>
    if a1 ≤ x2 then
      ((v 5 0 2), v)
    else
      let v6 := fw_up v 0 0 6 ((v 0 0 6) + (1 : Int32))
      let v8 := xf_Re_passTick v6 (0)
      let v10 := xf_Re_passTick v8 (1)
      let v13 := xf_De_passTick v10 (0)
      let v15 := xf_De_passTick v13 (1)
      xf_FR_tick_j1 n v15 a1 ((x2 + (1 : Int32)))
def xf_FR_tick (v0 : fw_V) (a1 : Int32) : Int32 × fw_V :=
  let r1 := xf_FR_within a1 (1 : Int32) (8 : Int32)
  if r1 = (0 : Int32) then
    ((-1 : Int32), v0)
  else
    xf_FR_tick_j1 10 v0 a1 ((0 : Int32))

set_option maxHeartbeats 4000000 in
set_option maxRecDepth 100000 in
theorem xc_FR_tick (l : Launch) {D : va_G} {cA : Nat → ClassId} {ad : Nat → Nat → Nat} (hD : fw_D xCL ad) {b : Nat} (v0 : fw_V) (hI : xI b v0) (a1 : Int32)  : Met l xy_FR_tick (Cond.code xy_FR_tick xb_FR_tick 4 (some .int) :: vTB) xrm_FR_tick (fw_Pc vNL D vcls (vtys cA) xCL cA xkd ad v0 [.ref (ad 0 0), .int a1]) (fw_Qi D vcls xCL cA xkd ad (xI b) (xf_FR_tick v0 a1)) 0 0 (fw_A xCL ad) := by
  refine Met.ofW (cc := xb_FR_tick) (maxL := 4) (ret := (some .int)) (by decide) rfl ?_
  intro p e s m args below meth c s₁ B hml hv
  obtain ⟨rfl, hP, hK, hN⟩ := hv
  have hx := B.exec
  have hb := B.bytes
  have hr := B.returns
  have hts : ∀ w ∈ vTB, w.before ([.ref (ad 0 0), .int a1] : List Value).toArray s = true := fun w h => atoms_spec (ws := (Cond.code xy_FR_tick xb_FR_tick 4 (some .int) :: vTB)) B.pre w (List.mem_cons_of_mem _ h)
  have hown : s.vm.findClass R_FR = some m.cls := findClass_of_methodNamed B.named
  have hlocks := B.notSynchronized
  have hS : va_S (fw_A xCL ad) s.heap s.heap [] := va_S.rf
  have J1 : ∀ (n : Nat) (v : fw_V) (x2 : Int32) (H : Heap) (locs : List Loc) (ls : Array Slot), xf_FR_tick v0 a1 = xf_FR_tick_j1 n v a1 x2 → (0 ≤ x2.toInt ∧ x2.toInt ≤ a1.toInt ∧ a1.toInt < x2.toInt + n) → xI b v → va_P D vcls (fw_w xCL cA xkd ad v) H → va_S (fw_A xCL ad) s.heap H locs → lv_has ls 4 [(0, .ref (ad 0 0)), (1, .int a1), (2, .int x2)] → W p l e (headSpec (Cond.code xy_FR_tick xb_FR_tick 4 (some .int) :: vTB) xrm_FR_tick).room s m ([.ref (ad 0 0), .int a1] : List Value).toArray below meth c H locs 0 0 (MQ below (fw_Qi D vcls xCL cA xkd ad (xI b) (xf_FR_tick v0 a1)) ([.ref (ad 0 0), .int a1] : List Value).toArray s 0 0 (fw_A xCL ad)) (F0 m 14 ls []) := by
    intro n
    induction n with
    | zero =>
      intro v x2 H locs ls hj hn
      exact absurd hn.2.2 (by omega)
    | succ n ih =>
      intro v x2 H locs ls hj hn  hI hP hS hl
      refine lv_iload_n hx hb xd_FR_tick_14 rfl (lv_at hl 2 rfl) ?_
      refine lv_iload_n hx hb xd_FR_tick_15 rfl (lv_at hl 1 rfl) ?_
      refine lv_icmp_ge (tgt := 79) hx hb xd_FR_tick_16 (by decide) (fun c_4 => ?_) (fun c_4 => ?_)
      · refine lv_aload_n hx hb xd_FR_tick_79 rfl (lv_at hl 0 rfl) ?_
        refine fw_getr hx hb hts i_FR hown hK hP (xm_0 (by decide)) (xk_0 0) rfl 1 (by decide) (hts _ L_FR_19) (fun _ h9 => h9) rfl xd_FR_tick_80 ?_
        refine fw_geti hx hb hts i_Wi hown hK hP (xm_5 (by decide)) (xk_5 0) rfl 2 (by decide) (hts _ L_FR_147) (fun _ h9 => h9) rfl xd_FR_tick_83 ?_
        have h_5 : vp_in (v 5 0 2) 17 := hI.1 5 0 2
        exact fw_iret hx hb hr hlocks hS hP hI xd_FR_tick_86 (by rw [hj]; simp only [xf_FR_tick_j1, if_pos c_4])
      · refine lv_aload_n hx hb xd_FR_tick_19 rfl (lv_at hl 0 rfl) ?_
        refine lv_dup hx hb xd_FR_tick_20 rfl ?_
        refine fw_geti hx hb hts i_FR hown hK hP (xm_0 (by decide)) (xk_0 0) rfl 6 (by decide) (hts _ L_FR_156) (fun _ h9 => h9) rfl xd_FR_tick_21 ?_
        refine lv_iconst (v := (1 : Int32)) hx hb xd_FR_tick_24 (by decide) ?_
        refine lv_iadd hx hb xd_FR_tick_25 ?_
        refine fw_puti hx hb hts i_FR t_FR t_FR_ok n_FR hown hK hD hP hS (xm_0 (by decide)) (xk_0 0) rfl 6 (by decide) (hts _ L_FR_156) (fun _ h9 => h9) rfl fw_pdI rfl rfl rfl xd_FR_tick_26 (fun v6 H locs ev6 hP hS => ?_)
        have hI : xI b v6 := by rw [ev6]; exact xI_up hI trivial trivial
        refine lv_iconst (v := (0 : Int32)) hx hb xd_FR_tick_29 (by decide) ?_
        refine lv_istore_n (lv' := [(3, .int (0 : Int32)), (0, .ref (ad 0 0)), (1, .int a1), (2, .int x2)]) hx hb xd_FR_tick_30 rfl hl (by decide) rfl (fun ls hl => ?_)
        refine lv_iload_n hx hb xd_FR_tick_31 rfl (lv_at hl 0 rfl) ?_
        refine lv_iconst (v := (2 : Int32)) hx hb xd_FR_tick_32 (by decide) ?_
        refine lv_icmp_ge (tgt := 51) hx hb xd_FR_tick_33 (by decide) (fun c_7 => absurd c_7 (by decide)) (fun _ => ?_)
        refine lv_aload_n hx hb xd_FR_tick_36 rfl (lv_at hl 1 rfl) ?_
        refine fw_getr hx hb hts i_FR hown hK hP (xm_0 (by decide)) (xk_0 0) rfl 3 (by decide) (hts _ L_FR_32) (fun _ h9 => h9) rfl xd_FR_tick_37 ?_
        refine lv_iload_n hx hb xd_FR_tick_40 rfl (lv_at hl 0 rfl) ?_
        refine fw_alds hx hb hK hP (xm_11 (by decide)) (xk_11 0) 3 rfl (j := 0) (by decide) (fw_inc (by decide)) xd_FR_tick_41 ?_
        refine fw_cv (va_runV (As := []) (rest := []) ⟨hx, hb, hml, hown, hts⟩ (xc_Re_passTick l hD v6 hI (0) (by omega)) (xw_Re_passTick hts L_FR_159 ⟨Nat.le_of_ble_eq_true rfl, Nat.le_of_ble_eq_true rfl⟩) (fw_preV hN hK hP (xm_13 (by decide)) (xk_13 0) rfl) rfl rfl hl.1 rfl (lv_room (Nat.le_of_ble_eq_true rfl)) xd_FR_tick_42 ⟨Nat.le_of_ble_eq_true rfl, Nat.le_of_ble_eq_true rfl⟩) hS (fun v8 H locs ev8 hI hP hS => ?_)
        refine lv_iinc (v := (1 : Int32)) (lv' := [(3, .int (1 : Int32)), (0, .ref (ad 0 0)), (1, .int a1), (2, .int x2)]) hx hb xd_FR_tick_45 hl (k := 0) rfl (by decide) (by decide) rfl (fun ls hl => ?_)
        refine lv_goto (tgt := 31) hx hb xd_FR_tick_48 (by decide) ?_
        refine lv_iload_n hx hb xd_FR_tick_31 rfl (lv_at hl 0 rfl) ?_
        refine lv_iconst (v := (2 : Int32)) hx hb xd_FR_tick_32 (by decide) ?_
        refine lv_icmp_ge (tgt := 51) hx hb xd_FR_tick_33 (by decide) (fun c_9 => absurd c_9 (by decide)) (fun _ => ?_)
        refine lv_aload_n hx hb xd_FR_tick_36 rfl (lv_at hl 1 rfl) ?_
        refine fw_getr hx hb hts i_FR hown hK hP (xm_0 (by decide)) (xk_0 0) rfl 3 (by decide) (hts _ L_FR_32) (fun _ h9 => h9) rfl xd_FR_tick_37 ?_
        refine lv_iload_n hx hb xd_FR_tick_40 rfl (lv_at hl 0 rfl) ?_
        refine fw_alds hx hb hK hP (xm_11 (by decide)) (xk_11 0) 3 rfl (j := 1) (by decide) (fw_inc (by decide)) xd_FR_tick_41 ?_
        refine fw_cv (va_runV (As := []) (rest := []) ⟨hx, hb, hml, hown, hts⟩ (xc_Re_passTick l hD v8 hI (1) (by omega)) (xw_Re_passTick hts L_FR_159 ⟨Nat.le_of_ble_eq_true rfl, Nat.le_of_ble_eq_true rfl⟩) (fw_preV hN hK hP (xm_13 (by decide)) (xk_13 1) rfl) rfl rfl hl.1 rfl (lv_room (Nat.le_of_ble_eq_true rfl)) xd_FR_tick_42 ⟨Nat.le_of_ble_eq_true rfl, Nat.le_of_ble_eq_true rfl⟩) hS (fun v10 H locs ev10 hI hP hS => ?_)
        refine lv_iinc (v := (2 : Int32)) (lv' := [(3, .int (2 : Int32)), (0, .ref (ad 0 0)), (1, .int a1), (2, .int x2)]) hx hb xd_FR_tick_45 hl (k := 0) rfl (by decide) (by decide) rfl (fun ls hl => ?_)
        refine lv_goto (tgt := 31) hx hb xd_FR_tick_48 (by decide) ?_
        refine lv_iload_n hx hb xd_FR_tick_31 rfl (lv_at hl 0 rfl) ?_
        refine lv_iconst (v := (2 : Int32)) hx hb xd_FR_tick_32 (by decide) ?_
        refine lv_icmp_ge (tgt := 51) hx hb xd_FR_tick_33 (by decide) (fun _ => ?_) (fun c_11 => absurd (by decide) c_11)
        refine lv_iconst (v := (0 : Int32)) hx hb xd_FR_tick_51 (by decide) ?_
        refine lv_istore_n (lv' := [(3, .int (0 : Int32)), (0, .ref (ad 0 0)), (1, .int a1), (2, .int x2)]) hx hb xd_FR_tick_52 rfl hl (by decide) rfl (fun ls hl => ?_)
        refine lv_iload_n hx hb xd_FR_tick_53 rfl (lv_at hl 0 rfl) ?_
        refine lv_iconst (v := (2 : Int32)) hx hb xd_FR_tick_54 (by decide) ?_
        refine lv_icmp_ge (tgt := 73) hx hb xd_FR_tick_55 (by decide) (fun c_12 => absurd c_12 (by decide)) (fun _ => ?_)
        refine lv_aload_n hx hb xd_FR_tick_58 rfl (lv_at hl 1 rfl) ?_
        refine fw_getr hx hb hts i_FR hown hK hP (xm_0 (by decide)) (xk_0 0) rfl 4 (by decide) (hts _ L_FR_38) (fun _ h9 => h9) rfl xd_FR_tick_59 ?_
        refine lv_iload_n hx hb xd_FR_tick_62 rfl (lv_at hl 0 rfl) ?_
        refine fw_alds hx hb hK hP (xm_12 (by decide)) (xk_12 0) 4 rfl (j := 0) (by decide) (fw_inc (by decide)) xd_FR_tick_63 ?_
        refine fw_cv (va_runV (As := []) (rest := []) ⟨hx, hb, hml, hown, hts⟩ (xc_De_passTick l hD v10 hI (0) (by omega)) (xw_De_passTick hts L_FR_162 ⟨Nat.le_of_ble_eq_true rfl, Nat.le_of_ble_eq_true rfl⟩) (fw_preV hN hK hP (xm_19 (by decide)) (xk_19 0) rfl) rfl rfl hl.1 rfl (lv_room (Nat.le_of_ble_eq_true rfl)) xd_FR_tick_64 ⟨Nat.le_of_ble_eq_true rfl, Nat.le_of_ble_eq_true rfl⟩) hS (fun v13 H locs ev13 hI hP hS => ?_)
        refine lv_iinc (v := (1 : Int32)) (lv' := [(3, .int (1 : Int32)), (0, .ref (ad 0 0)), (1, .int a1), (2, .int x2)]) hx hb xd_FR_tick_67 hl (k := 0) rfl (by decide) (by decide) rfl (fun ls hl => ?_)
        refine lv_goto (tgt := 53) hx hb xd_FR_tick_70 (by decide) ?_
        refine lv_iload_n hx hb xd_FR_tick_53 rfl (lv_at hl 0 rfl) ?_
        refine lv_iconst (v := (2 : Int32)) hx hb xd_FR_tick_54 (by decide) ?_
        refine lv_icmp_ge (tgt := 73) hx hb xd_FR_tick_55 (by decide) (fun c_14 => absurd c_14 (by decide)) (fun _ => ?_)
        refine lv_aload_n hx hb xd_FR_tick_58 rfl (lv_at hl 1 rfl) ?_
        refine fw_getr hx hb hts i_FR hown hK hP (xm_0 (by decide)) (xk_0 0) rfl 4 (by decide) (hts _ L_FR_38) (fun _ h9 => h9) rfl xd_FR_tick_59 ?_
        refine lv_iload_n hx hb xd_FR_tick_62 rfl (lv_at hl 0 rfl) ?_
        refine fw_alds hx hb hK hP (xm_12 (by decide)) (xk_12 0) 4 rfl (j := 1) (by decide) (fw_inc (by decide)) xd_FR_tick_63 ?_
        refine fw_cv (va_runV (As := []) (rest := []) ⟨hx, hb, hml, hown, hts⟩ (xc_De_passTick l hD v13 hI (1) (by omega)) (xw_De_passTick hts L_FR_162 ⟨Nat.le_of_ble_eq_true rfl, Nat.le_of_ble_eq_true rfl⟩) (fw_preV hN hK hP (xm_19 (by decide)) (xk_19 1) rfl) rfl rfl hl.1 rfl (lv_room (Nat.le_of_ble_eq_true rfl)) xd_FR_tick_64 ⟨Nat.le_of_ble_eq_true rfl, Nat.le_of_ble_eq_true rfl⟩) hS (fun v15 H locs ev15 hI hP hS => ?_)
        refine lv_iinc (v := (2 : Int32)) (lv' := [(3, .int (2 : Int32)), (0, .ref (ad 0 0)), (1, .int a1), (2, .int x2)]) hx hb xd_FR_tick_67 hl (k := 0) rfl (by decide) (by decide) rfl (fun ls hl => ?_)
        refine lv_goto (tgt := 53) hx hb xd_FR_tick_70 (by decide) ?_
        refine lv_iload_n hx hb xd_FR_tick_53 rfl (lv_at hl 0 rfl) ?_
        refine lv_iconst (v := (2 : Int32)) hx hb xd_FR_tick_54 (by decide) ?_
        refine lv_icmp_ge (tgt := 73) hx hb xd_FR_tick_55 (by decide) (fun _ => ?_) (fun c_16 => absurd (by decide) c_16)
        refine lv_iinc (v := (x2 + (1 : Int32))) (lv' := [(2, .int (x2 + (1 : Int32))), (3, .int (2 : Int32)), (0, .ref (ad 0 0)), (1, .int a1)]) hx hb xd_FR_tick_73 hl (k := 3) rfl rfl (by decide) rfl (fun ls hl => ?_)
        refine lv_goto (tgt := 14) hx hb xd_FR_tick_76 (by decide) ?_
        exact ih v15 ((x2 + (1 : Int32))) _ _ _ (by rw [hj]; subst ev6 ev8 ev10 ev13 ev15; simp only [xf_FR_tick_j1, if_neg c_4]) (fw_step c_4 hn)   hI hP hS (lv_sub hl [2, 3, 0] rfl)
  skip
  have hl := lv_entry ([.ref (ad 0 0), .int a1]) (n := 4) (Nat.le_of_ble_eq_true rfl)
  rw [lg_entry_eq]
  generalize (lg_sl ([.ref (ad 0 0), .int a1]) ++ List.replicate (4 - (lg_sl ([.ref (ad 0 0), .int a1])).length) Slot.unset).toArray = ls at hl ⊢
  have hl : lv_has ls 4 [(0, .ref (ad 0 0)), (1, .int a1)] := hl
  refine lv_iload_n hx hb xd_FR_tick_0 rfl (lv_at hl 1 rfl) ?_
  refine lv_iconst (v := (1 : Int32)) hx hb xd_FR_tick_1 (by decide) ?_
  refine lv_bipush (v := (8 : Int32)) hx hb xd_FR_tick_2 (by decide) ?_
  refine fw_cb (va_runS (As := [.int a1, .int (1 : Int32), .int (8 : Int32)]) (rest := []) ⟨hx, hb, hml, hown, hts⟩ (xc_FR_within l hD v0 hI a1 (1 : Int32) (8 : Int32)) (xw_FR_within hts L_FR_52 ⟨Nat.le_of_ble_eq_true rfl, Nat.le_of_ble_eq_true rfl⟩) (fw_preS hN hK hP) rfl rfl hl.1 rfl (lv_room (Nat.le_of_ble_eq_true rfl)) xd_FR_tick_4 ⟨Nat.le_of_ble_eq_true rfl, Nat.le_of_ble_eq_true rfl⟩) hS (fun r1 H locs zr1 er1 hP hS => ?_)
  refine lv_if_ne (tgt := 12) hx hb xd_FR_tick_7 (by decide) (fun c_2 => ?_) (fun c_2 => ?_)
  · have h_3 : ((1 : Int32)).toInt ≤ a1.toInt ∧ a1.toInt ≤ ((8 : Int32)).toInt := xp_rng er1 c_2
    refine lv_iconst (v := (0 : Int32)) hx hb xd_FR_tick_12 (by decide) ?_
    refine lv_istore_n (lv' := [(2, .int (0 : Int32)), (0, .ref (ad 0 0)), (1, .int a1)]) hx hb xd_FR_tick_13 rfl hl (by decide) rfl (fun ls hl => ?_)
    exact J1 10 v0 ((0 : Int32)) _ _ _ (by subst er1; simp only [xf_FR_tick, if_neg c_2]) (fw_start0 h_3)   hI hP hS (lv_sub hl [1, 2, 0] rfl)
  · refine lv_iconst (v := (-1 : Int32)) hx hb xd_FR_tick_10 (by decide) ?_
    exact fw_iret hx hb hr hlocks hS hP hI xd_FR_tick_11 (by subst er1; simp only [xf_FR_tick, if_pos c_2])
def xf_Fm_tell (v0 : fw_V) (r : Nat) (a1 : Int32) : Int32 :=
  if a1 = (0 : Int32) then
    (v0 7 r 0)
  else
    if a1 = (1 : Int32) then
      (v0 7 r 1)
    else
      if a1 = (2 : Int32) then
        (v0 7 r 2)
      else
        if a1 = (3 : Int32) then
          (v0 7 r 3)
        else
          let r5 := xf_FR_within a1 (4 : Int32) (10 : Int32)
          if r5 = (0 : Int32) then
            (-1 : Int32)
          else
            (v0 8 r (a1 - (4 : Int32)).toNatClampNeg)

set_option maxHeartbeats 4000000 in
set_option maxRecDepth 100000 in
theorem xc_Fm_tell (l : Launch) {D : va_G} {cA : Nat → ClassId} {ad : Nat → Nat → Nat} (hD : fw_D xCL ad) {b : Nat} (v0 : fw_V) (hI : xI b v0) (r : Nat) (hr0 : r < 18) (a1 : Int32)  : Met l xy_Fm_tell (Cond.code xy_Fm_tell xb_Fm_tell 2 (some .int) :: vTB) xrm_Fm_tell (fw_Pc vNL D vcls (vtys cA) xCL cA xkd ad v0 [.ref (ad 7 r), .int a1]) (fw_Qo D vcls xCL cA xkd ad v0 (xf_Fm_tell v0 r a1)) 0 0 (fw_A xCL ad) := by
  refine Met.ofW (cc := xb_Fm_tell) (maxL := 2) (ret := (some .int)) (by decide) rfl ?_
  intro p e s m args below meth c s₁ B hml hv
  obtain ⟨rfl, hP, hK, hN⟩ := hv
  have hx := B.exec
  have hb := B.bytes
  have hr := B.returns
  have hts : ∀ w ∈ vTB, w.before ([.ref (ad 7 r), .int a1] : List Value).toArray s = true := fun w h => atoms_spec (ws := (Cond.code xy_Fm_tell xb_Fm_tell 2 (some .int) :: vTB)) B.pre w (List.mem_cons_of_mem _ h)
  have hown : s.vm.findClass R_Fm = some m.cls := findClass_of_methodNamed B.named
  have hlocks := B.notSynchronized
  have hS : va_S (fw_A xCL ad) s.heap s.heap [] := va_S.rf
  skip
  have hl := lv_entry ([.ref (ad 7 r), .int a1]) (n := 2) (Nat.le_of_ble_eq_true rfl)
  rw [lg_entry_eq]
  generalize (lg_sl ([.ref (ad 7 r), .int a1]) ++ List.replicate (2 - (lg_sl ([.ref (ad 7 r), .int a1])).length) Slot.unset).toArray = ls at hl ⊢
  have hl : lv_has ls 2 [(0, .ref (ad 7 r)), (1, .int a1)] := hl
  refine lv_iload_n hx hb xd_Fm_tell_0 rfl (lv_at hl 1 rfl) ?_
  by_cases c_1 : a1 = (0 : Int32)
  · refine lv_tableIn (off := 31) (tgt := 32) hx hb xd_Fm_tell_1 (by rw [c_1]; decide) (by rw [c_1]; decide) (by rw [c_1]; rfl) (by decide) ?_
    refine lv_aload_n hx hb xd_Fm_tell_32 rfl (lv_at hl 0 rfl) ?_
    refine fw_geti hx hb hts i_Fm hown hK hP (xm_7 (by omega)) (xk_7 r) rfl 0 (by decide) (hts _ L_Fm_15) (fun _ h9 => h9) rfl xd_Fm_tell_33 ?_
    exact fw_oret hx hb hr hlocks hS hP xd_Fm_tell_36 (by simp only [xf_Fm_tell, if_pos c_1])
  · skip
    by_cases c_2 : a1 = (1 : Int32)
    · refine lv_tableIn (off := 36) (tgt := 37) hx hb xd_Fm_tell_1 (by rw [c_2]; decide) (by rw [c_2]; decide) (by rw [c_2]; rfl) (by decide) ?_
      refine lv_aload_n hx hb xd_Fm_tell_37 rfl (lv_at hl 0 rfl) ?_
      refine fw_geti hx hb hts i_Fm hown hK hP (xm_7 (by omega)) (xk_7 r) rfl 1 (by decide) (hts _ L_Fm_19) (fun _ h9 => h9) rfl xd_Fm_tell_38 ?_
      exact fw_oret hx hb hr hlocks hS hP xd_Fm_tell_41 (by simp only [xf_Fm_tell, if_neg c_1, if_pos c_2])
    · skip
      by_cases c_3 : a1 = (2 : Int32)
      · refine lv_tableIn (off := 41) (tgt := 42) hx hb xd_Fm_tell_1 (by rw [c_3]; decide) (by rw [c_3]; decide) (by rw [c_3]; rfl) (by decide) ?_
        refine lv_aload_n hx hb xd_Fm_tell_42 rfl (lv_at hl 0 rfl) ?_
        refine fw_geti hx hb hts i_Fm hown hK hP (xm_7 (by omega)) (xk_7 r) rfl 2 (by decide) (hts _ L_Fm_22) (fun _ h9 => h9) rfl xd_Fm_tell_43 ?_
        exact fw_oret hx hb hr hlocks hS hP xd_Fm_tell_46 (by simp only [xf_Fm_tell, if_neg c_1, if_neg c_2, if_pos c_3])
      · skip
        by_cases c_4 : a1 = (3 : Int32)
        · refine lv_tableIn (off := 46) (tgt := 47) hx hb xd_Fm_tell_1 (by rw [c_4]; decide) (by rw [c_4]; decide) (by rw [c_4]; rfl) (by decide) ?_
          refine lv_aload_n hx hb xd_Fm_tell_47 rfl (lv_at hl 0 rfl) ?_
          refine fw_geti hx hb hts i_Fm hown hK hP (xm_7 (by omega)) (xk_7 r) rfl 3 (by decide) (hts _ L_Fm_25) (fun _ h9 => h9) rfl xd_Fm_tell_48 ?_
          exact fw_oret hx hb hr hlocks hS hP xd_Fm_tell_51 (by simp only [xf_Fm_tell, if_neg c_1, if_neg c_2, if_neg c_3, if_pos c_4])
        · skip
          refine lv_tableOut (tgt := 52) hx hb xd_Fm_tell_1 (by have q0 := lv_neT c_1 (a := 0) (by decide); have q1 := lv_neT c_2 (a := 1) (by decide); have q2 := lv_neT c_3 (a := 2) (by decide); have q3 := lv_neT c_4 (a := 3) (by decide); omega) (by decide) ?_
          refine lv_iload_n hx hb xd_Fm_tell_52 rfl (lv_at hl 1 rfl) ?_
          refine lv_iconst (v := (4 : Int32)) hx hb xd_Fm_tell_53 (by decide) ?_
          refine lv_bipush (v := (10 : Int32)) hx hb xd_Fm_tell_54 (by decide) ?_
          refine fw_cb (va_runSN (As := [.int a1, .int (4 : Int32), .int (10 : Int32)]) (rest := []) ⟨hx, hb, hml, hown, hts⟩ (xc_FR_within l hD v0 hI a1 (4 : Int32) (10 : Int32)) (xwn_FR_within hts (hN.2 _ L_Fm_44) ⟨Nat.le_of_ble_eq_true rfl, Nat.le_of_ble_eq_true rfl⟩) (fw_preS hN hK hP) rfl rfl hl.1 rfl (lv_room (Nat.le_of_ble_eq_true rfl)) xd_Fm_tell_56 ⟨Nat.le_of_ble_eq_true rfl, Nat.le_of_ble_eq_true rfl⟩) hS (fun r5 H locs zr5 er5 hP hS => ?_)
          refine lv_if_eq (tgt := 73) hx hb xd_Fm_tell_59 (by decide) (fun c_6 => ?_) (fun c_6 => ?_)
          · refine lv_iconst (v := (-1 : Int32)) hx hb xd_Fm_tell_73 (by decide) ?_
            exact fw_oret hx hb hr hlocks hS hP xd_Fm_tell_74 (by subst er5; simp only [xf_Fm_tell, if_neg c_1, if_neg c_2, if_neg c_3, if_neg c_4, if_pos c_6])
          · refine lv_aload_n hx hb xd_Fm_tell_62 rfl (lv_at hl 0 rfl) ?_
            refine fw_getr hx hb hts i_Fm hown hK hP (xm_7 (by omega)) (xk_7 r) rfl 4 (by decide) (hts _ L_Fm_11) (fun _ h9 => h9) rfl xd_Fm_tell_63 ?_
            refine lv_iload_n hx hb xd_Fm_tell_66 rfl (lv_at hl 1 rfl) ?_
            refine lv_iconst (v := (4 : Int32)) hx hb xd_Fm_tell_67 (by decide) ?_
            refine lv_isub hx hb xd_Fm_tell_68 ?_
            refine fw_iald hx hb hK hP (xm_8 (by omega)) (xk_8 r) 0 rfl (j := (a1 - (4 : Int32)).toNatClampNeg) rfl (xp_tell er5 c_6) xd_Fm_tell_69 ?_
            refine lv_goto (tgt := 74) hx hb xd_Fm_tell_70 (by decide) ?_
            exact fw_oret hx hb hr hlocks hS hP xd_Fm_tell_74 (by subst er5; simp only [xf_Fm_tell, if_neg c_1, if_neg c_2, if_neg c_3, if_neg c_4, if_neg c_6])
def xf_FR_frame (v0 : fw_V) (a1 : Int32) (a2 : Int32) : Int32 :=
  let r1 := xf_Wi_has v0 a1
  if r1 = (0 : Int32) then
    (-2 : Int32)
  else
    let r6 := xf_Fm_tell v0 ((v0 6 0 a1.toNatClampNeg).toNatClampNeg) a2
    r6

set_option maxHeartbeats 4000000 in
set_option maxRecDepth 100000 in
theorem xc_FR_frame (l : Launch) {D : va_G} {cA : Nat → ClassId} {ad : Nat → Nat → Nat} (hD : fw_D xCL ad) {b : Nat} (v0 : fw_V) (hI : xI b v0) (a1 : Int32) (a2 : Int32)  : Met l xy_FR_frame (Cond.code xy_FR_frame xb_FR_frame 3 (some .int) :: vTB) xrm_FR_frame (fw_Pc vNL D vcls (vtys cA) xCL cA xkd ad v0 [.ref (ad 0 0), .int a1, .int a2]) (fw_Qo D vcls xCL cA xkd ad v0 (xf_FR_frame v0 a1 a2)) 0 0 (fw_A xCL ad) := by
  refine Met.ofW (cc := xb_FR_frame) (maxL := 3) (ret := (some .int)) (by decide) rfl ?_
  intro p e s m args below meth c s₁ B hml hv
  obtain ⟨rfl, hP, hK, hN⟩ := hv
  have hx := B.exec
  have hb := B.bytes
  have hr := B.returns
  have hts : ∀ w ∈ vTB, w.before ([.ref (ad 0 0), .int a1, .int a2] : List Value).toArray s = true := fun w h => atoms_spec (ws := (Cond.code xy_FR_frame xb_FR_frame 3 (some .int) :: vTB)) B.pre w (List.mem_cons_of_mem _ h)
  have hown : s.vm.findClass R_FR = some m.cls := findClass_of_methodNamed B.named
  have hlocks := B.notSynchronized
  have hS : va_S (fw_A xCL ad) s.heap s.heap [] := va_S.rf
  skip
  have hl := lv_entry ([.ref (ad 0 0), .int a1, .int a2]) (n := 3) (Nat.le_of_ble_eq_true rfl)
  rw [lg_entry_eq]
  generalize (lg_sl ([.ref (ad 0 0), .int a1, .int a2]) ++ List.replicate (3 - (lg_sl ([.ref (ad 0 0), .int a1, .int a2])).length) Slot.unset).toArray = ls at hl ⊢
  have hl : lv_has ls 3 [(0, .ref (ad 0 0)), (1, .int a1), (2, .int a2)] := hl
  refine lv_aload_n hx hb xd_FR_frame_0 rfl (lv_at hl 0 rfl) ?_
  refine fw_getr hx hb hts i_FR hown hK hP (xm_0 (by decide)) (xk_0 0) rfl 1 (by decide) (hts _ L_FR_19) (fun _ h9 => h9) rfl xd_FR_frame_1 ?_
  refine lv_iload_n hx hb xd_FR_frame_4 rfl (lv_at hl 1 rfl) ?_
  refine fw_cb (va_runV (As := [.int a1]) (rest := []) ⟨hx, hb, hml, hown, hts⟩ (xc_Wi_has l hD v0 hI a1) (xw_Wi_has hts L_FR_127 ⟨Nat.le_of_ble_eq_true rfl, Nat.le_of_ble_eq_true rfl⟩) (fw_preV hN hK hP (xm_5 (by decide)) (xk_5 0) rfl) rfl rfl hl.1 rfl (lv_room (Nat.le_of_ble_eq_true rfl)) xd_FR_frame_5 ⟨Nat.le_of_ble_eq_true rfl, Nat.le_of_ble_eq_true rfl⟩) hS (fun r1 H locs zr1 er1 hP hS => ?_)
  refine lv_if_eq (tgt := 27) hx hb xd_FR_frame_8 (by decide) (fun c_2 => ?_) (fun c_2 => ?_)
  · refine lv_bipush (v := (-2 : Int32)) hx hb xd_FR_frame_27 (by decide) ?_
    exact fw_oret hx hb hr hlocks hS hP xd_FR_frame_29 (by subst er1; simp only [xf_FR_frame, if_pos c_2])
  · have h_3 : 0 < (v0 5 0 2).toInt := xp_hasPos er1 c_2 (hI.1 5 0 2)
    have h_4 : vp_in a1 16 := xp_has er1 c_2 (hI.1 5 0 2)
    refine lv_aload_n hx hb xd_FR_frame_11 rfl (lv_at hl 0 rfl) ?_
    refine fw_getr hx hb hts i_FR hown hK hP (xm_0 (by decide)) (xk_0 0) rfl 1 (by decide) (hts _ L_FR_19) (fun _ h9 => h9) rfl xd_FR_frame_12 ?_
    refine fw_getr hx hb hts i_Wi hown hK hP (xm_5 (by decide)) (xk_5 0) rfl 0 (by decide) (hts _ L_FR_163) (fun _ h9 => h9) rfl xd_FR_frame_15 ?_
    refine lv_iload_n hx hb xd_FR_frame_18 rfl (lv_at hl 1 rfl) ?_
    have k_5 : (v0 6 0 a1.toNatClampNeg).toNatClampNeg < 18 := fw_inlt (hI.1 6 0 (a1.toNatClampNeg))
    refine fw_aldv hx hb hK hP (xm_6 (by decide)) (xk_6 0) 2 rfl (j := a1.toNatClampNeg) rfl (fw_inm h_4 (by decide)) xd_FR_frame_19 ?_
    refine lv_iload_n hx hb xd_FR_frame_20 rfl (lv_at hl 2 rfl) ?_
    refine fw_co (va_runV (As := [.int a2]) (rest := []) ⟨hx, hb, hml, hown, hts⟩ (xc_Fm_tell l hD v0 hI ((v0 6 0 a1.toNatClampNeg).toNatClampNeg) (by omega) a2) (xw_Fm_tell hts L_FR_167 ⟨Nat.le_of_ble_eq_true rfl, Nat.le_of_ble_eq_true rfl⟩) (fw_preV hN hK hP (xm_7 (by omega)) (xk_7 (v0 6 0 a1.toNatClampNeg).toNatClampNeg) rfl) rfl rfl hl.1 rfl (lv_room (Nat.le_of_ble_eq_true rfl)) xd_FR_frame_21 ⟨Nat.le_of_ble_eq_true rfl, Nat.le_of_ble_eq_true rfl⟩) hS (fun r6 H locs er6 hP hS => ?_)
    refine lv_goto (tgt := 29) hx hb xd_FR_frame_24 (by decide) ?_
    exact fw_oret hx hb hr hlocks hS hP xd_FR_frame_29 (by subst er1 er6; simp only [xf_FR_frame, if_neg c_2])
def xf_Re_tell (v0 : fw_V) (r : Nat) (a1 : Int32) : Int32 :=
  if a1 = (0 : Int32) then
    (v0 13 r 10)
  else
    if a1 = (1 : Int32) then
      (v0 13 r 11)
    else
      if a1 = (2 : Int32) then
        (v0 13 r 12)
      else
        if a1 = (3 : Int32) then
          (v0 13 r 13)
        else
          if a1 = (4 : Int32) then
            (v0 13 r 14)
          else
            if a1 = (5 : Int32) then
              (v0 13 r 15)
            else
              if a1 = (6 : Int32) then
                (v0 13 r 16)
              else
                (-1 : Int32)

set_option maxHeartbeats 4000000 in
set_option maxRecDepth 100000 in
theorem xc_Re_tell (l : Launch) {D : va_G} {cA : Nat → ClassId} {ad : Nat → Nat → Nat} (hD : fw_D xCL ad) {b : Nat} (v0 : fw_V) (hI : xI b v0) (r : Nat) (hr0 : r < 2) (a1 : Int32)  : Met l xy_Re_tell (Cond.code xy_Re_tell xb_Re_tell 2 (some .int) :: vTB) xrm_Re_tell (fw_Pc vNL D vcls (vtys cA) xCL cA xkd ad v0 [.ref (ad 13 r), .int a1]) (fw_Qo D vcls xCL cA xkd ad v0 (xf_Re_tell v0 r a1)) 0 0 (fw_A xCL ad) := by
  refine Met.ofW (cc := xb_Re_tell) (maxL := 2) (ret := (some .int)) (by decide) rfl ?_
  intro p e s m args below meth c s₁ B hml hv
  obtain ⟨rfl, hP, hK, hN⟩ := hv
  have hx := B.exec
  have hb := B.bytes
  have hr := B.returns
  have hts : ∀ w ∈ vTB, w.before ([.ref (ad 13 r), .int a1] : List Value).toArray s = true := fun w h => atoms_spec (ws := (Cond.code xy_Re_tell xb_Re_tell 2 (some .int) :: vTB)) B.pre w (List.mem_cons_of_mem _ h)
  have hown : s.vm.findClass R_Re = some m.cls := findClass_of_methodNamed B.named
  have hlocks := B.notSynchronized
  have hS : va_S (fw_A xCL ad) s.heap s.heap [] := va_S.rf
  skip
  have hl := lv_entry ([.ref (ad 13 r), .int a1]) (n := 2) (Nat.le_of_ble_eq_true rfl)
  rw [lg_entry_eq]
  generalize (lg_sl ([.ref (ad 13 r), .int a1]) ++ List.replicate (2 - (lg_sl ([.ref (ad 13 r), .int a1])).length) Slot.unset).toArray = ls at hl ⊢
  have hl : lv_has ls 2 [(0, .ref (ad 13 r)), (1, .int a1)] := hl
  refine lv_iload_n hx hb xd_Re_tell_0 rfl (lv_at hl 1 rfl) ?_
  by_cases c_1 : a1 = (0 : Int32)
  · refine lv_tableIn (off := 43) (tgt := 44) hx hb xd_Re_tell_1 (by rw [c_1]; decide) (by rw [c_1]; decide) (by rw [c_1]; rfl) (by decide) ?_
    refine lv_aload_n hx hb xd_Re_tell_44 rfl (lv_at hl 0 rfl) ?_
    refine fw_geti hx hb hts i_Re hown hK hP (xm_13 (by omega)) (xk_13 r) rfl 10 (by decide) (hts _ L_Re_56) (fun _ h9 => h9) rfl xd_Re_tell_45 ?_
    exact fw_oret hx hb hr hlocks hS hP xd_Re_tell_48 (by simp only [xf_Re_tell, if_pos c_1])
  · skip
    by_cases c_2 : a1 = (1 : Int32)
    · refine lv_tableIn (off := 48) (tgt := 49) hx hb xd_Re_tell_1 (by rw [c_2]; decide) (by rw [c_2]; decide) (by rw [c_2]; rfl) (by decide) ?_
      refine lv_aload_n hx hb xd_Re_tell_49 rfl (lv_at hl 0 rfl) ?_
      refine fw_geti hx hb hts i_Re hown hK hP (xm_13 (by omega)) (xk_13 r) rfl 11 (by decide) (hts _ L_Re_59) (fun _ h9 => h9) rfl xd_Re_tell_50 ?_
      exact fw_oret hx hb hr hlocks hS hP xd_Re_tell_53 (by simp only [xf_Re_tell, if_neg c_1, if_pos c_2])
    · skip
      by_cases c_3 : a1 = (2 : Int32)
      · refine lv_tableIn (off := 53) (tgt := 54) hx hb xd_Re_tell_1 (by rw [c_3]; decide) (by rw [c_3]; decide) (by rw [c_3]; rfl) (by decide) ?_
        refine lv_aload_n hx hb xd_Re_tell_54 rfl (lv_at hl 0 rfl) ?_
        refine fw_geti hx hb hts i_Re hown hK hP (xm_13 (by omega)) (xk_13 r) rfl 12 (by decide) (hts _ L_Re_31) (fun _ h9 => h9) rfl xd_Re_tell_55 ?_
        exact fw_oret hx hb hr hlocks hS hP xd_Re_tell_58 (by simp only [xf_Re_tell, if_neg c_1, if_neg c_2, if_pos c_3])
      · skip
        by_cases c_4 : a1 = (3 : Int32)
        · refine lv_tableIn (off := 58) (tgt := 59) hx hb xd_Re_tell_1 (by rw [c_4]; decide) (by rw [c_4]; decide) (by rw [c_4]; rfl) (by decide) ?_
          refine lv_aload_n hx hb xd_Re_tell_59 rfl (lv_at hl 0 rfl) ?_
          refine fw_geti hx hb hts i_Re hown hK hP (xm_13 (by omega)) (xk_13 r) rfl 13 (by decide) (hts _ L_Re_62) (fun _ h9 => h9) rfl xd_Re_tell_60 ?_
          exact fw_oret hx hb hr hlocks hS hP xd_Re_tell_63 (by simp only [xf_Re_tell, if_neg c_1, if_neg c_2, if_neg c_3, if_pos c_4])
        · skip
          by_cases c_5 : a1 = (4 : Int32)
          · refine lv_tableIn (off := 63) (tgt := 64) hx hb xd_Re_tell_1 (by rw [c_5]; decide) (by rw [c_5]; decide) (by rw [c_5]; rfl) (by decide) ?_
            refine lv_aload_n hx hb xd_Re_tell_64 rfl (lv_at hl 0 rfl) ?_
            refine fw_geti hx hb hts i_Re hown hK hP (xm_13 (by omega)) (xk_13 r) rfl 14 (by decide) (hts _ L_Re_124) (fun _ h9 => h9) rfl xd_Re_tell_65 ?_
            exact fw_oret hx hb hr hlocks hS hP xd_Re_tell_68 (by simp only [xf_Re_tell, if_neg c_1, if_neg c_2, if_neg c_3, if_neg c_4, if_pos c_5])
          · skip
            by_cases c_6 : a1 = (5 : Int32)
            · refine lv_tableIn (off := 68) (tgt := 69) hx hb xd_Re_tell_1 (by rw [c_6]; decide) (by rw [c_6]; decide) (by rw [c_6]; rfl) (by decide) ?_
              refine lv_aload_n hx hb xd_Re_tell_69 rfl (lv_at hl 0 rfl) ?_
              refine fw_geti hx hb hts i_Re hown hK hP (xm_13 (by omega)) (xk_13 r) rfl 15 (by decide) (hts _ L_Re_115) (fun _ h9 => h9) rfl xd_Re_tell_70 ?_
              exact fw_oret hx hb hr hlocks hS hP xd_Re_tell_73 (by simp only [xf_Re_tell, if_neg c_1, if_neg c_2, if_neg c_3, if_neg c_4, if_neg c_5, if_pos c_6])
            · skip
              by_cases c_7 : a1 = (6 : Int32)
              · refine lv_tableIn (off := 73) (tgt := 74) hx hb xd_Re_tell_1 (by rw [c_7]; decide) (by rw [c_7]; decide) (by rw [c_7]; rfl) (by decide) ?_
                refine lv_aload_n hx hb xd_Re_tell_74 rfl (lv_at hl 0 rfl) ?_
                refine fw_geti hx hb hts i_Re hown hK hP (xm_13 (by omega)) (xk_13 r) rfl 16 (by decide) (hts _ L_Re_127) (fun _ h9 => h9) rfl xd_Re_tell_75 ?_
                exact fw_oret hx hb hr hlocks hS hP xd_Re_tell_78 (by simp only [xf_Re_tell, if_neg c_1, if_neg c_2, if_neg c_3, if_neg c_4, if_neg c_5, if_neg c_6, if_pos c_7])
              · skip
                refine lv_tableOut (tgt := 79) hx hb xd_Re_tell_1 (by have q0 := lv_neT c_1 (a := 0) (by decide); have q1 := lv_neT c_2 (a := 1) (by decide); have q2 := lv_neT c_3 (a := 2) (by decide); have q3 := lv_neT c_4 (a := 3) (by decide); have q4 := lv_neT c_5 (a := 4) (by decide); have q5 := lv_neT c_6 (a := 5) (by decide); have q6 := lv_neT c_7 (a := 6) (by decide); omega) (by decide) ?_
                refine lv_iconst (v := (-1 : Int32)) hx hb xd_Re_tell_79 (by decide) ?_
                exact fw_oret hx hb hr hlocks hS hP xd_Re_tell_80 (by simp only [xf_Re_tell, if_neg c_1, if_neg c_2, if_neg c_3, if_neg c_4, if_neg c_5, if_neg c_6, if_neg c_7])
def xf_FR_relation (v0 : fw_V) (a1 : Int32) (a2 : Int32) : Int32 :=
  let r1 := xf_FR_isDevice a1
  if r1 = (0 : Int32) then
    (-1 : Int32)
  else
    let r5 := xf_Re_tell v0 ((a1.toNatClampNeg)) a2
    r5

set_option maxHeartbeats 4000000 in
set_option maxRecDepth 100000 in
theorem xc_FR_relation (l : Launch) {D : va_G} {cA : Nat → ClassId} {ad : Nat → Nat → Nat} (hD : fw_D xCL ad) {b : Nat} (v0 : fw_V) (hI : xI b v0) (a1 : Int32) (a2 : Int32)  : Met l xy_FR_relation (Cond.code xy_FR_relation xb_FR_relation 3 (some .int) :: vTB) xrm_FR_relation (fw_Pc vNL D vcls (vtys cA) xCL cA xkd ad v0 [.ref (ad 0 0), .int a1, .int a2]) (fw_Qo D vcls xCL cA xkd ad v0 (xf_FR_relation v0 a1 a2)) 0 0 (fw_A xCL ad) := by
  refine Met.ofW (cc := xb_FR_relation) (maxL := 3) (ret := (some .int)) (by decide) rfl ?_
  intro p e s m args below meth c s₁ B hml hv
  obtain ⟨rfl, hP, hK, hN⟩ := hv
  have hx := B.exec
  have hb := B.bytes
  have hr := B.returns
  have hts : ∀ w ∈ vTB, w.before ([.ref (ad 0 0), .int a1, .int a2] : List Value).toArray s = true := fun w h => atoms_spec (ws := (Cond.code xy_FR_relation xb_FR_relation 3 (some .int) :: vTB)) B.pre w (List.mem_cons_of_mem _ h)
  have hown : s.vm.findClass R_FR = some m.cls := findClass_of_methodNamed B.named
  have hlocks := B.notSynchronized
  have hS : va_S (fw_A xCL ad) s.heap s.heap [] := va_S.rf
  skip
  have hl := lv_entry ([.ref (ad 0 0), .int a1, .int a2]) (n := 3) (Nat.le_of_ble_eq_true rfl)
  rw [lg_entry_eq]
  generalize (lg_sl ([.ref (ad 0 0), .int a1, .int a2]) ++ List.replicate (3 - (lg_sl ([.ref (ad 0 0), .int a1, .int a2])).length) Slot.unset).toArray = ls at hl ⊢
  have hl : lv_has ls 3 [(0, .ref (ad 0 0)), (1, .int a1), (2, .int a2)] := hl
  refine lv_iload_n hx hb xd_FR_relation_0 rfl (lv_at hl 1 rfl) ?_
  refine fw_cb (va_runS (As := [.int a1]) (rest := []) ⟨hx, hb, hml, hown, hts⟩ (xc_FR_isDevice l hD v0 hI a1) (xw_FR_isDevice hts L_FR_64 ⟨Nat.le_of_ble_eq_true rfl, Nat.le_of_ble_eq_true rfl⟩) (fw_preS hN hK hP) rfl rfl hl.1 rfl (lv_room (Nat.le_of_ble_eq_true rfl)) xd_FR_relation_1 ⟨Nat.le_of_ble_eq_true rfl, Nat.le_of_ble_eq_true rfl⟩) hS (fun r1 H locs zr1 er1 hP hS => ?_)
  refine lv_if_eq (tgt := 20) hx hb xd_FR_relation_4 (by decide) (fun c_2 => ?_) (fun c_2 => ?_)
  · refine lv_iconst (v := (-1 : Int32)) hx hb xd_FR_relation_20 (by decide) ?_
    exact fw_oret hx hb hr hlocks hS hP xd_FR_relation_21 (by subst er1; simp only [xf_FR_relation, if_pos c_2])
  · have h_3 : vp_in a1 2 := xp_FR_isDevice er1 c_2
    refine lv_aload_n hx hb xd_FR_relation_7 rfl (lv_at hl 0 rfl) ?_
    refine fw_getr hx hb hts i_FR hown hK hP (xm_0 (by decide)) (xk_0 0) rfl 3 (by decide) (hts _ L_FR_32) (fun _ h9 => h9) rfl xd_FR_relation_8 ?_
    refine lv_iload_n hx hb xd_FR_relation_11 rfl (lv_at hl 1 rfl) ?_
    have k_4 : a1.toNatClampNeg < 2 := fw_inlt h_3
    refine fw_alds hx hb hK hP (xm_11 (by decide)) (xk_11 0) 3 rfl (j := a1.toNatClampNeg) rfl h_3 xd_FR_relation_12 ?_
    refine lv_iload_n hx hb xd_FR_relation_13 rfl (lv_at hl 2 rfl) ?_
    refine fw_co (va_runV (As := [.int a2]) (rest := []) ⟨hx, hb, hml, hown, hts⟩ (xc_Re_tell l hD v0 hI ((a1.toNatClampNeg)) (by omega) a2) (xw_Re_tell hts L_FR_171 ⟨Nat.le_of_ble_eq_true rfl, Nat.le_of_ble_eq_true rfl⟩) (fw_preV hN hK hP (xm_13 (by omega)) (xk_13 (a1.toNatClampNeg)) rfl) rfl rfl hl.1 rfl (lv_room (Nat.le_of_ble_eq_true rfl)) xd_FR_relation_14 ⟨Nat.le_of_ble_eq_true rfl, Nat.le_of_ble_eq_true rfl⟩) hS (fun r5 H locs er5 hP hS => ?_)
    refine lv_goto (tgt := 21) hx hb xd_FR_relation_17 (by decide) ?_
    exact fw_oret hx hb hr hlocks hS hP xd_FR_relation_21 (by subst er1 er5; simp only [xf_FR_relation, if_neg c_2])
def xf_De_tell (v0 : fw_V) (r : Nat) (a1 : Int32) : Int32 :=
  if a1 = (0 : Int32) then
    (v0 19 r 11)
  else
    if a1 = (1 : Int32) then
      (v0 19 r 12)
    else
      if a1 = (2 : Int32) then
        (v0 19 r 15)
      else
        if a1 = (3 : Int32) then
          (v0 20 r 2)
        else
          if a1 = (4 : Int32) then
            (v0 20 r 3)
          else
            if a1 = (5 : Int32) then
              (v0 27 r 0)
            else
              if a1 = (6 : Int32) then
                (v0 27 r 1)
              else
                if a1 = (7 : Int32) then
                  (v0 27 r 2)
                else
                  if a1 = (8 : Int32) then
                    (v0 19 r 16)
                  else
                    (-1 : Int32)

set_option maxHeartbeats 4000000 in
set_option maxRecDepth 100000 in
theorem xc_De_tell (l : Launch) {D : va_G} {cA : Nat → ClassId} {ad : Nat → Nat → Nat} (hD : fw_D xCL ad) {b : Nat} (v0 : fw_V) (hI : xI b v0) (r : Nat) (hr0 : r < 2) (a1 : Int32)  : Met l xy_De_tell (Cond.code xy_De_tell xb_De_tell 2 (some .int) :: vTB) xrm_De_tell (fw_Pc vNL D vcls (vtys cA) xCL cA xkd ad v0 [.ref (ad 19 r), .int a1]) (fw_Qo D vcls xCL cA xkd ad v0 (xf_De_tell v0 r a1)) 0 0 (fw_A xCL ad) := by
  refine Met.ofW (cc := xb_De_tell) (maxL := 2) (ret := (some .int)) (by decide) rfl ?_
  intro p e s m args below meth c s₁ B hml hv
  obtain ⟨rfl, hP, hK, hN⟩ := hv
  have hx := B.exec
  have hb := B.bytes
  have hr := B.returns
  have hts : ∀ w ∈ vTB, w.before ([.ref (ad 19 r), .int a1] : List Value).toArray s = true := fun w h => atoms_spec (ws := (Cond.code xy_De_tell xb_De_tell 2 (some .int) :: vTB)) B.pre w (List.mem_cons_of_mem _ h)
  have hown : s.vm.findClass R_De = some m.cls := findClass_of_methodNamed B.named
  have hlocks := B.notSynchronized
  have hS : va_S (fw_A xCL ad) s.heap s.heap [] := va_S.rf
  skip
  have hl := lv_entry ([.ref (ad 19 r), .int a1]) (n := 2) (Nat.le_of_ble_eq_true rfl)
  rw [lg_entry_eq]
  generalize (lg_sl ([.ref (ad 19 r), .int a1]) ++ List.replicate (2 - (lg_sl ([.ref (ad 19 r), .int a1])).length) Slot.unset).toArray = ls at hl ⊢
  have hl : lv_has ls 2 [(0, .ref (ad 19 r)), (1, .int a1)] := hl
  refine lv_iload_n hx hb xd_De_tell_0 rfl (lv_at hl 1 rfl) ?_
  by_cases c_1 : a1 = (0 : Int32)
  · refine lv_tableIn (off := 51) (tgt := 52) hx hb xd_De_tell_1 (by rw [c_1]; decide) (by rw [c_1]; decide) (by rw [c_1]; rfl) (by decide) ?_
    refine lv_aload_n hx hb xd_De_tell_52 rfl (lv_at hl 0 rfl) ?_
    refine fw_geti hx hb hts i_De hown hK hP (xm_19 (by omega)) (xk_19 r) rfl 11 (by decide) (hts _ L_De_62) (fun _ h9 => h9) rfl xd_De_tell_53 ?_
    exact fw_oret hx hb hr hlocks hS hP xd_De_tell_56 (by simp only [xf_De_tell, if_pos c_1])
  · skip
    by_cases c_2 : a1 = (1 : Int32)
    · refine lv_tableIn (off := 56) (tgt := 57) hx hb xd_De_tell_1 (by rw [c_2]; decide) (by rw [c_2]; decide) (by rw [c_2]; rfl) (by decide) ?_
      refine lv_aload_n hx hb xd_De_tell_57 rfl (lv_at hl 0 rfl) ?_
      refine fw_geti hx hb hts i_De hown hK hP (xm_19 (by omega)) (xk_19 r) rfl 12 (by decide) (hts _ L_De_101) (fun _ h9 => h9) rfl xd_De_tell_58 ?_
      exact fw_oret hx hb hr hlocks hS hP xd_De_tell_61 (by simp only [xf_De_tell, if_neg c_1, if_pos c_2])
    · skip
      by_cases c_3 : a1 = (2 : Int32)
      · refine lv_tableIn (off := 61) (tgt := 62) hx hb xd_De_tell_1 (by rw [c_3]; decide) (by rw [c_3]; decide) (by rw [c_3]; rfl) (by decide) ?_
        refine lv_aload_n hx hb xd_De_tell_62 rfl (lv_at hl 0 rfl) ?_
        refine fw_geti hx hb hts i_De hown hK hP (xm_19 (by omega)) (xk_19 r) rfl 15 (by decide) (hts _ L_De_72) (fun _ h9 => h9) rfl xd_De_tell_63 ?_
        exact fw_oret hx hb hr hlocks hS hP xd_De_tell_66 (by simp only [xf_De_tell, if_neg c_1, if_neg c_2, if_pos c_3])
      · skip
        by_cases c_4 : a1 = (3 : Int32)
        · refine lv_tableIn (off := 66) (tgt := 67) hx hb xd_De_tell_1 (by rw [c_4]; decide) (by rw [c_4]; decide) (by rw [c_4]; rfl) (by decide) ?_
          refine lv_aload_n hx hb xd_De_tell_67 rfl (lv_at hl 0 rfl) ?_
          refine fw_getr hx hb hts i_De hown hK hP (xm_19 (by omega)) (xk_19 r) rfl 4 (by decide) (hts _ L_De_21) (fun _ h9 => h9) rfl xd_De_tell_68 ?_
          refine fw_geti hx hb hts i_AQ hown hK hP (xm_20 (by omega)) (xk_20 r) rfl 2 (by decide) (hts _ L_De_129) (fun _ h9 => h9) rfl xd_De_tell_71 ?_
          have h_5 : vp_in (v0 20 r 2) 5 := hI.1 20 r 2
          exact fw_oret hx hb hr hlocks hS hP xd_De_tell_74 (by simp only [xf_De_tell, if_neg c_1, if_neg c_2, if_neg c_3, if_pos c_4])
        · skip
          by_cases c_6 : a1 = (4 : Int32)
          · refine lv_tableIn (off := 74) (tgt := 75) hx hb xd_De_tell_1 (by rw [c_6]; decide) (by rw [c_6]; decide) (by rw [c_6]; rfl) (by decide) ?_
            refine lv_aload_n hx hb xd_De_tell_75 rfl (lv_at hl 0 rfl) ?_
            refine fw_getr hx hb hts i_De hown hK hP (xm_19 (by omega)) (xk_19 r) rfl 4 (by decide) (hts _ L_De_21) (fun _ h9 => h9) rfl xd_De_tell_76 ?_
            refine fw_geti hx hb hts i_AQ hown hK hP (xm_20 (by omega)) (xk_20 r) rfl 3 (by decide) (hts _ L_De_132) (fun _ h9 => h9) rfl xd_De_tell_79 ?_
            exact fw_oret hx hb hr hlocks hS hP xd_De_tell_82 (by simp only [xf_De_tell, if_neg c_1, if_neg c_2, if_neg c_3, if_neg c_4, if_pos c_6])
          · skip
            by_cases c_7 : a1 = (5 : Int32)
            · refine lv_tableIn (off := 82) (tgt := 83) hx hb xd_De_tell_1 (by rw [c_7]; decide) (by rw [c_7]; decide) (by rw [c_7]; rfl) (by decide) ?_
              refine lv_aload_n hx hb xd_De_tell_83 rfl (lv_at hl 0 rfl) ?_
              refine fw_getr hx hb hts i_De hown hK hP (xm_19 (by omega)) (xk_19 r) rfl 14 (by decide) (hts _ L_De_42) (fun _ h9 => h9) rfl xd_De_tell_84 ?_
              refine lv_iconst (v := (0 : Int32)) hx hb xd_De_tell_87 (by decide) ?_
              refine fw_iald hx hb hK hP (xm_27 (by omega)) (xk_27 r) 0 rfl (j := 0) (by decide) (fw_inc (by decide)) xd_De_tell_88 ?_
              exact fw_oret hx hb hr hlocks hS hP xd_De_tell_89 (by simp only [xf_De_tell, if_neg c_1, if_neg c_2, if_neg c_3, if_neg c_4, if_neg c_6, if_pos c_7])
            · skip
              by_cases c_8 : a1 = (6 : Int32)
              · refine lv_tableIn (off := 89) (tgt := 90) hx hb xd_De_tell_1 (by rw [c_8]; decide) (by rw [c_8]; decide) (by rw [c_8]; rfl) (by decide) ?_
                refine lv_aload_n hx hb xd_De_tell_90 rfl (lv_at hl 0 rfl) ?_
                refine fw_getr hx hb hts i_De hown hK hP (xm_19 (by omega)) (xk_19 r) rfl 14 (by decide) (hts _ L_De_42) (fun _ h9 => h9) rfl xd_De_tell_91 ?_
                refine lv_iconst (v := (1 : Int32)) hx hb xd_De_tell_94 (by decide) ?_
                refine fw_iald hx hb hK hP (xm_27 (by omega)) (xk_27 r) 0 rfl (j := 1) (by decide) (fw_inc (by decide)) xd_De_tell_95 ?_
                exact fw_oret hx hb hr hlocks hS hP xd_De_tell_96 (by simp only [xf_De_tell, if_neg c_1, if_neg c_2, if_neg c_3, if_neg c_4, if_neg c_6, if_neg c_7, if_pos c_8])
              · skip
                by_cases c_9 : a1 = (7 : Int32)
                · refine lv_tableIn (off := 96) (tgt := 97) hx hb xd_De_tell_1 (by rw [c_9]; decide) (by rw [c_9]; decide) (by rw [c_9]; rfl) (by decide) ?_
                  refine lv_aload_n hx hb xd_De_tell_97 rfl (lv_at hl 0 rfl) ?_
                  refine fw_getr hx hb hts i_De hown hK hP (xm_19 (by omega)) (xk_19 r) rfl 14 (by decide) (hts _ L_De_42) (fun _ h9 => h9) rfl xd_De_tell_98 ?_
                  refine lv_iconst (v := (2 : Int32)) hx hb xd_De_tell_101 (by decide) ?_
                  refine fw_iald hx hb hK hP (xm_27 (by omega)) (xk_27 r) 0 rfl (j := 2) (by decide) (fw_inc (by decide)) xd_De_tell_102 ?_
                  exact fw_oret hx hb hr hlocks hS hP xd_De_tell_103 (by simp only [xf_De_tell, if_neg c_1, if_neg c_2, if_neg c_3, if_neg c_4, if_neg c_6, if_neg c_7, if_neg c_8, if_pos c_9])
                · skip
                  by_cases c_10 : a1 = (8 : Int32)
                  · refine lv_tableIn (off := 103) (tgt := 104) hx hb xd_De_tell_1 (by rw [c_10]; decide) (by rw [c_10]; decide) (by rw [c_10]; rfl) (by decide) ?_
                    refine lv_aload_n hx hb xd_De_tell_104 rfl (lv_at hl 0 rfl) ?_
                    refine fw_geti hx hb hts i_De hown hK hP (xm_19 (by omega)) (xk_19 r) rfl 16 (by decide) (hts _ L_De_120) (fun _ h9 => h9) rfl xd_De_tell_105 ?_
                    exact fw_oret hx hb hr hlocks hS hP xd_De_tell_108 (by simp only [xf_De_tell, if_neg c_1, if_neg c_2, if_neg c_3, if_neg c_4, if_neg c_6, if_neg c_7, if_neg c_8, if_neg c_9, if_pos c_10])
                  · skip
                    refine lv_tableOut (tgt := 109) hx hb xd_De_tell_1 (by have q0 := lv_neT c_1 (a := 0) (by decide); have q1 := lv_neT c_2 (a := 1) (by decide); have q2 := lv_neT c_3 (a := 2) (by decide); have q3 := lv_neT c_4 (a := 3) (by decide); have q4 := lv_neT c_6 (a := 4) (by decide); have q5 := lv_neT c_7 (a := 5) (by decide); have q6 := lv_neT c_8 (a := 6) (by decide); have q7 := lv_neT c_9 (a := 7) (by decide); have q8 := lv_neT c_10 (a := 8) (by decide); omega) (by decide) ?_
                    refine lv_iconst (v := (-1 : Int32)) hx hb xd_De_tell_109 (by decide) ?_
                    exact fw_oret hx hb hr hlocks hS hP xd_De_tell_110 (by simp only [xf_De_tell, if_neg c_1, if_neg c_2, if_neg c_3, if_neg c_4, if_neg c_6, if_neg c_7, if_neg c_8, if_neg c_9, if_neg c_10])
def xf_FR_device (v0 : fw_V) (a1 : Int32) (a2 : Int32) : Int32 :=
  let r1 := xf_FR_isDevice a1
  if r1 = (0 : Int32) then
    (-1 : Int32)
  else
    let r5 := xf_De_tell v0 ((a1.toNatClampNeg)) a2
    r5

set_option maxHeartbeats 4000000 in
set_option maxRecDepth 100000 in
theorem xc_FR_device (l : Launch) {D : va_G} {cA : Nat → ClassId} {ad : Nat → Nat → Nat} (hD : fw_D xCL ad) {b : Nat} (v0 : fw_V) (hI : xI b v0) (a1 : Int32) (a2 : Int32)  : Met l xy_FR_device (Cond.code xy_FR_device xb_FR_device 3 (some .int) :: vTB) xrm_FR_device (fw_Pc vNL D vcls (vtys cA) xCL cA xkd ad v0 [.ref (ad 0 0), .int a1, .int a2]) (fw_Qo D vcls xCL cA xkd ad v0 (xf_FR_device v0 a1 a2)) 0 0 (fw_A xCL ad) := by
  refine Met.ofW (cc := xb_FR_device) (maxL := 3) (ret := (some .int)) (by decide) rfl ?_
  intro p e s m args below meth c s₁ B hml hv
  obtain ⟨rfl, hP, hK, hN⟩ := hv
  have hx := B.exec
  have hb := B.bytes
  have hr := B.returns
  have hts : ∀ w ∈ vTB, w.before ([.ref (ad 0 0), .int a1, .int a2] : List Value).toArray s = true := fun w h => atoms_spec (ws := (Cond.code xy_FR_device xb_FR_device 3 (some .int) :: vTB)) B.pre w (List.mem_cons_of_mem _ h)
  have hown : s.vm.findClass R_FR = some m.cls := findClass_of_methodNamed B.named
  have hlocks := B.notSynchronized
  have hS : va_S (fw_A xCL ad) s.heap s.heap [] := va_S.rf
  skip
  have hl := lv_entry ([.ref (ad 0 0), .int a1, .int a2]) (n := 3) (Nat.le_of_ble_eq_true rfl)
  rw [lg_entry_eq]
  generalize (lg_sl ([.ref (ad 0 0), .int a1, .int a2]) ++ List.replicate (3 - (lg_sl ([.ref (ad 0 0), .int a1, .int a2])).length) Slot.unset).toArray = ls at hl ⊢
  have hl : lv_has ls 3 [(0, .ref (ad 0 0)), (1, .int a1), (2, .int a2)] := hl
  refine lv_iload_n hx hb xd_FR_device_0 rfl (lv_at hl 1 rfl) ?_
  refine fw_cb (va_runS (As := [.int a1]) (rest := []) ⟨hx, hb, hml, hown, hts⟩ (xc_FR_isDevice l hD v0 hI a1) (xw_FR_isDevice hts L_FR_64 ⟨Nat.le_of_ble_eq_true rfl, Nat.le_of_ble_eq_true rfl⟩) (fw_preS hN hK hP) rfl rfl hl.1 rfl (lv_room (Nat.le_of_ble_eq_true rfl)) xd_FR_device_1 ⟨Nat.le_of_ble_eq_true rfl, Nat.le_of_ble_eq_true rfl⟩) hS (fun r1 H locs zr1 er1 hP hS => ?_)
  refine lv_if_eq (tgt := 20) hx hb xd_FR_device_4 (by decide) (fun c_2 => ?_) (fun c_2 => ?_)
  · refine lv_iconst (v := (-1 : Int32)) hx hb xd_FR_device_20 (by decide) ?_
    exact fw_oret hx hb hr hlocks hS hP xd_FR_device_21 (by subst er1; simp only [xf_FR_device, if_pos c_2])
  · have h_3 : vp_in a1 2 := xp_FR_isDevice er1 c_2
    refine lv_aload_n hx hb xd_FR_device_7 rfl (lv_at hl 0 rfl) ?_
    refine fw_getr hx hb hts i_FR hown hK hP (xm_0 (by decide)) (xk_0 0) rfl 4 (by decide) (hts _ L_FR_38) (fun _ h9 => h9) rfl xd_FR_device_8 ?_
    refine lv_iload_n hx hb xd_FR_device_11 rfl (lv_at hl 1 rfl) ?_
    have k_4 : a1.toNatClampNeg < 2 := fw_inlt h_3
    refine fw_alds hx hb hK hP (xm_12 (by decide)) (xk_12 0) 4 rfl (j := a1.toNatClampNeg) rfl h_3 xd_FR_device_12 ?_
    refine lv_iload_n hx hb xd_FR_device_13 rfl (lv_at hl 2 rfl) ?_
    refine fw_co (va_runV (As := [.int a2]) (rest := []) ⟨hx, hb, hml, hown, hts⟩ (xc_De_tell l hD v0 hI ((a1.toNatClampNeg)) (by omega) a2) (xw_De_tell hts L_FR_172 ⟨Nat.le_of_ble_eq_true rfl, Nat.le_of_ble_eq_true rfl⟩) (fw_preV hN hK hP (xm_19 (by omega)) (xk_19 (a1.toNatClampNeg)) rfl) rfl rfl hl.1 rfl (lv_room (Nat.le_of_ble_eq_true rfl)) xd_FR_device_14 ⟨Nat.le_of_ble_eq_true rfl, Nat.le_of_ble_eq_true rfl⟩) hS (fun r5 H locs er5 hP hS => ?_)
    refine lv_goto (tgt := 21) hx hb xd_FR_device_17 (by decide) ?_
    exact fw_oret hx hb hr hlocks hS hP xd_FR_device_21 (by subst er1 er5; simp only [xf_FR_device, if_neg c_2])
def xf_FR_data (v0 : fw_V) (a1 : Int32) (a2 : Int32) (a3 : Int32) (a4 : Int32) : Int32 :=
  let r1 := xf_FR_within a1 (0 : Int32) (1 : Int32)
  if r1 = (0 : Int32) then
    (-1 : Int32)
  else
    let r4 := xf_FR_isDevice a2
    if r4 = (0 : Int32) then
      (-1 : Int32)
    else
      let r7 := xf_FR_isPlace a3 a4
      if r7 = (0 : Int32) then
        (-1 : Int32)
      else
        if a1 = (0 : Int32) then
          let r17 := xf_FR_place a3 a4
          (v0 25 (a2.toNatClampNeg) r17.toNatClampNeg)
        else
          let r14 := xf_FR_place a3 a4
          (v0 18 (a2.toNatClampNeg) r14.toNatClampNeg)

set_option maxHeartbeats 4000000 in
set_option maxRecDepth 100000 in
theorem xc_FR_data (l : Launch) {D : va_G} {cA : Nat → ClassId} {ad : Nat → Nat → Nat} (hD : fw_D xCL ad) {b : Nat} (v0 : fw_V) (hI : xI b v0) (a1 : Int32) (a2 : Int32) (a3 : Int32) (a4 : Int32)  : Met l xy_FR_data (Cond.code xy_FR_data xb_FR_data 5 (some .int) :: vTB) xrm_FR_data (fw_Pc vNL D vcls (vtys cA) xCL cA xkd ad v0 [.ref (ad 0 0), .int a1, .int a2, .int a3, .int a4]) (fw_Qo D vcls xCL cA xkd ad v0 (xf_FR_data v0 a1 a2 a3 a4)) 0 0 (fw_A xCL ad) := by
  refine Met.ofW (cc := xb_FR_data) (maxL := 5) (ret := (some .int)) (by decide) rfl ?_
  intro p e s m args below meth c s₁ B hml hv
  obtain ⟨rfl, hP, hK, hN⟩ := hv
  have hx := B.exec
  have hb := B.bytes
  have hr := B.returns
  have hts : ∀ w ∈ vTB, w.before ([.ref (ad 0 0), .int a1, .int a2, .int a3, .int a4] : List Value).toArray s = true := fun w h => atoms_spec (ws := (Cond.code xy_FR_data xb_FR_data 5 (some .int) :: vTB)) B.pre w (List.mem_cons_of_mem _ h)
  have hown : s.vm.findClass R_FR = some m.cls := findClass_of_methodNamed B.named
  have hlocks := B.notSynchronized
  have hS : va_S (fw_A xCL ad) s.heap s.heap [] := va_S.rf
  skip
  have hl := lv_entry ([.ref (ad 0 0), .int a1, .int a2, .int a3, .int a4]) (n := 5) (Nat.le_of_ble_eq_true rfl)
  rw [lg_entry_eq]
  generalize (lg_sl ([.ref (ad 0 0), .int a1, .int a2, .int a3, .int a4]) ++ List.replicate (5 - (lg_sl ([.ref (ad 0 0), .int a1, .int a2, .int a3, .int a4])).length) Slot.unset).toArray = ls at hl ⊢
  have hl : lv_has ls 5 [(0, .ref (ad 0 0)), (1, .int a1), (2, .int a2), (3, .int a3), (4, .int a4)] := hl
  refine lv_iload_n hx hb xd_FR_data_0 rfl (lv_at hl 1 rfl) ?_
  refine lv_iconst (v := (0 : Int32)) hx hb xd_FR_data_1 (by decide) ?_
  refine lv_iconst (v := (1 : Int32)) hx hb xd_FR_data_2 (by decide) ?_
  refine fw_cb (va_runS (As := [.int a1, .int (0 : Int32), .int (1 : Int32)]) (rest := []) ⟨hx, hb, hml, hown, hts⟩ (xc_FR_within l hD v0 hI a1 (0 : Int32) (1 : Int32)) (xw_FR_within hts L_FR_52 ⟨Nat.le_of_ble_eq_true rfl, Nat.le_of_ble_eq_true rfl⟩) (fw_preS hN hK hP) rfl rfl hl.1 rfl (lv_room (Nat.le_of_ble_eq_true rfl)) xd_FR_data_3 ⟨Nat.le_of_ble_eq_true rfl, Nat.le_of_ble_eq_true rfl⟩) hS (fun r1 H locs zr1 er1 hP hS => ?_)
  refine lv_if_eq (tgt := 25) hx hb xd_FR_data_6 (by decide) (fun c_2 => ?_) (fun c_2 => ?_)
  · refine lv_iconst (v := (-1 : Int32)) hx hb xd_FR_data_25 (by decide) ?_
    exact fw_oret hx hb hr hlocks hS hP xd_FR_data_26 (by subst er1; simp only [xf_FR_data, if_pos c_2])
  · have h_3 : vp_in a1 2 := xp_within er1 c_2 (by decide)
    refine lv_iload_n hx hb xd_FR_data_9 rfl (lv_at hl 2 rfl) ?_
    refine fw_cb (va_runS (As := [.int a2]) (rest := []) ⟨hx, hb, hml, hown, hts⟩ (xc_FR_isDevice l hD v0 hI a2) (xw_FR_isDevice hts L_FR_64 ⟨Nat.le_of_ble_eq_true rfl, Nat.le_of_ble_eq_true rfl⟩) (fw_preS hN hK hP) rfl rfl hl.1 rfl (lv_room (Nat.le_of_ble_eq_true rfl)) xd_FR_data_10 ⟨Nat.le_of_ble_eq_true rfl, Nat.le_of_ble_eq_true rfl⟩) hS (fun r4 H locs zr4 er4 hP hS => ?_)
    refine lv_if_eq (tgt := 25) hx hb xd_FR_data_13 (by decide) (fun c_5 => ?_) (fun c_5 => ?_)
    · refine lv_iconst (v := (-1 : Int32)) hx hb xd_FR_data_25 (by decide) ?_
      exact fw_oret hx hb hr hlocks hS hP xd_FR_data_26 (by subst er1 er4; simp only [xf_FR_data, if_neg c_2, if_pos c_5])
    · have h_6 : vp_in a2 2 := xp_FR_isDevice er4 c_5
      refine lv_iload_n hx hb xd_FR_data_16 rfl (lv_at hl 3 rfl) ?_
      refine lv_iload hx hb xd_FR_data_17 (lv_at hl 4 rfl) ?_
      refine fw_cb (va_runS (As := [.int a3, .int a4]) (rest := []) ⟨hx, hb, hml, hown, hts⟩ (xc_FR_isPlace l hD v0 hI a3 a4) (xw_FR_isPlace hts L_FR_87 ⟨Nat.le_of_ble_eq_true rfl, Nat.le_of_ble_eq_true rfl⟩) (fw_preS hN hK hP) rfl rfl hl.1 rfl (lv_room (Nat.le_of_ble_eq_true rfl)) xd_FR_data_19 ⟨Nat.le_of_ble_eq_true rfl, Nat.le_of_ble_eq_true rfl⟩) hS (fun r7 H locs zr7 er7 hP hS => ?_)
      refine lv_if_ne (tgt := 27) hx hb xd_FR_data_22 (by decide) (fun c_8 => ?_) (fun c_8 => ?_)
      · have h_9 : vp_in a3 3 := xp_FR_isPlace0 er7 c_8
        have h_10 : vp_in a4 2 := xp_FR_isPlace1 er7 c_8
        refine lv_iload_n hx hb xd_FR_data_27 rfl (lv_at hl 1 rfl) ?_
        refine lv_if_ne (tgt := 50) hx hb xd_FR_data_28 (by decide) (fun c_11 => ?_) (fun c_11 => ?_)
        · have h_12 : 0 < a1.toInt := fw_pos h_3 c_11
          refine lv_aload_n hx hb xd_FR_data_50 rfl (lv_at hl 0 rfl) ?_
          refine fw_getr hx hb hts i_FR hown hK hP (xm_0 (by decide)) (xk_0 0) rfl 3 (by decide) (hts _ L_FR_32) (fun _ h9 => h9) rfl xd_FR_data_51 ?_
          refine lv_iload_n hx hb xd_FR_data_54 rfl (lv_at hl 2 rfl) ?_
          have k_13 : a2.toNatClampNeg < 2 := fw_inlt h_6
          refine fw_alds hx hb hK hP (xm_11 (by decide)) (xk_11 0) 3 rfl (j := a2.toNatClampNeg) rfl h_6 xd_FR_data_55 ?_
          refine fw_getr hx hb hts i_Re hown hK hP (xm_13 (by omega)) (xk_13 (a2.toNatClampNeg)) rfl 9 (by decide) (hts _ L_FR_176) (fun _ h9 => h9) rfl xd_FR_data_56 ?_
          refine lv_iload_n hx hb xd_FR_data_59 rfl (lv_at hl 3 rfl) ?_
          refine lv_iload hx hb xd_FR_data_60 (lv_at hl 4 rfl) ?_
          refine fw_co (va_runS (As := [.int a3, .int a4]) (rest := [.ref (ad 18 (a2.toNatClampNeg))]) ⟨hx, hb, hml, hown, hts⟩ (xc_FR_place l hD v0 hI a3 a4) (xw_FR_place hts L_FR_95 ⟨Nat.le_of_ble_eq_true rfl, Nat.le_of_ble_eq_true rfl⟩) (fw_preS hN hK hP) rfl rfl hl.1 rfl (lv_room (Nat.le_of_ble_eq_true rfl)) xd_FR_data_62 ⟨Nat.le_of_ble_eq_true rfl, Nat.le_of_ble_eq_true rfl⟩) hS (fun r14 H locs er14 hP hS => ?_)
          have h_15 : vp_in r14 6 := xp_place er14 h_9 h_10
          refine fw_iald hx hb hK hP (xm_18 (by omega)) (xk_18 (a2.toNatClampNeg)) 0 rfl (j := r14.toNatClampNeg) rfl h_15 xd_FR_data_65 ?_
          exact fw_oret hx hb hr hlocks hS hP xd_FR_data_66 (by subst er1 er4 er7 er14; simp only [xf_FR_data, if_neg c_2, if_neg c_5, if_neg c_8, if_neg c_11])
        · refine lv_aload_n hx hb xd_FR_data_31 rfl (lv_at hl 0 rfl) ?_
          refine fw_getr hx hb hts i_FR hown hK hP (xm_0 (by decide)) (xk_0 0) rfl 4 (by decide) (hts _ L_FR_38) (fun _ h9 => h9) rfl xd_FR_data_32 ?_
          refine lv_iload_n hx hb xd_FR_data_35 rfl (lv_at hl 2 rfl) ?_
          have k_16 : a2.toNatClampNeg < 2 := fw_inlt h_6
          refine fw_alds hx hb hK hP (xm_12 (by decide)) (xk_12 0) 4 rfl (j := a2.toNatClampNeg) rfl h_6 xd_FR_data_36 ?_
          refine fw_getr hx hb hts i_De hown hK hP (xm_19 (by omega)) (xk_19 (a2.toNatClampNeg)) rfl 10 (by decide) (hts _ L_FR_173) (fun _ h9 => h9) rfl xd_FR_data_37 ?_
          refine lv_iload_n hx hb xd_FR_data_40 rfl (lv_at hl 3 rfl) ?_
          refine lv_iload hx hb xd_FR_data_41 (lv_at hl 4 rfl) ?_
          refine fw_co (va_runS (As := [.int a3, .int a4]) (rest := [.ref (ad 25 (a2.toNatClampNeg))]) ⟨hx, hb, hml, hown, hts⟩ (xc_FR_place l hD v0 hI a3 a4) (xw_FR_place hts L_FR_95 ⟨Nat.le_of_ble_eq_true rfl, Nat.le_of_ble_eq_true rfl⟩) (fw_preS hN hK hP) rfl rfl hl.1 rfl (lv_room (Nat.le_of_ble_eq_true rfl)) xd_FR_data_43 ⟨Nat.le_of_ble_eq_true rfl, Nat.le_of_ble_eq_true rfl⟩) hS (fun r17 H locs er17 hP hS => ?_)
          have h_18 : vp_in r17 6 := xp_place er17 h_9 h_10
          refine fw_iald hx hb hK hP (xm_25 (by omega)) (xk_25 (a2.toNatClampNeg)) 0 rfl (j := r17.toNatClampNeg) rfl h_18 xd_FR_data_46 ?_
          refine lv_goto (tgt := 66) hx hb xd_FR_data_47 (by decide) ?_
          exact fw_oret hx hb hr hlocks hS hP xd_FR_data_66 (by subst er1 er4 er7 er17; simp only [xf_FR_data, if_neg c_2, if_neg c_5, if_neg c_8, if_pos c_11])
      · refine lv_iconst (v := (-1 : Int32)) hx hb xd_FR_data_25 (by decide) ?_
        exact fw_oret hx hb hr hlocks hS hP xd_FR_data_26 (by subst er1 er4 er7; simp only [xf_FR_data, if_neg c_2, if_neg c_5, if_pos c_8])
def xf_AL_latest (v0 : fw_V) (a1 : Int32) : Int32 :=
  let r2 := xf_FR_within a1 (0 : Int32) ((if (8 : Int32) < (v0 9 0 1) then (8 : Int32) else (v0 9 0 1)) - (1 : Int32))
  if r2 = (0 : Int32) then
    (-2 : Int32)
  else
    (v0 10 0 ((((v0 9 0 1) - (1 : Int32)) - a1) - (((v0 9 0 1) - (1 : Int32)) - a1) / (8 : Int32) * (8 : Int32)).toNatClampNeg)

set_option maxHeartbeats 4000000 in
set_option maxRecDepth 100000 in
theorem xc_AL_latest (l : Launch) {D : va_G} {cA : Nat → ClassId} {ad : Nat → Nat → Nat} (hD : fw_D xCL ad) {b : Nat} (v0 : fw_V) (hI : xI b v0) (a1 : Int32)  : Met l xy_AL_latest (Cond.code xy_AL_latest xb_AL_latest 2 (some .int) :: vTB) xrm_AL_latest (fw_Pc vNL D vcls (vtys cA) xCL cA xkd ad v0 [.ref (ad 9 0), .int a1]) (fw_Qo D vcls xCL cA xkd ad v0 (xf_AL_latest v0 a1)) 0 0 (fw_A xCL ad) := by
  refine Met.ofW (cc := xb_AL_latest) (maxL := 2) (ret := (some .int)) (by decide) rfl ?_
  intro p e s m args below meth c s₁ B hml hv
  obtain ⟨rfl, hP, hK, hN⟩ := hv
  have hx := B.exec
  have hb := B.bytes
  have hr := B.returns
  have hts : ∀ w ∈ vTB, w.before ([.ref (ad 9 0), .int a1] : List Value).toArray s = true := fun w h => atoms_spec (ws := (Cond.code xy_AL_latest xb_AL_latest 2 (some .int) :: vTB)) B.pre w (List.mem_cons_of_mem _ h)
  have hown : s.vm.findClass R_AL = some m.cls := findClass_of_methodNamed B.named
  have hlocks := B.notSynchronized
  have hS : va_S (fw_A xCL ad) s.heap s.heap [] := va_S.rf
  skip
  have hl := lv_entry ([.ref (ad 9 0), .int a1]) (n := 2) (Nat.le_of_ble_eq_true rfl)
  rw [lg_entry_eq]
  generalize (lg_sl ([.ref (ad 9 0), .int a1]) ++ List.replicate (2 - (lg_sl ([.ref (ad 9 0), .int a1])).length) Slot.unset).toArray = ls at hl ⊢
  have hl : lv_has ls 2 [(0, .ref (ad 9 0)), (1, .int a1)] := hl
  refine lv_iload_n hx hb xd_AL_latest_0 rfl (lv_at hl 1 rfl) ?_
  refine lv_iconst (v := (0 : Int32)) hx hb xd_AL_latest_1 (by decide) ?_
  refine lv_aload_n hx hb xd_AL_latest_2 rfl (lv_at hl 0 rfl) ?_
  refine fw_geti hx hb hts i_AL hown hK hP (xm_9 (by decide)) (xk_9 0) rfl 1 (by decide) (hts _ L_AL_15) (fun _ h9 => h9) rfl xd_AL_latest_3 ?_
  have h_1 : 0 ≤ (v0 9 0 1).toInt ∧ (v0 9 0 1).toInt ≤ b := hI.1 9 0 1
  refine lv_bipush (v := (8 : Int32)) hx hb xd_AL_latest_6 (by decide) ?_
  refine va_mmin hx hb (hml.trans hl.1.symm) hown (hts _ L_AL_19) (hts _ L_minS) (hts _ L_minI) (hts _ L_minC) (Nat.le_of_ble_eq_true rfl) (Nat.le_of_ble_eq_true rfl) (Nat.zero_le _) (Nat.zero_le _) xd_AL_latest_8 ?_
  refine lv_iconst (v := (1 : Int32)) hx hb xd_AL_latest_11 (by decide) ?_
  refine lv_isub hx hb xd_AL_latest_12 ?_
  refine fw_cb (va_runSN (As := [.int a1, .int (0 : Int32), .int ((if (8 : Int32) < (v0 9 0 1) then (8 : Int32) else (v0 9 0 1)) - (1 : Int32))]) (rest := []) ⟨hx, hb, hml, hown, hts⟩ (xc_FR_within l hD v0 hI a1 (0 : Int32) ((if (8 : Int32) < (v0 9 0 1) then (8 : Int32) else (v0 9 0 1)) - (1 : Int32))) (xwn_FR_within hts (hN.2 _ L_AL_25) ⟨Nat.le_of_ble_eq_true rfl, Nat.le_of_ble_eq_true rfl⟩) (fw_preS hN hK hP) rfl rfl hl.1 rfl (lv_room (Nat.le_of_ble_eq_true rfl)) xd_AL_latest_13 ⟨Nat.le_of_ble_eq_true rfl, Nat.le_of_ble_eq_true rfl⟩) hS (fun r2 H locs zr2 er2 hP hS => ?_)
  refine lv_if_ne (tgt := 22) hx hb xd_AL_latest_16 (by decide) (fun c_3 => ?_) (fun c_3 => ?_)
  · refine lv_aload_n hx hb xd_AL_latest_22 rfl (lv_at hl 0 rfl) ?_
    refine fw_getr hx hb hts i_AL hown hK hP (xm_9 (by decide)) (xk_9 0) rfl 0 (by decide) (hts _ L_AL_11) (fun _ h9 => h9) rfl xd_AL_latest_23 ?_
    refine lv_aload_n hx hb xd_AL_latest_26 rfl (lv_at hl 0 rfl) ?_
    refine fw_geti hx hb hts i_AL hown hK hP (xm_9 (by decide)) (xk_9 0) rfl 1 (by decide) (hts _ L_AL_15) (fun _ h9 => h9) rfl xd_AL_latest_27 ?_
    have h_4 : 0 ≤ (v0 9 0 1).toInt ∧ (v0 9 0 1).toInt ≤ b := hI.1 9 0 1
    refine lv_iconst (v := (1 : Int32)) hx hb xd_AL_latest_30 (by decide) ?_
    refine lv_isub hx hb xd_AL_latest_31 ?_
    refine lv_iload_n hx hb xd_AL_latest_32 rfl (lv_at hl 1 rfl) ?_
    refine lv_isub hx hb xd_AL_latest_33 ?_
    refine lv_bipush (v := (8 : Int32)) hx hb xd_AL_latest_34 (by decide) ?_
    refine lv_irem hx hb xd_AL_latest_36 (by decide) ?_
    refine fw_iald hx hb hK hP (xm_10 (by decide)) (xk_10 0) 0 rfl (j := ((((v0 9 0 1) - (1 : Int32)) - a1) - (((v0 9 0 1) - (1 : Int32)) - a1) / (8 : Int32) * (8 : Int32)).toNatClampNeg) rfl (xp_latest er2 c_3 h_4.1) xd_AL_latest_37 ?_
    exact fw_oret hx hb hr hlocks hS hP xd_AL_latest_38 (by subst er2; simp only [xf_AL_latest, if_neg c_3])
  · refine lv_bipush (v := (-2 : Int32)) hx hb xd_AL_latest_19 (by decide) ?_
    exact fw_oret hx hb hr hlocks hS hP xd_AL_latest_21 (by subst er2; simp only [xf_AL_latest, if_pos c_3])
def xf_FR_alarms (v0 : fw_V) (a1 : Int32) : Int32 :=
  let r1 := xf_AL_latest v0 a1
  r1

set_option maxHeartbeats 4000000 in
set_option maxRecDepth 100000 in
theorem xc_FR_alarms (l : Launch) {D : va_G} {cA : Nat → ClassId} {ad : Nat → Nat → Nat} (hD : fw_D xCL ad) {b : Nat} (v0 : fw_V) (hI : xI b v0) (a1 : Int32)  : Met l xy_FR_alarms (Cond.code xy_FR_alarms xb_FR_alarms 2 (some .int) :: vTB) xrm_FR_alarms (fw_Pc vNL D vcls (vtys cA) xCL cA xkd ad v0 [.ref (ad 0 0), .int a1]) (fw_Qo D vcls xCL cA xkd ad v0 (xf_FR_alarms v0 a1)) 0 0 (fw_A xCL ad) := by
  refine Met.ofW (cc := xb_FR_alarms) (maxL := 2) (ret := (some .int)) (by decide) rfl ?_
  intro p e s m args below meth c s₁ B hml hv
  obtain ⟨rfl, hP, hK, hN⟩ := hv
  have hx := B.exec
  have hb := B.bytes
  have hr := B.returns
  have hts : ∀ w ∈ vTB, w.before ([.ref (ad 0 0), .int a1] : List Value).toArray s = true := fun w h => atoms_spec (ws := (Cond.code xy_FR_alarms xb_FR_alarms 2 (some .int) :: vTB)) B.pre w (List.mem_cons_of_mem _ h)
  have hown : s.vm.findClass R_FR = some m.cls := findClass_of_methodNamed B.named
  have hlocks := B.notSynchronized
  have hS : va_S (fw_A xCL ad) s.heap s.heap [] := va_S.rf
  skip
  have hl := lv_entry ([.ref (ad 0 0), .int a1]) (n := 2) (Nat.le_of_ble_eq_true rfl)
  rw [lg_entry_eq]
  generalize (lg_sl ([.ref (ad 0 0), .int a1]) ++ List.replicate (2 - (lg_sl ([.ref (ad 0 0), .int a1])).length) Slot.unset).toArray = ls at hl ⊢
  have hl : lv_has ls 2 [(0, .ref (ad 0 0)), (1, .int a1)] := hl
  refine lv_aload_n hx hb xd_FR_alarms_0 rfl (lv_at hl 0 rfl) ?_
  refine fw_getr hx hb hts i_FR hown hK hP (xm_0 (by decide)) (xk_0 0) rfl 2 (by decide) (hts _ L_FR_26) (fun _ h9 => h9) rfl xd_FR_alarms_1 ?_
  refine lv_iload_n hx hb xd_FR_alarms_4 rfl (lv_at hl 1 rfl) ?_
  refine fw_co (va_runV (As := [.int a1]) (rest := []) ⟨hx, hb, hml, hown, hts⟩ (xc_AL_latest l hD v0 hI a1) (xw_AL_latest hts L_FR_179 ⟨Nat.le_of_ble_eq_true rfl, Nat.le_of_ble_eq_true rfl⟩) (fw_preV hN hK hP (xm_9 (by decide)) (xk_9 0) rfl) rfl rfl hl.1 rfl (lv_room (Nat.le_of_ble_eq_true rfl)) xd_FR_alarms_5 ⟨Nat.le_of_ble_eq_true rfl, Nat.le_of_ble_eq_true rfl⟩) hS (fun r1 H locs er1 hP hS => ?_)
  exact fw_oret hx hb hr hlocks hS hP xd_FR_alarms_8 (by subst er1; simp only [xf_FR_alarms])
def xf_FR_watchEnds (v0 : fw_V) : Int32 :=
  (((0 : Int32) + ((v0 13 0 19) + (v0 19 0 18))) + ((v0 13 1 19) + (v0 19 1 18)))

set_option maxHeartbeats 4000000 in
set_option maxRecDepth 100000 in
theorem xc_FR_watchEnds (l : Launch) {D : va_G} {cA : Nat → ClassId} {ad : Nat → Nat → Nat} (hD : fw_D xCL ad) {b : Nat} (v0 : fw_V) (hI : xI b v0)   : Met l xy_FR_watchEnds (Cond.code xy_FR_watchEnds xb_FR_watchEnds 3 (some .int) :: vTB) xrm_FR_watchEnds (fw_Pc vNL D vcls (vtys cA) xCL cA xkd ad v0 [.ref (ad 0 0)]) (fw_Qo D vcls xCL cA xkd ad v0 (xf_FR_watchEnds v0)) 0 0 (fw_A xCL ad) := by
  refine Met.ofW (cc := xb_FR_watchEnds) (maxL := 3) (ret := (some .int)) (by decide) rfl ?_
  intro p e s m args below meth c s₁ B hml hv
  obtain ⟨rfl, hP, hK, hN⟩ := hv
  have hx := B.exec
  have hb := B.bytes
  have hr := B.returns
  have hts : ∀ w ∈ vTB, w.before ([.ref (ad 0 0)] : List Value).toArray s = true := fun w h => atoms_spec (ws := (Cond.code xy_FR_watchEnds xb_FR_watchEnds 3 (some .int) :: vTB)) B.pre w (List.mem_cons_of_mem _ h)
  have hown : s.vm.findClass R_FR = some m.cls := findClass_of_methodNamed B.named
  have hlocks := B.notSynchronized
  have hS : va_S (fw_A xCL ad) s.heap s.heap [] := va_S.rf
  skip
  have hl := lv_entry ([.ref (ad 0 0)]) (n := 3) (Nat.le_of_ble_eq_true rfl)
  rw [lg_entry_eq]
  generalize (lg_sl ([.ref (ad 0 0)]) ++ List.replicate (3 - (lg_sl ([.ref (ad 0 0)])).length) Slot.unset).toArray = ls at hl ⊢
  have hl : lv_has ls 3 [(0, .ref (ad 0 0))] := hl
  refine lv_iconst (v := (0 : Int32)) hx hb xd_FR_watchEnds_0 (by decide) ?_
  refine lv_istore_n (lv' := [(1, .int (0 : Int32)), (0, .ref (ad 0 0))]) hx hb xd_FR_watchEnds_1 rfl hl (by decide) rfl (fun ls hl => ?_)
  refine lv_iconst (v := (0 : Int32)) hx hb xd_FR_watchEnds_2 (by decide) ?_
  refine lv_istore_n (lv' := [(2, .int (0 : Int32)), (1, .int (0 : Int32)), (0, .ref (ad 0 0))]) hx hb xd_FR_watchEnds_3 rfl hl (by decide) rfl (fun ls hl => ?_)
  refine lv_iload_n hx hb xd_FR_watchEnds_4 rfl (lv_at hl 0 rfl) ?_
  refine lv_iconst (v := (2 : Int32)) hx hb xd_FR_watchEnds_5 (by decide) ?_
  refine lv_icmp_ge (tgt := 37) hx hb xd_FR_watchEnds_6 (by decide) (fun c_1 => absurd c_1 (by decide)) (fun _ => ?_)
  refine lv_iload_n hx hb xd_FR_watchEnds_9 rfl (lv_at hl 1 rfl) ?_
  refine lv_aload_n hx hb xd_FR_watchEnds_10 rfl (lv_at hl 2 rfl) ?_
  refine fw_getr hx hb hts i_FR hown hK hP (xm_0 (by decide)) (xk_0 0) rfl 3 (by decide) (hts _ L_FR_32) (fun _ h9 => h9) rfl xd_FR_watchEnds_11 ?_
  refine lv_iload_n hx hb xd_FR_watchEnds_14 rfl (lv_at hl 0 rfl) ?_
  refine fw_alds hx hb hK hP (xm_11 (by decide)) (xk_11 0) 3 rfl (j := 0) (by decide) (fw_inc (by decide)) xd_FR_watchEnds_15 ?_
  refine fw_geti hx hb hts i_Re hown hK hP (xm_13 (by decide)) (xk_13 0) rfl 19 (by decide) (hts _ L_FR_197) (fun _ h9 => h9) rfl xd_FR_watchEnds_16 ?_
  refine lv_aload_n hx hb xd_FR_watchEnds_19 rfl (lv_at hl 2 rfl) ?_
  refine fw_getr hx hb hts i_FR hown hK hP (xm_0 (by decide)) (xk_0 0) rfl 4 (by decide) (hts _ L_FR_38) (fun _ h9 => h9) rfl xd_FR_watchEnds_20 ?_
  refine lv_iload_n hx hb xd_FR_watchEnds_23 rfl (lv_at hl 0 rfl) ?_
  refine fw_alds hx hb hK hP (xm_12 (by decide)) (xk_12 0) 4 rfl (j := 0) (by decide) (fw_inc (by decide)) xd_FR_watchEnds_24 ?_
  refine fw_geti hx hb hts i_De hown hK hP (xm_19 (by decide)) (xk_19 0) rfl 18 (by decide) (hts _ L_FR_199) (fun _ h9 => h9) rfl xd_FR_watchEnds_25 ?_
  refine lv_iadd hx hb xd_FR_watchEnds_28 ?_
  refine lv_iadd hx hb xd_FR_watchEnds_29 ?_
  refine lv_istore_n (lv' := [(1, .int ((0 : Int32) + ((v0 13 0 19) + (v0 19 0 18)))), (2, .int (0 : Int32)), (0, .ref (ad 0 0))]) hx hb xd_FR_watchEnds_30 rfl hl (by decide) rfl (fun ls hl => ?_)
  refine lv_iinc (v := (1 : Int32)) (lv' := [(2, .int (1 : Int32)), (1, .int ((0 : Int32) + ((v0 13 0 19) + (v0 19 0 18)))), (0, .ref (ad 0 0))]) hx hb xd_FR_watchEnds_31 hl (k := 1) rfl (by decide) (by decide) rfl (fun ls hl => ?_)
  refine lv_goto (tgt := 4) hx hb xd_FR_watchEnds_34 (by decide) ?_
  refine lv_iload_n hx hb xd_FR_watchEnds_4 rfl (lv_at hl 0 rfl) ?_
  refine lv_iconst (v := (2 : Int32)) hx hb xd_FR_watchEnds_5 (by decide) ?_
  refine lv_icmp_ge (tgt := 37) hx hb xd_FR_watchEnds_6 (by decide) (fun c_2 => absurd c_2 (by decide)) (fun _ => ?_)
  refine lv_iload_n hx hb xd_FR_watchEnds_9 rfl (lv_at hl 1 rfl) ?_
  refine lv_aload_n hx hb xd_FR_watchEnds_10 rfl (lv_at hl 2 rfl) ?_
  refine fw_getr hx hb hts i_FR hown hK hP (xm_0 (by decide)) (xk_0 0) rfl 3 (by decide) (hts _ L_FR_32) (fun _ h9 => h9) rfl xd_FR_watchEnds_11 ?_
  refine lv_iload_n hx hb xd_FR_watchEnds_14 rfl (lv_at hl 0 rfl) ?_
  refine fw_alds hx hb hK hP (xm_11 (by decide)) (xk_11 0) 3 rfl (j := 1) (by decide) (fw_inc (by decide)) xd_FR_watchEnds_15 ?_
  refine fw_geti hx hb hts i_Re hown hK hP (xm_13 (by decide)) (xk_13 1) rfl 19 (by decide) (hts _ L_FR_197) (fun _ h9 => h9) rfl xd_FR_watchEnds_16 ?_
  refine lv_aload_n hx hb xd_FR_watchEnds_19 rfl (lv_at hl 2 rfl) ?_
  refine fw_getr hx hb hts i_FR hown hK hP (xm_0 (by decide)) (xk_0 0) rfl 4 (by decide) (hts _ L_FR_38) (fun _ h9 => h9) rfl xd_FR_watchEnds_20 ?_
  refine lv_iload_n hx hb xd_FR_watchEnds_23 rfl (lv_at hl 0 rfl) ?_
  refine fw_alds hx hb hK hP (xm_12 (by decide)) (xk_12 0) 4 rfl (j := 1) (by decide) (fw_inc (by decide)) xd_FR_watchEnds_24 ?_
  refine fw_geti hx hb hts i_De hown hK hP (xm_19 (by decide)) (xk_19 1) rfl 18 (by decide) (hts _ L_FR_199) (fun _ h9 => h9) rfl xd_FR_watchEnds_25 ?_
  refine lv_iadd hx hb xd_FR_watchEnds_28 ?_
  refine lv_iadd hx hb xd_FR_watchEnds_29 ?_
  refine lv_istore_n (lv' := [(1, .int (((0 : Int32) + ((v0 13 0 19) + (v0 19 0 18))) + ((v0 13 1 19) + (v0 19 1 18)))), (2, .int (1 : Int32)), (0, .ref (ad 0 0))]) hx hb xd_FR_watchEnds_30 rfl hl (by decide) rfl (fun ls hl => ?_)
  refine lv_iinc (v := (2 : Int32)) (lv' := [(2, .int (2 : Int32)), (1, .int (((0 : Int32) + ((v0 13 0 19) + (v0 19 0 18))) + ((v0 13 1 19) + (v0 19 1 18)))), (0, .ref (ad 0 0))]) hx hb xd_FR_watchEnds_31 hl (k := 1) rfl (by decide) (by decide) rfl (fun ls hl => ?_)
  refine lv_goto (tgt := 4) hx hb xd_FR_watchEnds_34 (by decide) ?_
  refine lv_iload_n hx hb xd_FR_watchEnds_4 rfl (lv_at hl 0 rfl) ?_
  refine lv_iconst (v := (2 : Int32)) hx hb xd_FR_watchEnds_5 (by decide) ?_
  refine lv_icmp_ge (tgt := 37) hx hb xd_FR_watchEnds_6 (by decide) (fun _ => ?_) (fun c_3 => absurd (by decide) c_3)
  refine lv_iload_n hx hb xd_FR_watchEnds_37 rfl (lv_at hl 1 rfl) ?_
  exact fw_oret hx hb hr hlocks hS hP xd_FR_watchEnds_38 (by simp only [xf_FR_watchEnds])
def xf_FR_count (v0 : fw_V) (a1 : Int32) : Int32 :=
  if a1 = (0 : Int32) then
    (v0 0 0 6)
  else
    if a1 = (1 : Int32) then
      (v0 5 0 3)
    else
      if a1 = (2 : Int32) then
        (v0 5 0 4)
      else
        if a1 = (3 : Int32) then
          (v0 5 0 2)
        else
          if a1 = (4 : Int32) then
            (v0 0 0 7)
          else
            if a1 = (5 : Int32) then
              (v0 0 0 8)
            else
              if a1 = (6 : Int32) then
                (v0 9 0 1)
              else
                if a1 = (7 : Int32) then
                  let r11 := xf_FR_watchEnds v0
                  r11
                else
                  (-1 : Int32)

set_option maxHeartbeats 4000000 in
set_option maxRecDepth 100000 in
theorem xc_FR_count (l : Launch) {D : va_G} {cA : Nat → ClassId} {ad : Nat → Nat → Nat} (hD : fw_D xCL ad) {b : Nat} (v0 : fw_V) (hI : xI b v0) (a1 : Int32)  : Met l xy_FR_count (Cond.code xy_FR_count xb_FR_count 2 (some .int) :: vTB) xrm_FR_count (fw_Pc vNL D vcls (vtys cA) xCL cA xkd ad v0 [.ref (ad 0 0), .int a1]) (fw_Qo D vcls xCL cA xkd ad v0 (xf_FR_count v0 a1)) 0 0 (fw_A xCL ad) := by
  refine Met.ofW (cc := xb_FR_count) (maxL := 2) (ret := (some .int)) (by decide) rfl ?_
  intro p e s m args below meth c s₁ B hml hv
  obtain ⟨rfl, hP, hK, hN⟩ := hv
  have hx := B.exec
  have hb := B.bytes
  have hr := B.returns
  have hts : ∀ w ∈ vTB, w.before ([.ref (ad 0 0), .int a1] : List Value).toArray s = true := fun w h => atoms_spec (ws := (Cond.code xy_FR_count xb_FR_count 2 (some .int) :: vTB)) B.pre w (List.mem_cons_of_mem _ h)
  have hown : s.vm.findClass R_FR = some m.cls := findClass_of_methodNamed B.named
  have hlocks := B.notSynchronized
  have hS : va_S (fw_A xCL ad) s.heap s.heap [] := va_S.rf
  skip
  have hl := lv_entry ([.ref (ad 0 0), .int a1]) (n := 2) (Nat.le_of_ble_eq_true rfl)
  rw [lg_entry_eq]
  generalize (lg_sl ([.ref (ad 0 0), .int a1]) ++ List.replicate (2 - (lg_sl ([.ref (ad 0 0), .int a1])).length) Slot.unset).toArray = ls at hl ⊢
  have hl : lv_has ls 2 [(0, .ref (ad 0 0)), (1, .int a1)] := hl
  refine lv_iload_n hx hb xd_FR_count_0 rfl (lv_at hl 1 rfl) ?_
  by_cases c_1 : a1 = (0 : Int32)
  · refine lv_tableIn (off := 47) (tgt := 48) hx hb xd_FR_count_1 (by rw [c_1]; decide) (by rw [c_1]; decide) (by rw [c_1]; rfl) (by decide) ?_
    refine lv_aload_n hx hb xd_FR_count_48 rfl (lv_at hl 0 rfl) ?_
    refine fw_geti hx hb hts i_FR hown hK hP (xm_0 (by decide)) (xk_0 0) rfl 6 (by decide) (hts _ L_FR_156) (fun _ h9 => h9) rfl xd_FR_count_49 ?_
    exact fw_oret hx hb hr hlocks hS hP xd_FR_count_52 (by simp only [xf_FR_count, if_pos c_1])
  · skip
    by_cases c_2 : a1 = (1 : Int32)
    · refine lv_tableIn (off := 52) (tgt := 53) hx hb xd_FR_count_1 (by rw [c_2]; decide) (by rw [c_2]; decide) (by rw [c_2]; rfl) (by decide) ?_
      refine lv_aload_n hx hb xd_FR_count_53 rfl (lv_at hl 0 rfl) ?_
      refine fw_getr hx hb hts i_FR hown hK hP (xm_0 (by decide)) (xk_0 0) rfl 1 (by decide) (hts _ L_FR_19) (fun _ h9 => h9) rfl xd_FR_count_54 ?_
      refine fw_geti hx hb hts i_Wi hown hK hP (xm_5 (by decide)) (xk_5 0) rfl 3 (by decide) (hts _ L_FR_182) (fun _ h9 => h9) rfl xd_FR_count_57 ?_
      exact fw_oret hx hb hr hlocks hS hP xd_FR_count_60 (by simp only [xf_FR_count, if_neg c_1, if_pos c_2])
    · skip
      by_cases c_3 : a1 = (2 : Int32)
      · refine lv_tableIn (off := 60) (tgt := 61) hx hb xd_FR_count_1 (by rw [c_3]; decide) (by rw [c_3]; decide) (by rw [c_3]; rfl) (by decide) ?_
        refine lv_aload_n hx hb xd_FR_count_61 rfl (lv_at hl 0 rfl) ?_
        refine fw_getr hx hb hts i_FR hown hK hP (xm_0 (by decide)) (xk_0 0) rfl 1 (by decide) (hts _ L_FR_19) (fun _ h9 => h9) rfl xd_FR_count_62 ?_
        refine fw_geti hx hb hts i_Wi hown hK hP (xm_5 (by decide)) (xk_5 0) rfl 4 (by decide) (hts _ L_FR_185) (fun _ h9 => h9) rfl xd_FR_count_65 ?_
        exact fw_oret hx hb hr hlocks hS hP xd_FR_count_68 (by simp only [xf_FR_count, if_neg c_1, if_neg c_2, if_pos c_3])
      · skip
        by_cases c_4 : a1 = (3 : Int32)
        · refine lv_tableIn (off := 68) (tgt := 69) hx hb xd_FR_count_1 (by rw [c_4]; decide) (by rw [c_4]; decide) (by rw [c_4]; rfl) (by decide) ?_
          refine lv_aload_n hx hb xd_FR_count_69 rfl (lv_at hl 0 rfl) ?_
          refine fw_getr hx hb hts i_FR hown hK hP (xm_0 (by decide)) (xk_0 0) rfl 1 (by decide) (hts _ L_FR_19) (fun _ h9 => h9) rfl xd_FR_count_70 ?_
          refine fw_geti hx hb hts i_Wi hown hK hP (xm_5 (by decide)) (xk_5 0) rfl 2 (by decide) (hts _ L_FR_147) (fun _ h9 => h9) rfl xd_FR_count_73 ?_
          have h_5 : vp_in (v0 5 0 2) 17 := hI.1 5 0 2
          exact fw_oret hx hb hr hlocks hS hP xd_FR_count_76 (by simp only [xf_FR_count, if_neg c_1, if_neg c_2, if_neg c_3, if_pos c_4])
        · skip
          by_cases c_6 : a1 = (4 : Int32)
          · refine lv_tableIn (off := 76) (tgt := 77) hx hb xd_FR_count_1 (by rw [c_6]; decide) (by rw [c_6]; decide) (by rw [c_6]; rfl) (by decide) ?_
            refine lv_aload_n hx hb xd_FR_count_77 rfl (lv_at hl 0 rfl) ?_
            refine fw_geti hx hb hts i_FR hown hK hP (xm_0 (by decide)) (xk_0 0) rfl 7 (by decide) (hts _ L_FR_134) (fun _ h9 => h9) rfl xd_FR_count_78 ?_
            exact fw_oret hx hb hr hlocks hS hP xd_FR_count_81 (by simp only [xf_FR_count, if_neg c_1, if_neg c_2, if_neg c_3, if_neg c_4, if_pos c_6])
          · skip
            by_cases c_7 : a1 = (5 : Int32)
            · refine lv_tableIn (off := 81) (tgt := 82) hx hb xd_FR_count_1 (by rw [c_7]; decide) (by rw [c_7]; decide) (by rw [c_7]; rfl) (by decide) ?_
              refine lv_aload_n hx hb xd_FR_count_82 rfl (lv_at hl 0 rfl) ?_
              refine fw_geti hx hb hts i_FR hown hK hP (xm_0 (by decide)) (xk_0 0) rfl 8 (by decide) (hts _ L_FR_116) (fun _ h9 => h9) rfl xd_FR_count_83 ?_
              exact fw_oret hx hb hr hlocks hS hP xd_FR_count_86 (by simp only [xf_FR_count, if_neg c_1, if_neg c_2, if_neg c_3, if_neg c_4, if_neg c_6, if_pos c_7])
            · skip
              by_cases c_8 : a1 = (6 : Int32)
              · refine lv_tableIn (off := 86) (tgt := 87) hx hb xd_FR_count_1 (by rw [c_8]; decide) (by rw [c_8]; decide) (by rw [c_8]; rfl) (by decide) ?_
                refine lv_aload_n hx hb xd_FR_count_87 rfl (lv_at hl 0 rfl) ?_
                refine fw_getr hx hb hts i_FR hown hK hP (xm_0 (by decide)) (xk_0 0) rfl 2 (by decide) (hts _ L_FR_26) (fun _ h9 => h9) rfl xd_FR_count_88 ?_
                refine fw_geti hx hb hts i_AL hown hK hP (xm_9 (by decide)) (xk_9 0) rfl 1 (by decide) (hts _ L_FR_188) (fun _ h9 => h9) rfl xd_FR_count_91 ?_
                have h_9 : 0 ≤ (v0 9 0 1).toInt ∧ (v0 9 0 1).toInt ≤ b := hI.1 9 0 1
                exact fw_oret hx hb hr hlocks hS hP xd_FR_count_94 (by simp only [xf_FR_count, if_neg c_1, if_neg c_2, if_neg c_3, if_neg c_4, if_neg c_6, if_neg c_7, if_pos c_8])
              · skip
                by_cases c_10 : a1 = (7 : Int32)
                · refine lv_tableIn (off := 94) (tgt := 95) hx hb xd_FR_count_1 (by rw [c_10]; decide) (by rw [c_10]; decide) (by rw [c_10]; rfl) (by decide) ?_
                  refine lv_aload_n hx hb xd_FR_count_95 rfl (lv_at hl 0 rfl) ?_
                  refine fw_co (va_runV (As := []) (rest := []) ⟨hx, hb, hml, hown, hts⟩ (xc_FR_watchEnds l hD v0 hI ) (xw_FR_watchEnds hts L_FR_191 ⟨Nat.le_of_ble_eq_true rfl, Nat.le_of_ble_eq_true rfl⟩) (fw_preV hN hK hP (xm_0 (by decide)) (xk_0 0) rfl) rfl rfl hl.1 rfl (lv_room (Nat.le_of_ble_eq_true rfl)) xd_FR_count_96 ⟨Nat.le_of_ble_eq_true rfl, Nat.le_of_ble_eq_true rfl⟩) hS (fun r11 H locs er11 hP hS => ?_)
                  exact fw_oret hx hb hr hlocks hS hP xd_FR_count_99 (by subst er11; simp only [xf_FR_count, if_neg c_1, if_neg c_2, if_neg c_3, if_neg c_4, if_neg c_6, if_neg c_7, if_neg c_8, if_pos c_10])
                · skip
                  refine lv_tableOut (tgt := 100) hx hb xd_FR_count_1 (by have q0 := lv_neT c_1 (a := 0) (by decide); have q1 := lv_neT c_2 (a := 1) (by decide); have q2 := lv_neT c_3 (a := 2) (by decide); have q3 := lv_neT c_4 (a := 3) (by decide); have q4 := lv_neT c_6 (a := 4) (by decide); have q5 := lv_neT c_7 (a := 5) (by decide); have q6 := lv_neT c_8 (a := 6) (by decide); have q7 := lv_neT c_10 (a := 7) (by decide); omega) (by decide) ?_
                  refine lv_iconst (v := (-1 : Int32)) hx hb xd_FR_count_100 (by decide) ?_
                  exact fw_oret hx hb hr hlocks hS hP xd_FR_count_101 (by simp only [xf_FR_count, if_neg c_1, if_neg c_2, if_neg c_3, if_neg c_4, if_neg c_6, if_neg c_7, if_neg c_8, if_neg c_10])

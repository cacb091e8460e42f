def xf_AQ_taken_j4 (v : fw_V) (r : Nat) (a1 : Int32)  : fw_V :=
  v
def xf_AQ_taken_j3 (v : fw_V) (r : Nat) (a1 : Int32)  : fw_V :=
  if (v 20 r 2) ≤ (2 : Int32) then
    v
  else
    let v17 := fw_up v 21 r (2) (v 21 r 3)
    let v18 := fw_up v17 22 r (2) (v17 22 r 3)
    xf_AQ_taken_j4 v18 r a1
def xf_AQ_taken_j2 (v : fw_V) (r : Nat) (a1 : Int32)  : fw_V :=
  if (v 20 r 2) ≤ (1 : Int32) then
    v
  else
    let v13 := fw_up v 21 r (1) (v 21 r 2)
    let v14 := fw_up v13 22 r (1) (v13 22 r 2)
    xf_AQ_taken_j3 v14 r a1
def xf_AQ_taken_j1 (v : fw_V) (r : Nat) (a1 : Int32)  : fw_V :=
  if (v 20 r 2) ≤ (0 : Int32) then
    v
  else
    let v9 := fw_up v 21 r (0) (v 21 r 1)
    let v10 := fw_up v9 22 r (0) (v9 22 r 1)
    xf_AQ_taken_j2 v10 r a1
def xf_AQ_taken (v0 : fw_V) (r : Nat) (a1 : Int32) : fw_V :=
  if (v0 20 r 3) = (0 : Int32) then
    v0
  else
    if a1 = (v0 20 r 3) then
      let v3 := fw_up v0 20 r 3 (0 : Int32)
      let v6 := fw_up v3 20 r 2 ((v3 20 r 2) - (1 : Int32))
      xf_AQ_taken_j1 v6 r a1
    else
      v0

set_option maxHeartbeats 4000000 in
set_option maxRecDepth 100000 in
theorem xc_AQ_taken (l : Launch) {D : va_G} {cA : Nat → ClassId} {ad : Nat → Nat → Nat} (hD : fw_D xCL ad) {b : Nat} (v0 : fw_V) (hI : xI b v0) (r : Nat) (hr0 : r < 2) (a1 : Int32)  : Met l xy_AQ_taken (Cond.code xy_AQ_taken xb_AQ_taken 3 none :: vTB) xrm_AQ_taken (fw_Pc vNL D vcls (vtys cA) xCL cA xkd ad v0 [.ref (ad 20 r), .int a1]) (fw_Qv D vcls xCL cA xkd ad (xI b) (xf_AQ_taken v0 r a1)) 0 0 (fw_A xCL ad) := by
  refine Met.ofW (cc := xb_AQ_taken) (maxL := 3) (ret := none) (by decide) rfl ?_
  intro p e s m args below meth c s₁ B hml hv
  obtain ⟨rfl, hP, hK, hN⟩ := hv
  have hx := B.exec
  have hb := B.bytes
  have hr := B.returns
  have hts : ∀ w ∈ vTB, w.before ([.ref (ad 20 r), .int a1] : List Value).toArray s = true := fun w h => atoms_spec (ws := (Cond.code xy_AQ_taken xb_AQ_taken 3 none :: vTB)) B.pre w (List.mem_cons_of_mem _ h)
  have hown : s.vm.findClass R_AQ = some m.cls := findClass_of_methodNamed B.named
  have hlocks := B.notSynchronized
  have hS : va_S (fw_A xCL ad) s.heap s.heap [] := va_S.rf
  have J4 : ∀ (v : fw_V)  (H : Heap) (locs : List Loc) (ls : Array Slot), xf_AQ_taken v0 r a1 = xf_AQ_taken_j4 v r a1 → vp_in (v 20 r 2) 4 → xI b v → va_P D vcls (fw_w xCL cA xkd ad v) H → va_S (fw_A xCL ad) s.heap H locs → lv_has ls 3 [(0, .ref (ad 20 r)), (2, .int (3 : Int32))] → W p l e (headSpec (Cond.code xy_AQ_taken xb_AQ_taken 3 none :: vTB) xrm_AQ_taken).room s m ([.ref (ad 20 r), .int a1] : List Value).toArray below meth c H locs 0 0 (MQ below (fw_Qv D vcls xCL cA xkd ad (xI b) (xf_AQ_taken v0 r a1)) ([.ref (ad 20 r), .int a1] : List Value).toArray s 0 0 (fw_A xCL ad)) (F0 m 33 ls []) := by
    intro v  H locs ls hj hkf0 hI hP hS hl
    refine lv_iload_n hx hb xd_AQ_taken_33 rfl (lv_at hl 1 rfl) ?_
    refine lv_aload_n hx hb xd_AQ_taken_34 rfl (lv_at hl 0 rfl) ?_
    refine fw_geti hx hb hts i_AQ hown hK hP (xm_20 (by omega)) (xk_20 r) rfl 2 (by decide) (hts _ L_AQ_16) (fun _ h9 => h9) rfl xd_AQ_taken_35 ?_
    have h_19 : vp_in (v 20 r 2) 5 := hI.1 20 r 2
    refine lv_icmp_ge (tgt := 75) hx hb xd_AQ_taken_38 (by decide) (fun c_20 => ?_) (fun c_20 => absurd (fw_ley hkf0 (by decide)) c_20)
    exact fw_vret hx hb hr hlocks hS hP hI xd_AQ_taken_75 (by rw [hj]; simp only [xf_AQ_taken_j4])
  have J3 : ∀ (v : fw_V)  (H : Heap) (locs : List Loc) (ls : Array Slot), xf_AQ_taken v0 r a1 = xf_AQ_taken_j3 v r a1 → vp_in (v 20 r 2) 4 → xI b v → va_P D vcls (fw_w xCL cA xkd ad v) H → va_S (fw_A xCL ad) s.heap H locs → lv_has ls 3 [(0, .ref (ad 20 r)), (2, .int (2 : Int32))] → W p l e (headSpec (Cond.code xy_AQ_taken xb_AQ_taken 3 none :: vTB) xrm_AQ_taken).room s m ([.ref (ad 20 r), .int a1] : List Value).toArray below meth c H locs 0 0 (MQ below (fw_Qv D vcls xCL cA xkd ad (xI b) (xf_AQ_taken v0 r a1)) ([.ref (ad 20 r), .int a1] : List Value).toArray s 0 0 (fw_A xCL ad)) (F0 m 33 ls []) := by
    intro v  H locs ls hj hkf0 hI hP hS hl
    refine lv_iload_n hx hb xd_AQ_taken_33 rfl (lv_at hl 1 rfl) ?_
    refine lv_aload_n hx hb xd_AQ_taken_34 rfl (lv_at hl 0 rfl) ?_
    refine fw_geti hx hb hts i_AQ hown hK hP (xm_20 (by omega)) (xk_20 r) rfl 2 (by decide) (hts _ L_AQ_16) (fun _ h9 => h9) rfl xd_AQ_taken_35 ?_
    have h_15 : vp_in (v 20 r 2) 5 := hI.1 20 r 2
    refine lv_icmp_ge (tgt := 75) hx hb xd_AQ_taken_38 (by decide) (fun c_16 => ?_) (fun c_16 => ?_)
    · exact fw_vret hx hb hr hlocks hS hP hI xd_AQ_taken_75 (by rw [hj]; simp only [xf_AQ_taken_j3, if_pos c_16])
    · refine lv_aload_n hx hb xd_AQ_taken_41 rfl (lv_at hl 0 rfl) ?_
      refine fw_getr hx hb hts i_AQ hown hK hP (xm_20 (by omega)) (xk_20 r) rfl 0 (by decide) (hts _ L_AQ_9) (fun _ h9 => h9) rfl xd_AQ_taken_42 ?_
      refine lv_iload_n hx hb xd_AQ_taken_45 rfl (lv_at hl 1 rfl) ?_
      refine lv_aload_n hx hb xd_AQ_taken_46 rfl (lv_at hl 0 rfl) ?_
      refine fw_getr hx hb hts i_AQ hown hK hP (xm_20 (by omega)) (xk_20 r) rfl 0 (by decide) (hts _ L_AQ_9) (fun _ h9 => h9) rfl xd_AQ_taken_47 ?_
      refine lv_iload_n hx hb xd_AQ_taken_50 rfl (lv_at hl 1 rfl) ?_
      refine lv_iconst (v := (1 : Int32)) hx hb xd_AQ_taken_51 (by decide) ?_
      refine lv_iadd hx hb xd_AQ_taken_52 ?_
      refine fw_top (y := (3 : Int32)) (by decide) ?_
      refine fw_iald hx hb hK hP (xm_21 (by omega)) (xk_21 r) 0 rfl (j := 3) (by decide) (fw_inc (by decide)) xd_AQ_taken_53 ?_
      refine fw_iast hx hb hK hD hP hS (xm_21 (by omega)) (xk_21 r) 0 rfl (j := 2) (by decide) (fw_inc (by decide)) xd_AQ_taken_54 (fun v17 H locs ev17 hP hS => ?_)
      have hI : xI b v17 := by rw [ev17]; exact xI_up hI trivial trivial
      refine lv_aload_n hx hb xd_AQ_taken_55 rfl (lv_at hl 0 rfl) ?_
      refine fw_getr hx hb hts i_AQ hown hK hP (xm_20 (by omega)) (xk_20 r) rfl 1 (by decide) (hts _ L_AQ_13) (fun _ h9 => h9) rfl xd_AQ_taken_56 ?_
      refine lv_iload_n hx hb xd_AQ_taken_59 rfl (lv_at hl 1 rfl) ?_
      refine lv_aload_n hx hb xd_AQ_taken_60 rfl (lv_at hl 0 rfl) ?_
      refine fw_getr hx hb hts i_AQ hown hK hP (xm_20 (by omega)) (xk_20 r) rfl 1 (by decide) (hts _ L_AQ_13) (fun _ h9 => h9) rfl xd_AQ_taken_61 ?_
      refine lv_iload_n hx hb xd_AQ_taken_64 rfl (lv_at hl 1 rfl) ?_
      refine lv_iconst (v := (1 : Int32)) hx hb xd_AQ_taken_65 (by decide) ?_
      refine lv_iadd hx hb xd_AQ_taken_66 ?_
      refine fw_top (y := (3 : Int32)) (by decide) ?_
      refine fw_iald hx hb hK hP (xm_22 (by omega)) (xk_22 r) 0 rfl (j := 3) (by decide) (fw_inc (by decide)) xd_AQ_taken_67 ?_
      refine fw_iast hx hb hK hD hP hS (xm_22 (by omega)) (xk_22 r) 0 rfl (j := 2) (by decide) (fw_inc (by decide)) xd_AQ_taken_68 (fun v18 H locs ev18 hP hS => ?_)
      have hI : xI b v18 := by rw [ev18]; exact xI_up hI trivial trivial
      refine lv_iinc (v := (3 : Int32)) (lv' := [(2, .int (3 : Int32)), (0, .ref (ad 20 r))]) hx hb xd_AQ_taken_69 hl (k := 1) rfl (by decide) (by decide) rfl (fun ls hl => ?_)
      refine lv_goto (tgt := 33) hx hb xd_AQ_taken_72 (by decide) ?_
      exact J4 v18  _ _ _ (by rw [hj]; subst ev17 ev18; simp only [xf_AQ_taken_j3, if_neg c_16])  (by rw [ev18, fw_up_c (c := 22) (c' := 20) (by decide), ev17, fw_up_c (c := 21) (c' := 20) (by decide)]; exact hkf0) hI hP hS (lv_sub hl [1, 0] rfl)
  have J2 : ∀ (v : fw_V)  (H : Heap) (locs : List Loc) (ls : Array Slot), xf_AQ_taken v0 r a1 = xf_AQ_taken_j2 v r a1 → vp_in (v 20 r 2) 4 → xI b v → va_P D vcls (fw_w xCL cA xkd ad v) H → va_S (fw_A xCL ad) s.heap H locs → lv_has ls 3 [(0, .ref (ad 20 r)), (2, .int (1 : Int32))] → W p l e (headSpec (Cond.code xy_AQ_taken xb_AQ_taken 3 none :: vTB) xrm_AQ_taken).room s m ([.ref (ad 20 r), .int a1] : List Value).toArray below meth c H locs 0 0 (MQ below (fw_Qv D vcls xCL cA xkd ad (xI b) (xf_AQ_taken v0 r a1)) ([.ref (ad 20 r), .int a1] : List Value).toArray s 0 0 (fw_A xCL ad)) (F0 m 33 ls []) := by
    intro v  H locs ls hj hkf0 hI hP hS hl
    clear J4
    refine lv_iload_n hx hb xd_AQ_taken_33 rfl (lv_at hl 1 rfl) ?_
    refine lv_aload_n hx hb xd_AQ_taken_34 rfl (lv_at hl 0 rfl) ?_
    refine fw_geti hx hb hts i_AQ hown hK hP (xm_20 (by omega)) (xk_20 r) rfl 2 (by decide) (hts _ L_AQ_16) (fun _ h9 => h9) rfl xd_AQ_taken_35 ?_
    have h_11 : vp_in (v 20 r 2) 5 := hI.1 20 r 2
    refine lv_icmp_ge (tgt := 75) hx hb xd_AQ_taken_38 (by decide) (fun c_12 => ?_) (fun c_12 => ?_)
    · exact fw_vret hx hb hr hlocks hS hP hI xd_AQ_taken_75 (by rw [hj]; simp only [xf_AQ_taken_j2, if_pos c_12])
    · refine lv_aload_n hx hb xd_AQ_taken_41 rfl (lv_at hl 0 rfl) ?_
      refine fw_getr hx hb hts i_AQ hown hK hP (xm_20 (by omega)) (xk_20 r) rfl 0 (by decide) (hts _ L_AQ_9) (fun _ h9 => h9) rfl xd_AQ_taken_42 ?_
      refine lv_iload_n hx hb xd_AQ_taken_45 rfl (lv_at hl 1 rfl) ?_
      refine lv_aload_n hx hb xd_AQ_taken_46 rfl (lv_at hl 0 rfl) ?_
      refine fw_getr hx hb hts i_AQ hown hK hP (xm_20 (by omega)) (xk_20 r) rfl 0 (by decide) (hts _ L_AQ_9) (fun _ h9 => h9) rfl xd_AQ_taken_47 ?_
      refine lv_iload_n hx hb xd_AQ_taken_50 rfl (lv_at hl 1 rfl) ?_
      refine lv_iconst (v := (1 : Int32)) hx hb xd_AQ_taken_51 (by decide) ?_
      refine lv_iadd hx hb xd_AQ_taken_52 ?_
      refine fw_top (y := (2 : Int32)) (by decide) ?_
      refine fw_iald hx hb hK hP (xm_21 (by omega)) (xk_21 r) 0 rfl (j := 2) (by decide) (fw_inc (by decide)) xd_AQ_taken_53 ?_
      refine fw_iast hx hb hK hD hP hS (xm_21 (by omega)) (xk_21 r) 0 rfl (j := 1) (by decide) (fw_inc (by decide)) xd_AQ_taken_54 (fun v13 H locs ev13 hP hS => ?_)
      have hI : xI b v13 := by rw [ev13]; exact xI_up hI trivial trivial
      refine lv_aload_n hx hb xd_AQ_taken_55 rfl (lv_at hl 0 rfl) ?_
      refine fw_getr hx hb hts i_AQ hown hK hP (xm_20 (by omega)) (xk_20 r) rfl 1 (by decide) (hts _ L_AQ_13) (fun _ h9 => h9) rfl xd_AQ_taken_56 ?_
      refine lv_iload_n hx hb xd_AQ_taken_59 rfl (lv_at hl 1 rfl) ?_
      refine lv_aload_n hx hb xd_AQ_taken_60 rfl (lv_at hl 0 rfl) ?_
      refine fw_getr hx hb hts i_AQ hown hK hP (xm_20 (by omega)) (xk_20 r) rfl 1 (by decide) (hts _ L_AQ_13) (fun _ h9 => h9) rfl xd_AQ_taken_61 ?_
      refine lv_iload_n hx hb xd_AQ_taken_64 rfl (lv_at hl 1 rfl) ?_
      refine lv_iconst (v := (1 : Int32)) hx hb xd_AQ_taken_65 (by decide) ?_
      refine lv_iadd hx hb xd_AQ_taken_66 ?_
      refine fw_top (y := (2 : Int32)) (by decide) ?_
      refine fw_iald hx hb hK hP (xm_22 (by omega)) (xk_22 r) 0 rfl (j := 2) (by decide) (fw_inc (by decide)) xd_AQ_taken_67 ?_
      refine fw_iast hx hb hK hD hP hS (xm_22 (by omega)) (xk_22 r) 0 rfl (j := 1) (by decide) (fw_inc (by decide)) xd_AQ_taken_68 (fun v14 H locs ev14 hP hS => ?_)
      have hI : xI b v14 := by rw [ev14]; exact xI_up hI trivial trivial
      refine lv_iinc (v := (2 : Int32)) (lv' := [(2, .int (2 : Int32)), (0, .ref (ad 20 r))]) hx hb xd_AQ_taken_69 hl (k := 1) rfl (by decide) (by decide) rfl (fun ls hl => ?_)
      refine lv_goto (tgt := 33) hx hb xd_AQ_taken_72 (by decide) ?_
      exact J3 v14  _ _ _ (by rw [hj]; subst ev13 ev14; simp only [xf_AQ_taken_j2, if_neg c_12])  (by rw [ev14, fw_up_c (c := 22) (c' := 20) (by decide), ev13, fw_up_c (c := 21) (c' := 20) (by decide)]; exact hkf0) hI hP hS (lv_sub hl [1, 0] rfl)
  have J1 : ∀ (v : fw_V)  (H : Heap) (locs : List Loc) (ls : Array Slot), xf_AQ_taken v0 r a1 = xf_AQ_taken_j1 v r a1 → vp_in (v 20 r 2) 4 → xI b v → va_P D vcls (fw_w xCL cA xkd ad v) H → va_S (fw_A xCL ad) s.heap H locs → lv_has ls 3 [(0, .ref (ad 20 r)), (2, .int (0 : Int32))] → W p l e (headSpec (Cond.code xy_AQ_taken xb_AQ_taken 3 none :: vTB) xrm_AQ_taken).room s m ([.ref (ad 20 r), .int a1] : List Value).toArray below meth c H locs 0 0 (MQ below (fw_Qv D vcls xCL cA xkd ad (xI b) (xf_AQ_taken v0 r a1)) ([.ref (ad 20 r), .int a1] : List Value).toArray s 0 0 (fw_A xCL ad)) (F0 m 33 ls []) := by
    intro v  H locs ls hj hkf0 hI hP hS hl
    clear J4 J3
    refine lv_iload_n hx hb xd_AQ_taken_33 rfl (lv_at hl 1 rfl) ?_
    refine lv_aload_n hx hb xd_AQ_taken_34 rfl (lv_at hl 0 rfl) ?_
    refine fw_geti hx hb hts i_AQ hown hK hP (xm_20 (by omega)) (xk_20 r) rfl 2 (by decide) (hts _ L_AQ_16) (fun _ h9 => h9) rfl xd_AQ_taken_35 ?_
    have h_7 : vp_in (v 20 r 2) 5 := hI.1 20 r 2
    refine lv_icmp_ge (tgt := 75) hx hb xd_AQ_taken_38 (by decide) (fun c_8 => ?_) (fun c_8 => ?_)
    · exact fw_vret hx hb hr hlocks hS hP hI xd_AQ_taken_75 (by rw [hj]; simp only [xf_AQ_taken_j1, if_pos c_8])
    · refine lv_aload_n hx hb xd_AQ_taken_41 rfl (lv_at hl 0 rfl) ?_
      refine fw_getr hx hb hts i_AQ hown hK hP (xm_20 (by omega)) (xk_20 r) rfl 0 (by decide) (hts _ L_AQ_9) (fun _ h9 => h9) rfl xd_AQ_taken_42 ?_
      refine lv_iload_n hx hb xd_AQ_taken_45 rfl (lv_at hl 1 rfl) ?_
      refine lv_aload_n hx hb xd_AQ_taken_46 rfl (lv_at hl 0 rfl) ?_
      refine fw_getr hx hb hts i_AQ hown hK hP (xm_20 (by omega)) (xk_20 r) rfl 0 (by decide) (hts _ L_AQ_9) (fun _ h9 => h9) rfl xd_AQ_taken_47 ?_
      refine lv_iload_n hx hb xd_AQ_taken_50 rfl (lv_at hl 1 rfl) ?_
      refine lv_iconst (v := (1 : Int32)) hx hb xd_AQ_taken_51 (by decide) ?_
      refine lv_iadd hx hb xd_AQ_taken_52 ?_
      refine fw_top (y := (1 : Int32)) (by decide) ?_
      refine fw_iald hx hb hK hP (xm_21 (by omega)) (xk_21 r) 0 rfl (j := 1) (by decide) (fw_inc (by decide)) xd_AQ_taken_53 ?_
      refine fw_iast hx hb hK hD hP hS (xm_21 (by omega)) (xk_21 r) 0 rfl (j := 0) (by decide) (fw_inc (by decide)) xd_AQ_taken_54 (fun v9 H locs ev9 hP hS => ?_)
      have hI : xI b v9 := by rw [ev9]; exact xI_up hI trivial trivial
      refine lv_aload_n hx hb xd_AQ_taken_55 rfl (lv_at hl 0 rfl) ?_
      refine fw_getr hx hb hts i_AQ hown hK hP (xm_20 (by omega)) (xk_20 r) rfl 1 (by decide) (hts _ L_AQ_13) (fun _ h9 => h9) rfl xd_AQ_taken_56 ?_
      refine lv_iload_n hx hb xd_AQ_taken_59 rfl (lv_at hl 1 rfl) ?_
      refine lv_aload_n hx hb xd_AQ_taken_60 rfl (lv_at hl 0 rfl) ?_
      refine fw_getr hx hb hts i_AQ hown hK hP (xm_20 (by omega)) (xk_20 r) rfl 1 (by decide) (hts _ L_AQ_13) (fun _ h9 => h9) rfl xd_AQ_taken_61 ?_
      refine lv_iload_n hx hb xd_AQ_taken_64 rfl (lv_at hl 1 rfl) ?_
      refine lv_iconst (v := (1 : Int32)) hx hb xd_AQ_taken_65 (by decide) ?_
      refine lv_iadd hx hb xd_AQ_taken_66 ?_
      refine fw_top (y := (1 : Int32)) (by decide) ?_
      refine fw_iald hx hb hK hP (xm_22 (by omega)) (xk_22 r) 0 rfl (j := 1) (by decide) (fw_inc (by decide)) xd_AQ_taken_67 ?_
      refine fw_iast hx hb hK hD hP hS (xm_22 (by omega)) (xk_22 r) 0 rfl (j := 0) (by decide) (fw_inc (by decide)) xd_AQ_taken_68 (fun v10 H locs ev10 hP hS => ?_)
      have hI : xI b v10 := by rw [ev10]; exact xI_up hI trivial trivial
      refine lv_iinc (v := (1 : Int32)) (lv' := [(2, .int (1 : Int32)), (0, .ref (ad 20 r))]) hx hb xd_AQ_taken_69 hl (k := 1) rfl (by decide) (by decide) rfl (fun ls hl => ?_)
      refine lv_goto (tgt := 33) hx hb xd_AQ_taken_72 (by decide) ?_
      exact J2 v10  _ _ _ (by rw [hj]; subst ev9 ev10; simp only [xf_AQ_taken_j1, if_neg c_8])  (by rw [ev10, fw_up_c (c := 22) (c' := 20) (by decide), ev9, fw_up_c (c := 21) (c' := 20) (by decide)]; exact hkf0) hI hP hS (lv_sub hl [1, 0] rfl)
  clear J4 J3 J2
  have hl := lv_entry ([.ref (ad 20 r), .int a1]) (n := 3) (Nat.le_of_ble_eq_true rfl)
  rw [lg_entry_eq]
  generalize (lg_sl ([.ref (ad 20 r), .int a1]) ++ List.replicate (3 - (lg_sl ([.ref (ad 20 r), .int a1])).length) Slot.unset).toArray = ls at hl ⊢
  have hl : lv_has ls 3 [(0, .ref (ad 20 r)), (1, .int a1)] := hl
  refine lv_aload_n hx hb xd_AQ_taken_0 rfl (lv_at hl 0 rfl) ?_
  refine fw_geti hx hb hts i_AQ hown hK hP (xm_20 (by omega)) (xk_20 r) rfl 3 (by decide) (hts _ L_AQ_20) (fun _ h9 => h9) rfl xd_AQ_taken_1 ?_
  refine lv_if_eq (tgt := 15) hx hb xd_AQ_taken_4 (by decide) (fun c_1 => ?_) (fun c_1 => ?_)
  · exact fw_vret hx hb hr hlocks hS hP hI xd_AQ_taken_15 (by simp only [xf_AQ_taken, if_pos c_1])
  · refine lv_iload_n hx hb xd_AQ_taken_7 rfl (lv_at hl 1 rfl) ?_
    refine lv_aload_n hx hb xd_AQ_taken_8 rfl (lv_at hl 0 rfl) ?_
    refine fw_geti hx hb hts i_AQ hown hK hP (xm_20 (by omega)) (xk_20 r) rfl 3 (by decide) (hts _ L_AQ_20) (fun _ h9 => h9) rfl xd_AQ_taken_9 ?_
    refine lv_icmp_eq (tgt := 16) hx hb xd_AQ_taken_12 (by decide) (fun c_2 => ?_) (fun c_2 => ?_)
    · have hpos : 0 < (v0 20 r 2).toInt := (hI.2 r).resolve_left c_1
      refine lv_aload_n hx hb xd_AQ_taken_16 rfl (lv_at hl 0 rfl) ?_
      refine lv_iconst (v := (0 : Int32)) hx hb xd_AQ_taken_17 (by decide) ?_
      refine fw_puti hx hb hts i_AQ t_AQ t_AQ_ok n_AQ hown hK hD hP hS (xm_20 (by omega)) (xk_20 r) rfl 3 (by decide) (hts _ L_AQ_20) (fun _ h9 => h9) rfl fw_pdI rfl rfl rfl xd_AQ_taken_18 (fun v3 H locs ev3 hP hS => ?_)
      have hI : xI b v3 := by rw [ev3]; exact xI_up hI trivial (Or.inl rfl)
      refine lv_aload_n hx hb xd_AQ_taken_21 rfl (lv_at hl 0 rfl) ?_
      refine lv_dup hx hb xd_AQ_taken_22 rfl ?_
      refine fw_geti hx hb hts i_AQ hown hK hP (xm_20 (by omega)) (xk_20 r) rfl 2 (by decide) (hts _ L_AQ_16) (fun _ h9 => h9) rfl xd_AQ_taken_23 ?_
      have h_4 : vp_in (v3 20 r 2) 5 := hI.1 20 r 2
      have h_5 : 0 < (v3 20 r 2).toInt := (by rw [ev3, fw_up_k (k := 3) (k' := 2) (by decide)]; exact hpos)
      refine lv_iconst (v := (1 : Int32)) hx hb xd_AQ_taken_26 (by decide) ?_
      refine lv_isub hx hb xd_AQ_taken_27 ?_
      refine fw_puti hx hb hts i_AQ t_AQ t_AQ_ok n_AQ hown hK hD hP hS (xm_20 (by omega)) (xk_20 r) rfl 2 (by decide) (hts _ L_AQ_16) (fun _ h9 => h9) rfl fw_pdI rfl rfl rfl xd_AQ_taken_28 (fun v6 H locs ev6 hP hS => ?_)
      have hI : xI b v6 := by rw [ev6]; exact xI_up hI (fw_inm (fw_inm1 h_4 h_5) (by decide)) (Or.inl (by rw [ev3, fw_up_s]))
      refine lv_iconst (v := (0 : Int32)) hx hb xd_AQ_taken_31 (by decide) ?_
      refine lv_istore_n (lv' := [(2, .int (0 : Int32)), (0, .ref (ad 20 r)), (1, .int a1)]) hx hb xd_AQ_taken_32 rfl hl (by decide) rfl (fun ls hl => ?_)
      exact J1 v6  _ _ _ (by subst ev3 ev6; simp only [xf_AQ_taken, if_neg c_1, if_pos c_2])  (by rw [ev6, fw_up_s]; exact (fw_inm1 h_4 h_5)) hI hP hS (lv_sub hl [1, 0] rfl)
    · exact fw_vret hx hb hr hlocks hS hP hI xd_AQ_taken_15 (by simp only [xf_AQ_taken, if_neg c_1, if_neg c_2])
def xf_De_receive (v0 : fw_V) (r : Nat) (k1 : Nat) : fw_V :=
  if (v0 7 k1 0) = (1 : Int32) then
    let v23 := xf_De_answerSeek v0 (r) (v0 7 k1 2)
    v23
  else
    if (v0 7 k1 0) = (3 : Int32) then
      let v22 := xf_De_answerConnect v0 (r) (k1)
      v22
    else
      if (v0 19 r 11) = (0 : Int32) then
        v0
      else
        if (v0 7 k1 1) = (v0 19 r 12) then
          if (v0 7 k1 0) = (6 : Int32) then
            let v6 := xf_De_keepParameter v0 (r) (k1)
            v6
          else
            if (v0 7 k1 0) = (8 : Int32) then
              let v8 := xf_De_answerEnd v0 (r)
              v8
            else
              if (v0 7 k1 0) = (11 : Int32) then
                let v10 := xf_De_beginData v0 (r)
                v10
              else
                if (v0 7 k1 0) = (12 : Int32) then
                  let v12 := xf_De_takeOutput v0 (r) (k1)
                  v12
                else
                  if (v0 7 k1 0) = (15 : Int32) then
                    let v14 := xf_AQ_taken v0 (r) (v0 7 k1 2)
                    v14
                  else
                    if (v0 7 k1 0) = (16 : Int32) then
                      let v16 := xf_De_becomeIdle v0 (r)
                      v16
                    else
                      v0
        else
          v0

set_option maxHeartbeats 4000000 in
set_option maxRecDepth 100000 in
theorem xc_De_receive (l : Launch) {D : va_G} {cA : Nat → ClassId} {ad : Nat → Nat → Nat} (hD : fw_D xCL ad) {b : Nat} (v0 : fw_V) (hI : xI b v0) (r : Nat) (hr0 : r < 2) (k1 : Nat) (hk1 : k1 < 18)  : Met l xy_De_receive (Cond.code xy_De_receive xb_De_receive 2 none :: vTB) xrm_De_receive (fw_Pc vNL D vcls (vtys cA) xCL cA xkd ad v0 [.ref (ad 19 r), .ref (ad 7 k1)]) (fw_Qv D vcls xCL cA xkd ad (xI b) (xf_De_receive v0 r k1)) 0 0 (fw_A xCL ad) := by
  refine Met.ofW (cc := xb_De_receive) (maxL := 2) (ret := none) (by decide) rfl ?_
  intro p e s m args below meth c s₁ B hml hv
  obtain ⟨rfl, hP, hK, hN⟩ := hv
  have hx := B.exec
  have hb := B.bytes
  have hr := B.returns
  have hts : ∀ w ∈ vTB, w.before ([.ref (ad 19 r), .ref (ad 7 k1)] : List Value).toArray s = true := fun w h => atoms_spec (ws := (Cond.code xy_De_receive xb_De_receive 2 none :: vTB)) B.pre w (List.mem_cons_of_mem _ h)
  have hown : s.vm.findClass R_De = some m.cls := findClass_of_methodNamed B.named
  have hlocks := B.notSynchronized
  have hS : va_S (fw_A xCL ad) s.heap s.heap [] := va_S.rf
  skip
  have hl := lv_entry ([.ref (ad 19 r), .ref (ad 7 k1)]) (n := 2) (Nat.le_of_ble_eq_true rfl)
  rw [lg_entry_eq]
  generalize (lg_sl ([.ref (ad 19 r), .ref (ad 7 k1)]) ++ List.replicate (2 - (lg_sl ([.ref (ad 19 r), .ref (ad 7 k1)])).length) Slot.unset).toArray = ls at hl ⊢
  have hl : lv_has ls 2 [(0, .ref (ad 19 r)), (1, .ref (ad 7 k1))] := hl
  refine lv_aload_n hx hb xd_De_receive_0 rfl (lv_at hl 1 rfl) ?_
  refine fw_geti hx hb hts i_Fm hown hK hP (xm_7 (by omega)) (xk_7 k1) rfl 0 (by decide) (hts _ L_De_83) (fun _ h9 => h9) rfl xd_De_receive_1 ?_
  refine lv_iconst (v := (1 : Int32)) hx hb xd_De_receive_4 (by decide) ?_
  refine lv_icmp_ne (tgt := 17) hx hb xd_De_receive_5 (by decide) (fun c_1 => ?_) (fun c_1 => ?_)
  · refine lv_aload_n hx hb xd_De_receive_17 rfl (lv_at hl 1 rfl) ?_
    refine fw_geti hx hb hts i_Fm hown hK hP (xm_7 (by omega)) (xk_7 k1) rfl 0 (by decide) (hts _ L_De_83) (fun _ h9 => h9) rfl xd_De_receive_18 ?_
    refine lv_iconst (v := (3 : Int32)) hx hb xd_De_receive_21 (by decide) ?_
    refine lv_icmp_ne (tgt := 31) hx hb xd_De_receive_22 (by decide) (fun c_2 => ?_) (fun c_2 => ?_)
    · refine lv_aload_n hx hb xd_De_receive_31 rfl (lv_at hl 0 rfl) ?_
      refine fw_geti hx hb hts i_De hown hK hP (xm_19 (by omega)) (xk_19 r) rfl 11 (by decide) (hts _ L_De_62) (fun _ h9 => h9) rfl xd_De_receive_32 ?_
      refine lv_if_eq (tgt := 49) hx hb xd_De_receive_35 (by decide) (fun c_3 => ?_) (fun c_3 => ?_)
      · exact fw_vret hx hb hr hlocks hS hP hI xd_De_receive_49 (by simp only [xf_De_receive, if_neg c_1, if_neg c_2, if_pos c_3])
      · refine lv_aload_n hx hb xd_De_receive_38 rfl (lv_at hl 1 rfl) ?_
        refine fw_geti hx hb hts i_Fm hown hK hP (xm_7 (by omega)) (xk_7 k1) rfl 1 (by decide) (hts _ L_De_98) (fun _ h9 => h9) rfl xd_De_receive_39 ?_
        refine lv_aload_n hx hb xd_De_receive_42 rfl (lv_at hl 0 rfl) ?_
        refine fw_geti hx hb hts i_De hown hK hP (xm_19 (by omega)) (xk_19 r) rfl 12 (by decide) (hts _ L_De_101) (fun _ h9 => h9) rfl xd_De_receive_43 ?_
        refine lv_icmp_eq (tgt := 50) hx hb xd_De_receive_46 (by decide) (fun c_4 => ?_) (fun c_4 => ?_)
        · refine lv_aload_n hx hb xd_De_receive_50 rfl (lv_at hl 1 rfl) ?_
          refine fw_geti hx hb hts i_Fm hown hK hP (xm_7 (by omega)) (xk_7 k1) rfl 0 (by decide) (hts _ L_De_83) (fun _ h9 => h9) rfl xd_De_receive_51 ?_
          by_cases c_5 : (v0 7 k1 0) = (6 : Int32)
          · refine lv_tableIn (off := 58) (tgt := 112) hx hb xd_De_receive_54 (by rw [c_5]; decide) (by rw [c_5]; decide) (by rw [c_5]; rfl) (by decide) ?_
            refine lv_aload_n hx hb xd_De_receive_112 rfl (lv_at hl 0 rfl) ?_
            refine lv_aload_n hx hb xd_De_receive_113 rfl (lv_at hl 1 rfl) ?_
            refine fw_cv (va_runV (As := [.ref (ad 7 k1)]) (rest := []) ⟨hx, hb, hml, hown, hts⟩ (xc_De_keepParameter l hD v0 hI (r) (by omega) (k1) (by omega)) (xw_De_keepParameter hts L_De_102 ⟨Nat.le_of_ble_eq_true rfl, Nat.le_of_ble_eq_true rfl⟩) (fw_preV hN hK hP (xm_19 (by omega)) (xk_19 r) rfl) rfl rfl hl.1 rfl (lv_room (Nat.le_of_ble_eq_true rfl)) xd_De_receive_114 ⟨Nat.le_of_ble_eq_true rfl, Nat.le_of_ble_eq_true rfl⟩) hS (fun v6 H locs ev6 hI hP hS => ?_)
            refine lv_goto (tgt := 163) hx hb xd_De_receive_117 (by decide) ?_
            exact fw_vret hx hb hr hlocks hS hP hI xd_De_receive_163 (by subst ev6; simp only [xf_De_receive, if_neg c_1, if_neg c_2, if_neg c_3, if_pos c_4, if_pos c_5])
          · skip
            by_cases c_7 : (v0 7 k1 0) = (8 : Int32)
            · refine lv_tableIn (off := 66) (tgt := 120) hx hb xd_De_receive_54 (by rw [c_7]; decide) (by rw [c_7]; decide) (by rw [c_7]; rfl) (by decide) ?_
              refine lv_aload_n hx hb xd_De_receive_120 rfl (lv_at hl 0 rfl) ?_
              refine fw_cv (va_runV (As := []) (rest := []) ⟨hx, hb, hml, hown, hts⟩ (xc_De_answerEnd l hD v0 hI (r) (by omega)) (xw_De_answerEnd hts L_De_105 ⟨Nat.le_of_ble_eq_true rfl, Nat.le_of_ble_eq_true rfl⟩) (fw_preV hN hK hP (xm_19 (by omega)) (xk_19 r) rfl) rfl rfl hl.1 rfl (lv_room (Nat.le_of_ble_eq_true rfl)) xd_De_receive_121 ⟨Nat.le_of_ble_eq_true rfl, Nat.le_of_ble_eq_true rfl⟩) hS (fun v8 H locs ev8 hI hP hS => ?_)
              refine lv_goto (tgt := 163) hx hb xd_De_receive_124 (by decide) ?_
              exact fw_vret hx hb hr hlocks hS hP hI xd_De_receive_163 (by subst ev8; simp only [xf_De_receive, if_neg c_1, if_neg c_2, if_neg c_3, if_pos c_4, if_neg c_5, if_pos c_7])
            · skip
              by_cases c_9 : (v0 7 k1 0) = (11 : Int32)
              · refine lv_tableIn (off := 73) (tgt := 127) hx hb xd_De_receive_54 (by rw [c_9]; decide) (by rw [c_9]; decide) (by rw [c_9]; rfl) (by decide) ?_
                refine lv_aload_n hx hb xd_De_receive_127 rfl (lv_at hl 0 rfl) ?_
                refine fw_cv (va_runV (As := []) (rest := []) ⟨hx, hb, hml, hown, hts⟩ (xc_De_beginData l hD v0 hI (r) (by omega)) (xw_De_beginData hts L_De_108 ⟨Nat.le_of_ble_eq_true rfl, Nat.le_of_ble_eq_true rfl⟩) (fw_preV hN hK hP (xm_19 (by omega)) (xk_19 r) rfl) rfl rfl hl.1 rfl (lv_room (Nat.le_of_ble_eq_true rfl)) xd_De_receive_128 ⟨Nat.le_of_ble_eq_true rfl, Nat.le_of_ble_eq_true rfl⟩) hS (fun v10 H locs ev10 hI hP hS => ?_)
                refine lv_goto (tgt := 163) hx hb xd_De_receive_131 (by decide) ?_
                exact fw_vret hx hb hr hlocks hS hP hI xd_De_receive_163 (by subst ev10; simp only [xf_De_receive, if_neg c_1, if_neg c_2, if_neg c_3, if_pos c_4, if_neg c_5, if_neg c_7, if_pos c_9])
              · skip
                by_cases c_11 : (v0 7 k1 0) = (12 : Int32)
                · refine lv_tableIn (off := 80) (tgt := 134) hx hb xd_De_receive_54 (by rw [c_11]; decide) (by rw [c_11]; decide) (by rw [c_11]; rfl) (by decide) ?_
                  refine lv_aload_n hx hb xd_De_receive_134 rfl (lv_at hl 0 rfl) ?_
                  refine lv_aload_n hx hb xd_De_receive_135 rfl (lv_at hl 1 rfl) ?_
                  refine fw_cv (va_runV (As := [.ref (ad 7 k1)]) (rest := []) ⟨hx, hb, hml, hown, hts⟩ (xc_De_takeOutput l hD v0 hI (r) (by omega) (k1) (by omega)) (xw_De_takeOutput hts L_De_111 ⟨Nat.le_of_ble_eq_true rfl, Nat.le_of_ble_eq_true rfl⟩) (fw_preV hN hK hP (xm_19 (by omega)) (xk_19 r) rfl) rfl rfl hl.1 rfl (lv_room (Nat.le_of_ble_eq_true rfl)) xd_De_receive_136 ⟨Nat.le_of_ble_eq_true rfl, Nat.le_of_ble_eq_true rfl⟩) hS (fun v12 H locs ev12 hI hP hS => ?_)
                  refine lv_goto (tgt := 163) hx hb xd_De_receive_139 (by decide) ?_
                  exact fw_vret hx hb hr hlocks hS hP hI xd_De_receive_163 (by subst ev12; simp only [xf_De_receive, if_neg c_1, if_neg c_2, if_neg c_3, if_pos c_4, if_neg c_5, if_neg c_7, if_neg c_9, if_pos c_11])
                · skip
                  by_cases c_13 : (v0 7 k1 0) = (15 : Int32)
                  · refine lv_tableIn (off := 88) (tgt := 142) hx hb xd_De_receive_54 (by rw [c_13]; decide) (by rw [c_13]; decide) (by rw [c_13]; rfl) (by decide) ?_
                    refine lv_aload_n hx hb xd_De_receive_142 rfl (lv_at hl 0 rfl) ?_
                    refine fw_getr hx hb hts i_De hown hK hP (xm_19 (by omega)) (xk_19 r) rfl 4 (by decide) (hts _ L_De_21) (fun _ h9 => h9) rfl xd_De_receive_143 ?_
                    refine lv_aload_n hx hb xd_De_receive_146 rfl (lv_at hl 1 rfl) ?_
                    refine fw_geti hx hb hts i_Fm hown hK hP (xm_7 (by omega)) (xk_7 k1) rfl 2 (by decide) (hts _ L_De_88) (fun _ h9 => h9) rfl xd_De_receive_147 ?_
                    refine fw_cv (va_runV (As := [.int (v0 7 k1 2)]) (rest := []) ⟨hx, hb, hml, hown, hts⟩ (xc_AQ_taken l hD v0 hI (r) (by omega) (v0 7 k1 2)) (xw_AQ_taken hts L_De_114 ⟨Nat.le_of_ble_eq_true rfl, Nat.le_of_ble_eq_true rfl⟩) (fw_preV hN hK hP (xm_20 (by omega)) (xk_20 r) rfl) rfl rfl hl.1 rfl (lv_room (Nat.le_of_ble_eq_true rfl)) xd_De_receive_150 ⟨Nat.le_of_ble_eq_true rfl, Nat.le_of_ble_eq_true rfl⟩) hS (fun v14 H locs ev14 hI hP hS => ?_)
                    refine lv_goto (tgt := 163) hx hb xd_De_receive_153 (by decide) ?_
                    exact fw_vret hx hb hr hlocks hS hP hI xd_De_receive_163 (by subst ev14; simp only [xf_De_receive, if_neg c_1, if_neg c_2, if_neg c_3, if_pos c_4, if_neg c_5, if_neg c_7, if_neg c_9, if_neg c_11, if_pos c_13])
                  · skip
                    by_cases c_15 : (v0 7 k1 0) = (16 : Int32)
                    · refine lv_tableIn (off := 102) (tgt := 156) hx hb xd_De_receive_54 (by rw [c_15]; decide) (by rw [c_15]; decide) (by rw [c_15]; rfl) (by decide) ?_
                      refine lv_aload_n hx hb xd_De_receive_156 rfl (lv_at hl 0 rfl) ?_
                      refine fw_cv (va_runV (As := []) (rest := []) ⟨hx, hb, hml, hown, hts⟩ (xc_De_becomeIdle l hD v0 hI (r) (by omega)) (xw_De_becomeIdle hts L_De_117 ⟨Nat.le_of_ble_eq_true rfl, Nat.le_of_ble_eq_true rfl⟩) (fw_preV hN hK hP (xm_19 (by omega)) (xk_19 r) rfl) rfl rfl hl.1 rfl (lv_room (Nat.le_of_ble_eq_true rfl)) xd_De_receive_157 ⟨Nat.le_of_ble_eq_true rfl, Nat.le_of_ble_eq_true rfl⟩) hS (fun v16 H locs ev16 hI hP hS => ?_)
                      refine lv_goto (tgt := 163) hx hb xd_De_receive_160 (by decide) ?_
                      exact fw_vret hx hb hr hlocks hS hP hI xd_De_receive_163 (by subst ev16; simp only [xf_De_receive, if_neg c_1, if_neg c_2, if_neg c_3, if_pos c_4, if_neg c_5, if_neg c_7, if_neg c_9, if_neg c_11, if_neg c_13, if_pos c_15])
                    · skip
                      by_cases c_17 : (v0 7 k1 0) = (7 : Int32)
                      · refine lv_tableIn (off := 109) (tgt := 163) hx hb xd_De_receive_54 (by rw [c_17]; decide) (by rw [c_17]; decide) (by rw [c_17]; rfl) (by decide) ?_
                        exact fw_vret hx hb hr hlocks hS hP hI xd_De_receive_163 (by simp only [xf_De_receive, if_neg c_1, if_neg c_2, if_neg c_3, if_pos c_4, if_neg c_5, if_neg c_7, if_neg c_9, if_neg c_11, if_neg c_13, if_neg c_15])
                      · skip
                        by_cases c_18 : (v0 7 k1 0) = (9 : Int32)
                        · refine lv_tableIn (off := 109) (tgt := 163) hx hb xd_De_receive_54 (by rw [c_18]; decide) (by rw [c_18]; decide) (by rw [c_18]; rfl) (by decide) ?_
                          exact fw_vret hx hb hr hlocks hS hP hI xd_De_receive_163 (by simp only [xf_De_receive, if_neg c_1, if_neg c_2, if_neg c_3, if_pos c_4, if_neg c_5, if_neg c_7, if_neg c_9, if_neg c_11, if_neg c_13, if_neg c_15, if_neg c_17])
                        · skip
                          by_cases c_19 : (v0 7 k1 0) = (10 : Int32)
                          · refine lv_tableIn (off := 109) (tgt := 163) hx hb xd_De_receive_54 (by rw [c_19]; decide) (by rw [c_19]; decide) (by rw [c_19]; rfl) (by decide) ?_
                            exact fw_vret hx hb hr hlocks hS hP hI xd_De_receive_163 (by simp only [xf_De_receive, if_neg c_1, if_neg c_2, if_neg c_3, if_pos c_4, if_neg c_5, if_neg c_7, if_neg c_9, if_neg c_11, if_neg c_13, if_neg c_15, if_neg c_17, if_neg c_18])
                          · skip
                            by_cases c_20 : (v0 7 k1 0) = (13 : Int32)
                            · refine lv_tableIn (off := 109) (tgt := 163) hx hb xd_De_receive_54 (by rw [c_20]; decide) (by rw [c_20]; decide) (by rw [c_20]; rfl) (by decide) ?_
                              exact fw_vret hx hb hr hlocks hS hP hI xd_De_receive_163 (by simp only [xf_De_receive, if_neg c_1, if_neg c_2, if_neg c_3, if_pos c_4, if_neg c_5, if_neg c_7, if_neg c_9, if_neg c_11, if_neg c_13, if_neg c_15, if_neg c_17, if_neg c_18, if_neg c_19])
                            · skip
                              by_cases c_21 : (v0 7 k1 0) = (14 : Int32)
                              · refine lv_tableIn (off := 109) (tgt := 163) hx hb xd_De_receive_54 (by rw [c_21]; decide) (by rw [c_21]; decide) (by rw [c_21]; rfl) (by decide) ?_
                                exact fw_vret hx hb hr hlocks hS hP hI xd_De_receive_163 (by simp only [xf_De_receive, if_neg c_1, if_neg c_2, if_neg c_3, if_pos c_4, if_neg c_5, if_neg c_7, if_neg c_9, if_neg c_11, if_neg c_13, if_neg c_15, if_neg c_17, if_neg c_18, if_neg c_19, if_neg c_20])
                              · skip
                                refine lv_tableOut (tgt := 163) hx hb xd_De_receive_54 (by have q0 := lv_neT c_5 (a := 6) (by decide); have q1 := lv_neT c_7 (a := 8) (by decide); have q2 := lv_neT c_9 (a := 11) (by decide); have q3 := lv_neT c_11 (a := 12) (by decide); have q4 := lv_neT c_13 (a := 15) (by decide); have q5 := lv_neT c_15 (a := 16) (by decide); have q6 := lv_neT c_17 (a := 7) (by decide); have q7 := lv_neT c_18 (a := 9) (by decide); have q8 := lv_neT c_19 (a := 10) (by decide); have q9 := lv_neT c_20 (a := 13) (by decide); have q10 := lv_neT c_21 (a := 14) (by decide); omega) (by decide) ?_
                                exact fw_vret hx hb hr hlocks hS hP hI xd_De_receive_163 (by simp only [xf_De_receive, if_neg c_1, if_neg c_2, if_neg c_3, if_pos c_4, if_neg c_5, if_neg c_7, if_neg c_9, if_neg c_11, if_neg c_13, if_neg c_15])
        · exact fw_vret hx hb hr hlocks hS hP hI xd_De_receive_49 (by simp only [xf_De_receive, if_neg c_1, if_neg c_2, if_neg c_3, if_neg c_4])
    · refine lv_aload_n hx hb xd_De_receive_25 rfl (lv_at hl 0 rfl) ?_
      refine lv_aload_n hx hb xd_De_receive_26 rfl (lv_at hl 1 rfl) ?_
      refine fw_cv (va_runV (As := [.ref (ad 7 k1)]) (rest := []) ⟨hx, hb, hml, hown, hts⟩ (xc_De_answerConnect l hD v0 hI (r) (by omega) (k1) (by omega)) (xw_De_answerConnect hts L_De_94 ⟨Nat.le_of_ble_eq_true rfl, Nat.le_of_ble_eq_true rfl⟩) (fw_preV hN hK hP (xm_19 (by omega)) (xk_19 r) rfl) rfl rfl hl.1 rfl (lv_room (Nat.le_of_ble_eq_true rfl)) xd_De_receive_27 ⟨Nat.le_of_ble_eq_true rfl, Nat.le_of_ble_eq_true rfl⟩) hS (fun v22 H locs ev22 hI hP hS => ?_)
      exact fw_vret hx hb hr hlocks hS hP hI xd_De_receive_30 (by subst ev22; simp only [xf_De_receive, if_neg c_1, if_pos c_2])
  · refine lv_aload_n hx hb xd_De_receive_8 rfl (lv_at hl 0 rfl) ?_
    refine lv_aload_n hx hb xd_De_receive_9 rfl (lv_at hl 1 rfl) ?_
    refine fw_geti hx hb hts i_Fm hown hK hP (xm_7 (by omega)) (xk_7 k1) rfl 2 (by decide) (hts _ L_De_88) (fun _ h9 => h9) rfl xd_De_receive_10 ?_
    refine fw_cv (va_runV (As := [.int (v0 7 k1 2)]) (rest := []) ⟨hx, hb, hml, hown, hts⟩ (xc_De_answerSeek l hD v0 hI (r) (by omega) (v0 7 k1 2)) (xw_De_answerSeek hts L_De_91 ⟨Nat.le_of_ble_eq_true rfl, Nat.le_of_ble_eq_true rfl⟩) (fw_preV hN hK hP (xm_19 (by omega)) (xk_19 r) rfl) rfl rfl hl.1 rfl (lv_room (Nat.le_of_ble_eq_true rfl)) xd_De_receive_13 ⟨Nat.le_of_ble_eq_true rfl, Nat.le_of_ble_eq_true rfl⟩) hS (fun v23 H locs ev23 hI hP hS => ?_)
    exact fw_vret hx hb hr hlocks hS hP hI xd_De_receive_16 (by subst ev23; simp only [xf_De_receive, if_pos c_1])
def xf_FR_deliver_j7 (v : fw_V) (a1 : Int32) (k2 : Nat) : Int32 × fw_V :=
  ((v 5 0 2), v)
def xf_FR_deliver_j6 (v : fw_V) (a1 : Int32) (k2 : Nat) : Int32 × fw_V :=
  xf_FR_deliver_j7 v a1 (k2)
def xf_FR_deliver_j5 (v : fw_V) (a1 : Int32) (k2 : Nat) : Int32 × fw_V :=
  let v16 := xf_De_receive v (1) (k2)
  xf_FR_deliver_j6 v16 a1 (k2)
def xf_FR_deliver_j4 (v : fw_V) (a1 : Int32) (k2 : Nat) : Int32 × fw_V :=
  if (v 7 k2 3) = (2 : Int32) then
    let v20 := xf_Re_receive v (1) (k2)
    xf_FR_deliver_j6 v20 a1 (k2)
  else
    if (v 7 k2 3) = (3 : Int32) then
      xf_FR_deliver_j5 v a1 (k2)
    else
      if (v 7 k2 3) = (1 : Int32) then
        xf_FR_deliver_j5 v a1 (k2)
      else
        xf_FR_deliver_j6 v a1 (k2)
def xf_FR_deliver_j3 (v : fw_V) (a1 : Int32) (k2 : Nat) : Int32 × fw_V :=
  xf_FR_deliver_j4 v a1 (k2)
def xf_FR_deliver_j2 (v : fw_V) (a1 : Int32) (k2 : Nat) : Int32 × fw_V :=
  let v12 := xf_De_receive v (0) (k2)
  xf_FR_deliver_j3 v12 a1 (k2)
def xf_FR_deliver_j1 (v : fw_V) (a1 : Int32) (k2 : Nat) : Int32 × fw_V :=
  if (v 7 k2 3) = (2 : Int32) then
    let v22 := xf_Re_receive v (0) (k2)
    xf_FR_deliver_j3 v22 a1 (k2)
  else
    if (v 7 k2 3) = (3 : Int32) then
      xf_FR_deliver_j2 v a1 (k2)
    else
      if (v 7 k2 3) = (0 : Int32) then
        xf_FR_deliver_j2 v a1 (k2)
      else
        xf_FR_deliver_j3 v a1 (k2)
def xf_FR_deliver (v0 : fw_V) (a1 : Int32) : Int32 × fw_V :=
  let r1 := xf_Wi_has v0 a1
  if r1 = (0 : Int32) then
    ((-2 : Int32), v0)
  else
    let p7 := xf_Wi_take v0 a1
    let y5 := p7.1
    let v6 := p7.2
    let v8 := fw_up v6 0 0 7 ((v6 0 0 7) + (1 : Int32))
    xf_FR_deliver_j1 v8 a1 (y5)

set_option maxHeartbeats 4000000 in
set_option maxRecDepth 100000 in
theorem xc_FR_deliver (l : Launch) {D : va_G} {cA : Nat → ClassId} {ad : Nat → Nat → Nat} (hD : fw_D xCL ad) {b : Nat} (v0 : fw_V) (hI : xI b v0) (a1 : Int32) (hq0 : b < 1990) : Met l xy_FR_deliver (Cond.code xy_FR_deliver xb_FR_deliver 4 (some .int) :: vTB) xrm_FR_deliver (fw_Pc vNL D vcls (vtys cA) xCL cA xkd ad v0 [.ref (ad 0 0), .int a1]) (fw_Qi D vcls xCL cA xkd ad (xI (b + 2)) (xf_FR_deliver v0 a1)) 0 0 (fw_A xCL ad) := by
  refine Met.ofW (cc := xb_FR_deliver) (maxL := 4) (ret := (some .int)) (by decide) rfl ?_
  intro p e s m args below meth c s₁ B hml hv
  obtain ⟨rfl, hP, hK, hN⟩ := hv
  have hx := B.exec
  have hb := B.bytes
  have hr := B.returns
  have hts : ∀ w ∈ vTB, w.before ([.ref (ad 0 0), .int a1] : List Value).toArray s = true := fun w h => atoms_spec (ws := (Cond.code xy_FR_deliver xb_FR_deliver 4 (some .int) :: vTB)) B.pre w (List.mem_cons_of_mem _ h)
  have hown : s.vm.findClass R_FR = some m.cls := findClass_of_methodNamed B.named
  have hlocks := B.notSynchronized
  have hS : va_S (fw_A xCL ad) s.heap s.heap [] := va_S.rf
  have J7 : ∀ (v : fw_V) (k2 : Nat) (H : Heap) (locs : List Loc) (ls : Array Slot), xf_FR_deliver v0 a1 = xf_FR_deliver_j7 v a1 k2 → k2 < 18 → xI (b + 2) v → va_P D vcls (fw_w xCL cA xkd ad v) H → va_S (fw_A xCL ad) s.heap H locs → lv_has ls 4 [(0, .ref (ad 0 0)), (2, .ref (ad 7 k2)), (3, .int (2 : Int32))] → W p l e (headSpec (Cond.code xy_FR_deliver xb_FR_deliver 4 (some .int) :: vTB) xrm_FR_deliver).room s m ([.ref (ad 0 0), .int a1] : List Value).toArray below meth c H locs 0 0 (MQ below (fw_Qi D vcls xCL cA xkd ad (xI (b + 2)) (xf_FR_deliver v0 a1)) ([.ref (ad 0 0), .int a1] : List Value).toArray s 0 0 (fw_A xCL ad)) (F0 m 35 ls []) := by
    intro v k2 H locs ls hj hc0 hI hP hS hl
    refine lv_iload_n hx hb xd_FR_deliver_35 rfl (lv_at hl 2 rfl) ?_
    refine lv_iconst (v := (2 : Int32)) hx hb xd_FR_deliver_36 (by decide) ?_
    refine lv_icmp_ge (tgt := 93) hx hb xd_FR_deliver_37 (by decide) (fun _ => ?_) (fun c_17 => absurd (by decide) c_17)
    refine lv_aload_n hx hb xd_FR_deliver_93 rfl (lv_at hl 0 rfl) ?_
    refine fw_getr hx hb hts i_FR hown hK hP (xm_0 (by decide)) (xk_0 0) rfl 1 (by decide) (hts _ L_FR_19) (fun _ h9 => h9) rfl xd_FR_deliver_94 ?_
    refine fw_geti hx hb hts i_Wi hown hK hP (xm_5 (by decide)) (xk_5 0) rfl 2 (by decide) (hts _ L_FR_147) (fun _ h9 => h9) rfl xd_FR_deliver_97 ?_
    have h_18 : vp_in (v 5 0 2) 17 := hI.1 5 0 2
    exact fw_iret hx hb hr hlocks hS hP hI xd_FR_deliver_100 (by rw [hj]; simp only [xf_FR_deliver_j7])
  have J6 : ∀ (v : fw_V) (k2 : Nat) (H : Heap) (locs : List Loc) (ls : Array Slot), xf_FR_deliver v0 a1 = xf_FR_deliver_j6 v a1 k2 → k2 < 18 → xI (b + 2) v → va_P D vcls (fw_w xCL cA xkd ad v) H → va_S (fw_A xCL ad) s.heap H locs → lv_has ls 4 [(0, .ref (ad 0 0)), (2, .ref (ad 7 k2)), (3, .int (1 : Int32))] → W p l e (headSpec (Cond.code xy_FR_deliver xb_FR_deliver 4 (some .int) :: vTB) xrm_FR_deliver).room s m ([.ref (ad 0 0), .int a1] : List Value).toArray below meth c H locs 0 0 (MQ below (fw_Qi D vcls xCL cA xkd ad (xI (b + 2)) (xf_FR_deliver v0 a1)) ([.ref (ad 0 0), .int a1] : List Value).toArray s 0 0 (fw_A xCL ad)) (F0 m 87 ls []) := by
    intro v k2 H locs ls hj hc0 hI hP hS hl
    refine lv_iinc (v := (2 : Int32)) (lv' := [(3, .int (2 : Int32)), (0, .ref (ad 0 0)), (2, .ref (ad 7 k2))]) hx hb xd_FR_deliver_87 hl (k := 2) rfl (by decide) (by decide) rfl (fun ls hl => ?_)
    refine lv_goto (tgt := 35) hx hb xd_FR_deliver_90 (by decide) ?_
    exact J7 v (k2) _ _ _ (by rw [hj]; simp only [xf_FR_deliver_j6]) (by omega)  hI hP hS (lv_sub hl [1, 2, 0] rfl)
  have J5 : ∀ (v : fw_V) (k2 : Nat) (H : Heap) (locs : List Loc) (ls : Array Slot), xf_FR_deliver v0 a1 = xf_FR_deliver_j5 v a1 k2 → k2 < 18 → xI (b + 1) v → va_P D vcls (fw_w xCL cA xkd ad v) H → va_S (fw_A xCL ad) s.heap H locs → lv_has ls 4 [(0, .ref (ad 0 0)), (2, .ref (ad 7 k2)), (3, .int (1 : Int32))] → W p l e (headSpec (Cond.code xy_FR_deliver xb_FR_deliver 4 (some .int) :: vTB) xrm_FR_deliver).room s m ([.ref (ad 0 0), .int a1] : List Value).toArray below meth c H locs 0 0 (MQ below (fw_Qi D vcls xCL cA xkd ad (xI (b + 2)) (xf_FR_deliver v0 a1)) ([.ref (ad 0 0), .int a1] : List Value).toArray s 0 0 (fw_A xCL ad)) (F0 m 77 ls []) := by
    intro v k2 H locs ls hj hc0 hI hP hS hl
    clear J7
    refine lv_aload_n hx hb xd_FR_deliver_77 rfl (lv_at hl 0 rfl) ?_
    refine fw_getr hx hb hts i_FR hown hK hP (xm_0 (by decide)) (xk_0 0) rfl 4 (by decide) (hts _ L_FR_38) (fun _ h9 => h9) rfl xd_FR_deliver_78 ?_
    refine lv_iload_n hx hb xd_FR_deliver_81 rfl (lv_at hl 2 rfl) ?_
    refine fw_alds hx hb hK hP (xm_12 (by decide)) (xk_12 0) 4 rfl (j := 1) (by decide) (fw_inc (by decide)) xd_FR_deliver_82 ?_
    refine lv_aload_n hx hb xd_FR_deliver_83 rfl (lv_at hl 1 rfl) ?_
    refine fw_cv (va_runV (As := [.ref (ad 7 k2)]) (rest := []) ⟨hx, hb, hml, hown, hts⟩ (xc_De_receive l hD v hI (1) (by omega) (k2) (by omega)) (xw_De_receive hts L_FR_146 ⟨Nat.le_of_ble_eq_true rfl, Nat.le_of_ble_eq_true rfl⟩) (fw_preV hN hK hP (xm_19 (by decide)) (xk_19 1) rfl) rfl rfl hl.1 rfl (lv_room (Nat.le_of_ble_eq_true rfl)) xd_FR_deliver_84 ⟨Nat.le_of_ble_eq_true rfl, Nat.le_of_ble_eq_true rfl⟩) hS (fun v16 H locs ev16 hI hP hS => ?_)
    exact J6 v16 (k2) _ _ _ (by rw [hj]; subst ev16; simp only [xf_FR_deliver_j5]) (by omega)  (xI_mono hI (by omega)) hP hS (lv_sub hl [0, 1, 2] rfl)
  have J4 : ∀ (v : fw_V) (k2 : Nat) (H : Heap) (locs : List Loc) (ls : Array Slot), xf_FR_deliver v0 a1 = xf_FR_deliver_j4 v a1 k2 → k2 < 18 → xI (b + 1) v → va_P D vcls (fw_w xCL cA xkd ad v) H → va_S (fw_A xCL ad) s.heap H locs → lv_has ls 4 [(0, .ref (ad 0 0)), (2, .ref (ad 7 k2)), (3, .int (1 : Int32))] → W p l e (headSpec (Cond.code xy_FR_deliver xb_FR_deliver 4 (some .int) :: vTB) xrm_FR_deliver).room s m ([.ref (ad 0 0), .int a1] : List Value).toArray below meth c H locs 0 0 (MQ below (fw_Qi D vcls xCL cA xkd ad (xI (b + 2)) (xf_FR_deliver v0 a1)) ([.ref (ad 0 0), .int a1] : List Value).toArray s 0 0 (fw_A xCL ad)) (F0 m 35 ls []) := by
    intro v k2 H locs ls hj hc0 hI hP hS hl
    clear J7
    refine lv_iload_n hx hb xd_FR_deliver_35 rfl (lv_at hl 2 rfl) ?_
    refine lv_iconst (v := (2 : Int32)) hx hb xd_FR_deliver_36 (by decide) ?_
    refine lv_icmp_ge (tgt := 93) hx hb xd_FR_deliver_37 (by decide) (fun c_13 => absurd c_13 (by decide)) (fun _ => ?_)
    refine lv_aload_n hx hb xd_FR_deliver_40 rfl (lv_at hl 1 rfl) ?_
    refine fw_geti hx hb hts i_Fm hown hK hP (xm_7 (by omega)) (xk_7 k2) rfl 3 (by decide) (hts _ L_FR_137) (fun _ h9 => h9) rfl xd_FR_deliver_41 ?_
    refine lv_iconst (v := (2 : Int32)) hx hb xd_FR_deliver_44 (by decide) ?_
    refine lv_icmp_ne (tgt := 61) hx hb xd_FR_deliver_45 (by decide) (fun c_14 => ?_) (fun c_14 => ?_)
    · refine lv_aload_n hx hb xd_FR_deliver_61 rfl (lv_at hl 1 rfl) ?_
      refine fw_geti hx hb hts i_Fm hown hK hP (xm_7 (by omega)) (xk_7 k2) rfl 3 (by decide) (hts _ L_FR_137) (fun _ h9 => h9) rfl xd_FR_deliver_62 ?_
      refine lv_iconst (v := (3 : Int32)) hx hb xd_FR_deliver_65 (by decide) ?_
      refine lv_icmp_eq (tgt := 77) hx hb xd_FR_deliver_66 (by decide) (fun c_15 => ?_) (fun c_15 => ?_)
      · exact J5 v (k2) _ _ _ (by rw [hj]; simp only [xf_FR_deliver_j4, if_neg c_14, if_pos c_15]) (by omega)  hI hP hS (lv_sub hl [0, 1, 2] rfl)
      · refine lv_aload_n hx hb xd_FR_deliver_69 rfl (lv_at hl 1 rfl) ?_
        refine fw_geti hx hb hts i_Fm hown hK hP (xm_7 (by omega)) (xk_7 k2) rfl 3 (by decide) (hts _ L_FR_137) (fun _ h9 => h9) rfl xd_FR_deliver_70 ?_
        refine lv_iload_n hx hb xd_FR_deliver_73 rfl (lv_at hl 2 rfl) ?_
        refine lv_icmp_ne (tgt := 87) hx hb xd_FR_deliver_74 (by decide) (fun c_19 => ?_) (fun c_19 => ?_)
        · exact J6 v (k2) _ _ _ (by rw [hj]; simp only [xf_FR_deliver_j4, if_neg c_14, if_neg c_15, if_neg c_19]) (by omega)  (xI_mono hI (by omega)) hP hS (lv_sub hl [0, 1, 2] rfl)
        · exact J5 v (k2) _ _ _ (by rw [hj]; simp only [xf_FR_deliver_j4, if_neg c_14, if_neg c_15, if_pos c_19]) (by omega)  hI hP hS (lv_sub hl [0, 1, 2] rfl)
    · refine lv_aload_n hx hb xd_FR_deliver_48 rfl (lv_at hl 0 rfl) ?_
      refine fw_getr hx hb hts i_FR hown hK hP (xm_0 (by decide)) (xk_0 0) rfl 3 (by decide) (hts _ L_FR_32) (fun _ h9 => h9) rfl xd_FR_deliver_49 ?_
      refine lv_iload_n hx hb xd_FR_deliver_52 rfl (lv_at hl 2 rfl) ?_
      refine fw_alds hx hb hK hP (xm_11 (by decide)) (xk_11 0) 3 rfl (j := 1) (by decide) (fw_inc (by decide)) xd_FR_deliver_53 ?_
      refine lv_aload_n hx hb xd_FR_deliver_54 rfl (lv_at hl 1 rfl) ?_
      refine fw_cv (va_runV (As := [.ref (ad 7 k2)]) (rest := []) ⟨hx, hb, hml, hown, hts⟩ (xc_Re_receive l hD v hI (1) (by omega) (k2) (by omega) (by omega)) (xw_Re_receive hts L_FR_142 ⟨Nat.le_of_ble_eq_true rfl, Nat.le_of_ble_eq_true rfl⟩) (fw_preV hN hK hP (xm_13 (by decide)) (xk_13 1) rfl) rfl rfl hl.1 rfl (lv_room (Nat.le_of_ble_eq_true rfl)) xd_FR_deliver_55 ⟨Nat.le_of_ble_eq_true rfl, Nat.le_of_ble_eq_true rfl⟩) hS (fun v20 H locs ev20 hI hP hS => ?_)
      refine lv_goto (tgt := 87) hx hb xd_FR_deliver_58 (by decide) ?_
      exact J6 v20 (k2) _ _ _ (by rw [hj]; subst ev20; simp only [xf_FR_deliver_j4, if_pos c_14]) (by omega)  hI hP hS (lv_sub hl [0, 1, 2] rfl)
  have J3 : ∀ (v : fw_V) (k2 : Nat) (H : Heap) (locs : List Loc) (ls : Array Slot), xf_FR_deliver v0 a1 = xf_FR_deliver_j3 v a1 k2 → k2 < 18 → xI (b + 1) v → va_P D vcls (fw_w xCL cA xkd ad v) H → va_S (fw_A xCL ad) s.heap H locs → lv_has ls 4 [(0, .ref (ad 0 0)), (2, .ref (ad 7 k2)), (3, .int (0 : Int32))] → W p l e (headSpec (Cond.code xy_FR_deliver xb_FR_deliver 4 (some .int) :: vTB) xrm_FR_deliver).room s m ([.ref (ad 0 0), .int a1] : List Value).toArray below meth c H locs 0 0 (MQ below (fw_Qi D vcls xCL cA xkd ad (xI (b + 2)) (xf_FR_deliver v0 a1)) ([.ref (ad 0 0), .int a1] : List Value).toArray s 0 0 (fw_A xCL ad)) (F0 m 87 ls []) := by
    intro v k2 H locs ls hj hc0 hI hP hS hl
    clear J7 J6 J5
    refine lv_iinc (v := (1 : Int32)) (lv' := [(3, .int (1 : Int32)), (0, .ref (ad 0 0)), (2, .ref (ad 7 k2))]) hx hb xd_FR_deliver_87 hl (k := 2) rfl (by decide) (by decide) rfl (fun ls hl => ?_)
    refine lv_goto (tgt := 35) hx hb xd_FR_deliver_90 (by decide) ?_
    exact J4 v (k2) _ _ _ (by rw [hj]; simp only [xf_FR_deliver_j3]) (by omega)  hI hP hS (lv_sub hl [1, 2, 0] rfl)
  have J2 : ∀ (v : fw_V) (k2 : Nat) (H : Heap) (locs : List Loc) (ls : Array Slot), xf_FR_deliver v0 a1 = xf_FR_deliver_j2 v a1 k2 → k2 < 18 → xI b v → va_P D vcls (fw_w xCL cA xkd ad v) H → va_S (fw_A xCL ad) s.heap H locs → lv_has ls 4 [(0, .ref (ad 0 0)), (2, .ref (ad 7 k2)), (3, .int (0 : Int32))] → W p l e (headSpec (Cond.code xy_FR_deliver xb_FR_deliver 4 (some .int) :: vTB) xrm_FR_deliver).room s m ([.ref (ad 0 0), .int a1] : List Value).toArray below meth c H locs 0 0 (MQ below (fw_Qi D vcls xCL cA xkd ad (xI (b + 2)) (xf_FR_deliver v0 a1)) ([.ref (ad 0 0), .int a1] : List Value).toArray s 0 0 (fw_A xCL ad)) (F0 m 77 ls []) := by
    intro v k2 H locs ls hj hc0 hI hP hS hl
    clear J7 J6 J5 J4
    refine lv_aload_n hx hb xd_FR_deliver_77 rfl (lv_at hl 0 rfl) ?_
    refine fw_getr hx hb hts i_FR hown hK hP (xm_0 (by decide)) (xk_0 0) rfl 4 (by decide) (hts _ L_FR_38) (fun _ h9 => h9) rfl xd_FR_deliver_78 ?_
    refine lv_iload_n hx hb xd_FR_deliver_81 rfl (lv_at hl 2 rfl) ?_
    refine fw_alds hx hb hK hP (xm_12 (by decide)) (xk_12 0) 4 rfl (j := 0) (by decide) (fw_inc (by decide)) xd_FR_deliver_82 ?_
    refine lv_aload_n hx hb xd_FR_deliver_83 rfl (lv_at hl 1 rfl) ?_
    refine fw_cv (va_runV (As := [.ref (ad 7 k2)]) (rest := []) ⟨hx, hb, hml, hown, hts⟩ (xc_De_receive l hD v hI (0) (by omega) (k2) (by omega)) (xw_De_receive hts L_FR_146 ⟨Nat.le_of_ble_eq_true rfl, Nat.le_of_ble_eq_true rfl⟩) (fw_preV hN hK hP (xm_19 (by decide)) (xk_19 0) rfl) rfl rfl hl.1 rfl (lv_room (Nat.le_of_ble_eq_true rfl)) xd_FR_deliver_84 ⟨Nat.le_of_ble_eq_true rfl, Nat.le_of_ble_eq_true rfl⟩) hS (fun v12 H locs ev12 hI hP hS => ?_)
    exact J3 v12 (k2) _ _ _ (by rw [hj]; subst ev12; simp only [xf_FR_deliver_j2]) (by omega)  (xI_mono hI (by omega)) hP hS (lv_sub hl [0, 1, 2] rfl)
  have J1 : ∀ (v : fw_V) (k2 : Nat) (H : Heap) (locs : List Loc) (ls : Array Slot), xf_FR_deliver v0 a1 = xf_FR_deliver_j1 v a1 k2 → k2 < 18 → xI b v → va_P D vcls (fw_w xCL cA xkd ad v) H → va_S (fw_A xCL ad) s.heap H locs → lv_has ls 4 [(0, .ref (ad 0 0)), (2, .ref (ad 7 k2)), (3, .int (0 : Int32))] → W p l e (headSpec (Cond.code xy_FR_deliver xb_FR_deliver 4 (some .int) :: vTB) xrm_FR_deliver).room s m ([.ref (ad 0 0), .int a1] : List Value).toArray below meth c H locs 0 0 (MQ below (fw_Qi D vcls xCL cA xkd ad (xI (b + 2)) (xf_FR_deliver v0 a1)) ([.ref (ad 0 0), .int a1] : List Value).toArray s 0 0 (fw_A xCL ad)) (F0 m 35 ls []) := by
    intro v k2 H locs ls hj hc0 hI hP hS hl
    clear J7 J6 J5 J4
    refine lv_iload_n hx hb xd_FR_deliver_35 rfl (lv_at hl 2 rfl) ?_
    refine lv_iconst (v := (2 : Int32)) hx hb xd_FR_deliver_36 (by decide) ?_
    refine lv_icmp_ge (tgt := 93) hx hb xd_FR_deliver_37 (by decide) (fun c_9 => absurd c_9 (by decide)) (fun _ => ?_)
    refine lv_aload_n hx hb xd_FR_deliver_40 rfl (lv_at hl 1 rfl) ?_
    refine fw_geti hx hb hts i_Fm hown hK hP (xm_7 (by omega)) (xk_7 k2) rfl 3 (by decide) (hts _ L_FR_137) (fun _ h9 => h9) rfl xd_FR_deliver_41 ?_
    refine lv_iconst (v := (2 : Int32)) hx hb xd_FR_deliver_44 (by decide) ?_
    refine lv_icmp_ne (tgt := 61) hx hb xd_FR_deliver_45 (by decide) (fun c_10 => ?_) (fun c_10 => ?_)
    · refine lv_aload_n hx hb xd_FR_deliver_61 rfl (lv_at hl 1 rfl) ?_
      refine fw_geti hx hb hts i_Fm hown hK hP (xm_7 (by omega)) (xk_7 k2) rfl 3 (by decide) (hts _ L_FR_137) (fun _ h9 => h9) rfl xd_FR_deliver_62 ?_
      refine lv_iconst (v := (3 : Int32)) hx hb xd_FR_deliver_65 (by decide) ?_
      refine lv_icmp_eq (tgt := 77) hx hb xd_FR_deliver_66 (by decide) (fun c_11 => ?_) (fun c_11 => ?_)
      · exact J2 v (k2) _ _ _ (by rw [hj]; simp only [xf_FR_deliver_j1, if_neg c_10, if_pos c_11]) (by omega)  hI hP hS (lv_sub hl [0, 1, 2] rfl)
      · refine lv_aload_n hx hb xd_FR_deliver_69 rfl (lv_at hl 1 rfl) ?_
        refine fw_geti hx hb hts i_Fm hown hK hP (xm_7 (by omega)) (xk_7 k2) rfl 3 (by decide) (hts _ L_FR_137) (fun _ h9 => h9) rfl xd_FR_deliver_70 ?_
        refine lv_iload_n hx hb xd_FR_deliver_73 rfl (lv_at hl 2 rfl) ?_
        refine lv_icmp_ne (tgt := 87) hx hb xd_FR_deliver_74 (by decide) (fun c_21 => ?_) (fun c_21 => ?_)
        · exact J3 v (k2) _ _ _ (by rw [hj]; simp only [xf_FR_deliver_j1, if_neg c_10, if_neg c_11, if_neg c_21]) (by omega)  (xI_mono hI (by omega)) hP hS (lv_sub hl [0, 1, 2] rfl)
        · exact J2 v (k2) _ _ _ (by rw [hj]; simp only [xf_FR_deliver_j1, if_neg c_10, if_neg c_11, if_pos c_21]) (by omega)  hI hP hS (lv_sub hl [0, 1, 2] rfl)
    · refine lv_aload_n hx hb xd_FR_deliver_48 rfl (lv_at hl 0 rfl) ?_
      refine fw_getr hx hb hts i_FR hown hK hP (xm_0 (by decide)) (xk_0 0) rfl 3 (by decide) (hts _ L_FR_32) (fun _ h9 => h9) rfl xd_FR_deliver_49 ?_
      refine lv_iload_n hx hb xd_FR_deliver_52 rfl (lv_at hl 2 rfl) ?_
      refine fw_alds hx hb hK hP (xm_11 (by decide)) (xk_11 0) 3 rfl (j := 0) (by decide) (fw_inc (by decide)) xd_FR_deliver_53 ?_
      refine lv_aload_n hx hb xd_FR_deliver_54 rfl (lv_at hl 1 rfl) ?_
      refine fw_cv (va_runV (As := [.ref (ad 7 k2)]) (rest := []) ⟨hx, hb, hml, hown, hts⟩ (xc_Re_receive l hD v hI (0) (by omega) (k2) (by omega) (by omega)) (xw_Re_receive hts L_FR_142 ⟨Nat.le_of_ble_eq_true rfl, Nat.le_of_ble_eq_true rfl⟩) (fw_preV hN hK hP (xm_13 (by decide)) (xk_13 0) rfl) rfl rfl hl.1 rfl (lv_room (Nat.le_of_ble_eq_true rfl)) xd_FR_deliver_55 ⟨Nat.le_of_ble_eq_true rfl, Nat.le_of_ble_eq_true rfl⟩) hS (fun v22 H locs ev22 hI hP hS => ?_)
      refine lv_goto (tgt := 87) hx hb xd_FR_deliver_58 (by decide) ?_
      exact J3 v22 (k2) _ _ _ (by rw [hj]; subst ev22; simp only [xf_FR_deliver_j1, if_pos c_10]) (by omega)  hI hP hS (lv_sub hl [0, 1, 2] rfl)
  clear J7 J6 J5 J4 J3 J2
  have hl := lv_entry ([.ref (ad 0 0), .int a1]) (n := 4) (Nat.le_of_ble_eq_true rfl)
  rw [lg_entry_eq]
  generalize (lg_sl ([.ref (ad 0 0), .int a1]) ++ List.replicate (4 - (lg_sl ([.ref (ad 0 0), .int a1])).length) Slot.unset).toArray = ls at hl ⊢
  have hl : lv_has ls 4 [(0, .ref (ad 0 0)), (1, .int a1)] := hl
  refine lv_aload_n hx hb xd_FR_deliver_0 rfl (lv_at hl 0 rfl) ?_
  refine fw_getr hx hb hts i_FR hown hK hP (xm_0 (by decide)) (xk_0 0) rfl 1 (by decide) (hts _ L_FR_19) (fun _ h9 => h9) rfl xd_FR_deliver_1 ?_
  refine lv_iload_n hx hb xd_FR_deliver_4 rfl (lv_at hl 1 rfl) ?_
  refine fw_cb (va_runV (As := [.int a1]) (rest := []) ⟨hx, hb, hml, hown, hts⟩ (xc_Wi_has l hD v0 hI a1) (xw_Wi_has hts L_FR_127 ⟨Nat.le_of_ble_eq_true rfl, Nat.le_of_ble_eq_true rfl⟩) (fw_preV hN hK hP (xm_5 (by decide)) (xk_5 0) rfl) rfl rfl hl.1 rfl (lv_room (Nat.le_of_ble_eq_true rfl)) xd_FR_deliver_5 ⟨Nat.le_of_ble_eq_true rfl, Nat.le_of_ble_eq_true rfl⟩) hS (fun r1 H locs zr1 er1 hP hS => ?_)
  refine lv_if_ne (tgt := 14) hx hb xd_FR_deliver_8 (by decide) (fun c_2 => ?_) (fun c_2 => ?_)
  · have h_3 : 0 < (v0 5 0 2).toInt := xp_hasPos er1 c_2 (hI.1 5 0 2)
    have h_4 : vp_in a1 16 := xp_has er1 c_2 (hI.1 5 0 2)
    refine lv_aload_n hx hb xd_FR_deliver_14 rfl (lv_at hl 0 rfl) ?_
    refine fw_getr hx hb hts i_FR hown hK hP (xm_0 (by decide)) (xk_0 0) rfl 1 (by decide) (hts _ L_FR_19) (fun _ h9 => h9) rfl xd_FR_deliver_15 ?_
    refine lv_iload_n hx hb xd_FR_deliver_18 rfl (lv_at hl 1 rfl) ?_
    refine fw_cr (va_runV (As := [.int a1]) (rest := []) ⟨hx, hb, hml, hown, hts⟩ (xc_Wi_take l hD v0 hI a1 h_4 h_3) (xw_Wi_take hts L_FR_130 ⟨Nat.le_of_ble_eq_true rfl, Nat.le_of_ble_eq_true rfl⟩) (fw_preV hN hK hP (xm_5 (by decide)) (xk_5 0) rfl) rfl rfl hl.1 rfl (lv_room (Nat.le_of_ble_eq_true rfl)) xd_FR_deliver_19 ⟨Nat.le_of_ble_eq_true rfl, Nat.le_of_ble_eq_true rfl⟩) hS (fun y5 v6 H locs ly5 ey5 ev6 hI hP hS => ?_)
    refine lv_astore_n (lv' := [(2, .ref (ad 7 y5)), (0, .ref (ad 0 0)), (1, .int a1)]) hx hb xd_FR_deliver_22 rfl hl (by decide) rfl (fun ls hl => ?_)
    refine lv_aload_n hx hb xd_FR_deliver_23 rfl (lv_at hl 1 rfl) ?_
    refine lv_dup hx hb xd_FR_deliver_24 rfl ?_
    refine fw_geti hx hb hts i_FR hown hK hP (xm_0 (by decide)) (xk_0 0) rfl 7 (by decide) (hts _ L_FR_134) (fun _ h9 => h9) rfl xd_FR_deliver_25 ?_
    refine lv_iconst (v := (1 : Int32)) hx hb xd_FR_deliver_28 (by decide) ?_
    refine lv_iadd hx hb xd_FR_deliver_29 ?_
    refine fw_puti hx hb hts i_FR t_FR t_FR_ok n_FR hown hK hD hP hS (xm_0 (by decide)) (xk_0 0) rfl 7 (by decide) (hts _ L_FR_134) (fun _ h9 => h9) rfl fw_pdI rfl rfl rfl xd_FR_deliver_30 (fun v8 H locs ev8 hP hS => ?_)
    have hI : xI b v8 := by rw [ev8]; exact xI_up hI trivial trivial
    refine lv_iconst (v := (0 : Int32)) hx hb xd_FR_deliver_33 (by decide) ?_
    refine lv_istore_n (lv' := [(3, .int (0 : Int32)), (2, .ref (ad 7 y5)), (0, .ref (ad 0 0)), (1, .int a1)]) hx hb xd_FR_deliver_34 rfl hl (by decide) rfl (fun ls hl => ?_)
    exact J1 v8 (y5) _ _ _ (by subst er1 ey5 ev6 ev8; simp only [xf_FR_deliver, if_neg c_2]) (by omega)  hI hP hS (lv_sub hl [2, 1, 0] rfl)
  · refine lv_bipush (v := (-2 : Int32)) hx hb xd_FR_deliver_11 (by decide) ?_
    exact fw_iret hx hb hr hlocks hS hP (xI_mono hI (by omega)) xd_FR_deliver_13 (by subst er1; simp only [xf_FR_deliver, if_pos c_2])
def xf_FR_lose (v0 : fw_V) (a1 : Int32) : Int32 × fw_V :=
  let r1 := xf_Wi_has v0 a1
  if r1 = (0 : Int32) then
    ((-2 : Int32), v0)
  else
    let p7 := xf_Wi_take v0 a1
    let y5 := p7.1
    let v6 := p7.2
    ((v6 5 0 2), v6)

set_option maxHeartbeats 4000000 in
set_option maxRecDepth 100000 in
theorem xc_FR_lose (l : Launch) {D : va_G} {cA : Nat → ClassId} {ad : Nat → Nat → Nat} (hD : fw_D xCL ad) {b : Nat} (v0 : fw_V) (hI : xI b v0) (a1 : Int32)  : Met l xy_FR_lose (Cond.code xy_FR_lose xb_FR_lose 2 (some .int) :: vTB) xrm_FR_lose (fw_Pc vNL D vcls (vtys cA) xCL cA xkd ad v0 [.ref (ad 0 0), .int a1]) (fw_Qi D vcls xCL cA xkd ad (xI b) (xf_FR_lose v0 a1)) 0 0 (fw_A xCL ad) := by
  refine Met.ofW (cc := xb_FR_lose) (maxL := 2) (ret := (some .int)) (by decide) rfl ?_
  intro p e s m args below meth c s₁ B hml hv
  obtain ⟨rfl, hP, hK, hN⟩ := hv
  have hx := B.exec
  have hb := B.bytes
  have hr := B.returns
  have hts : ∀ w ∈ vTB, w.before ([.ref (ad 0 0), .int a1] : List Value).toArray s = true := fun w h => atoms_spec (ws := (Cond.code xy_FR_lose xb_FR_lose 2 (some .int) :: vTB)) B.pre w (List.mem_cons_of_mem _ h)
  have hown : s.vm.findClass R_FR = some m.cls := findClass_of_methodNamed B.named
  have hlocks := B.notSynchronized
  have hS : va_S (fw_A xCL ad) s.heap s.heap [] := va_S.rf
  skip
  have hl := lv_entry ([.ref (ad 0 0), .int a1]) (n := 2) (Nat.le_of_ble_eq_true rfl)
  rw [lg_entry_eq]
  generalize (lg_sl ([.ref (ad 0 0), .int a1]) ++ List.replicate (2 - (lg_sl ([.ref (ad 0 0), .int a1])).length) Slot.unset).toArray = ls at hl ⊢
  have hl : lv_has ls 2 [(0, .ref (ad 0 0)), (1, .int a1)] := hl
  refine lv_aload_n hx hb xd_FR_lose_0 rfl (lv_at hl 0 rfl) ?_
  refine fw_getr hx hb hts i_FR hown hK hP (xm_0 (by decide)) (xk_0 0) rfl 1 (by decide) (hts _ L_FR_19) (fun _ h9 => h9) rfl xd_FR_lose_1 ?_
  refine lv_iload_n hx hb xd_FR_lose_4 rfl (lv_at hl 1 rfl) ?_
  refine fw_cb (va_runV (As := [.int a1]) (rest := []) ⟨hx, hb, hml, hown, hts⟩ (xc_Wi_has l hD v0 hI a1) (xw_Wi_has hts L_FR_127 ⟨Nat.le_of_ble_eq_true rfl, Nat.le_of_ble_eq_true rfl⟩) (fw_preV hN hK hP (xm_5 (by decide)) (xk_5 0) rfl) rfl rfl hl.1 rfl (lv_room (Nat.le_of_ble_eq_true rfl)) xd_FR_lose_5 ⟨Nat.le_of_ble_eq_true rfl, Nat.le_of_ble_eq_true rfl⟩) hS (fun r1 H locs zr1 er1 hP hS => ?_)
  refine lv_if_ne (tgt := 14) hx hb xd_FR_lose_8 (by decide) (fun c_2 => ?_) (fun c_2 => ?_)
  · have h_3 : 0 < (v0 5 0 2).toInt := xp_hasPos er1 c_2 (hI.1 5 0 2)
    have h_4 : vp_in a1 16 := xp_has er1 c_2 (hI.1 5 0 2)
    refine lv_aload_n hx hb xd_FR_lose_14 rfl (lv_at hl 0 rfl) ?_
    refine fw_getr hx hb hts i_FR hown hK hP (xm_0 (by decide)) (xk_0 0) rfl 1 (by decide) (hts _ L_FR_19) (fun _ h9 => h9) rfl xd_FR_lose_15 ?_
    refine lv_iload_n hx hb xd_FR_lose_18 rfl (lv_at hl 1 rfl) ?_
    refine fw_cr (va_runV (As := [.int a1]) (rest := []) ⟨hx, hb, hml, hown, hts⟩ (xc_Wi_take l hD v0 hI a1 h_4 h_3) (xw_Wi_take hts L_FR_130 ⟨Nat.le_of_ble_eq_true rfl, Nat.le_of_ble_eq_true rfl⟩) (fw_preV hN hK hP (xm_5 (by decide)) (xk_5 0) rfl) rfl rfl hl.1 rfl (lv_room (Nat.le_of_ble_eq_true rfl)) xd_FR_lose_19 ⟨Nat.le_of_ble_eq_true rfl, Nat.le_of_ble_eq_true rfl⟩) hS (fun y5 v6 H locs ly5 ey5 ev6 hI hP hS => ?_)
    refine lv_pop hx hb xd_FR_lose_22 rfl ?_
    refine lv_aload_n hx hb xd_FR_lose_23 rfl (lv_at hl 0 rfl) ?_
    refine fw_getr hx hb hts i_FR hown hK hP (xm_0 (by decide)) (xk_0 0) rfl 1 (by decide) (hts _ L_FR_19) (fun _ h9 => h9) rfl xd_FR_lose_24 ?_
    refine fw_geti hx hb hts i_Wi hown hK hP (xm_5 (by decide)) (xk_5 0) rfl 2 (by decide) (hts _ L_FR_147) (fun _ h9 => h9) rfl xd_FR_lose_27 ?_
    have h_8 : vp_in (v6 5 0 2) 17 := hI.1 5 0 2
    exact fw_iret hx hb hr hlocks hS hP hI xd_FR_lose_30 (by subst er1 ey5 ev6; simp only [xf_FR_lose, if_neg c_2])
  · refine lv_bipush (v := (-2 : Int32)) hx hb xd_FR_lose_11 (by decide) ?_
    exact fw_iret hx hb hr hlocks hS hP hI xd_FR_lose_13 (by subst er1; simp only [xf_FR_lose, if_pos c_2])
def xf_Fm_copyFrom (v0 : fw_V) (r : Nat) (k1 : Nat) : fw_V :=
  let v1 := xf_Fm_set v0 (r) (v0 7 k1 0) (v0 7 k1 1) (v0 7 k1 2) (v0 7 k1 3)
  let v2 := fw_row v1 8 r (va_cpy (v1 8 k1) (v1 8 r) ((0 : Int32)).toNatClampNeg ((0 : Int32)).toNatClampNeg ((7 : Int32)).toNatClampNeg)
  v2

set_option maxHeartbeats 4000000 in
set_option maxRecDepth 100000 in
theorem xc_Fm_copyFrom (l : Launch) {D : va_G} {cA : Nat → ClassId} {ad : Nat → Nat → Nat} (hD : fw_D xCL ad) {b : Nat} (v0 : fw_V) (hI : xI b v0) (r : Nat) (hr0 : r < 18) (k1 : Nat) (hk1 : k1 < 18)  : Met l xy_Fm_copyFrom (Cond.code xy_Fm_copyFrom xb_Fm_copyFrom 2 none :: vTB) xrm_Fm_copyFrom (fw_Pc vNL D vcls (vtys cA) xCL cA xkd ad v0 [.ref (ad 7 r), .ref (ad 7 k1)]) (fw_Qv D vcls xCL cA xkd ad (xI b) (xf_Fm_copyFrom v0 r k1)) 0 0 (fw_A xCL ad) := by
  refine Met.ofW (cc := xb_Fm_copyFrom) (maxL := 2) (ret := none) (by decide) rfl ?_
  intro p e s m args below meth c s₁ B hml hv
  obtain ⟨rfl, hP, hK, hN⟩ := hv
  have hx := B.exec
  have hb := B.bytes
  have hr := B.returns
  have hts : ∀ w ∈ vTB, w.before ([.ref (ad 7 r), .ref (ad 7 k1)] : List Value).toArray s = true := fun w h => atoms_spec (ws := (Cond.code xy_Fm_copyFrom xb_Fm_copyFrom 2 none :: vTB)) B.pre w (List.mem_cons_of_mem _ h)
  have hown : s.vm.findClass R_Fm = some m.cls := findClass_of_methodNamed B.named
  have hlocks := B.notSynchronized
  have hS : va_S (fw_A xCL ad) s.heap s.heap [] := va_S.rf
  skip
  have hl := lv_entry ([.ref (ad 7 r), .ref (ad 7 k1)]) (n := 2) (Nat.le_of_ble_eq_true rfl)
  rw [lg_entry_eq]
  generalize (lg_sl ([.ref (ad 7 r), .ref (ad 7 k1)]) ++ List.replicate (2 - (lg_sl ([.ref (ad 7 r), .ref (ad 7 k1)])).length) Slot.unset).toArray = ls at hl ⊢
  have hl : lv_has ls 2 [(0, .ref (ad 7 r)), (1, .ref (ad 7 k1))] := hl
  refine lv_aload_n hx hb xd_Fm_copyFrom_0 rfl (lv_at hl 0 rfl) ?_
  refine lv_aload_n hx hb xd_Fm_copyFrom_1 rfl (lv_at hl 1 rfl) ?_
  refine fw_geti hx hb hts i_Fm hown hK hP (xm_7 (by omega)) (xk_7 k1) rfl 0 (by decide) (hts _ L_Fm_15) (fun _ h9 => h9) rfl xd_Fm_copyFrom_2 ?_
  refine lv_aload_n hx hb xd_Fm_copyFrom_5 rfl (lv_at hl 1 rfl) ?_
  refine fw_geti hx hb hts i_Fm hown hK hP (xm_7 (by omega)) (xk_7 k1) rfl 1 (by decide) (hts _ L_Fm_19) (fun _ h9 => h9) rfl xd_Fm_copyFrom_6 ?_
  refine lv_aload_n hx hb xd_Fm_copyFrom_9 rfl (lv_at hl 1 rfl) ?_
  refine fw_geti hx hb hts i_Fm hown hK hP (xm_7 (by omega)) (xk_7 k1) rfl 2 (by decide) (hts _ L_Fm_22) (fun _ h9 => h9) rfl xd_Fm_copyFrom_10 ?_
  refine lv_aload_n hx hb xd_Fm_copyFrom_13 rfl (lv_at hl 1 rfl) ?_
  refine fw_geti hx hb hts i_Fm hown hK hP (xm_7 (by omega)) (xk_7 k1) rfl 3 (by decide) (hts _ L_Fm_25) (fun _ h9 => h9) rfl xd_Fm_copyFrom_14 ?_
  refine fw_cv (va_runV (As := [.int (v0 7 k1 0), .int (v0 7 k1 1), .int (v0 7 k1 2), .int (v0 7 k1 3)]) (rest := []) ⟨hx, hb, hml, hown, hts⟩ (xc_Fm_set l hD v0 hI (r) (by omega) (v0 7 k1 0) (v0 7 k1 1) (v0 7 k1 2) (v0 7 k1 3)) (xw_Fm_set hts L_Fm_34 ⟨Nat.le_of_ble_eq_true rfl, Nat.le_of_ble_eq_true rfl⟩) (fw_preV hN hK hP (xm_7 (by omega)) (xk_7 r) rfl) rfl rfl hl.1 rfl (lv_room (Nat.le_of_ble_eq_true rfl)) xd_Fm_copyFrom_17 ⟨Nat.le_of_ble_eq_true rfl, Nat.le_of_ble_eq_true rfl⟩) hS (fun v1 H locs ev1 hI hP hS => ?_)
  refine lv_aload_n hx hb xd_Fm_copyFrom_20 rfl (lv_at hl 1 rfl) ?_
  refine fw_getr hx hb hts i_Fm hown hK hP (xm_7 (by omega)) (xk_7 k1) rfl 4 (by decide) (hts _ L_Fm_11) (fun _ h9 => h9) rfl xd_Fm_copyFrom_21 ?_
  refine lv_iconst (v := (0 : Int32)) hx hb xd_Fm_copyFrom_24 (by decide) ?_
  refine lv_aload_n hx hb xd_Fm_copyFrom_25 rfl (lv_at hl 0 rfl) ?_
  refine fw_getr hx hb hts i_Fm hown hK hP (xm_7 (by omega)) (xk_7 r) rfl 4 (by decide) (hts _ L_Fm_11) (fun _ h9 => h9) rfl xd_Fm_copyFrom_26 ?_
  refine lv_iconst (v := (0 : Int32)) hx hb xd_Fm_copyFrom_29 (by decide) ?_
  refine lv_bipush (v := (7 : Int32)) hx hb xd_Fm_copyFrom_30 (by decide) ?_
  refine fw_copy hx hb (hml.trans hl.1.symm) hown (hts _ L_Fm_38) (hts _ L_acN) (hts _ L_acS) (hts _ L_acI) hK hD hP hS (xm_8 (by omega)) (xm_8 (by omega)) (xk_8 k1) (xk_8 r) 0 0 rfl rfl (by decide) (by decide) (by decide) (by decide) (by decide) (Nat.le_of_ble_eq_true rfl) (Nat.le_of_ble_eq_true rfl) xd_Fm_copyFrom_32 (fun v2 H locs ev2 hP hS => ?_)
  have hI : xI b v2 := by rw [ev2]; exact xI_row hI (fun _ => trivial) (by decide)
  exact fw_vret hx hb hr hlocks hS hP hI xd_Fm_copyFrom_35 (by subst ev1 ev2; simp only [xf_Fm_copyFrom])
def xf_Wi_copyToEnd (v0 : fw_V) (a1 : Int32) : fw_V :=
  let v4 := xf_Fm_copyFrom v0 ((v0 6 0 (v0 5 0 2).toNatClampNeg).toNatClampNeg) ((v0 6 0 a1.toNatClampNeg).toNatClampNeg)
  let v6 := fw_up v4 5 0 2 ((v4 5 0 2) + (1 : Int32))
  v6

set_option maxHeartbeats 4000000 in
set_option maxRecDepth 100000 in
theorem xc_Wi_copyToEnd (l : Launch) {D : va_G} {cA : Nat → ClassId} {ad : Nat → Nat → Nat} (hD : fw_D xCL ad) {b : Nat} (v0 : fw_V) (hI : xI b v0) (a1 : Int32) (hq0 : vp_in a1 16) (hq1 : vp_in (v0 5 0 2) 16) : Met l xy_Wi_copyToEnd (Cond.code xy_Wi_copyToEnd xb_Wi_copyToEnd 2 none :: vTB) xrm_Wi_copyToEnd (fw_Pc vNL D vcls (vtys cA) xCL cA xkd ad v0 [.ref (ad 5 0), .int a1]) (fw_Qv D vcls xCL cA xkd ad (xI b) (xf_Wi_copyToEnd v0 a1)) 0 0 (fw_A xCL ad) := by
  refine Met.ofW (cc := xb_Wi_copyToEnd) (maxL := 2) (ret := none) (by decide) rfl ?_
  intro p e s m args below meth c s₁ B hml hv
  obtain ⟨rfl, hP, hK, hN⟩ := hv
  have hx := B.exec
  have hb := B.bytes
  have hr := B.returns
  have hts : ∀ w ∈ vTB, w.before ([.ref (ad 5 0), .int a1] : List Value).toArray s = true := fun w h => atoms_spec (ws := (Cond.code xy_Wi_copyToEnd xb_Wi_copyToEnd 2 none :: vTB)) B.pre w (List.mem_cons_of_mem _ h)
  have hown : s.vm.findClass R_Wi = some m.cls := findClass_of_methodNamed B.named
  have hlocks := B.notSynchronized
  have hS : va_S (fw_A xCL ad) s.heap s.heap [] := va_S.rf
  skip
  have hl := lv_entry ([.ref (ad 5 0), .int a1]) (n := 2) (Nat.le_of_ble_eq_true rfl)
  rw [lg_entry_eq]
  generalize (lg_sl ([.ref (ad 5 0), .int a1]) ++ List.replicate (2 - (lg_sl ([.ref (ad 5 0), .int a1])).length) Slot.unset).toArray = ls at hl ⊢
  have hl : lv_has ls 2 [(0, .ref (ad 5 0)), (1, .int a1)] := hl
  refine lv_aload_n hx hb xd_Wi_copyToEnd_0 rfl (lv_at hl 0 rfl) ?_
  refine fw_getr hx hb hts i_Wi hown hK hP (xm_5 (by decide)) (xk_5 0) rfl 0 (by decide) (hts _ L_Wi_11) (fun _ h9 => h9) rfl xd_Wi_copyToEnd_1 ?_
  refine lv_aload_n hx hb xd_Wi_copyToEnd_4 rfl (lv_at hl 0 rfl) ?_
  refine fw_geti hx hb hts i_Wi hown hK hP (xm_5 (by decide)) (xk_5 0) rfl 2 (by decide) (hts _ L_Wi_20) (fun _ h9 => h9) rfl xd_Wi_copyToEnd_5 ?_
  have h_1 : vp_in (v0 5 0 2) 17 := hI.1 5 0 2
  have k_2 : (v0 6 0 (v0 5 0 2).toNatClampNeg).toNatClampNeg < 18 := fw_inlt (hI.1 6 0 ((v0 5 0 2).toNatClampNeg))
  refine fw_aldv hx hb hK hP (xm_6 (by decide)) (xk_6 0) 2 rfl (j := (v0 5 0 2).toNatClampNeg) rfl h_1 xd_Wi_copyToEnd_8 ?_
  refine lv_aload_n hx hb xd_Wi_copyToEnd_9 rfl (lv_at hl 0 rfl) ?_
  refine fw_getr hx hb hts i_Wi hown hK hP (xm_5 (by decide)) (xk_5 0) rfl 0 (by decide) (hts _ L_Wi_11) (fun _ h9 => h9) rfl xd_Wi_copyToEnd_10 ?_
  refine lv_iload_n hx hb xd_Wi_copyToEnd_13 rfl (lv_at hl 1 rfl) ?_
  have k_3 : (v0 6 0 a1.toNatClampNeg).toNatClampNeg < 18 := fw_inlt (hI.1 6 0 (a1.toNatClampNeg))
  refine fw_aldv hx hb hK hP (xm_6 (by decide)) (xk_6 0) 2 rfl (j := a1.toNatClampNeg) rfl (fw_inm hq0 (by decide)) xd_Wi_copyToEnd_14 ?_
  refine fw_cv (va_runV (As := [.ref (ad 7 (v0 6 0 a1.toNatClampNeg).toNatClampNeg)]) (rest := []) ⟨hx, hb, hml, hown, hts⟩ (xc_Fm_copyFrom l hD v0 hI ((v0 6 0 (v0 5 0 2).toNatClampNeg).toNatClampNeg) (by omega) ((v0 6 0 a1.toNatClampNeg).toNatClampNeg) (by omega)) (xw_Fm_copyFrom hts L_Wi_44 ⟨Nat.le_of_ble_eq_true rfl, Nat.le_of_ble_eq_true rfl⟩) (fw_preV hN hK hP (xm_7 (by omega)) (xk_7 (v0 6 0 (v0 5 0 2).toNatClampNeg).toNatClampNeg) rfl) rfl rfl hl.1 rfl (lv_room (Nat.le_of_ble_eq_true rfl)) xd_Wi_copyToEnd_15 ⟨Nat.le_of_ble_eq_true rfl, Nat.le_of_ble_eq_true rfl⟩) hS (fun v4 H locs ev4 hI hP hS => ?_)
  refine lv_aload_n hx hb xd_Wi_copyToEnd_18 rfl (lv_at hl 0 rfl) ?_
  refine lv_dup hx hb xd_Wi_copyToEnd_19 rfl ?_
  refine fw_geti hx hb hts i_Wi hown hK hP (xm_5 (by decide)) (xk_5 0) rfl 2 (by decide) (hts _ L_Wi_20) (fun _ h9 => h9) rfl xd_Wi_copyToEnd_20 ?_
  have h_5 : vp_in (v4 5 0 2) 17 := hI.1 5 0 2
  refine lv_iconst (v := (1 : Int32)) hx hb xd_Wi_copyToEnd_23 (by decide) ?_
  refine lv_iadd hx hb xd_Wi_copyToEnd_24 ?_
  refine fw_puti hx hb hts i_Wi t_Wi t_Wi_ok n_Wi hown hK hD hP hS (xm_5 (by decide)) (xk_5 0) rfl 2 (by decide) (hts _ L_Wi_20) (fun _ h9 => h9) rfl fw_pdI rfl rfl rfl xd_Wi_copyToEnd_25 (fun v6 H locs ev6 hP hS => ?_)
  have hI : xI b v6 := by rw [ev6]; exact xI_up hI (fw_inp1 (by rw [show v4 5 0 2 = v0 5 0 2 by rw [ev4]; rfl]; exact hq1) (by decide)) trivial
  exact fw_vret hx hb hr hlocks hS hP hI xd_Wi_copyToEnd_28 (by subst ev4 ev6; simp only [xf_Wi_copyToEnd])
def xf_FR_repeat (v0 : fw_V) (a1 : Int32) : Int32 × fw_V :=
  let r1 := xf_Wi_has v0 a1
  if r1 = (0 : Int32) then
    ((-2 : Int32), v0)
  else
    let r5 := xf_Wi_isFull v0
    if r5 = (0 : Int32) then
      let v8 := xf_Wi_copyToEnd v0 a1
      ((v8 5 0 2), v8)
    else
      ((-2 : Int32), v0)

set_option maxHeartbeats 4000000 in
set_option maxRecDepth 100000 in
theorem xc_FR_repeat (l : Launch) {D : va_G} {cA : Nat → ClassId} {ad : Nat → Nat → Nat} (hD : fw_D xCL ad) {b : Nat} (v0 : fw_V) (hI : xI b v0) (a1 : Int32)  : Met l xy_FR_repeat (Cond.code xy_FR_repeat xb_FR_repeat 2 (some .int) :: vTB) xrm_FR_repeat (fw_Pc vNL D vcls (vtys cA) xCL cA xkd ad v0 [.ref (ad 0 0), .int a1]) (fw_Qi D vcls xCL cA xkd ad (xI b) (xf_FR_repeat v0 a1)) 0 0 (fw_A xCL ad) := by
  refine Met.ofW (cc := xb_FR_repeat) (maxL := 2) (ret := (some .int)) (by decide) rfl ?_
  intro p e s m args below meth c s₁ B hml hv
  obtain ⟨rfl, hP, hK, hN⟩ := hv
  have hx := B.exec
  have hb := B.bytes
  have hr := B.returns
  have hts : ∀ w ∈ vTB, w.before ([.ref (ad 0 0), .int a1] : List Value).toArray s = true := fun w h => atoms_spec (ws := (Cond.code xy_FR_repeat xb_FR_repeat 2 (some .int) :: vTB)) B.pre w (List.mem_cons_of_mem _ h)
  have hown : s.vm.findClass R_FR = some m.cls := findClass_of_methodNamed B.named
  have hlocks := B.notSynchronized
  have hS : va_S (fw_A xCL ad) s.heap s.heap [] := va_S.rf
  skip
  have hl := lv_entry ([.ref (ad 0 0), .int a1]) (n := 2) (Nat.le_of_ble_eq_true rfl)
  rw [lg_entry_eq]
  generalize (lg_sl ([.ref (ad 0 0), .int a1]) ++ List.replicate (2 - (lg_sl ([.ref (ad 0 0), .int a1])).length) Slot.unset).toArray = ls at hl ⊢
  have hl : lv_has ls 2 [(0, .ref (ad 0 0)), (1, .int a1)] := hl
  refine lv_aload_n hx hb xd_FR_repeat_0 rfl (lv_at hl 0 rfl) ?_
  refine fw_getr hx hb hts i_FR hown hK hP (xm_0 (by decide)) (xk_0 0) rfl 1 (by decide) (hts _ L_FR_19) (fun _ h9 => h9) rfl xd_FR_repeat_1 ?_
  refine lv_iload_n hx hb xd_FR_repeat_4 rfl (lv_at hl 1 rfl) ?_
  refine fw_cb (va_runV (As := [.int a1]) (rest := []) ⟨hx, hb, hml, hown, hts⟩ (xc_Wi_has l hD v0 hI a1) (xw_Wi_has hts L_FR_127 ⟨Nat.le_of_ble_eq_true rfl, Nat.le_of_ble_eq_true rfl⟩) (fw_preV hN hK hP (xm_5 (by decide)) (xk_5 0) rfl) rfl rfl hl.1 rfl (lv_room (Nat.le_of_ble_eq_true rfl)) xd_FR_repeat_5 ⟨Nat.le_of_ble_eq_true rfl, Nat.le_of_ble_eq_true rfl⟩) hS (fun r1 H locs zr1 er1 hP hS => ?_)
  refine lv_if_eq (tgt := 21) hx hb xd_FR_repeat_8 (by decide) (fun c_2 => ?_) (fun c_2 => ?_)
  · refine lv_bipush (v := (-2 : Int32)) hx hb xd_FR_repeat_21 (by decide) ?_
    exact fw_iret hx hb hr hlocks hS hP hI xd_FR_repeat_23 (by subst er1; simp only [xf_FR_repeat, if_pos c_2])
  · have h_3 : 0 < (v0 5 0 2).toInt := xp_hasPos er1 c_2 (hI.1 5 0 2)
    have h_4 : vp_in a1 16 := xp_has er1 c_2 (hI.1 5 0 2)
    refine lv_aload_n hx hb xd_FR_repeat_11 rfl (lv_at hl 0 rfl) ?_
    refine fw_getr hx hb hts i_FR hown hK hP (xm_0 (by decide)) (xk_0 0) rfl 1 (by decide) (hts _ L_FR_19) (fun _ h9 => h9) rfl xd_FR_repeat_12 ?_
    refine fw_cb (va_runV (As := []) (rest := []) ⟨hx, hb, hml, hown, hts⟩ (xc_Wi_isFull l hD v0 hI ) (xw_Wi_isFull hts L_FR_150 ⟨Nat.le_of_ble_eq_true rfl, Nat.le_of_ble_eq_true rfl⟩) (fw_preV hN hK hP (xm_5 (by decide)) (xk_5 0) rfl) rfl rfl hl.1 rfl (lv_room (Nat.le_of_ble_eq_true rfl)) xd_FR_repeat_15 ⟨Nat.le_of_ble_eq_true rfl, Nat.le_of_ble_eq_true rfl⟩) hS (fun r5 H locs zr5 er5 hP hS => ?_)
    refine lv_if_eq (tgt := 24) hx hb xd_FR_repeat_18 (by decide) (fun c_6 => ?_) (fun c_6 => ?_)
    · have h_7 : vp_in (v0 5 0 2) 16 := xp_notFull er5 c_6 (hI.1 5 0 2)
      refine lv_aload_n hx hb xd_FR_repeat_24 rfl (lv_at hl 0 rfl) ?_
      refine fw_getr hx hb hts i_FR hown hK hP (xm_0 (by decide)) (xk_0 0) rfl 1 (by decide) (hts _ L_FR_19) (fun _ h9 => h9) rfl xd_FR_repeat_25 ?_
      refine lv_iload_n hx hb xd_FR_repeat_28 rfl (lv_at hl 1 rfl) ?_
      refine fw_cv (va_runV (As := [.int a1]) (rest := []) ⟨hx, hb, hml, hown, hts⟩ (xc_Wi_copyToEnd l hD v0 hI a1 h_4 h_7) (xw_Wi_copyToEnd hts L_FR_153 ⟨Nat.le_of_ble_eq_true rfl, Nat.le_of_ble_eq_true rfl⟩) (fw_preV hN hK hP (xm_5 (by decide)) (xk_5 0) rfl) rfl rfl hl.1 rfl (lv_room (Nat.le_of_ble_eq_true rfl)) xd_FR_repeat_29 ⟨Nat.le_of_ble_eq_true rfl, Nat.le_of_ble_eq_true rfl⟩) hS (fun v8 H locs ev8 hI hP hS => ?_)
      refine lv_aload_n hx hb xd_FR_repeat_32 rfl (lv_at hl 0 rfl) ?_
      refine fw_getr hx hb hts i_FR hown hK hP (xm_0 (by decide)) (xk_0 0) rfl 1 (by decide) (hts _ L_FR_19) (fun _ h9 => h9) rfl xd_FR_repeat_33 ?_
      refine fw_geti hx hb hts i_Wi hown hK hP (xm_5 (by decide)) (xk_5 0) rfl 2 (by decide) (hts _ L_FR_147) (fun _ h9 => h9) rfl xd_FR_repeat_36 ?_
      have h_9 : vp_in (v8 5 0 2) 17 := hI.1 5 0 2
      exact fw_iret hx hb hr hlocks hS hP hI xd_FR_repeat_39 (by subst er1 er5 ev8; simp only [xf_FR_repeat, if_neg c_2, if_pos c_6])
    · refine lv_bipush (v := (-2 : Int32)) hx hb xd_FR_repeat_21 (by decide) ?_
      exact fw_iret hx hb hr hlocks hS hP hI xd_FR_repeat_23 (by subst er1 er5; simp only [xf_FR_repeat, if_neg c_2, if_neg c_6])
def xf_Cy_nextToSend (v0 : fw_V) (r : Nat) : Int32 × fw_V :=
  let v1 := fw_up v0 14 r 0 (((v0 14 r 0) + (1 : Int32)) &&& (255 : Int32))
  ((v0 14 r 0), v1)

set_option maxHeartbeats 4000000 in
set_option maxRecDepth 100000 in
theorem xc_Cy_nextToSend (l : Launch) {D : va_G} {cA : Nat → ClassId} {ad : Nat → Nat → Nat} (hD : fw_D xCL ad) {b : Nat} (v0 : fw_V) (hI : xI b v0) (r : Nat) (hr0 : r < 4)  : Met l xy_Cy_nextToSend (Cond.code xy_Cy_nextToSend xb_Cy_nextToSend 2 (some .int) :: vTB) xrm_Cy_nextToSend (fw_Pc vNL D vcls (vtys cA) xCL cA xkd ad v0 [.ref (ad 14 r)]) (fw_Qi D vcls xCL cA xkd ad (xI b) (xf_Cy_nextToSend v0 r)) 0 0 (fw_A xCL ad) := by
  refine Met.ofW (cc := xb_Cy_nextToSend) (maxL := 2) (ret := (some .int)) (by decide) rfl ?_
  intro p e s m args below meth c s₁ B hml hv
  obtain ⟨rfl, hP, hK, hN⟩ := hv
  have hx := B.exec
  have hb := B.bytes
  have hr := B.returns
  have hts : ∀ w ∈ vTB, w.before ([.ref (ad 14 r)] : List Value).toArray s = true := fun w h => atoms_spec (ws := (Cond.code xy_Cy_nextToSend xb_Cy_nextToSend 2 (some .int) :: vTB)) B.pre w (List.mem_cons_of_mem _ h)
  have hown : s.vm.findClass R_Cy = some m.cls := findClass_of_methodNamed B.named
  have hlocks := B.notSynchronized
  have hS : va_S (fw_A xCL ad) s.heap s.heap [] := va_S.rf
  skip
  have hl := lv_entry ([.ref (ad 14 r)]) (n := 2) (Nat.le_of_ble_eq_true rfl)
  rw [lg_entry_eq]
  generalize (lg_sl ([.ref (ad 14 r)]) ++ List.replicate (2 - (lg_sl ([.ref (ad 14 r)])).length) Slot.unset).toArray = ls at hl ⊢
  have hl : lv_has ls 2 [(0, .ref (ad 14 r))] := hl
  refine lv_aload_n hx hb xd_Cy_nextToSend_0 rfl (lv_at hl 0 rfl) ?_
  refine fw_geti hx hb hts i_Cy hown hK hP (xm_14 (by omega)) (xk_14 r) rfl 0 (by decide) (hts _ L_Cy_15) (fun _ h9 => h9) rfl xd_Cy_nextToSend_1 ?_
  refine lv_istore_n (lv' := [(1, .int (v0 14 r 0)), (0, .ref (ad 14 r))]) hx hb xd_Cy_nextToSend_4 rfl hl (by decide) rfl (fun ls hl => ?_)
  refine lv_aload_n hx hb xd_Cy_nextToSend_5 rfl (lv_at hl 1 rfl) ?_
  refine lv_aload_n hx hb xd_Cy_nextToSend_6 rfl (lv_at hl 1 rfl) ?_
  refine fw_geti hx hb hts i_Cy hown hK hP (xm_14 (by omega)) (xk_14 r) rfl 0 (by decide) (hts _ L_Cy_15) (fun _ h9 => h9) rfl xd_Cy_nextToSend_7 ?_
  refine lv_iconst (v := (1 : Int32)) hx hb xd_Cy_nextToSend_10 (by decide) ?_
  refine lv_iadd hx hb xd_Cy_nextToSend_11 ?_
  refine lv_sipush (v := (255 : Int32)) hx hb xd_Cy_nextToSend_12 (by decide) ?_
  refine lv_iand hx hb xd_Cy_nextToSend_15 ?_
  refine fw_puti hx hb hts i_Cy t_Cy t_Cy_ok n_Cy hown hK hD hP hS (xm_14 (by omega)) (xk_14 r) rfl 0 (by decide) (hts _ L_Cy_15) (fun _ h9 => h9) rfl fw_pdI rfl rfl rfl xd_Cy_nextToSend_16 (fun v1 H locs ev1 hP hS => ?_)
  have hI : xI b v1 := by rw [ev1]; exact xI_up hI trivial trivial
  refine lv_iload_n hx hb xd_Cy_nextToSend_19 rfl (lv_at hl 0 rfl) ?_
  exact fw_iret hx hb hr hlocks hS hP hI xd_Cy_nextToSend_20 (by subst ev1; simp only [xf_Cy_nextToSend])
def xf_Re_sendOutput_j10 (v : fw_V) (r : Nat) (k1 : Nat) : fw_V :=
  v
def xf_Re_sendOutput_j12 (v : fw_V) (r : Nat) (k1 : Nat) (x3 : Int32) : fw_V :=
  xf_Re_sendOutput_j10 v r (k1)
def xf_Re_sendOutput_j11 (v : fw_V) (r : Nat) (k1 : Nat) (x3 : Int32) : fw_V :=
  if x3 ≤ (1 : Int32) then
    xf_Re_sendOutput_j10 v r (k1)
  else
    let v32 := fw_up v 8 k1 (5) (v 17 r 5)
    xf_Re_sendOutput_j12 v32 r (k1) (x3)
def xf_Re_sendOutput_j9 (v : fw_V) (r : Nat) (k1 : Nat) (x3 : Int32) : fw_V :=
  if x3 ≤ (0 : Int32) then
    xf_Re_sendOutput_j10 v r (k1)
  else
    let v28 := fw_up v 8 k1 (4) (v 17 r 4)
    xf_Re_sendOutput_j11 v28 r (k1) (x3)
def xf_Re_sendOutput_j8 (v : fw_V) (r : Nat) (k1 : Nat) (x90 : Int32) : fw_V :=
  xf_Re_sendOutput_j9 v r (k1) (x90)
def xf_Re_sendOutput_j14 (v : fw_V) (r : Nat) (k1 : Nat) : fw_V :=
  xf_Re_sendOutput_j10 v r (k1)
def xf_Re_sendOutput_j13 (v : fw_V) (r : Nat) (k1 : Nat) : fw_V :=
  xf_Re_sendOutput_j14 v r (k1)
def xf_Re_sendOutput_j7 (v : fw_V) (r : Nat) (k1 : Nat) : fw_V :=
  let r20 := xf_FR_hasSlot (v 13 r 13) (2 : Int32)
  if r20 = (0 : Int32) then
    let r22 := xf_KT_outsOf v (v 15 r 2)
    xf_Re_sendOutput_j8 v r (k1) (r22)
  else
    xf_Re_sendOutput_j13 v r (k1)
def xf_Re_sendOutput_j16 (v : fw_V) (r : Nat) (k1 : Nat) (x3 : Int32) : fw_V :=
  xf_Re_sendOutput_j7 v r (k1)
def xf_Re_sendOutput_j15 (v : fw_V) (r : Nat) (k1 : Nat) (x3 : Int32) : fw_V :=
  if x3 ≤ (1 : Int32) then
    xf_Re_sendOutput_j7 v r (k1)
  else
    let v41 := fw_up v 8 k1 (3) (v 17 r 3)
    xf_Re_sendOutput_j16 v41 r (k1) (x3)
def xf_Re_sendOutput_j6 (v : fw_V) (r : Nat) (k1 : Nat) (x3 : Int32) : fw_V :=
  if x3 ≤ (0 : Int32) then
    xf_Re_sendOutput_j7 v r (k1)
  else
    let v37 := fw_up v 8 k1 (2) (v 17 r 2)
    xf_Re_sendOutput_j15 v37 r (k1) (x3)
def xf_Re_sendOutput_j5 (v : fw_V) (r : Nat) (k1 : Nat) (x90 : Int32) : fw_V :=
  xf_Re_sendOutput_j6 v r (k1) (x90)
def xf_Re_sendOutput_j18 (v : fw_V) (r : Nat) (k1 : Nat) : fw_V :=
  xf_Re_sendOutput_j7 v r (k1)
def xf_Re_sendOutput_j17 (v : fw_V) (r : Nat) (k1 : Nat) : fw_V :=
  xf_Re_sendOutput_j18 v r (k1)
def xf_Re_sendOutput_j4 (v : fw_V) (r : Nat) (k1 : Nat) : fw_V :=
  let r14 := xf_FR_hasSlot (v 13 r 13) (1 : Int32)
  if r14 = (0 : Int32) then
    let r16 := xf_KT_outsOf v (v 15 r 1)
    xf_Re_sendOutput_j5 v r (k1) (r16)
  else
    xf_Re_sendOutput_j17 v r (k1)
def xf_Re_sendOutput_j20 (v : fw_V) (r : Nat) (k1 : Nat) (x3 : Int32) : fw_V :=
  xf_Re_sendOutput_j4 v r (k1)
def xf_Re_sendOutput_j19 (v : fw_V) (r : Nat) (k1 : Nat) (x3 : Int32) : fw_V :=
  if x3 ≤ (1 : Int32) then
    xf_Re_sendOutput_j4 v r (k1)
  else
    let v50 := fw_up v 8 k1 (1) (v 17 r 1)
    xf_Re_sendOutput_j20 v50 r (k1) (x3)
def xf_Re_sendOutput_j3 (v : fw_V) (r : Nat) (k1 : Nat) (x3 : Int32) : fw_V :=
  if x3 ≤ (0 : Int32) then
    xf_Re_sendOutput_j4 v r (k1)
  else
    let v46 := fw_up v 8 k1 (0) (v 17 r 0)
    xf_Re_sendOutput_j19 v46 r (k1) (x3)
def xf_Re_sendOutput_j2 (v : fw_V) (r : Nat) (k1 : Nat) (x90 : Int32) : fw_V :=
  xf_Re_sendOutput_j3 v r (k1) (x90)
def xf_Re_sendOutput_j22 (v : fw_V) (r : Nat) (k1 : Nat) : fw_V :=
  xf_Re_sendOutput_j4 v r (k1)
def xf_Re_sendOutput_j21 (v : fw_V) (r : Nat) (k1 : Nat) : fw_V :=
  xf_Re_sendOutput_j22 v r (k1)
def xf_Re_sendOutput_j1 (v : fw_V) (r : Nat) (k1 : Nat) : fw_V :=
  let r8 := xf_FR_hasSlot (v 13 r 13) (0 : Int32)
  if r8 = (0 : Int32) then
    let r10 := xf_KT_outsOf v (v 15 r 0)
    xf_Re_sendOutput_j2 v r (k1) (r10)
  else
    xf_Re_sendOutput_j21 v r (k1)
def xf_Re_sendOutput (v0 : fw_V) (r : Nat) : fw_V :=
  let p3 := xf_Cy_nextToSend v0 (r)
  let r1 := p3.1
  let v2 := p3.2
  let p6 := xf_Wi_send v2 (12 : Int32) (v0 13 r 11) r1 (v2 13 r 12)
  let y4 := p6.1
  let v5 := p6.2
  xf_Re_sendOutput_j1 v5 r (y4)

set_option maxHeartbeats 4000000 in
set_option maxRecDepth 100000 in
theorem xc_Re_sendOutput (l : Launch) {D : va_G} {cA : Nat → ClassId} {ad : Nat → Nat → Nat} (hD : fw_D xCL ad) {b : Nat} (v0 : fw_V) (hI : xI b v0) (r : Nat) (hr0 : r < 2)  : Met l xy_Re_sendOutput (Cond.code xy_Re_sendOutput xb_Re_sendOutput 5 none :: vTB) xrm_Re_sendOutput (fw_Pc vNL D vcls (vtys cA) xCL cA xkd ad v0 [.ref (ad 13 r)]) (fw_Qv D vcls xCL cA xkd ad (xI b) (xf_Re_sendOutput v0 r)) 0 0 (fw_A xCL ad) := by
  refine Met.ofW (cc := xb_Re_sendOutput) (maxL := 5) (ret := none) (by decide) rfl ?_
  intro p e s m args below meth c s₁ B hml hv
  obtain ⟨rfl, hP, hK, hN⟩ := hv
  have hx := B.exec
  have hb := B.bytes
  have hr := B.returns
  have hts : ∀ w ∈ vTB, w.before ([.ref (ad 13 r)] : List Value).toArray s = true := fun w h => atoms_spec (ws := (Cond.code xy_Re_sendOutput xb_Re_sendOutput 5 none :: vTB)) B.pre w (List.mem_cons_of_mem _ h)
  have hown : s.vm.findClass R_Re = some m.cls := findClass_of_methodNamed B.named
  have hlocks := B.notSynchronized
  have hS : va_S (fw_A xCL ad) s.heap s.heap [] := va_S.rf
  have J10 : ∀ (v : fw_V) (k1 : Nat) (H : Heap) (locs : List Loc) (ls : Array Slot), xf_Re_sendOutput v0 r = xf_Re_sendOutput_j10 v r k1 → k1 < 18 → xI b v → va_P D vcls (fw_w xCL cA xkd ad v) H → va_S (fw_A xCL ad) s.heap H locs → lv_has ls 5 [(0, .ref (ad 13 r)), (1, .ref (ad 7 k1)), (2, .int (3 : Int32))] → W p l e (headSpec (Cond.code xy_Re_sendOutput xb_Re_sendOutput 5 none :: vTB) xrm_Re_sendOutput).room s m ([.ref (ad 13 r)] : List Value).toArray below meth c H locs 0 0 (MQ below (fw_Qv D vcls xCL cA xkd ad (xI b) (xf_Re_sendOutput v0 r)) ([.ref (ad 13 r)] : List Value).toArray s 0 0 (fw_A xCL ad)) (F0 m 27 ls []) := by
    intro v k1 H locs ls hj hc0 hI hP hS hl
    refine lv_iload_n hx hb xd_Re_sendOutput_27 rfl (lv_at hl 2 rfl) ?_
    refine lv_iconst (v := (3 : Int32)) hx hb xd_Re_sendOutput_28 (by decide) ?_
    refine lv_icmp_ge (tgt := 104) hx hb xd_Re_sendOutput_29 (by decide) (fun _ => ?_) (fun c_25 => absurd (by decide) c_25)
    exact fw_vret hx hb hr hlocks hS hP hI xd_Re_sendOutput_104 (by rw [hj]; simp only [xf_Re_sendOutput_j10])
  have J12 : ∀ (v : fw_V) (k1 : Nat) (x3 : Int32) (H : Heap) (locs : List Loc) (ls : Array Slot), xf_Re_sendOutput v0 r = xf_Re_sendOutput_j12 v r k1 x3 → k1 < 18 → vp_in x3 3 → xI b v → va_P D vcls (fw_w xCL cA xkd ad v) H → va_S (fw_A xCL ad) s.heap H locs → lv_has ls 5 [(0, .ref (ad 13 r)), (1, .ref (ad 7 k1)), (2, .int (2 : Int32)), (3, .int x3), (4, .int (2 : Int32))] → W p l e (headSpec (Cond.code xy_Re_sendOutput xb_Re_sendOutput 5 none :: vTB) xrm_Re_sendOutput).room s m ([.ref (ad 13 r)] : List Value).toArray below meth c H locs 0 0 (MQ below (fw_Qv D vcls xCL cA xkd ad (xI b) (xf_Re_sendOutput v0 r)) ([.ref (ad 13 r)] : List Value).toArray s 0 0 (fw_A xCL ad)) (F0 m 64 ls []) := by
    intro v k1 x3 H locs ls hj hc0 hc1 hI hP hS hl
    refine lv_iload hx hb xd_Re_sendOutput_64 (lv_at hl 4 rfl) ?_
    refine lv_iload_n hx hb xd_Re_sendOutput_66 rfl (lv_at hl 3 rfl) ?_
    refine lv_icmp_ge (tgt := 98) hx hb xd_Re_sendOutput_67 (by decide) (fun c_33 => ?_) (fun c_33 => absurd (fw_ley hc1 (by decide)) c_33)
    refine lv_iinc (v := (3 : Int32)) (lv' := [(2, .int (3 : Int32)), (0, .ref (ad 13 r)), (1, .ref (ad 7 k1)), (3, .int x3), (4, .int (2 : Int32))]) hx hb xd_Re_sendOutput_98 hl (k := 2) rfl (by decide) (by decide) rfl (fun ls hl => ?_)
    refine lv_goto (tgt := 27) hx hb xd_Re_sendOutput_101 (by decide) ?_
    exact J10 v (k1) _ _ _ (by rw [hj]; simp only [xf_Re_sendOutput_j12]) (by omega)  hI hP hS (lv_sub hl [1, 2, 0] rfl)
  have J11 : ∀ (v : fw_V) (k1 : Nat) (x3 : Int32) (H : Heap) (locs : List Loc) (ls : Array Slot), xf_Re_sendOutput v0 r = xf_Re_sendOutput_j11 v r k1 x3 → k1 < 18 → vp_in x3 3 → xI b v → va_P D vcls (fw_w xCL cA xkd ad v) H → va_S (fw_A xCL ad) s.heap H locs → lv_has ls 5 [(0, .ref (ad 13 r)), (1, .ref (ad 7 k1)), (2, .int (2 : Int32)), (3, .int x3), (4, .int (1 : Int32))] → W p l e (headSpec (Cond.code xy_Re_sendOutput xb_Re_sendOutput 5 none :: vTB) xrm_Re_sendOutput).room s m ([.ref (ad 13 r)] : List Value).toArray below meth c H locs 0 0 (MQ below (fw_Qv D vcls xCL cA xkd ad (xI b) (xf_Re_sendOutput v0 r)) ([.ref (ad 13 r)] : List Value).toArray s 0 0 (fw_A xCL ad)) (F0 m 64 ls []) := by
    intro v k1 x3 H locs ls hj hc0 hc1 hI hP hS hl
    refine lv_iload hx hb xd_Re_sendOutput_64 (lv_at hl 4 rfl) ?_
    refine lv_iload_n hx hb xd_Re_sendOutput_66 rfl (lv_at hl 3 rfl) ?_
    refine lv_icmp_ge (tgt := 98) hx hb xd_Re_sendOutput_67 (by decide) (fun c_29 => ?_) (fun c_29 => ?_)
    · refine lv_iinc (v := (3 : Int32)) (lv' := [(2, .int (3 : Int32)), (0, .ref (ad 13 r)), (1, .ref (ad 7 k1)), (3, .int x3), (4, .int (1 : Int32))]) hx hb xd_Re_sendOutput_98 hl (k := 2) rfl (by decide) (by decide) rfl (fun ls hl => ?_)
      refine lv_goto (tgt := 27) hx hb xd_Re_sendOutput_101 (by decide) ?_
      exact J10 v (k1) _ _ _ (by rw [hj]; simp only [xf_Re_sendOutput_j11, if_pos c_29]) (by omega)  hI hP hS (lv_sub hl [1, 2, 0] rfl)
    · refine lv_aload_n hx hb xd_Re_sendOutput_70 rfl (lv_at hl 1 rfl) ?_
      refine fw_getr hx hb hts i_Fm hown hK hP (xm_7 (by omega)) (xk_7 k1) rfl 4 (by decide) (hts _ L_Re_130) (fun _ h9 => h9) rfl xd_Re_sendOutput_71 ?_
      refine lv_iload_n hx hb xd_Re_sendOutput_74 rfl (lv_at hl 2 rfl) ?_
      refine lv_iload hx hb xd_Re_sendOutput_75 (lv_at hl 4 rfl) ?_
      refine fw_co (va_runSN (As := [.int (2 : Int32), .int (1 : Int32)]) (rest := [.ref (ad 8 k1)]) ⟨hx, hb, hml, hown, hts⟩ (xc_FR_place l hD v hI (2 : Int32) (1 : Int32)) (xwn_FR_place hts (hN.2 _ L_Re_200) ⟨Nat.le_of_ble_eq_true rfl, Nat.le_of_ble_eq_true rfl⟩) (fw_preS hN hK hP) rfl rfl hl.1 rfl (lv_room (Nat.le_of_ble_eq_true rfl)) xd_Re_sendOutput_77 ⟨Nat.le_of_ble_eq_true rfl, Nat.le_of_ble_eq_true rfl⟩) hS (fun r30 H locs er30 hP hS => ?_)
      obtain rfl : r30 = (5 : Int32) := er30.trans (by decide)
      refine lv_aload_n hx hb xd_Re_sendOutput_80 rfl (lv_at hl 0 rfl) ?_
      refine fw_getr hx hb hts i_Re hown hK hP (xm_13 (by omega)) (xk_13 r) rfl 8 (by decide) (hts _ L_Re_25) (fun _ h9 => h9) rfl xd_Re_sendOutput_81 ?_
      refine lv_iload_n hx hb xd_Re_sendOutput_84 rfl (lv_at hl 2 rfl) ?_
      refine lv_iload hx hb xd_Re_sendOutput_85 (lv_at hl 4 rfl) ?_
      refine fw_co (va_runSN (As := [.int (2 : Int32), .int (1 : Int32)]) (rest := [.ref (ad 17 r), .int (5 : Int32), .ref (ad 8 k1)]) ⟨hx, hb, hml, hown, hts⟩ (xc_FR_place l hD v hI (2 : Int32) (1 : Int32)) (xwn_FR_place hts (hN.2 _ L_Re_200) ⟨Nat.le_of_ble_eq_true rfl, Nat.le_of_ble_eq_true rfl⟩) (fw_preS hN hK hP) rfl rfl hl.1 rfl (lv_room (Nat.le_of_ble_eq_true rfl)) xd_Re_sendOutput_87 ⟨Nat.le_of_ble_eq_true rfl, Nat.le_of_ble_eq_true rfl⟩) hS (fun r31 H locs er31 hP hS => ?_)
      obtain rfl : r31 = (5 : Int32) := er31.trans (by decide)
      refine fw_iald hx hb hK hP (xm_17 (by omega)) (xk_17 r) 0 rfl (j := 5) (by decide) (fw_inc (by decide)) xd_Re_sendOutput_90 ?_
      refine fw_iast hx hb hK hD hP hS (xm_8 (by omega)) (xk_8 k1) 0 rfl (j := 5) (by decide) (fw_inc (by decide)) xd_Re_sendOutput_91 (fun v32 H locs ev32 hP hS => ?_)
      have hI : xI b v32 := by rw [ev32]; exact xI_up hI trivial trivial
      refine lv_iinc (v := (2 : Int32)) (lv' := [(4, .int (2 : Int32)), (0, .ref (ad 13 r)), (1, .ref (ad 7 k1)), (2, .int (2 : Int32)), (3, .int x3)]) hx hb xd_Re_sendOutput_92 hl (k := 4) rfl (by decide) (by decide) rfl (fun ls hl => ?_)
      refine lv_goto (tgt := 64) hx hb xd_Re_sendOutput_95 (by decide) ?_
      exact J12 v32 (k1) (x3) _ _ _ (by rw [hj]; subst ev32; simp only [xf_Re_sendOutput_j11, if_neg c_29]) (by omega) hc1  hI hP hS (lv_sub hl [1, 2, 3, 4, 0] rfl)
  have J9 : ∀ (v : fw_V) (k1 : Nat) (x3 : Int32) (H : Heap) (locs : List Loc) (ls : Array Slot), xf_Re_sendOutput v0 r = xf_Re_sendOutput_j9 v r k1 x3 → k1 < 18 → vp_in x3 3 → xI b v → va_P D vcls (fw_w xCL cA xkd ad v) H → va_S (fw_A xCL ad) s.heap H locs → lv_has ls 5 [(0, .ref (ad 13 r)), (1, .ref (ad 7 k1)), (2, .int (2 : Int32)), (3, .int x3), (4, .int (0 : Int32))] → W p l e (headSpec (Cond.code xy_Re_sendOutput xb_Re_sendOutput 5 none :: vTB) xrm_Re_sendOutput).room s m ([.ref (ad 13 r)] : List Value).toArray below meth c H locs 0 0 (MQ below (fw_Qv D vcls xCL cA xkd ad (xI b) (xf_Re_sendOutput v0 r)) ([.ref (ad 13 r)] : List Value).toArray s 0 0 (fw_A xCL ad)) (F0 m 64 ls []) := by
    intro v k1 x3 H locs ls hj hc0 hc1 hI hP hS hl
    clear J12
    refine lv_iload hx hb xd_Re_sendOutput_64 (lv_at hl 4 rfl) ?_
    refine lv_iload_n hx hb xd_Re_sendOutput_66 rfl (lv_at hl 3 rfl) ?_
    refine lv_icmp_ge (tgt := 98) hx hb xd_Re_sendOutput_67 (by decide) (fun c_24 => ?_) (fun c_24 => ?_)
    · refine lv_iinc (v := (3 : Int32)) (lv' := [(2, .int (3 : Int32)), (0, .ref (ad 13 r)), (1, .ref (ad 7 k1)), (3, .int x3), (4, .int (0 : Int32))]) hx hb xd_Re_sendOutput_98 hl (k := 2) rfl (by decide) (by decide) rfl (fun ls hl => ?_)
      refine lv_goto (tgt := 27) hx hb xd_Re_sendOutput_101 (by decide) ?_
      exact J10 v (k1) _ _ _ (by rw [hj]; simp only [xf_Re_sendOutput_j9, if_pos c_24]) (by omega)  hI hP hS (lv_sub hl [1, 2, 0] rfl)
    · refine lv_aload_n hx hb xd_Re_sendOutput_70 rfl (lv_at hl 1 rfl) ?_
      refine fw_getr hx hb hts i_Fm hown hK hP (xm_7 (by omega)) (xk_7 k1) rfl 4 (by decide) (hts _ L_Re_130) (fun _ h9 => h9) rfl xd_Re_sendOutput_71 ?_
      refine lv_iload_n hx hb xd_Re_sendOutput_74 rfl (lv_at hl 2 rfl) ?_
      refine lv_iload hx hb xd_Re_sendOutput_75 (lv_at hl 4 rfl) ?_
      refine fw_co (va_runSN (As := [.int (2 : Int32), .int (0 : Int32)]) (rest := [.ref (ad 8 k1)]) ⟨hx, hb, hml, hown, hts⟩ (xc_FR_place l hD v hI (2 : Int32) (0 : Int32)) (xwn_FR_place hts (hN.2 _ L_Re_200) ⟨Nat.le_of_ble_eq_true rfl, Nat.le_of_ble_eq_true rfl⟩) (fw_preS hN hK hP) rfl rfl hl.1 rfl (lv_room (Nat.le_of_ble_eq_true rfl)) xd_Re_sendOutput_77 ⟨Nat.le_of_ble_eq_true rfl, Nat.le_of_ble_eq_true rfl⟩) hS (fun r26 H locs er26 hP hS => ?_)
      obtain rfl : r26 = (4 : Int32) := er26.trans (by decide)
      refine lv_aload_n hx hb xd_Re_sendOutput_80 rfl (lv_at hl 0 rfl) ?_
      refine fw_getr hx hb hts i_Re hown hK hP (xm_13 (by omega)) (xk_13 r) rfl 8 (by decide) (hts _ L_Re_25) (fun _ h9 => h9) rfl xd_Re_sendOutput_81 ?_
      refine lv_iload_n hx hb xd_Re_sendOutput_84 rfl (lv_at hl 2 rfl) ?_
      refine lv_iload hx hb xd_Re_sendOutput_85 (lv_at hl 4 rfl) ?_
      refine fw_co (va_runSN (As := [.int (2 : Int32), .int (0 : Int32)]) (rest := [.ref (ad 17 r), .int (4 : Int32), .ref (ad 8 k1)]) ⟨hx, hb, hml, hown, hts⟩ (xc_FR_place l hD v hI (2 : Int32) (0 : Int32)) (xwn_FR_place hts (hN.2 _ L_Re_200) ⟨Nat.le_of_ble_eq_true rfl, Nat.le_of_ble_eq_true rfl⟩) (fw_preS hN hK hP) rfl rfl hl.1 rfl (lv_room (Nat.le_of_ble_eq_true rfl)) xd_Re_sendOutput_87 ⟨Nat.le_of_ble_eq_true rfl, Nat.le_of_ble_eq_true rfl⟩) hS (fun r27 H locs er27 hP hS => ?_)
      obtain rfl : r27 = (4 : Int32) := er27.trans (by decide)
      refine fw_iald hx hb hK hP (xm_17 (by omega)) (xk_17 r) 0 rfl (j := 4) (by decide) (fw_inc (by decide)) xd_Re_sendOutput_90 ?_
      refine fw_iast hx hb hK hD hP hS (xm_8 (by omega)) (xk_8 k1) 0 rfl (j := 4) (by decide) (fw_inc (by decide)) xd_Re_sendOutput_91 (fun v28 H locs ev28 hP hS => ?_)
      have hI : xI b v28 := by rw [ev28]; exact xI_up hI trivial trivial
      refine lv_iinc (v := (1 : Int32)) (lv' := [(4, .int (1 : Int32)), (0, .ref (ad 13 r)), (1, .ref (ad 7 k1)), (2, .int (2 : Int32)), (3, .int x3)]) hx hb xd_Re_sendOutput_92 hl (k := 4) rfl (by decide) (by decide) rfl (fun ls hl => ?_)
      refine lv_goto (tgt := 64) hx hb xd_Re_sendOutput_95 (by decide) ?_
      exact J11 v28 (k1) (x3) _ _ _ (by rw [hj]; subst ev28; simp only [xf_Re_sendOutput_j9, if_neg c_24]) (by omega) hc1  hI hP hS (lv_sub hl [1, 2, 3, 4, 0] rfl)
  have J8 : ∀ (v : fw_V) (k1 : Nat) (x90 : Int32) (H : Heap) (locs : List Loc) (ls : Array Slot), xf_Re_sendOutput v0 r = xf_Re_sendOutput_j8 v r k1 x90 → k1 < 18 → vp_in x90 3 → xI b v → va_P D vcls (fw_w xCL cA xkd ad v) H → va_S (fw_A xCL ad) s.heap H locs → lv_has ls 5 [(0, .ref (ad 13 r)), (1, .ref (ad 7 k1)), (2, .int (2 : Int32))] → W p l e (headSpec (Cond.code xy_Re_sendOutput xb_Re_sendOutput 5 none :: vTB) xrm_Re_sendOutput).room s m ([.ref (ad 13 r)] : List Value).toArray below meth c H locs 0 0 (MQ below (fw_Qv D vcls xCL cA xkd ad (xI b) (xf_Re_sendOutput v0 r)) ([.ref (ad 13 r)] : List Value).toArray s 0 0 (fw_A xCL ad)) (F0 m 60 ls [.int x90]) := by
    intro v k1 x90 H locs ls hj hc0 hc1 hI hP hS hl
    clear J10 J12 J11
    refine lv_istore_n (lv' := [(3, .int x90), (0, .ref (ad 13 r)), (1, .ref (ad 7 k1)), (2, .int (2 : Int32))]) hx hb xd_Re_sendOutput_60 rfl hl (by decide) rfl (fun ls hl => ?_)
    refine lv_iconst (v := (0 : Int32)) hx hb xd_Re_sendOutput_61 (by decide) ?_
    refine lv_istore (lv' := [(4, .int (0 : Int32)), (3, .int x90), (0, .ref (ad 13 r)), (1, .ref (ad 7 k1)), (2, .int (2 : Int32))]) hx hb xd_Re_sendOutput_62 hl (by decide) rfl (fun ls hl => ?_)
    exact J9 v (k1) (x90) _ _ _ (by rw [hj]; simp only [xf_Re_sendOutput_j8]) (by omega) hc1  hI hP hS (lv_sub hl [2, 3, 4, 1, 0] rfl)
  have J14 : ∀ (v : fw_V) (k1 : Nat) (H : Heap) (locs : List Loc) (ls : Array Slot), xf_Re_sendOutput v0 r = xf_Re_sendOutput_j14 v r k1 → k1 < 18 → xI b v → va_P D vcls (fw_w xCL cA xkd ad v) H → va_S (fw_A xCL ad) s.heap H locs → lv_has ls 5 [(0, .ref (ad 13 r)), (1, .ref (ad 7 k1)), (2, .int (2 : Int32)), (3, .int (0 : Int32)), (4, .int (0 : Int32))] → W p l e (headSpec (Cond.code xy_Re_sendOutput xb_Re_sendOutput 5 none :: vTB) xrm_Re_sendOutput).room s m ([.ref (ad 13 r)] : List Value).toArray below meth c H locs 0 0 (MQ below (fw_Qv D vcls xCL cA xkd ad (xI b) (xf_Re_sendOutput v0 r)) ([.ref (ad 13 r)] : List Value).toArray s 0 0 (fw_A xCL ad)) (F0 m 64 ls []) := by
    intro v k1 H locs ls hj hc0 hI hP hS hl
    clear J12 J11 J9 J8
    refine lv_iload hx hb xd_Re_sendOutput_64 (lv_at hl 4 rfl) ?_
    refine lv_iload_n hx hb xd_Re_sendOutput_66 rfl (lv_at hl 3 rfl) ?_
    refine lv_icmp_ge (tgt := 98) hx hb xd_Re_sendOutput_67 (by decide) (fun _ => ?_) (fun c_34 => absurd (by decide) c_34)
    refine lv_iinc (v := (3 : Int32)) (lv' := [(2, .int (3 : Int32)), (0, .ref (ad 13 r)), (1, .ref (ad 7 k1)), (3, .int (0 : Int32)), (4, .int (0 : Int32))]) hx hb xd_Re_sendOutput_98 hl (k := 2) rfl (by decide) (by decide) rfl (fun ls hl => ?_)
    refine lv_goto (tgt := 27) hx hb xd_Re_sendOutput_101 (by decide) ?_
    exact J10 v (k1) _ _ _ (by rw [hj]; simp only [xf_Re_sendOutput_j14]) (by omega)  hI hP hS (lv_sub hl [1, 2, 0] rfl)
  have J13 : ∀ (v : fw_V) (k1 : Nat) (H : Heap) (locs : List Loc) (ls : Array Slot), xf_Re_sendOutput v0 r = xf_Re_sendOutput_j13 v r k1 → k1 < 18 → xI b v → va_P D vcls (fw_w xCL cA xkd ad v) H → va_S (fw_A xCL ad) s.heap H locs → lv_has ls 5 [(0, .ref (ad 13 r)), (1, .ref (ad 7 k1)), (2, .int (2 : Int32))] → W p l e (headSpec (Cond.code xy_Re_sendOutput xb_Re_sendOutput 5 none :: vTB) xrm_Re_sendOutput).room s m ([.ref (ad 13 r)] : List Value).toArray below meth c H locs 0 0 (MQ below (fw_Qv D vcls xCL cA xkd ad (xI b) (xf_Re_sendOutput v0 r)) ([.ref (ad 13 r)] : List Value).toArray s 0 0 (fw_A xCL ad)) (F0 m 60 ls [.int (0 : Int32)]) := by
    intro v k1 H locs ls hj hc0 hI hP hS hl
    clear J10 J12 J11 J9 J8
    refine lv_istore_n (lv' := [(3, .int (0 : Int32)), (0, .ref (ad 13 r)), (1, .ref (ad 7 k1)), (2, .int (2 : Int32))]) hx hb xd_Re_sendOutput_60 rfl hl (by decide) rfl (fun ls hl => ?_)
    refine lv_iconst (v := (0 : Int32)) hx hb xd_Re_sendOutput_61 (by decide) ?_
    refine lv_istore (lv' := [(4, .int (0 : Int32)), (3, .int (0 : Int32)), (0, .ref (ad 13 r)), (1, .ref (ad 7 k1)), (2, .int (2 : Int32))]) hx hb xd_Re_sendOutput_62 hl (by decide) rfl (fun ls hl => ?_)
    exact J14 v (k1) _ _ _ (by rw [hj]; simp only [xf_Re_sendOutput_j13]) (by omega)  hI hP hS (lv_sub hl [2, 3, 4, 1, 0] rfl)
  have J7 : ∀ (v : fw_V) (k1 : Nat) (H : Heap) (locs : List Loc) (ls : Array Slot), xf_Re_sendOutput v0 r = xf_Re_sendOutput_j7 v r k1 → k1 < 18 → xI b v → va_P D vcls (fw_w xCL cA xkd ad v) H → va_S (fw_A xCL ad) s.heap H locs → lv_has ls 5 [(0, .ref (ad 13 r)), (1, .ref (ad 7 k1)), (2, .int (2 : Int32))] → W p l e (headSpec (Cond.code xy_Re_sendOutput xb_Re_sendOutput 5 none :: vTB) xrm_Re_sendOutput).room s m ([.ref (ad 13 r)] : List Value).toArray below meth c H locs 0 0 (MQ below (fw_Qv D vcls xCL cA xkd ad (xI b) (xf_Re_sendOutput v0 r)) ([.ref (ad 13 r)] : List Value).toArray s 0 0 (fw_A xCL ad)) (F0 m 27 ls []) := by
    intro v k1 H locs ls hj hc0 hI hP hS hl
    clear J10 J12 J11 J9 J14
    refine lv_iload_n hx hb xd_Re_sendOutput_27 rfl (lv_at hl 2 rfl) ?_
    refine lv_iconst (v := (3 : Int32)) hx hb xd_Re_sendOutput_28 (by decide) ?_
    refine lv_icmp_ge (tgt := 104) hx hb xd_Re_sendOutput_29 (by decide) (fun c_19 => absurd c_19 (by decide)) (fun _ => ?_)
    refine lv_aload_n hx hb xd_Re_sendOutput_32 rfl (lv_at hl 0 rfl) ?_
    refine fw_geti hx hb hts i_Re hown hK hP (xm_13 (by omega)) (xk_13 r) rfl 13 (by decide) (hts _ L_Re_62) (fun _ h9 => h9) rfl xd_Re_sendOutput_33 ?_
    refine lv_iload_n hx hb xd_Re_sendOutput_36 rfl (lv_at hl 2 rfl) ?_
    refine fw_cb (va_runSN (As := [.int (v 13 r 13), .int (2 : Int32)]) (rest := []) ⟨hx, hb, hml, hown, hts⟩ (xc_FR_hasSlot l hD v hI (v 13 r 13) (2 : Int32)) (xwn_FR_hasSlot hts (hN.2 _ L_Re_179) ⟨Nat.le_of_ble_eq_true rfl, Nat.le_of_ble_eq_true rfl⟩) (fw_preS hN hK hP) rfl rfl hl.1 rfl (lv_room (Nat.le_of_ble_eq_true rfl)) xd_Re_sendOutput_37 ⟨Nat.le_of_ble_eq_true rfl, Nat.le_of_ble_eq_true rfl⟩) hS (fun r20 H locs zr20 er20 hP hS => ?_)
    refine lv_if_eq (tgt := 47) hx hb xd_Re_sendOutput_40 (by decide) (fun c_21 => ?_) (fun c_21 => ?_)
    · refine lv_aload_n hx hb xd_Re_sendOutput_47 rfl (lv_at hl 0 rfl) ?_
      refine fw_getr hx hb hts i_Re hown hK hP (xm_13 (by omega)) (xk_13 r) rfl 1 (by decide) (hts _ L_Re_38) (fun _ h9 => h9) rfl xd_Re_sendOutput_48 ?_
      refine lv_aload_n hx hb xd_Re_sendOutput_51 rfl (lv_at hl 0 rfl) ?_
      refine fw_getr hx hb hts i_Re hown hK hP (xm_13 (by omega)) (xk_13 r) rfl 6 (by decide) (hts _ L_Re_18) (fun _ h9 => h9) rfl xd_Re_sendOutput_52 ?_
      refine lv_iload_n hx hb xd_Re_sendOutput_55 rfl (lv_at hl 2 rfl) ?_
      refine fw_iald hx hb hK hP (xm_15 (by omega)) (xk_15 r) 0 rfl (j := 2) (by decide) (fw_inc (by decide)) xd_Re_sendOutput_56 ?_
      refine fw_co (va_runV (As := [.int (v 15 r 2)]) (rest := []) ⟨hx, hb, hml, hown, hts⟩ (xc_KT_outsOf l hD v hI (v 15 r 2)) (xw_KT_outsOf hts L_Re_196 ⟨Nat.le_of_ble_eq_true rfl, Nat.le_of_ble_eq_true rfl⟩) (fw_preV hN hK hP (xm_1 (by decide)) (xk_1 0) rfl) rfl rfl hl.1 rfl (lv_room (Nat.le_of_ble_eq_true rfl)) xd_Re_sendOutput_57 ⟨Nat.le_of_ble_eq_true rfl, Nat.le_of_ble_eq_true rfl⟩) hS (fun r22 H locs er22 hP hS => ?_)
      have h_23 : vp_in r22 3 := xp_KT_outsOf er22 hI
      exact J8 v (k1) (r22) _ _ _ (by rw [hj]; subst er20 er22; simp only [xf_Re_sendOutput_j7, if_pos c_21]) (by omega) h_23  hI hP hS (lv_sub hl [0, 1, 2] rfl)
    · refine lv_iconst (v := (0 : Int32)) hx hb xd_Re_sendOutput_43 (by decide) ?_
      refine lv_goto (tgt := 60) hx hb xd_Re_sendOutput_44 (by decide) ?_
      exact J13 v (k1) _ _ _ (by rw [hj]; subst er20; simp only [xf_Re_sendOutput_j7, if_neg c_21]) (by omega)  hI hP hS (lv_sub hl [0, 1, 2] rfl)
  have J16 : ∀ (v : fw_V) (k1 : Nat) (x3 : Int32) (H : Heap) (locs : List Loc) (ls : Array Slot), xf_Re_sendOutput v0 r = xf_Re_sendOutput_j16 v r k1 x3 → k1 < 18 → vp_in x3 3 → xI b v → va_P D vcls (fw_w xCL cA xkd ad v) H → va_S (fw_A xCL ad) s.heap H locs → lv_has ls 5 [(0, .ref (ad 13 r)), (1, .ref (ad 7 k1)), (2, .int (1 : Int32)), (3, .int x3), (4, .int (2 : Int32))] → W p l e (headSpec (Cond.code xy_Re_sendOutput xb_Re_sendOutput 5 none :: vTB) xrm_Re_sendOutput).room s m ([.ref (ad 13 r)] : List Value).toArray below meth c H locs 0 0 (MQ below (fw_Qv D vcls xCL cA xkd ad (xI b) (xf_Re_sendOutput v0 r)) ([.ref (ad 13 r)] : List Value).toArray s 0 0 (fw_A xCL ad)) (F0 m 64 ls []) := by
    intro v k1 x3 H locs ls hj hc0 hc1 hI hP hS hl
    clear J10 J12 J11 J9 J8 J14 J13
    refine lv_iload hx hb xd_Re_sendOutput_64 (lv_at hl 4 rfl) ?_
    refine lv_iload_n hx hb xd_Re_sendOutput_66 rfl (lv_at hl 3 rfl) ?_
    refine lv_icmp_ge (tgt := 98) hx hb xd_Re_sendOutput_67 (by decide) (fun c_42 => ?_) (fun c_42 => absurd (fw_ley hc1 (by decide)) c_42)
    refine lv_iinc (v := (2 : Int32)) (lv' := [(2, .int (2 : Int32)), (0, .ref (ad 13 r)), (1, .ref (ad 7 k1)), (3, .int x3), (4, .int (2 : Int32))]) hx hb xd_Re_sendOutput_98 hl (k := 2) rfl (by decide) (by decide) rfl (fun ls hl => ?_)
    refine lv_goto (tgt := 27) hx hb xd_Re_sendOutput_101 (by decide) ?_
    exact J7 v (k1) _ _ _ (by rw [hj]; simp only [xf_Re_sendOutput_j16]) (by omega)  hI hP hS (lv_sub hl [1, 2, 0] rfl)
  have J15 : ∀ (v : fw_V) (k1 : Nat) (x3 : Int32) (H : Heap) (locs : List Loc) (ls : Array Slot), xf_Re_sendOutput v0 r = xf_Re_sendOutput_j15 v r k1 x3 → k1 < 18 → vp_in x3 3 → xI b v → va_P D vcls (fw_w xCL cA xkd ad v) H → va_S (fw_A xCL ad) s.heap H locs → lv_has ls 5 [(0, .ref (ad 13 r)), (1, .ref (ad 7 k1)), (2, .int (1 : Int32)), (3, .int x3), (4, .int (1 : Int32))] → W p l e (headSpec (Cond.code xy_Re_sendOutput xb_Re_sendOutput 5 none :: vTB) xrm_Re_sendOutput).room s m ([.ref (ad 13 r)] : List Value).toArray below meth c H locs 0 0 (MQ below (fw_Qv D vcls xCL cA xkd ad (xI b) (xf_Re_sendOutput v0 r)) ([.ref (ad 13 r)] : List Value).toArray s 0 0 (fw_A xCL ad)) (F0 m 64 ls []) := by
    intro v k1 x3 H locs ls hj hc0 hc1 hI hP hS hl
    clear J10 J12 J11 J9 J8 J14 J13
    refine lv_iload hx hb xd_Re_sendOutput_64 (lv_at hl 4 rfl) ?_
    refine lv_iload_n hx hb xd_Re_sendOutput_66 rfl (lv_at hl 3 rfl) ?_
    refine lv_icmp_ge (tgt := 98) hx hb xd_Re_sendOutput_67 (by decide) (fun c_38 => ?_) (fun c_38 => ?_)
    · refine lv_iinc (v := (2 : Int32)) (lv' := [(2, .int (2 : Int32)), (0, .ref (ad 13 r)), (1, .ref (ad 7 k1)), (3, .int x3), (4, .int (1 : Int32))]) hx hb xd_Re_sendOutput_98 hl (k := 2) rfl (by decide) (by decide) rfl (fun ls hl => ?_)
      refine lv_goto (tgt := 27) hx hb xd_Re_sendOutput_101 (by decide) ?_
      exact J7 v (k1) _ _ _ (by rw [hj]; simp only [xf_Re_sendOutput_j15, if_pos c_38]) (by omega)  hI hP hS (lv_sub hl [1, 2, 0] rfl)
    · refine lv_aload_n hx hb xd_Re_sendOutput_70 rfl (lv_at hl 1 rfl) ?_
      refine fw_getr hx hb hts i_Fm hown hK hP (xm_7 (by omega)) (xk_7 k1) rfl 4 (by decide) (hts _ L_Re_130) (fun _ h9 => h9) rfl xd_Re_sendOutput_71 ?_
      refine lv_iload_n hx hb xd_Re_sendOutput_74 rfl (lv_at hl 2 rfl) ?_
      refine lv_iload hx hb xd_Re_sendOutput_75 (lv_at hl 4 rfl) ?_
      refine fw_co (va_runSN (As := [.int (1 : Int32), .int (1 : Int32)]) (rest := [.ref (ad 8 k1)]) ⟨hx, hb, hml, hown, hts⟩ (xc_FR_place l hD v hI (1 : Int32) (1 : Int32)) (xwn_FR_place hts (hN.2 _ L_Re_200) ⟨Nat.le_of_ble_eq_true rfl, Nat.le_of_ble_eq_true rfl⟩) (fw_preS hN hK hP) rfl rfl hl.1 rfl (lv_room (Nat.le_of_ble_eq_true rfl)) xd_Re_sendOutput_77 ⟨Nat.le_of_ble_eq_true rfl, Nat.le_of_ble_eq_true rfl⟩) hS (fun r39 H locs er39 hP hS => ?_)
      obtain rfl : r39 = (3 : Int32) := er39.trans (by decide)
      refine lv_aload_n hx hb xd_Re_sendOutput_80 rfl (lv_at hl 0 rfl) ?_
      refine fw_getr hx hb hts i_Re hown hK hP (xm_13 (by omega)) (xk_13 r) rfl 8 (by decide) (hts _ L_Re_25) (fun _ h9 => h9) rfl xd_Re_sendOutput_81 ?_
      refine lv_iload_n hx hb xd_Re_sendOutput_84 rfl (lv_at hl 2 rfl) ?_
      refine lv_iload hx hb xd_Re_sendOutput_85 (lv_at hl 4 rfl) ?_
      refine fw_co (va_runSN (As := [.int (1 : Int32), .int (1 : Int32)]) (rest := [.ref (ad 17 r), .int (3 : Int32), .ref (ad 8 k1)]) ⟨hx, hb, hml, hown, hts⟩ (xc_FR_place l hD v hI (1 : Int32) (1 : Int32)) (xwn_FR_place hts (hN.2 _ L_Re_200) ⟨Nat.le_of_ble_eq_true rfl, Nat.le_of_ble_eq_true rfl⟩) (fw_preS hN hK hP) rfl rfl hl.1 rfl (lv_room (Nat.le_of_ble_eq_true rfl)) xd_Re_sendOutput_87 ⟨Nat.le_of_ble_eq_true rfl, Nat.le_of_ble_eq_true rfl⟩) hS (fun r40 H locs er40 hP hS => ?_)
      obtain rfl : r40 = (3 : Int32) := er40.trans (by decide)
      refine fw_iald hx hb hK hP (xm_17 (by omega)) (xk_17 r) 0 rfl (j := 3) (by decide) (fw_inc (by decide)) xd_Re_sendOutput_90 ?_
      refine fw_iast hx hb hK hD hP hS (xm_8 (by omega)) (xk_8 k1) 0 rfl (j := 3) (by decide) (fw_inc (by decide)) xd_Re_sendOutput_91 (fun v41 H locs ev41 hP hS => ?_)
      have hI : xI b v41 := by rw [ev41]; exact xI_up hI trivial trivial
      refine lv_iinc (v := (2 : Int32)) (lv' := [(4, .int (2 : Int32)), (0, .ref (ad 13 r)), (1, .ref (ad 7 k1)), (2, .int (1 : Int32)), (3, .int x3)]) hx hb xd_Re_sendOutput_92 hl (k := 4) rfl (by decide) (by decide) rfl (fun ls hl => ?_)
      refine lv_goto (tgt := 64) hx hb xd_Re_sendOutput_95 (by decide) ?_
      exact J16 v41 (k1) (x3) _ _ _ (by rw [hj]; subst ev41; simp only [xf_Re_sendOutput_j15, if_neg c_38]) (by omega) hc1  hI hP hS (lv_sub hl [1, 2, 3, 4, 0] rfl)
  have J6 : ∀ (v : fw_V) (k1 : Nat) (x3 : Int32) (H : Heap) (locs : List Loc) (ls : Array Slot), xf_Re_sendOutput v0 r = xf_Re_sendOutput_j6 v r k1 x3 → k1 < 18 → vp_in x3 3 → xI b v → va_P D vcls (fw_w xCL cA xkd ad v) H → va_S (fw_A xCL ad) s.heap H locs → lv_has ls 5 [(0, .ref (ad 13 r)), (1, .ref (ad 7 k1)), (2, .int (1 : Int32)), (3, .int x3), (4, .int (0 : Int32))] → W p l e (headSpec (Cond.code xy_Re_sendOutput xb_Re_sendOutput 5 none :: vTB) xrm_Re_sendOutput).room s m ([.ref (ad 13 r)] : List Value).toArray below meth c H locs 0 0 (MQ below (fw_Qv D vcls xCL cA xkd ad (xI b) (xf_Re_sendOutput v0 r)) ([.ref (ad 13 r)] : List Value).toArray s 0 0 (fw_A xCL ad)) (F0 m 64 ls []) := by
    intro v k1 x3 H locs ls hj hc0 hc1 hI hP hS hl
    clear J10 J12 J11 J9 J8 J14 J13 J16
    refine lv_iload hx hb xd_Re_sendOutput_64 (lv_at hl 4 rfl) ?_
    refine lv_iload_n hx hb xd_Re_sendOutput_66 rfl (lv_at hl 3 rfl) ?_
    refine lv_icmp_ge (tgt := 98) hx hb xd_Re_sendOutput_67 (by decide) (fun c_18 => ?_) (fun c_18 => ?_)
    · refine lv_iinc (v := (2 : Int32)) (lv' := [(2, .int (2 : Int32)), (0, .ref (ad 13 r)), (1, .ref (ad 7 k1)), (3, .int x3), (4, .int (0 : Int32))]) hx hb xd_Re_sendOutput_98 hl (k := 2) rfl (by decide) (by decide) rfl (fun ls hl => ?_)
      refine lv_goto (tgt := 27) hx hb xd_Re_sendOutput_101 (by decide) ?_
      exact J7 v (k1) _ _ _ (by rw [hj]; simp only [xf_Re_sendOutput_j6, if_pos c_18]) (by omega)  hI hP hS (lv_sub hl [1, 2, 0] rfl)
    · refine lv_aload_n hx hb xd_Re_sendOutput_70 rfl (lv_at hl 1 rfl) ?_
      refine fw_getr hx hb hts i_Fm hown hK hP (xm_7 (by omega)) (xk_7 k1) rfl 4 (by decide) (hts _ L_Re_130) (fun _ h9 => h9) rfl xd_Re_sendOutput_71 ?_
      refine lv_iload_n hx hb xd_Re_sendOutput_74 rfl (lv_at hl 2 rfl) ?_
      refine lv_iload hx hb xd_Re_sendOutput_75 (lv_at hl 4 rfl) ?_
      refine fw_co (va_runSN (As := [.int (1 : Int32), .int (0 : Int32)]) (rest := [.ref (ad 8 k1)]) ⟨hx, hb, hml, hown, hts⟩ (xc_FR_place l hD v hI (1 : Int32) (0 : Int32)) (xwn_FR_place hts (hN.2 _ L_Re_200) ⟨Nat.le_of_ble_eq_true rfl, Nat.le_of_ble_eq_true rfl⟩) (fw_preS hN hK hP) rfl rfl hl.1 rfl (lv_room (Nat.le_of_ble_eq_true rfl)) xd_Re_sendOutput_77 ⟨Nat.le_of_ble_eq_true rfl, Nat.le_of_ble_eq_true rfl⟩) hS (fun r35 H locs er35 hP hS => ?_)
      obtain rfl : r35 = (2 : Int32) := er35.trans (by decide)
      refine lv_aload_n hx hb xd_Re_sendOutput_80 rfl (lv_at hl 0 rfl) ?_
      refine fw_getr hx hb hts i_Re hown hK hP (xm_13 (by omega)) (xk_13 r) rfl 8 (by decide) (hts _ L_Re_25) (fun _ h9 => h9) rfl xd_Re_sendOutput_81 ?_
      refine lv_iload_n hx hb xd_Re_sendOutput_84 rfl (lv_at hl 2 rfl) ?_
      refine lv_iload hx hb xd_Re_sendOutput_85 (lv_at hl 4 rfl) ?_
      refine fw_co (va_runSN (As := [.int (1 : Int32), .int (0 : Int32)]) (rest := [.ref (ad 17 r), .int (2 : Int32), .ref (ad 8 k1)]) ⟨hx, hb, hml, hown, hts⟩ (xc_FR_place l hD v hI (1 : Int32) (0 : Int32)) (xwn_FR_place hts (hN.2 _ L_Re_200) ⟨Nat.le_of_ble_eq_true rfl, Nat.le_of_ble_eq_true rfl⟩) (fw_preS hN hK hP) rfl rfl hl.1 rfl (lv_room (Nat.le_of_ble_eq_true rfl)) xd_Re_sendOutput_87 ⟨Nat.le_of_ble_eq_true rfl, Nat.le_of_ble_eq_true rfl⟩) hS (fun r36 H locs er36 hP hS => ?_)
      obtain rfl : r36 = (2 : Int32) := er36.trans (by decide)
      refine fw_iald hx hb hK hP (xm_17 (by omega)) (xk_17 r) 0 rfl (j := 2) (by decide) (fw_inc (by decide)) xd_Re_sendOutput_90 ?_
      refine fw_iast hx hb hK hD hP hS (xm_8 (by omega)) (xk_8 k1) 0 rfl (j := 2) (by decide) (fw_inc (by decide)) xd_Re_sendOutput_91 (fun v37 H locs ev37 hP hS => ?_)
      have hI : xI b v37 := by rw [ev37]; exact xI_up hI trivial trivial
      refine lv_iinc (v := (1 : Int32)) (lv' := [(4, .int (1 : Int32)), (0, .ref (ad 13 r)), (1, .ref (ad 7 k1)), (2, .int (1 : Int32)), (3, .int x3)]) hx hb xd_Re_sendOutput_92 hl (k := 4) rfl (by decide) (by decide) rfl (fun ls hl => ?_)
      refine lv_goto (tgt := 64) hx hb xd_Re_sendOutput_95 (by decide) ?_
      exact J15 v37 (k1) (x3) _ _ _ (by rw [hj]; subst ev37; simp only [xf_Re_sendOutput_j6, if_neg c_18]) (by omega) hc1  hI hP hS (lv_sub hl [1, 2, 3, 4, 0] rfl)
  have J5 : ∀ (v : fw_V) (k1 : Nat) (x90 : Int32) (H : Heap) (locs : List Loc) (ls : Array Slot), xf_Re_sendOutput v0 r = xf_Re_sendOutput_j5 v r k1 x90 → k1 < 18 → vp_in x90 3 → xI b v → va_P D vcls (fw_w xCL cA xkd ad v) H → va_S (fw_A xCL ad) s.heap H locs → lv_has ls 5 [(0, .ref (ad 13 r)), (1, .ref (ad 7 k1)), (2, .int (1 : Int32))] → W p l e (headSpec (Cond.code xy_Re_sendOutput xb_Re_sendOutput 5 none :: vTB) xrm_Re_sendOutput).room s m ([.ref (ad 13 r)] : List Value).toArray below meth c H locs 0 0 (MQ below (fw_Qv D vcls xCL cA xkd ad (xI b) (xf_Re_sendOutput v0 r)) ([.ref (ad 13 r)] : List Value).toArray s 0 0 (fw_A xCL ad)) (F0 m 60 ls [.int x90]) := by
    intro v k1 x90 H locs ls hj hc0 hc1 hI hP hS hl
    clear J10 J12 J11 J9 J8 J14 J13 J7 J16 J15
    refine lv_istore_n (lv' := [(3, .int x90), (0, .ref (ad 13 r)), (1, .ref (ad 7 k1)), (2, .int (1 : Int32))]) hx hb xd_Re_sendOutput_60 rfl hl (by decide) rfl (fun ls hl => ?_)
    refine lv_iconst (v := (0 : Int32)) hx hb xd_Re_sendOutput_61 (by decide) ?_
    refine lv_istore (lv' := [(4, .int (0 : Int32)), (3, .int x90), (0, .ref (ad 13 r)), (1, .ref (ad 7 k1)), (2, .int (1 : Int32))]) hx hb xd_Re_sendOutput_62 hl (by decide) rfl (fun ls hl => ?_)
    exact J6 v (k1) (x90) _ _ _ (by rw [hj]; simp only [xf_Re_sendOutput_j5]) (by omega) hc1  hI hP hS (lv_sub hl [2, 3, 4, 1, 0] rfl)
  have J18 : ∀ (v : fw_V) (k1 : Nat) (H : Heap) (locs : List Loc) (ls : Array Slot), xf_Re_sendOutput v0 r = xf_Re_sendOutput_j18 v r k1 → k1 < 18 → xI b v → va_P D vcls (fw_w xCL cA xkd ad v) H → va_S (fw_A xCL ad) s.heap H locs → lv_has ls 5 [(0, .ref (ad 13 r)), (1, .ref (ad 7 k1)), (2, .int (1 : Int32)), (3, .int (0 : Int32)), (4, .int (0 : Int32))] → W p l e (headSpec (Cond.code xy_Re_sendOutput xb_Re_sendOutput 5 none :: vTB) xrm_Re_sendOutput).room s m ([.ref (ad 13 r)] : List Value).toArray below meth c H locs 0 0 (MQ below (fw_Qv D vcls xCL cA xkd ad (xI b) (xf_Re_sendOutput v0 r)) ([.ref (ad 13 r)] : List Value).toArray s 0 0 (fw_A xCL ad)) (F0 m 64 ls []) := by
    intro v k1 H locs ls hj hc0 hI hP hS hl
    clear J10 J12 J11 J9 J8 J14 J13 J16 J15 J6 J5
    refine lv_iload hx hb xd_Re_sendOutput_64 (lv_at hl 4 rfl) ?_
    refine lv_iload_n hx hb xd_Re_sendOutput_66 rfl (lv_at hl 3 rfl) ?_
    refine lv_icmp_ge (tgt := 98) hx hb xd_Re_sendOutput_67 (by decide) (fun _ => ?_) (fun c_43 => absurd (by decide) c_43)
    refine lv_iinc (v := (2 : Int32)) (lv' := [(2, .int (2 : Int32)), (0, .ref (ad 13 r)), (1, .ref (ad 7 k1)), (3, .int (0 : Int32)), (4, .int (0 : Int32))]) hx hb xd_Re_sendOutput_98 hl (k := 2) rfl (by decide) (by decide) rfl (fun ls hl => ?_)
    refine lv_goto (tgt := 27) hx hb xd_Re_sendOutput_101 (by decide) ?_
    exact J7 v (k1) _ _ _ (by rw [hj]; simp only [xf_Re_sendOutput_j18]) (by omega)  hI hP hS (lv_sub hl [1, 2, 0] rfl)
  have J17 : ∀ (v : fw_V) (k1 : Nat) (H : Heap) (locs : List Loc) (ls : Array Slot), xf_Re_sendOutput v0 r = xf_Re_sendOutput_j17 v r k1 → k1 < 18 → xI b v → va_P D vcls (fw_w xCL cA xkd ad v) H → va_S (fw_A xCL ad) s.heap H locs → lv_has ls 5 [(0, .ref (ad 13 r)), (1, .ref (ad 7 k1)), (2, .int (1 : Int32))] → W p l e (headSpec (Cond.code xy_Re_sendOutput xb_Re_sendOutput 5 none :: vTB) xrm_Re_sendOutput).room s m ([.ref (ad 13 r)] : List Value).toArray below meth c H locs 0 0 (MQ below (fw_Qv D vcls xCL cA xkd ad (xI b) (xf_Re_sendOutput v0 r)) ([.ref (ad 13 r)] : List Value).toArray s 0 0 (fw_A xCL ad)) (F0 m 60 ls [.int (0 : Int32)]) := by
    intro v k1 H locs ls hj hc0 hI hP hS hl
    clear J10 J12 J11 J9 J8 J14 J13 J7 J16 J15 J6 J5
    refine lv_istore_n (lv' := [(3, .int (0 : Int32)), (0, .ref (ad 13 r)), (1, .ref (ad 7 k1)), (2, .int (1 : Int32))]) hx hb xd_Re_sendOutput_60 rfl hl (by decide) rfl (fun ls hl => ?_)
    refine lv_iconst (v := (0 : Int32)) hx hb xd_Re_sendOutput_61 (by decide) ?_
    refine lv_istore (lv' := [(4, .int (0 : Int32)), (3, .int (0 : Int32)), (0, .ref (ad 13 r)), (1, .ref (ad 7 k1)), (2, .int (1 : Int32))]) hx hb xd_Re_sendOutput_62 hl (by decide) rfl (fun ls hl => ?_)
    exact J18 v (k1) _ _ _ (by rw [hj]; simp only [xf_Re_sendOutput_j17]) (by omega)  hI hP hS (lv_sub hl [2, 3, 4, 1, 0] rfl)
  have J4 : ∀ (v : fw_V) (k1 : Nat) (H : Heap) (locs : List Loc) (ls : Array Slot), xf_Re_sendOutput v0 r = xf_Re_sendOutput_j4 v r k1 → k1 < 18 → xI b v → va_P D vcls (fw_w xCL cA xkd ad v) H → va_S (fw_A xCL ad) s.heap H locs → lv_has ls 5 [(0, .ref (ad 13 r)), (1, .ref (ad 7 k1)), (2, .int (1 : Int32))] → W p l e (headSpec (Cond.code xy_Re_sendOutput xb_Re_sendOutput 5 none :: vTB) xrm_Re_sendOutput).room s m ([.ref (ad 13 r)] : List Value).toArray below meth c H locs 0 0 (MQ below (fw_Qv D vcls xCL cA xkd ad (xI b) (xf_Re_sendOutput v0 r)) ([.ref (ad 13 r)] : List Value).toArray s 0 0 (fw_A xCL ad)) (F0 m 27 ls []) := by
    intro v k1 H locs ls hj hc0 hI hP hS hl
    clear J10 J12 J11 J9 J8 J14 J13 J7 J16 J15 J6 J18
    refine lv_iload_n hx hb xd_Re_sendOutput_27 rfl (lv_at hl 2 rfl) ?_
    refine lv_iconst (v := (3 : Int32)) hx hb xd_Re_sendOutput_28 (by decide) ?_
    refine lv_icmp_ge (tgt := 104) hx hb xd_Re_sendOutput_29 (by decide) (fun c_13 => absurd c_13 (by decide)) (fun _ => ?_)
    refine lv_aload_n hx hb xd_Re_sendOutput_32 rfl (lv_at hl 0 rfl) ?_
    refine fw_geti hx hb hts i_Re hown hK hP (xm_13 (by omega)) (xk_13 r) rfl 13 (by decide) (hts _ L_Re_62) (fun _ h9 => h9) rfl xd_Re_sendOutput_33 ?_
    refine lv_iload_n hx hb xd_Re_sendOutput_36 rfl (lv_at hl 2 rfl) ?_
    refine fw_cb (va_runSN (As := [.int (v 13 r 13), .int (1 : Int32)]) (rest := []) ⟨hx, hb, hml, hown, hts⟩ (xc_FR_hasSlot l hD v hI (v 13 r 13) (1 : Int32)) (xwn_FR_hasSlot hts (hN.2 _ L_Re_179) ⟨Nat.le_of_ble_eq_true rfl, Nat.le_of_ble_eq_true rfl⟩) (fw_preS hN hK hP) rfl rfl hl.1 rfl (lv_room (Nat.le_of_ble_eq_true rfl)) xd_Re_sendOutput_37 ⟨Nat.le_of_ble_eq_true rfl, Nat.le_of_ble_eq_true rfl⟩) hS (fun r14 H locs zr14 er14 hP hS => ?_)
    refine lv_if_eq (tgt := 47) hx hb xd_Re_sendOutput_40 (by decide) (fun c_15 => ?_) (fun c_15 => ?_)
    · refine lv_aload_n hx hb xd_Re_sendOutput_47 rfl (lv_at hl 0 rfl) ?_
      refine fw_getr hx hb hts i_Re hown hK hP (xm_13 (by omega)) (xk_13 r) rfl 1 (by decide) (hts _ L_Re_38) (fun _ h9 => h9) rfl xd_Re_sendOutput_48 ?_
      refine lv_aload_n hx hb xd_Re_sendOutput_51 rfl (lv_at hl 0 rfl) ?_
      refine fw_getr hx hb hts i_Re hown hK hP (xm_13 (by omega)) (xk_13 r) rfl 6 (by decide) (hts _ L_Re_18) (fun _ h9 => h9) rfl xd_Re_sendOutput_52 ?_
      refine lv_iload_n hx hb xd_Re_sendOutput_55 rfl (lv_at hl 2 rfl) ?_
      refine fw_iald hx hb hK hP (xm_15 (by omega)) (xk_15 r) 0 rfl (j := 1) (by decide) (fw_inc (by decide)) xd_Re_sendOutput_56 ?_
      refine fw_co (va_runV (As := [.int (v 15 r 1)]) (rest := []) ⟨hx, hb, hml, hown, hts⟩ (xc_KT_outsOf l hD v hI (v 15 r 1)) (xw_KT_outsOf hts L_Re_196 ⟨Nat.le_of_ble_eq_true rfl, Nat.le_of_ble_eq_true rfl⟩) (fw_preV hN hK hP (xm_1 (by decide)) (xk_1 0) rfl) rfl rfl hl.1 rfl (lv_room (Nat.le_of_ble_eq_true rfl)) xd_Re_sendOutput_57 ⟨Nat.le_of_ble_eq_true rfl, Nat.le_of_ble_eq_true rfl⟩) hS (fun r16 H locs er16 hP hS => ?_)
      have h_17 : vp_in r16 3 := xp_KT_outsOf er16 hI
      exact J5 v (k1) (r16) _ _ _ (by rw [hj]; subst er14 er16; simp only [xf_Re_sendOutput_j4, if_pos c_15]) (by omega) h_17  hI hP hS (lv_sub hl [0, 1, 2] rfl)
    · refine lv_iconst (v := (0 : Int32)) hx hb xd_Re_sendOutput_43 (by decide) ?_
      refine lv_goto (tgt := 60) hx hb xd_Re_sendOutput_44 (by decide) ?_
      exact J17 v (k1) _ _ _ (by rw [hj]; subst er14; simp only [xf_Re_sendOutput_j4, if_neg c_15]) (by omega)  hI hP hS (lv_sub hl [0, 1, 2] rfl)
  have J20 : ∀ (v : fw_V) (k1 : Nat) (x3 : Int32) (H : Heap) (locs : List Loc) (ls : Array Slot), xf_Re_sendOutput v0 r = xf_Re_sendOutput_j20 v r k1 x3 → k1 < 18 → vp_in x3 3 → xI b v → va_P D vcls (fw_w xCL cA xkd ad v) H → va_S (fw_A xCL ad) s.heap H locs → lv_has ls 5 [(0, .ref (ad 13 r)), (1, .ref (ad 7 k1)), (2, .int (0 : Int32)), (3, .int x3), (4, .int (2 : Int32))] → W p l e (headSpec (Cond.code xy_Re_sendOutput xb_Re_sendOutput 5 none :: vTB) xrm_Re_sendOutput).room s m ([.ref (ad 13 r)] : List Value).toArray below meth c H locs 0 0 (MQ below (fw_Qv D vcls xCL cA xkd ad (xI b) (xf_Re_sendOutput v0 r)) ([.ref (ad 13 r)] : List Value).toArray s 0 0 (fw_A xCL ad)) (F0 m 64 ls []) := by
    intro v k1 x3 H locs ls hj hc0 hc1 hI hP hS hl
    clear J10 J12 J11 J9 J8 J14 J13 J7 J16 J15 J6 J5 J18 J17
    refine lv_iload hx hb xd_Re_sendOutput_64 (lv_at hl 4 rfl) ?_
    refine lv_iload_n hx hb xd_Re_sendOutput_66 rfl (lv_at hl 3 rfl) ?_
    refine lv_icmp_ge (tgt := 98) hx hb xd_Re_sendOutput_67 (by decide) (fun c_51 => ?_) (fun c_51 => absurd (fw_ley hc1 (by decide)) c_51)
    refine lv_iinc (v := (1 : Int32)) (lv' := [(2, .int (1 : Int32)), (0, .ref (ad 13 r)), (1, .ref (ad 7 k1)), (3, .int x3), (4, .int (2 : Int32))]) hx hb xd_Re_sendOutput_98 hl (k := 2) rfl (by decide) (by decide) rfl (fun ls hl => ?_)
    refine lv_goto (tgt := 27) hx hb xd_Re_sendOutput_101 (by decide) ?_
    exact J4 v (k1) _ _ _ (by rw [hj]; simp only [xf_Re_sendOutput_j20]) (by omega)  hI hP hS (lv_sub hl [1, 2, 0] rfl)
  have J19 : ∀ (v : fw_V) (k1 : Nat) (x3 : Int32) (H : Heap) (locs : List Loc) (ls : Array Slot), xf_Re_sendOutput v0 r = xf_Re_sendOutput_j19 v r k1 x3 → k1 < 18 → vp_in x3 3 → xI b v → va_P D vcls (fw_w xCL cA xkd ad v) H → va_S (fw_A xCL ad) s.heap H locs → lv_has ls 5 [(0, .ref (ad 13 r)), (1, .ref (ad 7 k1)), (2, .int (0 : Int32)), (3, .int x3), (4, .int (1 : Int32))] → W p l e (headSpec (Cond.code xy_Re_sendOutput xb_Re_sendOutput 5 none :: vTB) xrm_Re_sendOutput).room s m ([.ref (ad 13 r)] : List Value).toArray below meth c H locs 0 0 (MQ below (fw_Qv D vcls xCL cA xkd ad (xI b) (xf_Re_sendOutput v0 r)) ([.ref (ad 13 r)] : List Value).toArray s 0 0 (fw_A xCL ad)) (F0 m 64 ls []) := by
    intro v k1 x3 H locs ls hj hc0 hc1 hI hP hS hl
    clear J10 J12 J11 J9 J8 J14 J13 J7 J16 J15 J6 J5 J18 J17
    refine lv_iload hx hb xd_Re_sendOutput_64 (lv_at hl 4 rfl) ?_
    refine lv_iload_n hx hb xd_Re_sendOutput_66 rfl (lv_at hl 3 rfl) ?_
    refine lv_icmp_ge (tgt := 98) hx hb xd_Re_sendOutput_67 (by decide) (fun c_47 => ?_) (fun c_47 => ?_)
    · refine lv_iinc (v := (1 : Int32)) (lv' := [(2, .int (1 : Int32)), (0, .ref (ad 13 r)), (1, .ref (ad 7 k1)), (3, .int x3), (4, .int (1 : Int32))]) hx hb xd_Re_sendOutput_98 hl (k := 2) rfl (by decide) (by decide) rfl (fun ls hl => ?_)
      refine lv_goto (tgt := 27) hx hb xd_Re_sendOutput_101 (by decide) ?_
      exact J4 v (k1) _ _ _ (by rw [hj]; simp only [xf_Re_sendOutput_j19, if_pos c_47]) (by omega)  hI hP hS (lv_sub hl [1, 2, 0] rfl)
    · refine lv_aload_n hx hb xd_Re_sendOutput_70 rfl (lv_at hl 1 rfl) ?_
      refine fw_getr hx hb hts i_Fm hown hK hP (xm_7 (by omega)) (xk_7 k1) rfl 4 (by decide) (hts _ L_Re_130) (fun _ h9 => h9) rfl xd_Re_sendOutput_71 ?_
      refine lv_iload_n hx hb xd_Re_sendOutput_74 rfl (lv_at hl 2 rfl) ?_
      refine lv_iload hx hb xd_Re_sendOutput_75 (lv_at hl 4 rfl) ?_
      refine fw_co (va_runSN (As := [.int (0 : Int32), .int (1 : Int32)]) (rest := [.ref (ad 8 k1)]) ⟨hx, hb, hml, hown, hts⟩ (xc_FR_place l hD v hI (0 : Int32) (1 : Int32)) (xwn_FR_place hts (hN.2 _ L_Re_200) ⟨Nat.le_of_ble_eq_true rfl, Nat.le_of_ble_eq_true rfl⟩) (fw_preS hN hK hP) rfl rfl hl.1 rfl (lv_room (Nat.le_of_ble_eq_true rfl)) xd_Re_sendOutput_77 ⟨Nat.le_of_ble_eq_true rfl, Nat.le_of_ble_eq_true rfl⟩) hS (fun r48 H locs er48 hP hS => ?_)
      obtain rfl : r48 = (1 : Int32) := er48.trans (by decide)
      refine lv_aload_n hx hb xd_Re_sendOutput_80 rfl (lv_at hl 0 rfl) ?_
      refine fw_getr hx hb hts i_Re hown hK hP (xm_13 (by omega)) (xk_13 r) rfl 8 (by decide) (hts _ L_Re_25) (fun _ h9 => h9) rfl xd_Re_sendOutput_81 ?_
      refine lv_iload_n hx hb xd_Re_sendOutput_84 rfl (lv_at hl 2 rfl) ?_
      refine lv_iload hx hb xd_Re_sendOutput_85 (lv_at hl 4 rfl) ?_
      refine fw_co (va_runSN (As := [.int (0 : Int32), .int (1 : Int32)]) (rest := [.ref (ad 17 r), .int (1 : Int32), .ref (ad 8 k1)]) ⟨hx, hb, hml, hown, hts⟩ (xc_FR_place l hD v hI (0 : Int32) (1 : Int32)) (xwn_FR_place hts (hN.2 _ L_Re_200) ⟨Nat.le_of_ble_eq_true rfl, Nat.le_of_ble_eq_true rfl⟩) (fw_preS hN hK hP) rfl rfl hl.1 rfl (lv_room (Nat.le_of_ble_eq_true rfl)) xd_Re_sendOutput_87 ⟨Nat.le_of_ble_eq_true rfl, Nat.le_of_ble_eq_true rfl⟩) hS (fun r49 H locs er49 hP hS => ?_)
      obtain rfl : r49 = (1 : Int32) := er49.trans (by decide)
      refine fw_iald hx hb hK hP (xm_17 (by omega)) (xk_17 r) 0 rfl (j := 1) (by decide) (fw_inc (by decide)) xd_Re_sendOutput_90 ?_
      refine fw_iast hx hb hK hD hP hS (xm_8 (by omega)) (xk_8 k1) 0 rfl (j := 1) (by decide) (fw_inc (by decide)) xd_Re_sendOutput_91 (fun v50 H locs ev50 hP hS => ?_)
      have hI : xI b v50 := by rw [ev50]; exact xI_up hI trivial trivial
      refine lv_iinc (v := (2 : Int32)) (lv' := [(4, .int (2 : Int32)), (0, .ref (ad 13 r)), (1, .ref (ad 7 k1)), (2, .int (0 : Int32)), (3, .int x3)]) hx hb xd_Re_sendOutput_92 hl (k := 4) rfl (by decide) (by decide) rfl (fun ls hl => ?_)
      refine lv_goto (tgt := 64) hx hb xd_Re_sendOutput_95 (by decide) ?_
      exact J20 v50 (k1) (x3) _ _ _ (by rw [hj]; subst ev50; simp only [xf_Re_sendOutput_j19, if_neg c_47]) (by omega) hc1  hI hP hS (lv_sub hl [1, 2, 3, 4, 0] rfl)
  have J3 : ∀ (v : fw_V) (k1 : Nat) (x3 : Int32) (H : Heap) (locs : List Loc) (ls : Array Slot), xf_Re_sendOutput v0 r = xf_Re_sendOutput_j3 v r k1 x3 → k1 < 18 → vp_in x3 3 → xI b v → va_P D vcls (fw_w xCL cA xkd ad v) H → va_S (fw_A xCL ad) s.heap H locs → lv_has ls 5 [(0, .ref (ad 13 r)), (1, .ref (ad 7 k1)), (2, .int (0 : Int32)), (3, .int x3), (4, .int (0 : Int32))] → W p l e (headSpec (Cond.code xy_Re_sendOutput xb_Re_sendOutput 5 none :: vTB) xrm_Re_sendOutput).room s m ([.ref (ad 13 r)] : List Value).toArray below meth c H locs 0 0 (MQ below (fw_Qv D vcls xCL cA xkd ad (xI b) (xf_Re_sendOutput v0 r)) ([.ref (ad 13 r)] : List Value).toArray s 0 0 (fw_A xCL ad)) (F0 m 64 ls []) := by
    intro v k1 x3 H locs ls hj hc0 hc1 hI hP hS hl
    clear J10 J12 J11 J9 J8 J14 J13 J7 J16 J15 J6 J5 J18 J17 J20
    refine lv_iload hx hb xd_Re_sendOutput_64 (lv_at hl 4 rfl) ?_
    refine lv_iload_n hx hb xd_Re_sendOutput_66 rfl (lv_at hl 3 rfl) ?_
    refine lv_icmp_ge (tgt := 98) hx hb xd_Re_sendOutput_67 (by decide) (fun c_12 => ?_) (fun c_12 => ?_)
    · refine lv_iinc (v := (1 : Int32)) (lv' := [(2, .int (1 : Int32)), (0, .ref (ad 13 r)), (1, .ref (ad 7 k1)), (3, .int x3), (4, .int (0 : Int32))]) hx hb xd_Re_sendOutput_98 hl (k := 2) rfl (by decide) (by decide) rfl (fun ls hl => ?_)
      refine lv_goto (tgt := 27) hx hb xd_Re_sendOutput_101 (by decide) ?_
      exact J4 v (k1) _ _ _ (by rw [hj]; simp only [xf_Re_sendOutput_j3, if_pos c_12]) (by omega)  hI hP hS (lv_sub hl [1, 2, 0] rfl)
    · refine lv_aload_n hx hb xd_Re_sendOutput_70 rfl (lv_at hl 1 rfl) ?_
      refine fw_getr hx hb hts i_Fm hown hK hP (xm_7 (by omega)) (xk_7 k1) rfl 4 (by decide) (hts _ L_Re_130) (fun _ h9 => h9) rfl xd_Re_sendOutput_71 ?_
      refine lv_iload_n hx hb xd_Re_sendOutput_74 rfl (lv_at hl 2 rfl) ?_
      refine lv_iload hx hb xd_Re_sendOutput_75 (lv_at hl 4 rfl) ?_
      refine fw_co (va_runSN (As := [.int (0 : Int32), .int (0 : Int32)]) (rest := [.ref (ad 8 k1)]) ⟨hx, hb, hml, hown, hts⟩ (xc_FR_place l hD v hI (0 : Int32) (0 : Int32)) (xwn_FR_place hts (hN.2 _ L_Re_200) ⟨Nat.le_of_ble_eq_true rfl, Nat.le_of_ble_eq_true rfl⟩) (fw_preS hN hK hP) rfl rfl hl.1 rfl (lv_room (Nat.le_of_ble_eq_true rfl)) xd_Re_sendOutput_77 ⟨Nat.le_of_ble_eq_true rfl, Nat.le_of_ble_eq_true rfl⟩) hS (fun r44 H locs er44 hP hS => ?_)
      obtain rfl : r44 = (0 : Int32) := er44.trans (by decide)
      refine lv_aload_n hx hb xd_Re_sendOutput_80 rfl (lv_at hl 0 rfl) ?_
      refine fw_getr hx hb hts i_Re hown hK hP (xm_13 (by omega)) (xk_13 r) rfl 8 (by decide) (hts _ L_Re_25) (fun _ h9 => h9) rfl xd_Re_sendOutput_81 ?_
      refine lv_iload_n hx hb xd_Re_sendOutput_84 rfl (lv_at hl 2 rfl) ?_
      refine lv_iload hx hb xd_Re_sendOutput_85 (lv_at hl 4 rfl) ?_
      refine fw_co (va_runSN (As := [.int (0 : Int32), .int (0 : Int32)]) (rest := [.ref (ad 17 r), .int (0 : Int32), .ref (ad 8 k1)]) ⟨hx, hb, hml, hown, hts⟩ (xc_FR_place l hD v hI (0 : Int32) (0 : Int32)) (xwn_FR_place hts (hN.2 _ L_Re_200) ⟨Nat.le_of_ble_eq_true rfl, Nat.le_of_ble_eq_true rfl⟩) (fw_preS hN hK hP) rfl rfl hl.1 rfl (lv_room (Nat.le_of_ble_eq_true rfl)) xd_Re_sendOutput_87 ⟨Nat.le_of_ble_eq_true rfl, Nat.le_of_ble_eq_true rfl⟩) hS (fun r45 H locs er45 hP hS => ?_)
      obtain rfl : r45 = (0 : Int32) := er45.trans (by decide)
      refine fw_iald hx hb hK hP (xm_17 (by omega)) (xk_17 r) 0 rfl (j := 0) (by decide) (fw_inc (by decide)) xd_Re_sendOutput_90 ?_
      refine fw_iast hx hb hK hD hP hS (xm_8 (by omega)) (xk_8 k1) 0 rfl (j := 0) (by decide) (fw_inc (by decide)) xd_Re_sendOutput_91 (fun v46 H locs ev46 hP hS => ?_)
      have hI : xI b v46 := by rw [ev46]; exact xI_up hI trivial trivial
      refine lv_iinc (v := (1 : Int32)) (lv' := [(4, .int (1 : Int32)), (0, .ref (ad 13 r)), (1, .ref (ad 7 k1)), (2, .int (0 : Int32)), (3, .int x3)]) hx hb xd_Re_sendOutput_92 hl (k := 4) rfl (by decide) (by decide) rfl (fun ls hl => ?_)
      refine lv_goto (tgt := 64) hx hb xd_Re_sendOutput_95 (by decide) ?_
      exact J19 v46 (k1) (x3) _ _ _ (by rw [hj]; subst ev46; simp only [xf_Re_sendOutput_j3, if_neg c_12]) (by omega) hc1  hI hP hS (lv_sub hl [1, 2, 3, 4, 0] rfl)
  have J2 : ∀ (v : fw_V) (k1 : Nat) (x90 : Int32) (H : Heap) (locs : List Loc) (ls : Array Slot), xf_Re_sendOutput v0 r = xf_Re_sendOutput_j2 v r k1 x90 → k1 < 18 → vp_in x90 3 → xI b v → va_P D vcls (fw_w xCL cA xkd ad v) H → va_S (fw_A xCL ad) s.heap H locs → lv_has ls 5 [(0, .ref (ad 13 r)), (1, .ref (ad 7 k1)), (2, .int (0 : Int32))] → W p l e (headSpec (Cond.code xy_Re_sendOutput xb_Re_sendOutput 5 none :: vTB) xrm_Re_sendOutput).room s m ([.ref (ad 13 r)] : List Value).toArray below meth c H locs 0 0 (MQ below (fw_Qv D vcls xCL cA xkd ad (xI b) (xf_Re_sendOutput v0 r)) ([.ref (ad 13 r)] : List Value).toArray s 0 0 (fw_A xCL ad)) (F0 m 60 ls [.int x90]) := by
    intro v k1 x90 H locs ls hj hc0 hc1 hI hP hS hl
    clear J10 J12 J11 J9 J8 J14 J13 J7 J16 J15 J6 J5 J18 J17 J4 J20 J19
    refine lv_istore_n (lv' := [(3, .int x90), (0, .ref (ad 13 r)), (1, .ref (ad 7 k1)), (2, .int (0 : Int32))]) hx hb xd_Re_sendOutput_60 rfl hl (by decide) rfl (fun ls hl => ?_)
    refine lv_iconst (v := (0 : Int32)) hx hb xd_Re_sendOutput_61 (by decide) ?_
    refine lv_istore (lv' := [(4, .int (0 : Int32)), (3, .int x90), (0, .ref (ad 13 r)), (1, .ref (ad 7 k1)), (2, .int (0 : Int32))]) hx hb xd_Re_sendOutput_62 hl (by decide) rfl (fun ls hl => ?_)
    exact J3 v (k1) (x90) _ _ _ (by rw [hj]; simp only [xf_Re_sendOutput_j2]) (by omega) hc1  hI hP hS (lv_sub hl [2, 3, 4, 1, 0] rfl)
  have J22 : ∀ (v : fw_V) (k1 : Nat) (H : Heap) (locs : List Loc) (ls : Array Slot), xf_Re_sendOutput v0 r = xf_Re_sendOutput_j22 v r k1 → k1 < 18 → xI b v → va_P D vcls (fw_w xCL cA xkd ad v) H → va_S (fw_A xCL ad) s.heap H locs → lv_has ls 5 [(0, .ref (ad 13 r)), (1, .ref (ad 7 k1)), (2, .int (0 : Int32)), (3, .int (0 : Int32)), (4, .int (0 : Int32))] → W p l e (headSpec (Cond.code xy_Re_sendOutput xb_Re_sendOutput 5 none :: vTB) xrm_Re_sendOutput).room s m ([.ref (ad 13 r)] : List Value).toArray below meth c H locs 0 0 (MQ below (fw_Qv D vcls xCL cA xkd ad (xI b) (xf_Re_sendOutput v0 r)) ([.ref (ad 13 r)] : List Value).toArray s 0 0 (fw_A xCL ad)) (F0 m 64 ls []) := by
    intro v k1 H locs ls hj hc0 hI hP hS hl
    clear J10 J12 J11 J9 J8 J14 J13 J7 J16 J15 J6 J5 J18 J17 J20 J19 J3 J2
    refine lv_iload hx hb xd_Re_sendOutput_64 (lv_at hl 4 rfl) ?_
    refine lv_iload_n hx hb xd_Re_sendOutput_66 rfl (lv_at hl 3 rfl) ?_
    refine lv_icmp_ge (tgt := 98) hx hb xd_Re_sendOutput_67 (by decide) (fun _ => ?_) (fun c_52 => absurd (by decide) c_52)
    refine lv_iinc (v := (1 : Int32)) (lv' := [(2, .int (1 : Int32)), (0, .ref (ad 13 r)), (1, .ref (ad 7 k1)), (3, .int (0 : Int32)), (4, .int (0 : Int32))]) hx hb xd_Re_sendOutput_98 hl (k := 2) rfl (by decide) (by decide) rfl (fun ls hl => ?_)
    refine lv_goto (tgt := 27) hx hb xd_Re_sendOutput_101 (by decide) ?_
    exact J4 v (k1) _ _ _ (by rw [hj]; simp only [xf_Re_sendOutput_j22]) (by omega)  hI hP hS (lv_sub hl [1, 2, 0] rfl)
  have J21 : ∀ (v : fw_V) (k1 : Nat) (H : Heap) (locs : List Loc) (ls : Array Slot), xf_Re_sendOutput v0 r = xf_Re_sendOutput_j21 v r k1 → k1 < 18 → xI b v → va_P D vcls (fw_w xCL cA xkd ad v) H → va_S (fw_A xCL ad) s.heap H locs → lv_has ls 5 [(0, .ref (ad 13 r)), (1, .ref (ad 7 k1)), (2, .int (0 : Int32))] → W p l e (headSpec (Cond.code xy_Re_sendOutput xb_Re_sendOutput 5 none :: vTB) xrm_Re_sendOutput).room s m ([.ref (ad 13 r)] : List Value).toArray below meth c H locs 0 0 (MQ below (fw_Qv D vcls xCL cA xkd ad (xI b) (xf_Re_sendOutput v0 r)) ([.ref (ad 13 r)] : List Value).toArray s 0 0 (fw_A xCL ad)) (F0 m 60 ls [.int (0 : Int32)]) := by
    intro v k1 H locs ls hj hc0 hI hP hS hl
    clear J10 J12 J11 J9 J8 J14 J13 J7 J16 J15 J6 J5 J18 J17 J4 J20 J19 J3 J2
    refine lv_istore_n (lv' := [(3, .int (0 : Int32)), (0, .ref (ad 13 r)), (1, .ref (ad 7 k1)), (2, .int (0 : Int32))]) hx hb xd_Re_sendOutput_60 rfl hl (by decide) rfl (fun ls hl => ?_)
    refine lv_iconst (v := (0 : Int32)) hx hb xd_Re_sendOutput_61 (by decide) ?_
    refine lv_istore (lv' := [(4, .int (0 : Int32)), (3, .int (0 : Int32)), (0, .ref (ad 13 r)), (1, .ref (ad 7 k1)), (2, .int (0 : Int32))]) hx hb xd_Re_sendOutput_62 hl (by decide) rfl (fun ls hl => ?_)
    exact J22 v (k1) _ _ _ (by rw [hj]; simp only [xf_Re_sendOutput_j21]) (by omega)  hI hP hS (lv_sub hl [2, 3, 4, 1, 0] rfl)
  have J1 : ∀ (v : fw_V) (k1 : Nat) (H : Heap) (locs : List Loc) (ls : Array Slot), xf_Re_sendOutput v0 r = xf_Re_sendOutput_j1 v r k1 → k1 < 18 → xI b v → va_P D vcls (fw_w xCL cA xkd ad v) H → va_S (fw_A xCL ad) s.heap H locs → lv_has ls 5 [(0, .ref (ad 13 r)), (1, .ref (ad 7 k1)), (2, .int (0 : Int32))] → W p l e (headSpec (Cond.code xy_Re_sendOutput xb_Re_sendOutput 5 none :: vTB) xrm_Re_sendOutput).room s m ([.ref (ad 13 r)] : List Value).toArray below meth c H locs 0 0 (MQ below (fw_Qv D vcls xCL cA xkd ad (xI b) (xf_Re_sendOutput v0 r)) ([.ref (ad 13 r)] : List Value).toArray s 0 0 (fw_A xCL ad)) (F0 m 27 ls []) := by
    intro v k1 H locs ls hj hc0 hI hP hS hl
    clear J10 J12 J11 J9 J8 J14 J13 J7 J16 J15 J6 J5 J18 J17 J4 J20 J19 J3 J22
    refine lv_iload_n hx hb xd_Re_sendOutput_27 rfl (lv_at hl 2 rfl) ?_
    refine lv_iconst (v := (3 : Int32)) hx hb xd_Re_sendOutput_28 (by decide) ?_
    refine lv_icmp_ge (tgt := 104) hx hb xd_Re_sendOutput_29 (by decide) (fun c_7 => absurd c_7 (by decide)) (fun _ => ?_)
    refine lv_aload_n hx hb xd_Re_sendOutput_32 rfl (lv_at hl 0 rfl) ?_
    refine fw_geti hx hb hts i_Re hown hK hP (xm_13 (by omega)) (xk_13 r) rfl 13 (by decide) (hts _ L_Re_62) (fun _ h9 => h9) rfl xd_Re_sendOutput_33 ?_
    refine lv_iload_n hx hb xd_Re_sendOutput_36 rfl (lv_at hl 2 rfl) ?_
    refine fw_cb (va_runSN (As := [.int (v 13 r 13), .int (0 : Int32)]) (rest := []) ⟨hx, hb, hml, hown, hts⟩ (xc_FR_hasSlot l hD v hI (v 13 r 13) (0 : Int32)) (xwn_FR_hasSlot hts (hN.2 _ L_Re_179) ⟨Nat.le_of_ble_eq_true rfl, Nat.le_of_ble_eq_true rfl⟩) (fw_preS hN hK hP) rfl rfl hl.1 rfl (lv_room (Nat.le_of_ble_eq_true rfl)) xd_Re_sendOutput_37 ⟨Nat.le_of_ble_eq_true rfl, Nat.le_of_ble_eq_true rfl⟩) hS (fun r8 H locs zr8 er8 hP hS => ?_)
    refine lv_if_eq (tgt := 47) hx hb xd_Re_sendOutput_40 (by decide) (fun c_9 => ?_) (fun c_9 => ?_)
    · refine lv_aload_n hx hb xd_Re_sendOutput_47 rfl (lv_at hl 0 rfl) ?_
      refine fw_getr hx hb hts i_Re hown hK hP (xm_13 (by omega)) (xk_13 r) rfl 1 (by decide) (hts _ L_Re_38) (fun _ h9 => h9) rfl xd_Re_sendOutput_48 ?_
      refine lv_aload_n hx hb xd_Re_sendOutput_51 rfl (lv_at hl 0 rfl) ?_
      refine fw_getr hx hb hts i_Re hown hK hP (xm_13 (by omega)) (xk_13 r) rfl 6 (by decide) (hts _ L_Re_18) (fun _ h9 => h9) rfl xd_Re_sendOutput_52 ?_
      refine lv_iload_n hx hb xd_Re_sendOutput_55 rfl (lv_at hl 2 rfl) ?_
      refine fw_iald hx hb hK hP (xm_15 (by omega)) (xk_15 r) 0 rfl (j := 0) (by decide) (fw_inc (by decide)) xd_Re_sendOutput_56 ?_
      refine fw_co (va_runV (As := [.int (v 15 r 0)]) (rest := []) ⟨hx, hb, hml, hown, hts⟩ (xc_KT_outsOf l hD v hI (v 15 r 0)) (xw_KT_outsOf hts L_Re_196 ⟨Nat.le_of_ble_eq_true rfl, Nat.le_of_ble_eq_true rfl⟩) (fw_preV hN hK hP (xm_1 (by decide)) (xk_1 0) rfl) rfl rfl hl.1 rfl (lv_room (Nat.le_of_ble_eq_true rfl)) xd_Re_sendOutput_57 ⟨Nat.le_of_ble_eq_true rfl, Nat.le_of_ble_eq_true rfl⟩) hS (fun r10 H locs er10 hP hS => ?_)
      have h_11 : vp_in r10 3 := xp_KT_outsOf er10 hI
      exact J2 v (k1) (r10) _ _ _ (by rw [hj]; subst er8 er10; simp only [xf_Re_sendOutput_j1, if_pos c_9]) (by omega) h_11  hI hP hS (lv_sub hl [0, 1, 2] rfl)
    · refine lv_iconst (v := (0 : Int32)) hx hb xd_Re_sendOutput_43 (by decide) ?_
      refine lv_goto (tgt := 60) hx hb xd_Re_sendOutput_44 (by decide) ?_
      exact J21 v (k1) _ _ _ (by rw [hj]; subst er8; simp only [xf_Re_sendOutput_j1, if_neg c_9]) (by omega)  hI hP hS (lv_sub hl [0, 1, 2] rfl)
  clear J10 J12 J11 J9 J8 J14 J13 J7 J16 J15 J6 J5 J18 J17 J4 J20 J19 J3 J2 J22 J21
  have hl := lv_entry ([.ref (ad 13 r)]) (n := 5) (Nat.le_of_ble_eq_true rfl)
  rw [lg_entry_eq]
  generalize (lg_sl ([.ref (ad 13 r)]) ++ List.replicate (5 - (lg_sl ([.ref (ad 13 r)])).length) Slot.unset).toArray = ls at hl ⊢
  have hl : lv_has ls 5 [(0, .ref (ad 13 r))] := hl
  refine lv_aload_n hx hb xd_Re_sendOutput_0 rfl (lv_at hl 0 rfl) ?_
  refine fw_getr hx hb hts i_Re hown hK hP (xm_13 (by omega)) (xk_13 r) rfl 2 (by decide) (hts _ L_Re_42) (fun _ h9 => h9) rfl xd_Re_sendOutput_1 ?_
  refine lv_bipush (v := (12 : Int32)) hx hb xd_Re_sendOutput_4 (by decide) ?_
  refine lv_aload_n hx hb xd_Re_sendOutput_6 rfl (lv_at hl 0 rfl) ?_
  refine fw_geti hx hb hts i_Re hown hK hP (xm_13 (by omega)) (xk_13 r) rfl 11 (by decide) (hts _ L_Re_59) (fun _ h9 => h9) rfl xd_Re_sendOutput_7 ?_
  refine lv_aload_n hx hb xd_Re_sendOutput_10 rfl (lv_at hl 0 rfl) ?_
  refine fw_getr hx hb hts i_Re hown hK hP (xm_13 (by omega)) (xk_13 r) rfl 4 (by decide) (hts _ L_Re_12) (fun _ h9 => h9) rfl xd_Re_sendOutput_11 ?_
  refine fw_ci (va_runV (As := []) (rest := [.int (v0 13 r 11), .int (12 : Int32), .ref (ad 5 0)]) ⟨hx, hb, hml, hown, hts⟩ (xc_Cy_nextToSend l hD v0 hI (r) (by omega)) (xw_Cy_nextToSend hts L_Re_192 ⟨Nat.le_of_ble_eq_true rfl, Nat.le_of_ble_eq_true rfl⟩) (fw_preV hN hK hP (xm_14 (by omega)) (xk_14 r) rfl) rfl rfl hl.1 rfl (lv_room (Nat.le_of_ble_eq_true rfl)) xd_Re_sendOutput_14 ⟨Nat.le_of_ble_eq_true rfl, Nat.le_of_ble_eq_true rfl⟩) hS (fun r1 v2 H locs er1 ev2 hI hP hS => ?_)
  refine lv_aload_n hx hb xd_Re_sendOutput_17 rfl (lv_at hl 0 rfl) ?_
  refine fw_geti hx hb hts i_Re hown hK hP (xm_13 (by omega)) (xk_13 r) rfl 12 (by decide) (hts _ L_Re_31) (fun _ h9 => h9) rfl xd_Re_sendOutput_18 ?_
  refine fw_cr (va_runV (As := [.int (12 : Int32), .int (v0 13 r 11), .int r1, .int (v2 13 r 12)]) (rest := []) ⟨hx, hb, hml, hown, hts⟩ (xc_Wi_send l hD v2 hI (12 : Int32) (v0 13 r 11) r1 (v2 13 r 12)) (xw_Wi_send hts L_Re_145 ⟨Nat.le_of_ble_eq_true rfl, Nat.le_of_ble_eq_true rfl⟩) (fw_preV hN hK hP (xm_5 (by decide)) (xk_5 0) rfl) rfl rfl hl.1 rfl (lv_room (Nat.le_of_ble_eq_true rfl)) xd_Re_sendOutput_21 ⟨Nat.le_of_ble_eq_true rfl, Nat.le_of_ble_eq_true rfl⟩) hS (fun y4 v5 H locs ly4 ey4 ev5 hI hP hS => ?_)
  refine lv_astore_n (lv' := [(1, .ref (ad 7 y4)), (0, .ref (ad 13 r))]) hx hb xd_Re_sendOutput_24 rfl hl (by decide) rfl (fun ls hl => ?_)
  refine lv_iconst (v := (0 : Int32)) hx hb xd_Re_sendOutput_25 (by decide) ?_
  refine lv_istore_n (lv' := [(2, .int (0 : Int32)), (1, .ref (ad 7 y4)), (0, .ref (ad 13 r))]) hx hb xd_Re_sendOutput_26 rfl hl (by decide) rfl (fun ls hl => ?_)
  exact J1 v5 (y4) _ _ _ (by subst er1 ev2 ey4 ev5; simp only [xf_Re_sendOutput]) (by omega)  hI hP hS (lv_sub hl [2, 1, 0] rfl)

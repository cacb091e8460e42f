set_option maxHeartbeats 8000000 in
set_option maxRecDepth 100000 in
theorem xc_Re_init (l : Launch) {D : va_G} {cA : Nat → ClassId} (h0 sz : Nat) (a1 : Int32) (k2 : Nat) (k3 : Nat) (k4 : Nat) : Met l xy_Re_init (Cond.code xy_Re_init xb_Re_init 5 none :: vTB) xrm_Re_init (cx_Pc D cA [.ref h0, .int a1, .ref k2, .ref k3, .ref k4] [(h0, .inr (7, [.int 0, .null, .null, .null, .null, .int 0, .null, .null, .null, .null, .int 0, .int 0, .int 0, .int 0, .int 0, .int 0, .int 0, .int 0, .int 0, .int 0]))] sz) (cx_Qv D [(h0, .inr (7, [.int 0, .null, .null, .null, .null, .int 0, .null, .null, .null, .null, .int 0, .int 0, .int 0, .int 0, .int 0, .int 0, .int 0, .int 0, .int 0, .int 0]))] sz (fun u => xp_Re cA h0 a1 k2 k3 k4 u)) 5 20 (va_A [(h0, .inr (7, [.int 0, .null, .null, .null, .null, .int 0, .null, .null, .null, .null, .int 0, .int 0, .int 0, .int 0, .int 0, .int 0, .int 0, .int 0, .int 0, .int 0]))] sz) := by
  refine Met.ofW (cc := xb_Re_init) (maxL := 5) (ret := none) (by decide) rfl ?_
  intro p e s m args below meth c s₁ B hml hv
  obtain ⟨rfl, hsz, hP, hK, hN, hD0⟩ := hv
  have hx := B.exec
  have hb := B.bytes
  have hr := B.returns
  have hlocks := B.notSynchronized
  have hts : ∀ w ∈ vTB, w.before ([.ref h0, .int a1, .ref k2, .ref k3, .ref k4] : List Value).toArray s = true := fun w h => atoms_spec (ws := (Cond.code xy_Re_init xb_Re_init 5 none :: vTB)) B.pre w (List.mem_cons_of_mem _ h)
  have hown : s.vm.findClass R_Re = some m.cls := findClass_of_methodNamed B.named
  have hin : meth.name = "<init>" := (name_of_methodNamed B.named B.method).1
  subst hsz
  have hD := hD0.self (sz := s.heap.size)
  generalize hAe : va_A [(h0, .inr (7, [.int 0, .null, .null, .null, .null, .int 0, .null, .null, .null, .null, .int 0, .int 0, .int 0, .int 0, .int 0, .int 0, .int 0, .int 0, .int 0, .int 0]))] s.heap.size = A at hD ⊢
  have hA : ∀ q : Nat, s.heap.size ≤ q → A q := fun q h => by rw [← hAe]; exact Or.inr h
  have hS : va_S A s.heap s.heap [] := va_S.rf
  have hl := lv_entry ([.ref h0, .int a1, .ref k2, .ref k3, .ref k4]) (n := 5) (Nat.le_of_ble_eq_true rfl)
  rw [lg_entry_eq]
  generalize (lg_sl ([.ref h0, .int a1, .ref k2, .ref k3, .ref k4]) ++ List.replicate (5 - (lg_sl ([.ref h0, .int a1, .ref k2, .ref k3, .ref k4])).length) Slot.unset).toArray = ls at hl ⊢
  have hl : lv_has ls 5 [(0, .ref h0), (1, .int a1), (2, .ref k2), (3, .ref k3), (4, .ref k4)] := hl
  refine lv_aload_n hx hb xd_Re_init_0 rfl (lv_at hl 0 rfl) ?_
  refine W.objInit hx hb hown (hts _ L_Re_3) (hts _ L_objI) (hts _ L_objK) rfl (by rw [hml]; exact hl.1) rfl xd_Re_init_1 (Nat.le_of_ble_eq_true rfl) (Nat.le_of_ble_eq_true rfl) ?_
  refine W.eq (g2 := F0 m 4 ls []) rfl ?_
  refine lv_aload_n hx hb xd_Re_init_4 rfl (lv_at hl 0 rfl) ?_
  refine va_new (ci := 4) (fs := [.int 0, .int 0]) (C := R_Cy) (T := F_Cy) (N := 2) hx hb hts i_Cy t_Cy t_Cy_ok hown (hts _ LC_Re_9) (hts _ LI_Cy) (hts _ N_Cy) hK hP hD hS hA rfl (fun j hj => by rcases (show j = 0 ∨ j = 1 by omega) with rfl | rfl <;> rfl) (Nat.le_of_ble_eq_true rfl) (Nat.le_of_ble_eq_true rfl) xd_Re_init_5 (fun q1 H hP1 hD1 hS1 => ?_)
  clear hP hD hS
  refine W.widen (k := 1) (n := 2) (by omega) (by omega) ?_
  replace hP1 : va_P D vcls [(h0, .inr (7, [.int 0, .null, .null, .null, .null, .int 0, .null, .null, .null, .null, .int 0, .int 0, .int 0, .int 0, .int 0, .int 0, .int 0, .int 0, .int 0, .int 0])), (q1, .inr (4, [.int 0, .int 0]))] H := hP1
  replace hD1 : va_D A [(h0, .inr (7, [.int 0, .null, .null, .null, .null, .int 0, .null, .null, .null, .null, .int 0, .int 0, .int 0, .int 0, .int 0, .int 0, .int 0, .int 0, .int 0, .int 0])), (q1, .inr (4, [.int 0, .int 0]))] := hD1
  refine lv_dup hx hb xd_Re_init_8 rfl ?_
  refine cx_call (wr := [(h0, .inr (7, [.int 0, .null, .null, .null, .null, .int 0, .null, .null, .null, .null, .int 0, .int 0, .int 0, .int 0, .int 0, .int 0, .int 0, .int 0, .int 0, .int 0]))]) (va_runIN (As := []) (rest := [.ref q1, .ref h0]) ⟨hx, hb, hml, hown, hts⟩ (xc_Cy_init l (D := D) (cA := cA) q1 H.size ) (xwn_Cy_init hts (hN.1.2 _ L_Re_11) ⟨Nat.le_of_ble_eq_true rfl, Nat.le_of_ble_eq_true rfl⟩) (cx_pre hK hN hP1 hD1 [1] rfl rfl) rfl rfl hl.1 rfl (lv_room (Nat.le_of_ble_eq_true rfl)) xd_Re_init_9 ⟨Nat.le_of_ble_eq_true rfl, Nat.le_of_ble_eq_true rfl⟩) hP1 hD1 hS1 hA [1] [0] rfl rfl rfl (by decide) (fun u2 H locs hP2 hD2 hS2 => ?_)
  clear hP1 hD1 hS1
  refine W.widen (k := 1) (n := 2) (by omega) (by omega) ?_
  replace hP2 : va_P D vcls [(h0, .inr (7, [.int 0, .null, .null, .null, .null, .int 0, .null, .null, .null, .null, .int 0, .int 0, .int 0, .int 0, .int 0, .int 0, .int 0, .int 0, .int 0, .int 0])), (q1, .inr (4, [.int 0, .int (-1 : Int32)]))] H := hP2
  replace hD2 : va_D A [(h0, .inr (7, [.int 0, .null, .null, .null, .null, .int 0, .null, .null, .null, .null, .int 0, .int 0, .int 0, .int 0, .int 0, .int 0, .int 0, .int 0, .int 0, .int 0])), (q1, .inr (4, [.int 0, .int (-1 : Int32)]))] := hD2
  refine va_putF (D := D) (ci := 7) (v := .ref q1) (ty := .object "FieldRelay$Cycle") (C := R_Re) (T := F_Re) (N := 20) hx hb hts i_Re t_Re t_Re_ok n_Re hown hK hP2 hD2 hS2 0 rfl rfl 4 (by decide) (hts _ L_Re_12) (fun _ h9 => h9) rfl hin rfl (by decide +kernel) rfl rfl (Nat.le_of_ble_eq_true rfl) xd_Re_init_12 (fun H locs hP3 hD3 hS3 => ?_)
  clear hP2 hD2 hS2
  replace hP3 : va_P D vcls [(h0, .inr (7, [.int 0, .null, .null, .null, .ref q1, .int 0, .null, .null, .null, .null, .int 0, .int 0, .int 0, .int 0, .int 0, .int 0, .int 0, .int 0, .int 0, .int 0])), (q1, .inr (4, [.int 0, .int (-1 : Int32)]))] H := hP3
  replace hD3 : va_D A [(h0, .inr (7, [.int 0, .null, .null, .null, .ref q1, .int 0, .null, .null, .null, .null, .int 0, .int 0, .int 0, .int 0, .int 0, .int 0, .int 0, .int 0, .int 0, .int 0])), (q1, .inr (4, [.int 0, .int (-1 : Int32)]))] := hD3
  refine lv_aload_n hx hb xd_Re_init_15 rfl (lv_at hl 0 rfl) ?_
  refine lv_iconst (v := (3 : Int32)) hx hb xd_Re_init_16 (by decide) ?_
  refine fw_newi (N := 3) hx hb (hts _ L_arrI) hK 0 rfl hP3 hD3 hS3 hA (by decide) (by decide) (by decide) (Nat.le_of_ble_eq_true rfl) (Nat.le_of_ble_eq_true rfl) xd_Re_init_17 (fun q3 H hP4 hD4 hS4 => ?_)
  clear hP3 hD3 hS3
  refine W.widen (k := 2) (n := 5) (by omega) (by omega) ?_
  replace hP4 : va_P D vcls [(h0, .inr (7, [.int 0, .null, .null, .null, .ref q1, .int 0, .null, .null, .null, .null, .int 0, .int 0, .int 0, .int 0, .int 0, .int 0, .int 0, .int 0, .int 0, .int 0])), (q1, .inr (4, [.int 0, .int (-1 : Int32)])), (q3, .inl (cA 0, 3, .inl (fun _ => 0)))] H := hP4
  replace hD4 : va_D A [(h0, .inr (7, [.int 0, .null, .null, .null, .ref q1, .int 0, .null, .null, .null, .null, .int 0, .int 0, .int 0, .int 0, .int 0, .int 0, .int 0, .int 0, .int 0, .int 0])), (q1, .inr (4, [.int 0, .int (-1 : Int32)])), (q3, .inl (cA 0, 3, .inl (fun _ => 0)))] := hD4
  refine va_putF (D := D) (ci := 7) (v := .ref q3) (ty := .array .int) (C := R_Re) (T := F_Re) (N := 20) hx hb hts i_Re t_Re t_Re_ok n_Re hown hK hP4 hD4 hS4 0 rfl rfl 6 (by decide) (hts _ L_Re_18) (fun _ h9 => h9) rfl hin rfl (by decide +kernel) rfl rfl (Nat.le_of_ble_eq_true rfl) xd_Re_init_19 (fun H locs hP5 hD5 hS5 => ?_)
  clear hP4 hD4 hS4
  replace hP5 : va_P D vcls [(h0, .inr (7, [.int 0, .null, .null, .null, .ref q1, .int 0, .ref q3, .null, .null, .null, .int 0, .int 0, .int 0, .int 0, .int 0, .int 0, .int 0, .int 0, .int 0, .int 0])), (q1, .inr (4, [.int 0, .int (-1 : Int32)])), (q3, .inl (cA 0, 3, .inl (fun _ => 0)))] H := hP5
  replace hD5 : va_D A [(h0, .inr (7, [.int 0, .null, .null, .null, .ref q1, .int 0, .ref q3, .null, .null, .null, .int 0, .int 0, .int 0, .int 0, .int 0, .int 0, .int 0, .int 0, .int 0, .int 0])), (q1, .inr (4, [.int 0, .int (-1 : Int32)])), (q3, .inl (cA 0, 3, .inl (fun _ => 0)))] := hD5
  refine lv_aload_n hx hb xd_Re_init_22 rfl (lv_at hl 0 rfl) ?_
  refine lv_iconst (v := (3 : Int32)) hx hb xd_Re_init_23 (by decide) ?_
  refine fw_newi (N := 3) hx hb (hts _ L_arrI) hK 0 rfl hP5 hD5 hS5 hA (by decide) (by decide) (by decide) (Nat.le_of_ble_eq_true rfl) (Nat.le_of_ble_eq_true rfl) xd_Re_init_24 (fun q4 H hP6 hD6 hS6 => ?_)
  clear hP5 hD5 hS5
  refine W.widen (k := 3) (n := 8) (by omega) (by omega) ?_
  replace hP6 : va_P D vcls [(h0, .inr (7, [.int 0, .null, .null, .null, .ref q1, .int 0, .ref q3, .null, .null, .null, .int 0, .int 0, .int 0, .int 0, .int 0, .int 0, .int 0, .int 0, .int 0, .int 0])), (q1, .inr (4, [.int 0, .int (-1 : Int32)])), (q3, .inl (cA 0, 3, .inl (fun _ => 0))), (q4, .inl (cA 0, 3, .inl (fun _ => 0)))] H := hP6
  replace hD6 : va_D A [(h0, .inr (7, [.int 0, .null, .null, .null, .ref q1, .int 0, .ref q3, .null, .null, .null, .int 0, .int 0, .int 0, .int 0, .int 0, .int 0, .int 0, .int 0, .int 0, .int 0])), (q1, .inr (4, [.int 0, .int (-1 : Int32)])), (q3, .inl (cA 0, 3, .inl (fun _ => 0))), (q4, .inl (cA 0, 3, .inl (fun _ => 0)))] := hD6
  refine va_putF (D := D) (ci := 7) (v := .ref q4) (ty := .array .int) (C := R_Re) (T := F_Re) (N := 20) hx hb hts i_Re t_Re t_Re_ok n_Re hown hK hP6 hD6 hS6 0 rfl rfl 7 (by decide) (hts _ L_Re_22) (fun _ h9 => h9) rfl hin rfl (by decide +kernel) rfl rfl (Nat.le_of_ble_eq_true rfl) xd_Re_init_26 (fun H locs hP7 hD7 hS7 => ?_)
  clear hP6 hD6 hS6
  replace hP7 : va_P D vcls [(h0, .inr (7, [.int 0, .null, .null, .null, .ref q1, .int 0, .ref q3, .ref q4, .null, .null, .int 0, .int 0, .int 0, .int 0, .int 0, .int 0, .int 0, .int 0, .int 0, .int 0])), (q1, .inr (4, [.int 0, .int (-1 : Int32)])), (q3, .inl (cA 0, 3, .inl (fun _ => 0))), (q4, .inl (cA 0, 3, .inl (fun _ => 0)))] H := hP7
  replace hD7 : va_D A [(h0, .inr (7, [.int 0, .null, .null, .null, .ref q1, .int 0, .ref q3, .ref q4, .null, .null, .int 0, .int 0, .int 0, .int 0, .int 0, .int 0, .int 0, .int 0, .int 0, .int 0])), (q1, .inr (4, [.int 0, .int (-1 : Int32)])), (q3, .inl (cA 0, 3, .inl (fun _ => 0))), (q4, .inl (cA 0, 3, .inl (fun _ => 0)))] := hD7
  refine lv_aload_n hx hb xd_Re_init_29 rfl (lv_at hl 0 rfl) ?_
  refine lv_bipush (v := (6 : Int32)) hx hb xd_Re_init_30 (by decide) ?_
  refine fw_newi (N := 6) hx hb (hts _ L_arrI) hK 0 rfl hP7 hD7 hS7 hA (by decide) (by decide) (by decide) (Nat.le_of_ble_eq_true rfl) (Nat.le_of_ble_eq_true rfl) xd_Re_init_32 (fun q5 H hP8 hD8 hS8 => ?_)
  clear hP7 hD7 hS7
  refine W.widen (k := 4) (n := 14) (by omega) (by omega) ?_
  replace hP8 : va_P D vcls [(h0, .inr (7, [.int 0, .null, .null, .null, .ref q1, .int 0, .ref q3, .ref q4, .null, .null, .int 0, .int 0, .int 0, .int 0, .int 0, .int 0, .int 0, .int 0, .int 0, .int 0])), (q1, .inr (4, [.int 0, .int (-1 : Int32)])), (q3, .inl (cA 0, 3, .inl (fun _ => 0))), (q4, .inl (cA 0, 3, .inl (fun _ => 0))), (q5, .inl (cA 0, 6, .inl (fun _ => 0)))] H := hP8
  replace hD8 : va_D A [(h0, .inr (7, [.int 0, .null, .null, .null, .ref q1, .int 0, .ref q3, .ref q4, .null, .null, .int 0, .int 0, .int 0, .int 0, .int 0, .int 0, .int 0, .int 0, .int 0, .int 0])), (q1, .inr (4, [.int 0, .int (-1 : Int32)])), (q3, .inl (cA 0, 3, .inl (fun _ => 0))), (q4, .inl (cA 0, 3, .inl (fun _ => 0))), (q5, .inl (cA 0, 6, .inl (fun _ => 0)))] := hD8
  refine va_putF (D := D) (ci := 7) (v := .ref q5) (ty := .array .int) (C := R_Re) (T := F_Re) (N := 20) hx hb hts i_Re t_Re t_Re_ok n_Re hown hK hP8 hD8 hS8 0 rfl rfl 8 (by decide) (hts _ L_Re_25) (fun _ h9 => h9) rfl hin rfl (by decide +kernel) rfl rfl (Nat.le_of_ble_eq_true rfl) xd_Re_init_34 (fun H locs hP9 hD9 hS9 => ?_)
  clear hP8 hD8 hS8
  replace hP9 : va_P D vcls [(h0, .inr (7, [.int 0, .null, .null, .null, .ref q1, .int 0, .ref q3, .ref q4, .ref q5, .null, .int 0, .int 0, .int 0, .int 0, .int 0, .int 0, .int 0, .int 0, .int 0, .int 0])), (q1, .inr (4, [.int 0, .int (-1 : Int32)])), (q3, .inl (cA 0, 3, .inl (fun _ => 0))), (q4, .inl (cA 0, 3, .inl (fun _ => 0))), (q5, .inl (cA 0, 6, .inl (fun _ => 0)))] H := hP9
  replace hD9 : va_D A [(h0, .inr (7, [.int 0, .null, .null, .null, .ref q1, .int 0, .ref q3, .ref q4, .ref q5, .null, .int 0, .int 0, .int 0, .int 0, .int 0, .int 0, .int 0, .int 0, .int 0, .int 0])), (q1, .inr (4, [.int 0, .int (-1 : Int32)])), (q3, .inl (cA 0, 3, .inl (fun _ => 0))), (q4, .inl (cA 0, 3, .inl (fun _ => 0))), (q5, .inl (cA 0, 6, .inl (fun _ => 0)))] := hD9
  refine lv_aload_n hx hb xd_Re_init_37 rfl (lv_at hl 0 rfl) ?_
  refine lv_bipush (v := (6 : Int32)) hx hb xd_Re_init_38 (by decide) ?_
  refine fw_newi (N := 6) hx hb (hts _ L_arrI) hK 0 rfl hP9 hD9 hS9 hA (by decide) (by decide) (by decide) (Nat.le_of_ble_eq_true rfl) (Nat.le_of_ble_eq_true rfl) xd_Re_init_40 (fun q6 H hP10 hD10 hS10 => ?_)
  clear hP9 hD9 hS9
  refine W.widen (k := 5) (n := 20) (by omega) (by omega) ?_
  replace hP10 : va_P D vcls [(h0, .inr (7, [.int 0, .null, .null, .null, .ref q1, .int 0, .ref q3, .ref q4, .ref q5, .null, .int 0, .int 0, .int 0, .int 0, .int 0, .int 0, .int 0, .int 0, .int 0, .int 0])), (q1, .inr (4, [.int 0, .int (-1 : Int32)])), (q3, .inl (cA 0, 3, .inl (fun _ => 0))), (q4, .inl (cA 0, 3, .inl (fun _ => 0))), (q5, .inl (cA 0, 6, .inl (fun _ => 0))), (q6, .inl (cA 0, 6, .inl (fun _ => 0)))] H := hP10
  replace hD10 : va_D A [(h0, .inr (7, [.int 0, .null, .null, .null, .ref q1, .int 0, .ref q3, .ref q4, .ref q5, .null, .int 0, .int 0, .int 0, .int 0, .int 0, .int 0, .int 0, .int 0, .int 0, .int 0])), (q1, .inr (4, [.int 0, .int (-1 : Int32)])), (q3, .inl (cA 0, 3, .inl (fun _ => 0))), (q4, .inl (cA 0, 3, .inl (fun _ => 0))), (q5, .inl (cA 0, 6, .inl (fun _ => 0))), (q6, .inl (cA 0, 6, .inl (fun _ => 0)))] := hD10
  refine va_putF (D := D) (ci := 7) (v := .ref q6) (ty := .array .int) (C := R_Re) (T := F_Re) (N := 20) hx hb hts i_Re t_Re t_Re_ok n_Re hown hK hP10 hD10 hS10 0 rfl rfl 9 (by decide) (hts _ L_Re_28) (fun _ h9 => h9) rfl hin rfl (by decide +kernel) rfl rfl (Nat.le_of_ble_eq_true rfl) xd_Re_init_42 (fun H locs hP11 hD11 hS11 => ?_)
  clear hP10 hD10 hS10
  replace hP11 : va_P D vcls [(h0, .inr (7, [.int 0, .null, .null, .null, .ref q1, .int 0, .ref q3, .ref q4, .ref q5, .ref q6, .int 0, .int 0, .int 0, .int 0, .int 0, .int 0, .int 0, .int 0, .int 0, .int 0])), (q1, .inr (4, [.int 0, .int (-1 : Int32)])), (q3, .inl (cA 0, 3, .inl (fun _ => 0))), (q4, .inl (cA 0, 3, .inl (fun _ => 0))), (q5, .inl (cA 0, 6, .inl (fun _ => 0))), (q6, .inl (cA 0, 6, .inl (fun _ => 0)))] H := hP11
  replace hD11 : va_D A [(h0, .inr (7, [.int 0, .null, .null, .null, .ref q1, .int 0, .ref q3, .ref q4, .ref q5, .ref q6, .int 0, .int 0, .int 0, .int 0, .int 0, .int 0, .int 0, .int 0, .int 0, .int 0])), (q1, .inr (4, [.int 0, .int (-1 : Int32)])), (q3, .inl (cA 0, 3, .inl (fun _ => 0))), (q4, .inl (cA 0, 3, .inl (fun _ => 0))), (q5, .inl (cA 0, 6, .inl (fun _ => 0))), (q6, .inl (cA 0, 6, .inl (fun _ => 0)))] := hD11
  refine lv_aload_n hx hb xd_Re_init_45 rfl (lv_at hl 0 rfl) ?_
  refine lv_iconst (v := (-1 : Int32)) hx hb xd_Re_init_46 (by decide) ?_
  refine va_put (D := D) (ci := 7) (v := .int (-1 : Int32)) (ty := .int) (C := R_Re) (T := F_Re) (N := 20) hx hb hts i_Re t_Re t_Re_ok n_Re hown hK hP11 hD11 hS11 0 rfl rfl 12 (by decide) (hts _ L_Re_31) (fun _ h9 => h9) rfl (by decide +kernel) rfl rfl (Nat.le_of_ble_eq_true rfl) xd_Re_init_47 (fun H locs hP12 hD12 hS12 => ?_)
  clear hP11 hD11 hS11
  replace hP12 : va_P D vcls [(h0, .inr (7, [.int 0, .null, .null, .null, .ref q1, .int 0, .ref q3, .ref q4, .ref q5, .ref q6, .int 0, .int 0, .int (-1 : Int32), .int 0, .int 0, .int 0, .int 0, .int 0, .int 0, .int 0])), (q1, .inr (4, [.int 0, .int (-1 : Int32)])), (q3, .inl (cA 0, 3, .inl (fun _ => 0))), (q4, .inl (cA 0, 3, .inl (fun _ => 0))), (q5, .inl (cA 0, 6, .inl (fun _ => 0))), (q6, .inl (cA 0, 6, .inl (fun _ => 0)))] H := hP12
  replace hD12 : va_D A [(h0, .inr (7, [.int 0, .null, .null, .null, .ref q1, .int 0, .ref q3, .ref q4, .ref q5, .ref q6, .int 0, .int 0, .int (-1 : Int32), .int 0, .int 0, .int 0, .int 0, .int 0, .int 0, .int 0])), (q1, .inr (4, [.int 0, .int (-1 : Int32)])), (q3, .inl (cA 0, 3, .inl (fun _ => 0))), (q4, .inl (cA 0, 3, .inl (fun _ => 0))), (q5, .inl (cA 0, 6, .inl (fun _ => 0))), (q6, .inl (cA 0, 6, .inl (fun _ => 0)))] := hD12
  refine lv_aload_n hx hb xd_Re_init_50 rfl (lv_at hl 0 rfl) ?_
  refine lv_iload_n hx hb xd_Re_init_51 rfl (lv_at hl 1 rfl) ?_
  refine va_putF (D := D) (ci := 7) (v := .int a1) (ty := .int) (C := R_Re) (T := F_Re) (N := 20) hx hb hts i_Re t_Re t_Re_ok n_Re hown hK hP12 hD12 hS12 0 rfl rfl 0 (by decide) (hts _ L_Re_35) (fun _ h9 => h9) rfl hin rfl (by decide +kernel) rfl rfl (Nat.le_of_ble_eq_true rfl) xd_Re_init_52 (fun H locs hP13 hD13 hS13 => ?_)
  clear hP12 hD12 hS12
  replace hP13 : va_P D vcls [(h0, .inr (7, [.int a1, .null, .null, .null, .ref q1, .int 0, .ref q3, .ref q4, .ref q5, .ref q6, .int 0, .int 0, .int (-1 : Int32), .int 0, .int 0, .int 0, .int 0, .int 0, .int 0, .int 0])), (q1, .inr (4, [.int 0, .int (-1 : Int32)])), (q3, .inl (cA 0, 3, .inl (fun _ => 0))), (q4, .inl (cA 0, 3, .inl (fun _ => 0))), (q5, .inl (cA 0, 6, .inl (fun _ => 0))), (q6, .inl (cA 0, 6, .inl (fun _ => 0)))] H := hP13
  replace hD13 : va_D A [(h0, .inr (7, [.int a1, .null, .null, .null, .ref q1, .int 0, .ref q3, .ref q4, .ref q5, .ref q6, .int 0, .int 0, .int (-1 : Int32), .int 0, .int 0, .int 0, .int 0, .int 0, .int 0, .int 0])), (q1, .inr (4, [.int 0, .int (-1 : Int32)])), (q3, .inl (cA 0, 3, .inl (fun _ => 0))), (q4, .inl (cA 0, 3, .inl (fun _ => 0))), (q5, .inl (cA 0, 6, .inl (fun _ => 0))), (q6, .inl (cA 0, 6, .inl (fun _ => 0)))] := hD13
  refine lv_aload_n hx hb xd_Re_init_55 rfl (lv_at hl 0 rfl) ?_
  refine lv_aload_n hx hb xd_Re_init_56 rfl (lv_at hl 2 rfl) ?_
  refine va_putF (D := D) (ci := 7) (v := .ref k2) (ty := .object "FieldRelay$KindTable") (C := R_Re) (T := F_Re) (N := 20) hx hb hts i_Re t_Re t_Re_ok n_Re hown hK hP13 hD13 hS13 0 rfl rfl 1 (by decide) (hts _ L_Re_38) (fun _ h9 => h9) rfl hin rfl (by decide +kernel) rfl rfl (Nat.le_of_ble_eq_true rfl) xd_Re_init_57 (fun H locs hP14 hD14 hS14 => ?_)
  clear hP13 hD13 hS13
  replace hP14 : va_P D vcls [(h0, .inr (7, [.int a1, .ref k2, .null, .null, .ref q1, .int 0, .ref q3, .ref q4, .ref q5, .ref q6, .int 0, .int 0, .int (-1 : Int32), .int 0, .int 0, .int 0, .int 0, .int 0, .int 0, .int 0])), (q1, .inr (4, [.int 0, .int (-1 : Int32)])), (q3, .inl (cA 0, 3, .inl (fun _ => 0))), (q4, .inl (cA 0, 3, .inl (fun _ => 0))), (q5, .inl (cA 0, 6, .inl (fun _ => 0))), (q6, .inl (cA 0, 6, .inl (fun _ => 0)))] H := hP14
  replace hD14 : va_D A [(h0, .inr (7, [.int a1, .ref k2, .null, .null, .ref q1, .int 0, .ref q3, .ref q4, .ref q5, .ref q6, .int 0, .int 0, .int (-1 : Int32), .int 0, .int 0, .int 0, .int 0, .int 0, .int 0, .int 0])), (q1, .inr (4, [.int 0, .int (-1 : Int32)])), (q3, .inl (cA 0, 3, .inl (fun _ => 0))), (q4, .inl (cA 0, 3, .inl (fun _ => 0))), (q5, .inl (cA 0, 6, .inl (fun _ => 0))), (q6, .inl (cA 0, 6, .inl (fun _ => 0)))] := hD14
  refine lv_aload_n hx hb xd_Re_init_60 rfl (lv_at hl 0 rfl) ?_
  refine lv_aload_n hx hb xd_Re_init_61 rfl (lv_at hl 3 rfl) ?_
  refine va_putF (D := D) (ci := 7) (v := .ref k3) (ty := .object "FieldRelay$Wire") (C := R_Re) (T := F_Re) (N := 20) hx hb hts i_Re t_Re t_Re_ok n_Re hown hK hP14 hD14 hS14 0 rfl rfl 2 (by decide) (hts _ L_Re_42) (fun _ h9 => h9) rfl hin rfl (by decide +kernel) rfl rfl (Nat.le_of_ble_eq_true rfl) xd_Re_init_62 (fun H locs hP15 hD15 hS15 => ?_)
  clear hP14 hD14 hS14
  replace hP15 : va_P D vcls [(h0, .inr (7, [.int a1, .ref k2, .ref k3, .null, .ref q1, .int 0, .ref q3, .ref q4, .ref q5, .ref q6, .int 0, .int 0, .int (-1 : Int32), .int 0, .int 0, .int 0, .int 0, .int 0, .int 0, .int 0])), (q1, .inr (4, [.int 0, .int (-1 : Int32)])), (q3, .inl (cA 0, 3, .inl (fun _ => 0))), (q4, .inl (cA 0, 3, .inl (fun _ => 0))), (q5, .inl (cA 0, 6, .inl (fun _ => 0))), (q6, .inl (cA 0, 6, .inl (fun _ => 0)))] H := hP15
  replace hD15 : va_D A [(h0, .inr (7, [.int a1, .ref k2, .ref k3, .null, .ref q1, .int 0, .ref q3, .ref q4, .ref q5, .ref q6, .int 0, .int 0, .int (-1 : Int32), .int 0, .int 0, .int 0, .int 0, .int 0, .int 0, .int 0])), (q1, .inr (4, [.int 0, .int (-1 : Int32)])), (q3, .inl (cA 0, 3, .inl (fun _ => 0))), (q4, .inl (cA 0, 3, .inl (fun _ => 0))), (q5, .inl (cA 0, 6, .inl (fun _ => 0))), (q6, .inl (cA 0, 6, .inl (fun _ => 0)))] := hD15
  refine lv_aload_n hx hb xd_Re_init_65 rfl (lv_at hl 0 rfl) ?_
  refine lv_aload hx hb xd_Re_init_66 (lv_at hl 4 rfl) ?_
  refine va_putF (D := D) (ci := 7) (v := .ref k4) (ty := .object "FieldRelay$AlarmLog") (C := R_Re) (T := F_Re) (N := 20) hx hb hts i_Re t_Re t_Re_ok n_Re hown hK hP15 hD15 hS15 0 rfl rfl 3 (by decide) (hts _ L_Re_46) (fun _ h9 => h9) rfl hin rfl (by decide +kernel) rfl rfl (Nat.le_of_ble_eq_true rfl) xd_Re_init_68 (fun H locs hP16 hD16 hS16 => ?_)
  clear hP15 hD15 hS15
  replace hP16 : va_P D vcls [(h0, .inr (7, [.int a1, .ref k2, .ref k3, .ref k4, .ref q1, .int 0, .ref q3, .ref q4, .ref q5, .ref q6, .int 0, .int 0, .int (-1 : Int32), .int 0, .int 0, .int 0, .int 0, .int 0, .int 0, .int 0])), (q1, .inr (4, [.int 0, .int (-1 : Int32)])), (q3, .inl (cA 0, 3, .inl (fun _ => 0))), (q4, .inl (cA 0, 3, .inl (fun _ => 0))), (q5, .inl (cA 0, 6, .inl (fun _ => 0))), (q6, .inl (cA 0, 6, .inl (fun _ => 0)))] H := hP16
  replace hD16 : va_D A [(h0, .inr (7, [.int a1, .ref k2, .ref k3, .ref k4, .ref q1, .int 0, .ref q3, .ref q4, .ref q5, .ref q6, .int 0, .int 0, .int (-1 : Int32), .int 0, .int 0, .int 0, .int 0, .int 0, .int 0, .int 0])), (q1, .inr (4, [.int 0, .int (-1 : Int32)])), (q3, .inl (cA 0, 3, .inl (fun _ => 0))), (q4, .inl (cA 0, 3, .inl (fun _ => 0))), (q5, .inl (cA 0, 6, .inl (fun _ => 0))), (q6, .inl (cA 0, 6, .inl (fun _ => 0)))] := hD16
  refine lv_aload_n hx hb xd_Re_init_71 rfl (lv_at hl 0 rfl) ?_
  refine va_get (D := D) (ci := 7) (v := .ref q3) (C := R_Re) (T := F_Re) (N := 20) hx hb hts i_Re hown hK hP16 0 rfl rfl 6 (by decide) (hts _ L_Re_18) (fun _ h9 => h9) rfl xd_Re_init_72 ?_
  refine lv_iconst (v := (-1 : Int32)) hx hb xd_Re_init_75 (by decide) ?_
  refine cx_call (wr := [(h0, .inr (7, [.int a1, .ref k2, .ref k3, .ref k4, .ref q1, .int 0, .ref q3, .ref q4, .ref q5, .ref q6, .int 0, .int 0, .int (-1 : Int32), .int 0, .int 0, .int 0, .int 0, .int 0, .int 0, .int 0])), (q1, .inr (4, [.int 0, .int (-1 : Int32)])), (q4, .inl (cA 0, 3, .inl (fun _ => 0))), (q5, .inl (cA 0, 6, .inl (fun _ => 0))), (q6, .inl (cA 0, 6, .inl (fun _ => 0)))]) (va_runS (As := [.ref q3, .int (-1 : Int32)]) (rest := []) ⟨hx, hb, hml, hown, hts⟩ (cx_fill l (D := D) (cA := cA) q3 H.size (n := 3) (by decide) (fun _ => 0) (-1 : Int32)) (xw_fill hts L_Re_50 ⟨Nat.le_of_ble_eq_true rfl, Nat.le_of_ble_eq_true rfl⟩) (cx_pre hK hN hP16 hD16 [2] rfl rfl) rfl rfl hl.1 rfl (lv_room (Nat.le_of_ble_eq_true rfl)) xd_Re_init_76 ⟨Nat.le_of_ble_eq_true rfl, Nat.le_of_ble_eq_true rfl⟩) hP16 hD16 hS16 hA [2] [0, 1, 3, 4, 5] rfl rfl rfl (by decide) (fun _ H locs hP17 hD17 hS17 => ?_)
  clear hP16 hD16 hS16
  replace hP17 : va_P D vcls [(h0, .inr (7, [.int a1, .ref k2, .ref k3, .ref k4, .ref q1, .int 0, .ref q3, .ref q4, .ref q5, .ref q6, .int 0, .int 0, .int (-1 : Int32), .int 0, .int 0, .int 0, .int 0, .int 0, .int 0, .int 0])), (q1, .inr (4, [.int 0, .int (-1 : Int32)])), (q4, .inl (cA 0, 3, .inl (fun _ => 0))), (q5, .inl (cA 0, 6, .inl (fun _ => 0))), (q6, .inl (cA 0, 6, .inl (fun _ => 0))), (q3, .inl (cA 0, 3, .inl (fun _ => (-1 : Int32))))] H := hP17
  replace hD17 : va_D A [(h0, .inr (7, [.int a1, .ref k2, .ref k3, .ref k4, .ref q1, .int 0, .ref q3, .ref q4, .ref q5, .ref q6, .int 0, .int 0, .int (-1 : Int32), .int 0, .int 0, .int 0, .int 0, .int 0, .int 0, .int 0])), (q1, .inr (4, [.int 0, .int (-1 : Int32)])), (q4, .inl (cA 0, 3, .inl (fun _ => 0))), (q5, .inl (cA 0, 6, .inl (fun _ => 0))), (q6, .inl (cA 0, 6, .inl (fun _ => 0))), (q3, .inl (cA 0, 3, .inl (fun _ => (-1 : Int32))))] := hD17
  subst hAe
  have hP9 := hP17.sub (ws' := [(h0, .inr (7, [.int a1, .ref k2, .ref k3, .ref k4, .ref q1, .int 0, .ref q3, .ref q4, .ref q5, .ref q6, .int 0, .int 0, .int (-1 : Int32), .int 0, .int 0, .int 0, .int 0, .int 0, .int 0, .int 0])), (q1, .inr (4, [.int 0, .int (-1 : Int32)])), (q4, .inl (cA 0, 3, .inl (fun _ => 0))), (q5, .inl (cA 0, 6, .inl (fun _ => 0))), (q6, .inl (cA 0, 6, .inl (fun _ => 0))), (q3, .inl (cA 0, 3, .inl (fun _ => (-1 : Int32))))]) [0, 1, 2, 3, 4, 5] rfl
  have hD9 := hD17.sub (ws' := [(h0, .inr (7, [.int a1, .ref k2, .ref k3, .ref k4, .ref q1, .int 0, .ref q3, .ref q4, .ref q5, .ref q6, .int 0, .int 0, .int (-1 : Int32), .int 0, .int 0, .int 0, .int 0, .int 0, .int 0, .int 0])), (q1, .inr (4, [.int 0, .int (-1 : Int32)])), (q4, .inl (cA 0, 3, .inl (fun _ => 0))), (q5, .inl (cA 0, 6, .inl (fun _ => 0))), (q6, .inl (cA 0, 6, .inl (fun _ => 0))), (q3, .inl (cA 0, 3, .inl (fun _ => (-1 : Int32))))]) [0, 1, 2, 3, 4, 5] (by decide) rfl
  refine W.widen (k := 5) (n := 20) (by omega) (by omega) ?_
  exact W.vret hx hb hr (fun t ht hW => ⟨⟨(fun k => match k with | 0 => q1 | 1 => q4 | 2 => q5 | 3 => q6 | 4 => q3 | _ => 0), rfl, trivial, by rw [ht]; exact hP9, hD9⟩, hS17.F ht⟩) hS17.2.2 xd_Re_init_79 hlocks

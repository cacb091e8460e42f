set_option maxHeartbeats 8000000 in
set_option maxRecDepth 100000 in
theorem xc_Cy_init (l : Launch) {D : va_G} {cA : Nat → ClassId} (h0 sz : Nat)  : Met l xy_Cy_init (Cond.code xy_Cy_init xb_Cy_init 1 none :: vTB) xrm_Cy_init (cx_Pc D cA [.ref h0] [(h0, .inr (4, [.int 0, .int 0]))] sz) (cx_Qv D [(h0, .inr (4, [.int 0, .int 0]))] sz (fun u => xp_Cy cA h0  u)) 0 0 (va_A [(h0, .inr (4, [.int 0, .int 0]))] sz) := by
  refine Met.ofW (cc := xb_Cy_init) (maxL := 1) (ret := none) (by decide) rfl ?_
  intro p e s m args below meth c s₁ B hml hv
  obtain ⟨rfl, hsz, hP, hK, hN, hD0⟩ := hv
  have hx := B.exec
  have hb := B.bytes
  have hr := B.returns
  have hlocks := B.notSynchronized
  have hts : ∀ w ∈ vTB, w.before ([.ref h0] : List Value).toArray s = true := fun w h => atoms_spec (ws := (Cond.code xy_Cy_init xb_Cy_init 1 none :: vTB)) B.pre w (List.mem_cons_of_mem _ h)
  have hown : s.vm.findClass R_Cy = some m.cls := findClass_of_methodNamed B.named
  have hin : meth.name = "<init>" := (name_of_methodNamed B.named B.method).1
  subst hsz
  have hD := hD0.self (sz := s.heap.size)
  generalize hAe : va_A [(h0, .inr (4, [.int 0, .int 0]))] s.heap.size = A at hD ⊢
  have hA : ∀ q : Nat, s.heap.size ≤ q → A q := fun q h => by rw [← hAe]; exact Or.inr h
  have hS : va_S A s.heap s.heap [] := va_S.rf
  have hl := lv_entry ([.ref h0]) (n := 1) (Nat.le_of_ble_eq_true rfl)
  rw [lg_entry_eq]
  generalize (lg_sl ([.ref h0]) ++ List.replicate (1 - (lg_sl ([.ref h0])).length) Slot.unset).toArray = ls at hl ⊢
  have hl : lv_has ls 1 [(0, .ref h0)] := hl
  refine lv_aload_n hx hb xd_Cy_init_0 rfl (lv_at hl 0 rfl) ?_
  refine W.objInit hx hb hown (hts _ L_Cy_3) (hts _ L_objI) (hts _ L_objK) rfl (by rw [hml]; exact hl.1) rfl xd_Cy_init_1 (Nat.le_of_ble_eq_true rfl) (Nat.le_of_ble_eq_true rfl) ?_
  refine W.eq (g2 := F0 m 4 ls []) rfl ?_
  refine lv_aload_n hx hb xd_Cy_init_4 rfl (lv_at hl 0 rfl) ?_
  refine lv_iconst (v := (-1 : Int32)) hx hb xd_Cy_init_5 (by decide) ?_
  refine va_put (D := D) (ci := 4) (v := .int (-1 : Int32)) (ty := .int) (C := R_Cy) (T := F_Cy) (N := 2) hx hb hts i_Cy t_Cy t_Cy_ok n_Cy hown hK hP hD hS 0 rfl rfl 1 (by decide) (hts _ L_Cy_11) (fun _ h9 => h9) rfl (by decide +kernel) rfl rfl (Nat.le_of_ble_eq_true rfl) xd_Cy_init_6 (fun H locs hP1 hD1 hS1 => ?_)
  clear hP hD hS
  replace hP1 : va_P D vcls [(h0, .inr (4, [.int 0, .int (-1 : Int32)]))] H := hP1
  replace hD1 : va_D A [(h0, .inr (4, [.int 0, .int (-1 : Int32)]))] := hD1
  subst hAe
  have hP9 := hP1.sub (ws' := [(h0, .inr (4, [.int 0, .int (-1 : Int32)]))]) [0] rfl
  have hD9 := hD1.sub (ws' := [(h0, .inr (4, [.int 0, .int (-1 : Int32)]))]) [0] (by decide) rfl
  refine W.widen (k := 0) (n := 0) (by omega) (by omega) ?_
  exact W.vret hx hb hr (fun t ht hW => ⟨⟨(fun _ => 0), rfl, trivial, by rw [ht]; exact hP9, hD9⟩, hS1.F ht⟩) hS1.2.2 xd_Cy_init_9 hlocks
set_option maxHeartbeats 8000000 in
set_option maxRecDepth 100000 in
theorem xc_Fm_init (l : Launch) {D : va_G} {cA : Nat → ClassId} (h0 sz : Nat)  : Met l xy_Fm_init (Cond.code xy_Fm_init xb_Fm_init 1 none :: vTB) xrm_Fm_init (cx_Pc D cA [.ref h0] [(h0, .inr (2, [.int 0, .int 0, .int 0, .int 0, .null]))] sz) (cx_Qv D [(h0, .inr (2, [.int 0, .int 0, .int 0, .int 0, .null]))] sz (fun u => xp_Fm cA h0  u)) 1 7 (va_A [(h0, .inr (2, [.int 0, .int 0, .int 0, .int 0, .null]))] sz) := by
  refine Met.ofW (cc := xb_Fm_init) (maxL := 1) (ret := none) (by decide) rfl ?_
  intro p e s m args below meth c s₁ B hml hv
  obtain ⟨rfl, hsz, hP, hK, hN, hD0⟩ := hv
  have hx := B.exec
  have hb := B.bytes
  have hr := B.returns
  have hlocks := B.notSynchronized
  have hts : ∀ w ∈ vTB, w.before ([.ref h0] : List Value).toArray s = true := fun w h => atoms_spec (ws := (Cond.code xy_Fm_init xb_Fm_init 1 none :: vTB)) B.pre w (List.mem_cons_of_mem _ h)
  have hown : s.vm.findClass R_Fm = some m.cls := findClass_of_methodNamed B.named
  have hin : meth.name = "<init>" := (name_of_methodNamed B.named B.method).1
  subst hsz
  have hD := hD0.self (sz := s.heap.size)
  generalize hAe : va_A [(h0, .inr (2, [.int 0, .int 0, .int 0, .int 0, .null]))] s.heap.size = A at hD ⊢
  have hA : ∀ q : Nat, s.heap.size ≤ q → A q := fun q h => by rw [← hAe]; exact Or.inr h
  have hS : va_S A s.heap s.heap [] := va_S.rf
  have hl := lv_entry ([.ref h0]) (n := 1) (Nat.le_of_ble_eq_true rfl)
  rw [lg_entry_eq]
  generalize (lg_sl ([.ref h0]) ++ List.replicate (1 - (lg_sl ([.ref h0])).length) Slot.unset).toArray = ls at hl ⊢
  have hl : lv_has ls 1 [(0, .ref h0)] := hl
  refine lv_aload_n hx hb xd_Fm_init_0 rfl (lv_at hl 0 rfl) ?_
  refine W.objInit hx hb hown (hts _ L_Fm_3) (hts _ L_objI) (hts _ L_objK) rfl (by rw [hml]; exact hl.1) rfl xd_Fm_init_1 (Nat.le_of_ble_eq_true rfl) (Nat.le_of_ble_eq_true rfl) ?_
  refine W.eq (g2 := F0 m 4 ls []) rfl ?_
  refine lv_aload_n hx hb xd_Fm_init_4 rfl (lv_at hl 0 rfl) ?_
  refine lv_bipush (v := (7 : Int32)) hx hb xd_Fm_init_5 (by decide) ?_
  refine fw_newi (N := 7) hx hb (hts _ L_arrI) hK 0 rfl hP hD hS hA (by decide) (by decide) (by decide) (Nat.le_of_ble_eq_true rfl) (Nat.le_of_ble_eq_true rfl) xd_Fm_init_7 (fun q1 H hP1 hD1 hS1 => ?_)
  clear hP hD hS
  refine W.widen (k := 1) (n := 7) (by omega) (by omega) ?_
  replace hP1 : va_P D vcls [(h0, .inr (2, [.int 0, .int 0, .int 0, .int 0, .null])), (q1, .inl (cA 0, 7, .inl (fun _ => 0)))] H := hP1
  replace hD1 : va_D A [(h0, .inr (2, [.int 0, .int 0, .int 0, .int 0, .null])), (q1, .inl (cA 0, 7, .inl (fun _ => 0)))] := hD1
  refine va_putF (D := D) (ci := 2) (v := .ref q1) (ty := .array .int) (C := R_Fm) (T := F_Fm) (N := 5) hx hb hts i_Fm t_Fm t_Fm_ok n_Fm hown hK hP1 hD1 hS1 0 rfl rfl 4 (by decide) (hts _ L_Fm_11) (fun _ h9 => h9) rfl hin rfl (by decide +kernel) rfl rfl (Nat.le_of_ble_eq_true rfl) xd_Fm_init_9 (fun H locs hP2 hD2 hS2 => ?_)
  clear hP1 hD1 hS1
  replace hP2 : va_P D vcls [(h0, .inr (2, [.int 0, .int 0, .int 0, .int 0, .ref q1])), (q1, .inl (cA 0, 7, .inl (fun _ => 0)))] H := hP2
  replace hD2 : va_D A [(h0, .inr (2, [.int 0, .int 0, .int 0, .int 0, .ref q1])), (q1, .inl (cA 0, 7, .inl (fun _ => 0)))] := hD2
  subst hAe
  have hP9 := hP2.sub (ws' := [(h0, .inr (2, [.int 0, .int 0, .int 0, .int 0, .ref q1])), (q1, .inl (cA 0, 7, .inl (fun _ => 0)))]) [0, 1] rfl
  have hD9 := hD2.sub (ws' := [(h0, .inr (2, [.int 0, .int 0, .int 0, .int 0, .ref q1])), (q1, .inl (cA 0, 7, .inl (fun _ => 0)))]) [0, 1] (by decide) rfl
  refine W.widen (k := 1) (n := 7) (by omega) (by omega) ?_
  exact W.vret hx hb hr (fun t ht hW => ⟨⟨(fun k => match k with | 0 => q1 | _ => 0), rfl, trivial, by rw [ht]; exact hP9, hD9⟩, hS2.F ht⟩) hS2.2.2 xd_Fm_init_12 hlocks
set_option maxHeartbeats 8000000 in
set_option maxRecDepth 100000 in
theorem xc_AL_init (l : Launch) {D : va_G} {cA : Nat → ClassId} (h0 sz : Nat)  : Met l xy_AL_init (Cond.code xy_AL_init xb_AL_init 1 none :: vTB) xrm_AL_init (cx_Pc D cA [.ref h0] [(h0, .inr (5, [.null, .int 0]))] sz) (cx_Qv D [(h0, .inr (5, [.null, .int 0]))] sz (fun u => xp_AL cA h0  u)) 1 8 (va_A [(h0, .inr (5, [.null, .int 0]))] sz) := by
  refine Met.ofW (cc := xb_AL_init) (maxL := 1) (ret := none) (by decide) rfl ?_
  intro p e s m args below meth c s₁ B hml hv
  obtain ⟨rfl, hsz, hP, hK, hN, hD0⟩ := hv
  have hx := B.exec
  have hb := B.bytes
  have hr := B.returns
  have hlocks := B.notSynchronized
  have hts : ∀ w ∈ vTB, w.before ([.ref h0] : List Value).toArray s = true := fun w h => atoms_spec (ws := (Cond.code xy_AL_init xb_AL_init 1 none :: vTB)) B.pre w (List.mem_cons_of_mem _ h)
  have hown : s.vm.findClass R_AL = some m.cls := findClass_of_methodNamed B.named
  have hin : meth.name = "<init>" := (name_of_methodNamed B.named B.method).1
  subst hsz
  have hD := hD0.self (sz := s.heap.size)
  generalize hAe : va_A [(h0, .inr (5, [.null, .int 0]))] s.heap.size = A at hD ⊢
  have hA : ∀ q : Nat, s.heap.size ≤ q → A q := fun q h => by rw [← hAe]; exact Or.inr h
  have hS : va_S A s.heap s.heap [] := va_S.rf
  have hl := lv_entry ([.ref h0]) (n := 1) (Nat.le_of_ble_eq_true rfl)
  rw [lg_entry_eq]
  generalize (lg_sl ([.ref h0]) ++ List.replicate (1 - (lg_sl ([.ref h0])).length) Slot.unset).toArray = ls at hl ⊢
  have hl : lv_has ls 1 [(0, .ref h0)] := hl
  refine lv_aload_n hx hb xd_AL_init_0 rfl (lv_at hl 0 rfl) ?_
  refine W.objInit hx hb hown (hts _ L_AL_3) (hts _ L_objI) (hts _ L_objK) rfl (by rw [hml]; exact hl.1) rfl xd_AL_init_1 (Nat.le_of_ble_eq_true rfl) (Nat.le_of_ble_eq_true rfl) ?_
  refine W.eq (g2 := F0 m 4 ls []) rfl ?_
  refine lv_aload_n hx hb xd_AL_init_4 rfl (lv_at hl 0 rfl) ?_
  refine lv_bipush (v := (8 : Int32)) hx hb xd_AL_init_5 (by decide) ?_
  refine fw_newi (N := 8) hx hb (hts _ L_arrI) hK 0 rfl hP hD hS hA (by decide) (by decide) (by decide) (Nat.le_of_ble_eq_true rfl) (Nat.le_of_ble_eq_true rfl) xd_AL_init_7 (fun q1 H hP1 hD1 hS1 => ?_)
  clear hP hD hS
  refine W.widen (k := 1) (n := 8) (by omega) (by omega) ?_
  replace hP1 : va_P D vcls [(h0, .inr (5, [.null, .int 0])), (q1, .inl (cA 0, 8, .inl (fun _ => 0)))] H := hP1
  replace hD1 : va_D A [(h0, .inr (5, [.null, .int 0])), (q1, .inl (cA 0, 8, .inl (fun _ => 0)))] := hD1
  refine va_putF (D := D) (ci := 5) (v := .ref q1) (ty := .array .int) (C := R_AL) (T := F_AL) (N := 2) hx hb hts i_AL t_AL t_AL_ok n_AL hown hK hP1 hD1 hS1 0 rfl rfl 0 (by decide) (hts _ L_AL_11) (fun _ h9 => h9) rfl hin rfl (by decide +kernel) rfl rfl (Nat.le_of_ble_eq_true rfl) xd_AL_init_9 (fun H locs hP2 hD2 hS2 => ?_)
  clear hP1 hD1 hS1
  replace hP2 : va_P D vcls [(h0, .inr (5, [.ref q1, .int 0])), (q1, .inl (cA 0, 8, .inl (fun _ => 0)))] H := hP2
  replace hD2 : va_D A [(h0, .inr (5, [.ref q1, .int 0])), (q1, .inl (cA 0, 8, .inl (fun _ => 0)))] := hD2
  subst hAe
  have hP9 := hP2.sub (ws' := [(h0, .inr (5, [.ref q1, .int 0])), (q1, .inl (cA 0, 8, .inl (fun _ => 0)))]) [0, 1] rfl
  have hD9 := hD2.sub (ws' := [(h0, .inr (5, [.ref q1, .int 0])), (q1, .inl (cA 0, 8, .inl (fun _ => 0)))]) [0, 1] (by decide) rfl
  refine W.widen (k := 1) (n := 8) (by omega) (by omega) ?_
  exact W.vret hx hb hr (fun t ht hW => ⟨⟨(fun k => match k with | 0 => q1 | _ => 0), rfl, trivial, by rw [ht]; exact hP9, hD9⟩, hS2.F ht⟩) hS2.2.2 xd_AL_init_12 hlocks
set_option maxHeartbeats 8000000 in
set_option maxRecDepth 100000 in
theorem xc_AQ_init (l : Launch) {D : va_G} {cA : Nat → ClassId} (h0 sz : Nat)  : Met l xy_AQ_init (Cond.code xy_AQ_init xb_AQ_init 1 none :: vTB) xrm_AQ_init (cx_Pc D cA [.ref h0] [(h0, .inr (6, [.null, .null, .int 0, .int 0, .int 0, .int 0]))] sz) (cx_Qv D [(h0, .inr (6, [.null, .null, .int 0, .int 0, .int 0, .int 0]))] sz (fun u => xp_AQ cA h0  u)) 2 8 (va_A [(h0, .inr (6, [.null, .null, .int 0, .int 0, .int 0, .int 0]))] sz) := by
  refine Met.ofW (cc := xb_AQ_init) (maxL := 1) (ret := none) (by decide) rfl ?_
  intro p e s m args below meth c s₁ B hml hv
  obtain ⟨rfl, hsz, hP, hK, hN, hD0⟩ := hv
  have hx := B.exec
  have hb := B.bytes
  have hr := B.returns
  have hlocks := B.notSynchronized
  have hts : ∀ w ∈ vTB, w.before ([.ref h0] : List Value).toArray s = true := fun w h => atoms_spec (ws := (Cond.code xy_AQ_init xb_AQ_init 1 none :: vTB)) B.pre w (List.mem_cons_of_mem _ h)
  have hown : s.vm.findClass R_AQ = some m.cls := findClass_of_methodNamed B.named
  have hin : meth.name = "<init>" := (name_of_methodNamed B.named B.method).1
  subst hsz
  have hD := hD0.self (sz := s.heap.size)
  generalize hAe : va_A [(h0, .inr (6, [.null, .null, .int 0, .int 0, .int 0, .int 0]))] s.heap.size = A at hD ⊢
  have hA : ∀ q : Nat, s.heap.size ≤ q → A q := fun q h => by rw [← hAe]; exact Or.inr h
  have hS : va_S A s.heap s.heap [] := va_S.rf
  have hl := lv_entry ([.ref h0]) (n := 1) (Nat.le_of_ble_eq_true rfl)
  rw [lg_entry_eq]
  generalize (lg_sl ([.ref h0]) ++ List.replicate (1 - (lg_sl ([.ref h0])).length) Slot.unset).toArray = ls at hl ⊢
  have hl : lv_has ls 1 [(0, .ref h0)] := hl
  refine lv_aload_n hx hb xd_AQ_init_0 rfl (lv_at hl 0 rfl) ?_
  refine W.objInit hx hb hown (hts _ L_AQ_1) (hts _ L_objI) (hts _ L_objK) rfl (by rw [hml]; exact hl.1) rfl xd_AQ_init_1 (Nat.le_of_ble_eq_true rfl) (Nat.le_of_ble_eq_true rfl) ?_
  refine W.eq (g2 := F0 m 4 ls []) rfl ?_
  refine lv_aload_n hx hb xd_AQ_init_4 rfl (lv_at hl 0 rfl) ?_
  refine lv_iconst (v := (4 : Int32)) hx hb xd_AQ_init_5 (by decide) ?_
  refine fw_newi (N := 4) hx hb (hts _ L_arrI) hK 0 rfl hP hD hS hA (by decide) (by decide) (by decide) (Nat.le_of_ble_eq_true rfl) (Nat.le_of_ble_eq_true rfl) xd_AQ_init_6 (fun q1 H hP1 hD1 hS1 => ?_)
  clear hP hD hS
  refine W.widen (k := 1) (n := 4) (by omega) (by omega) ?_
  replace hP1 : va_P D vcls [(h0, .inr (6, [.null, .null, .int 0, .int 0, .int 0, .int 0])), (q1, .inl (cA 0, 4, .inl (fun _ => 0)))] H := hP1
  replace hD1 : va_D A [(h0, .inr (6, [.null, .null, .int 0, .int 0, .int 0, .int 0])), (q1, .inl (cA 0, 4, .inl (fun _ => 0)))] := hD1
  refine va_putF (D := D) (ci := 6) (v := .ref q1) (ty := .array .int) (C := R_AQ) (T := F_AQ) (N := 6) hx hb hts i_AQ t_AQ t_AQ_ok n_AQ hown hK hP1 hD1 hS1 0 rfl rfl 0 (by decide) (hts _ L_AQ_9) (fun _ h9 => h9) rfl hin rfl (by decide +kernel) rfl rfl (Nat.le_of_ble_eq_true rfl) xd_AQ_init_8 (fun H locs hP2 hD2 hS2 => ?_)
  clear hP1 hD1 hS1
  replace hP2 : va_P D vcls [(h0, .inr (6, [.ref q1, .null, .int 0, .int 0, .int 0, .int 0])), (q1, .inl (cA 0, 4, .inl (fun _ => 0)))] H := hP2
  replace hD2 : va_D A [(h0, .inr (6, [.ref q1, .null, .int 0, .int 0, .int 0, .int 0])), (q1, .inl (cA 0, 4, .inl (fun _ => 0)))] := hD2
  refine lv_aload_n hx hb xd_AQ_init_11 rfl (lv_at hl 0 rfl) ?_
  refine lv_iconst (v := (4 : Int32)) hx hb xd_AQ_init_12 (by decide) ?_
  refine fw_newi (N := 4) hx hb (hts _ L_arrI) hK 0 rfl hP2 hD2 hS2 hA (by decide) (by decide) (by decide) (Nat.le_of_ble_eq_true rfl) (Nat.le_of_ble_eq_true rfl) xd_AQ_init_13 (fun q2 H hP3 hD3 hS3 => ?_)
  clear hP2 hD2 hS2
  refine W.widen (k := 2) (n := 8) (by omega) (by omega) ?_
  replace hP3 : va_P D vcls [(h0, .inr (6, [.ref q1, .null, .int 0, .int 0, .int 0, .int 0])), (q1, .inl (cA 0, 4, .inl (fun _ => 0))), (q2, .inl (cA 0, 4, .inl (fun _ => 0)))] H := hP3
  replace hD3 : va_D A [(h0, .inr (6, [.ref q1, .null, .int 0, .int 0, .int 0, .int 0])), (q1, .inl (cA 0, 4, .inl (fun _ => 0))), (q2, .inl (cA 0, 4, .inl (fun _ => 0)))] := hD3
  refine va_putF (D := D) (ci := 6) (v := .ref q2) (ty := .array .int) (C := R_AQ) (T := F_AQ) (N := 6) hx hb hts i_AQ t_AQ t_AQ_ok n_AQ hown hK hP3 hD3 hS3 0 rfl rfl 1 (by decide) (hts _ L_AQ_13) (fun _ h9 => h9) rfl hin rfl (by decide +kernel) rfl rfl (Nat.le_of_ble_eq_true rfl) xd_AQ_init_15 (fun H locs hP4 hD4 hS4 => ?_)
  clear hP3 hD3 hS3
  replace hP4 : va_P D vcls [(h0, .inr (6, [.ref q1, .ref q2, .int 0, .int 0, .int 0, .int 0])), (q1, .inl (cA 0, 4, .inl (fun _ => 0))), (q2, .inl (cA 0, 4, .inl (fun _ => 0)))] H := hP4
  replace hD4 : va_D A [(h0, .inr (6, [.ref q1, .ref q2, .int 0, .int 0, .int 0, .int 0])), (q1, .inl (cA 0, 4, .inl (fun _ => 0))), (q2, .inl (cA 0, 4, .inl (fun _ => 0)))] := hD4
  subst hAe
  have hP9 := hP4.sub (ws' := [(h0, .inr (6, [.ref q1, .ref q2, .int 0, .int 0, .int 0, .int 0])), (q1, .inl (cA 0, 4, .inl (fun _ => 0))), (q2, .inl (cA 0, 4, .inl (fun _ => 0)))]) [0, 1, 2] rfl
  have hD9 := hD4.sub (ws' := [(h0, .inr (6, [.ref q1, .ref q2, .int 0, .int 0, .int 0, .int 0])), (q1, .inl (cA 0, 4, .inl (fun _ => 0))), (q2, .inl (cA 0, 4, .inl (fun _ => 0)))]) [0, 1, 2] (by decide) rfl
  refine W.widen (k := 2) (n := 8) (by omega) (by omega) ?_
  exact W.vret hx hb hr (fun t ht hW => ⟨⟨(fun k => match k with | 0 => q1 | 1 => q2 | _ => 0), rfl, trivial, by rw [ht]; exact hP9, hD9⟩, hS4.F ht⟩) hS4.2.2 xd_AQ_init_18 hlocks
set_option maxHeartbeats 8000000 in
set_option maxRecDepth 100000 in
theorem xc_KT_init (l : Launch) {D : va_G} {cA : Nat → ClassId} (h0 sz : Nat)  : Met l xy_KT_init (Cond.code xy_KT_init xb_KT_init 1 none :: vTB) xrm_KT_init (cx_Pc D cA [.ref h0] [(h0, .inr (1, [.null, .null, .null]))] sz) (cx_Qv D [(h0, .inr (1, [.null, .null, .null]))] sz (fun u => xp_KT cA h0  u)) 3 24 (va_A [(h0, .inr (1, [.null, .null, .null]))] sz) := by
  refine Met.ofW (cc := xb_KT_init) (maxL := 1) (ret := none) (by decide) rfl ?_
  intro p e s m args below meth c s₁ B hml hv
  obtain ⟨rfl, hsz, hP, hK, hN, hD0⟩ := hv
  have hx := B.exec
  have hb := B.bytes
  have hr := B.returns
  have hlocks := B.notSynchronized
  have hts : ∀ w ∈ vTB, w.before ([.ref h0] : List Value).toArray s = true := fun w h => atoms_spec (ws := (Cond.code xy_KT_init xb_KT_init 1 none :: vTB)) B.pre w (List.mem_cons_of_mem _ h)
  have hown : s.vm.findClass R_KT = some m.cls := findClass_of_methodNamed B.named
  have hin : meth.name = "<init>" := (name_of_methodNamed B.named B.method).1
  subst hsz
  have hD := hD0.self (sz := s.heap.size)
  generalize hAe : va_A [(h0, .inr (1, [.null, .null, .null]))] s.heap.size = A at hD ⊢
  have hA : ∀ q : Nat, s.heap.size ≤ q → A q := fun q h => by rw [← hAe]; exact Or.inr h
  have hS : va_S A s.heap s.heap [] := va_S.rf
  have hl := lv_entry ([.ref h0]) (n := 1) (Nat.le_of_ble_eq_true rfl)
  rw [lg_entry_eq]
  generalize (lg_sl ([.ref h0]) ++ List.replicate (1 - (lg_sl ([.ref h0])).length) Slot.unset).toArray = ls at hl ⊢
  have hl : lv_has ls 1 [(0, .ref h0)] := hl
  refine lv_aload_n hx hb xd_KT_init_0 rfl (lv_at hl 0 rfl) ?_
  refine W.objInit hx hb hown (hts _ L_KT_3) (hts _ L_objI) (hts _ L_objK) rfl (by rw [hml]; exact hl.1) rfl xd_KT_init_1 (Nat.le_of_ble_eq_true rfl) (Nat.le_of_ble_eq_true rfl) ?_
  refine W.eq (g2 := F0 m 4 ls []) rfl ?_
  refine lv_aload_n hx hb xd_KT_init_4 rfl (lv_at hl 0 rfl) ?_
  refine lv_bipush (v := (8 : Int32)) hx hb xd_KT_init_5 (by decide) ?_
  refine fw_newi (N := 8) hx hb (hts _ L_arrI) hK 0 rfl hP hD hS hA (by decide) (by decide) (by decide) (Nat.le_of_ble_eq_true rfl) (Nat.le_of_ble_eq_true rfl) xd_KT_init_7 (fun q1 H hP1 hD1 hS1 => ?_)
  clear hP hD hS
  refine W.widen (k := 1) (n := 8) (by omega) (by omega) ?_
  replace hP1 : va_P D vcls [(h0, .inr (1, [.null, .null, .null])), (q1, .inl (cA 0, 8, .inl (fun _ => 0)))] H := hP1
  replace hD1 : va_D A [(h0, .inr (1, [.null, .null, .null])), (q1, .inl (cA 0, 8, .inl (fun _ => 0)))] := hD1
  refine va_putF (D := D) (ci := 1) (v := .ref q1) (ty := .array .int) (C := R_KT) (T := F_KT) (N := 3) hx hb hts i_KT t_KT t_KT_ok n_KT hown hK hP1 hD1 hS1 0 rfl rfl 0 (by decide) (hts _ L_KT_9) (fun _ h9 => h9) rfl hin rfl (by decide +kernel) rfl rfl (Nat.le_of_ble_eq_true rfl) xd_KT_init_9 (fun H locs hP2 hD2 hS2 => ?_)
  clear hP1 hD1 hS1
  replace hP2 : va_P D vcls [(h0, .inr (1, [.ref q1, .null, .null])), (q1, .inl (cA 0, 8, .inl (fun _ => 0)))] H := hP2
  replace hD2 : va_D A [(h0, .inr (1, [.ref q1, .null, .null])), (q1, .inl (cA 0, 8, .inl (fun _ => 0)))] := hD2
  refine lv_aload_n hx hb xd_KT_init_12 rfl (lv_at hl 0 rfl) ?_
  refine lv_bipush (v := (8 : Int32)) hx hb xd_KT_init_13 (by decide) ?_
  refine fw_newi (N := 8) hx hb (hts _ L_arrI) hK 0 rfl hP2 hD2 hS2 hA (by decide) (by decide) (by decide) (Nat.le_of_ble_eq_true rfl) (Nat.le_of_ble_eq_true rfl) xd_KT_init_15 (fun q2 H hP3 hD3 hS3 => ?_)
  clear hP2 hD2 hS2
  refine W.widen (k := 2) (n := 16) (by omega) (by omega) ?_
  replace hP3 : va_P D vcls [(h0, .inr (1, [.ref q1, .null, .null])), (q1, .inl (cA 0, 8, .inl (fun _ => 0))), (q2, .inl (cA 0, 8, .inl (fun _ => 0)))] H := hP3
  replace hD3 : va_D A [(h0, .inr (1, [.ref q1, .null, .null])), (q1, .inl (cA 0, 8, .inl (fun _ => 0))), (q2, .inl (cA 0, 8, .inl (fun _ => 0)))] := hD3
  refine va_putF (D := D) (ci := 1) (v := .ref q2) (ty := .array .int) (C := R_KT) (T := F_KT) (N := 3) hx hb hts i_KT t_KT t_KT_ok n_KT hown hK hP3 hD3 hS3 0 rfl rfl 1 (by decide) (hts _ L_KT_15) (fun _ h9 => h9) rfl hin rfl (by decide +kernel) rfl rfl (Nat.le_of_ble_eq_true rfl) xd_KT_init_17 (fun H locs hP4 hD4 hS4 => ?_)
  clear hP3 hD3 hS3
  replace hP4 : va_P D vcls [(h0, .inr (1, [.ref q1, .ref q2, .null])), (q1, .inl (cA 0, 8, .inl (fun _ => 0))), (q2, .inl (cA 0, 8, .inl (fun _ => 0)))] H := hP4
  replace hD4 : va_D A [(h0, .inr (1, [.ref q1, .ref q2, .null])), (q1, .inl (cA 0, 8, .inl (fun _ => 0))), (q2, .inl (cA 0, 8, .inl (fun _ => 0)))] := hD4
  refine lv_aload_n hx hb xd_KT_init_20 rfl (lv_at hl 0 rfl) ?_
  refine lv_bipush (v := (8 : Int32)) hx hb xd_KT_init_21 (by decide) ?_
  refine fw_newz (N := 8) hx hb (hts _ L_arrZ) hK 1 rfl hP4 hD4 hS4 hA (by decide) (by decide) (by decide) (Nat.le_of_ble_eq_true rfl) (Nat.le_of_ble_eq_true rfl) xd_KT_init_23 (fun q3 H hP5 hD5 hS5 => ?_)
  clear hP4 hD4 hS4
  refine W.widen (k := 3) (n := 24) (by omega) (by omega) ?_
  replace hP5 : va_P D vcls [(h0, .inr (1, [.ref q1, .ref q2, .null])), (q1, .inl (cA 0, 8, .inl (fun _ => 0))), (q2, .inl (cA 0, 8, .inl (fun _ => 0))), (q3, .inl (cA 1, 8, .inl (fun _ => 0)))] H := hP5
  replace hD5 : va_D A [(h0, .inr (1, [.ref q1, .ref q2, .null])), (q1, .inl (cA 0, 8, .inl (fun _ => 0))), (q2, .inl (cA 0, 8, .inl (fun _ => 0))), (q3, .inl (cA 1, 8, .inl (fun _ => 0)))] := hD5
  refine va_putF (D := D) (ci := 1) (v := .ref q3) (ty := .array .boolean) (C := R_KT) (T := F_KT) (N := 3) hx hb hts i_KT t_KT t_KT_ok n_KT hown hK hP5 hD5 hS5 0 rfl rfl 2 (by decide) (hts _ L_KT_18) (fun _ h9 => h9) rfl hin rfl (by decide +kernel) rfl rfl (Nat.le_of_ble_eq_true rfl) xd_KT_init_25 (fun H locs hP6 hD6 hS6 => ?_)
  clear hP5 hD5 hS5
  replace hP6 : va_P D vcls [(h0, .inr (1, [.ref q1, .ref q2, .ref q3])), (q1, .inl (cA 0, 8, .inl (fun _ => 0))), (q2, .inl (cA 0, 8, .inl (fun _ => 0))), (q3, .inl (cA 1, 8, .inl (fun _ => 0)))] H := hP6
  replace hD6 : va_D A [(h0, .inr (1, [.ref q1, .ref q2, .ref q3])), (q1, .inl (cA 0, 8, .inl (fun _ => 0))), (q2, .inl (cA 0, 8, .inl (fun _ => 0))), (q3, .inl (cA 1, 8, .inl (fun _ => 0)))] := hD6
  refine lv_aload_n hx hb xd_KT_init_28 rfl (lv_at hl 0 rfl) ?_
  refine va_get (D := D) (ci := 1) (v := .ref q1) (C := R_KT) (T := F_KT) (N := 3) hx hb hts i_KT hown hK hP6 0 rfl rfl 0 (by decide) (hts _ L_KT_9) (fun _ h9 => h9) rfl xd_KT_init_29 ?_
  refine lv_iconst (v := (1 : Int32)) hx hb xd_KT_init_32 (by decide) ?_
  refine cx_call (wr := [(h0, .inr (1, [.ref q1, .ref q2, .ref q3])), (q2, .inl (cA 0, 8, .inl (fun _ => 0))), (q3, .inl (cA 1, 8, .inl (fun _ => 0)))]) (va_runS (As := [.ref q1, .int (1 : Int32)]) (rest := []) ⟨hx, hb, hml, hown, hts⟩ (cx_fill l (D := D) (cA := cA) q1 H.size (n := 8) (by decide) (fun _ => 0) (1 : Int32)) (xw_fill hts L_KT_22 ⟨Nat.le_of_ble_eq_true rfl, Nat.le_of_ble_eq_true rfl⟩) (cx_pre hK hN hP6 hD6 [1] rfl rfl) rfl rfl hl.1 rfl (lv_room (Nat.le_of_ble_eq_true rfl)) xd_KT_init_33 ⟨Nat.le_of_ble_eq_true rfl, Nat.le_of_ble_eq_true rfl⟩) hP6 hD6 hS6 hA [1] [0, 2, 3] rfl rfl rfl (by decide) (fun _ H locs hP7 hD7 hS7 => ?_)
  clear hP6 hD6 hS6
  replace hP7 : va_P D vcls [(h0, .inr (1, [.ref q1, .ref q2, .ref q3])), (q2, .inl (cA 0, 8, .inl (fun _ => 0))), (q3, .inl (cA 1, 8, .inl (fun _ => 0))), (q1, .inl (cA 0, 8, .inl (fun _ => (1 : Int32))))] H := hP7
  replace hD7 : va_D A [(h0, .inr (1, [.ref q1, .ref q2, .ref q3])), (q2, .inl (cA 0, 8, .inl (fun _ => 0))), (q3, .inl (cA 1, 8, .inl (fun _ => 0))), (q1, .inl (cA 0, 8, .inl (fun _ => (1 : Int32))))] := hD7
  refine lv_aload_n hx hb xd_KT_init_36 rfl (lv_at hl 0 rfl) ?_
  refine va_get (D := D) (ci := 1) (v := .ref q2) (C := R_KT) (T := F_KT) (N := 3) hx hb hts i_KT hown hK hP7 0 rfl rfl 1 (by decide) (hts _ L_KT_15) (fun _ h9 => h9) rfl xd_KT_init_37 ?_
  refine lv_iconst (v := (1 : Int32)) hx hb xd_KT_init_40 (by decide) ?_
  refine cx_call (wr := [(h0, .inr (1, [.ref q1, .ref q2, .ref q3])), (q3, .inl (cA 1, 8, .inl (fun _ => 0))), (q1, .inl (cA 0, 8, .inl (fun _ => (1 : Int32))))]) (va_runS (As := [.ref q2, .int (1 : Int32)]) (rest := []) ⟨hx, hb, hml, hown, hts⟩ (cx_fill l (D := D) (cA := cA) q2 H.size (n := 8) (by decide) (fun _ => 0) (1 : Int32)) (xw_fill hts L_KT_22 ⟨Nat.le_of_ble_eq_true rfl, Nat.le_of_ble_eq_true rfl⟩) (cx_pre hK hN hP7 hD7 [1] rfl rfl) rfl rfl hl.1 rfl (lv_room (Nat.le_of_ble_eq_true rfl)) xd_KT_init_41 ⟨Nat.le_of_ble_eq_true rfl, Nat.le_of_ble_eq_true rfl⟩) hP7 hD7 hS7 hA [1] [0, 2, 3] rfl rfl rfl (by decide) (fun _ H locs hP8 hD8 hS8 => ?_)
  clear hP7 hD7 hS7
  replace hP8 : va_P D vcls [(h0, .inr (1, [.ref q1, .ref q2, .ref q3])), (q3, .inl (cA 1, 8, .inl (fun _ => 0))), (q1, .inl (cA 0, 8, .inl (fun _ => (1 : Int32)))), (q2, .inl (cA 0, 8, .inl (fun _ => (1 : Int32))))] H := hP8
  replace hD8 : va_D A [(h0, .inr (1, [.ref q1, .ref q2, .ref q3])), (q3, .inl (cA 1, 8, .inl (fun _ => 0))), (q1, .inl (cA 0, 8, .inl (fun _ => (1 : Int32)))), (q2, .inl (cA 0, 8, .inl (fun _ => (1 : Int32))))] := hD8
  subst hAe
  have hP9 := hP8.sub (ws' := [(h0, .inr (1, [.ref q1, .ref q2, .ref q3])), (q3, .inl (cA 1, 8, .inl (fun _ => 0))), (q1, .inl (cA 0, 8, .inl (fun _ => (1 : Int32)))), (q2, .inl (cA 0, 8, .inl (fun _ => (1 : Int32))))]) [0, 1, 2, 3] rfl
  have hD9 := hD8.sub (ws' := [(h0, .inr (1, [.ref q1, .ref q2, .ref q3])), (q3, .inl (cA 1, 8, .inl (fun _ => 0))), (q1, .inl (cA 0, 8, .inl (fun _ => (1 : Int32)))), (q2, .inl (cA 0, 8, .inl (fun _ => (1 : Int32))))]) [0, 1, 2, 3] (by decide) rfl
  refine W.widen (k := 3) (n := 24) (by omega) (by omega) ?_
  exact W.vret hx hb hr (fun t ht hW => ⟨⟨(fun k => match k with | 0 => q3 | 1 => q1 | 2 => q2 | _ => 0), rfl, trivial, by rw [ht]; exact hP9, hD9⟩, hS8.F ht⟩) hS8.2.2 xd_KT_init_44 hlocks

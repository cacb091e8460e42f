abbrev b_fill : ByteArray := prog_14_method_103_code
def y_fill : MethodName := ⟨"java/util/Arrays", "fill", "([II)V"⟩
abbrev rm_fill : Room := { frames := 0, cells := 0, slots := 0, locals := 0 }
theorem K_fill : Cond.code y_fill b_fill 4 none ∈ vTB := vTB_in 30 (by decide +kernel) rfl
theorem S_fill : Cond.static y_fill ∈ vTB := vTB_in 29 (by decide +kernel) rfl
theorem N_fill : Cond.initialized "java/util/Arrays" ∈ vTB := vTB_in 3 (by decide +kernel) rfl
theorem xw_fill {R : Room} {s : State} {args : Array Value} {own : String} {index : Nat} (hts : ∀ w ∈ vTB, w.before args s = true) (hl : Cond.methodLink own index y_fill ∈ vTB) (hR : rm_fill.frames + 1 ≤ R.frames ∧ 8 + (4 + 11) + rm_fill.locals ≤ R.locals) : CallB R s args own index y_fill b_fill 4 none (Cond.code y_fill b_fill 4 none :: vTB) rm_fill 0 0 2 ∧ (Cond.static y_fill).before args s = true := va_cwS 2 hts (fw_gS2 vTB_good K_fill hl S_fill N_fill) rfl rfl rfl (by decide +kernel) hR
theorem d_fill_0 : decode b_fill 0 = .ok (.iconst 0, 1) := by decide +kernel
theorem d_fill_1 : decode b_fill 1 = .ok (.istore_n 2, 1) := by decide +kernel
theorem d_fill_2 : decode b_fill 2 = .ok (.aload_n 0, 1) := by decide +kernel
theorem d_fill_3 : decode b_fill 3 = .ok (.arraylength, 1) := by decide +kernel
theorem d_fill_4 : decode b_fill 4 = .ok (.istore_n 3, 1) := by decide +kernel
theorem d_fill_5 : decode b_fill 5 = .ok (.iload_n 2, 1) := by decide +kernel
theorem d_fill_6 : decode b_fill 6 = .ok (.iload_n 3, 1) := by decide +kernel
theorem d_fill_7 : decode b_fill 7 = .ok (.if_icmp .ge 13, 3) := by decide +kernel
theorem d_fill_10 : decode b_fill 10 = .ok (.aload_n 0, 1) := by decide +kernel
theorem d_fill_11 : decode b_fill 11 = .ok (.iload_n 2, 1) := by decide +kernel
theorem d_fill_12 : decode b_fill 12 = .ok (.iload_n 1, 1) := by decide +kernel
theorem d_fill_13 : decode b_fill 13 = .ok (.iastore, 1) := by decide +kernel
theorem d_fill_14 : decode b_fill 14 = .ok (.iinc 2 1, 3) := by decide +kernel
theorem d_fill_17 : decode b_fill 17 = .ok (.goto (-12), 3) := by decide +kernel
theorem d_fill_20 : decode b_fill 20 = .ok (.return_, 1) := by decide +kernel
set_option maxHeartbeats 4000000 in
set_option maxRecDepth 100000 in
theorem c_fill (l : Launch) {NL : List Cond} {D : va_G} {cl : List vw_C} {tys : List (ClassId × FieldType)} {CL : List (Nat × Nat)} {cA : Nat → ClassId} {kd : fw_K} {ad : Nat → Nat → Nat} {I : fw_V → Prop} (hD : fw_D CL ad) (v : fw_V) {c i t n : Nat} (hm : (c, i) ∈ CL) (hkd : kd c i = .inl (t, n, none)) (hn : n < 2 ^ 31) (t0 : Nat) (ht : tys[t0]? = some (cA t, .int)) (a : Int32) (hI : I (fw_row v c i (fun _ => a))) : Met l y_fill (Cond.code y_fill b_fill 4 none :: vTB) rm_fill (fw_Pc NL D cl tys CL cA kd ad v [.ref (ad c i), .int a]) (fw_Qv D cl CL cA kd ad I (fw_row v c i (fun _ => a))) 0 0 (fw_A CL ad) := by
  refine Met.ofW (cc := b_fill) (maxL := 4) (ret := none) (by decide) rfl ?_
  intro p e s m args below meth c0 s₁ B hml hv
  obtain ⟨rfl, hP, hK, hN⟩ := hv
  have hx := B.exec
  have hb := B.bytes
  have hr := B.returns
  have hlocks := B.notSynchronized
  have hS : va_S (fw_A CL ad) s.heap s.heap [] := va_S.rf
  have J : ∀ (z k : Nat) (H : Heap) (locs : List Loc) (ls : Array Slot), k + z = n → va_P D cl (fw_w CL cA kd ad (fw_pre v c i a k)) H → va_S (fw_A CL ad) s.heap H locs → lv_has ls 4 [(0, .ref (ad c i)), (1, .int a), (2, .int (nI k)), (3, .int (nI n))] → W p l e (headSpec (Cond.code y_fill b_fill 4 none :: vTB) rm_fill).room s m ([.ref (ad c i), .int a] : List Value).toArray below meth c0 H locs 0 0 (MQ below (fw_Qv D cl CL cA kd ad I (fw_row v c i (fun _ => a))) ([.ref (ad c i), .int a] : List Value).toArray s 0 0 (fw_A CL ad)) (F0 m 5 ls []) := by
    intro z
    induction z with
    | zero =>
      intro k H locs ls hk hP hS hl
      refine lv_iload_n hx hb d_fill_5 rfl (lv_at hl 2 rfl) ?_
      refine lv_iload_n hx hb d_fill_6 rfl (lv_at hl 3 rfl) ?_
      have hkn : k = n := by omega
      subst hkn
      refine lv_icmp_ge (tgt := 20) hx hb d_fill_7 (by decide) (fun _ => ?_) (fun q => absurd (nI_le (Nat.le_refl k) hn) q)
      exact fw_vret hx hb hr hlocks hS (fw_pre_n hkd hP) hI d_fill_20 rfl
    | succ z ih =>
      intro k H locs ls hk hP hS hl
      refine lv_iload_n hx hb d_fill_5 rfl (lv_at hl 2 rfl) ?_
      refine lv_iload_n hx hb d_fill_6 rfl (lv_at hl 3 rfl) ?_
      refine lv_icmp_ge (tgt := 20) hx hb d_fill_7 (by decide) (fun q => absurd q (nI_ge (by omega) hn)) (fun _ => ?_)
      refine lv_aload_n hx hb d_fill_10 rfl (lv_at hl 0 rfl) ?_
      refine lv_iload_n hx hb d_fill_11 rfl (lv_at hl 2 rfl) ?_
      refine lv_iload_n hx hb d_fill_12 rfl (lv_at hl 1 rfl) ?_
      refine fw_iast hx hb hK hD hP hS hm hkd t0 ht (j := k) (nI_clamp (by omega)) (vp_in_nI (by omega) hn) d_fill_13 (fun v2 H locs ev2 hP hS => ?_)
      rw [fw_pre_s] at ev2
      subst ev2
      refine lv_iinc (v := nI (k + 1)) (lv' := [(2, .int (nI (k + 1))), (0, .ref (ad c i)), (1, .int a), (3, .int (nI n))]) hx hb d_fill_14 hl (k := 2) rfl (nI_1 k) (by decide) rfl (fun ls hl => ?_)
      refine lv_goto (tgt := 5) hx hb d_fill_17 (by decide) ?_
      exact ih (k + 1) _ _ _ (by omega) hP hS (lv_sub hl [1, 2, 0, 3] rfl)
  have hl := lv_entry ([.ref (ad c i), .int a]) (n := 4) (Nat.le_of_ble_eq_true rfl)
  rw [lg_entry_eq]
  generalize (lg_sl ([.ref (ad c i), .int a]) ++ List.replicate (4 - (lg_sl ([.ref (ad c i), .int a])).length) Slot.unset).toArray = ls at hl ⊢
  have hl : lv_has ls 4 [(0, .ref (ad c i)), (1, .int a)] := hl
  refine lv_iconst (v := (0 : Int32)) hx hb d_fill_0 (by decide) ?_
  refine lv_istore_n (lv' := [(2, .int 0), (0, .ref (ad c i)), (1, .int a)]) hx hb d_fill_1 rfl hl (by decide) rfl (fun ls hl => ?_)
  refine lv_aload_n hx hb d_fill_2 rfl (lv_at hl 1 rfl) ?_
  refine fw_alen hx hb hK hP hm hkd t0 ht d_fill_3 ?_
  refine lv_istore_n (lv' := [(3, .int (nI n)), (2, .int 0), (0, .ref (ad c i)), (1, .int a)]) hx hb d_fill_4 rfl hl (by decide) rfl (fun ls hl => ?_)
  exact J n 0 _ _ _ (by omega) (by rw [fw_pre_0]; exact hP) hS (lv_sub hl [2, 3, 1, 0] rfl)
theorem xc_fill (l : Launch) {D : va_G} {cA : Nat → ClassId} {ad : Nat → Nat → Nat} (hD : fw_D xCL ad) {b : Nat} (v : fw_V) (hI : xI b v) {c i t n : Nat} (hm : (c, i) ∈ xCL) (hkd : xkd c i = .inl (t, n, none)) (ht : t = 0 ∧ n < 2 ^ 31 ∧ c ≠ 20) (a : Int32) (ok : ∀ k, xok1 b c k a) : Met l y_fill (Cond.code y_fill b_fill 4 none :: vTB) rm_fill (fw_Pc vNL D vcls (vtys cA) xCL cA xkd ad v [.ref (ad c i), .int a]) (fw_Qv D vcls xCL cA xkd ad (xI b) (fw_row v c i (fun _ => a))) 0 0 (fw_A xCL ad) := by
  obtain ⟨rfl, hn, hc⟩ := ht
  exact c_fill l hD v hm hkd hn 0 rfl a (xI_row hI ok hc)


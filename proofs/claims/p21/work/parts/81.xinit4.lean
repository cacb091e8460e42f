/-! list worlds with an opaque front: the object under construction is the last cell -/
theorem cx_nd_range : ∀ (n k : Nat), va_nd (List.range' k n) = true
  | 0, _ => rfl
  | n + 1, k => by
    show (decide (k ∉ List.range' (k + 1) n) && va_nd (List.range' (k + 1) n)) = true
    rw [cx_nd_range n (k + 1), Bool.and_true, decide_eq_true_eq]
    intro h
    have := (List.mem_range'_1.mp h).1
    omega
theorem cx_mapX {α : Type} (X Y : List α) : (List.range' 0 X.length).map (fun i => (X ++ Y)[i]?) = X.map some := by
  refine List.ext_getElem? (fun i => ?_)
  rw [List.getElem?_map, List.getElem?_map]
  by_cases h : i < X.length
  · simp [h, List.getElem?_append_left h]
  · simp [h]
theorem cx_getX {α : Type} (X Y : List α) (a : α) : (X ++ a :: Y)[X.length]? = some a := by simp
theorem cx_mapL {α : Type} (X : List α) (a : α) : [X.length].map (fun i => (X ++ [a])[i]?) = [a].map some := by simp
theorem cx_dis {n : Nat} : ∀ i ∈ List.range' 0 n, i ∉ [n] := by
  intro i hi h
  have := (List.mem_range'_1.mp hi).2
  simp at h
  omega
theorem cx_preL {s : State} {H : Heap} {D : va_G} {cA : Nat → ClassId} {av : List Value} {A : Nat → Prop} {X : va_W} {c : Nat × va_E} (hK : va_K D vcls (vtys cA) s) (hN : xNN s) (hP : va_P D vcls (X ++ [c]) H) (hD : va_D A (X ++ [c])) : PreS s H (cx_Pc D cA av [c] H.size) av := cx_pre hK hN hP hD [X.length] rfl (cx_mapL X c)
theorem cx_callL {p : Program} {l : Launch} {e : Env} {R : Room} {s : State} {m : MethodId} {args : Array Value} {below : List Frame} {meth : Method} {c0 : Code} {H : Heap} {locs : List Loc} {cells slots mc ms : Nat} {Q : State → Prop} {pc : Nat} {ls : Array Slot} {rest st0 : List Value} {D : va_G} {H0 : Heap} {a : Array Value} {A : Nat → Prop} {X : va_W} {c : Nat × va_E} {post : (Nat → Nat) → va_W}
    (hr : va_Run p l e R s m args below meth c0 H locs cells slots mc ms (F0 m pc ls st0) rest (cx_Qv D [c] H.size post a) (va_A [c] H.size)) (hP : va_P D vcls (X ++ [c]) H) (hD : va_D A (X ++ [c])) (hS : va_S A H0 H locs) (hA : ∀ q, H0.size ≤ q → A q)
    (kk : ∀ (u : Nat → Nat) (H1 : Heap) (locs1 : List Loc), va_P D vcls (X ++ post u) H1 → va_D A (X ++ post u) → va_S A H0 H1 locs1 → W p l e R s m args below meth c0 H1 locs1 (cells + mc) (slots + ms) Q (F0 m (pc + 3) ls rest)) : W p l e R s m args below meth c0 H locs cells slots Q (F0 m pc ls st0) :=
  cx_call hr hP hD hS hA [X.length] (List.range' 0 X.length) (cx_mapL X c) (cx_mapX X [c]) (cx_nd_range _ _) cx_dis kk
/-- an array of references is its elements below its length -/
theorem cx_arrq {D : va_G} {cl : List vw_C} {ws : va_W} {H : Heap} (hP : va_P D cl ws H) {q n : Nat} {cI : ClassId} {f g : Nat → Option Nat} (p : Nat) (hp : ws[p]? = some (q, .inl (cI, n, .inr (.inr (.inr (.inr f)))))) (hfg : ∀ j, j < n → f j = g j) : va_P D cl (ws.set p (q, .inl (cI, n, .inr (.inr (.inr (.inr g)))))) H := by
  intro k x hx
  rw [List.getElem?_set] at hx
  by_cases hk : p = k
  · subst hk
    have hl : p < ws.length := (List.getElem?_eq_some_iff.mp hp).1
    rw [if_pos rfl, if_pos hl] at hx
    cases hx
    have h1 : H[q]? = some (arrV cI n (fun j => va_rf (f j))) := hP p _ hp
    show H[q]? = some (arrV cI n (fun j => va_rf (g j)))
    rw [h1]
    congr 1
    exact fw_arrV (fun j hj => by rw [hfg j hj])
  · rw [if_neg hk] at hx
    exact hP k x hx
/-! the Wire: its Frames -/
def xfl (cA : Nat → ClassId) (w : Nat → Nat) (k : Nat) : va_W := (List.range k).flatMap (fun j => [(w (2 * j), .inr (2, [.int 0, .int 0, .int 0, .int 0, .ref (w (2 * j + 1))])), (w (2 * j + 1), .inl (cA 0, 7, .inl (fun _ => 0)))])
theorem xfl_succ (cA : Nat → ClassId) (w : Nat → Nat) (k : Nat) : xfl cA w (k + 1) = xfl cA w k ++ [(w (2 * k), .inr (2, [.int 0, .int 0, .int 0, .int 0, .ref (w (2 * k + 1))])), (w (2 * k + 1), .inl (cA 0, 7, .inl (fun _ => 0)))] := by
  unfold xfl
  rw [List.range_succ, List.flatMap_append]
  simp
theorem xfl_congr {cA : Nat → ClassId} {w w' : Nat → Nat} : ∀ (k : Nat), (∀ j, j < 2 * k → w j = w' j) → xfl cA w k = xfl cA w' k
  | 0, _ => rfl
  | k + 1, h => by
    rw [xfl_succ, xfl_succ, xfl_congr k (fun j hj => h j (by omega)), h (2 * k) (by omega), h (2 * k + 1) (by omega)]
abbrev xWf (f : Nat → Option Nat) (cA : Nat → ClassId) (h0 q1 q2 q3 : Nat) (w : Nat → Nat) (k : Nat) : va_W := [(h0, .inr (3, [.ref q1, .ref q2, .int 0, .int 0, .int 0])), (q1, .inl (cA 2, 17, .inr (.inr (.inr (.inr f))))), (q2, .inr (2, [.int 0, .int 0, .int 0, .int 0, .ref q3])), (q3, .inl (cA 0, 7, .inl (fun _ => 0)))] ++ xfl cA w k
def xfk (w : Nat → Nat) (k : Nat) : Nat → Option Nat := fun j => if j < k then some (w (2 * j)) else none
def xWw (cA : Nat → ClassId) (h0 q1 q2 q3 : Nat) (w : Nat → Nat) (k : Nat) : va_W := xWf (xfk w k) cA h0 q1 q2 q3 w k
def xnk (k : Nat) : Int32 := nI (k % 17)
def xaf (u : Nat → Nat) (i : Nat) : Nat := if i = 17 then u 1 else u (3 + 2 * i)
def xp_Wi (cA : Nat → ClassId) (h0 : Nat) (u : Nat → Nat) : va_W := xWf (fun j => some (xaf u (xnk j).toNatClampNeg)) cA h0 (u 0) (u 1) (u 2) (fun j => u (3 + j)) 17
def xwk (w : Nat → Nat) (k q r : Nat) : Nat → Nat := fun i => if i = 2 * k then q else if i = 2 * k + 1 then r else w i
theorem xwk_0 (w : Nat → Nat) (k q r : Nat) : xwk w k q r (2 * k) = q := if_pos rfl
theorem xwk_1 (w : Nat → Nat) (k q r : Nat) : xwk w k q r (2 * k + 1) = r := by
  unfold xwk
  rw [if_neg (by omega), if_pos rfl]
theorem xwk_lo (w : Nat → Nat) (k q r : Nat) {j : Nat} (h : j < 2 * k) : xwk w k q r j = w j := by
  unfold xwk
  rw [if_neg (by omega), if_neg (by omega)]
theorem xWw_step (cA : Nat → ClassId) (h0 q1 q2 q3 : Nat) (w : Nat → Nat) (k q r : Nat) (hk : k < 2 ^ 31) : (xWw cA h0 q1 q2 q3 w k ++ ([(q, .inr (2, [.int 0, .int 0, .int 0, .int 0, .ref r])), (r, .inl (cA 0, 7, .inl (fun _ => 0)))] : va_W)).set 1 (q1, .inl (cA 2, 17, .inr (.inr (.inr (.inr (va_up (xfk w k) (nI k).toNatClampNeg (some q))))))) = xWw cA h0 q1 q2 q3 (xwk w k q r) (k + 1) := by
  have e1 : va_up (xfk w k) (nI k).toNatClampNeg (some q) = xfk (xwk w k q r) (k + 1) := by
    funext j
    rw [nI_clamp hk]
    unfold va_up xfk
    by_cases hj : j = k
    · subst hj
      rw [if_pos rfl, if_pos (by omega), xwk_0]
    · rw [if_neg hj]
      by_cases hjk : j < k
      · rw [if_pos hjk, if_pos (by omega), xwk_lo _ _ _ _ (by omega)]
      · rw [if_neg hjk, if_neg (by omega)]
  rw [e1]
  have e2 : xfl cA w k ++ ([(q, .inr (2, [.int 0, .int 0, .int 0, .int 0, .ref r])), (r, .inl (cA 0, 7, .inl (fun _ => 0)))] : va_W) = xfl cA (xwk w k q r) (k + 1) := by
    rw [xfl_succ, xwk_0, xwk_1, xfl_congr k (fun j hj => xwk_lo w k q r hj)]
  show xWf (xfk (xwk w k q r) (k + 1)) cA h0 q1 q2 q3 w 0 ++ (xfl cA w k ++ ([(q, .inr (2, [.int 0, .int 0, .int 0, .int 0, .ref r])), (r, .inl (cA 0, 7, .inl (fun _ => 0)))] : va_W)) = xWf (xfk (xwk w k q r) (k + 1)) cA h0 q1 q2 q3 w 0 ++ xfl cA (xwk w k q r) (k + 1)
  rw [e2]
theorem xk16 : ∀ k : Nat, k < 17 → ¬ (16 : Int32) < nI k := by decide

set_option maxHeartbeats 4000000 in
set_option maxRecDepth 100000 in
theorem xWi_loop {p : Program} {l : Launch} {e : Env} {s : State} {m : MethodId} {args : Array Value} {below : List Frame} {meth : Method} {c0 : Code} {Q : State → Prop} {D : va_G} {cA : Nat → ClassId} {H0 : Heap} {A : Nat → Prop} {h0 q1 q2 q3 : Nat} (hx : p.tables.exec = Jvm.exec) (hb : c0.code = xb_Wi_init) (hml : c0.maxLocals = 2) (hown : s.vm.findClass R_Wi = some m.cls) (hts : ∀ w ∈ vTB, w.before args s = true) (hK : va_K D vcls (vtys cA) s) (hN : xNN s) (hA : ∀ q, H0.size ≤ q → A q)
    (kend : ∀ (H : Heap) (locs : List Loc) (ls : Array Slot) (w : Nat → Nat), va_P D vcls (xWw cA h0 q1 q2 q3 w 17) H → va_D A (xWw cA h0 q1 q2 q3 w 17) → va_S A H0 H locs → W p l e (headSpec (Cond.code xy_Wi_init xb_Wi_init 2 none :: vTB) xrm_Wi_init).room s m args below meth c0 H locs 37 233 Q (F0 m 51 ls [])) :
    ∀ (z k : Nat) (H : Heap) (locs : List Loc) (ls : Array Slot) (w : Nat → Nat), k + z = 17 → va_P D vcls (xWw cA h0 q1 q2 q3 w k) H → va_D A (xWw cA h0 q1 q2 q3 w k) → va_S A H0 H locs → lv_has ls 2 [(1, .int (nI k)), (0, .ref h0)] → W p l e (headSpec (Cond.code xy_Wi_init xb_Wi_init 2 none :: vTB) xrm_Wi_init).room s m args below meth c0 H locs (3 + 2 * k) (29 + 12 * k) Q (F0 m 26 ls []) := by
  intro z
  induction z with
  | zero =>
    intro k H locs ls w hk hP hD hS hl
    have hk17 : k = 17 := by omega
    subst hk17
    refine lv_iload_n hx hb xd_Wi_init_26 rfl (lv_at hl 0 rfl) ?_
    refine lv_bipush (v := (16 : Int32)) hx hb xd_Wi_init_27 (by decide) ?_
    refine lv_icmp_gt (tgt := 51) hx hb xd_Wi_init_29 (by decide) (fun _ => ?_) (fun q => absurd (by decide) q)
    exact kend _ _ _ w hP hD hS
  | succ z ih =>
    intro k H locs ls w hk hP hD hS hl
    refine lv_iload_n hx hb xd_Wi_init_26 rfl (lv_at hl 0 rfl) ?_
    refine lv_bipush (v := (16 : Int32)) hx hb xd_Wi_init_27 (by decide) ?_
    refine lv_icmp_gt (tgt := 51) hx hb xd_Wi_init_29 (by decide) (fun q => absurd q (xk16 k (by omega))) (fun _ => ?_)
    refine lv_aload_n hx hb xd_Wi_init_32 rfl (lv_at hl 1 rfl) ?_
    refine va_get (D := D) (ci := 3) (v := .ref q1) (C := R_Wi) (T := F_Wi) (N := 5) hx hb hts i_Wi hown hK hP 0 rfl rfl 0 (by decide) (hts _ L_Wi_11) (fun _ h9 => h9) rfl xd_Wi_init_33 ?_
    refine lv_iload_n hx hb xd_Wi_init_36 rfl (lv_at hl 0 rfl) ?_
    refine va_new (ci := 2) (fs := [.int 0, .int 0, .int 0, .int 0, .null]) (C := R_Fm) (T := F_Fm) (N := 5) hx hb hts i_Fm t_Fm t_Fm_ok hown (hts _ LC_Wi_9) (hts _ LI_Fm) (hts _ N_Fm) hK hP hD hS hA rfl (fun j hj => by rcases (show j = 0 ∨ j = 1 ∨ j = 2 ∨ j = 3 ∨ j = 4 by omega) with rfl | rfl | rfl | rfl | rfl <;> rfl) (show 3 + 2 * k + 1 ≤ 37 by omega) (show 29 + 12 * k + 5 ≤ 233 by omega) xd_Wi_init_37 (fun q H hP hD hS => ?_)
    refine lv_dup hx hb xd_Wi_init_40 rfl ?_
    refine cx_callL (X := xWw cA h0 q1 q2 q3 w k) (c := (q, .inr (2, [.int 0, .int 0, .int 0, .int 0, .null]))) (va_runIN (As := []) (rest := [.ref q, .int (nI k), .ref q1]) ⟨hx, hb, hml, hown, hts⟩ (xc_Fm_init l (D := D) (cA := cA) q H.size) (xwn_Fm_init hts (hN.1.2 _ L_Wi_15) ⟨(Nat.le_of_ble_eq_true rfl), (Nat.le_of_ble_eq_true rfl)⟩) (cx_preL hK hN hP hD) rfl rfl hl.1 rfl (lv_room (Nat.le_of_ble_eq_true rfl)) xd_Wi_init_41 ⟨show 3 + 2 * k + 1 + 1 ≤ 37 by omega, show 29 + 12 * k + 5 + 7 ≤ 233 by omega⟩) hP hD hS hA (fun u H locs hP hD hS => ?_)
    refine va_astq hx hb hK hP hD hS 1 2 (xWw cA h0 q1 q2 q3 w k).length 2 (r := (R_Fm, F_Fm, 5)) rfl rfl (cx_getX _ _ _) rfl (vp_in_nI (show k < 17 by omega) (by decide)) xd_Wi_init_44 (fun H locs hP hD hS => ?_)
    have eW := xWw_step cA h0 q1 q2 q3 w k q (u 0) (by omega)
    have hP := (congrArg (fun ws => va_P D vcls ws H) eW).mp hP
    have hD := (congrArg (fun ws => va_D A ws) eW).mp hD
    refine lv_iinc (v := nI (k + 1)) (lv' := [(1, .int (nI (k + 1))), (0, .ref h0)]) hx hb xd_Wi_init_45 hl (k := 0) rfl (nI_1 k) (by decide) rfl (fun ls hl => ?_)
    refine lv_goto (tgt := 26) hx hb xd_Wi_init_48 (by decide) ?_
    refine W.widen (k := 3 + 2 * (k + 1)) (n := 29 + 12 * (k + 1)) (by omega) (by omega) ?_
    exact ih (k + 1) _ _ _ _ (by omega) hP hD hS hl
theorem xWi_arr (w : Nat → Nat) (u : Nat → Nat) (hu : ∀ j, u (3 + j) = w j) : ∀ j, j < 17 → xfk w 17 j = some (xaf u (xnk j).toNatClampNeg) := by
  intro j hj
  unfold xfk xaf xnk
  rw [if_pos hj, Nat.mod_eq_of_lt hj, nI_clamp (by omega), if_neg (by omega), hu]
set_option maxHeartbeats 4000000 in
set_option maxRecDepth 100000 in
theorem xc_Wi_init (l : Launch) {D : va_G} {cA : Nat → ClassId} (h0 sz : Nat) : Met l xy_Wi_init (Cond.code xy_Wi_init xb_Wi_init 2 none :: vTB) xrm_Wi_init (cx_Pc D cA [.ref h0] [(h0, .inr (3, [.null, .null, .int 0, .int 0, .int 0]))] sz) (cx_Qv D [(h0, .inr (3, [.null, .null, .int 0, .int 0, .int 0]))] sz (fun u => xp_Wi cA h0 u)) 37 233 (va_A [(h0, .inr (3, [.null, .null, .int 0, .int 0, .int 0]))] sz) := by
  refine Met.ofW (cc := xb_Wi_init) (maxL := 2) (ret := none) (by decide) rfl ?_
  intro p e s m args below meth c s₁ B hml hv
  obtain ⟨rfl, hsz, hP, hK, hN, hD0⟩ := hv
  have hx := B.exec
  have hb := B.bytes
  have hr := B.returns
  have hlocks := B.notSynchronized
  have hts : ∀ w ∈ vTB, w.before ([.ref h0] : List Value).toArray s = true := fun w h => atoms_spec (ws := (Cond.code xy_Wi_init xb_Wi_init 2 none :: vTB)) B.pre w (List.mem_cons_of_mem _ h)
  have hown : s.vm.findClass R_Wi = some m.cls := findClass_of_methodNamed B.named
  have hin : meth.name = "<init>" := (name_of_methodNamed B.named B.method).1
  subst hsz
  have hD := hD0.self (sz := s.heap.size)
  generalize hAe : va_A [(h0, .inr (3, [.null, .null, .int 0, .int 0, .int 0]))] s.heap.size = A at hD ⊢
  have hA : ∀ q : Nat, s.heap.size ≤ q → A q := fun q h => by rw [← hAe]; exact Or.inr h
  have hS : va_S A s.heap s.heap [] := va_S.rf
  have hl := lv_entry ([.ref h0]) (n := 2) (Nat.le_of_ble_eq_true rfl)
  rw [lg_entry_eq]
  generalize (lg_sl ([.ref h0]) ++ List.replicate (2 - (lg_sl ([.ref h0])).length) Slot.unset).toArray = ls at hl ⊢
  have hl : lv_has ls 2 [(0, .ref h0)] := hl
  refine lv_aload_n hx hb xd_Wi_init_0 rfl (lv_at hl 0 rfl) ?_
  refine W.objInit hx hb hown (hts _ L_Wi_1) (hts _ L_objI) (hts _ L_objK) rfl (by rw [hml]; exact hl.1) rfl xd_Wi_init_1 (Nat.le_of_ble_eq_true rfl) (Nat.le_of_ble_eq_true rfl) ?_
  refine W.eq (g2 := F0 m 4 ls []) rfl ?_
  refine lv_aload_n hx hb xd_Wi_init_4 rfl (lv_at hl 0 rfl) ?_
  refine lv_bipush (v := (17 : Int32)) hx hb xd_Wi_init_5 (by decide) ?_
  refine cx_newq (N := 17) hx hb hown (hts _ LC_Wi_9) hN.2.1 hK 2 rfl hP hD hS hA (by decide) (by decide) (by decide) (Nat.le_of_ble_eq_true rfl) (Nat.le_of_ble_eq_true rfl) xd_Wi_init_7 (fun q1 H hP hD hS => ?_)
  refine W.widen (k := 1) (n := 17) (by omega) (by omega) ?_
  refine va_putF (D := D) (ci := 3) (v := .ref q1) (ty := .array (.object "FieldRelay$Frame")) (C := R_Wi) (T := F_Wi) (N := 5) hx hb hts i_Wi t_Wi t_Wi_ok n_Wi hown hK hP hD hS 0 rfl rfl 0 (by decide) (hts _ L_Wi_11) (fun _ h9 => h9) rfl hin rfl (by decide +kernel) rfl rfl (Nat.le_of_ble_eq_true rfl) xd_Wi_init_10 (fun H locs hP hD hS => ?_)
  have hP : va_P D vcls [(h0, .inr (3, [.ref q1, .null, .int 0, .int 0, .int 0])), (q1, .inl (cA 2, 17, .inr (.inr (.inr (.inr (fun _ => none))))))] H := hP
  have hD : va_D A [(h0, .inr (3, [.ref q1, .null, .int 0, .int 0, .int 0])), (q1, .inl (cA 2, 17, .inr (.inr (.inr (.inr (fun _ => none))))))] := hD
  refine lv_aload_n hx hb xd_Wi_init_13 rfl (lv_at hl 0 rfl) ?_
  refine va_new (ci := 2) (fs := [.int 0, .int 0, .int 0, .int 0, .null]) (C := R_Fm) (T := F_Fm) (N := 5) hx hb hts i_Fm t_Fm t_Fm_ok hown (hts _ LC_Wi_9) (hts _ LI_Fm) (hts _ N_Fm) hK hP hD hS hA rfl (fun j hj => by rcases (show j = 0 ∨ j = 1 ∨ j = 2 ∨ j = 3 ∨ j = 4 by omega) with rfl | rfl | rfl | rfl | rfl <;> rfl) (Nat.le_of_ble_eq_true rfl) (Nat.le_of_ble_eq_true rfl) xd_Wi_init_14 (fun q2 H hP hD hS => ?_)
  refine W.widen (k := 2) (n := 22) (by omega) (by omega) ?_
  refine lv_dup hx hb xd_Wi_init_17 rfl ?_
  refine cx_callL (X := [(h0, .inr (3, [.ref q1, .null, .int 0, .int 0, .int 0])), (q1, .inl (cA 2, 17, .inr (.inr (.inr (.inr (fun _ => none))))))]) (c := (q2, .inr (2, [.int 0, .int 0, .int 0, .int 0, .null]))) (va_runIN (As := []) (rest := [.ref q2, .ref h0]) ⟨hx, hb, hml, hown, hts⟩ (xc_Fm_init l (D := D) (cA := cA) q2 H.size) (xwn_Fm_init hts (hN.1.2 _ L_Wi_15) ⟨(Nat.le_of_ble_eq_true rfl), (Nat.le_of_ble_eq_true rfl)⟩) (cx_preL hK hN hP hD) rfl rfl hl.1 rfl (lv_room (Nat.le_of_ble_eq_true rfl)) xd_Wi_init_18 ⟨(Nat.le_of_ble_eq_true rfl), (Nat.le_of_ble_eq_true rfl)⟩) hP hD hS hA (fun u H locs hP hD hS => ?_)
  refine W.widen (k := 3) (n := 29) (by omega) (by omega) ?_
  refine va_putF (D := D) (ci := 3) (v := .ref q2) (ty := .object "FieldRelay$Frame") (C := R_Wi) (T := F_Wi) (N := 5) hx hb hts i_Wi t_Wi t_Wi_ok n_Wi hown hK hP hD hS 0 rfl rfl 1 (by decide) (hts _ L_Wi_16) (fun _ h9 => h9) rfl hin rfl (by decide +kernel) rfl rfl (Nat.le_of_ble_eq_true rfl) xd_Wi_init_21 (fun H locs hP hD hS => ?_)
  have e0 : xfk (fun _ => 0) 0 = (fun _ => none) := by funext j; exact if_neg (Nat.not_lt_zero j)
  have hP : va_P D vcls (xWf (fun _ => none) cA h0 q1 q2 (u 0) (fun _ => 0) 0) H := hP
  have hD : va_D A (xWf (fun _ => none) cA h0 q1 q2 (u 0) (fun _ => 0) 0) := hD
  rw [← e0] at hP hD
  refine lv_iconst (v := (0 : Int32)) hx hb xd_Wi_init_24 (by decide) ?_
  refine lv_istore_n (lv' := [(1, .int (0 : Int32)), (0, .ref h0)]) hx hb xd_Wi_init_25 rfl hl (by decide) rfl (fun ls hl => ?_)
  refine xWi_loop (q1 := q1) (q2 := q2) (q3 := u 0) hx hb hml hown hts hK hN hA (fun H locs ls w hP hD hS => ?_) 17 0 H locs ls (fun _ => 0) rfl hP hD hS hl
  subst hAe
  obtain ⟨uu, eu⟩ : ∃ uu : Nat → Nat, uu = (fun j => match j with | 0 => q1 | 1 => q2 | 2 => u 0 | j + 3 => w j) := ⟨_, rfl⟩
  have hu : ∀ j, uu (3 + j) = w j := fun j => by rw [eu, Nat.add_comm]
  have hP9 := cx_arrq hP 1 rfl (xWi_arr w uu hu)
  have hD9 := hD.set (p := 1) (e := .inl (cA 2, 17, .inr (.inr (.inr (.inr (fun j => some (xaf uu (xnk j).toNatClampNeg))))))) rfl
  have eW : (xWw cA h0 q1 q2 (u 0) w 17).set 1 (q1, .inl (cA 2, 17, .inr (.inr (.inr (.inr (fun j => some (xaf uu (xnk j).toNatClampNeg))))))) = xp_Wi cA h0 uu := by
    show xWf (fun j => some (xaf uu (xnk j).toNatClampNeg)) cA h0 q1 q2 (u 0) w 17 = xWf (fun j => some (xaf uu (xnk j).toNatClampNeg)) cA h0 (uu 0) (uu 1) (uu 2) (fun j => uu (3 + j)) 17
    have h0 : uu 0 = q1 := by rw [eu]
    have h1 : uu 1 = q2 := by rw [eu]
    have h2 : uu 2 = u 0 := by rw [eu]
    have h3 : (fun j => uu (3 + j)) = w := funext hu
    rw [h0, h1, h2, h3]
  rw [eW] at hP9 hD9
  exact W.vret hx hb hr (fun t ht hW => ⟨⟨uu, rfl, trivial, by rw [ht]; exact hP9, hD9⟩, hS.F ht⟩) hS.2.2 xd_Wi_init_51 hlocks


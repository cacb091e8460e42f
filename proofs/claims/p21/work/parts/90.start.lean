theorem lw_kept {A : Nat → Prop} {D : va_G} {cl : List vw_C} {ws w2 : va_W} {H H1 : Heap} (hP : va_P D cl ws H) (hD : va_D A (ws ++ w2)) (hk : ∀ q : Nat, q < H.size → ¬ va_A w2 H.size q → H1[q]? = H[q]?) : va_P D cl ws H1 := by
  refine hP.kept (fun k q hq => hk q.1 ((hP k q hq).lt) (fun h => ?_))
  rcases h with ⟨k2, e2, h2⟩ | h2
  · have l1 : k < ws.length := (List.getElem?_eq_some_iff.mp hq).1
    have g1 : (ws ++ w2)[k]? = some q := by rw [List.getElem?_append_left l1]; exact hq
    have g2 : (ws ++ w2)[ws.length + k2]? = some (q.1, e2) := by rw [List.getElem?_append_right (by omega), Nat.add_sub_cancel_left]; exact h2
    have := hD.1 k (ws.length + k2) _ _ g1 g2 rfl
    omega
  · exact absurd ((hP k q hq).lt) (Nat.not_lt.mpr h2)
theorem lw_apart {A : Nat → Prop} {D : va_G} {cl : List vw_C} {CL : List (Nat × Nat)} {cA : Nat → ClassId} {kd : fw_K} {ad : Nat → Nat → Nat} {v : fw_V} {w2 : va_W} {H : Heap} (hP : va_P D cl (fw_w CL cA kd ad v) H) (hD : va_D A (fw_w CL cA kd ad v ++ w2)) {x : Nat × Nat} (hx : x ∈ CL) : ¬ va_A w2 H.size (ad x.1 x.2) := by
  intro h
  obtain ⟨k, -, hk⟩ := fw_at (cA := cA) (kd := kd) (ad := ad) (v := v) (c := x.1) (i := x.2) hx
  rcases h with ⟨k2, e2, h2⟩ | h2
  · have l1 : k < (fw_w CL cA kd ad v).length := (List.getElem?_eq_some_iff.mp hk).1
    have g1 : (fw_w CL cA kd ad v ++ w2)[k]? = some (ad x.1 x.2, fw_e cA kd ad v x.1 x.2) := by rw [List.getElem?_append_left l1]; exact hk
    have g2 : (fw_w CL cA kd ad v ++ w2)[(fw_w CL cA kd ad v).length + k2]? = some (ad x.1 x.2, e2) := by rw [List.getElem?_append_right (by omega), Nat.add_sub_cancel_left]; exact h2
    have := hD.1 k ((fw_w CL cA kd ad v).length + k2) _ _ g1 g2 rfl
    omega
  · exact absurd ((hP k _ hk).lt) (Nat.not_lt.mpr h2)
set_option maxHeartbeats 8000000 in
set_option maxRecDepth 100000 in
theorem whole_start {p : Program} {e : Env} {s : State} {m : MethodId} {below : List Frame} {meth : Method} {c : Code} (l : Launch) {b L : Nat} {xs : Nat → Int32} (hL : L ≤ 2560) (C0 : lw_At p s m meth c b L xs) : W p l e room_1 s m #[Value.ref b] below meth c s.heap [] 0 0 (lw_Z below #[Value.ref b] s) (entryFrame m ([Value.ref b] : List Value).toArray 4) := by
  obtain ⟨hx, hb, hr, hml, hown, hts0, hX, hbl, hlocks, hgv⟩ := id C0
  have hts : ∀ w ∈ vTB, w.before #[Value.ref b] s = true := fun w h => hts0 w (List.mem_filter.mp h).1
  have hA : ∀ q : Nat, s.heap.size ≤ q → (fun q : Nat => s.heap.size ≤ q) q := fun _ h => h
  obtain ⟨c0, i0, hKn0⟩ := u_known (C := R_FR) (T := F_FR) (N := 9) (n := 9) hts i_FR (hts _ LI_FR)
  obtain ⟨c1, i1, hKn1⟩ := u_known (C := R_KT) (T := F_KT) (N := 3) (n := 3) hts i_KT (hts _ LI_KT)
  obtain ⟨c2, i2, hKn2⟩ := u_known (C := R_Fm) (T := F_Fm) (N := 5) (n := 5) hts i_Fm (hts _ LI_Fm)
  obtain ⟨c3, i3, hKn3⟩ := u_known (C := R_Wi) (T := F_Wi) (N := 5) (n := 5) hts i_Wi (hts _ LI_Wi)
  obtain ⟨c4, i4, hKn4⟩ := u_known (C := R_Cy) (T := F_Cy) (N := 2) (n := 2) hts i_Cy (hts _ LI_Cy)
  obtain ⟨c5, i5, hKn5⟩ := u_known (C := R_AL) (T := F_AL) (N := 2) (n := 2) hts i_AL (hts _ LI_AL)
  obtain ⟨c6, i6, hKn6⟩ := u_known (C := R_AQ) (T := F_AQ) (N := 6) (n := 6) hts i_AQ (hts _ LI_AQ)
  obtain ⟨c7, i7, hKn7⟩ := u_known (C := R_Re) (T := F_Re) (N := 20) (n := 20) hts i_Re (hts _ LI_Re)
  obtain ⟨c8, i8, hKn8⟩ := u_known (C := R_De) (T := F_De) (N := 19) (n := 19) hts i_De (hts _ LI_De)
  obtain ⟨c9, i9, hKn9⟩ := u_known (C := R_Mo) (T := F_Mo) (N := 57) (n := 57) hts i_Mo (hts _ LI_Mo)
  obtain ⟨D, hKc⟩ : ∃ D : va_G, ∀ (k : Nat) (q : vw_C), vcls[k]? = some q → u_Kn s q.1 q.2.1 q.2.2 (D.1 k) (D.2 k) := by
    refine ⟨(fun k => match k with | 0 => c0 | 1 => c1 | 2 => c2 | 3 => c3 | 4 => c4 | 5 => c5 | 6 => c6 | 7 => c7 | 8 => c8 | _ => c9, fun k => match k with | 0 => i0 | 1 => i1 | 2 => i2 | 3 => i3 | 4 => i4 | 5 => i5 | 6 => i6 | 7 => i7 | 8 => i8 | _ => i9), ?_⟩
    intro k q hq
    match k, hq with
    | 0, hq => cases hq; exact hKn0
    | 1, hq => cases hq; exact hKn1
    | 2, hq => cases hq; exact hKn2
    | 3, hq => cases hq; exact hKn3
    | 4, hq => cases hq; exact hKn4
    | 5, hq => cases hq; exact hKn5
    | 6, hq => cases hq; exact hKn6
    | 7, hq => cases hq; exact hKn7
    | 8, hq => cases hq; exact hKn8
    | 9, hq => cases hq; exact hKn9
    | k + 10, hq => simp [vcls] at hq
  have hS : va_S (fun q : Nat => s.heap.size ≤ q) s.heap s.heap [] := va_S.rf
  have hK0 : va_K D vcls [] s := ⟨hKc, fun k q h => by simp at h⟩
  obtain ⟨cA, hK⟩ := vK_arr hK0 (hts _ L_arrI) (hts _ L_arrZ) (hts0 _ LO_Fm) (hts0 _ LO_Re) (hts0 _ LO_De)
  have hN : xNN s := ⟨lw_nest hts0, hts0 _ LO_Fm, hts0 _ LO_Re, hts0 _ LO_De⟩
  have hP : va_P D vcls [] s.heap := fun k q h => by simp at h
  have hD : va_D (fun q : Nat => s.heap.size ≤ q) [] := ⟨fun i j p q h => by simp at h, fun k q h => by simp at h⟩
  have hl := lv_entry ([.ref b]) (n := 4) (Nat.le_of_ble_eq_true rfl)
  rw [lg_entry_eq]
  generalize (lg_sl ([.ref b]) ++ List.replicate (4 - (lg_sl ([.ref b])).length) Slot.unset).toArray = ls at hl ⊢
  have hl : lv_has ls 4 [(0, .ref b)] := hl
  refine va_new (ci := 0) (fs := [.null, .null, .null, .null, .null, .int 0, .int 0, .int 0, .int 0]) (C := R_FR) (T := F_FR) (N := 9) hx hb hts i_FR t_FR t_FR_ok hown (hts _ LL_7) (hts _ LI_FR) (hts _ N_FR) hK hP hD hS hA rfl (fun j hj => by rcases (show j = 0 ∨ j = 1 ∨ j = 2 ∨ j = 3 ∨ j = 4 ∨ j = 5 ∨ j = 6 ∨ j = 7 ∨ j = 8 by omega) with rfl | rfl | rfl | rfl | rfl | rfl | rfl | rfl | rfl <;> rfl) (Nat.le_of_ble_eq_true rfl) (Nat.le_of_ble_eq_true rfl) d_law_0 (fun q0 H hP hD hS => ?_)
  have hP : va_P D vcls ([] ++ fr_start q0) H := hP
  have hD : va_D (fun q : Nat => s.heap.size ≤ q) ([] ++ fr_start q0) := hD
  refine W.widen (k := 1) (n := 9) (by omega) (by omega) ?_
  refine lv_dup hx hb d_law_3 rfl ?_
  have hFc := va_free (wc := fr_start q0) hD hS hA [0] rfl
  refine va_callv (va_runI (As := []) (rest := [.ref q0]) ⟨hx, hb, hml, hown, hts⟩ (xc_FR_init l (D := D) (cA := cA) q0 H.size) (xw_FR_init hts LL_9 ⟨(Nat.le_of_ble_eq_true rfl), (Nat.le_of_ble_eq_true rfl)⟩) (cx_preL hK hN hP hD) rfl rfl hl.1 rfl (lv_room (Nat.le_of_ble_eq_true rfl)) d_law_4 ⟨(Nat.le_of_ble_eq_true rfl), (Nat.le_of_ble_eq_true rfl)⟩) hS (fun q _ h => hFc q h) hFc (fun ad t H1 locs ht hvm hw hB hz1 hk1 hS => ?_)
  obtain ⟨hPx, hDx, hAx⟩ := hB
  rw [ht] at hPx
  have hAx : ∀ x ∈ xCL, s.heap.size ≤ ad x.1 x.2 := fun x hx => hFc _ (hAx x hx)
  clear hP hD hFc hk1 hz1
  refine W.widen (k := 79) (n := 480) (by omega) (by omega) ?_
  refine lv_astore_n (lv' := [(1, .ref q0), (0, .ref b)]) hx hb d_law_7 rfl hl (by decide) rfl (fun ls hl => ?_)
  have hD : va_D (fun q : Nat => s.heap.size ≤ q) (fw_w xCL cA xkd ad x0) := fw_vaDA hDx hAx
  refine va_new (ci := 9) (fs := [.null, .null, .null, .null, .null, .null, .null, .null, .null, .null, .int 0, .null, .null, .null, .null, .null, .null, .null, .null, .null, .null, .null, .null, .null, .null, .null, .null, .null, .null, .null, .null, .null, .null, .null, .null, .null, .null, .null, .null, .null, .null, .null, .null, .null, .null, .null, .null, .null, .null, .int 0, .int 0, .int 0, .int 0, .int 0, .int 0, .int 0, .int 0]) (C := R_Mo) (T := F_Mo) (N := 57) hx hb hts i_Mo t_Mo t_Mo_ok hown (hts _ LL_10) (hts _ LI_Mo) (hts _ N_Mo) hK hPx hD hS hA rfl (fun j hj => by rcases (show j = 0 ∨ j = 1 ∨ j = 2 ∨ j = 3 ∨ j = 4 ∨ j = 5 ∨ j = 6 ∨ j = 7 ∨ j = 8 ∨ j = 9 ∨ j = 10 ∨ j = 11 ∨ j = 12 ∨ j = 13 ∨ j = 14 ∨ j = 15 ∨ j = 16 ∨ j = 17 ∨ j = 18 ∨ j = 19 ∨ j = 20 ∨ j = 21 ∨ j = 22 ∨ j = 23 ∨ j = 24 ∨ j = 25 ∨ j = 26 ∨ j = 27 ∨ j = 28 ∨ j = 29 ∨ j = 30 ∨ j = 31 ∨ j = 32 ∨ j = 33 ∨ j = 34 ∨ j = 35 ∨ j = 36 ∨ j = 37 ∨ j = 38 ∨ j = 39 ∨ j = 40 ∨ j = 41 ∨ j = 42 ∨ j = 43 ∨ j = 44 ∨ j = 45 ∨ j = 46 ∨ j = 47 ∨ j = 48 ∨ j = 49 ∨ j = 50 ∨ j = 51 ∨ j = 52 ∨ j = 53 ∨ j = 54 ∨ j = 55 ∨ j = 56 by omega) with rfl | rfl | rfl | rfl | rfl | rfl | rfl | rfl | rfl | rfl | rfl | rfl | rfl | rfl | rfl | rfl | rfl | rfl | rfl | rfl | rfl | rfl | rfl | rfl | rfl | rfl | rfl | rfl | rfl | rfl | rfl | rfl | rfl | rfl | rfl | rfl | rfl | rfl | rfl | rfl | rfl | rfl | rfl | rfl | rfl | rfl | rfl | rfl | rfl | rfl | rfl | rfl | rfl | rfl | rfl | rfl | rfl <;> rfl) (Nat.le_of_ble_eq_true rfl) (Nat.le_of_ble_eq_true rfl) d_law_8 (fun q1 H hP hD hS => ?_)
  clear hPx
  have hP : va_P D vcls (fw_w xCL cA xkd ad x0 ++ mo_start q1) H := hP
  have hD : va_D (fun q : Nat => s.heap.size ≤ q) (fw_w xCL cA xkd ad x0 ++ mo_start q1) := hD
  refine W.widen (k := 80) (n := 537) (by omega) (by omega) ?_
  refine lv_dup hx hb d_law_11 rfl ?_
  have hPx : va_P D vcls (fw_w xCL cA xkd ad x0) H := fun k q hq => hP k q (by rw [List.getElem?_append_left (List.getElem?_eq_some_iff.mp hq).1]; exact hq)
  have hPc : va_P D vcls (mo_start q1) H := fun k q hq => hP ((fw_w xCL cA xkd ad x0).length + k) q (by rw [List.getElem?_append_right (by omega), Nat.add_sub_cancel_left]; exact hq)
  have hDc : va_D (fun _ => True) (mo_start q1) := (hD.sub [(fw_w xCL cA xkd ad x0).length] rfl (cx_mapL _ _)).weaken (fun _ _ _ _ => trivial)
  have hFc := va_free (wc := mo_start q1) hD hS hA [(fw_w xCL cA xkd ad x0).length] (cx_mapL _ _)
  refine va_callv (va_runI (As := []) (rest := [.ref q1]) ⟨hx, hb, hml, hown, hts⟩ (mc_Mo_init l (D := D) (cA := cA) q1 H.size) (mw_Mo_init hts LL_12 ⟨(Nat.le_of_ble_eq_true rfl), (Nat.le_of_ble_eq_true rfl)⟩) ⟨fun a U g mk q => by obtain ⟨q0, q1, q2, q3, q4⟩ := q; exact ⟨q0, q1, q2, va_K.moved (u := U) (U := U.calling g mk a) (Vm.Alike.refl U.vm) q3, q4⟩, fun U hU hW => ⟨rfl, by rw [hU], by rw [hU]; exact hPc, va_K.moved hW.alike hK, hDc⟩⟩ rfl rfl hl.1 rfl (lv_room (Nat.le_of_ble_eq_true rfl)) d_law_12 ⟨(Nat.le_of_ble_eq_true rfl), (Nat.le_of_ble_eq_true rfl)⟩) hS (fun q _ h => hFc q h) hFc (fun u t2 H2 locs2 ht2 hvm2 hw2 hB2 hz2 hk2 hS => ?_)
  obtain ⟨am, w0⟩ := u
  obtain ⟨hPm, hDm, hAm0⟩ := hB2
  rw [ht2] at hPm
  have hAm : ∀ x ∈ mCL, s.heap.size ≤ am x.1 x.2 := fun x hx => hFc _ (hAm0 x hx)
  have hPx2 := lw_kept hPx hD hk2
  have hdis : ∀ x ∈ xCL, ∀ y ∈ mCL, ad x.1 x.2 ≠ am y.1 y.2 := fun x hx y hy h => lw_apart hPx hD hx (by rw [h]; exact hAm0 y hy)
  have hw20 : w0 = mf_Mo_init (fun _ _ _ => 0) := hw2.2
  have hq1 : am 0 0 = q1 := hw2.1
  have hq0 : ad 0 0 = q0 := hw
  rw [← hq0] at hl
  rw [← hq1]
  refine W.widen (k := 128) (n := 905) (by omega) (by omega) ?_
  refine lv_astore_n (lv' := [(2, .ref (am 0 0)), (1, .ref (ad 0 0)), (0, .ref b)]) hx hb d_law_15 rfl hl (by decide) rfl (fun ls hl => ?_)
  refine lv_iconst (v := (0 : Int32)) hx hb d_law_16 (by decide) ?_
  refine lv_istore_n (lv' := [(3, .int (nI (5 * 0))), (2, .ref (am 0 0)), (1, .ref (ad 0 0)), (0, .ref b)]) hx hb d_law_17 rfl hl (by decide) rfl (fun ls hl => ?_)
  exact law_loop hL C0 hK hN hDx hDm hAx hAm hdis (L + 5) 0 x0 w0 _ _ _ (by omega) (by omega) xI_x0 (by rw [hw20]; exact mI_m0) (by rw [hw20]; exact lwR_0) hPx2 hPm hS (lv_sub hl [3, 2, 1, 0] rfl)

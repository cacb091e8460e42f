/-! constructors of the class: list worlds -/
def xNN (U : State) : Prop := fw_N vNL U ∧ va_AO R_Fm U ∧ va_AO R_Re U ∧ va_AO R_De U
theorem xNN.warm {s U : State} (h : xNN s) (hW : s.WarmedH U.vm) : xNN U := ⟨h.1.warm hW, h.2.1.moved hW.alike, h.2.2.1.moved hW.alike, h.2.2.2.moved hW.alike⟩
abbrev cx_Pc (D : va_G) (cA : Nat → ClassId) (av : List Value) (ws : va_W) (sz : Nat) : Array Value → State → Prop := va_Pc av (fun U => U.heap.size = sz ∧ va_P D vcls ws U.heap ∧ va_K D vcls (vtys cA) U ∧ xNN U ∧ va_D (fun _ => True) ws)
abbrev cx_Qv (D : va_G) (ws : va_W) (sz : Nat) (post : (Nat → Nat) → va_W) : Array Value → State → Outcome → State → Prop := va_Qv (fun _ : Nat → Nat => True) (fun u t => va_P D vcls (post u) t.heap ∧ va_D (va_A ws sz) (post u)) (va_A ws sz)
theorem cx_blind {D : va_G} {cA : Nat → ClassId} {av : List Value} {ws : va_W} {sz : Nat} : FrameBlind (cx_Pc D cA av ws sz) := fun a U g mk q => by
  obtain ⟨q0, q1, q2, q3, q4, q5⟩ := q
  have al : U.vm.Alike (U.calling g mk a).vm := Vm.Alike.refl U.vm
  exact ⟨q0, q1, q2, va_K.moved (u := U) (U := U.calling g mk a) al q3, ⟨fw_N.same (u := U) (U := U.calling g mk a) rfl q4.1, q4.2.1.moved al, q4.2.2.1.moved al, q4.2.2.2.moved al⟩, q5⟩
theorem cx_pre {s : State} {H : Heap} {D : va_G} {cA : Nat → ClassId} {av : List Value} {A : Nat → Prop} {ws wc : va_W} (hK : va_K D vcls (vtys cA) s) (hN : xNN s) (hP : va_P D vcls ws H) (hD : va_D A ws) (isC : List Nat) (hn : va_nd isC = true) (hC : isC.map (fun i => ws[i]?) = wc.map some) : PreS s H (cx_Pc D cA av wc H.size) av :=
  ⟨cx_blind, fun U hU hW => ⟨rfl, by rw [hU], by
    rw [hU]
    intro k q hq
    have h1 : (isC.map (fun i => ws[i]?))[k]? = some (some q) := by rw [hC, List.getElem?_map, hq]; rfl
    rw [List.getElem?_map] at h1
    cases hi : isC[k]? with
    | none => rw [hi] at h1; cases h1
    | some i => rw [hi] at h1; exact hP i q (Option.some.inj h1), va_K.moved hW.alike hK, hN.warm hW, (hD.sub isC hn hC).weaken (fun _ _ _ _ => trivial)⟩⟩
theorem cx_call {p : Program} {l : Launch} {e : Env} {R : Room} {s : State} {m : MethodId} {args : Array Value} {below : List Frame} {meth : Method} {c0 : Code} {H : Heap} {locs : List Loc} {cells slots mc ms : Nat} {Q : State → Prop} {pc : Nat} {ls : Array Slot} {rest st0 : List Value} {D : va_G} {H0 : Heap} {a : Array Value} {A : Nat → Prop} {ws wc wr : va_W} {post : (Nat → Nat) → va_W}
    (hr : va_Run p l e R s m args below meth c0 H locs cells slots mc ms (F0 m pc ls st0) rest (cx_Qv D wc H.size post a) (va_A wc H.size)) (hP : va_P D vcls ws H) (hD : va_D A ws) (hS : va_S A H0 H locs) (hA : ∀ q, H0.size ≤ q → A q) (isC isR : List Nat) (hC : isC.map (fun i => ws[i]?) = wc.map some) (hR : isR.map (fun i => ws[i]?) = wr.map some) (hn : va_nd isR = true) (hdis : ∀ i ∈ isR, i ∉ isC)
    (kk : ∀ (u : Nat → Nat) (H1 : Heap) (locs1 : List Loc), va_P D vcls (wr ++ post u) H1 → va_D A (wr ++ post u) → va_S A H0 H1 locs1 → W p l e R s m args below meth c0 H1 locs1 (cells + mc) (slots + ms) Q (F0 m (pc + 3) ls rest)) : W p l e R s m args below meth c0 H locs cells slots Q (F0 m pc ls st0) := by
  have hFc := va_free hD hS hA isC hC
  refine va_callv hr hS (fun q _ h => hFc q h) hFc (fun u t H1 locs1 ht hvm hw hB hz1 hk1 hS1 => ?_)
  obtain ⟨hP1, hD1⟩ := hB
  rw [ht] at hP1
  obtain ⟨x1, x2⟩ := va_join hP hD isC isR hC hR hn hdis hk1 hFc hP1 hD1
  exact kk u H1 locs1 x1 x2 hS1
set_option maxHeartbeats 4000000 in
set_option maxRecDepth 100000 in
/-- Arrays.fill over one array -/
theorem cx_fill (l : Launch) {D : va_G} {cA : Nat → ClassId} (q sz : Nat) {n : Nat} (hn : n < 2 ^ 31) (f : Nat → Int32) (a : Int32) : Met l y_fill (Cond.code y_fill b_fill 4 none :: vTB) rm_fill (cx_Pc D cA [.ref q, .int a] [(q, .inl (cA 0, n, .inl f))] sz) (cx_Qv D [(q, .inl (cA 0, n, .inl f))] sz (fun _ => [(q, .inl (cA 0, n, .inl (fun _ => a)))])) 0 0 (va_A [(q, .inl (cA 0, n, .inl f))] sz) := by
  refine Met.ofW (cc := b_fill) (maxL := 4) (ret := none) (by decide) rfl ?_
  intro p e s m args below meth c0 s₁ B hml hv
  obtain ⟨rfl, hsz, hP, hK, hN, hD0⟩ := hv
  have hx := B.exec
  have hb := B.bytes
  have hr := B.returns
  have hlocks := B.notSynchronized
  subst hsz
  have hD := hD0.self (sz := s.heap.size)
  have hS : va_S (va_A [(q, .inl (cA 0, n, .inl f))] s.heap.size) s.heap s.heap [] := va_S.rf
  have J : ∀ (z k : Nat) (H : Heap) (locs : List Loc) (ls : Array Slot) (g : Nat → Int32), k + z = n → (∀ j, j < k → g j = a) → va_P D vcls [(q, .inl (cA 0, n, .inl g))] H → va_D (va_A [(q, .inl (cA 0, n, .inl f))] s.heap.size) [(q, .inl (cA 0, n, .inl g))] → va_S (va_A [(q, .inl (cA 0, n, .inl f))] s.heap.size) s.heap H locs → lv_has ls 4 [(0, .ref q), (1, .int a), (2, .int (nI k)), (3, .int (nI n))] → W p l e (headSpec (Cond.code y_fill b_fill 4 none :: vTB) rm_fill).room s m ([.ref q, .int a] : List Value).toArray below meth c0 H locs 0 0 (MQ below (cx_Qv D [(q, .inl (cA 0, n, .inl f))] s.heap.size (fun _ => [(q, .inl (cA 0, n, .inl (fun _ => a)))])) ([.ref q, .int a] : List Value).toArray s 0 0 (va_A [(q, .inl (cA 0, n, .inl f))] s.heap.size)) (F0 m 5 ls []) := by
    intro z
    induction z with
    | zero =>
      intro k H locs ls g hk hg hP hD hS hl
      refine lv_iload_n hx hb d_fill_5 rfl (lv_at hl 2 rfl) ?_
      refine lv_iload_n hx hb d_fill_6 rfl (lv_at hl 3 rfl) ?_
      have hkn : k = n := by omega
      subst hkn
      refine lv_icmp_ge (tgt := 20) hx hb d_fill_7 (by decide) (fun _ => ?_) (fun q9 => absurd (nI_le (Nat.le_refl k) hn) q9)
      have hP9 : va_P D vcls [(q, .inl (cA 0, k, .inl (fun _ => a)))] H := by
        intro i x hx9
        have h0 : i = 0 := by
          have := (List.getElem?_eq_some_iff.mp hx9).1
          simpa using this
        subst h0
        cases hx9
        have h1 : H[q]? = some (arrV (cA 0) k (fun j => .int (g j))) := hP 0 _ rfl
        show H[q]? = some (arrV (cA 0) k (fun _ => .int a))
        rw [h1]
        congr 1
        exact fw_arrV (fun j hj => by rw [hg j hj])
      have hD9 : va_D (va_A [(q, .inl (cA 0, k, .inl f))] s.heap.size) [(q, .inl (cA 0, k, .inl (fun _ => a)))] := hD.set (p := 0) rfl
      exact W.vret hx hb hr (fun t ht hW => ⟨⟨fun _ => 0, rfl, trivial, by rw [ht]; exact hP9, hD9⟩, hS.F ht⟩) hS.2.2 d_fill_20 hlocks
    | succ z ih =>
      intro k H locs ls g hk hg hP hD hS hl
      refine lv_iload_n hx hb d_fill_5 rfl (lv_at hl 2 rfl) ?_
      refine lv_iload_n hx hb d_fill_6 rfl (lv_at hl 3 rfl) ?_
      refine lv_icmp_ge (tgt := 20) hx hb d_fill_7 (by decide) (fun q9 => absurd q9 (nI_ge (by omega) hn)) (fun _ => ?_)
      refine lv_aload_n hx hb d_fill_10 rfl (lv_at hl 0 rfl) ?_
      refine lv_iload_n hx hb d_fill_11 rfl (lv_at hl 2 rfl) ?_
      refine lv_iload_n hx hb d_fill_12 rfl (lv_at hl 1 rfl) ?_
      refine va_iast hx hb hK hP hD hS 0 0 rfl rfl (vp_in_nI (by omega) hn) d_fill_13 (fun H locs hP hD hS => ?_)
      refine lv_iinc (v := nI (k + 1)) (lv' := [(2, .int (nI (k + 1))), (0, .ref q), (1, .int a), (3, .int (nI n))]) hx hb d_fill_14 hl (k := 2) rfl (nI_1 k) (by decide) rfl (fun ls hl => ?_)
      refine lv_goto (tgt := 5) hx hb d_fill_17 (by decide) ?_
      refine ih (k + 1) _ _ _ _ (by omega) (fun j hj => ?_) hP hD hS (lv_sub hl [1, 2, 0, 3] rfl)
      rw [nI_clamp (by omega)]
      unfold upd
      by_cases hjk : j = k
      · rw [if_pos hjk]
      · rw [if_neg hjk]; exact hg j (by omega)
  have hl := lv_entry ([.ref q, .int a]) (n := 4) (Nat.le_of_ble_eq_true rfl)
  rw [lg_entry_eq]
  generalize (lg_sl ([.ref q, .int a]) ++ List.replicate (4 - (lg_sl ([.ref q, .int a])).length) Slot.unset).toArray = ls at hl ⊢
  have hl : lv_has ls 4 [(0, .ref q), (1, .int a)] := hl
  refine lv_iconst (v := (0 : Int32)) hx hb d_fill_0 (by decide) ?_
  refine lv_istore_n (lv' := [(2, .int 0), (0, .ref q), (1, .int a)]) hx hb d_fill_1 rfl hl (by decide) rfl (fun ls hl => ?_)
  refine lv_aload_n hx hb d_fill_2 rfl (lv_at hl 1 rfl) ?_
  refine va_alen hx hb hK hP 0 0 rfl rfl rfl d_fill_3 ?_
  refine lv_istore_n (lv' := [(3, .int (nI n)), (2, .int 0), (0, .ref q), (1, .int a)]) hx hb d_fill_4 rfl hl (by decide) rfl (fun ls hl => ?_)
  exact J n 0 _ _ _ f (by omega) (fun j hj => absurd hj (Nat.not_lt_zero j)) hP hD hS (lv_sub hl [2, 3, 1, 0] rfl)
/-- a new array of references, where the class of such arrays has its name already -/
theorem cx_newq {p : Program} {l : Launch} {e : Env} {R : Room} {s : State} {m : MethodId} {args : Array Value} {below : List Frame} {meth : Method} {c0 : Code} {H : Heap} {locs : List Loc} {cells slots : Nat} {Q : State → Prop} {cc : ByteArray} {pc : Nat} {ls : Array Slot} {rest : List Value} {D : va_G} {cl : List vw_C} {tys : List (ClassId × FieldType)} {H0 : Heap} {A : Nat → Prop} {ws : va_W} (hexec : p.tables.exec = Jvm.exec) (hb : c0.code = cc) {own C : String} {index : Nat} (hown : s.vm.findClass own = some m.cls) (hclink : (Cond.classLink own index C).before args s = true) (hover : va_AO C s) (hK : va_K D cl tys s) (t0 : Nat) {cI : ClassId} (ht : tys[t0]? = some (cI, .object C)) (hP : va_P D cl ws H) (hD : va_D A ws) (hS : va_S A H0 H locs) (hA : ∀ q, H0.size ≤ q → A q) {n : Int32} {N : Nat} (hn : ¬ n < 0) (hN : n.toNatClampNeg = N) (hbytes : N * 4 ≤ 536870912) (hcells : cells + 1 ≤ R.cells) (hslots : slots + N ≤ R.slots) (hdg : decode cc pc = .ok (.anewarray index, 3))
    (kk : ∀ (q : Nat) (H1 : Heap), va_P D cl (ws ++ [(q, .inl (cI, N, .inr (.inr (.inr (.inr (fun _ => none))))))]) H1 → va_D A (ws ++ [(q, .inl (cI, N, .inr (.inr (.inr (.inr (fun _ => none))))))]) → va_S A H0 H1 locs → W p l e R s m args below meth c0 H1 locs (cells + 1) (slots + N) Q (F0 m (pc + 3) ls (.ref q :: rest))) : W p l e R s m args below meth c0 H locs cells slots Q (F0 m pc ls (.int n :: rest)) := by
  refine va_newq hexec hb hown hclink hover hK hP hD hS hA hn hN hbytes hcells hslots hdg (fun q cA' H1 hK1 hP1 hD1 hS1 => ?_)
  have e1 : cA' = cI := by
    obtain ⟨_, _, _, _, _, h1⟩ := (hK1.2 tys.length (cA', .object C) (by simp)).2
    obtain ⟨_, _, _, _, _, h2⟩ := (hK.2 t0 _ ht).2
    exact Option.some.inj (h1.symm.trans h2)
  subst e1
  exact kk q H1 hP1 hD1 hS1


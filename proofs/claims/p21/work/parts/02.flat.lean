/-! FLAT WORLDS: every cell has a name (c, i): kind c, number i; its ints are v c i k; its references are fixed, or numbers in v -/
abbrev fw_V : Type := Nat → Nat → Nat → Int32
abbrev fw_K : Type := Nat → Nat → (Nat × Nat × Option (Bool × Nat)) ⊕ (Nat × List (Option (Nat × Nat)))
def fw_up (v : fw_V) (c i k : Nat) (x : Int32) : fw_V := fun c' i' k' => if c' = c ∧ i' = i ∧ k' = k then x else v c' i' k'
def fw_row (v : fw_V) (c i : Nat) (g : Nat → Int32) : fw_V := fun c' i' k' => if c' = c ∧ i' = i then g k' else v c' i' k'
def fw_fs (ad : Nat → Nat → Nat) (g : Nat → Int32) : Nat → List (Option (Nat × Nat)) → List Value
  | _, [] => []
  | j, none :: r => .int (g j) :: fw_fs ad g (j + 1) r
  | j, some q :: r => .ref (ad q.1 q.2) :: fw_fs ad g (j + 1) r
def fw_a (ad : Nat → Nat → Nat) (g : Nat → Int32) : Option (Bool × Nat) → ((Nat → Int32) ⊕ (Nat → Int64) ⊕ (Nat → UInt32) ⊕ (Nat → UInt64) ⊕ (Nat → Option Nat))
  | none => .inl g
  | some (true, k) => .inr (.inr (.inr (.inr (fun j => some (ad k (g j).toNatClampNeg)))))
  | some (false, k) => .inr (.inr (.inr (.inr (fun j => some (ad k j)))))
def fw_e (cA : Nat → ClassId) (kd : fw_K) (ad : Nat → Nat → Nat) (v : fw_V) (c i : Nat) : va_E := match kd c i with
  | .inl q => .inl (cA q.1, q.2.1, fw_a ad (v c i) q.2.2)
  | .inr q => .inr (q.1, fw_fs ad (v c i) 0 q.2)
def fw_w (CL : List (Nat × Nat)) (cA : Nat → ClassId) (kd : fw_K) (ad : Nat → Nat → Nat) (v : fw_V) : va_W := CL.map (fun q => (ad q.1 q.2, fw_e cA kd ad v q.1 q.2))
def fw_A (CL : List (Nat × Nat)) (ad : Nat → Nat → Nat) : Nat → Prop := fun q => ∃ x ∈ CL, ad x.1 x.2 = q
def fw_D (CL : List (Nat × Nat)) (ad : Nat → Nat → Nat) : Prop := CL.Nodup ∧ ∀ x ∈ CL, ∀ y ∈ CL, ad x.1 x.2 = ad y.1 y.2 → x = y
def fw_cl (L : List (Nat × Nat)) : List (Nat × Nat) := L.flatMap (fun q => (List.range q.2).map (fun i => (q.1, i)))
theorem fw_mem {L : List (Nat × Nat)} {c n i : Nat} (h : (c, n) ∈ L) (hi : i < n) : (c, i) ∈ fw_cl L :=
  List.mem_flatMap.mpr ⟨(c, n), h, List.mem_map.mpr ⟨i, List.mem_range.mpr hi, rfl⟩⟩
theorem fw_ix {CL : List (Nat × Nat)} {ad : Nat → Nat → Nat} (hD : fw_D CL ad) {i j : Nat} {x : Nat × Nat} (h1 : CL[i]? = some x) (h2 : CL[j]? = some x) : i = j := by
  have hl : i < CL.length := (List.getElem?_eq_some_iff.mp h1).1
  exact (List.getElem?_inj hl hD.1).mp (h1.trans h2.symm)
section FLAT1
variable {CL : List (Nat × Nat)} {cA : Nat → ClassId} {kd : fw_K} {ad : Nat → Nat → Nat}
theorem fw_at {v : fw_V} {c i : Nat} (hm : (c, i) ∈ CL) : ∃ q0 : Nat, CL[q0]? = some (c, i) ∧ (fw_w CL cA kd ad v)[q0]? = some (ad c i, fw_e cA kd ad v c i) := by
  obtain ⟨q0, h⟩ := List.getElem?_of_mem hm
  exact ⟨q0, h, by unfold fw_w; rw [List.getElem?_map, h]; rfl⟩
theorem fw_key {v : fw_V} {k : Nat} {q : Nat × va_E} (h : (fw_w CL cA kd ad v)[k]? = some q) : ∃ x, CL[k]? = some x ∧ q = (ad x.1 x.2, fw_e cA kd ad v x.1 x.2) := by
  unfold fw_w at h
  rw [List.getElem?_map] at h
  cases hx : CL[k]? with
  | none => rw [hx] at h; cases h
  | some x => rw [hx] at h; cases h; exact ⟨x, rfl, rfl⟩
theorem fw_vaD {v : fw_V} (hD : fw_D CL ad) : va_D (fw_A CL ad) (fw_w CL cA kd ad v) := by
  refine ⟨fun i j p q hp hq hpq => ?_, fun k q hk => ?_⟩
  · obtain ⟨x, hx, ex⟩ := fw_key hp
    obtain ⟨y, hy, ey⟩ := fw_key hq
    have hxy : x = y := hD.2 x (List.mem_of_getElem? hx) y (List.mem_of_getElem? hy) (by rw [ex, ey] at hpq; exact hpq)
    subst hxy
    exact fw_ix hD hx hy
  · obtain ⟨x, hx, ex⟩ := fw_key hk
    exact ⟨x, List.mem_of_getElem? hx, by rw [ex]⟩
theorem fw_set {v v' : fw_V} {c i q0 : Nat} (hD : fw_D CL ad) (hq : CL[q0]? = some (c, i)) (he : ∀ c' i', ¬ (c' = c ∧ i' = i) → fw_e cA kd ad v' c' i' = fw_e cA kd ad v c' i') : (fw_w CL cA kd ad v).set q0 (ad c i, fw_e cA kd ad v' c i) = fw_w CL cA kd ad v' := by
  refine List.ext_getElem? (fun k => ?_)
  unfold fw_w
  rw [List.getElem?_set, List.getElem?_map, List.getElem?_map]
  by_cases hk : q0 = k
  · subst hk
    have hl : q0 < (CL.map (fun q => (ad q.1 q.2, fw_e cA kd ad v q.1 q.2))).length := by
      rw [List.length_map]; exact (List.getElem?_eq_some_iff.mp hq).1
    rw [if_pos rfl, if_pos hl, hq]
    rfl
  · rw [if_neg hk]
    cases hx : CL[k]? with
    | none => rfl
    | some x =>
      have hne : ¬ (x.1 = c ∧ x.2 = i) := fun h => hk (fw_ix hD hq (by rw [hx]; exact congrArg some (Prod.ext h.1 h.2)))
      show some (ad x.1 x.2, fw_e cA kd ad v x.1 x.2) = some (ad x.1 x.2, fw_e cA kd ad v' x.1 x.2)
      rw [he x.1 x.2 hne]
theorem fw_e_up {v : fw_V} {c i k : Nat} {x : Int32} (c' i' : Nat) (h : ¬ (c' = c ∧ i' = i)) : fw_e cA kd ad (fw_up v c i k x) c' i' = fw_e cA kd ad v c' i' := by
  have e : fw_up v c i k x c' i' = v c' i' := by
    funext j
    unfold fw_up
    rw [if_neg (fun q => h ⟨q.1, q.2.1⟩)]
  unfold fw_e
  rw [e]
theorem fw_e_row {v : fw_V} {c i : Nat} {g : Nat → Int32} (c' i' : Nat) (h : ¬ (c' = c ∧ i' = i)) : fw_e cA kd ad (fw_row v c i g) c' i' = fw_e cA kd ad v c' i' := by
  have e : fw_row v c i g c' i' = v c' i' := by
    funext j
    unfold fw_row
    rw [if_neg h]
  unfold fw_e
  rw [e]
theorem fw_up_self {v : fw_V} {c i k : Nat} {x : Int32} : fw_up v c i k x c i = upd (v c i) k x := by
  funext j
  unfold fw_up upd
  by_cases h : j = k
  · rw [if_pos ⟨rfl, rfl, h⟩, if_pos h]
  · rw [if_neg (fun q => h q.2.2), if_neg h]
theorem fw_row_self {v : fw_V} {c i : Nat} {g : Nat → Int32} : fw_row v c i g c i = g := by
  funext j
  unfold fw_row
  rw [if_pos ⟨rfl, rfl⟩]
theorem fw_fs_int {g : Nat → Int32} : ∀ (sh : List (Option (Nat × Nat))) (j k : Nat), sh[k]? = some none → (fw_fs ad g j sh)[k]? = some (.int (g (j + k)))
  | [], _, _, h => by simp at h
  | none :: _, _, 0, _ => rfl
  | some _ :: _, _, 0, h => by simp at h
  | none :: r, j, k + 1, h => by
    have := fw_fs_int (g := g) r (j + 1) k (by simpa using h)
    rw [show j + (k + 1) = j + 1 + k by omega]
    exact this
  | some _ :: r, j, k + 1, h => by
    have := fw_fs_int (g := g) r (j + 1) k (by simpa using h)
    rw [show j + (k + 1) = j + 1 + k by omega]
    exact this
theorem fw_fs_ref {g : Nat → Int32} {q : Nat × Nat} : ∀ (sh : List (Option (Nat × Nat))) (j k : Nat), sh[k]? = some (some q) → (fw_fs ad g j sh)[k]? = some (.ref (ad q.1 q.2))
  | [], _, _, h => by simp at h
  | none :: _, _, 0, h => by simp at h
  | some x :: _, _, 0, h => by
    have e : x = q := by simpa using h
    subst e
    rfl
  | none :: r, j, k + 1, h => fw_fs_ref (g := g) r (j + 1) k (by simpa using h)
  | some _ :: r, j, k + 1, h => fw_fs_ref (g := g) r (j + 1) k (by simpa using h)
theorem fw_fs_len {g : Nat → Int32} : ∀ (sh : List (Option (Nat × Nat))) (j : Nat), (fw_fs ad g j sh).length = sh.length
  | [], _ => rfl
  | none :: r, j => by show (fw_fs ad g (j + 1) r).length + 1 = r.length + 1; rw [fw_fs_len r]
  | some _ :: r, j => by show (fw_fs ad g (j + 1) r).length + 1 = r.length + 1; rw [fw_fs_len r]
theorem fw_fs_lo {g : Nat → Int32} {m : Nat} {x : Int32} : ∀ (sh : List (Option (Nat × Nat))) (j : Nat), m < j → fw_fs ad (upd g m x) j sh = fw_fs ad g j sh
  | [], _, _ => rfl
  | none :: r, j, h => by
    show Value.int (upd g m x j) :: fw_fs ad (upd g m x) (j + 1) r = Value.int (g j) :: fw_fs ad g (j + 1) r
    rw [fw_fs_lo r (j + 1) (by omega), show upd g m x j = g j from if_neg (by omega)]
  | some q :: r, j, h => by
    show Value.ref (ad q.1 q.2) :: fw_fs ad (upd g m x) (j + 1) r = Value.ref (ad q.1 q.2) :: fw_fs ad g (j + 1) r
    rw [fw_fs_lo r (j + 1) (by omega)]
theorem fw_fs_set {g : Nat → Int32} {x : Int32} : ∀ (sh : List (Option (Nat × Nat))) (j k : Nat), sh[k]? = some none → (fw_fs ad g j sh).set k (.int x) = fw_fs ad (upd g (j + k) x) j sh
  | [], _, _, h => by simp at h
  | none :: r, j, 0, _ => by
    show Value.int x :: fw_fs ad g (j + 1) r = Value.int (upd g (j + 0) x j) :: fw_fs ad (upd g (j + 0) x) (j + 1) r
    rw [fw_fs_lo r (j + 1) (by omega), show upd g (j + 0) x j = x from if_pos (by omega)]
  | some _ :: _, _, 0, h => by simp at h
  | none :: r, j, k + 1, h => by
    show Value.int (g j) :: (fw_fs ad g (j + 1) r).set k (.int x) = Value.int (upd g (j + (k + 1)) x j) :: fw_fs ad (upd g (j + (k + 1)) x) (j + 1) r
    rw [fw_fs_set r (j + 1) k (by simpa using h), show upd g (j + (k + 1)) x j = g j from if_neg (by omega), show j + 1 + k = j + (k + 1) by omega]
  | some q :: r, j, k + 1, h => by
    show Value.ref (ad q.1 q.2) :: (fw_fs ad g (j + 1) r).set k (.int x) = Value.ref (ad q.1 q.2) :: fw_fs ad (upd g (j + (k + 1)) x) (j + 1) r
    rw [fw_fs_set r (j + 1) k (by simpa using h), show j + 1 + k = j + (k + 1) by omega]
theorem fw_e_obj {v : fw_V} {c i ci : Nat} {sh : List (Option (Nat × Nat))} (h : kd c i = .inr (ci, sh)) : fw_e cA kd ad v c i = .inr (ci, fw_fs ad (v c i) 0 sh) := by
  unfold fw_e; rw [h]
theorem fw_e_arr {v : fw_V} {c i t n : Nat} {o : Option (Bool × Nat)} (h : kd c i = .inl (t, n, o)) : fw_e cA kd ad v c i = .inl (cA t, n, fw_a ad (v c i) o) := by
  unfold fw_e; rw [h]
end FLAT1
section FLAT2
variable {p : Program} {l : Launch} {e : Env} {R : Room} {s : State} {m : MethodId} {args : Array Value} {below : List Frame} {meth : Method} {c0 : Code} {H : Heap} {locs : List Loc} {cells slots : Nat} {Q : State → Prop}
variable {cc : ByteArray} {pc : Nat} {ls : Array Slot} {rest : List Value} {D : va_G} {cl : List vw_C} {tys : List (ClassId × FieldType)} {H0 : Heap}
variable {CL : List (Nat × Nat)} {cA : Nat → ClassId} {kd : fw_K} {ad : Nat → Nat → Nat} {v : fw_V} {c i : Nat}
/-- an int field is read -/
theorem fw_geti (hexec : p.tables.exec = Jvm.exec) (hb : c0.code = cc) {own ref C : String} {T : u_T} {N ci index : Nat} {Ts : List Cond} (hts : ∀ w ∈ Ts, w.before args s = true) (hin : ∀ w ∈ u_ws C T N, w ∈ Ts) (hown : s.vm.findClass own = some m.cls) (hK : va_K D cl tys s) (hP : va_P D cl (fw_w CL cA kd ad v) H) (hm : (c, i) ∈ CL) {sh : List (Option (Nat × Nat))} (hkd : kd c i = .inr (ci, sh)) (hc : cl[ci]? = some (C, T, N)) (k : Nat) (hk : k < N) (hlink : (Cond.fieldLink own index ref (T k).2.1 (T k).2.2.1).before args s = true) (hsame : ∀ x, s.fieldFound? (T k).1 (T k).2.1 (T k).2.2.1 = some x → s.fieldFound? ref (T k).2.1 (T k).2.2.1 = some x) (hsh : sh[k]? = some none) (hdg : decode cc pc = .ok (.getfield index, 3))
    (kk : W p l e R s m args below meth c0 H locs cells slots Q (F0 m (pc + 3) ls (.int (v c i k) :: rest))) : W p l e R s m args below meth c0 H locs cells slots Q (F0 m pc ls (.ref (ad c i) :: rest)) := by
  obtain ⟨q0, -, h⟩ := fw_at (cA := cA) (kd := kd) (ad := ad) (v := v) hm
  rw [fw_e_obj hkd] at h
  exact va_get hexec hb hts hin hown hK hP q0 h hc k hk hlink hsame (by rw [fw_fs_int sh 0 k hsh, Nat.zero_add]) hdg kk
theorem fw_getr (hexec : p.tables.exec = Jvm.exec) (hb : c0.code = cc) {own ref C : String} {T : u_T} {N ci index : Nat} {Ts : List Cond} (hts : ∀ w ∈ Ts, w.before args s = true) (hin : ∀ w ∈ u_ws C T N, w ∈ Ts) (hown : s.vm.findClass own = some m.cls) (hK : va_K D cl tys s) (hP : va_P D cl (fw_w CL cA kd ad v) H) (hm : (c, i) ∈ CL) {sh : List (Option (Nat × Nat))} (hkd : kd c i = .inr (ci, sh)) (hc : cl[ci]? = some (C, T, N)) (k : Nat) (hk : k < N) (hlink : (Cond.fieldLink own index ref (T k).2.1 (T k).2.2.1).before args s = true) (hsame : ∀ x, s.fieldFound? (T k).1 (T k).2.1 (T k).2.2.1 = some x → s.fieldFound? ref (T k).2.1 (T k).2.2.1 = some x) {c' i' : Nat} (hsh : sh[k]? = some (some (c', i'))) (hdg : decode cc pc = .ok (.getfield index, 3))
    (kk : W p l e R s m args below meth c0 H locs cells slots Q (F0 m (pc + 3) ls (.ref (ad c' i') :: rest))) : W p l e R s m args below meth c0 H locs cells slots Q (F0 m pc ls (.ref (ad c i) :: rest)) := by
  obtain ⟨q0, -, h⟩ := fw_at (cA := cA) (kd := kd) (ad := ad) (v := v) hm
  rw [fw_e_obj hkd] at h
  exact va_get hexec hb hts hin hown hK hP q0 h hc k hk hlink hsame (by rw [fw_fs_ref sh 0 k hsh]) hdg kk
theorem fw_getiN (hexec : p.tables.exec = Jvm.exec) (hb : c0.code = cc) {own ref C host : String} {T : u_T} {N ci index : Nat} {Ts : List Cond} (hts : ∀ w ∈ Ts, w.before args s = true) (hin : ∀ w ∈ u_ws C T N, w ∈ Ts) (hown : s.vm.findClass own = some m.cls) (hK : va_K D cl tys s) (hP : va_P D cl (fw_w CL cA kd ad v) H) (hm : (c, i) ∈ CL) {sh : List (Option (Nat × Nat))} (hkd : kd c i = .inr (ci, sh)) (hc : cl[ci]? = some (C, T, N)) (k : Nat) (hk : k < N) (hlink : (Cond.fieldLinkNest own index ref (T k).2.1 (T k).2.2.1 host).before args s = true) (hsame : ∀ x, s.fieldFound? (T k).1 (T k).2.1 (T k).2.2.1 = some x → s.fieldFound? ref (T k).2.1 (T k).2.2.1 = some x) (hsh : sh[k]? = some none) (hdg : decode cc pc = .ok (.getfield index, 3))
    (kk : W p l e R s m args below meth c0 H locs cells slots Q (F0 m (pc + 3) ls (.int (v c i k) :: rest))) : W p l e R s m args below meth c0 H locs cells slots Q (F0 m pc ls (.ref (ad c i) :: rest)) := by
  obtain ⟨q0, -, h⟩ := fw_at (cA := cA) (kd := kd) (ad := ad) (v := v) hm
  rw [fw_e_obj hkd] at h
  exact va_getN hexec hb hts hin hown hK hP q0 h hc k hk hlink hsame (by rw [fw_fs_int sh 0 k hsh, Nat.zero_add]) hdg kk
theorem fw_getrN (hexec : p.tables.exec = Jvm.exec) (hb : c0.code = cc) {own ref C host : String} {T : u_T} {N ci index : Nat} {Ts : List Cond} (hts : ∀ w ∈ Ts, w.before args s = true) (hin : ∀ w ∈ u_ws C T N, w ∈ Ts) (hown : s.vm.findClass own = some m.cls) (hK : va_K D cl tys s) (hP : va_P D cl (fw_w CL cA kd ad v) H) (hm : (c, i) ∈ CL) {sh : List (Option (Nat × Nat))} (hkd : kd c i = .inr (ci, sh)) (hc : cl[ci]? = some (C, T, N)) (k : Nat) (hk : k < N) (hlink : (Cond.fieldLinkNest own index ref (T k).2.1 (T k).2.2.1 host).before args s = true) (hsame : ∀ x, s.fieldFound? (T k).1 (T k).2.1 (T k).2.2.1 = some x → s.fieldFound? ref (T k).2.1 (T k).2.2.1 = some x) {c' i' : Nat} (hsh : sh[k]? = some (some (c', i'))) (hdg : decode cc pc = .ok (.getfield index, 3))
    (kk : W p l e R s m args below meth c0 H locs cells slots Q (F0 m (pc + 3) ls (.ref (ad c' i') :: rest))) : W p l e R s m args below meth c0 H locs cells slots Q (F0 m pc ls (.ref (ad c i) :: rest)) := by
  obtain ⟨q0, -, h⟩ := fw_at (cA := cA) (kd := kd) (ad := ad) (v := v) hm
  rw [fw_e_obj hkd] at h
  exact va_getN hexec hb hts hin hown hK hP q0 h hc k hk hlink hsame (by rw [fw_fs_ref sh 0 k hsh]) hdg kk
theorem fw_put_e {k ci : Nat} {x : Int32} {sh : List (Option (Nat × Nat))} (hkd : kd c i = .inr (ci, sh)) (hsh : sh[k]? = some none) : (.inr (ci, (fw_fs ad (v c i) 0 sh).set k (.int x)) : va_E) = fw_e cA kd ad (fw_up v c i k x) c i := by
  rw [fw_e_obj hkd, fw_up_self, fw_fs_set sh 0 k hsh, Nat.zero_add]
/-- an int field is written -/
theorem fw_puti (hexec : p.tables.exec = Jvm.exec) (hb : c0.code = cc) {own ref C : String} {T : u_T} {N ci index : Nat} {Ts : List Cond} (hts : ∀ w ∈ Ts, w.before args s = true) (hin : ∀ w ∈ u_ws C T N, w ∈ Ts) (ty0 : Nat → FieldType) (hty : ∀ k, k < N → parseFieldDescriptor (T k).2.2.1 = some (ty0 k)) (hnm : ∀ a, a < N → ∀ b, b < N → a ≠ b → (T a).2.1 ≠ (T b).2.1) (hown : s.vm.findClass own = some m.cls) (hK : va_K D cl tys s) (hD : fw_D CL ad) (hP : va_P D cl (fw_w CL cA kd ad v) H) (hS0 : va_S (fw_A CL ad) H0 H locs) (hm : (c, i) ∈ CL) {sh : List (Option (Nat × Nat))} (hkd : kd c i = .inr (ci, sh)) (hc : cl[ci]? = some (C, T, N)) (k : Nat) (hk : k < N) (hlink : (Cond.fieldLink own index ref (T k).2.1 (T k).2.2.1).before args s = true) (hsame : ∀ x, s.fieldFound? (T k).1 (T k).2.1 (T k).2.2.1 = some x → s.fieldFound? ref (T k).2.1 (T k).2.2.1 = some x) (hfin : (T k).2.2.2 = false) {ty : FieldType} {x : Int32} (hd : parseFieldDescriptor (T k).2.2.1 = some ty) (hn : narrow ty (.int x) = .int x) (hfit : fits ty (.int x) = true) (hsh : sh[k]? = some none)
    (hdg : decode cc pc = .ok (.putfield index, 3)) (kk : ∀ (u : fw_V) (H1 : Heap) (locs1 : List Loc), u = fw_up v c i k x → va_P D cl (fw_w CL cA kd ad u) H1 → va_S (fw_A CL ad) H0 H1 locs1 → W p l e R s m args below meth c0 H1 locs1 cells slots Q (F0 m (pc + 3) ls rest)) : W p l e R s m args below meth c0 H locs cells slots Q (F0 m pc ls (.int x :: .ref (ad c i) :: rest)) := by
  obtain ⟨q0, hq, h⟩ := fw_at (cA := cA) (kd := kd) (ad := ad) (v := v) hm
  rw [fw_e_obj hkd] at h
  refine va_put hexec hb hts hin ty0 hty hnm hown hK hP (fw_vaD hD) hS0 q0 h hc k hk hlink hsame hfin hd hn hfit (by rw [fw_fs_len]; exact (List.getElem?_eq_some_iff.mp hsh).1) hdg (fun H1 locs1 h1 _ h3 => kk _ H1 locs1 rfl ?_ h3)
  rw [fw_put_e (cA := cA) hkd hsh, fw_set hD hq fw_e_up] at h1
  exact h1
theorem fw_putiN (hexec : p.tables.exec = Jvm.exec) (hb : c0.code = cc) {own ref C host : String} {T : u_T} {N ci index : Nat} {Ts : List Cond} (hts : ∀ w ∈ Ts, w.before args s = true) (hin : ∀ w ∈ u_ws C T N, w ∈ Ts) (ty0 : Nat → FieldType) (hty : ∀ k, k < N → parseFieldDescriptor (T k).2.2.1 = some (ty0 k)) (hnm : ∀ a, a < N → ∀ b, b < N → a ≠ b → (T a).2.1 ≠ (T b).2.1) (hown : s.vm.findClass own = some m.cls) (hK : va_K D cl tys s) (hD : fw_D CL ad) (hP : va_P D cl (fw_w CL cA kd ad v) H) (hS0 : va_S (fw_A CL ad) H0 H locs) (hm : (c, i) ∈ CL) {sh : List (Option (Nat × Nat))} (hkd : kd c i = .inr (ci, sh)) (hc : cl[ci]? = some (C, T, N)) (k : Nat) (hk : k < N) (hlink : (Cond.fieldLinkNest own index ref (T k).2.1 (T k).2.2.1 host).before args s = true) (hsame : ∀ x, s.fieldFound? (T k).1 (T k).2.1 (T k).2.2.1 = some x → s.fieldFound? ref (T k).2.1 (T k).2.2.1 = some x) (hfin : (T k).2.2.2 = false) {ty : FieldType} {x : Int32} (hd : parseFieldDescriptor (T k).2.2.1 = some ty) (hn : narrow ty (.int x) = .int x) (hfit : fits ty (.int x) = true) (hsh : sh[k]? = some none)
    (hdg : decode cc pc = .ok (.putfield index, 3)) (kk : ∀ (u : fw_V) (H1 : Heap) (locs1 : List Loc), u = fw_up v c i k x → va_P D cl (fw_w CL cA kd ad u) H1 → va_S (fw_A CL ad) H0 H1 locs1 → W p l e R s m args below meth c0 H1 locs1 cells slots Q (F0 m (pc + 3) ls rest)) : W p l e R s m args below meth c0 H locs cells slots Q (F0 m pc ls (.int x :: .ref (ad c i) :: rest)) := by
  obtain ⟨q0, hq, h⟩ := fw_at (cA := cA) (kd := kd) (ad := ad) (v := v) hm
  rw [fw_e_obj hkd] at h
  refine va_putN hexec hb hts hin ty0 hty hnm hown hK hP (fw_vaD hD) hS0 q0 h hc k hk hlink hsame hfin hd hn hfit (by rw [fw_fs_len]; exact (List.getElem?_eq_some_iff.mp hsh).1) hdg (fun H1 locs1 h1 _ h3 => kk _ H1 locs1 rfl ?_ h3)
  rw [fw_put_e (cA := cA) hkd hsh, fw_set hD hq fw_e_up] at h1
  exact h1
/-- an array's element is read -/
theorem fw_iald (hexec : p.tables.exec = Jvm.exec) (hb : c0.code = cc) (hK : va_K D cl tys s) (hP : va_P D cl (fw_w CL cA kd ad v) H) (hm : (c, i) ∈ CL) {t n : Nat} (hkd : kd c i = .inl (t, n, none)) (t0 : Nat) (ht : tys[t0]? = some (cA t, .int)) {x : Int32} {j : Nat} (hj : x.toNatClampNeg = j) (hin : vp_in x n) (hdg : decode cc pc = .ok (.iaload, 1))
    (kk : W p l e R s m args below meth c0 H locs cells slots Q (F0 m (pc + 1) ls (.int (v c i j) :: rest))) : W p l e R s m args below meth c0 H locs cells slots Q (F0 m pc ls (.int x :: .ref (ad c i) :: rest)) := by
  obtain ⟨q0, -, h⟩ := fw_at (cA := cA) (kd := kd) (ad := ad) (v := v) hm
  rw [fw_e_arr hkd] at h
  subst hj
  exact va_iald hexec hb hK hP q0 t0 (f := v c i) h ht hin hdg kk
theorem fw_zald (hexec : p.tables.exec = Jvm.exec) (hb : c0.code = cc) (hK : va_K D cl tys s) (hP : va_P D cl (fw_w CL cA kd ad v) H) (hm : (c, i) ∈ CL) {t n : Nat} (hkd : kd c i = .inl (t, n, none)) (t0 : Nat) (ht : tys[t0]? = some (cA t, .boolean)) {x : Int32} {j : Nat} (hj : x.toNatClampNeg = j) (hin : vp_in x n) (hdg : decode cc pc = .ok (.baload, 1))
    (kk : W p l e R s m args below meth c0 H locs cells slots Q (F0 m (pc + 1) ls (.int (v c i j) :: rest))) : W p l e R s m args below meth c0 H locs cells slots Q (F0 m pc ls (.int x :: .ref (ad c i) :: rest)) := by
  obtain ⟨q0, -, h⟩ := fw_at (cA := cA) (kd := kd) (ad := ad) (v := v) hm
  rw [fw_e_arr hkd] at h
  subst hj
  exact va_zald hexec hb hK hP q0 t0 (f := v c i) h ht hin hdg kk
/-- a reference out of an array whose numbers stand in v -/
theorem fw_aldv (hexec : p.tables.exec = Jvm.exec) (hb : c0.code = cc) (hK : va_K D cl tys s) (hP : va_P D cl (fw_w CL cA kd ad v) H) (hm : (c, i) ∈ CL) {t n k : Nat} (hkd : kd c i = .inl (t, n, some (true, k))) (t0 : Nat) {C : String} (ht : tys[t0]? = some (cA t, .object C)) {x : Int32} {j : Nat} (hj : x.toNatClampNeg = j) (hin : vp_in x n) (hdg : decode cc pc = .ok (.aaload, 1))
    (kk : W p l e R s m args below meth c0 H locs cells slots Q (F0 m (pc + 1) ls (.ref (ad k (v c i j).toNatClampNeg) :: rest))) : W p l e R s m args below meth c0 H locs cells slots Q (F0 m pc ls (.int x :: .ref (ad c i) :: rest)) := by
  obtain ⟨q0, -, h⟩ := fw_at (cA := cA) (kd := kd) (ad := ad) (v := v) hm
  rw [fw_e_arr hkd] at h
  subst hj
  exact va_aldq hexec hb hK hP q0 t0 (f := fun j => some (ad k (v c i j).toNatClampNeg)) h ht hin hdg kk
/-- a reference out of an array that never changes -/
theorem fw_alds (hexec : p.tables.exec = Jvm.exec) (hb : c0.code = cc) (hK : va_K D cl tys s) (hP : va_P D cl (fw_w CL cA kd ad v) H) (hm : (c, i) ∈ CL) {t n k : Nat} (hkd : kd c i = .inl (t, n, some (false, k))) (t0 : Nat) {C : String} (ht : tys[t0]? = some (cA t, .object C)) {x : Int32} {j : Nat} (hj : x.toNatClampNeg = j) (hin : vp_in x n) (hdg : decode cc pc = .ok (.aaload, 1))
    (kk : W p l e R s m args below meth c0 H locs cells slots Q (F0 m (pc + 1) ls (.ref (ad k j) :: rest))) : W p l e R s m args below meth c0 H locs cells slots Q (F0 m pc ls (.int x :: .ref (ad c i) :: rest)) := by
  obtain ⟨q0, -, h⟩ := fw_at (cA := cA) (kd := kd) (ad := ad) (v := v) hm
  rw [fw_e_arr hkd] at h
  subst hj
  exact va_aldq hexec hb hK hP q0 t0 (f := fun j => some (ad k j)) h ht hin hdg kk
/-- an array's element is written -/
theorem fw_iast (hexec : p.tables.exec = Jvm.exec) (hb : c0.code = cc) (hK : va_K D cl tys s) (hD : fw_D CL ad) (hP : va_P D cl (fw_w CL cA kd ad v) H) (hS0 : va_S (fw_A CL ad) H0 H locs) (hm : (c, i) ∈ CL) {t n : Nat} (hkd : kd c i = .inl (t, n, none)) (t0 : Nat) (ht : tys[t0]? = some (cA t, .int)) {x y : Int32} {j : Nat} (hj : x.toNatClampNeg = j) (hin : vp_in x n) (hdg : decode cc pc = .ok (.iastore, 1))
    (kk : ∀ (u : fw_V) (H1 : Heap) (locs1 : List Loc), u = fw_up v c i j y → va_P D cl (fw_w CL cA kd ad u) H1 → va_S (fw_A CL ad) H0 H1 locs1 → W p l e R s m args below meth c0 H1 locs1 cells slots Q (F0 m (pc + 1) ls rest)) : W p l e R s m args below meth c0 H locs cells slots Q (F0 m pc ls (.int y :: .int x :: .ref (ad c i) :: rest)) := by
  subst hj
  obtain ⟨q0, hq, h⟩ := fw_at (cA := cA) (kd := kd) (ad := ad) (v := v) hm
  rw [fw_e_arr hkd] at h
  refine va_iast hexec hb hK hP (fw_vaD hD) hS0 q0 t0 (f := v c i) h ht hin hdg (fun H1 locs1 h1 _ h3 => kk _ H1 locs1 rfl ?_ h3)
  have e1 : (.inl (cA t, n, .inl (upd (v c i) x.toNatClampNeg y)) : va_E) = fw_e cA kd ad (fw_up v c i x.toNatClampNeg y) c i := by
    rw [fw_e_arr hkd, fw_up_self]; rfl
  have h2 : va_P D cl ((fw_w CL cA kd ad v).set q0 (ad c i, .inl (cA t, n, .inl (upd (v c i) x.toNatClampNeg y)))) H1 := h1
  rw [e1, fw_set hD hq fw_e_up] at h2
  exact h2
theorem fw_zast (hexec : p.tables.exec = Jvm.exec) (hb : c0.code = cc) (hK : va_K D cl tys s) (hD : fw_D CL ad) (hP : va_P D cl (fw_w CL cA kd ad v) H) (hS0 : va_S (fw_A CL ad) H0 H locs) (hm : (c, i) ∈ CL) {t n : Nat} (hkd : kd c i = .inl (t, n, none)) (t0 : Nat) (ht : tys[t0]? = some (cA t, .boolean)) {x y : Int32} {j : Nat} (hj : x.toNatClampNeg = j) (hin : vp_in x n) (hdg : decode cc pc = .ok (.bastore, 1))
    (kk : ∀ (u : fw_V) (H1 : Heap) (locs1 : List Loc), u = fw_up v c i j (vp_nar .boolean y) → va_P D cl (fw_w CL cA kd ad u) H1 → va_S (fw_A CL ad) H0 H1 locs1 → W p l e R s m args below meth c0 H1 locs1 cells slots Q (F0 m (pc + 1) ls rest)) : W p l e R s m args below meth c0 H locs cells slots Q (F0 m pc ls (.int y :: .int x :: .ref (ad c i) :: rest)) := by
  subst hj
  obtain ⟨q0, hq, h⟩ := fw_at (cA := cA) (kd := kd) (ad := ad) (v := v) hm
  rw [fw_e_arr hkd] at h
  refine va_zast hexec hb hK hP (fw_vaD hD) hS0 q0 t0 (f := v c i) h ht hin hdg (fun H1 locs1 h1 _ h3 => kk _ H1 locs1 rfl ?_ h3)
  have e1 : (.inl (cA t, n, .inl (upd (v c i) x.toNatClampNeg (vp_nar .boolean y))) : va_E) = fw_e cA kd ad (fw_up v c i x.toNatClampNeg (vp_nar .boolean y)) c i := by
    rw [fw_e_arr hkd, fw_up_self]; rfl
  have h2 : va_P D cl ((fw_w CL cA kd ad v).set q0 (ad c i, .inl (cA t, n, .inl (upd (v c i) x.toNatClampNeg (vp_nar .boolean y))))) H1 := h1
  rw [e1, fw_set hD hq fw_e_up] at h2
  exact h2
/-- a reference is written into an array whose numbers stand in v -/
theorem fw_astv (hexec : p.tables.exec = Jvm.exec) (hb : c0.code = cc) (hK : va_K D cl tys s) (hD : fw_D CL ad) (hP : va_P D cl (fw_w CL cA kd ad v) H) (hS0 : va_S (fw_A CL ad) H0 H locs) (hm : (c, i) ∈ CL) {t n k ci : Nat} (hkd : kd c i = .inl (t, n, some (true, k))) (t0 : Nat) {r : vw_C} (ht : tys[t0]? = some (cA t, .object r.1)) {j : Nat} (hm2 : (k, j) ∈ CL) {sh : List (Option (Nat × Nat))} (hkd2 : kd k j = .inr (ci, sh)) (hc : cl[ci]? = some r) {x y : Int32} (hy : y.toNatClampNeg = j) {jx : Nat} (hj : x.toNatClampNeg = jx) (hin : vp_in x n) (hdg : decode cc pc = .ok (.aastore, 1))
    (kk : ∀ (u : fw_V) (H1 : Heap) (locs1 : List Loc), u = fw_up v c i jx y → va_P D cl (fw_w CL cA kd ad u) H1 → va_S (fw_A CL ad) H0 H1 locs1 → W p l e R s m args below meth c0 H1 locs1 cells slots Q (F0 m (pc + 1) ls rest)) : W p l e R s m args below meth c0 H locs cells slots Q (F0 m pc ls (.ref (ad k j) :: .int x :: .ref (ad c i) :: rest)) := by
  subst hj
  obtain ⟨q0, hq, h⟩ := fw_at (cA := cA) (kd := kd) (ad := ad) (v := v) hm
  obtain ⟨q1, -, h9⟩ := fw_at (cA := cA) (kd := kd) (ad := ad) (v := v) hm2
  rw [fw_e_arr hkd] at h
  rw [fw_e_obj hkd2] at h9
  refine va_astq hexec hb hK hP (fw_vaD hD) hS0 q0 t0 q1 ci (f := fun z => some (ad k (v c i z).toNatClampNeg)) h ht h9 hc hin hdg (fun H1 locs1 h1 _ h3 => kk _ H1 locs1 rfl ?_ h3)
  have e1 : (.inl (cA t, n, .inr (.inr (.inr (.inr (va_up (fun z => some (ad k (v c i z).toNatClampNeg)) x.toNatClampNeg (some (ad k j))))))) : va_E) = fw_e cA kd ad (fw_up v c i x.toNatClampNeg y) c i := by
    rw [fw_e_arr hkd, fw_up_self]
    have e2 : va_up (fun z => some (ad k (v c i z).toNatClampNeg)) x.toNatClampNeg (some (ad k j)) = (fun z => some (ad k (upd (v c i) x.toNatClampNeg y z).toNatClampNeg)) := by
      funext z
      unfold va_up upd
      by_cases hz : z = x.toNatClampNeg
      · rw [if_pos hz, if_pos hz, hy]
      · rw [if_neg hz, if_neg hz]
    rw [e2]
    rfl
  have h2 : va_P D cl ((fw_w CL cA kd ad v).set q0 (ad c i, .inl (cA t, n, .inr (.inr (.inr (.inr (va_up (fun z => some (ad k (v c i z).toNatClampNeg)) x.toNatClampNeg (some (ad k j))))))))) H1 := h1
  rw [e1, fw_set hD hq fw_e_up] at h2
  exact h2
/-- System.arraycopy of ints between two cells of the world -/
theorem fw_copy (hexec : p.tables.exec = Jvm.exec) (hb : c0.code = cc) (hml : c0.maxLocals = ls.size) {own : String} {index : Nat} (hown : s.vm.findClass own = some m.cls) (hlink : (Cond.methodLink own index arraycopyName).before args s = true) (hnat : (Cond.native arraycopyName).before args s = true) (hstat : (Cond.static arraycopyName).before args s = true) (hini : (Cond.initialized "java/lang/System").before args s = true)
    (hK : va_K D cl tys s) (hD : fw_D CL ad) (hP : va_P D cl (fw_w CL cA kd ad v) H) (hS0 : va_S (fw_A CL ad) H0 H locs) {c1 i1 : Nat} (hm0 : (c1, i1) ∈ CL) (hm : (c, i) ∈ CL) {t t' n n' : Nat} (hkd0 : kd c1 i1 = .inl (t', n', none)) (hkd : kd c i = .inl (t, n, none)) (t0 t1 : Nat) (ht0 : tys[t0]? = some (cA t', .int)) (ht1 : tys[t1]? = some (cA t, .int))
    {sp dp z : Int32} (h1 : ¬ sp < 0) (h2 : ¬ dp < 0) (h3 : ¬ z < 0) (h4 : sp.toNatClampNeg + z.toNatClampNeg ≤ n') (h5 : dp.toNatClampNeg + z.toNatClampNeg ≤ n)
    (hframes : 1 ≤ R.frames) (hlocals : (rest.map fun v => v.category).sum + (nativeFrameWords "java/lang/System" "arraycopy" 5 + 11) ≤ R.locals) (hdg : decode cc pc = .ok (.invokestatic index, 3))
    (kk : ∀ (u : fw_V) (H1 : Heap) (locs1 : List Loc), u = fw_row v c i (va_cpy (v c1 i1) (v c i) sp.toNatClampNeg dp.toNatClampNeg z.toNatClampNeg) → va_P D cl (fw_w CL cA kd ad u) H1 → va_S (fw_A CL ad) H0 H1 locs1 → W p l e R s m args below meth c0 H1 locs1 cells slots Q (F0 m (pc + 3) ls rest)) : W p l e R s m args below meth c0 H locs cells slots Q (F0 m pc ls (.int z :: .int dp :: .ref (ad c i) :: .int sp :: .ref (ad c1 i1) :: rest)) := by
  obtain ⟨q0, hq, h⟩ := fw_at (cA := cA) (kd := kd) (ad := ad) (v := v) hm
  obtain ⟨q1, -, h9⟩ := fw_at (cA := cA) (kd := kd) (ad := ad) (v := v) hm0
  rw [fw_e_arr hkd] at h
  rw [fw_e_arr hkd0] at h9
  refine va_copyi hexec hb hml hown hlink hnat hstat hini hK hP (fw_vaD hD) hS0 q1 q0 t0 t1 (f := v c1 i1) (g := v c i) h9 h ht0 ht1 rfl h1 h2 h3 h4 h5 (fun _ _ => rfl) hframes hlocals hdg (fun H1 locs1 g1 _ g3 => kk _ H1 locs1 rfl ?_ g3)
  have e1 : (.inl (cA t, n, .inl (va_cpy (v c1 i1) (v c i) sp.toNatClampNeg dp.toNatClampNeg z.toNatClampNeg)) : va_E) = fw_e cA kd ad (fw_row v c i (va_cpy (v c1 i1) (v c i) sp.toNatClampNeg dp.toNatClampNeg z.toNatClampNeg)) c i := by
    rw [fw_e_arr hkd, fw_row_self]; rfl
  have g2 : va_P D cl ((fw_w CL cA kd ad v).set q0 (ad c i, .inl (cA t, n, .inl (va_cpy (v c1 i1) (v c i) sp.toNatClampNeg dp.toNatClampNeg z.toNatClampNeg)))) H1 := g1
  rw [e1, fw_set hD hq fw_e_row] at g2
  exact g2
end FLAT2


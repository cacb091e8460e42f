/-! contracts over flat worlds; NL: the links to nest mates, which are no words of a contract -/
def fw_isN : Cond → Bool
  | .fieldLinkNest .. => true
  | .methodLinkNest .. => true
  | _ => false
def fw_N (NL : List Cond) (U : State) : Prop := (∀ w ∈ NL, fw_isN w = true) ∧ ∀ w ∈ NL, va_Nw w U
theorem fw_N.warm {NL : List Cond} {s U : State} (h : fw_N NL s) (hW : s.WarmedH U.vm) : fw_N NL U := ⟨h.1, fun w hw => by
  have h1 := h.1 w hw
  have h2 := h.2 w hw
  cases w <;> first | exact va_Nw.warmF hW h2 | exact va_Nw.warmM hW h2 | (simp [fw_isN] at h1; done)⟩
theorem fw_N.same {NL : List Cond} {u U : State} (hv : u.vm = U.vm) (h : fw_N NL u) : fw_N NL U := ⟨h.1, fun w hw => by
  have h1 := h.1 w hw
  have h2 := h.2 w hw
  cases w <;> first | exact va_Nw.same rfl hv h2 | (simp [fw_isN] at h1; done)⟩
theorem fw_N.use {NL : List Cond} {s : State} {args : Array Value} (h : fw_N NL s) {w : Cond} (hw : w ∈ NL) : w.before args s = true := by
  have h1 := h.1 w hw
  have h2 := h.2 w hw
  cases w <;> first | exact va_Nw.use rfl h2 | (simp [fw_isN] at h1; done)
abbrev fw_Pc (NL : List Cond) (D : va_G) (cl : List vw_C) (tys : List (ClassId × FieldType)) (CL : List (Nat × Nat)) (cA : Nat → ClassId) (kd : fw_K) (ad : Nat → Nat → Nat) (v : fw_V) (av : List Value) : Array Value → State → Prop := va_Pc av (fun U => va_P D cl (fw_w CL cA kd ad v) U.heap ∧ va_K D cl tys U ∧ fw_N NL U)
abbrev fw_Qv (D : va_G) (cl : List vw_C) (CL : List (Nat × Nat)) (cA : Nat → ClassId) (kd : fw_K) (ad : Nat → Nat → Nat) (I : fw_V → Prop) (f : fw_V) : Array Value → State → Outcome → State → Prop := va_Qv (fun u : fw_V => u = f ∧ I u) (fun u t => va_P D cl (fw_w CL cA kd ad u) t.heap) (fw_A CL ad)
abbrev fw_Qi (D : va_G) (cl : List vw_C) (CL : List (Nat × Nat)) (cA : Nat → ClassId) (kd : fw_K) (ad : Nat → Nat → Nat) (I : fw_V → Prop) (f : Int32 × fw_V) : Array Value → State → Outcome → State → Prop := va_Qi (fun (r : Int32) (u : fw_V) => (r, u) = f ∧ I u) (fun u t => va_P D cl (fw_w CL cA kd ad u) t.heap) (fw_A CL ad)
abbrev fw_Qz (D : va_G) (cl : List vw_C) (CL : List (Nat × Nat)) (cA : Nat → ClassId) (kd : fw_K) (ad : Nat → Nat → Nat) (I : fw_V → Prop) (f : Int32 × fw_V) : Array Value → State → Outcome → State → Prop := va_Qi (fun (r : Int32) (u : fw_V) => (r, u) = f ∧ I u ∧ (r = 0 ∨ r = 1)) (fun u t => va_P D cl (fw_w CL cA kd ad u) t.heap) (fw_A CL ad)
/-- an answer, and nothing changes -/
abbrev fw_Qo (D : va_G) (cl : List vw_C) (CL : List (Nat × Nat)) (cA : Nat → ClassId) (kd : fw_K) (ad : Nat → Nat → Nat) (v : fw_V) (f : Int32) : Array Value → State → Outcome → State → Prop := va_Qi (fun (r : Int32) (u : fw_V) => r = f ∧ u = v) (fun u t => va_P D cl (fw_w CL cA kd ad u) t.heap) (fw_A CL ad)
abbrev fw_Qb (D : va_G) (cl : List vw_C) (CL : List (Nat × Nat)) (cA : Nat → ClassId) (kd : fw_K) (ad : Nat → Nat → Nat) (v : fw_V) (f : Int32) : Array Value → State → Outcome → State → Prop := va_Qi (fun (r : Int32) (u : fw_V) => (r = f ∧ u = v) ∧ (r = 0 ∨ r = 1)) (fun u t => va_P D cl (fw_w CL cA kd ad u) t.heap) (fw_A CL ad)
/-- a cell of kind kc is the answer -/
abbrev fw_Qr (D : va_G) (cl : List vw_C) (CL : List (Nat × Nat)) (cA : Nat → ClassId) (kd : fw_K) (ad : Nat → Nat → Nat) (I : fw_V → Prop) (kc n : Nat) (f : Nat × fw_V) : Array Value → State → Outcome → State → Prop := va_Qr (fun (u : Nat × fw_V) => u = f ∧ u.1 < n ∧ I u.2) (fun u a t => a = ad kc u.1 ∧ va_P D cl (fw_w CL cA kd ad u.2) t.heap) (fw_A CL ad)
section FLAT3
variable {p : Program} {l : Launch} {e : Env} {R : Room} {s : State} {m : MethodId} {args : Array Value} {below : List Frame} {meth : Method} {c0 : Code} {H : Heap} {locs : List Loc} {cells slots : Nat} {Q : State → Prop}
variable {cc : ByteArray} {pc : Nat} {ls : Array Slot} {rest st0 : List Value} {D : va_G} {cl : List vw_C} {tys : List (ClassId × FieldType)} {H0 : Heap} {a : Array Value}
variable {CL : List (Nat × Nat)} {cA : Nat → ClassId} {kd : fw_K} {ad : Nat → Nat → Nat} {v : fw_V} {c i : Nat} {I : fw_V → Prop} {NL : List Cond}
theorem fw_blind {av : List Value} : FrameBlind (fw_Pc NL D cl tys CL cA kd ad v av) := fun a U g mk q => by
  obtain ⟨q0, qP, qK, qN⟩ := q
  exact ⟨q0, qP, va_K.moved (u := U) (U := U.calling g mk a) (Vm.Alike.refl U.vm) qK, fw_N.same (u := U) (U := U.calling g mk a) rfl qN⟩
theorem fw_preV {C : String} {T : u_T} {N ci : Nat} {As : List Value} (hN : fw_N NL s) (hK : va_K D cl tys s) (hP : va_P D cl (fw_w CL cA kd ad v) H) (hm : (c, i) ∈ CL) {sh : List (Option (Nat × Nat))} (hkd : kd c i = .inr (ci, sh)) (hc : cl[ci]? = some (C, T, N)) : PreV s H C (ad c i) (fw_Pc NL D cl tys CL cA kd ad v (.ref (ad c i) :: As)) As := by
  obtain ⟨q0, -, h⟩ := fw_at (cA := cA) (kd := kd) (ad := ad) (v := v) hm
  rw [fw_e_obj hkd] at h
  exact ⟨fw_blind, va_recv hK hP hc h, fun U hU hW => ⟨rfl, by rw [hU]; exact hP, va_K.moved hW.alike hK, hN.warm hW⟩⟩
theorem fw_preS {As : List Value} (hN : fw_N NL s) (hK : va_K D cl tys s) (hP : va_P D cl (fw_w CL cA kd ad v) H) : PreS s H (fw_Pc NL D cl tys CL cA kd ad v As) As :=
  ⟨fw_blind, fun U hU hW => ⟨rfl, by rw [hU]; exact hP, va_K.moved hW.alike hK, hN.warm hW⟩⟩
theorem fw_cv {f : fw_V} (hr : va_Run p l e R s m args below meth c0 H locs cells slots 0 0 (F0 m pc ls st0) rest (fw_Qv D cl CL cA kd ad I f a) (fw_A CL ad)) (hS : va_S (fw_A CL ad) H0 H locs)
    (kk : ∀ (u : fw_V) (H1 : Heap) (locs1 : List Loc), u = f → I u → va_P D cl (fw_w CL cA kd ad u) H1 → va_S (fw_A CL ad) H0 H1 locs1 → W p l e R s m args below meth c0 H1 locs1 cells slots Q (F0 m (pc + 3) ls rest)) : W p l e R s m args below meth c0 H locs cells slots Q (F0 m pc ls st0) :=
  va_callv hr hS (fun _ _ h => h) (fun _ h => h) (fun u t H1 locs1 ht _ hw hB _ _ hS1 => kk u H1 locs1 hw.1 hw.2 (by rw [← ht]; exact hB) hS1)
theorem fw_ci {f : Int32 × fw_V} (hr : va_Run p l e R s m args below meth c0 H locs cells slots 0 0 (F0 m pc ls st0) rest (fw_Qi D cl CL cA kd ad I f a) (fw_A CL ad)) (hS : va_S (fw_A CL ad) H0 H locs)
    (kk : ∀ (r : Int32) (u : fw_V) (H1 : Heap) (locs1 : List Loc), r = f.1 → u = f.2 → I u → va_P D cl (fw_w CL cA kd ad u) H1 → va_S (fw_A CL ad) H0 H1 locs1 → W p l e R s m args below meth c0 H1 locs1 cells slots Q (F0 m (pc + 3) ls (.int r :: rest))) : W p l e R s m args below meth c0 H locs cells slots Q (F0 m pc ls st0) :=
  va_calli hr hS (fun _ _ h => h) (fun _ h => h) (fun r u t H1 locs1 ht _ hw hB _ _ hS1 => kk r u H1 locs1 (congrArg Prod.fst hw.1) (congrArg Prod.snd hw.1) hw.2 (by rw [← ht]; exact hB) hS1)
theorem fw_cz {f : Int32 × fw_V} (hr : va_Run p l e R s m args below meth c0 H locs cells slots 0 0 (F0 m pc ls st0) rest (fw_Qz D cl CL cA kd ad I f a) (fw_A CL ad)) (hS : va_S (fw_A CL ad) H0 H locs)
    (kk : ∀ (r : Int32) (u : fw_V) (H1 : Heap) (locs1 : List Loc), (r = 0 ∨ r = 1) → r = f.1 → u = f.2 → I u → va_P D cl (fw_w CL cA kd ad u) H1 → va_S (fw_A CL ad) H0 H1 locs1 → W p l e R s m args below meth c0 H1 locs1 cells slots Q (F0 m (pc + 3) ls (.int r :: rest))) : W p l e R s m args below meth c0 H locs cells slots Q (F0 m pc ls st0) :=
  va_calli hr hS (fun _ _ h => h) (fun _ h => h) (fun r u t H1 locs1 ht _ hw hB _ _ hS1 => kk r u H1 locs1 hw.2.2 (congrArg Prod.fst hw.1) (congrArg Prod.snd hw.1) hw.2.1 (by rw [← ht]; exact hB) hS1)
theorem fw_co {f : Int32} (hr : va_Run p l e R s m args below meth c0 H locs cells slots 0 0 (F0 m pc ls st0) rest (fw_Qo D cl CL cA kd ad v f a) (fw_A CL ad)) (hS : va_S (fw_A CL ad) H0 H locs)
    (kk : ∀ (r : Int32) (H1 : Heap) (locs1 : List Loc), r = f → va_P D cl (fw_w CL cA kd ad v) H1 → va_S (fw_A CL ad) H0 H1 locs1 → W p l e R s m args below meth c0 H1 locs1 cells slots Q (F0 m (pc + 3) ls (.int r :: rest))) : W p l e R s m args below meth c0 H locs cells slots Q (F0 m pc ls st0) :=
  va_calli hr hS (fun _ _ h => h) (fun _ h => h) (fun r u t H1 locs1 ht _ hw hB _ _ hS1 => kk r H1 locs1 hw.1 (by rw [← ht, ← hw.2]; exact hB) hS1)
theorem fw_cb {f : Int32} (hr : va_Run p l e R s m args below meth c0 H locs cells slots 0 0 (F0 m pc ls st0) rest (fw_Qb D cl CL cA kd ad v f a) (fw_A CL ad)) (hS : va_S (fw_A CL ad) H0 H locs)
    (kk : ∀ (r : Int32) (H1 : Heap) (locs1 : List Loc), (r = 0 ∨ r = 1) → r = f → va_P D cl (fw_w CL cA kd ad v) H1 → va_S (fw_A CL ad) H0 H1 locs1 → W p l e R s m args below meth c0 H1 locs1 cells slots Q (F0 m (pc + 3) ls (.int r :: rest))) : W p l e R s m args below meth c0 H locs cells slots Q (F0 m pc ls st0) :=
  va_calli hr hS (fun _ _ h => h) (fun _ h => h) (fun r u t H1 locs1 ht _ hw hB _ _ hS1 => kk r H1 locs1 hw.2 hw.1.1 (by rw [← ht, ← hw.1.2]; exact hB) hS1)
theorem fw_cr {kc n : Nat} {f : Nat × fw_V} (hr : va_Run p l e R s m args below meth c0 H locs cells slots 0 0 (F0 m pc ls st0) rest (fw_Qr D cl CL cA kd ad I kc n f a) (fw_A CL ad)) (hS : va_S (fw_A CL ad) H0 H locs)
    (kk : ∀ (k : Nat) (u : fw_V) (H1 : Heap) (locs1 : List Loc), k < n → k = f.1 → u = f.2 → I u → va_P D cl (fw_w CL cA kd ad u) H1 → va_S (fw_A CL ad) H0 H1 locs1 → W p l e R s m args below meth c0 H1 locs1 cells slots Q (F0 m (pc + 3) ls (.ref (ad kc k) :: rest))) : W p l e R s m args below meth c0 H locs cells slots Q (F0 m pc ls st0) :=
  va_callr hr hS (fun _ _ h => h) (fun _ h => h) (fun u ra t H1 locs1 ht _ hw hB _ _ hS1 => by
    rw [hB.1]
    exact kk u.1 u.2 H1 locs1 hw.2.1 (congrArg Prod.fst hw.1) (congrArg Prod.snd hw.1) hw.2.2 (by rw [← ht]; exact hB.2) hS1)
theorem fw_hp {ws : va_W} {t : State} (ht : t.heap = H) (hP : va_P D cl ws H) : va_P D cl ws t.heap := by rw [ht]; exact hP
theorem fw_01 {r : Int32} (h : r = 0 ∨ r = 1) : narrow .boolean (.int r) = .int r := by
  rcases h with rfl | rfl <;> rfl
theorem fw_vret {f u : fw_V} (hexec : p.tables.exec = Jvm.exec) (hb : c0.code = cc) (hr : meth.sig.returnType = none) (hlocks : meth.locks = false) (hS : va_S (fw_A CL ad) s.heap H locs) (hP : va_P D cl (fw_w CL cA kd ad u) H) (hI : I u) (hdg : decode cc pc = .ok (.return_, 1)) (hf : u = f) : W p l e R s m args below meth c0 H locs cells slots (MQ below (fw_Qv D cl CL cA kd ad I f) args s cells slots (fw_A CL ad)) (F0 m pc ls []) :=
  W.vret hexec hb hr (fun t ht hW => ⟨⟨u, rfl, ⟨hf, hI⟩, fw_hp ht hP⟩, hS.F ht⟩) hS.2.2 hdg hlocks
theorem fw_iret {f : Int32 × fw_V} {u : fw_V} {r : Int32} (hexec : p.tables.exec = Jvm.exec) (hb : c0.code = cc) (hr : meth.sig.returnType = some .int) (hlocks : meth.locks = false) (hS : va_S (fw_A CL ad) s.heap H locs) (hP : va_P D cl (fw_w CL cA kd ad u) H) (hI : I u) (hdg : decode cc pc = .ok (.ireturn, 1)) (hf : (r, u) = f) : W p l e R s m args below meth c0 H locs cells slots (MQ below (fw_Qi D cl CL cA kd ad I f) args s cells slots (fw_A CL ad)) (F0 m pc ls [.int r]) :=
  W.iret hexec hb hr (fun t ht hW => ⟨⟨r, u, rfl, ⟨hf, hI⟩, fw_hp ht hP⟩, hS.F ht⟩) hS.2.2 hdg hlocks
theorem fw_oret {f r : Int32} (hexec : p.tables.exec = Jvm.exec) (hb : c0.code = cc) (hr : meth.sig.returnType = some .int) (hlocks : meth.locks = false) (hS : va_S (fw_A CL ad) s.heap H locs) (hP : va_P D cl (fw_w CL cA kd ad v) H) (hdg : decode cc pc = .ok (.ireturn, 1)) (hf : r = f) : W p l e R s m args below meth c0 H locs cells slots (MQ below (fw_Qo D cl CL cA kd ad v f) args s cells slots (fw_A CL ad)) (F0 m pc ls [.int r]) :=
  W.iret hexec hb hr (fun t ht hW => ⟨⟨r, v, rfl, ⟨hf, rfl⟩, fw_hp ht hP⟩, hS.F ht⟩) hS.2.2 hdg hlocks
theorem fw_zret {f : Int32 × fw_V} {u : fw_V} {r : Int32} (hexec : p.tables.exec = Jvm.exec) (hb : c0.code = cc) (hr : meth.sig.returnType = some .boolean) (hlocks : meth.locks = false) (hS : va_S (fw_A CL ad) s.heap H locs) (hP : va_P D cl (fw_w CL cA kd ad u) H) (hI : I u) (hdg : decode cc pc = .ok (.ireturn, 1)) (h01 : r = 0 ∨ r = 1) (hf : (r, u) = f) : W p l e R s m args below meth c0 H locs cells slots (MQ below (fw_Qz D cl CL cA kd ad I f) args s cells slots (fw_A CL ad)) (F0 m pc ls [.int r]) :=
  W.zret hexec hb hr (fw_01 h01) (fun t ht hW => ⟨⟨r, u, rfl, ⟨hf, hI, h01⟩, fw_hp ht hP⟩, hS.F ht⟩) hS.2.2 hdg hlocks
theorem fw_bret {f r : Int32} (hexec : p.tables.exec = Jvm.exec) (hb : c0.code = cc) (hr : meth.sig.returnType = some .boolean) (hlocks : meth.locks = false) (hS : va_S (fw_A CL ad) s.heap H locs) (hP : va_P D cl (fw_w CL cA kd ad v) H) (hdg : decode cc pc = .ok (.ireturn, 1)) (h01 : r = 0 ∨ r = 1) (hf : r = f) : W p l e R s m args below meth c0 H locs cells slots (MQ below (fw_Qb D cl CL cA kd ad v f) args s cells slots (fw_A CL ad)) (F0 m pc ls [.int r]) :=
  W.zret hexec hb hr (fw_01 h01) (fun t ht hW => ⟨⟨r, v, rfl, ⟨⟨hf, rfl⟩, h01⟩, fw_hp ht hP⟩, hS.F ht⟩) hS.2.2 hdg hlocks
theorem fw_rret {kc n : Nat} {f : Nat × fw_V} {u : fw_V} {k : Nat} {nm : String} (hexec : p.tables.exec = Jvm.exec) (hb : c0.code = cc) (hr : meth.sig.returnType = some (.object nm)) (hlocks : meth.locks = false) (hS : va_S (fw_A CL ad) s.heap H locs) (hP : va_P D cl (fw_w CL cA kd ad u) H) (hI : I u) (hdg : decode cc pc = .ok (.areturn, 1)) (hk : k < n) (hf : (k, u) = f) : W p l e R s m args below meth c0 H locs cells slots (MQ below (fw_Qr D cl CL cA kd ad I kc n f) args s cells slots (fw_A CL ad)) (F0 m pc ls [.ref (ad kc k)]) :=
  W.aret hexec hb hr (Or.inl ⟨nm, rfl⟩) (Or.inr ⟨_, rfl⟩) (fun t ht hW => ⟨⟨(k, u), ad kc k, rfl, ⟨hf, hk, hI⟩, rfl, fw_hp ht hP⟩, hS.F ht⟩) hS.2.2 hdg hlocks
end FLAT3
/-! one table of words for all methods -/
def fw_good (TB : List Cond) : Prop := ∀ w ∈ TB, (w.onTables && w.keeps) = true ∨ ∃ ty, w = .arrayClass ty
theorem fw_gI {TB : List Cond} (hT : fw_good TB) {y : MethodName} {b : ByteArray} {n : Nat} {ret : Option FieldType} (hc : Cond.code y b n ret ∈ TB) : GoodIn TB (Cond.code y b n ret :: TB) := fun w hw => by
  rcases List.mem_cons.mp hw with h | h
  · rw [h]; exact ⟨hc, hT _ hc⟩
  · exact ⟨h, hT w h⟩
theorem fw_gV {TB : List Cond} (hT : fw_good TB) {own C : String} {idx : Nat} {y : MethodName} {b : ByteArray} {n : Nat} {ret : Option FieldType} (hc : Cond.code y b n ret ∈ TB) (h1 : Cond.methodLink own idx y ∈ TB) (h2 : Cond.instanceMethod y ∈ TB) (h3 : Cond.selects C y y ∈ TB) (h4 : Cond.initialized C ∈ TB) : GoodIn TB (wsV own idx C y (Cond.code y b n ret :: TB)) := fun w hw => by
  unfold wsV at hw
  rcases List.mem_append.mp hw with h | h
  · have hm : w ∈ TB := by
      simp only [List.mem_cons, List.not_mem_nil, or_false] at h
      rcases h with rfl | rfl | rfl | rfl <;> assumption
    exact ⟨hm, hT w hm⟩
  · exact fw_gI hT hc w h
theorem fw_gS {TB : List Cond} (hT : fw_good TB) {own : String} {idx : Nat} {y : MethodName} {b : ByteArray} {n : Nat} {ret : Option FieldType} (hc : Cond.code y b n ret ∈ TB) (h1 : Cond.methodLink own idx y ∈ TB) (h2 : Cond.static y ∈ TB) (h3 : Cond.initialized own ∈ TB) : GoodIn TB (wsS own idx y (Cond.code y b n ret :: TB)) := fun w hw => by
  unfold wsS at hw
  rcases List.mem_append.mp hw with h | h
  · have hm : w ∈ TB := by
      simp only [List.mem_cons, List.not_mem_nil, or_false] at h
      rcases h with rfl | rfl | rfl <;> assumption
    exact ⟨hm, hT w hm⟩
  · exact fw_gI hT hc w h
theorem fw_gS2 {TB : List Cond} (hT : fw_good TB) {own : String} {idx : Nat} {y : MethodName} {b : ByteArray} {n : Nat} {ret : Option FieldType} {C : String} (hc : Cond.code y b n ret ∈ TB) (h1 : Cond.methodLink own idx y ∈ TB) (h2 : Cond.static y ∈ TB) (h3 : Cond.initialized C ∈ TB) (hC : y.cls = C := by rfl) : GoodIn TB (va_wsS own idx y (Cond.code y b n ret :: TB)) := fun w hw => by
  subst hC
  unfold va_wsS at hw
  rcases List.mem_append.mp hw with h | h
  · have hm : w ∈ TB := by
      simp only [List.mem_cons, List.not_mem_nil, or_false] at h
      rcases h with rfl | rfl | rfl <;> assumption
    exact ⟨hm, hT w hm⟩
  · exact fw_gI hT hc w h


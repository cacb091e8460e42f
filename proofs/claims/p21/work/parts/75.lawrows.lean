/-! two flat worlds side by side: a call in one leaves the other as it is -/
section FLATL
variable {p : Program} {l : Launch} {e : Env} {R : Room} {s : State} {m : MethodId} {args : Array Value} {below : List Frame} {meth : Method} {c0 : Code} {H : Heap} {locs : List Loc} {cells slots : Nat} {Q : State → Prop}
variable {cc : ByteArray} {pc : Nat} {ls : Array Slot} {rest st0 : List Value} {D : va_G} {cl : List vw_C} {tys : List (ClassId × FieldType)} {H0 : Heap} {a : Array Value} {A : Nat → Prop}
variable {CL CL2 : List (Nat × Nat)} {cA : Nat → ClassId} {kd kd2 : fw_K} {ad ad2 : Nat → Nat → Nat} {v w : fw_V} {I : fw_V → Prop}
theorem fw_other {H1 : Heap} (hP2 : va_P D cl (fw_w CL2 cA kd2 ad2 w) H) (hdis : ∀ x ∈ CL, ∀ y ∈ CL2, ad x.1 x.2 ≠ ad2 y.1 y.2) (hk : ∀ q : Nat, q < H.size → ¬ fw_A CL ad q → H1[q]? = H[q]?) : va_P D cl (fw_w CL2 cA kd2 ad2 w) H1 := by
  refine hP2.kept (fun k q hq => ?_)
  obtain ⟨y, hy, ey⟩ := fw_key hq
  refine hk q.1 ((hP2 k q hq).lt) (fun h => ?_)
  obtain ⟨x, hx, ex⟩ := h
  rw [ey] at ex
  exact hdis x hx y (List.mem_of_getElem? hy) ex
theorem fw_lci {f : Int32 × fw_V} (hr : va_Run p l e R s m args below meth c0 H locs cells slots 0 0 (F0 m pc ls st0) rest (fw_Qi D cl CL cA kd ad I f a) (fw_A CL ad)) (hS : va_S A H0 H locs) (hA : ∀ x ∈ CL, A (ad x.1 x.2)) (hP2 : va_P D cl (fw_w CL2 cA kd2 ad2 w) H) (hdis : ∀ x ∈ CL, ∀ y ∈ CL2, ad x.1 x.2 ≠ ad2 y.1 y.2)
    (kk : ∀ (r : Int32) (u : fw_V) (H1 : Heap) (locs1 : List Loc), r = f.1 → u = f.2 → I u → va_P D cl (fw_w CL cA kd ad u) H1 → va_P D cl (fw_w CL2 cA kd2 ad2 w) H1 → va_S A H0 H1 locs1 → W p l e R s m args below meth c0 H1 locs1 cells slots Q (F0 m (pc + 3) ls (.int r :: rest))) : W p l e R s m args below meth c0 H locs cells slots Q (F0 m pc ls st0) :=
  va_calli hr hS (fun _ _ h => by obtain ⟨x, hx, ex⟩ := h; rw [← ex]; exact hA x hx) (fun _ h => by obtain ⟨x, hx, ex⟩ := h; rw [← ex]; exact hA x hx) (fun r u t H1 locs1 ht _ hw hB _ hk hS1 => kk r u H1 locs1 (congrArg Prod.fst hw.1) (congrArg Prod.snd hw.1) hw.2 (by rw [← ht]; exact hB) (fw_other hP2 hdis hk) hS1)
theorem fw_lcz {f : Int32 × fw_V} (hr : va_Run p l e R s m args below meth c0 H locs cells slots 0 0 (F0 m pc ls st0) rest (fw_Qz D cl CL cA kd ad I f a) (fw_A CL ad)) (hS : va_S A H0 H locs) (hA : ∀ x ∈ CL, A (ad x.1 x.2)) (hP2 : va_P D cl (fw_w CL2 cA kd2 ad2 w) H) (hdis : ∀ x ∈ CL, ∀ y ∈ CL2, ad x.1 x.2 ≠ ad2 y.1 y.2)
    (kk : ∀ (r : Int32) (u : fw_V) (H1 : Heap) (locs1 : List Loc), r = f.1 → u = f.2 → I u → va_P D cl (fw_w CL cA kd ad u) H1 → va_P D cl (fw_w CL2 cA kd2 ad2 w) H1 → va_S A H0 H1 locs1 → W p l e R s m args below meth c0 H1 locs1 cells slots Q (F0 m (pc + 3) ls (.int r :: rest))) : W p l e R s m args below meth c0 H locs cells slots Q (F0 m pc ls st0) :=
  va_calli hr hS (fun _ _ h => by obtain ⟨x, hx, ex⟩ := h; rw [← ex]; exact hA x hx) (fun _ h => by obtain ⟨x, hx, ex⟩ := h; rw [← ex]; exact hA x hx) (fun r u t H1 locs1 ht _ hw hB _ hk hS1 => kk r u H1 locs1 (congrArg Prod.fst hw.1) (congrArg Prod.snd hw.1) hw.2.1 (by rw [← ht]; exact hB) (fw_other hP2 hdis hk) hS1)
theorem fw_lco {f : Int32} (hr : va_Run p l e R s m args below meth c0 H locs cells slots 0 0 (F0 m pc ls st0) rest (fw_Qo D cl CL cA kd ad v f a) (fw_A CL ad)) (hS : va_S A H0 H locs) (hA : ∀ x ∈ CL, A (ad x.1 x.2)) (hP2 : va_P D cl (fw_w CL2 cA kd2 ad2 w) H) (hdis : ∀ x ∈ CL, ∀ y ∈ CL2, ad x.1 x.2 ≠ ad2 y.1 y.2)
    (kk : ∀ (r : Int32) (H1 : Heap) (locs1 : List Loc), r = f → va_P D cl (fw_w CL cA kd ad v) H1 → va_P D cl (fw_w CL2 cA kd2 ad2 w) H1 → va_S A H0 H1 locs1 → W p l e R s m args below meth c0 H1 locs1 cells slots Q (F0 m (pc + 3) ls (.int r :: rest))) : W p l e R s m args below meth c0 H locs cells slots Q (F0 m pc ls st0) :=
  va_calli hr hS (fun _ _ h => by obtain ⟨x, hx, ex⟩ := h; rw [← ex]; exact hA x hx) (fun _ h => by obtain ⟨x, hx, ex⟩ := h; rw [← ex]; exact hA x hx) (fun r u t H1 locs1 ht _ hw hB _ hk hS1 => kk r H1 locs1 hw.1 (by rw [← ht, ← hw.2]; exact hB) (fw_other hP2 hdis hk) hS1)
theorem fw_lcb {f : Int32} (hr : va_Run p l e R s m args below meth c0 H locs cells slots 0 0 (F0 m pc ls st0) rest (fw_Qb D cl CL cA kd ad v f a) (fw_A CL ad)) (hS : va_S A H0 H locs) (hA : ∀ x ∈ CL, A (ad x.1 x.2)) (hP2 : va_P D cl (fw_w CL2 cA kd2 ad2 w) H) (hdis : ∀ x ∈ CL, ∀ y ∈ CL2, ad x.1 x.2 ≠ ad2 y.1 y.2)
    (kk : ∀ (r : Int32) (H1 : Heap) (locs1 : List Loc), r = f → va_P D cl (fw_w CL cA kd ad v) H1 → va_P D cl (fw_w CL2 cA kd2 ad2 w) H1 → va_S A H0 H1 locs1 → W p l e R s m args below meth c0 H1 locs1 cells slots Q (F0 m (pc + 3) ls (.int r :: rest))) : W p l e R s m args below meth c0 H locs cells slots Q (F0 m pc ls st0) :=
  va_calli hr hS (fun _ _ h => by obtain ⟨x, hx, ex⟩ := h; rw [← ex]; exact hA x hx) (fun _ h => by obtain ⟨x, hx, ex⟩ := h; rw [← ex]; exact hA x hx) (fun r u t H1 locs1 ht _ hw hB _ hk hS1 => kk r H1 locs1 hw.1.1 (by rw [← ht, ← hw.1.2]; exact hB) (fw_other hP2 hdis hk) hS1)
end FLATL
/-- the classes of the arrays, out of the tables -/
theorem vK_arr {D : va_G} {cl : List vw_C} {s : State} {args : Array Value} (hK : va_K D cl [] s) (h0 : (Cond.arrayClass .int).before args s = true) (h1 : (Cond.arrayClass .boolean).before args s = true) (h2 : (Cond.arrayOver (.object R_Fm)).before args s = true) (h3 : (Cond.arrayOver (.object R_Re)).before args s = true) (h4 : (Cond.arrayOver (.object R_De)).before args s = true) : ∃ cA : Nat → ClassId, va_K D cl (vtys cA) s := by
  have prim : ∀ ty : FieldType, (∀ C, ty ≠ .object C) → (Cond.arrayClass ty).before args s = true → ∃ c : ClassId, ArrOfT s c ty ∧ va_RA s c ty := by
    intro ty hty h
    obtain ⟨c, k, comp, q1, q2, q3⟩ := Cond.arrayClass_spec h
    refine ⟨c, fun n z => ⟨fun k h => (by cases h), k, q2, comp, q3⟩, ?_⟩
    cases ty <;> first | exact q1 | exact absurd rfl (hty _)
  have obj : ∀ C : String, (Cond.arrayOver (.object C)).before args s = true → ∃ c : ClassId, ArrOfT s c (.object C) ∧ va_RA s c (.object C) := by
    intro C h
    obtain ⟨comp, c, k, q1, q2, q3, q4, q5⟩ := Cond.arrayOver_spec h
    exact ⟨c, fun n z => ⟨fun k h => (by cases h), k, q3, comp, q4⟩, k, comp, q3, q4, q1, q5⟩
  obtain ⟨c0, p0⟩ := prim .int (fun _ h => by cases h) h0
  obtain ⟨c1, p1⟩ := prim .boolean (fun _ h => by cases h) h1
  obtain ⟨c2, p2⟩ := obj R_Fm h2
  obtain ⟨c3, p3⟩ := obj R_Re h3
  obtain ⟨c4, p4⟩ := obj R_De h4
  refine ⟨fun k => match k with | 0 => c0 | 1 => c1 | 2 => c2 | 3 => c3 | _ => c4, hK.1, fun k q hq => ?_⟩
  match k, hq with
  | 0, hq => cases hq; exact p0
  | 1, hq => cases hq; exact p1
  | 2, hq => cases hq; exact p2
  | 3, hq => cases hq; exact p3
  | 4, hq => cases hq; exact p4
  | k + 5, hq => simp [vtys] at hq


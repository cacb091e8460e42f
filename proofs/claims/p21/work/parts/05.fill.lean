/-! java.util.Arrays.fill(int[], int) over a flat world -/
section FLAT5
variable {p : Program} {l : Launch} {e : Env} {R : Room} {s : State} {m : MethodId} {args : Array Value} {below : List Frame} {meth : Method} {c0 : Code} {H : Heap} {locs : List Loc} {cells slots : Nat} {Q : State → Prop}
variable {cc : ByteArray} {pc : Nat} {ls : Array Slot} {rest : List Value} {D : va_G} {cl : List vw_C} {tys : List (ClassId × FieldType)} {H0 : Heap}
variable {CL : List (Nat × Nat)} {cA : Nat → ClassId} {kd : fw_K} {ad : Nat → Nat → Nat} {v : fw_V} {c i : Nat}
theorem fw_alen (hexec : p.tables.exec = Jvm.exec) (hb : c0.code = cc) (hK : va_K D cl tys s) (hP : va_P D cl (fw_w CL cA kd ad v) H) (hm : (c, i) ∈ CL) {t n : Nat} {o : Option (Bool × Nat)} (hkd : kd c i = .inl (t, n, o)) (t0 : Nat) {ty : FieldType} (ht : tys[t0]? = some (cA t, ty)) (hdg : decode cc pc = .ok (.arraylength, 1))
    (kk : W p l e R s m args below meth c0 H locs cells slots Q (F0 m (pc + 1) ls (.int (nI n) :: rest))) : W p l e R s m args below meth c0 H locs cells slots Q (F0 m pc ls (.ref (ad c i) :: rest)) := by
  obtain ⟨q0, -, h⟩ := fw_at (cA := cA) (kd := kd) (ad := ad) (v := v) hm
  rw [fw_e_arr hkd] at h
  exact va_alen hexec hb hK hP q0 t0 h ht rfl hdg kk
end FLAT5
def fw_pre (v : fw_V) (c i : Nat) (x : Int32) (n : Nat) : fw_V := fun c' i' k' => if c' = c ∧ i' = i ∧ k' < n then x else v c' i' k'
theorem fw_pre_0 {v : fw_V} {c i : Nat} {x : Int32} : fw_pre v c i x 0 = v := by
  funext c' i' k'
  exact if_neg (fun q => absurd q.2.2 (Nat.not_lt_zero _))
theorem fw_pre_s {v : fw_V} {c i n : Nat} {x : Int32} : fw_up (fw_pre v c i x n) c i n x = fw_pre v c i x (n + 1) := by
  funext c' i' k'
  unfold fw_up fw_pre
  by_cases h : c' = c ∧ i' = i
  · by_cases hk : k' = n
    · rw [if_pos ⟨h.1, h.2, hk⟩, if_pos ⟨h.1, h.2, by omega⟩]
    · rw [if_neg (fun q => hk q.2.2)]
      by_cases hl : k' < n
      · rw [if_pos ⟨h.1, h.2, hl⟩, if_pos ⟨h.1, h.2, by omega⟩]
      · rw [if_neg (fun q => hl q.2.2), if_neg (fun q => hl (by have := q.2.2; omega))]
  · rw [if_neg (fun q => h ⟨q.1, q.2.1⟩), if_neg (fun q => h ⟨q.1, q.2.1⟩), if_neg (fun q => h ⟨q.1, q.2.1⟩)]
theorem fw_arrV {cA : ClassId} {n : Nat} {f g : Nat → Value} (h : ∀ j, j < n → f j = g j) : arrV cA n f = arrV cA n g := by
  unfold arrV
  congr 1
  apply Array.ext
  · simp
  · intro j h1 h2
    simp at h1 ⊢
    exact h j h1
theorem fw_pre_n {D : va_G} {cl : List vw_C} {CL : List (Nat × Nat)} {cA : Nat → ClassId} {kd : fw_K} {ad : Nat → Nat → Nat} {v : fw_V} {c i t n : Nat} {x : Int32} {H : Heap} (hkd : kd c i = .inl (t, n, none)) (hP : va_P D cl (fw_w CL cA kd ad (fw_pre v c i x n)) H) : va_P D cl (fw_w CL cA kd ad (fw_row v c i (fun _ => x))) H := by
  intro k q hq
  obtain ⟨y, hy, ey⟩ := fw_key hq
  have h1 := hP k (ad y.1 y.2, fw_e cA kd ad (fw_pre v c i x n) y.1 y.2) (by unfold fw_w; rw [List.getElem?_map, hy]; rfl)
  subst ey
  by_cases h : y.1 = c ∧ y.2 = i
  · obtain ⟨y1, y2⟩ := y
    obtain ⟨rfl, rfl⟩ := h
    rw [fw_e_arr hkd] at h1 ⊢
    have h2 : H[ad y1 y2]? = some (arrV (cA t) n (fun j => .int (fw_pre v y1 y2 x n y1 y2 j))) := h1
    show H[ad y1 y2]? = some (arrV (cA t) n (fun j => .int (fw_row v y1 y2 (fun _ => x) y1 y2 j)))
    rw [h2]
    congr 1
    refine fw_arrV (fun j hj => ?_)
    rw [fw_row_s]
    show Value.int (if y1 = y1 ∧ y2 = y2 ∧ j < n then x else v y1 y2 j) = Value.int x
    rw [if_pos ⟨rfl, rfl, hj⟩]
  · have e1 : fw_e cA kd ad (fw_row v c i (fun _ => x)) y.1 y.2 = fw_e cA kd ad (fw_pre v c i x n) y.1 y.2 := by
      have e2 : fw_row v c i (fun _ => x) y.1 y.2 = fw_pre v c i x n y.1 y.2 := by
        funext j
        rw [fw_row_ne h]
        exact (if_neg (fun q => h ⟨q.1, q.2.1⟩)).symm
      unfold fw_e
      rw [e2]
    rw [e1]
    exact h1


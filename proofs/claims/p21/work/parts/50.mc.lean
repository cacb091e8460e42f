def mf_Mo_is (a1 : Int32) (a2 : Int32) (a3 : Int32) : Int32 :=
  if a1 < a2 then
    (0 : Int32)
  else
    if a3 < a1 then
      (0 : Int32)
    else
      (1 : Int32)

theorem mp_w {a lo hi : Int32} (c : ¬ mf_Mo_is a lo hi = 0) : lo.toInt ≤ a.toInt ∧ a.toInt ≤ hi.toInt := by
  unfold mf_Mo_is at c
  by_cases h1 : a < lo
  · rw [if_pos h1] at c; exact absurd rfl c
  · by_cases h2 : hi < a
    · rw [if_neg h1, if_pos h2] at c; exact absurd rfl c
    · rw [Int32.lt_iff_toInt_lt] at h1 h2; omega
theorem mp_rng {r a lo hi : Int32} (er : r = mf_Mo_is a lo hi) (c : ¬ r = 0) : lo.toInt ≤ a.toInt ∧ a.toInt ≤ hi.toInt := mp_w (by rw [← er]; exact c)
theorem mp_in {r a hi : Int32} {n : Nat} (er : r = mf_Mo_is a 0 hi) (c : ¬ r = 0) (hh : hi.toInt + 1 = (n : Int)) : vp_in a n := by
  have h := mp_rng er c
  have e0 : (0 : Int32).toInt = 0 := by decide
  rw [vp_in_iff]; omega
theorem mp_m8 {r a : Int32} (er : r = mf_Mo_is a (-1) 7) (c : ¬ r = 0) : vp_in (a + 1) 9 := by
  have h := mp_rng er c
  have e0 : (-1 : Int32).toInt = -1 := by decide
  have e7 : (7 : Int32).toInt = 7 := by decide
  by_cases h0 : 0 ≤ a.toInt
  · exact fw_inp1 (n := 8) (vp_in_iff.mpr ⟨h0, by omega⟩) (by decide)
  · have e : a = -1 := Int32.toInt_inj.mp (by omega)
    rw [e]; exact fw_inc (by decide)
theorem mp_hasLt {r k : Int32} {v : fw_V} (er : r = mf_Mo_is k 0 (v 0 0 10 - 1)) (c : ¬ r = 0) (h : vp_in (v 0 0 10) 17) : k.toInt < (v 0 0 10).toInt := by
  have hw := mp_rng er c
  rw [fw_pred h (by decide)] at hw
  omega
theorem mp_has {r k : Int32} {v : fw_V} (er : r = mf_Mo_is k 0 (v 0 0 10 - 1)) (c : ¬ r = 0) (h : vp_in (v 0 0 10) 17) : vp_in k 16 := by
  have hw := mp_rng er c
  have hl := mp_hasLt er c h
  have e0 : (0 : Int32).toInt = 0 := by decide
  have h2 := vp_in_iff.mp h
  rw [vp_in_iff]; omega
theorem mp_hasPos {r k : Int32} {v : fw_V} (er : r = mf_Mo_is k 0 (v 0 0 10 - 1)) (c : ¬ r = 0) (h : vp_in (v 0 0 10) 17) : 0 < (v 0 0 10).toInt := by
  have hw := mp_rng er c
  have hl := mp_hasLt er c h
  have e0 : (0 : Int32).toInt = 0 := by decide
  omega
theorem mp_remIn {k w y : Int32} (h0 : vp_in k 16) (h1 : k.toInt < w.toInt) (hw : vp_in w 17) (e : y = w - 1) : 0 ≤ k.toInt ∧ k.toInt ≤ y.toInt ∧ y.toInt < k.toInt + ((20 : Nat) : Int) := by
  have h2 := vp_in_iff.mp h0
  have h3 := vp_in_iff.mp hw
  rw [e, fw_pred hw (by decide)]
  omega
theorem mp_frame {k w : Int32} (hk : vp_in k 16) (hw : vp_in w 11) (c0 : ¬ w = 0) (c1 : ¬ w = 1) (c2 : ¬ w = 2) (c3 : ¬ w = 3) : vp_in (((7 * k) + w) - 4) 112 := by
  obtain ⟨i, hi, ei⟩ := vp_in_of hk (by decide)
  obtain ⟨j, hj, ej⟩ := vp_in_of hw (by decide)
  have hj4 : 4 ≤ j := by
    rcases Nat.lt_or_ge j 4 with q | q
    · rcases (show j = 0 ∨ j = 1 ∨ j = 2 ∨ j = 3 by omega) with rfl | rfl | rfl | rfl
      · exact absurd ej c0
      · exact absurd ej c1
      · exact absurd ej c2
      · exact absurd ej c3
    · exact q
  rw [ei, ej]
  show vp_in (((nI 7 * nI i) + nI j) - nI 4) 112
  rw [pk_mul, nI_add, pk_sub (by omega)]
  exact vp_in_nI (by omega) (by decide)
theorem mp_device {d w : Int32} (hd : vp_in d 2) (hw : vp_in w 9) (c0 : ¬ w = 0) (c1 : ¬ w = 1) (c2 : ¬ w = 2) (c3 : ¬ w = 3) (c4 : ¬ w = 4) (c8 : ¬ w = 8) : vp_in (((3 * d) + w) - 5) 6 := by
  obtain ⟨i, hi, ei⟩ := vp_in_of hd (by decide)
  obtain ⟨j, hj, ej⟩ := vp_in_of hw (by decide)
  have hj5 : 5 ≤ j ∧ j ≤ 7 := by
    rcases (show j = 0 ∨ j = 1 ∨ j = 2 ∨ j = 3 ∨ j = 4 ∨ j = 8 ∨ (5 ≤ j ∧ j ≤ 7) by omega) with rfl | rfl | rfl | rfl | rfl | rfl | h
    · exact absurd ej c0
    · exact absurd ej c1
    · exact absurd ej c2
    · exact absurd ej c3
    · exact absurd ej c4
    · exact absurd ej c8
    · exact h
  rw [ei, ej]
  show vp_in (((nI 3 * nI i) + nI j) - nI 5) 6
  rw [pk_mul, nI_add, pk_sub (by omega)]
  exact vp_in_nI (by omega) (by decide)
set_option maxHeartbeats 4000000 in
set_option maxRecDepth 100000 in
theorem mc_Mo_is (l : Launch) {D : va_G} {cA : Nat → ClassId} {ad : Nat → Nat → Nat} (hD : fw_D mCL ad) {b : Nat} (v0 : fw_V) (hI : mI b v0) (a1 : Int32) (a2 : Int32) (a3 : Int32)  : Met l my_Mo_is (Cond.code my_Mo_is mb_Mo_is 3 (some .boolean) :: vTB) mrm_Mo_is (fw_Pc vNL D vcls (vtys cA) mCL cA mkd ad v0 [.int a1, .int a2, .int a3]) (fw_Qb D vcls mCL cA mkd ad v0 (mf_Mo_is a1 a2 a3)) 0 0 (fw_A mCL ad) := by
  refine Met.ofW (cc := mb_Mo_is) (maxL := 3) (ret := (some .boolean)) (by decide) rfl ?_
  intro p e s m args below meth c s₁ B hml hv
  obtain ⟨rfl, hP, hK, hN⟩ := hv
  have hx := B.exec
  have hb := B.bytes
  have hr := B.returns
  have hts : ∀ w ∈ vTB, w.before ([.int a1, .int a2, .int a3] : List Value).toArray s = true := fun w h => atoms_spec (ws := (Cond.code my_Mo_is mb_Mo_is 3 (some .boolean) :: vTB)) B.pre w (List.mem_cons_of_mem _ h)
  have hown : s.vm.findClass R_Mo = some m.cls := findClass_of_methodNamed B.named
  have hlocks := B.notSynchronized
  have hS : va_S (fw_A mCL ad) s.heap s.heap [] := va_S.rf
  skip
  have hl := lv_entry ([.int a1, .int a2, .int a3]) (n := 3) (Nat.le_of_ble_eq_true rfl)
  rw [lg_entry_eq]
  generalize (lg_sl ([.int a1, .int a2, .int a3]) ++ List.replicate (3 - (lg_sl ([.int a1, .int a2, .int a3])).length) Slot.unset).toArray = ls at hl ⊢
  have hl : lv_has ls 3 [(0, .int a1), (1, .int a2), (2, .int a3)] := hl
  refine lv_iload_n hx hb md_Mo_is_0 rfl (lv_at hl 0 rfl) ?_
  refine lv_iload_n hx hb md_Mo_is_1 rfl (lv_at hl 1 rfl) ?_
  refine lv_icmp_lt (tgt := 14) hx hb md_Mo_is_2 (by decide) (fun c_1 => ?_) (fun c_1 => ?_)
  · refine lv_iconst (v := (0 : Int32)) hx hb md_Mo_is_14 (by decide) ?_
    exact fw_bret hx hb hr hlocks hS hP md_Mo_is_15 (by decide) (by simp only [mf_Mo_is, if_pos c_1])
  · refine lv_iload_n hx hb md_Mo_is_5 rfl (lv_at hl 0 rfl) ?_
    refine lv_iload_n hx hb md_Mo_is_6 rfl (lv_at hl 2 rfl) ?_
    refine lv_icmp_gt (tgt := 14) hx hb md_Mo_is_7 (by decide) (fun c_2 => ?_) (fun c_2 => ?_)
    · refine lv_iconst (v := (0 : Int32)) hx hb md_Mo_is_14 (by decide) ?_
      exact fw_bret hx hb hr hlocks hS hP md_Mo_is_15 (by decide) (by simp only [mf_Mo_is, if_neg c_1, if_pos c_2])
    · refine lv_iconst (v := (1 : Int32)) hx hb md_Mo_is_10 (by decide) ?_
      refine lv_goto (tgt := 15) hx hb md_Mo_is_11 (by decide) ?_
      exact fw_bret hx hb hr hlocks hS hP md_Mo_is_15 (by decide) (by simp only [mf_Mo_is, if_neg c_1, if_neg c_2])
def mf_Mo_kind_j3 (v0 : fw_V) (a1 : Int32) (a2 : Int32) (a3 : Int32) (a4 : Int32)  : Int32 × fw_V :=
  let v17 := fw_up v0 1 0 (a1.toNatClampNeg) a2
  let v18 := fw_up v17 2 0 (a1.toNatClampNeg) a3
  let v19 := fw_up v18 3 0 (a1.toNatClampNeg) (vp_nar .boolean a4)
  ((1 : Int32), v19)
def mf_Mo_kind_j2 (v0 : fw_V) (a1 : Int32) (a2 : Int32) (a3 : Int32) (a4 : Int32)  : Int32 × fw_V :=
  if (v0 12 0 1) = (0 : Int32) then
    if (v0 28 0 1) = (0 : Int32) then
      mf_Mo_kind_j3 v0 a1 a2 a3 a4
    else
      ((0 : Int32), v0)
  else
    ((0 : Int32), v0)
def mf_Mo_kind_j1 (v0 : fw_V) (a1 : Int32) (a2 : Int32) (a3 : Int32) (a4 : Int32)  : Int32 × fw_V :=
  if (v0 12 0 0) = (0 : Int32) then
    if (v0 28 0 0) = (0 : Int32) then
      mf_Mo_kind_j2 v0 a1 a2 a3 a4
    else
      ((0 : Int32), v0)
  else
    ((0 : Int32), v0)
def mf_Mo_kind (v0 : fw_V) (a1 : Int32) (a2 : Int32) (a3 : Int32) (a4 : Int32) : Int32 × fw_V :=
  let r1 := mf_Mo_is a1 (0 : Int32) (7 : Int32)
  if r1 = (0 : Int32) then
    ((0 : Int32), v0)
  else
    let r4 := mf_Mo_is a2 (0 : Int32) (2 : Int32)
    if r4 = (0 : Int32) then
      ((0 : Int32), v0)
    else
      let r7 := mf_Mo_is a3 (0 : Int32) (2 : Int32)
      if r7 = (0 : Int32) then
        ((0 : Int32), v0)
      else
        mf_Mo_kind_j1 v0 a1 a2 a3 a4

set_option maxHeartbeats 4000000 in
set_option maxRecDepth 100000 in
theorem mc_Mo_kind (l : Launch) {D : va_G} {cA : Nat → ClassId} {ad : Nat → Nat → Nat} (hD : fw_D mCL ad) {b : Nat} (v0 : fw_V) (hI : mI b v0) (a1 : Int32) (a2 : Int32) (a3 : Int32) (a4 : Int32)  : Met l my_Mo_kind (Cond.code my_Mo_kind mb_Mo_kind 6 (some .boolean) :: vTB) mrm_Mo_kind (fw_Pc vNL D vcls (vtys cA) mCL cA mkd ad v0 [.ref (ad 0 0), .int a1, .int a2, .int a3, .int a4]) (fw_Qz D vcls mCL cA mkd ad (mI b) (mf_Mo_kind v0 a1 a2 a3 a4)) 0 0 (fw_A mCL ad) := by
  refine Met.ofW (cc := mb_Mo_kind) (maxL := 6) (ret := (some .boolean)) (by decide) rfl ?_
  intro p e s m args below meth c s₁ B hml hv
  obtain ⟨rfl, hP, hK, hN⟩ := hv
  have hx := B.exec
  have hb := B.bytes
  have hr := B.returns
  have hts : ∀ w ∈ vTB, w.before ([.ref (ad 0 0), .int a1, .int a2, .int a3, .int a4] : List Value).toArray s = true := fun w h => atoms_spec (ws := (Cond.code my_Mo_kind mb_Mo_kind 6 (some .boolean) :: vTB)) B.pre w (List.mem_cons_of_mem _ h)
  have hown : s.vm.findClass R_Mo = some m.cls := findClass_of_methodNamed B.named
  have hlocks := B.notSynchronized
  have hS : va_S (fw_A mCL ad) s.heap s.heap [] := va_S.rf
  have J3 : ∀  (H : Heap) (locs : List Loc) (ls : Array Slot), mf_Mo_kind v0 a1 a2 a3 a4 = mf_Mo_kind_j3 v0 a1 a2 a3 a4 → vp_in a1 8 → vp_in a2 3 → vp_in a3 3 → mI b v0 → va_P D vcls (fw_w mCL cA mkd ad v0) H → va_S (fw_A mCL ad) s.heap H locs → lv_has ls 6 [(0, .ref (ad 0 0)), (1, .int a1), (2, .int a2), (3, .int a3), (4, .int a4), (5, .int (2 : Int32))] → W p l e (headSpec (Cond.code my_Mo_kind mb_Mo_kind 6 (some .boolean) :: vTB) mrm_Mo_kind).room s m ([.ref (ad 0 0), .int a1, .int a2, .int a3, .int a4] : List Value).toArray below meth c H locs 0 0 (MQ below (fw_Qz D vcls mCL cA mkd ad (mI b) (mf_Mo_kind v0 a1 a2 a3 a4)) ([.ref (ad 0 0), .int a1, .int a2, .int a3, .int a4] : List Value).toArray s 0 0 (fw_A mCL ad)) (F0 m 33 ls []) := by
    intro  H locs ls hj hc0 hc1 hc2 hI hP hS hl
    refine lv_iload hx hb md_Mo_kind_33 (lv_at hl 5 rfl) ?_
    refine lv_iconst (v := (2 : Int32)) hx hb md_Mo_kind_35 (by decide) ?_
    refine lv_icmp_ge (tgt := 67) hx hb md_Mo_kind_36 (by decide) (fun _ => ?_) (fun c_16 => absurd (by decide) c_16)
    refine lv_aload_n hx hb md_Mo_kind_67 rfl (lv_at hl 0 rfl) ?_
    refine fw_getr hx hb hts i_Mo hown hK hP (mm_0 (by decide)) (mk_0 0) rfl 0 (by decide) (hts _ L_Mo_7) (fun _ h9 => h9) rfl md_Mo_kind_68 ?_
    refine lv_iload_n hx hb md_Mo_kind_71 rfl (lv_at hl 1 rfl) ?_
    refine lv_iload_n hx hb md_Mo_kind_72 rfl (lv_at hl 2 rfl) ?_
    refine fw_iast hx hb hK hD hP hS (mm_1 (by decide)) (mk_1 0) 0 rfl (j := a1.toNatClampNeg) rfl hc0 md_Mo_kind_73 (fun v17 H locs ev17 hP hS => ?_)
    have hI : mI b v17 := by rw [ev17]; exact mI_up hI trivial trivial
    refine lv_aload_n hx hb md_Mo_kind_74 rfl (lv_at hl 0 rfl) ?_
    refine fw_getr hx hb hts i_Mo hown hK hP (mm_0 (by decide)) (mk_0 0) rfl 1 (by decide) (hts _ L_Mo_13) (fun _ h9 => h9) rfl md_Mo_kind_75 ?_
    refine lv_iload_n hx hb md_Mo_kind_78 rfl (lv_at hl 1 rfl) ?_
    refine lv_iload_n hx hb md_Mo_kind_79 rfl (lv_at hl 3 rfl) ?_
    refine fw_iast hx hb hK hD hP hS (mm_2 (by decide)) (mk_2 0) 0 rfl (j := a1.toNatClampNeg) rfl hc0 md_Mo_kind_80 (fun v18 H locs ev18 hP hS => ?_)
    have hI : mI b v18 := by rw [ev18]; exact mI_up hI trivial trivial
    refine lv_aload_n hx hb md_Mo_kind_81 rfl (lv_at hl 0 rfl) ?_
    refine fw_getr hx hb hts i_Mo hown hK hP (mm_0 (by decide)) (mk_0 0) rfl 2 (by decide) (hts _ L_Mo_16) (fun _ h9 => h9) rfl md_Mo_kind_82 ?_
    refine lv_iload_n hx hb md_Mo_kind_85 rfl (lv_at hl 1 rfl) ?_
    refine lv_iload hx hb md_Mo_kind_86 (lv_at hl 4 rfl) ?_
    refine fw_zast hx hb hK hD hP hS (mm_3 (by decide)) (mk_3 0) 1 rfl (j := a1.toNatClampNeg) rfl hc0 md_Mo_kind_88 (fun v19 H locs ev19 hP hS => ?_)
    have hI : mI b v19 := by rw [ev19]; exact mI_up hI trivial trivial
    refine lv_iconst (v := (1 : Int32)) hx hb md_Mo_kind_89 (by decide) ?_
    exact fw_zret hx hb hr hlocks hS hP hI md_Mo_kind_90 (by decide) (by rw [hj]; subst ev17 ev18 ev19; simp only [mf_Mo_kind_j3])
  have J2 : ∀  (H : Heap) (locs : List Loc) (ls : Array Slot), mf_Mo_kind v0 a1 a2 a3 a4 = mf_Mo_kind_j2 v0 a1 a2 a3 a4 → vp_in a1 8 → vp_in a2 3 → vp_in a3 3 → mI b v0 → va_P D vcls (fw_w mCL cA mkd ad v0) H → va_S (fw_A mCL ad) s.heap H locs → lv_has ls 6 [(0, .ref (ad 0 0)), (1, .int a1), (2, .int a2), (3, .int a3), (4, .int a4), (5, .int (1 : Int32))] → W p l e (headSpec (Cond.code my_Mo_kind mb_Mo_kind 6 (some .boolean) :: vTB) mrm_Mo_kind).room s m ([.ref (ad 0 0), .int a1, .int a2, .int a3, .int a4] : List Value).toArray below meth c H locs 0 0 (MQ below (fw_Qz D vcls mCL cA mkd ad (mI b) (mf_Mo_kind v0 a1 a2 a3 a4)) ([.ref (ad 0 0), .int a1, .int a2, .int a3, .int a4] : List Value).toArray s 0 0 (fw_A mCL ad)) (F0 m 33 ls []) := by
    intro  H locs ls hj hc0 hc1 hc2 hI hP hS hl
    refine lv_iload hx hb md_Mo_kind_33 (lv_at hl 5 rfl) ?_
    refine lv_iconst (v := (2 : Int32)) hx hb md_Mo_kind_35 (by decide) ?_
    refine lv_icmp_ge (tgt := 67) hx hb md_Mo_kind_36 (by decide) (fun c_13 => absurd c_13 (by decide)) (fun _ => ?_)
    refine lv_aload_n hx hb md_Mo_kind_39 rfl (lv_at hl 0 rfl) ?_
    refine fw_getr hx hb hts i_Mo hown hK hP (mm_0 (by decide)) (mk_0 0) rfl 11 (by decide) (hts _ L_Mo_41) (fun _ h9 => h9) rfl md_Mo_kind_40 ?_
    refine lv_iload hx hb md_Mo_kind_43 (lv_at hl 5 rfl) ?_
    refine fw_iald hx hb hK hP (mm_12 (by decide)) (mk_12 0) 0 rfl (j := 1) (by decide) (fw_inc (by decide)) md_Mo_kind_45 ?_
    refine lv_if_ne (tgt := 59) hx hb md_Mo_kind_46 (by decide) (fun c_14 => ?_) (fun c_14 => ?_)
    · refine lv_iconst (v := (0 : Int32)) hx hb md_Mo_kind_59 (by decide) ?_
      exact fw_zret hx hb hr hlocks hS hP hI md_Mo_kind_60 (by decide) (by rw [hj]; simp only [mf_Mo_kind_j2, if_neg c_14])
    · refine lv_aload_n hx hb md_Mo_kind_49 rfl (lv_at hl 0 rfl) ?_
      refine fw_getr hx hb hts i_Mo hown hK hP (mm_0 (by decide)) (mk_0 0) rfl 27 (by decide) (hts _ L_Mo_89) (fun _ h9 => h9) rfl md_Mo_kind_50 ?_
      refine lv_iload hx hb md_Mo_kind_53 (lv_at hl 5 rfl) ?_
      refine fw_iald hx hb hK hP (mm_28 (by decide)) (mk_28 0) 0 rfl (j := 1) (by decide) (fw_inc (by decide)) md_Mo_kind_55 ?_
      refine lv_if_eq (tgt := 61) hx hb md_Mo_kind_56 (by decide) (fun c_15 => ?_) (fun c_15 => ?_)
      · refine lv_iinc (v := (2 : Int32)) (lv' := [(5, .int (2 : Int32)), (0, .ref (ad 0 0)), (1, .int a1), (2, .int a2), (3, .int a3), (4, .int a4)]) hx hb md_Mo_kind_61 hl (k := 5) rfl (by decide) (by decide) rfl (fun ls hl => ?_)
        refine lv_goto (tgt := 33) hx hb md_Mo_kind_64 (by decide) ?_
        exact J3  _ _ _ (by rw [hj]; simp only [mf_Mo_kind_j2, if_pos c_14, if_pos c_15]) hc0 hc1 hc2  hI hP hS (lv_sub hl [1, 2, 3, 4, 5, 0] rfl)
      · refine lv_iconst (v := (0 : Int32)) hx hb md_Mo_kind_59 (by decide) ?_
        exact fw_zret hx hb hr hlocks hS hP hI md_Mo_kind_60 (by decide) (by rw [hj]; simp only [mf_Mo_kind_j2, if_pos c_14, if_neg c_15])
  have J1 : ∀  (H : Heap) (locs : List Loc) (ls : Array Slot), mf_Mo_kind v0 a1 a2 a3 a4 = mf_Mo_kind_j1 v0 a1 a2 a3 a4 → vp_in a1 8 → vp_in a2 3 → vp_in a3 3 → mI b v0 → va_P D vcls (fw_w mCL cA mkd ad v0) H → va_S (fw_A mCL ad) s.heap H locs → lv_has ls 6 [(0, .ref (ad 0 0)), (1, .int a1), (2, .int a2), (3, .int a3), (4, .int a4), (5, .int (0 : Int32))] → W p l e (headSpec (Cond.code my_Mo_kind mb_Mo_kind 6 (some .boolean) :: vTB) mrm_Mo_kind).room s m ([.ref (ad 0 0), .int a1, .int a2, .int a3, .int a4] : List Value).toArray below meth c H locs 0 0 (MQ below (fw_Qz D vcls mCL cA mkd ad (mI b) (mf_Mo_kind v0 a1 a2 a3 a4)) ([.ref (ad 0 0), .int a1, .int a2, .int a3, .int a4] : List Value).toArray s 0 0 (fw_A mCL ad)) (F0 m 33 ls []) := by
    intro  H locs ls hj hc0 hc1 hc2 hI hP hS hl
    clear J3
    refine lv_iload hx hb md_Mo_kind_33 (lv_at hl 5 rfl) ?_
    refine lv_iconst (v := (2 : Int32)) hx hb md_Mo_kind_35 (by decide) ?_
    refine lv_icmp_ge (tgt := 67) hx hb md_Mo_kind_36 (by decide) (fun c_10 => absurd c_10 (by decide)) (fun _ => ?_)
    refine lv_aload_n hx hb md_Mo_kind_39 rfl (lv_at hl 0 rfl) ?_
    refine fw_getr hx hb hts i_Mo hown hK hP (mm_0 (by decide)) (mk_0 0) rfl 11 (by decide) (hts _ L_Mo_41) (fun _ h9 => h9) rfl md_Mo_kind_40 ?_
    refine lv_iload hx hb md_Mo_kind_43 (lv_at hl 5 rfl) ?_
    refine fw_iald hx hb hK hP (mm_12 (by decide)) (mk_12 0) 0 rfl (j := 0) (by decide) (fw_inc (by decide)) md_Mo_kind_45 ?_
    refine lv_if_ne (tgt := 59) hx hb md_Mo_kind_46 (by decide) (fun c_11 => ?_) (fun c_11 => ?_)
    · refine lv_iconst (v := (0 : Int32)) hx hb md_Mo_kind_59 (by decide) ?_
      exact fw_zret hx hb hr hlocks hS hP hI md_Mo_kind_60 (by decide) (by rw [hj]; simp only [mf_Mo_kind_j1, if_neg c_11])
    · refine lv_aload_n hx hb md_Mo_kind_49 rfl (lv_at hl 0 rfl) ?_
      refine fw_getr hx hb hts i_Mo hown hK hP (mm_0 (by decide)) (mk_0 0) rfl 27 (by decide) (hts _ L_Mo_89) (fun _ h9 => h9) rfl md_Mo_kind_50 ?_
      refine lv_iload hx hb md_Mo_kind_53 (lv_at hl 5 rfl) ?_
      refine fw_iald hx hb hK hP (mm_28 (by decide)) (mk_28 0) 0 rfl (j := 0) (by decide) (fw_inc (by decide)) md_Mo_kind_55 ?_
      refine lv_if_eq (tgt := 61) hx hb md_Mo_kind_56 (by decide) (fun c_12 => ?_) (fun c_12 => ?_)
      · refine lv_iinc (v := (1 : Int32)) (lv' := [(5, .int (1 : Int32)), (0, .ref (ad 0 0)), (1, .int a1), (2, .int a2), (3, .int a3), (4, .int a4)]) hx hb md_Mo_kind_61 hl (k := 5) rfl (by decide) (by decide) rfl (fun ls hl => ?_)
        refine lv_goto (tgt := 33) hx hb md_Mo_kind_64 (by decide) ?_
        exact J2  _ _ _ (by rw [hj]; simp only [mf_Mo_kind_j1, if_pos c_11, if_pos c_12]) hc0 hc1 hc2  hI hP hS (lv_sub hl [1, 2, 3, 4, 5, 0] rfl)
      · refine lv_iconst (v := (0 : Int32)) hx hb md_Mo_kind_59 (by decide) ?_
        exact fw_zret hx hb hr hlocks hS hP hI md_Mo_kind_60 (by decide) (by rw [hj]; simp only [mf_Mo_kind_j1, if_pos c_11, if_neg c_12])
  clear J3 J2
  have hl := lv_entry ([.ref (ad 0 0), .int a1, .int a2, .int a3, .int a4]) (n := 6) (Nat.le_of_ble_eq_true rfl)
  rw [lg_entry_eq]
  generalize (lg_sl ([.ref (ad 0 0), .int a1, .int a2, .int a3, .int a4]) ++ List.replicate (6 - (lg_sl ([.ref (ad 0 0), .int a1, .int a2, .int a3, .int a4])).length) Slot.unset).toArray = ls at hl ⊢
  have hl : lv_has ls 6 [(0, .ref (ad 0 0)), (1, .int a1), (2, .int a2), (3, .int a3), (4, .int a4)] := hl
  refine lv_iload_n hx hb md_Mo_kind_0 rfl (lv_at hl 1 rfl) ?_
  refine lv_iconst (v := (0 : Int32)) hx hb md_Mo_kind_1 (by decide) ?_
  refine lv_bipush (v := (7 : Int32)) hx hb md_Mo_kind_2 (by decide) ?_
  refine fw_cb (va_runS (As := [.int a1, .int (0 : Int32), .int (7 : Int32)]) (rest := []) ⟨hx, hb, hml, hown, hts⟩ (mc_Mo_is l hD v0 hI a1 (0 : Int32) (7 : Int32)) (mw_Mo_is hts L_Mo_155 ⟨Nat.le_of_ble_eq_true rfl, Nat.le_of_ble_eq_true rfl⟩) (fw_preS hN hK hP) rfl rfl hl.1 rfl (lv_room (Nat.le_of_ble_eq_true rfl)) md_Mo_kind_4 ⟨Nat.le_of_ble_eq_true rfl, Nat.le_of_ble_eq_true rfl⟩) hS (fun r1 H locs zr1 er1 hP hS => ?_)
  refine lv_if_eq (tgt := 28) hx hb md_Mo_kind_7 (by decide) (fun c_2 => ?_) (fun c_2 => ?_)
  · refine lv_iconst (v := (0 : Int32)) hx hb md_Mo_kind_28 (by decide) ?_
    exact fw_zret hx hb hr hlocks hS hP hI md_Mo_kind_29 (by decide) (by subst er1; simp only [mf_Mo_kind, if_pos c_2])
  · have h_3 : vp_in a1 8 := mp_in er1 c_2 (by decide)
    refine lv_iload_n hx hb md_Mo_kind_10 rfl (lv_at hl 2 rfl) ?_
    refine lv_iconst (v := (0 : Int32)) hx hb md_Mo_kind_11 (by decide) ?_
    refine lv_iconst (v := (2 : Int32)) hx hb md_Mo_kind_12 (by decide) ?_
    refine fw_cb (va_runS (As := [.int a2, .int (0 : Int32), .int (2 : Int32)]) (rest := []) ⟨hx, hb, hml, hown, hts⟩ (mc_Mo_is l hD v0 hI a2 (0 : Int32) (2 : Int32)) (mw_Mo_is hts L_Mo_155 ⟨Nat.le_of_ble_eq_true rfl, Nat.le_of_ble_eq_true rfl⟩) (fw_preS hN hK hP) rfl rfl hl.1 rfl (lv_room (Nat.le_of_ble_eq_true rfl)) md_Mo_kind_13 ⟨Nat.le_of_ble_eq_true rfl, Nat.le_of_ble_eq_true rfl⟩) hS (fun r4 H locs zr4 er4 hP hS => ?_)
    refine lv_if_eq (tgt := 28) hx hb md_Mo_kind_16 (by decide) (fun c_5 => ?_) (fun c_5 => ?_)
    · refine lv_iconst (v := (0 : Int32)) hx hb md_Mo_kind_28 (by decide) ?_
      exact fw_zret hx hb hr hlocks hS hP hI md_Mo_kind_29 (by decide) (by subst er1 er4; simp only [mf_Mo_kind, if_neg c_2, if_pos c_5])
    · have h_6 : vp_in a2 3 := mp_in er4 c_5 (by decide)
      refine lv_iload_n hx hb md_Mo_kind_19 rfl (lv_at hl 3 rfl) ?_
      refine lv_iconst (v := (0 : Int32)) hx hb md_Mo_kind_20 (by decide) ?_
      refine lv_iconst (v := (2 : Int32)) hx hb md_Mo_kind_21 (by decide) ?_
      refine fw_cb (va_runS (As := [.int a3, .int (0 : Int32), .int (2 : Int32)]) (rest := []) ⟨hx, hb, hml, hown, hts⟩ (mc_Mo_is l hD v0 hI a3 (0 : Int32) (2 : Int32)) (mw_Mo_is hts L_Mo_155 ⟨Nat.le_of_ble_eq_true rfl, Nat.le_of_ble_eq_true rfl⟩) (fw_preS hN hK hP) rfl rfl hl.1 rfl (lv_room (Nat.le_of_ble_eq_true rfl)) md_Mo_kind_22 ⟨Nat.le_of_ble_eq_true rfl, Nat.le_of_ble_eq_true rfl⟩) hS (fun r7 H locs zr7 er7 hP hS => ?_)
      refine lv_if_ne (tgt := 30) hx hb md_Mo_kind_25 (by decide) (fun c_8 => ?_) (fun c_8 => ?_)
      · have h_9 : vp_in a3 3 := mp_in er7 c_8 (by decide)
        refine lv_iconst (v := (0 : Int32)) hx hb md_Mo_kind_30 (by decide) ?_
        refine lv_istore (lv' := [(5, .int (0 : Int32)), (0, .ref (ad 0 0)), (1, .int a1), (2, .int a2), (3, .int a3), (4, .int a4)]) hx hb md_Mo_kind_31 hl (by decide) rfl (fun ls hl => ?_)
        exact J1  _ _ _ (by subst er1 er4 er7; simp only [mf_Mo_kind, if_neg c_2, if_neg c_5, if_neg c_8]) h_3 h_6 h_9  hI hP hS (lv_sub hl [1, 2, 3, 4, 5, 0] rfl)
      · refine lv_iconst (v := (0 : Int32)) hx hb md_Mo_kind_28 (by decide) ?_
        exact fw_zret hx hb hr hlocks hS hP hI md_Mo_kind_29 (by decide) (by subst er1 er4 er7; simp only [mf_Mo_kind, if_neg c_2, if_neg c_5, if_pos c_8])
def mf_Mo_name (v0 : fw_V) (a1 : Int32) (a2 : Int32) : Int32 × fw_V :=
  let r1 := mf_Mo_is a1 (0 : Int32) (1 : Int32)
  if r1 = (0 : Int32) then
    ((0 : Int32), v0)
  else
    let r4 := mf_Mo_is a2 (0 : Int32) (15 : Int32)
    if r4 = (0 : Int32) then
      ((0 : Int32), v0)
    else
      let v7 := fw_up v0 30 0 (a1.toNatClampNeg) a2
      ((1 : Int32), v7)

set_option maxHeartbeats 4000000 in
set_option maxRecDepth 100000 in
theorem mc_Mo_name (l : Launch) {D : va_G} {cA : Nat → ClassId} {ad : Nat → Nat → Nat} (hD : fw_D mCL ad) {b : Nat} (v0 : fw_V) (hI : mI b v0) (a1 : Int32) (a2 : Int32)  : Met l my_Mo_name (Cond.code my_Mo_name mb_Mo_name 3 (some .boolean) :: vTB) mrm_Mo_name (fw_Pc vNL D vcls (vtys cA) mCL cA mkd ad v0 [.ref (ad 0 0), .int a1, .int a2]) (fw_Qz D vcls mCL cA mkd ad (mI b) (mf_Mo_name v0 a1 a2)) 0 0 (fw_A mCL ad) := by
  refine Met.ofW (cc := mb_Mo_name) (maxL := 3) (ret := (some .boolean)) (by decide) rfl ?_
  intro p e s m args below meth c s₁ B hml hv
  obtain ⟨rfl, hP, hK, hN⟩ := hv
  have hx := B.exec
  have hb := B.bytes
  have hr := B.returns
  have hts : ∀ w ∈ vTB, w.before ([.ref (ad 0 0), .int a1, .int a2] : List Value).toArray s = true := fun w h => atoms_spec (ws := (Cond.code my_Mo_name mb_Mo_name 3 (some .boolean) :: vTB)) B.pre w (List.mem_cons_of_mem _ h)
  have hown : s.vm.findClass R_Mo = some m.cls := findClass_of_methodNamed B.named
  have hlocks := B.notSynchronized
  have hS : va_S (fw_A mCL ad) s.heap s.heap [] := va_S.rf
  skip
  have hl := lv_entry ([.ref (ad 0 0), .int a1, .int a2]) (n := 3) (Nat.le_of_ble_eq_true rfl)
  rw [lg_entry_eq]
  generalize (lg_sl ([.ref (ad 0 0), .int a1, .int a2]) ++ List.replicate (3 - (lg_sl ([.ref (ad 0 0), .int a1, .int a2])).length) Slot.unset).toArray = ls at hl ⊢
  have hl : lv_has ls 3 [(0, .ref (ad 0 0)), (1, .int a1), (2, .int a2)] := hl
  refine lv_iload_n hx hb md_Mo_name_0 rfl (lv_at hl 1 rfl) ?_
  refine lv_iconst (v := (0 : Int32)) hx hb md_Mo_name_1 (by decide) ?_
  refine lv_iconst (v := (1 : Int32)) hx hb md_Mo_name_2 (by decide) ?_
  refine fw_cb (va_runS (As := [.int a1, .int (0 : Int32), .int (1 : Int32)]) (rest := []) ⟨hx, hb, hml, hown, hts⟩ (mc_Mo_is l hD v0 hI a1 (0 : Int32) (1 : Int32)) (mw_Mo_is hts L_Mo_155 ⟨Nat.le_of_ble_eq_true rfl, Nat.le_of_ble_eq_true rfl⟩) (fw_preS hN hK hP) rfl rfl hl.1 rfl (lv_room (Nat.le_of_ble_eq_true rfl)) md_Mo_name_3 ⟨Nat.le_of_ble_eq_true rfl, Nat.le_of_ble_eq_true rfl⟩) hS (fun r1 H locs zr1 er1 hP hS => ?_)
  refine lv_if_eq (tgt := 19) hx hb md_Mo_name_6 (by decide) (fun c_2 => ?_) (fun c_2 => ?_)
  · refine lv_iconst (v := (0 : Int32)) hx hb md_Mo_name_19 (by decide) ?_
    exact fw_zret hx hb hr hlocks hS hP hI md_Mo_name_20 (by decide) (by subst er1; simp only [mf_Mo_name, if_pos c_2])
  · have h_3 : vp_in a1 2 := mp_in er1 c_2 (by decide)
    refine lv_iload_n hx hb md_Mo_name_9 rfl (lv_at hl 2 rfl) ?_
    refine lv_iconst (v := (0 : Int32)) hx hb md_Mo_name_10 (by decide) ?_
    refine lv_bipush (v := (15 : Int32)) hx hb md_Mo_name_11 (by decide) ?_
    refine fw_cb (va_runS (As := [.int a2, .int (0 : Int32), .int (15 : Int32)]) (rest := []) ⟨hx, hb, hml, hown, hts⟩ (mc_Mo_is l hD v0 hI a2 (0 : Int32) (15 : Int32)) (mw_Mo_is hts L_Mo_155 ⟨Nat.le_of_ble_eq_true rfl, Nat.le_of_ble_eq_true rfl⟩) (fw_preS hN hK hP) rfl rfl hl.1 rfl (lv_room (Nat.le_of_ble_eq_true rfl)) md_Mo_name_13 ⟨Nat.le_of_ble_eq_true rfl, Nat.le_of_ble_eq_true rfl⟩) hS (fun r4 H locs zr4 er4 hP hS => ?_)
    refine lv_if_ne (tgt := 21) hx hb md_Mo_name_16 (by decide) (fun c_5 => ?_) (fun c_5 => ?_)
    · have h_6 : vp_in a2 16 := mp_in er4 c_5 (by decide)
      refine lv_aload_n hx hb md_Mo_name_21 rfl (lv_at hl 0 rfl) ?_
      refine fw_getr hx hb hts i_Mo hown hK hP (mm_0 (by decide)) (mk_0 0) rfl 29 (by decide) (hts _ L_Mo_95) (fun _ h9 => h9) rfl md_Mo_name_22 ?_
      refine lv_iload_n hx hb md_Mo_name_25 rfl (lv_at hl 1 rfl) ?_
      refine lv_iload_n hx hb md_Mo_name_26 rfl (lv_at hl 2 rfl) ?_
      refine fw_iast hx hb hK hD hP hS (mm_30 (by decide)) (mk_30 0) 0 rfl (j := a1.toNatClampNeg) rfl h_3 md_Mo_name_27 (fun v7 H locs ev7 hP hS => ?_)
      have hI : mI b v7 := by rw [ev7]; exact mI_up hI trivial trivial
      refine lv_iconst (v := (1 : Int32)) hx hb md_Mo_name_28 (by decide) ?_
      exact fw_zret hx hb hr hlocks hS hP hI md_Mo_name_29 (by decide) (by subst er1 er4 ev7; simp only [mf_Mo_name, if_neg c_2, if_neg c_5])
    · refine lv_iconst (v := (0 : Int32)) hx hb md_Mo_name_19 (by decide) ?_
      exact fw_zret hx hb hr hlocks hS hP hI md_Mo_name_20 (by decide) (by subst er1 er4; simp only [mf_Mo_name, if_neg c_2, if_pos c_5])
def mf_Mo_substitute_j1 (v0 : fw_V) (a1 : Int32) (a2 : Int32) (a3 : Int32)  : Int32 × fw_V :=
  let v9 := fw_up v0 40 0 (a1.toNatClampNeg) a2
  let v10 := fw_up v9 41 0 (a1.toNatClampNeg) a3
  ((1 : Int32), v10)
def mf_Mo_substitute_j2 (v0 : fw_V) (a1 : Int32) (a2 : Int32) (a3 : Int32)  : Int32 × fw_V :=
  let v14 := fw_up v0 40 0 (a1.toNatClampNeg) a2
  let v15 := fw_up v14 41 0 (a1.toNatClampNeg) a3
  ((1 : Int32), v15)
def mf_Mo_substitute (v0 : fw_V) (a1 : Int32) (a2 : Int32) (a3 : Int32) : Int32 × fw_V :=
  let r1 := mf_Mo_is a1 (0 : Int32) (1 : Int32)
  if r1 = (0 : Int32) then
    ((0 : Int32), v0)
  else
    let r4 := mf_Mo_is a2 (0 : Int32) (2 : Int32)
    if r4 = (0 : Int32) then
      ((0 : Int32), v0)
    else
      if a2 = (2 : Int32) then
        let r11 := mf_Mo_is a3 (0 : Int32) (255 : Int32)
        if r11 = (0 : Int32) then
          ((0 : Int32), v0)
        else
          mf_Mo_substitute_j2 v0 a1 a2 a3
      else
        mf_Mo_substitute_j1 v0 a1 a2 a3

set_option maxHeartbeats 4000000 in
set_option maxRecDepth 100000 in
theorem mc_Mo_substitute (l : Launch) {D : va_G} {cA : Nat → ClassId} {ad : Nat → Nat → Nat} (hD : fw_D mCL ad) {b : Nat} (v0 : fw_V) (hI : mI b v0) (a1 : Int32) (a2 : Int32) (a3 : Int32)  : Met l my_Mo_substitute (Cond.code my_Mo_substitute mb_Mo_substitute 4 (some .boolean) :: vTB) mrm_Mo_substitute (fw_Pc vNL D vcls (vtys cA) mCL cA mkd ad v0 [.ref (ad 0 0), .int a1, .int a2, .int a3]) (fw_Qz D vcls mCL cA mkd ad (mI b) (mf_Mo_substitute v0 a1 a2 a3)) 0 0 (fw_A mCL ad) := by
  refine Met.ofW (cc := mb_Mo_substitute) (maxL := 4) (ret := (some .boolean)) (by decide) rfl ?_
  intro p e s m args below meth c s₁ B hml hv
  obtain ⟨rfl, hP, hK, hN⟩ := hv
  have hx := B.exec
  have hb := B.bytes
  have hr := B.returns
  have hts : ∀ w ∈ vTB, w.before ([.ref (ad 0 0), .int a1, .int a2, .int a3] : List Value).toArray s = true := fun w h => atoms_spec (ws := (Cond.code my_Mo_substitute mb_Mo_substitute 4 (some .boolean) :: vTB)) B.pre w (List.mem_cons_of_mem _ h)
  have hown : s.vm.findClass R_Mo = some m.cls := findClass_of_methodNamed B.named
  have hlocks := B.notSynchronized
  have hS : va_S (fw_A mCL ad) s.heap s.heap [] := va_S.rf
  have J1 : ∀  (H : Heap) (locs : List Loc) (ls : Array Slot), mf_Mo_substitute v0 a1 a2 a3 = mf_Mo_substitute_j1 v0 a1 a2 a3 → vp_in a1 2 → vp_in a2 2 → mI b v0 → va_P D vcls (fw_w mCL cA mkd ad v0) H → va_S (fw_A mCL ad) s.heap H locs → lv_has ls 4 [(0, .ref (ad 0 0)), (1, .int a1), (2, .int a2), (3, .int a3)] → W p l e (headSpec (Cond.code my_Mo_substitute mb_Mo_substitute 4 (some .boolean) :: vTB) mrm_Mo_substitute).room s m ([.ref (ad 0 0), .int a1, .int a2, .int a3] : List Value).toArray below meth c H locs 0 0 (MQ below (fw_Qz D vcls mCL cA mkd ad (mI b) (mf_Mo_substitute v0 a1 a2 a3)) ([.ref (ad 0 0), .int a1, .int a2, .int a3] : List Value).toArray s 0 0 (fw_A mCL ad)) (F0 m 36 ls []) := by
    intro  H locs ls hj hc0 hc1 hI hP hS hl
    refine lv_aload_n hx hb md_Mo_substitute_36 rfl (lv_at hl 0 rfl) ?_
    refine fw_getr hx hb hts i_Mo hown hK hP (mm_0 (by decide)) (mk_0 0) rfl 39 (by decide) (hts _ L_Mo_125) (fun _ h9 => h9) rfl md_Mo_substitute_37 ?_
    refine lv_iload_n hx hb md_Mo_substitute_40 rfl (lv_at hl 1 rfl) ?_
    refine lv_iload_n hx hb md_Mo_substitute_41 rfl (lv_at hl 2 rfl) ?_
    refine fw_iast hx hb hK hD hP hS (mm_40 (by decide)) (mk_40 0) 0 rfl (j := a1.toNatClampNeg) rfl hc0 md_Mo_substitute_42 (fun v9 H locs ev9 hP hS => ?_)
    have hI : mI b v9 := by rw [ev9]; exact mI_up hI trivial trivial
    refine lv_aload_n hx hb md_Mo_substitute_43 rfl (lv_at hl 0 rfl) ?_
    refine fw_getr hx hb hts i_Mo hown hK hP (mm_0 (by decide)) (mk_0 0) rfl 40 (by decide) (hts _ L_Mo_128) (fun _ h9 => h9) rfl md_Mo_substitute_44 ?_
    refine lv_iload_n hx hb md_Mo_substitute_47 rfl (lv_at hl 1 rfl) ?_
    refine lv_iload_n hx hb md_Mo_substitute_48 rfl (lv_at hl 3 rfl) ?_
    refine fw_iast hx hb hK hD hP hS (mm_41 (by decide)) (mk_41 0) 0 rfl (j := a1.toNatClampNeg) rfl hc0 md_Mo_substitute_49 (fun v10 H locs ev10 hP hS => ?_)
    have hI : mI b v10 := by rw [ev10]; exact mI_up hI trivial trivial
    refine lv_iconst (v := (1 : Int32)) hx hb md_Mo_substitute_50 (by decide) ?_
    exact fw_zret hx hb hr hlocks hS hP hI md_Mo_substitute_51 (by decide) (by rw [hj]; subst ev9 ev10; simp only [mf_Mo_substitute_j1])
  have J2 : ∀  (H : Heap) (locs : List Loc) (ls : Array Slot), mf_Mo_substitute v0 a1 a2 a3 = mf_Mo_substitute_j2 v0 a1 a2 a3 → vp_in a1 2 → vp_in a2 3 → vp_in a3 256 → mI b v0 → va_P D vcls (fw_w mCL cA mkd ad v0) H → va_S (fw_A mCL ad) s.heap H locs → lv_has ls 4 [(0, .ref (ad 0 0)), (1, .int a1), (2, .int a2), (3, .int a3)] → W p l e (headSpec (Cond.code my_Mo_substitute mb_Mo_substitute 4 (some .boolean) :: vTB) mrm_Mo_substitute).room s m ([.ref (ad 0 0), .int a1, .int a2, .int a3] : List Value).toArray below meth c H locs 0 0 (MQ below (fw_Qz D vcls mCL cA mkd ad (mI b) (mf_Mo_substitute v0 a1 a2 a3)) ([.ref (ad 0 0), .int a1, .int a2, .int a3] : List Value).toArray s 0 0 (fw_A mCL ad)) (F0 m 36 ls []) := by
    intro  H locs ls hj hc0 hc1 hc2 hI hP hS hl
    clear J1
    refine lv_aload_n hx hb md_Mo_substitute_36 rfl (lv_at hl 0 rfl) ?_
    refine fw_getr hx hb hts i_Mo hown hK hP (mm_0 (by decide)) (mk_0 0) rfl 39 (by decide) (hts _ L_Mo_125) (fun _ h9 => h9) rfl md_Mo_substitute_37 ?_
    refine lv_iload_n hx hb md_Mo_substitute_40 rfl (lv_at hl 1 rfl) ?_
    refine lv_iload_n hx hb md_Mo_substitute_41 rfl (lv_at hl 2 rfl) ?_
    refine fw_iast hx hb hK hD hP hS (mm_40 (by decide)) (mk_40 0) 0 rfl (j := a1.toNatClampNeg) rfl hc0 md_Mo_substitute_42 (fun v14 H locs ev14 hP hS => ?_)
    have hI : mI b v14 := by rw [ev14]; exact mI_up hI trivial trivial
    refine lv_aload_n hx hb md_Mo_substitute_43 rfl (lv_at hl 0 rfl) ?_
    refine fw_getr hx hb hts i_Mo hown hK hP (mm_0 (by decide)) (mk_0 0) rfl 40 (by decide) (hts _ L_Mo_128) (fun _ h9 => h9) rfl md_Mo_substitute_44 ?_
    refine lv_iload_n hx hb md_Mo_substitute_47 rfl (lv_at hl 1 rfl) ?_
    refine lv_iload_n hx hb md_Mo_substitute_48 rfl (lv_at hl 3 rfl) ?_
    refine fw_iast hx hb hK hD hP hS (mm_41 (by decide)) (mk_41 0) 0 rfl (j := a1.toNatClampNeg) rfl hc0 md_Mo_substitute_49 (fun v15 H locs ev15 hP hS => ?_)
    have hI : mI b v15 := by rw [ev15]; exact mI_up hI trivial trivial
    refine lv_iconst (v := (1 : Int32)) hx hb md_Mo_substitute_50 (by decide) ?_
    exact fw_zret hx hb hr hlocks hS hP hI md_Mo_substitute_51 (by decide) (by rw [hj]; subst ev14 ev15; simp only [mf_Mo_substitute_j2])
  skip
  have hl := lv_entry ([.ref (ad 0 0), .int a1, .int a2, .int a3]) (n := 4) (Nat.le_of_ble_eq_true rfl)
  rw [lg_entry_eq]
  generalize (lg_sl ([.ref (ad 0 0), .int a1, .int a2, .int a3]) ++ List.replicate (4 - (lg_sl ([.ref (ad 0 0), .int a1, .int a2, .int a3])).length) Slot.unset).toArray = ls at hl ⊢
  have hl : lv_has ls 4 [(0, .ref (ad 0 0)), (1, .int a1), (2, .int a2), (3, .int a3)] := hl
  refine lv_iload_n hx hb md_Mo_substitute_0 rfl (lv_at hl 1 rfl) ?_
  refine lv_iconst (v := (0 : Int32)) hx hb md_Mo_substitute_1 (by decide) ?_
  refine lv_iconst (v := (1 : Int32)) hx hb md_Mo_substitute_2 (by decide) ?_
  refine fw_cb (va_runS (As := [.int a1, .int (0 : Int32), .int (1 : Int32)]) (rest := []) ⟨hx, hb, hml, hown, hts⟩ (mc_Mo_is l hD v0 hI a1 (0 : Int32) (1 : Int32)) (mw_Mo_is hts L_Mo_155 ⟨Nat.le_of_ble_eq_true rfl, Nat.le_of_ble_eq_true rfl⟩) (fw_preS hN hK hP) rfl rfl hl.1 rfl (lv_room (Nat.le_of_ble_eq_true rfl)) md_Mo_substitute_3 ⟨Nat.le_of_ble_eq_true rfl, Nat.le_of_ble_eq_true rfl⟩) hS (fun r1 H locs zr1 er1 hP hS => ?_)
  refine lv_if_eq (tgt := 34) hx hb md_Mo_substitute_6 (by decide) (fun c_2 => ?_) (fun c_2 => ?_)
  · refine lv_iconst (v := (0 : Int32)) hx hb md_Mo_substitute_34 (by decide) ?_
    exact fw_zret hx hb hr hlocks hS hP hI md_Mo_substitute_35 (by decide) (by subst er1; simp only [mf_Mo_substitute, if_pos c_2])
  · have h_3 : vp_in a1 2 := mp_in er1 c_2 (by decide)
    refine lv_iload_n hx hb md_Mo_substitute_9 rfl (lv_at hl 2 rfl) ?_
    refine lv_iconst (v := (0 : Int32)) hx hb md_Mo_substitute_10 (by decide) ?_
    refine lv_iconst (v := (2 : Int32)) hx hb md_Mo_substitute_11 (by decide) ?_
    refine fw_cb (va_runS (As := [.int a2, .int (0 : Int32), .int (2 : Int32)]) (rest := []) ⟨hx, hb, hml, hown, hts⟩ (mc_Mo_is l hD v0 hI a2 (0 : Int32) (2 : Int32)) (mw_Mo_is hts L_Mo_155 ⟨Nat.le_of_ble_eq_true rfl, Nat.le_of_ble_eq_true rfl⟩) (fw_preS hN hK hP) rfl rfl hl.1 rfl (lv_room (Nat.le_of_ble_eq_true rfl)) md_Mo_substitute_12 ⟨Nat.le_of_ble_eq_true rfl, Nat.le_of_ble_eq_true rfl⟩) hS (fun r4 H locs zr4 er4 hP hS => ?_)
    refine lv_if_eq (tgt := 34) hx hb md_Mo_substitute_15 (by decide) (fun c_5 => ?_) (fun c_5 => ?_)
    · refine lv_iconst (v := (0 : Int32)) hx hb md_Mo_substitute_34 (by decide) ?_
      exact fw_zret hx hb hr hlocks hS hP hI md_Mo_substitute_35 (by decide) (by subst er1 er4; simp only [mf_Mo_substitute, if_neg c_2, if_pos c_5])
    · have h_6 : vp_in a2 3 := mp_in er4 c_5 (by decide)
      refine lv_iload_n hx hb md_Mo_substitute_18 rfl (lv_at hl 2 rfl) ?_
      refine lv_iconst (v := (2 : Int32)) hx hb md_Mo_substitute_19 (by decide) ?_
      refine lv_icmp_ne (tgt := 36) hx hb md_Mo_substitute_20 (by decide) (fun c_7 => ?_) (fun c_7 => ?_)
      · have h_8 : vp_in a2 2 := fw_inne h_6 c_7 (by decide)
        exact J1  _ _ _ (by subst er1 er4; simp only [mf_Mo_substitute, if_neg c_2, if_neg c_5, if_neg c_7]) h_3 h_8  hI hP hS (lv_sub hl [0, 1, 2, 3] rfl)
      · refine lv_iload_n hx hb md_Mo_substitute_23 rfl (lv_at hl 3 rfl) ?_
        refine lv_iconst (v := (0 : Int32)) hx hb md_Mo_substitute_24 (by decide) ?_
        refine lv_sipush (v := (255 : Int32)) hx hb md_Mo_substitute_25 (by decide) ?_
        refine fw_cb (va_runS (As := [.int a3, .int (0 : Int32), .int (255 : Int32)]) (rest := []) ⟨hx, hb, hml, hown, hts⟩ (mc_Mo_is l hD v0 hI a3 (0 : Int32) (255 : Int32)) (mw_Mo_is hts L_Mo_155 ⟨Nat.le_of_ble_eq_true rfl, Nat.le_of_ble_eq_true rfl⟩) (fw_preS hN hK hP) rfl rfl hl.1 rfl (lv_room (Nat.le_of_ble_eq_true rfl)) md_Mo_substitute_28 ⟨Nat.le_of_ble_eq_true rfl, Nat.le_of_ble_eq_true rfl⟩) hS (fun r11 H locs zr11 er11 hP hS => ?_)
        refine lv_if_ne (tgt := 36) hx hb md_Mo_substitute_31 (by decide) (fun c_12 => ?_) (fun c_12 => ?_)
        · have h_13 : vp_in a3 256 := mp_in er11 c_12 (by decide)
          exact J2  _ _ _ (by subst er1 er4 er11; simp only [mf_Mo_substitute, if_neg c_2, if_neg c_5, if_pos c_7, if_neg c_12]) h_3 h_6 h_13  hI hP hS (lv_sub hl [0, 1, 2, 3] rfl)
        · refine lv_iconst (v := (0 : Int32)) hx hb md_Mo_substitute_34 (by decide) ?_
          exact fw_zret hx hb hr hlocks hS hP hI md_Mo_substitute_35 (by decide) (by subst er1 er4 er11; simp only [mf_Mo_substitute, if_neg c_2, if_neg c_5, if_pos c_7, if_pos c_12])
def mf_Mo_sense (v0 : fw_V) (a1 : Int32) (a2 : Int32) (a3 : Int32) (a4 : Int32) : Int32 × fw_V :=
  let r1 := mf_Mo_is a1 (0 : Int32) (1 : Int32)
  if r1 = (0 : Int32) then
    ((0 : Int32), v0)
  else
    let r4 := mf_Mo_is a2 (0 : Int32) (2 : Int32)
    if r4 = (0 : Int32) then
      ((0 : Int32), v0)
    else
      let r7 := mf_Mo_is a3 (0 : Int32) (1 : Int32)
      if r7 = (0 : Int32) then
        ((0 : Int32), v0)
      else
        let r10 := mf_Mo_is a4 (0 : Int32) (255 : Int32)
        if r10 = (0 : Int32) then
          ((0 : Int32), v0)
        else
          let v13 := fw_up v0 45 0 (((((6 : Int32) * a1) + ((2 : Int32) * a2)) + a3).toNatClampNeg) a4
          ((1 : Int32), v13)

set_option maxHeartbeats 4000000 in
set_option maxRecDepth 100000 in
theorem mc_Mo_sense (l : Launch) {D : va_G} {cA : Nat → ClassId} {ad : Nat → Nat → Nat} (hD : fw_D mCL ad) {b : Nat} (v0 : fw_V) (hI : mI b v0) (a1 : Int32) (a2 : Int32) (a3 : Int32) (a4 : Int32)  : Met l my_Mo_sense (Cond.code my_Mo_sense mb_Mo_sense 5 (some .boolean) :: vTB) mrm_Mo_sense (fw_Pc vNL D vcls (vtys cA) mCL cA mkd ad v0 [.ref (ad 0 0), .int a1, .int a2, .int a3, .int a4]) (fw_Qz D vcls mCL cA mkd ad (mI b) (mf_Mo_sense v0 a1 a2 a3 a4)) 0 0 (fw_A mCL ad) := by
  refine Met.ofW (cc := mb_Mo_sense) (maxL := 5) (ret := (some .boolean)) (by decide) rfl ?_
  intro p e s m args below meth c s₁ B hml hv
  obtain ⟨rfl, hP, hK, hN⟩ := hv
  have hx := B.exec
  have hb := B.bytes
  have hr := B.returns
  have hts : ∀ w ∈ vTB, w.before ([.ref (ad 0 0), .int a1, .int a2, .int a3, .int a4] : List Value).toArray s = true := fun w h => atoms_spec (ws := (Cond.code my_Mo_sense mb_Mo_sense 5 (some .boolean) :: vTB)) B.pre w (List.mem_cons_of_mem _ h)
  have hown : s.vm.findClass R_Mo = some m.cls := findClass_of_methodNamed B.named
  have hlocks := B.notSynchronized
  have hS : va_S (fw_A mCL ad) s.heap s.heap [] := va_S.rf
  skip
  have hl := lv_entry ([.ref (ad 0 0), .int a1, .int a2, .int a3, .int a4]) (n := 5) (Nat.le_of_ble_eq_true rfl)
  rw [lg_entry_eq]
  generalize (lg_sl ([.ref (ad 0 0), .int a1, .int a2, .int a3, .int a4]) ++ List.replicate (5 - (lg_sl ([.ref (ad 0 0), .int a1, .int a2, .int a3, .int a4])).length) Slot.unset).toArray = ls at hl ⊢
  have hl : lv_has ls 5 [(0, .ref (ad 0 0)), (1, .int a1), (2, .int a2), (3, .int a3), (4, .int a4)] := hl
  refine lv_iload_n hx hb md_Mo_sense_0 rfl (lv_at hl 1 rfl) ?_
  refine lv_iconst (v := (0 : Int32)) hx hb md_Mo_sense_1 (by decide) ?_
  refine lv_iconst (v := (1 : Int32)) hx hb md_Mo_sense_2 (by decide) ?_
  refine fw_cb (va_runS (As := [.int a1, .int (0 : Int32), .int (1 : Int32)]) (rest := []) ⟨hx, hb, hml, hown, hts⟩ (mc_Mo_is l hD v0 hI a1 (0 : Int32) (1 : Int32)) (mw_Mo_is hts L_Mo_155 ⟨Nat.le_of_ble_eq_true rfl, Nat.le_of_ble_eq_true rfl⟩) (fw_preS hN hK hP) rfl rfl hl.1 rfl (lv_room (Nat.le_of_ble_eq_true rfl)) md_Mo_sense_3 ⟨Nat.le_of_ble_eq_true rfl, Nat.le_of_ble_eq_true rfl⟩) hS (fun r1 H locs zr1 er1 hP hS => ?_)
  refine lv_if_eq (tgt := 39) hx hb md_Mo_sense_6 (by decide) (fun c_2 => ?_) (fun c_2 => ?_)
  · refine lv_iconst (v := (0 : Int32)) hx hb md_Mo_sense_39 (by decide) ?_
    exact fw_zret hx hb hr hlocks hS hP hI md_Mo_sense_40 (by decide) (by subst er1; simp only [mf_Mo_sense, if_pos c_2])
  · have h_3 : vp_in a1 2 := mp_in er1 c_2 (by decide)
    refine lv_iload_n hx hb md_Mo_sense_9 rfl (lv_at hl 2 rfl) ?_
    refine lv_iconst (v := (0 : Int32)) hx hb md_Mo_sense_10 (by decide) ?_
    refine lv_iconst (v := (2 : Int32)) hx hb md_Mo_sense_11 (by decide) ?_
    refine fw_cb (va_runS (As := [.int a2, .int (0 : Int32), .int (2 : Int32)]) (rest := []) ⟨hx, hb, hml, hown, hts⟩ (mc_Mo_is l hD v0 hI a2 (0 : Int32) (2 : Int32)) (mw_Mo_is hts L_Mo_155 ⟨Nat.le_of_ble_eq_true rfl, Nat.le_of_ble_eq_true rfl⟩) (fw_preS hN hK hP) rfl rfl hl.1 rfl (lv_room (Nat.le_of_ble_eq_true rfl)) md_Mo_sense_12 ⟨Nat.le_of_ble_eq_true rfl, Nat.le_of_ble_eq_true rfl⟩) hS (fun r4 H locs zr4 er4 hP hS => ?_)
    refine lv_if_eq (tgt := 39) hx hb md_Mo_sense_15 (by decide) (fun c_5 => ?_) (fun c_5 => ?_)
    · refine lv_iconst (v := (0 : Int32)) hx hb md_Mo_sense_39 (by decide) ?_
      exact fw_zret hx hb hr hlocks hS hP hI md_Mo_sense_40 (by decide) (by subst er1 er4; simp only [mf_Mo_sense, if_neg c_2, if_pos c_5])
    · have h_6 : vp_in a2 3 := mp_in er4 c_5 (by decide)
      refine lv_iload_n hx hb md_Mo_sense_18 rfl (lv_at hl 3 rfl) ?_
      refine lv_iconst (v := (0 : Int32)) hx hb md_Mo_sense_19 (by decide) ?_
      refine lv_iconst (v := (1 : Int32)) hx hb md_Mo_sense_20 (by decide) ?_
      refine fw_cb (va_runS (As := [.int a3, .int (0 : Int32), .int (1 : Int32)]) (rest := []) ⟨hx, hb, hml, hown, hts⟩ (mc_Mo_is l hD v0 hI a3 (0 : Int32) (1 : Int32)) (mw_Mo_is hts L_Mo_155 ⟨Nat.le_of_ble_eq_true rfl, Nat.le_of_ble_eq_true rfl⟩) (fw_preS hN hK hP) rfl rfl hl.1 rfl (lv_room (Nat.le_of_ble_eq_true rfl)) md_Mo_sense_21 ⟨Nat.le_of_ble_eq_true rfl, Nat.le_of_ble_eq_true rfl⟩) hS (fun r7 H locs zr7 er7 hP hS => ?_)
      refine lv_if_eq (tgt := 39) hx hb md_Mo_sense_24 (by decide) (fun c_8 => ?_) (fun c_8 => ?_)
      · refine lv_iconst (v := (0 : Int32)) hx hb md_Mo_sense_39 (by decide) ?_
        exact fw_zret hx hb hr hlocks hS hP hI md_Mo_sense_40 (by decide) (by subst er1 er4 er7; simp only [mf_Mo_sense, if_neg c_2, if_neg c_5, if_pos c_8])
      · have h_9 : vp_in a3 2 := mp_in er7 c_8 (by decide)
        refine lv_iload hx hb md_Mo_sense_27 (lv_at hl 4 rfl) ?_
        refine lv_iconst (v := (0 : Int32)) hx hb md_Mo_sense_29 (by decide) ?_
        refine lv_sipush (v := (255 : Int32)) hx hb md_Mo_sense_30 (by decide) ?_
        refine fw_cb (va_runS (As := [.int a4, .int (0 : Int32), .int (255 : Int32)]) (rest := []) ⟨hx, hb, hml, hown, hts⟩ (mc_Mo_is l hD v0 hI a4 (0 : Int32) (255 : Int32)) (mw_Mo_is hts L_Mo_155 ⟨Nat.le_of_ble_eq_true rfl, Nat.le_of_ble_eq_true rfl⟩) (fw_preS hN hK hP) rfl rfl hl.1 rfl (lv_room (Nat.le_of_ble_eq_true rfl)) md_Mo_sense_33 ⟨Nat.le_of_ble_eq_true rfl, Nat.le_of_ble_eq_true rfl⟩) hS (fun r10 H locs zr10 er10 hP hS => ?_)
        refine lv_if_ne (tgt := 41) hx hb md_Mo_sense_36 (by decide) (fun c_11 => ?_) (fun c_11 => ?_)
        · have h_12 : vp_in a4 256 := mp_in er10 c_11 (by decide)
          refine lv_aload_n hx hb md_Mo_sense_41 rfl (lv_at hl 0 rfl) ?_
          refine fw_getr hx hb hts i_Mo hown hK hP (mm_0 (by decide)) (mk_0 0) rfl 44 (by decide) (hts _ L_Mo_140) (fun _ h9 => h9) rfl md_Mo_sense_42 ?_
          refine lv_bipush (v := (6 : Int32)) hx hb md_Mo_sense_45 (by decide) ?_
          refine lv_iload_n hx hb md_Mo_sense_47 rfl (lv_at hl 1 rfl) ?_
          refine lv_imul hx hb md_Mo_sense_48 ?_
          refine lv_iconst (v := (2 : Int32)) hx hb md_Mo_sense_49 (by decide) ?_
          refine lv_iload_n hx hb md_Mo_sense_50 rfl (lv_at hl 2 rfl) ?_
          refine lv_imul hx hb md_Mo_sense_51 ?_
          refine lv_iadd hx hb md_Mo_sense_52 ?_
          refine lv_iload_n hx hb md_Mo_sense_53 rfl (lv_at hl 3 rfl) ?_
          refine lv_iadd hx hb md_Mo_sense_54 ?_
          refine lv_iload hx hb md_Mo_sense_55 (lv_at hl 4 rfl) ?_
          refine fw_iast hx hb hK hD hP hS (mm_45 (by decide)) (mk_45 0) 0 rfl (j := ((((6 : Int32) * a1) + ((2 : Int32) * a2)) + a3).toNatClampNeg) rfl (fw_inadd2 (n := 11) (m := 2) (t := 12) (fw_inadd2 (n := 7) (m := 5) (t := 11) (fw_inmul (c := (6 : Int32)) (k := 6) (n := 2) (m := 7) rfl h_3 (by decide) (by decide)) (fw_inmul (c := (2 : Int32)) (k := 2) (n := 3) (m := 5) rfl h_6 (by decide) (by decide)) (by decide)) h_9 (by decide)) md_Mo_sense_57 (fun v13 H locs ev13 hP hS => ?_)
          have hI : mI b v13 := by rw [ev13]; exact mI_up hI trivial trivial
          refine lv_iconst (v := (1 : Int32)) hx hb md_Mo_sense_58 (by decide) ?_
          exact fw_zret hx hb hr hlocks hS hP hI md_Mo_sense_59 (by decide) (by subst er1 er4 er7 er10 ev13; simp only [mf_Mo_sense, if_neg c_2, if_neg c_5, if_neg c_8, if_neg c_11])
        · refine lv_iconst (v := (0 : Int32)) hx hb md_Mo_sense_39 (by decide) ?_
          exact fw_zret hx hb hr hlocks hS hP hI md_Mo_sense_40 (by decide) (by subst er1 er4 er7 er10; simp only [mf_Mo_sense, if_neg c_2, if_neg c_5, if_neg c_8, if_pos c_11])
def mf_Mo_target (v0 : fw_V) (a1 : Int32) (a2 : Int32) : Int32 × fw_V :=
  let r1 := mf_Mo_is a1 (0 : Int32) (1 : Int32)
  if r1 = (0 : Int32) then
    ((0 : Int32), v0)
  else
    let r4 := mf_Mo_is a2 (1 : Int32) (15 : Int32)
    if r4 = (0 : Int32) then
      ((0 : Int32), v0)
    else
      if (v0 12 0 a1.toNatClampNeg) = (0 : Int32) then
        let v8 := fw_up v0 14 0 (a1.toNatClampNeg) a2
        ((1 : Int32), v8)
      else
        ((0 : Int32), v0)

set_option maxHeartbeats 4000000 in
set_option maxRecDepth 100000 in
theorem mc_Mo_target (l : Launch) {D : va_G} {cA : Nat → ClassId} {ad : Nat → Nat → Nat} (hD : fw_D mCL ad) {b : Nat} (v0 : fw_V) (hI : mI b v0) (a1 : Int32) (a2 : Int32)  : Met l my_Mo_target (Cond.code my_Mo_target mb_Mo_target 3 (some .boolean) :: vTB) mrm_Mo_target (fw_Pc vNL D vcls (vtys cA) mCL cA mkd ad v0 [.ref (ad 0 0), .int a1, .int a2]) (fw_Qz D vcls mCL cA mkd ad (mI b) (mf_Mo_target v0 a1 a2)) 0 0 (fw_A mCL ad) := by
  refine Met.ofW (cc := mb_Mo_target) (maxL := 3) (ret := (some .boolean)) (by decide) rfl ?_
  intro p e s m args below meth c s₁ B hml hv
  obtain ⟨rfl, hP, hK, hN⟩ := hv
  have hx := B.exec
  have hb := B.bytes
  have hr := B.returns
  have hts : ∀ w ∈ vTB, w.before ([.ref (ad 0 0), .int a1, .int a2] : List Value).toArray s = true := fun w h => atoms_spec (ws := (Cond.code my_Mo_target mb_Mo_target 3 (some .boolean) :: vTB)) B.pre w (List.mem_cons_of_mem _ h)
  have hown : s.vm.findClass R_Mo = some m.cls := findClass_of_methodNamed B.named
  have hlocks := B.notSynchronized
  have hS : va_S (fw_A mCL ad) s.heap s.heap [] := va_S.rf
  skip
  have hl := lv_entry ([.ref (ad 0 0), .int a1, .int a2]) (n := 3) (Nat.le_of_ble_eq_true rfl)
  rw [lg_entry_eq]
  generalize (lg_sl ([.ref (ad 0 0), .int a1, .int a2]) ++ List.replicate (3 - (lg_sl ([.ref (ad 0 0), .int a1, .int a2])).length) Slot.unset).toArray = ls at hl ⊢
  have hl : lv_has ls 3 [(0, .ref (ad 0 0)), (1, .int a1), (2, .int a2)] := hl
  refine lv_iload_n hx hb md_Mo_target_0 rfl (lv_at hl 1 rfl) ?_
  refine lv_iconst (v := (0 : Int32)) hx hb md_Mo_target_1 (by decide) ?_
  refine lv_iconst (v := (1 : Int32)) hx hb md_Mo_target_2 (by decide) ?_
  refine fw_cb (va_runS (As := [.int a1, .int (0 : Int32), .int (1 : Int32)]) (rest := []) ⟨hx, hb, hml, hown, hts⟩ (mc_Mo_is l hD v0 hI a1 (0 : Int32) (1 : Int32)) (mw_Mo_is hts L_Mo_155 ⟨Nat.le_of_ble_eq_true rfl, Nat.le_of_ble_eq_true rfl⟩) (fw_preS hN hK hP) rfl rfl hl.1 rfl (lv_room (Nat.le_of_ble_eq_true rfl)) md_Mo_target_3 ⟨Nat.le_of_ble_eq_true rfl, Nat.le_of_ble_eq_true rfl⟩) hS (fun r1 H locs zr1 er1 hP hS => ?_)
  refine lv_if_eq (tgt := 28) hx hb md_Mo_target_6 (by decide) (fun c_2 => ?_) (fun c_2 => ?_)
  · refine lv_iconst (v := (0 : Int32)) hx hb md_Mo_target_28 (by decide) ?_
    exact fw_zret hx hb hr hlocks hS hP hI md_Mo_target_29 (by decide) (by subst er1; simp only [mf_Mo_target, if_pos c_2])
  · have h_3 : vp_in a1 2 := mp_in er1 c_2 (by decide)
    refine lv_iload_n hx hb md_Mo_target_9 rfl (lv_at hl 2 rfl) ?_
    refine lv_iconst (v := (1 : Int32)) hx hb md_Mo_target_10 (by decide) ?_
    refine lv_bipush (v := (15 : Int32)) hx hb md_Mo_target_11 (by decide) ?_
    refine fw_cb (va_runS (As := [.int a2, .int (1 : Int32), .int (15 : Int32)]) (rest := []) ⟨hx, hb, hml, hown, hts⟩ (mc_Mo_is l hD v0 hI a2 (1 : Int32) (15 : Int32)) (mw_Mo_is hts L_Mo_155 ⟨Nat.le_of_ble_eq_true rfl, Nat.le_of_ble_eq_true rfl⟩) (fw_preS hN hK hP) rfl rfl hl.1 rfl (lv_room (Nat.le_of_ble_eq_true rfl)) md_Mo_target_13 ⟨Nat.le_of_ble_eq_true rfl, Nat.le_of_ble_eq_true rfl⟩) hS (fun r4 H locs zr4 er4 hP hS => ?_)
    refine lv_if_eq (tgt := 28) hx hb md_Mo_target_16 (by decide) (fun c_5 => ?_) (fun c_5 => ?_)
    · refine lv_iconst (v := (0 : Int32)) hx hb md_Mo_target_28 (by decide) ?_
      exact fw_zret hx hb hr hlocks hS hP hI md_Mo_target_29 (by decide) (by subst er1 er4; simp only [mf_Mo_target, if_neg c_2, if_pos c_5])
    · refine lv_aload_n hx hb md_Mo_target_19 rfl (lv_at hl 0 rfl) ?_
      refine fw_getr hx hb hts i_Mo hown hK hP (mm_0 (by decide)) (mk_0 0) rfl 11 (by decide) (hts _ L_Mo_41) (fun _ h9 => h9) rfl md_Mo_target_20 ?_
      refine lv_iload_n hx hb md_Mo_target_23 rfl (lv_at hl 1 rfl) ?_
      refine fw_iald hx hb hK hP (mm_12 (by decide)) (mk_12 0) 0 rfl (j := a1.toNatClampNeg) rfl h_3 md_Mo_target_24 ?_
      refine lv_if_eq (tgt := 30) hx hb md_Mo_target_25 (by decide) (fun c_7 => ?_) (fun c_7 => ?_)
      · refine lv_aload_n hx hb md_Mo_target_30 rfl (lv_at hl 0 rfl) ?_
        refine fw_getr hx hb hts i_Mo hown hK hP (mm_0 (by decide)) (mk_0 0) rfl 13 (by decide) (hts _ L_Mo_47) (fun _ h9 => h9) rfl md_Mo_target_31 ?_
        refine lv_iload_n hx hb md_Mo_target_34 rfl (lv_at hl 1 rfl) ?_
        refine lv_iload_n hx hb md_Mo_target_35 rfl (lv_at hl 2 rfl) ?_
        refine fw_iast hx hb hK hD hP hS (mm_14 (by decide)) (mk_14 0) 0 rfl (j := a1.toNatClampNeg) rfl h_3 md_Mo_target_36 (fun v8 H locs ev8 hP hS => ?_)
        have hI : mI b v8 := by rw [ev8]; exact mI_up hI trivial trivial
        refine lv_iconst (v := (1 : Int32)) hx hb md_Mo_target_37 (by decide) ?_
        exact fw_zret hx hb hr hlocks hS hP hI md_Mo_target_38 (by decide) (by subst er1 er4 ev8; simp only [mf_Mo_target, if_neg c_2, if_neg c_5, if_pos c_7])
      · refine lv_iconst (v := (0 : Int32)) hx hb md_Mo_target_28 (by decide) ?_
        exact fw_zret hx hb hr hlocks hS hP hI md_Mo_target_29 (by decide) (by subst er1 er4; simp only [mf_Mo_target, if_neg c_2, if_neg c_5, if_neg c_7])
def mf_Mo_expect (v0 : fw_V) (a1 : Int32) (a2 : Int32) (a3 : Int32) (a4 : Int32) : Int32 × fw_V :=
  let r1 := mf_Mo_is a1 (0 : Int32) (1 : Int32)
  if r1 = (0 : Int32) then
    ((0 : Int32), v0)
  else
    let r4 := mf_Mo_is a2 (0 : Int32) (2 : Int32)
    if r4 = (0 : Int32) then
      ((0 : Int32), v0)
    else
      let r7 := mf_Mo_is a3 (-1 : Int32) (7 : Int32)
      if r7 = (0 : Int32) then
        ((0 : Int32), v0)
      else
        let r10 := mf_Mo_is a4 (0 : Int32) (255 : Int32)
        if r10 = (0 : Int32) then
          ((0 : Int32), v0)
        else
          if (v0 12 0 a1.toNatClampNeg) = (0 : Int32) then
            let v14 := fw_up v0 24 0 ((((3 : Int32) * a1) + a2).toNatClampNeg) a3
            let v15 := fw_up v14 25 0 ((((3 : Int32) * a1) + a2).toNatClampNeg) a4
            ((1 : Int32), v15)
          else
            ((0 : Int32), v0)

set_option maxHeartbeats 4000000 in
set_option maxRecDepth 100000 in
theorem mc_Mo_expect (l : Launch) {D : va_G} {cA : Nat → ClassId} {ad : Nat → Nat → Nat} (hD : fw_D mCL ad) {b : Nat} (v0 : fw_V) (hI : mI b v0) (a1 : Int32) (a2 : Int32) (a3 : Int32) (a4 : Int32)  : Met l my_Mo_expect (Cond.code my_Mo_expect mb_Mo_expect 5 (some .boolean) :: vTB) mrm_Mo_expect (fw_Pc vNL D vcls (vtys cA) mCL cA mkd ad v0 [.ref (ad 0 0), .int a1, .int a2, .int a3, .int a4]) (fw_Qz D vcls mCL cA mkd ad (mI b) (mf_Mo_expect v0 a1 a2 a3 a4)) 0 0 (fw_A mCL ad) := by
  refine Met.ofW (cc := mb_Mo_expect) (maxL := 5) (ret := (some .boolean)) (by decide) rfl ?_
  intro p e s m args below meth c s₁ B hml hv
  obtain ⟨rfl, hP, hK, hN⟩ := hv
  have hx := B.exec
  have hb := B.bytes
  have hr := B.returns
  have hts : ∀ w ∈ vTB, w.before ([.ref (ad 0 0), .int a1, .int a2, .int a3, .int a4] : List Value).toArray s = true := fun w h => atoms_spec (ws := (Cond.code my_Mo_expect mb_Mo_expect 5 (some .boolean) :: vTB)) B.pre w (List.mem_cons_of_mem _ h)
  have hown : s.vm.findClass R_Mo = some m.cls := findClass_of_methodNamed B.named
  have hlocks := B.notSynchronized
  have hS : va_S (fw_A mCL ad) s.heap s.heap [] := va_S.rf
  skip
  have hl := lv_entry ([.ref (ad 0 0), .int a1, .int a2, .int a3, .int a4]) (n := 5) (Nat.le_of_ble_eq_true rfl)
  rw [lg_entry_eq]
  generalize (lg_sl ([.ref (ad 0 0), .int a1, .int a2, .int a3, .int a4]) ++ List.replicate (5 - (lg_sl ([.ref (ad 0 0), .int a1, .int a2, .int a3, .int a4])).length) Slot.unset).toArray = ls at hl ⊢
  have hl : lv_has ls 5 [(0, .ref (ad 0 0)), (1, .int a1), (2, .int a2), (3, .int a3), (4, .int a4)] := hl
  refine lv_iload_n hx hb md_Mo_expect_0 rfl (lv_at hl 1 rfl) ?_
  refine lv_iconst (v := (0 : Int32)) hx hb md_Mo_expect_1 (by decide) ?_
  refine lv_iconst (v := (1 : Int32)) hx hb md_Mo_expect_2 (by decide) ?_
  refine fw_cb (va_runS (As := [.int a1, .int (0 : Int32), .int (1 : Int32)]) (rest := []) ⟨hx, hb, hml, hown, hts⟩ (mc_Mo_is l hD v0 hI a1 (0 : Int32) (1 : Int32)) (mw_Mo_is hts L_Mo_155 ⟨Nat.le_of_ble_eq_true rfl, Nat.le_of_ble_eq_true rfl⟩) (fw_preS hN hK hP) rfl rfl hl.1 rfl (lv_room (Nat.le_of_ble_eq_true rfl)) md_Mo_expect_3 ⟨Nat.le_of_ble_eq_true rfl, Nat.le_of_ble_eq_true rfl⟩) hS (fun r1 H locs zr1 er1 hP hS => ?_)
  refine lv_if_eq (tgt := 49) hx hb md_Mo_expect_6 (by decide) (fun c_2 => ?_) (fun c_2 => ?_)
  · refine lv_iconst (v := (0 : Int32)) hx hb md_Mo_expect_49 (by decide) ?_
    exact fw_zret hx hb hr hlocks hS hP hI md_Mo_expect_50 (by decide) (by subst er1; simp only [mf_Mo_expect, if_pos c_2])
  · have h_3 : vp_in a1 2 := mp_in er1 c_2 (by decide)
    refine lv_iload_n hx hb md_Mo_expect_9 rfl (lv_at hl 2 rfl) ?_
    refine lv_iconst (v := (0 : Int32)) hx hb md_Mo_expect_10 (by decide) ?_
    refine lv_iconst (v := (2 : Int32)) hx hb md_Mo_expect_11 (by decide) ?_
    refine fw_cb (va_runS (As := [.int a2, .int (0 : Int32), .int (2 : Int32)]) (rest := []) ⟨hx, hb, hml, hown, hts⟩ (mc_Mo_is l hD v0 hI a2 (0 : Int32) (2 : Int32)) (mw_Mo_is hts L_Mo_155 ⟨Nat.le_of_ble_eq_true rfl, Nat.le_of_ble_eq_true rfl⟩) (fw_preS hN hK hP) rfl rfl hl.1 rfl (lv_room (Nat.le_of_ble_eq_true rfl)) md_Mo_expect_12 ⟨Nat.le_of_ble_eq_true rfl, Nat.le_of_ble_eq_true rfl⟩) hS (fun r4 H locs zr4 er4 hP hS => ?_)
    refine lv_if_eq (tgt := 49) hx hb md_Mo_expect_15 (by decide) (fun c_5 => ?_) (fun c_5 => ?_)
    · refine lv_iconst (v := (0 : Int32)) hx hb md_Mo_expect_49 (by decide) ?_
      exact fw_zret hx hb hr hlocks hS hP hI md_Mo_expect_50 (by decide) (by subst er1 er4; simp only [mf_Mo_expect, if_neg c_2, if_pos c_5])
    · have h_6 : vp_in a2 3 := mp_in er4 c_5 (by decide)
      refine lv_iload_n hx hb md_Mo_expect_18 rfl (lv_at hl 3 rfl) ?_
      refine lv_iconst (v := (-1 : Int32)) hx hb md_Mo_expect_19 (by decide) ?_
      refine lv_bipush (v := (7 : Int32)) hx hb md_Mo_expect_20 (by decide) ?_
      refine fw_cb (va_runS (As := [.int a3, .int (-1 : Int32), .int (7 : Int32)]) (rest := []) ⟨hx, hb, hml, hown, hts⟩ (mc_Mo_is l hD v0 hI a3 (-1 : Int32) (7 : Int32)) (mw_Mo_is hts L_Mo_155 ⟨Nat.le_of_ble_eq_true rfl, Nat.le_of_ble_eq_true rfl⟩) (fw_preS hN hK hP) rfl rfl hl.1 rfl (lv_room (Nat.le_of_ble_eq_true rfl)) md_Mo_expect_22 ⟨Nat.le_of_ble_eq_true rfl, Nat.le_of_ble_eq_true rfl⟩) hS (fun r7 H locs zr7 er7 hP hS => ?_)
      refine lv_if_eq (tgt := 49) hx hb md_Mo_expect_25 (by decide) (fun c_8 => ?_) (fun c_8 => ?_)
      · refine lv_iconst (v := (0 : Int32)) hx hb md_Mo_expect_49 (by decide) ?_
        exact fw_zret hx hb hr hlocks hS hP hI md_Mo_expect_50 (by decide) (by subst er1 er4 er7; simp only [mf_Mo_expect, if_neg c_2, if_neg c_5, if_pos c_8])
      · have h_9 : vp_in (a3 + 1) 9 := mp_m8 er7 c_8
        refine lv_iload hx hb md_Mo_expect_28 (lv_at hl 4 rfl) ?_
        refine lv_iconst (v := (0 : Int32)) hx hb md_Mo_expect_30 (by decide) ?_
        refine lv_sipush (v := (255 : Int32)) hx hb md_Mo_expect_31 (by decide) ?_
        refine fw_cb (va_runS (As := [.int a4, .int (0 : Int32), .int (255 : Int32)]) (rest := []) ⟨hx, hb, hml, hown, hts⟩ (mc_Mo_is l hD v0 hI a4 (0 : Int32) (255 : Int32)) (mw_Mo_is hts L_Mo_155 ⟨Nat.le_of_ble_eq_true rfl, Nat.le_of_ble_eq_true rfl⟩) (fw_preS hN hK hP) rfl rfl hl.1 rfl (lv_room (Nat.le_of_ble_eq_true rfl)) md_Mo_expect_34 ⟨Nat.le_of_ble_eq_true rfl, Nat.le_of_ble_eq_true rfl⟩) hS (fun r10 H locs zr10 er10 hP hS => ?_)
        refine lv_if_eq (tgt := 49) hx hb md_Mo_expect_37 (by decide) (fun c_11 => ?_) (fun c_11 => ?_)
        · refine lv_iconst (v := (0 : Int32)) hx hb md_Mo_expect_49 (by decide) ?_
          exact fw_zret hx hb hr hlocks hS hP hI md_Mo_expect_50 (by decide) (by subst er1 er4 er7 er10; simp only [mf_Mo_expect, if_neg c_2, if_neg c_5, if_neg c_8, if_pos c_11])
        · have h_12 : vp_in a4 256 := mp_in er10 c_11 (by decide)
          refine lv_aload_n hx hb md_Mo_expect_40 rfl (lv_at hl 0 rfl) ?_
          refine fw_getr hx hb hts i_Mo hown hK hP (mm_0 (by decide)) (mk_0 0) rfl 11 (by decide) (hts _ L_Mo_41) (fun _ h9 => h9) rfl md_Mo_expect_41 ?_
          refine lv_iload_n hx hb md_Mo_expect_44 rfl (lv_at hl 1 rfl) ?_
          refine fw_iald hx hb hK hP (mm_12 (by decide)) (mk_12 0) 0 rfl (j := a1.toNatClampNeg) rfl h_3 md_Mo_expect_45 ?_
          refine lv_if_eq (tgt := 51) hx hb md_Mo_expect_46 (by decide) (fun c_13 => ?_) (fun c_13 => ?_)
          · refine lv_aload_n hx hb md_Mo_expect_51 rfl (lv_at hl 0 rfl) ?_
            refine fw_getr hx hb hts i_Mo hown hK hP (mm_0 (by decide)) (mk_0 0) rfl 23 (by decide) (hts _ L_Mo_77) (fun _ h9 => h9) rfl md_Mo_expect_52 ?_
            refine lv_iconst (v := (3 : Int32)) hx hb md_Mo_expect_55 (by decide) ?_
            refine lv_iload_n hx hb md_Mo_expect_56 rfl (lv_at hl 1 rfl) ?_
            refine lv_imul hx hb md_Mo_expect_57 ?_
            refine lv_iload_n hx hb md_Mo_expect_58 rfl (lv_at hl 2 rfl) ?_
            refine lv_iadd hx hb md_Mo_expect_59 ?_
            refine lv_iload_n hx hb md_Mo_expect_60 rfl (lv_at hl 3 rfl) ?_
            refine fw_iast hx hb hK hD hP hS (mm_24 (by decide)) (mk_24 0) 0 rfl (j := (((3 : Int32) * a1) + a2).toNatClampNeg) rfl (fw_inadd2 (n := 4) (m := 3) (t := 6) (fw_inmul (c := (3 : Int32)) (k := 3) (n := 2) (m := 4) rfl h_3 (by decide) (by decide)) h_6 (by decide)) md_Mo_expect_61 (fun v14 H locs ev14 hP hS => ?_)
            have hI : mI b v14 := by rw [ev14]; exact mI_up hI h_9 trivial
            refine lv_aload_n hx hb md_Mo_expect_62 rfl (lv_at hl 0 rfl) ?_
            refine fw_getr hx hb hts i_Mo hown hK hP (mm_0 (by decide)) (mk_0 0) rfl 24 (by decide) (hts _ L_Mo_80) (fun _ h9 => h9) rfl md_Mo_expect_63 ?_
            refine lv_iconst (v := (3 : Int32)) hx hb md_Mo_expect_66 (by decide) ?_
            refine lv_iload_n hx hb md_Mo_expect_67 rfl (lv_at hl 1 rfl) ?_
            refine lv_imul hx hb md_Mo_expect_68 ?_
            refine lv_iload_n hx hb md_Mo_expect_69 rfl (lv_at hl 2 rfl) ?_
            refine lv_iadd hx hb md_Mo_expect_70 ?_
            refine lv_iload hx hb md_Mo_expect_71 (lv_at hl 4 rfl) ?_
            refine fw_iast hx hb hK hD hP hS (mm_25 (by decide)) (mk_25 0) 0 rfl (j := (((3 : Int32) * a1) + a2).toNatClampNeg) rfl (fw_inadd2 (n := 4) (m := 3) (t := 6) (fw_inmul (c := (3 : Int32)) (k := 3) (n := 2) (m := 4) rfl h_3 (by decide) (by decide)) h_6 (by decide)) md_Mo_expect_73 (fun v15 H locs ev15 hP hS => ?_)
            have hI : mI b v15 := by rw [ev15]; exact mI_up hI trivial trivial
            refine lv_iconst (v := (1 : Int32)) hx hb md_Mo_expect_74 (by decide) ?_
            exact fw_zret hx hb hr hlocks hS hP hI md_Mo_expect_75 (by decide) (by subst er1 er4 er7 er10 ev14 ev15; simp only [mf_Mo_expect, if_neg c_2, if_neg c_5, if_neg c_8, if_neg c_11, if_pos c_13])
          · refine lv_iconst (v := (0 : Int32)) hx hb md_Mo_expect_49 (by decide) ?_
            exact fw_zret hx hb hr hlocks hS hP hI md_Mo_expect_50 (by decide) (by subst er1 er4 er7 er10; simp only [mf_Mo_expect, if_neg c_2, if_neg c_5, if_neg c_8, if_neg c_11, if_neg c_13])
def mf_Mo_give (v0 : fw_V) (a1 : Int32) (a2 : Int32) (a3 : Int32) (a4 : Int32) : Int32 × fw_V :=
  let r1 := mf_Mo_is a1 (0 : Int32) (1 : Int32)
  if r1 = (0 : Int32) then
    ((0 : Int32), v0)
  else
    let r4 := mf_Mo_is a2 (0 : Int32) (2 : Int32)
    if r4 = (0 : Int32) then
      ((0 : Int32), v0)
    else
      let r7 := mf_Mo_is a3 (0 : Int32) (1 : Int32)
      if r7 = (0 : Int32) then
        ((0 : Int32), v0)
      else
        let r10 := mf_Mo_is a4 (0 : Int32) (255 : Int32)
        if r10 = (0 : Int32) then
          ((0 : Int32), v0)
        else
          let v13 := fw_up v0 26 0 (((((6 : Int32) * a1) + ((2 : Int32) * a2)) + a3).toNatClampNeg) a4
          ((1 : Int32), v13)

set_option maxHeartbeats 4000000 in
set_option maxRecDepth 100000 in
theorem mc_Mo_give (l : Launch) {D : va_G} {cA : Nat → ClassId} {ad : Nat → Nat → Nat} (hD : fw_D mCL ad) {b : Nat} (v0 : fw_V) (hI : mI b v0) (a1 : Int32) (a2 : Int32) (a3 : Int32) (a4 : Int32)  : Met l my_Mo_give (Cond.code my_Mo_give mb_Mo_give 5 (some .boolean) :: vTB) mrm_Mo_give (fw_Pc vNL D vcls (vtys cA) mCL cA mkd ad v0 [.ref (ad 0 0), .int a1, .int a2, .int a3, .int a4]) (fw_Qz D vcls mCL cA mkd ad (mI b) (mf_Mo_give v0 a1 a2 a3 a4)) 0 0 (fw_A mCL ad) := by
  refine Met.ofW (cc := mb_Mo_give) (maxL := 5) (ret := (some .boolean)) (by decide) rfl ?_
  intro p e s m args below meth c s₁ B hml hv
  obtain ⟨rfl, hP, hK, hN⟩ := hv
  have hx := B.exec
  have hb := B.bytes
  have hr := B.returns
  have hts : ∀ w ∈ vTB, w.before ([.ref (ad 0 0), .int a1, .int a2, .int a3, .int a4] : List Value).toArray s = true := fun w h => atoms_spec (ws := (Cond.code my_Mo_give mb_Mo_give 5 (some .boolean) :: vTB)) B.pre w (List.mem_cons_of_mem _ h)
  have hown : s.vm.findClass R_Mo = some m.cls := findClass_of_methodNamed B.named
  have hlocks := B.notSynchronized
  have hS : va_S (fw_A mCL ad) s.heap s.heap [] := va_S.rf
  skip
  have hl := lv_entry ([.ref (ad 0 0), .int a1, .int a2, .int a3, .int a4]) (n := 5) (Nat.le_of_ble_eq_true rfl)
  rw [lg_entry_eq]
  generalize (lg_sl ([.ref (ad 0 0), .int a1, .int a2, .int a3, .int a4]) ++ List.replicate (5 - (lg_sl ([.ref (ad 0 0), .int a1, .int a2, .int a3, .int a4])).length) Slot.unset).toArray = ls at hl ⊢
  have hl : lv_has ls 5 [(0, .ref (ad 0 0)), (1, .int a1), (2, .int a2), (3, .int a3), (4, .int a4)] := hl
  refine lv_iload_n hx hb md_Mo_give_0 rfl (lv_at hl 1 rfl) ?_
  refine lv_iconst (v := (0 : Int32)) hx hb md_Mo_give_1 (by decide) ?_
  refine lv_iconst (v := (1 : Int32)) hx hb md_Mo_give_2 (by decide) ?_
  refine fw_cb (va_runS (As := [.int a1, .int (0 : Int32), .int (1 : Int32)]) (rest := []) ⟨hx, hb, hml, hown, hts⟩ (mc_Mo_is l hD v0 hI a1 (0 : Int32) (1 : Int32)) (mw_Mo_is hts L_Mo_155 ⟨Nat.le_of_ble_eq_true rfl, Nat.le_of_ble_eq_true rfl⟩) (fw_preS hN hK hP) rfl rfl hl.1 rfl (lv_room (Nat.le_of_ble_eq_true rfl)) md_Mo_give_3 ⟨Nat.le_of_ble_eq_true rfl, Nat.le_of_ble_eq_true rfl⟩) hS (fun r1 H locs zr1 er1 hP hS => ?_)
  refine lv_if_eq (tgt := 39) hx hb md_Mo_give_6 (by decide) (fun c_2 => ?_) (fun c_2 => ?_)
  · refine lv_iconst (v := (0 : Int32)) hx hb md_Mo_give_39 (by decide) ?_
    exact fw_zret hx hb hr hlocks hS hP hI md_Mo_give_40 (by decide) (by subst er1; simp only [mf_Mo_give, if_pos c_2])
  · have h_3 : vp_in a1 2 := mp_in er1 c_2 (by decide)
    refine lv_iload_n hx hb md_Mo_give_9 rfl (lv_at hl 2 rfl) ?_
    refine lv_iconst (v := (0 : Int32)) hx hb md_Mo_give_10 (by decide) ?_
    refine lv_iconst (v := (2 : Int32)) hx hb md_Mo_give_11 (by decide) ?_
    refine fw_cb (va_runS (As := [.int a2, .int (0 : Int32), .int (2 : Int32)]) (rest := []) ⟨hx, hb, hml, hown, hts⟩ (mc_Mo_is l hD v0 hI a2 (0 : Int32) (2 : Int32)) (mw_Mo_is hts L_Mo_155 ⟨Nat.le_of_ble_eq_true rfl, Nat.le_of_ble_eq_true rfl⟩) (fw_preS hN hK hP) rfl rfl hl.1 rfl (lv_room (Nat.le_of_ble_eq_true rfl)) md_Mo_give_12 ⟨Nat.le_of_ble_eq_true rfl, Nat.le_of_ble_eq_true rfl⟩) hS (fun r4 H locs zr4 er4 hP hS => ?_)
    refine lv_if_eq (tgt := 39) hx hb md_Mo_give_15 (by decide) (fun c_5 => ?_) (fun c_5 => ?_)
    · refine lv_iconst (v := (0 : Int32)) hx hb md_Mo_give_39 (by decide) ?_
      exact fw_zret hx hb hr hlocks hS hP hI md_Mo_give_40 (by decide) (by subst er1 er4; simp only [mf_Mo_give, if_neg c_2, if_pos c_5])
    · have h_6 : vp_in a2 3 := mp_in er4 c_5 (by decide)
      refine lv_iload_n hx hb md_Mo_give_18 rfl (lv_at hl 3 rfl) ?_
      refine lv_iconst (v := (0 : Int32)) hx hb md_Mo_give_19 (by decide) ?_
      refine lv_iconst (v := (1 : Int32)) hx hb md_Mo_give_20 (by decide) ?_
      refine fw_cb (va_runS (As := [.int a3, .int (0 : Int32), .int (1 : Int32)]) (rest := []) ⟨hx, hb, hml, hown, hts⟩ (mc_Mo_is l hD v0 hI a3 (0 : Int32) (1 : Int32)) (mw_Mo_is hts L_Mo_155 ⟨Nat.le_of_ble_eq_true rfl, Nat.le_of_ble_eq_true rfl⟩) (fw_preS hN hK hP) rfl rfl hl.1 rfl (lv_room (Nat.le_of_ble_eq_true rfl)) md_Mo_give_21 ⟨Nat.le_of_ble_eq_true rfl, Nat.le_of_ble_eq_true rfl⟩) hS (fun r7 H locs zr7 er7 hP hS => ?_)
      refine lv_if_eq (tgt := 39) hx hb md_Mo_give_24 (by decide) (fun c_8 => ?_) (fun c_8 => ?_)
      · refine lv_iconst (v := (0 : Int32)) hx hb md_Mo_give_39 (by decide) ?_
        exact fw_zret hx hb hr hlocks hS hP hI md_Mo_give_40 (by decide) (by subst er1 er4 er7; simp only [mf_Mo_give, if_neg c_2, if_neg c_5, if_pos c_8])
      · have h_9 : vp_in a3 2 := mp_in er7 c_8 (by decide)
        refine lv_iload hx hb md_Mo_give_27 (lv_at hl 4 rfl) ?_
        refine lv_iconst (v := (0 : Int32)) hx hb md_Mo_give_29 (by decide) ?_
        refine lv_sipush (v := (255 : Int32)) hx hb md_Mo_give_30 (by decide) ?_
        refine fw_cb (va_runS (As := [.int a4, .int (0 : Int32), .int (255 : Int32)]) (rest := []) ⟨hx, hb, hml, hown, hts⟩ (mc_Mo_is l hD v0 hI a4 (0 : Int32) (255 : Int32)) (mw_Mo_is hts L_Mo_155 ⟨Nat.le_of_ble_eq_true rfl, Nat.le_of_ble_eq_true rfl⟩) (fw_preS hN hK hP) rfl rfl hl.1 rfl (lv_room (Nat.le_of_ble_eq_true rfl)) md_Mo_give_33 ⟨Nat.le_of_ble_eq_true rfl, Nat.le_of_ble_eq_true rfl⟩) hS (fun r10 H locs zr10 er10 hP hS => ?_)
        refine lv_if_ne (tgt := 41) hx hb md_Mo_give_36 (by decide) (fun c_11 => ?_) (fun c_11 => ?_)
        · have h_12 : vp_in a4 256 := mp_in er10 c_11 (by decide)
          refine lv_aload_n hx hb md_Mo_give_41 rfl (lv_at hl 0 rfl) ?_
          refine fw_getr hx hb hts i_Mo hown hK hP (mm_0 (by decide)) (mk_0 0) rfl 25 (by decide) (hts _ L_Mo_83) (fun _ h9 => h9) rfl md_Mo_give_42 ?_
          refine lv_bipush (v := (6 : Int32)) hx hb md_Mo_give_45 (by decide) ?_
          refine lv_iload_n hx hb md_Mo_give_47 rfl (lv_at hl 1 rfl) ?_
          refine lv_imul hx hb md_Mo_give_48 ?_
          refine lv_iconst (v := (2 : Int32)) hx hb md_Mo_give_49 (by decide) ?_
          refine lv_iload_n hx hb md_Mo_give_50 rfl (lv_at hl 2 rfl) ?_
          refine lv_imul hx hb md_Mo_give_51 ?_
          refine lv_iadd hx hb md_Mo_give_52 ?_
          refine lv_iload_n hx hb md_Mo_give_53 rfl (lv_at hl 3 rfl) ?_
          refine lv_iadd hx hb md_Mo_give_54 ?_
          refine lv_iload hx hb md_Mo_give_55 (lv_at hl 4 rfl) ?_
          refine fw_iast hx hb hK hD hP hS (mm_26 (by decide)) (mk_26 0) 0 rfl (j := ((((6 : Int32) * a1) + ((2 : Int32) * a2)) + a3).toNatClampNeg) rfl (fw_inadd2 (n := 11) (m := 2) (t := 12) (fw_inadd2 (n := 7) (m := 5) (t := 11) (fw_inmul (c := (6 : Int32)) (k := 6) (n := 2) (m := 7) rfl h_3 (by decide) (by decide)) (fw_inmul (c := (2 : Int32)) (k := 2) (n := 3) (m := 5) rfl h_6 (by decide) (by decide)) (by decide)) h_9 (by decide)) md_Mo_give_57 (fun v13 H locs ev13 hP hS => ?_)
          have hI : mI b v13 := by rw [ev13]; exact mI_up hI trivial trivial
          refine lv_iconst (v := (1 : Int32)) hx hb md_Mo_give_58 (by decide) ?_
          exact fw_zret hx hb hr hlocks hS hP hI md_Mo_give_59 (by decide) (by subst er1 er4 er7 er10 ev13; simp only [mf_Mo_give, if_neg c_2, if_neg c_5, if_neg c_8, if_neg c_11])
        · refine lv_iconst (v := (0 : Int32)) hx hb md_Mo_give_39 (by decide) ?_
          exact fw_zret hx hb hr hlocks hS hP hI md_Mo_give_40 (by decide) (by subst er1 er4 er7 er10; simp only [mf_Mo_give, if_neg c_2, if_neg c_5, if_neg c_8, if_pos c_11])
def mf_Mo_replace_0_j8 (v : fw_V) (a2 : Int32) (x4 : Int32) : fw_V :=
  v
def mf_Mo_replace_0_j7 (v : fw_V) (a2 : Int32) (x4 : Int32) : fw_V :=
  mf_Mo_replace_0_j8 v a2 (x4)
def mf_Mo_replace_0_j6 (v : fw_V) (a2 : Int32) (x4 : Int32) : fw_V :=
  let v9 := fw_up v 46 0 ((((0 : Int32) + ((2 : Int32) * a2)) + (1 : Int32)).toNatClampNeg) (0 : Int32)
  mf_Mo_replace_0_j7 v9 a2 (x4)
def mf_Mo_replace_0_j5 (v : fw_V) (a2 : Int32) (x4 : Int32) : fw_V :=
  if x4 ≤ (1 : Int32) then
    mf_Mo_replace_0_j6 v a2 (x4)
  else
    if (v 40 0 0) = (0 : Int32) then
      mf_Mo_replace_0_j6 v a2 (x4)
    else
      if (v 40 0 0) = (2 : Int32) then
        let v13 := fw_up v 46 0 ((((0 : Int32) + ((2 : Int32) * a2)) + (1 : Int32)).toNatClampNeg) (v 41 0 0)
        mf_Mo_replace_0_j7 v13 a2 (x4)
      else
        mf_Mo_replace_0_j7 v a2 (x4)
def mf_Mo_replace_0_j4 (v : fw_V) (a2 : Int32) (x4 : Int32) : fw_V :=
  mf_Mo_replace_0_j5 v a2 (x4)
def mf_Mo_replace_0_j3 (v0 : fw_V) (a2 : Int32)  : fw_V :=
  let v6 := fw_up v0 46 0 ((((0 : Int32) + ((2 : Int32) * a2)) + (0 : Int32)).toNatClampNeg) (0 : Int32)
  mf_Mo_replace_0_j4 v6 a2 ((v0 2 0 (v0 42 0 ((0 : Int32) + a2).toNatClampNeg).toNatClampNeg))
def mf_Mo_replace_0_j11 (v0 : fw_V) (a2 : Int32)  : fw_V :=
  let v18 := fw_up v0 46 0 ((((0 : Int32) + ((2 : Int32) * a2)) + (1 : Int32)).toNatClampNeg) (0 : Int32)
  mf_Mo_replace_0_j7 v18 a2 ((v0 2 0 (v0 42 0 ((0 : Int32) + a2).toNatClampNeg).toNatClampNeg))
def mf_Mo_replace_0_j13 (v0 : fw_V) (a2 : Int32)  : fw_V :=
  v0
def mf_Mo_replace_0_j12 (v0 : fw_V) (a2 : Int32)  : fw_V :=
  mf_Mo_replace_0_j13 v0 a2
def mf_Mo_replace_0_j10 (v0 : fw_V) (a2 : Int32)  : fw_V :=
  if (v0 2 0 (v0 42 0 ((0 : Int32) + a2).toNatClampNeg).toNatClampNeg) ≤ (1 : Int32) then
    mf_Mo_replace_0_j11 v0 a2
  else
    if (v0 40 0 0) = (0 : Int32) then
      mf_Mo_replace_0_j11 v0 a2
    else
      if (v0 40 0 0) = (2 : Int32) then
        let v22 := fw_up v0 46 0 ((((0 : Int32) + ((2 : Int32) * a2)) + (1 : Int32)).toNatClampNeg) (v0 41 0 0)
        mf_Mo_replace_0_j7 v22 a2 ((v0 2 0 (v0 42 0 ((0 : Int32) + a2).toNatClampNeg).toNatClampNeg))
      else
        mf_Mo_replace_0_j12 v0 a2
def mf_Mo_replace_0_j9 (v0 : fw_V) (a2 : Int32)  : fw_V :=
  mf_Mo_replace_0_j10 v0 a2
def mf_Mo_replace_0_j2 (v0 : fw_V) (a2 : Int32)  : fw_V :=
  if (v0 2 0 (v0 42 0 ((0 : Int32) + a2).toNatClampNeg).toNatClampNeg) ≤ (0 : Int32) then
    mf_Mo_replace_0_j3 v0 a2
  else
    if (v0 40 0 0) = (0 : Int32) then
      mf_Mo_replace_0_j3 v0 a2
    else
      if (v0 40 0 0) = (2 : Int32) then
        let v23 := fw_up v0 46 0 ((((0 : Int32) + ((2 : Int32) * a2)) + (0 : Int32)).toNatClampNeg) (v0 41 0 0)
        mf_Mo_replace_0_j4 v23 a2 ((v0 2 0 (v0 42 0 ((0 : Int32) + a2).toNatClampNeg).toNatClampNeg))
      else
        mf_Mo_replace_0_j9 v0 a2
def mf_Mo_replace_0_j1 (v0 : fw_V) (a2 : Int32)  : fw_V :=
  mf_Mo_replace_0_j2 v0 a2
def mf_Mo_replace_0_j21 (v : fw_V) (a2 : Int32)  : fw_V :=
  v
def mf_Mo_replace_0_j20 (v : fw_V) (a2 : Int32)  : fw_V :=
  mf_Mo_replace_0_j21 v a2
def mf_Mo_replace_0_j19 (v : fw_V) (a2 : Int32)  : fw_V :=
  let v29 := fw_up v 46 0 ((((0 : Int32) + ((2 : Int32) * a2)) + (1 : Int32)).toNatClampNeg) (0 : Int32)
  mf_Mo_replace_0_j20 v29 a2
def mf_Mo_replace_0_j18 (v : fw_V) (a2 : Int32)  : fw_V :=
  mf_Mo_replace_0_j19 v a2
def mf_Mo_replace_0_j17 (v : fw_V) (a2 : Int32)  : fw_V :=
  mf_Mo_replace_0_j18 v a2
def mf_Mo_replace_0_j16 (v0 : fw_V) (a2 : Int32)  : fw_V :=
  let v26 := fw_up v0 46 0 ((((0 : Int32) + ((2 : Int32) * a2)) + (0 : Int32)).toNatClampNeg) (0 : Int32)
  mf_Mo_replace_0_j17 v26 a2
def mf_Mo_replace_0_j15 (v0 : fw_V) (a2 : Int32)  : fw_V :=
  mf_Mo_replace_0_j16 v0 a2
def mf_Mo_replace_0_j14 (v0 : fw_V) (a2 : Int32)  : fw_V :=
  mf_Mo_replace_0_j15 v0 a2
def mf_Mo_replace_0 (v0 : fw_V) (a2 : Int32) : fw_V :=
  if (0 : Int32) ≤ (v0 42 0 ((0 : Int32) + a2).toNatClampNeg) then
    mf_Mo_replace_0_j1 v0 a2
  else
    mf_Mo_replace_0_j14 v0 a2

theorem mca_Mo_replace_0_j8 {v : fw_V} {a2 : Int32} {x4 : Int32} {i k : Nat} : mf_Mo_replace_0_j8 v a2 x4 10 i k = v 10 i k := by
  unfold mf_Mo_replace_0_j8
  try dsimp only
  all_goals ((repeat' split) <;> simp [fw_up, fw_row])
theorem mca_Mo_replace_0_j7 {v : fw_V} {a2 : Int32} {x4 : Int32} {i k : Nat} : mf_Mo_replace_0_j7 v a2 x4 10 i k = v 10 i k := by
  unfold mf_Mo_replace_0_j7
  try dsimp only
  all_goals ((repeat' split) <;> simp [fw_up, fw_row, mca_Mo_replace_0_j8])
theorem mca_Mo_replace_0_j6 {v : fw_V} {a2 : Int32} {x4 : Int32} {i k : Nat} : mf_Mo_replace_0_j6 v a2 x4 10 i k = v 10 i k := by
  unfold mf_Mo_replace_0_j6
  try dsimp only
  all_goals ((repeat' split) <;> simp [fw_up, fw_row, mca_Mo_replace_0_j7])
theorem mca_Mo_replace_0_j5 {v : fw_V} {a2 : Int32} {x4 : Int32} {i k : Nat} : mf_Mo_replace_0_j5 v a2 x4 10 i k = v 10 i k := by
  unfold mf_Mo_replace_0_j5
  try dsimp only
  all_goals ((repeat' split) <;> simp [fw_up, fw_row, mca_Mo_replace_0_j6, mca_Mo_replace_0_j7])
theorem mca_Mo_replace_0_j4 {v : fw_V} {a2 : Int32} {x4 : Int32} {i k : Nat} : mf_Mo_replace_0_j4 v a2 x4 10 i k = v 10 i k := by
  unfold mf_Mo_replace_0_j4
  try dsimp only
  all_goals ((repeat' split) <;> simp [fw_up, fw_row, mca_Mo_replace_0_j5])
theorem mca_Mo_replace_0_j3 {v0 : fw_V} {a2 : Int32} {i k : Nat} : mf_Mo_replace_0_j3 v0 a2 10 i k = v0 10 i k := by
  unfold mf_Mo_replace_0_j3
  try dsimp only
  all_goals ((repeat' split) <;> simp [fw_up, fw_row, mca_Mo_replace_0_j4])
theorem mca_Mo_replace_0_j11 {v0 : fw_V} {a2 : Int32} {i k : Nat} : mf_Mo_replace_0_j11 v0 a2 10 i k = v0 10 i k := by
  unfold mf_Mo_replace_0_j11
  try dsimp only
  all_goals ((repeat' split) <;> simp [fw_up, fw_row, mca_Mo_replace_0_j7])
theorem mca_Mo_replace_0_j13 {v0 : fw_V} {a2 : Int32} {i k : Nat} : mf_Mo_replace_0_j13 v0 a2 10 i k = v0 10 i k := by
  unfold mf_Mo_replace_0_j13
  try dsimp only
  all_goals ((repeat' split) <;> simp [fw_up, fw_row])
theorem mca_Mo_replace_0_j12 {v0 : fw_V} {a2 : Int32} {i k : Nat} : mf_Mo_replace_0_j12 v0 a2 10 i k = v0 10 i k := by
  unfold mf_Mo_replace_0_j12
  try dsimp only
  all_goals ((repeat' split) <;> simp [fw_up, fw_row, mca_Mo_replace_0_j13])
theorem mca_Mo_replace_0_j10 {v0 : fw_V} {a2 : Int32} {i k : Nat} : mf_Mo_replace_0_j10 v0 a2 10 i k = v0 10 i k := by
  unfold mf_Mo_replace_0_j10
  try dsimp only
  all_goals ((repeat' split) <;> simp [fw_up, fw_row, mca_Mo_replace_0_j11, mca_Mo_replace_0_j7, mca_Mo_replace_0_j12])
theorem mca_Mo_replace_0_j9 {v0 : fw_V} {a2 : Int32} {i k : Nat} : mf_Mo_replace_0_j9 v0 a2 10 i k = v0 10 i k := by
  unfold mf_Mo_replace_0_j9
  try dsimp only
  all_goals ((repeat' split) <;> simp [fw_up, fw_row, mca_Mo_replace_0_j10])
theorem mca_Mo_replace_0_j2 {v0 : fw_V} {a2 : Int32} {i k : Nat} : mf_Mo_replace_0_j2 v0 a2 10 i k = v0 10 i k := by
  unfold mf_Mo_replace_0_j2
  try dsimp only
  all_goals ((repeat' split) <;> simp [fw_up, fw_row, mca_Mo_replace_0_j3, mca_Mo_replace_0_j4, mca_Mo_replace_0_j9])
theorem mca_Mo_replace_0_j1 {v0 : fw_V} {a2 : Int32} {i k : Nat} : mf_Mo_replace_0_j1 v0 a2 10 i k = v0 10 i k := by
  unfold mf_Mo_replace_0_j1
  try dsimp only
  all_goals ((repeat' split) <;> simp [fw_up, fw_row, mca_Mo_replace_0_j2])
theorem mca_Mo_replace_0_j21 {v : fw_V} {a2 : Int32} {i k : Nat} : mf_Mo_replace_0_j21 v a2 10 i k = v 10 i k := by
  unfold mf_Mo_replace_0_j21
  try dsimp only
  all_goals ((repeat' split) <;> simp [fw_up, fw_row])
theorem mca_Mo_replace_0_j20 {v : fw_V} {a2 : Int32} {i k : Nat} : mf_Mo_replace_0_j20 v a2 10 i k = v 10 i k := by
  unfold mf_Mo_replace_0_j20
  try dsimp only
  all_goals ((repeat' split) <;> simp [fw_up, fw_row, mca_Mo_replace_0_j21])
theorem mca_Mo_replace_0_j19 {v : fw_V} {a2 : Int32} {i k : Nat} : mf_Mo_replace_0_j19 v a2 10 i k = v 10 i k := by
  unfold mf_Mo_replace_0_j19
  try dsimp only
  all_goals ((repeat' split) <;> simp [fw_up, fw_row, mca_Mo_replace_0_j20])
theorem mca_Mo_replace_0_j18 {v : fw_V} {a2 : Int32} {i k : Nat} : mf_Mo_replace_0_j18 v a2 10 i k = v 10 i k := by
  unfold mf_Mo_replace_0_j18
  try dsimp only
  all_goals ((repeat' split) <;> simp [fw_up, fw_row, mca_Mo_replace_0_j19])
theorem mca_Mo_replace_0_j17 {v : fw_V} {a2 : Int32} {i k : Nat} : mf_Mo_replace_0_j17 v a2 10 i k = v 10 i k := by
  unfold mf_Mo_replace_0_j17
  try dsimp only
  all_goals ((repeat' split) <;> simp [fw_up, fw_row, mca_Mo_replace_0_j18])
theorem mca_Mo_replace_0_j16 {v0 : fw_V} {a2 : Int32} {i k : Nat} : mf_Mo_replace_0_j16 v0 a2 10 i k = v0 10 i k := by
  unfold mf_Mo_replace_0_j16
  try dsimp only
  all_goals ((repeat' split) <;> simp [fw_up, fw_row, mca_Mo_replace_0_j17])
theorem mca_Mo_replace_0_j15 {v0 : fw_V} {a2 : Int32} {i k : Nat} : mf_Mo_replace_0_j15 v0 a2 10 i k = v0 10 i k := by
  unfold mf_Mo_replace_0_j15
  try dsimp only
  all_goals ((repeat' split) <;> simp [fw_up, fw_row, mca_Mo_replace_0_j16])
theorem mca_Mo_replace_0_j14 {v0 : fw_V} {a2 : Int32} {i k : Nat} : mf_Mo_replace_0_j14 v0 a2 10 i k = v0 10 i k := by
  unfold mf_Mo_replace_0_j14
  try dsimp only
  all_goals ((repeat' split) <;> simp [fw_up, fw_row, mca_Mo_replace_0_j15])
theorem mca_Mo_replace_0 {v0 : fw_V} {a2 : Int32} {i k : Nat} : mf_Mo_replace_0 v0 a2 10 i k = v0 10 i k := by
  unfold mf_Mo_replace_0
  try dsimp only
  all_goals ((repeat' split) <;> simp [fw_up, fw_row, mca_Mo_replace_0_j1, mca_Mo_replace_0_j14])
set_option maxHeartbeats 4000000 in
set_option maxRecDepth 100000 in
theorem mc_Mo_replace_0 (l : Launch) {D : va_G} {cA : Nat → ClassId} {ad : Nat → Nat → Nat} (hD : fw_D mCL ad) {b : Nat} (v0 : fw_V) (hI : mI b v0) (a2 : Int32) (hq0 : vp_in a2 3) : Met l my_Mo_replace (Cond.code my_Mo_replace mb_Mo_replace 7 none :: vTB) mrm_Mo_replace (fw_Pc vNL D vcls (vtys cA) mCL cA mkd ad v0 [.ref (ad 0 0), .int (0 : Int32), .int a2]) (fw_Qv D vcls mCL cA mkd ad (mI b) (mf_Mo_replace_0 v0 a2)) 0 0 (fw_A mCL ad) := by
  refine Met.ofW (cc := mb_Mo_replace) (maxL := 7) (ret := none) (by decide) rfl ?_
  intro p e s m args below meth c s₁ B hml hv
  obtain ⟨rfl, hP, hK, hN⟩ := hv
  have hx := B.exec
  have hb := B.bytes
  have hr := B.returns
  have hts : ∀ w ∈ vTB, w.before ([.ref (ad 0 0), .int (0 : Int32), .int a2] : List Value).toArray s = true := fun w h => atoms_spec (ws := (Cond.code my_Mo_replace mb_Mo_replace 7 none :: vTB)) B.pre w (List.mem_cons_of_mem _ h)
  have hown : s.vm.findClass R_Mo = some m.cls := findClass_of_methodNamed B.named
  have hlocks := B.notSynchronized
  have hS : va_S (fw_A mCL ad) s.heap s.heap [] := va_S.rf
  have J8 : ∀ (v : fw_V) (x4 : Int32) (H : Heap) (locs : List Loc) (ls : Array Slot), mf_Mo_replace_0 v0 a2 = mf_Mo_replace_0_j8 v a2 x4 → vp_in a2 3 → mI b v → va_P D vcls (fw_w mCL cA mkd ad v) H → va_S (fw_A mCL ad) s.heap H locs → lv_has ls 7 [(0, .ref (ad 0 0)), (1, .int (0 : Int32)), (2, .int a2), (4, .int x4), (5, .int (2 : Int32))] → W p l e (headSpec (Cond.code my_Mo_replace mb_Mo_replace 7 none :: vTB) mrm_Mo_replace).room s m ([.ref (ad 0 0), .int (0 : Int32), .int a2] : List Value).toArray below meth c H locs 0 0 (MQ below (fw_Qv D vcls mCL cA mkd ad (mI b) (mf_Mo_replace_0 v0 a2)) ([.ref (ad 0 0), .int (0 : Int32), .int a2] : List Value).toArray s 0 0 (fw_A mCL ad)) (F0 m 30 ls []) := by
    intro v x4 H locs ls hj hc0 hI hP hS hl
    refine lv_iload hx hb md_Mo_replace_30 (lv_at hl 4 rfl) ?_
    refine lv_iconst (v := (2 : Int32)) hx hb md_Mo_replace_32 (by decide) ?_
    refine lv_icmp_ge (tgt := 105) hx hb md_Mo_replace_33 (by decide) (fun _ => ?_) (fun c_10 => absurd (by decide) c_10)
    exact fw_vret hx hb hr hlocks hS hP hI md_Mo_replace_105 (by rw [hj]; simp only [mf_Mo_replace_0_j8])
  have J7 : ∀ (v : fw_V) (x4 : Int32) (H : Heap) (locs : List Loc) (ls : Array Slot), mf_Mo_replace_0 v0 a2 = mf_Mo_replace_0_j7 v a2 x4 → vp_in a2 3 → mI b v → va_P D vcls (fw_w mCL cA mkd ad v) H → va_S (fw_A mCL ad) s.heap H locs → lv_has ls 7 [(0, .ref (ad 0 0)), (1, .int (0 : Int32)), (2, .int a2), (4, .int x4), (5, .int (1 : Int32))] → W p l e (headSpec (Cond.code my_Mo_replace mb_Mo_replace 7 none :: vTB) mrm_Mo_replace).room s m ([.ref (ad 0 0), .int (0 : Int32), .int a2] : List Value).toArray below meth c H locs 0 0 (MQ below (fw_Qv D vcls mCL cA mkd ad (mI b) (mf_Mo_replace_0 v0 a2)) ([.ref (ad 0 0), .int (0 : Int32), .int a2] : List Value).toArray s 0 0 (fw_A mCL ad)) (F0 m 99 ls []) := by
    intro v x4 H locs ls hj hc0 hI hP hS hl
    refine lv_iinc (v := (2 : Int32)) (lv' := [(5, .int (2 : Int32)), (0, .ref (ad 0 0)), (1, .int (0 : Int32)), (2, .int a2), (4, .int x4)]) hx hb md_Mo_replace_99 hl (k := 4) rfl (by decide) (by decide) rfl (fun ls hl => ?_)
    refine lv_goto (tgt := 30) hx hb md_Mo_replace_102 (by decide) ?_
    exact J8 v (x4) _ _ _ (by rw [hj]; simp only [mf_Mo_replace_0_j7]) hc0  hI hP hS (lv_sub hl [1, 2, 3, 4, 0] rfl)
  have J6 : ∀ (v : fw_V) (x4 : Int32) (H : Heap) (locs : List Loc) (ls : Array Slot), mf_Mo_replace_0 v0 a2 = mf_Mo_replace_0_j6 v a2 x4 → vp_in a2 3 → mI b v → va_P D vcls (fw_w mCL cA mkd ad v) H → va_S (fw_A mCL ad) s.heap H locs → lv_has ls 7 [(0, .ref (ad 0 0)), (1, .int (0 : Int32)), (2, .int a2), (4, .int x4), (5, .int (1 : Int32)), (6, .int (((0 : Int32) + ((2 : Int32) * a2)) + (1 : Int32)))] → W p l e (headSpec (Cond.code my_Mo_replace mb_Mo_replace 7 none :: vTB) mrm_Mo_replace).room s m ([.ref (ad 0 0), .int (0 : Int32), .int a2] : List Value).toArray below meth c H locs 0 0 (MQ below (fw_Qv D vcls mCL cA mkd ad (mI b) (mf_Mo_replace_0 v0 a2)) ([.ref (ad 0 0), .int (0 : Int32), .int a2] : List Value).toArray s 0 0 (fw_A mCL ad)) (F0 m 65 ls []) := by
    intro v x4 H locs ls hj hc0 hI hP hS hl
    clear J8
    refine lv_aload_n hx hb md_Mo_replace_65 rfl (lv_at hl 0 rfl) ?_
    refine fw_getr hx hb hts i_Mo hown hK hP (mm_0 (by decide)) (mk_0 0) rfl 45 (by decide) (hts _ L_Mo_143) (fun _ h9 => h9) rfl md_Mo_replace_66 ?_
    refine lv_iload hx hb md_Mo_replace_69 (lv_at hl 5 rfl) ?_
    refine lv_iconst (v := (0 : Int32)) hx hb md_Mo_replace_71 (by decide) ?_
    refine fw_iast hx hb hK hD hP hS (mm_46 (by decide)) (mk_46 0) 0 rfl (j := (((0 : Int32) + ((2 : Int32) * a2)) + (1 : Int32)).toNatClampNeg) rfl (fw_inp1 (fw_inm (fw_inadd2 (n := 1) (m := 5) (t := 5) (fw_inc (by decide)) (fw_inmul (c := (2 : Int32)) (k := 2) (n := 3) (m := 5) rfl hc0 (by decide) (by decide)) (by decide)) (by decide)) (by decide)) md_Mo_replace_72 (fun v9 H locs ev9 hP hS => ?_)
    have hI : mI b v9 := by rw [ev9]; exact mI_up hI trivial trivial
    refine lv_goto (tgt := 99) hx hb md_Mo_replace_73 (by decide) ?_
    exact J7 v9 (x4) _ _ _ (by rw [hj]; subst ev9; simp only [mf_Mo_replace_0_j6]) hc0  hI hP hS (lv_sub hl [0, 1, 2, 3, 4] rfl)
  have J5 : ∀ (v : fw_V) (x4 : Int32) (H : Heap) (locs : List Loc) (ls : Array Slot), mf_Mo_replace_0 v0 a2 = mf_Mo_replace_0_j5 v a2 x4 → vp_in a2 3 → mI b v → va_P D vcls (fw_w mCL cA mkd ad v) H → va_S (fw_A mCL ad) s.heap H locs → lv_has ls 7 [(0, .ref (ad 0 0)), (1, .int (0 : Int32)), (2, .int a2), (4, .int x4), (5, .int (1 : Int32))] → W p l e (headSpec (Cond.code my_Mo_replace mb_Mo_replace 7 none :: vTB) mrm_Mo_replace).room s m ([.ref (ad 0 0), .int (0 : Int32), .int a2] : List Value).toArray below meth c H locs 0 0 (MQ below (fw_Qv D vcls mCL cA mkd ad (mI b) (mf_Mo_replace_0 v0 a2)) ([.ref (ad 0 0), .int (0 : Int32), .int a2] : List Value).toArray s 0 0 (fw_A mCL ad)) (F0 m 30 ls []) := by
    intro v x4 H locs ls hj hc0 hI hP hS hl
    clear J8
    refine lv_iload hx hb md_Mo_replace_30 (lv_at hl 4 rfl) ?_
    refine lv_iconst (v := (2 : Int32)) hx hb md_Mo_replace_32 (by decide) ?_
    refine lv_icmp_ge (tgt := 105) hx hb md_Mo_replace_33 (by decide) (fun c_7 => absurd c_7 (by decide)) (fun _ => ?_)
    refine lv_bipush (v := (6 : Int32)) hx hb md_Mo_replace_36 (by decide) ?_
    refine lv_iload_n hx hb md_Mo_replace_38 rfl (lv_at hl 1 rfl) ?_
    refine lv_imul hx hb md_Mo_replace_39 ?_
    refine fw_top (y := (0 : Int32)) (by decide) ?_
    refine lv_iconst (v := (2 : Int32)) hx hb md_Mo_replace_40 (by decide) ?_
    refine lv_iload_n hx hb md_Mo_replace_41 rfl (lv_at hl 2 rfl) ?_
    refine lv_imul hx hb md_Mo_replace_42 ?_
    refine lv_iadd hx hb md_Mo_replace_43 ?_
    refine lv_iload hx hb md_Mo_replace_44 (lv_at hl 4 rfl) ?_
    refine lv_iadd hx hb md_Mo_replace_46 ?_
    refine lv_istore (lv' := [(6, .int (((0 : Int32) + ((2 : Int32) * a2)) + (1 : Int32))), (0, .ref (ad 0 0)), (1, .int (0 : Int32)), (2, .int a2), (4, .int x4), (5, .int (1 : Int32))]) hx hb md_Mo_replace_47 hl (by decide) rfl (fun ls hl => ?_)
    refine lv_iload hx hb md_Mo_replace_49 (lv_at hl 5 rfl) ?_
    refine lv_iload hx hb md_Mo_replace_51 (lv_at hl 4 rfl) ?_
    refine lv_icmp_ge (tgt := 65) hx hb md_Mo_replace_53 (by decide) (fun c_8 => ?_) (fun c_8 => ?_)
    · exact J6 v (x4) _ _ _ (by rw [hj]; simp only [mf_Mo_replace_0_j5, if_pos c_8]) hc0  hI hP hS (lv_sub hl [1, 2, 3, 4, 5, 0] rfl)
    · refine lv_aload_n hx hb md_Mo_replace_56 rfl (lv_at hl 1 rfl) ?_
      refine fw_getr hx hb hts i_Mo hown hK hP (mm_0 (by decide)) (mk_0 0) rfl 39 (by decide) (hts _ L_Mo_125) (fun _ h9 => h9) rfl md_Mo_replace_57 ?_
      refine lv_iload_n hx hb md_Mo_replace_60 rfl (lv_at hl 2 rfl) ?_
      refine fw_iald hx hb hK hP (mm_40 (by decide)) (mk_40 0) 0 rfl (j := 0) (by decide) (fw_inc (by decide)) md_Mo_replace_61 ?_
      refine lv_if_ne (tgt := 76) hx hb md_Mo_replace_62 (by decide) (fun c_11 => ?_) (fun c_11 => ?_)
      · refine lv_aload_n hx hb md_Mo_replace_76 rfl (lv_at hl 1 rfl) ?_
        refine fw_getr hx hb hts i_Mo hown hK hP (mm_0 (by decide)) (mk_0 0) rfl 39 (by decide) (hts _ L_Mo_125) (fun _ h9 => h9) rfl md_Mo_replace_77 ?_
        refine lv_iload_n hx hb md_Mo_replace_80 rfl (lv_at hl 2 rfl) ?_
        refine fw_iald hx hb hK hP (mm_40 (by decide)) (mk_40 0) 0 rfl (j := 0) (by decide) (fw_inc (by decide)) md_Mo_replace_81 ?_
        refine lv_iconst (v := (2 : Int32)) hx hb md_Mo_replace_82 (by decide) ?_
        refine lv_icmp_ne (tgt := 99) hx hb md_Mo_replace_83 (by decide) (fun c_12 => ?_) (fun c_12 => ?_)
        · exact J7 v (x4) _ _ _ (by rw [hj]; simp only [mf_Mo_replace_0_j5, if_neg c_8, if_neg c_11, if_neg c_12]) hc0  hI hP hS (lv_sub hl [1, 2, 3, 4, 5] rfl)
        · refine lv_aload_n hx hb md_Mo_replace_86 rfl (lv_at hl 1 rfl) ?_
          refine fw_getr hx hb hts i_Mo hown hK hP (mm_0 (by decide)) (mk_0 0) rfl 45 (by decide) (hts _ L_Mo_143) (fun _ h9 => h9) rfl md_Mo_replace_87 ?_
          refine lv_iload hx hb md_Mo_replace_90 (lv_at hl 0 rfl) ?_
          refine lv_aload_n hx hb md_Mo_replace_92 rfl (lv_at hl 1 rfl) ?_
          refine fw_getr hx hb hts i_Mo hown hK hP (mm_0 (by decide)) (mk_0 0) rfl 40 (by decide) (hts _ L_Mo_128) (fun _ h9 => h9) rfl md_Mo_replace_93 ?_
          refine lv_iload_n hx hb md_Mo_replace_96 rfl (lv_at hl 2 rfl) ?_
          refine fw_iald hx hb hK hP (mm_41 (by decide)) (mk_41 0) 0 rfl (j := 0) (by decide) (fw_inc (by decide)) md_Mo_replace_97 ?_
          refine fw_iast hx hb hK hD hP hS (mm_46 (by decide)) (mk_46 0) 0 rfl (j := (((0 : Int32) + ((2 : Int32) * a2)) + (1 : Int32)).toNatClampNeg) rfl (fw_inp1 (fw_inm (fw_inadd2 (n := 1) (m := 5) (t := 5) (fw_inc (by decide)) (fw_inmul (c := (2 : Int32)) (k := 2) (n := 3) (m := 5) rfl hc0 (by decide) (by decide)) (by decide)) (by decide)) (by decide)) md_Mo_replace_98 (fun v13 H locs ev13 hP hS => ?_)
          have hI : mI b v13 := by rw [ev13]; exact mI_up hI trivial trivial
          exact J7 v13 (x4) _ _ _ (by rw [hj]; subst ev13; simp only [mf_Mo_replace_0_j5, if_neg c_8, if_neg c_11, if_pos c_12]) hc0  hI hP hS (lv_sub hl [1, 2, 3, 4, 5] rfl)
      · exact J6 v (x4) _ _ _ (by rw [hj]; simp only [mf_Mo_replace_0_j5, if_neg c_8, if_pos c_11]) hc0  hI hP hS (lv_sub hl [1, 2, 3, 4, 5, 0] rfl)
  have J4 : ∀ (v : fw_V) (x4 : Int32) (H : Heap) (locs : List Loc) (ls : Array Slot), mf_Mo_replace_0 v0 a2 = mf_Mo_replace_0_j4 v a2 x4 → vp_in a2 3 → mI b v → va_P D vcls (fw_w mCL cA mkd ad v) H → va_S (fw_A mCL ad) s.heap H locs → lv_has ls 7 [(0, .ref (ad 0 0)), (1, .int (0 : Int32)), (2, .int a2), (4, .int x4), (5, .int (0 : Int32))] → W p l e (headSpec (Cond.code my_Mo_replace mb_Mo_replace 7 none :: vTB) mrm_Mo_replace).room s m ([.ref (ad 0 0), .int (0 : Int32), .int a2] : List Value).toArray below meth c H locs 0 0 (MQ below (fw_Qv D vcls mCL cA mkd ad (mI b) (mf_Mo_replace_0 v0 a2)) ([.ref (ad 0 0), .int (0 : Int32), .int a2] : List Value).toArray s 0 0 (fw_A mCL ad)) (F0 m 99 ls []) := by
    intro v x4 H locs ls hj hc0 hI hP hS hl
    clear J8 J7 J6
    refine lv_iinc (v := (1 : Int32)) (lv' := [(5, .int (1 : Int32)), (0, .ref (ad 0 0)), (1, .int (0 : Int32)), (2, .int a2), (4, .int x4)]) hx hb md_Mo_replace_99 hl (k := 4) rfl (by decide) (by decide) rfl (fun ls hl => ?_)
    refine lv_goto (tgt := 30) hx hb md_Mo_replace_102 (by decide) ?_
    exact J5 v (x4) _ _ _ (by rw [hj]; simp only [mf_Mo_replace_0_j4]) hc0  hI hP hS (lv_sub hl [1, 2, 3, 4, 0] rfl)
  have J3 : ∀  (H : Heap) (locs : List Loc) (ls : Array Slot), mf_Mo_replace_0 v0 a2 = mf_Mo_replace_0_j3 v0 a2 → vp_in a2 3 → mI b v0 → va_P D vcls (fw_w mCL cA mkd ad v0) H → va_S (fw_A mCL ad) s.heap H locs → lv_has ls 7 [(0, .ref (ad 0 0)), (1, .int (0 : Int32)), (2, .int a2), (4, .int (v0 2 0 (v0 42 0 ((0 : Int32) + a2).toNatClampNeg).toNatClampNeg)), (5, .int (0 : Int32)), (6, .int (((0 : Int32) + ((2 : Int32) * a2)) + (0 : Int32)))] → W p l e (headSpec (Cond.code my_Mo_replace mb_Mo_replace 7 none :: vTB) mrm_Mo_replace).room s m ([.ref (ad 0 0), .int (0 : Int32), .int a2] : List Value).toArray below meth c H locs 0 0 (MQ below (fw_Qv D vcls mCL cA mkd ad (mI b) (mf_Mo_replace_0 v0 a2)) ([.ref (ad 0 0), .int (0 : Int32), .int a2] : List Value).toArray s 0 0 (fw_A mCL ad)) (F0 m 65 ls []) := by
    intro  H locs ls hj hc0 hI hP hS hl
    clear J8 J7 J6 J5
    refine lv_aload_n hx hb md_Mo_replace_65 rfl (lv_at hl 0 rfl) ?_
    refine fw_getr hx hb hts i_Mo hown hK hP (mm_0 (by decide)) (mk_0 0) rfl 45 (by decide) (hts _ L_Mo_143) (fun _ h9 => h9) rfl md_Mo_replace_66 ?_
    refine lv_iload hx hb md_Mo_replace_69 (lv_at hl 5 rfl) ?_
    refine lv_iconst (v := (0 : Int32)) hx hb md_Mo_replace_71 (by decide) ?_
    refine fw_iast hx hb hK hD hP hS (mm_46 (by decide)) (mk_46 0) 0 rfl (j := (((0 : Int32) + ((2 : Int32) * a2)) + (0 : Int32)).toNatClampNeg) rfl (fw_inm (fw_inadd2 (n := 5) (m := 1) (t := 5) (fw_inadd2 (n := 1) (m := 5) (t := 5) (fw_inc (by decide)) (fw_inmul (c := (2 : Int32)) (k := 2) (n := 3) (m := 5) rfl hc0 (by decide) (by decide)) (by decide)) (fw_inc (by decide)) (by decide)) (by decide)) md_Mo_replace_72 (fun v6 H locs ev6 hP hS => ?_)
    have hI : mI b v6 := by rw [ev6]; exact mI_up hI trivial trivial
    refine lv_goto (tgt := 99) hx hb md_Mo_replace_73 (by decide) ?_
    exact J4 v6 ((v0 2 0 (v0 42 0 ((0 : Int32) + a2).toNatClampNeg).toNatClampNeg)) _ _ _ (by rw [hj]; subst ev6; simp only [mf_Mo_replace_0_j3]) hc0  hI hP hS (lv_sub hl [0, 1, 2, 3, 4] rfl)
  have J11 : ∀  (H : Heap) (locs : List Loc) (ls : Array Slot), mf_Mo_replace_0 v0 a2 = mf_Mo_replace_0_j11 v0 a2 → vp_in a2 3 → mI b v0 → va_P D vcls (fw_w mCL cA mkd ad v0) H → va_S (fw_A mCL ad) s.heap H locs → lv_has ls 7 [(0, .ref (ad 0 0)), (1, .int (0 : Int32)), (2, .int a2), (4, .int (v0 2 0 (v0 42 0 ((0 : Int32) + a2).toNatClampNeg).toNatClampNeg)), (5, .int (1 : Int32)), (6, .int (((0 : Int32) + ((2 : Int32) * a2)) + (1 : Int32)))] → W p l e (headSpec (Cond.code my_Mo_replace mb_Mo_replace 7 none :: vTB) mrm_Mo_replace).room s m ([.ref (ad 0 0), .int (0 : Int32), .int a2] : List Value).toArray below meth c H locs 0 0 (MQ below (fw_Qv D vcls mCL cA mkd ad (mI b) (mf_Mo_replace_0 v0 a2)) ([.ref (ad 0 0), .int (0 : Int32), .int a2] : List Value).toArray s 0 0 (fw_A mCL ad)) (F0 m 65 ls []) := by
    intro  H locs ls hj hc0 hI hP hS hl
    clear J8 J6 J5 J4 J3
    refine lv_aload_n hx hb md_Mo_replace_65 rfl (lv_at hl 0 rfl) ?_
    refine fw_getr hx hb hts i_Mo hown hK hP (mm_0 (by decide)) (mk_0 0) rfl 45 (by decide) (hts _ L_Mo_143) (fun _ h9 => h9) rfl md_Mo_replace_66 ?_
    refine lv_iload hx hb md_Mo_replace_69 (lv_at hl 5 rfl) ?_
    refine lv_iconst (v := (0 : Int32)) hx hb md_Mo_replace_71 (by decide) ?_
    refine fw_iast hx hb hK hD hP hS (mm_46 (by decide)) (mk_46 0) 0 rfl (j := (((0 : Int32) + ((2 : Int32) * a2)) + (1 : Int32)).toNatClampNeg) rfl (fw_inp1 (fw_inm (fw_inadd2 (n := 1) (m := 5) (t := 5) (fw_inc (by decide)) (fw_inmul (c := (2 : Int32)) (k := 2) (n := 3) (m := 5) rfl hc0 (by decide) (by decide)) (by decide)) (by decide)) (by decide)) md_Mo_replace_72 (fun v18 H locs ev18 hP hS => ?_)
    have hI : mI b v18 := by rw [ev18]; exact mI_up hI trivial trivial
    refine lv_goto (tgt := 99) hx hb md_Mo_replace_73 (by decide) ?_
    exact J7 v18 ((v0 2 0 (v0 42 0 ((0 : Int32) + a2).toNatClampNeg).toNatClampNeg)) _ _ _ (by rw [hj]; subst ev18; simp only [mf_Mo_replace_0_j11]) hc0  hI hP hS (lv_sub hl [0, 1, 2, 3, 4] rfl)
  have J13 : ∀  (H : Heap) (locs : List Loc) (ls : Array Slot), mf_Mo_replace_0 v0 a2 = mf_Mo_replace_0_j13 v0 a2 → vp_in a2 3 → mI b v0 → va_P D vcls (fw_w mCL cA mkd ad v0) H → va_S (fw_A mCL ad) s.heap H locs → lv_has ls 7 [(0, .ref (ad 0 0)), (1, .int (0 : Int32)), (2, .int a2), (4, .int (v0 2 0 (v0 42 0 ((0 : Int32) + a2).toNatClampNeg).toNatClampNeg)), (5, .int (2 : Int32))] → W p l e (headSpec (Cond.code my_Mo_replace mb_Mo_replace 7 none :: vTB) mrm_Mo_replace).room s m ([.ref (ad 0 0), .int (0 : Int32), .int a2] : List Value).toArray below meth c H locs 0 0 (MQ below (fw_Qv D vcls mCL cA mkd ad (mI b) (mf_Mo_replace_0 v0 a2)) ([.ref (ad 0 0), .int (0 : Int32), .int a2] : List Value).toArray s 0 0 (fw_A mCL ad)) (F0 m 30 ls []) := by
    intro  H locs ls hj hc0 hI hP hS hl
    clear J8 J7 J6 J5 J4 J3 J11
    refine lv_iload hx hb md_Mo_replace_30 (lv_at hl 4 rfl) ?_
    refine lv_iconst (v := (2 : Int32)) hx hb md_Mo_replace_32 (by decide) ?_
    refine lv_icmp_ge (tgt := 105) hx hb md_Mo_replace_33 (by decide) (fun _ => ?_) (fun c_21 => absurd (by decide) c_21)
    exact fw_vret hx hb hr hlocks hS hP hI md_Mo_replace_105 (by rw [hj]; simp only [mf_Mo_replace_0_j13])
  have J12 : ∀  (H : Heap) (locs : List Loc) (ls : Array Slot), mf_Mo_replace_0 v0 a2 = mf_Mo_replace_0_j12 v0 a2 → vp_in a2 3 → mI b v0 → va_P D vcls (fw_w mCL cA mkd ad v0) H → va_S (fw_A mCL ad) s.heap H locs → lv_has ls 7 [(0, .ref (ad 0 0)), (1, .int (0 : Int32)), (2, .int a2), (4, .int (v0 2 0 (v0 42 0 ((0 : Int32) + a2).toNatClampNeg).toNatClampNeg)), (5, .int (1 : Int32))] → W p l e (headSpec (Cond.code my_Mo_replace mb_Mo_replace 7 none :: vTB) mrm_Mo_replace).room s m ([.ref (ad 0 0), .int (0 : Int32), .int a2] : List Value).toArray below meth c H locs 0 0 (MQ below (fw_Qv D vcls mCL cA mkd ad (mI b) (mf_Mo_replace_0 v0 a2)) ([.ref (ad 0 0), .int (0 : Int32), .int a2] : List Value).toArray s 0 0 (fw_A mCL ad)) (F0 m 99 ls []) := by
    intro  H locs ls hj hc0 hI hP hS hl
    clear J8 J7 J6 J5 J4 J3 J11
    refine lv_iinc (v := (2 : Int32)) (lv' := [(5, .int (2 : Int32)), (0, .ref (ad 0 0)), (1, .int (0 : Int32)), (2, .int a2), (4, .int (v0 2 0 (v0 42 0 ((0 : Int32) + a2).toNatClampNeg).toNatClampNeg))]) hx hb md_Mo_replace_99 hl (k := 4) rfl (by decide) (by decide) rfl (fun ls hl => ?_)
    refine lv_goto (tgt := 30) hx hb md_Mo_replace_102 (by decide) ?_
    exact J13  _ _ _ (by rw [hj]; simp only [mf_Mo_replace_0_j12]) hc0  hI hP hS (lv_sub hl [1, 2, 3, 4, 0] rfl)
  have J10 : ∀  (H : Heap) (locs : List Loc) (ls : Array Slot), mf_Mo_replace_0 v0 a2 = mf_Mo_replace_0_j10 v0 a2 → vp_in a2 3 → mI b v0 → va_P D vcls (fw_w mCL cA mkd ad v0) H → va_S (fw_A mCL ad) s.heap H locs → lv_has ls 7 [(0, .ref (ad 0 0)), (1, .int (0 : Int32)), (2, .int a2), (4, .int (v0 2 0 (v0 42 0 ((0 : Int32) + a2).toNatClampNeg).toNatClampNeg)), (5, .int (1 : Int32))] → W p l e (headSpec (Cond.code my_Mo_replace mb_Mo_replace 7 none :: vTB) mrm_Mo_replace).room s m ([.ref (ad 0 0), .int (0 : Int32), .int a2] : List Value).toArray below meth c H locs 0 0 (MQ below (fw_Qv D vcls mCL cA mkd ad (mI b) (mf_Mo_replace_0 v0 a2)) ([.ref (ad 0 0), .int (0 : Int32), .int a2] : List Value).toArray s 0 0 (fw_A mCL ad)) (F0 m 30 ls []) := by
    intro  H locs ls hj hc0 hI hP hS hl
    clear J8 J6 J5 J4 J3 J13
    refine lv_iload hx hb md_Mo_replace_30 (lv_at hl 4 rfl) ?_
    refine lv_iconst (v := (2 : Int32)) hx hb md_Mo_replace_32 (by decide) ?_
    refine lv_icmp_ge (tgt := 105) hx hb md_Mo_replace_33 (by decide) (fun c_16 => absurd c_16 (by decide)) (fun _ => ?_)
    refine lv_bipush (v := (6 : Int32)) hx hb md_Mo_replace_36 (by decide) ?_
    refine lv_iload_n hx hb md_Mo_replace_38 rfl (lv_at hl 1 rfl) ?_
    refine lv_imul hx hb md_Mo_replace_39 ?_
    refine fw_top (y := (0 : Int32)) (by decide) ?_
    refine lv_iconst (v := (2 : Int32)) hx hb md_Mo_replace_40 (by decide) ?_
    refine lv_iload_n hx hb md_Mo_replace_41 rfl (lv_at hl 2 rfl) ?_
    refine lv_imul hx hb md_Mo_replace_42 ?_
    refine lv_iadd hx hb md_Mo_replace_43 ?_
    refine lv_iload hx hb md_Mo_replace_44 (lv_at hl 4 rfl) ?_
    refine lv_iadd hx hb md_Mo_replace_46 ?_
    refine lv_istore (lv' := [(6, .int (((0 : Int32) + ((2 : Int32) * a2)) + (1 : Int32))), (0, .ref (ad 0 0)), (1, .int (0 : Int32)), (2, .int a2), (4, .int (v0 2 0 (v0 42 0 ((0 : Int32) + a2).toNatClampNeg).toNatClampNeg)), (5, .int (1 : Int32))]) hx hb md_Mo_replace_47 hl (by decide) rfl (fun ls hl => ?_)
    refine lv_iload hx hb md_Mo_replace_49 (lv_at hl 5 rfl) ?_
    refine lv_iload hx hb md_Mo_replace_51 (lv_at hl 4 rfl) ?_
    refine lv_icmp_ge (tgt := 65) hx hb md_Mo_replace_53 (by decide) (fun c_17 => ?_) (fun c_17 => ?_)
    · exact J11  _ _ _ (by rw [hj]; simp only [mf_Mo_replace_0_j10, if_pos c_17]) hc0  hI hP hS (lv_sub hl [1, 2, 3, 4, 5, 0] rfl)
    · refine lv_aload_n hx hb md_Mo_replace_56 rfl (lv_at hl 1 rfl) ?_
      refine fw_getr hx hb hts i_Mo hown hK hP (mm_0 (by decide)) (mk_0 0) rfl 39 (by decide) (hts _ L_Mo_125) (fun _ h9 => h9) rfl md_Mo_replace_57 ?_
      refine lv_iload_n hx hb md_Mo_replace_60 rfl (lv_at hl 2 rfl) ?_
      refine fw_iald hx hb hK hP (mm_40 (by decide)) (mk_40 0) 0 rfl (j := 0) (by decide) (fw_inc (by decide)) md_Mo_replace_61 ?_
      refine lv_if_ne (tgt := 76) hx hb md_Mo_replace_62 (by decide) (fun c_19 => ?_) (fun c_19 => ?_)
      · refine lv_aload_n hx hb md_Mo_replace_76 rfl (lv_at hl 1 rfl) ?_
        refine fw_getr hx hb hts i_Mo hown hK hP (mm_0 (by decide)) (mk_0 0) rfl 39 (by decide) (hts _ L_Mo_125) (fun _ h9 => h9) rfl md_Mo_replace_77 ?_
        refine lv_iload_n hx hb md_Mo_replace_80 rfl (lv_at hl 2 rfl) ?_
        refine fw_iald hx hb hK hP (mm_40 (by decide)) (mk_40 0) 0 rfl (j := 0) (by decide) (fw_inc (by decide)) md_Mo_replace_81 ?_
        refine lv_iconst (v := (2 : Int32)) hx hb md_Mo_replace_82 (by decide) ?_
        refine lv_icmp_ne (tgt := 99) hx hb md_Mo_replace_83 (by decide) (fun c_20 => ?_) (fun c_20 => ?_)
        · exact J12  _ _ _ (by rw [hj]; simp only [mf_Mo_replace_0_j10, if_neg c_17, if_neg c_19, if_neg c_20]) hc0  hI hP hS (lv_sub hl [1, 2, 3, 4, 5] rfl)
        · refine lv_aload_n hx hb md_Mo_replace_86 rfl (lv_at hl 1 rfl) ?_
          refine fw_getr hx hb hts i_Mo hown hK hP (mm_0 (by decide)) (mk_0 0) rfl 45 (by decide) (hts _ L_Mo_143) (fun _ h9 => h9) rfl md_Mo_replace_87 ?_
          refine lv_iload hx hb md_Mo_replace_90 (lv_at hl 0 rfl) ?_
          refine lv_aload_n hx hb md_Mo_replace_92 rfl (lv_at hl 1 rfl) ?_
          refine fw_getr hx hb hts i_Mo hown hK hP (mm_0 (by decide)) (mk_0 0) rfl 40 (by decide) (hts _ L_Mo_128) (fun _ h9 => h9) rfl md_Mo_replace_93 ?_
          refine lv_iload_n hx hb md_Mo_replace_96 rfl (lv_at hl 2 rfl) ?_
          refine fw_iald hx hb hK hP (mm_41 (by decide)) (mk_41 0) 0 rfl (j := 0) (by decide) (fw_inc (by decide)) md_Mo_replace_97 ?_
          refine fw_iast hx hb hK hD hP hS (mm_46 (by decide)) (mk_46 0) 0 rfl (j := (((0 : Int32) + ((2 : Int32) * a2)) + (1 : Int32)).toNatClampNeg) rfl (fw_inp1 (fw_inm (fw_inadd2 (n := 1) (m := 5) (t := 5) (fw_inc (by decide)) (fw_inmul (c := (2 : Int32)) (k := 2) (n := 3) (m := 5) rfl hc0 (by decide) (by decide)) (by decide)) (by decide)) (by decide)) md_Mo_replace_98 (fun v22 H locs ev22 hP hS => ?_)
          have hI : mI b v22 := by rw [ev22]; exact mI_up hI trivial trivial
          exact J7 v22 ((v0 2 0 (v0 42 0 ((0 : Int32) + a2).toNatClampNeg).toNatClampNeg)) _ _ _ (by rw [hj]; subst ev22; simp only [mf_Mo_replace_0_j10, if_neg c_17, if_neg c_19, if_pos c_20]) hc0  hI hP hS (lv_sub hl [1, 2, 3, 4, 5] rfl)
      · exact J11  _ _ _ (by rw [hj]; simp only [mf_Mo_replace_0_j10, if_neg c_17, if_pos c_19]) hc0  hI hP hS (lv_sub hl [1, 2, 3, 4, 5, 0] rfl)
  have J9 : ∀  (H : Heap) (locs : List Loc) (ls : Array Slot), mf_Mo_replace_0 v0 a2 = mf_Mo_replace_0_j9 v0 a2 → vp_in a2 3 → mI b v0 → va_P D vcls (fw_w mCL cA mkd ad v0) H → va_S (fw_A mCL ad) s.heap H locs → lv_has ls 7 [(0, .ref (ad 0 0)), (1, .int (0 : Int32)), (2, .int a2), (4, .int (v0 2 0 (v0 42 0 ((0 : Int32) + a2).toNatClampNeg).toNatClampNeg)), (5, .int (0 : Int32))] → W p l e (headSpec (Cond.code my_Mo_replace mb_Mo_replace 7 none :: vTB) mrm_Mo_replace).room s m ([.ref (ad 0 0), .int (0 : Int32), .int a2] : List Value).toArray below meth c H locs 0 0 (MQ below (fw_Qv D vcls mCL cA mkd ad (mI b) (mf_Mo_replace_0 v0 a2)) ([.ref (ad 0 0), .int (0 : Int32), .int a2] : List Value).toArray s 0 0 (fw_A mCL ad)) (F0 m 99 ls []) := by
    intro  H locs ls hj hc0 hI hP hS hl
    clear J8 J7 J6 J5 J4 J3 J11 J13 J12
    refine lv_iinc (v := (1 : Int32)) (lv' := [(5, .int (1 : Int32)), (0, .ref (ad 0 0)), (1, .int (0 : Int32)), (2, .int a2), (4, .int (v0 2 0 (v0 42 0 ((0 : Int32) + a2).toNatClampNeg).toNatClampNeg))]) hx hb md_Mo_replace_99 hl (k := 4) rfl (by decide) (by decide) rfl (fun ls hl => ?_)
    refine lv_goto (tgt := 30) hx hb md_Mo_replace_102 (by decide) ?_
    exact J10  _ _ _ (by rw [hj]; simp only [mf_Mo_replace_0_j9]) hc0  hI hP hS (lv_sub hl [1, 2, 3, 4, 0] rfl)
  have J2 : ∀  (H : Heap) (locs : List Loc) (ls : Array Slot), mf_Mo_replace_0 v0 a2 = mf_Mo_replace_0_j2 v0 a2 → vp_in a2 3 → mI b v0 → va_P D vcls (fw_w mCL cA mkd ad v0) H → va_S (fw_A mCL ad) s.heap H locs → lv_has ls 7 [(0, .ref (ad 0 0)), (1, .int (0 : Int32)), (2, .int a2), (4, .int (v0 2 0 (v0 42 0 ((0 : Int32) + a2).toNatClampNeg).toNatClampNeg)), (5, .int (0 : Int32))] → W p l e (headSpec (Cond.code my_Mo_replace mb_Mo_replace 7 none :: vTB) mrm_Mo_replace).room s m ([.ref (ad 0 0), .int (0 : Int32), .int a2] : List Value).toArray below meth c H locs 0 0 (MQ below (fw_Qv D vcls mCL cA mkd ad (mI b) (mf_Mo_replace_0 v0 a2)) ([.ref (ad 0 0), .int (0 : Int32), .int a2] : List Value).toArray s 0 0 (fw_A mCL ad)) (F0 m 30 ls []) := by
    intro  H locs ls hj hc0 hI hP hS hl
    clear J8 J7 J6 J5 J11 J13 J12 J10
    refine lv_iload hx hb md_Mo_replace_30 (lv_at hl 4 rfl) ?_
    refine lv_iconst (v := (2 : Int32)) hx hb md_Mo_replace_32 (by decide) ?_
    refine lv_icmp_ge (tgt := 105) hx hb md_Mo_replace_33 (by decide) (fun c_4 => absurd c_4 (by decide)) (fun _ => ?_)
    refine lv_bipush (v := (6 : Int32)) hx hb md_Mo_replace_36 (by decide) ?_
    refine lv_iload_n hx hb md_Mo_replace_38 rfl (lv_at hl 1 rfl) ?_
    refine lv_imul hx hb md_Mo_replace_39 ?_
    refine fw_top (y := (0 : Int32)) (by decide) ?_
    refine lv_iconst (v := (2 : Int32)) hx hb md_Mo_replace_40 (by decide) ?_
    refine lv_iload_n hx hb md_Mo_replace_41 rfl (lv_at hl 2 rfl) ?_
    refine lv_imul hx hb md_Mo_replace_42 ?_
    refine lv_iadd hx hb md_Mo_replace_43 ?_
    refine lv_iload hx hb md_Mo_replace_44 (lv_at hl 4 rfl) ?_
    refine lv_iadd hx hb md_Mo_replace_46 ?_
    refine lv_istore (lv' := [(6, .int (((0 : Int32) + ((2 : Int32) * a2)) + (0 : Int32))), (0, .ref (ad 0 0)), (1, .int (0 : Int32)), (2, .int a2), (4, .int (v0 2 0 (v0 42 0 ((0 : Int32) + a2).toNatClampNeg).toNatClampNeg)), (5, .int (0 : Int32))]) hx hb md_Mo_replace_47 hl (by decide) rfl (fun ls hl => ?_)
    refine lv_iload hx hb md_Mo_replace_49 (lv_at hl 5 rfl) ?_
    refine lv_iload hx hb md_Mo_replace_51 (lv_at hl 4 rfl) ?_
    refine lv_icmp_ge (tgt := 65) hx hb md_Mo_replace_53 (by decide) (fun c_5 => ?_) (fun c_5 => ?_)
    · exact J3  _ _ _ (by rw [hj]; simp only [mf_Mo_replace_0_j2, if_pos c_5]) hc0  hI hP hS (lv_sub hl [1, 2, 3, 4, 5, 0] rfl)
    · refine lv_aload_n hx hb md_Mo_replace_56 rfl (lv_at hl 1 rfl) ?_
      refine fw_getr hx hb hts i_Mo hown hK hP (mm_0 (by decide)) (mk_0 0) rfl 39 (by decide) (hts _ L_Mo_125) (fun _ h9 => h9) rfl md_Mo_replace_57 ?_
      refine lv_iload_n hx hb md_Mo_replace_60 rfl (lv_at hl 2 rfl) ?_
      refine fw_iald hx hb hK hP (mm_40 (by decide)) (mk_40 0) 0 rfl (j := 0) (by decide) (fw_inc (by decide)) md_Mo_replace_61 ?_
      refine lv_if_ne (tgt := 76) hx hb md_Mo_replace_62 (by decide) (fun c_14 => ?_) (fun c_14 => ?_)
      · refine lv_aload_n hx hb md_Mo_replace_76 rfl (lv_at hl 1 rfl) ?_
        refine fw_getr hx hb hts i_Mo hown hK hP (mm_0 (by decide)) (mk_0 0) rfl 39 (by decide) (hts _ L_Mo_125) (fun _ h9 => h9) rfl md_Mo_replace_77 ?_
        refine lv_iload_n hx hb md_Mo_replace_80 rfl (lv_at hl 2 rfl) ?_
        refine fw_iald hx hb hK hP (mm_40 (by decide)) (mk_40 0) 0 rfl (j := 0) (by decide) (fw_inc (by decide)) md_Mo_replace_81 ?_
        refine lv_iconst (v := (2 : Int32)) hx hb md_Mo_replace_82 (by decide) ?_
        refine lv_icmp_ne (tgt := 99) hx hb md_Mo_replace_83 (by decide) (fun c_15 => ?_) (fun c_15 => ?_)
        · exact J9  _ _ _ (by rw [hj]; simp only [mf_Mo_replace_0_j2, if_neg c_5, if_neg c_14, if_neg c_15]) hc0  hI hP hS (lv_sub hl [1, 2, 3, 4, 5] rfl)
        · refine lv_aload_n hx hb md_Mo_replace_86 rfl (lv_at hl 1 rfl) ?_
          refine fw_getr hx hb hts i_Mo hown hK hP (mm_0 (by decide)) (mk_0 0) rfl 45 (by decide) (hts _ L_Mo_143) (fun _ h9 => h9) rfl md_Mo_replace_87 ?_
          refine lv_iload hx hb md_Mo_replace_90 (lv_at hl 0 rfl) ?_
          refine lv_aload_n hx hb md_Mo_replace_92 rfl (lv_at hl 1 rfl) ?_
          refine fw_getr hx hb hts i_Mo hown hK hP (mm_0 (by decide)) (mk_0 0) rfl 40 (by decide) (hts _ L_Mo_128) (fun _ h9 => h9) rfl md_Mo_replace_93 ?_
          refine lv_iload_n hx hb md_Mo_replace_96 rfl (lv_at hl 2 rfl) ?_
          refine fw_iald hx hb hK hP (mm_41 (by decide)) (mk_41 0) 0 rfl (j := 0) (by decide) (fw_inc (by decide)) md_Mo_replace_97 ?_
          refine fw_iast hx hb hK hD hP hS (mm_46 (by decide)) (mk_46 0) 0 rfl (j := (((0 : Int32) + ((2 : Int32) * a2)) + (0 : Int32)).toNatClampNeg) rfl (fw_inm (fw_inadd2 (n := 5) (m := 1) (t := 5) (fw_inadd2 (n := 1) (m := 5) (t := 5) (fw_inc (by decide)) (fw_inmul (c := (2 : Int32)) (k := 2) (n := 3) (m := 5) rfl hc0 (by decide) (by decide)) (by decide)) (fw_inc (by decide)) (by decide)) (by decide)) md_Mo_replace_98 (fun v23 H locs ev23 hP hS => ?_)
          have hI : mI b v23 := by rw [ev23]; exact mI_up hI trivial trivial
          exact J4 v23 ((v0 2 0 (v0 42 0 ((0 : Int32) + a2).toNatClampNeg).toNatClampNeg)) _ _ _ (by rw [hj]; subst ev23; simp only [mf_Mo_replace_0_j2, if_neg c_5, if_neg c_14, if_pos c_15]) hc0  hI hP hS (lv_sub hl [1, 2, 3, 4, 5] rfl)
      · exact J3  _ _ _ (by rw [hj]; simp only [mf_Mo_replace_0_j2, if_neg c_5, if_pos c_14]) hc0  hI hP hS (lv_sub hl [1, 2, 3, 4, 5, 0] rfl)
  have J1 : ∀  (H : Heap) (locs : List Loc) (ls : Array Slot), mf_Mo_replace_0 v0 a2 = mf_Mo_replace_0_j1 v0 a2 → vp_in a2 3 → mI b v0 → va_P D vcls (fw_w mCL cA mkd ad v0) H → va_S (fw_A mCL ad) s.heap H locs → lv_has ls 7 [(0, .ref (ad 0 0)), (1, .int (0 : Int32)), (2, .int a2)] → W p l e (headSpec (Cond.code my_Mo_replace mb_Mo_replace 7 none :: vTB) mrm_Mo_replace).room s m ([.ref (ad 0 0), .int (0 : Int32), .int a2] : List Value).toArray below meth c H locs 0 0 (MQ below (fw_Qv D vcls mCL cA mkd ad (mI b) (mf_Mo_replace_0 v0 a2)) ([.ref (ad 0 0), .int (0 : Int32), .int a2] : List Value).toArray s 0 0 (fw_A mCL ad)) (F0 m 25 ls [.int (v0 2 0 (v0 42 0 ((0 : Int32) + a2).toNatClampNeg).toNatClampNeg)]) := by
    intro  H locs ls hj hc0 hI hP hS hl
    clear J8 J7 J6 J5 J4 J3 J11 J13 J12 J10 J9
    refine lv_istore (lv' := [(4, .int (v0 2 0 (v0 42 0 ((0 : Int32) + a2).toNatClampNeg).toNatClampNeg)), (0, .ref (ad 0 0)), (1, .int (0 : Int32)), (2, .int a2)]) hx hb md_Mo_replace_25 hl (by decide) rfl (fun ls hl => ?_)
    refine lv_iconst (v := (0 : Int32)) hx hb md_Mo_replace_27 (by decide) ?_
    refine lv_istore (lv' := [(5, .int (0 : Int32)), (4, .int (v0 2 0 (v0 42 0 ((0 : Int32) + a2).toNatClampNeg).toNatClampNeg)), (0, .ref (ad 0 0)), (1, .int (0 : Int32)), (2, .int a2)]) hx hb md_Mo_replace_28 hl (by decide) rfl (fun ls hl => ?_)
    exact J2  _ _ _ (by rw [hj]; simp only [mf_Mo_replace_0_j1]) hc0  hI hP hS (lv_sub hl [2, 3, 4, 1, 0] rfl)
  have J21 : ∀ (v : fw_V)  (H : Heap) (locs : List Loc) (ls : Array Slot), mf_Mo_replace_0 v0 a2 = mf_Mo_replace_0_j21 v a2 → vp_in a2 3 → mI b v → va_P D vcls (fw_w mCL cA mkd ad v) H → va_S (fw_A mCL ad) s.heap H locs → lv_has ls 7 [(0, .ref (ad 0 0)), (1, .int (0 : Int32)), (2, .int a2), (4, .int (0 : Int32)), (5, .int (2 : Int32))] → W p l e (headSpec (Cond.code my_Mo_replace mb_Mo_replace 7 none :: vTB) mrm_Mo_replace).room s m ([.ref (ad 0 0), .int (0 : Int32), .int a2] : List Value).toArray below meth c H locs 0 0 (MQ below (fw_Qv D vcls mCL cA mkd ad (mI b) (mf_Mo_replace_0 v0 a2)) ([.ref (ad 0 0), .int (0 : Int32), .int a2] : List Value).toArray s 0 0 (fw_A mCL ad)) (F0 m 30 ls []) := by
    intro v  H locs ls hj hc0 hI hP hS hl
    clear J8 J7 J6 J5 J4 J3 J11 J13 J12 J10 J9 J2 J1
    refine lv_iload hx hb md_Mo_replace_30 (lv_at hl 4 rfl) ?_
    refine lv_iconst (v := (2 : Int32)) hx hb md_Mo_replace_32 (by decide) ?_
    refine lv_icmp_ge (tgt := 105) hx hb md_Mo_replace_33 (by decide) (fun _ => ?_) (fun c_30 => absurd (by decide) c_30)
    exact fw_vret hx hb hr hlocks hS hP hI md_Mo_replace_105 (by rw [hj]; simp only [mf_Mo_replace_0_j21])
  have J20 : ∀ (v : fw_V)  (H : Heap) (locs : List Loc) (ls : Array Slot), mf_Mo_replace_0 v0 a2 = mf_Mo_replace_0_j20 v a2 → vp_in a2 3 → mI b v → va_P D vcls (fw_w mCL cA mkd ad v) H → va_S (fw_A mCL ad) s.heap H locs → lv_has ls 7 [(0, .ref (ad 0 0)), (1, .int (0 : Int32)), (2, .int a2), (4, .int (0 : Int32)), (5, .int (1 : Int32))] → W p l e (headSpec (Cond.code my_Mo_replace mb_Mo_replace 7 none :: vTB) mrm_Mo_replace).room s m ([.ref (ad 0 0), .int (0 : Int32), .int a2] : List Value).toArray below meth c H locs 0 0 (MQ below (fw_Qv D vcls mCL cA mkd ad (mI b) (mf_Mo_replace_0 v0 a2)) ([.ref (ad 0 0), .int (0 : Int32), .int a2] : List Value).toArray s 0 0 (fw_A mCL ad)) (F0 m 99 ls []) := by
    intro v  H locs ls hj hc0 hI hP hS hl
    clear J8 J7 J6 J5 J4 J3 J11 J13 J12 J10 J9 J2 J1
    refine lv_iinc (v := (2 : Int32)) (lv' := [(5, .int (2 : Int32)), (0, .ref (ad 0 0)), (1, .int (0 : Int32)), (2, .int a2), (4, .int (0 : Int32))]) hx hb md_Mo_replace_99 hl (k := 4) rfl (by decide) (by decide) rfl (fun ls hl => ?_)
    refine lv_goto (tgt := 30) hx hb md_Mo_replace_102 (by decide) ?_
    exact J21 v  _ _ _ (by rw [hj]; simp only [mf_Mo_replace_0_j20]) hc0  hI hP hS (lv_sub hl [1, 2, 3, 4, 0] rfl)
  have J19 : ∀ (v : fw_V)  (H : Heap) (locs : List Loc) (ls : Array Slot), mf_Mo_replace_0 v0 a2 = mf_Mo_replace_0_j19 v a2 → vp_in a2 3 → mI b v → va_P D vcls (fw_w mCL cA mkd ad v) H → va_S (fw_A mCL ad) s.heap H locs → lv_has ls 7 [(0, .ref (ad 0 0)), (1, .int (0 : Int32)), (2, .int a2), (4, .int (0 : Int32)), (5, .int (1 : Int32)), (6, .int (((0 : Int32) + ((2 : Int32) * a2)) + (1 : Int32)))] → W p l e (headSpec (Cond.code my_Mo_replace mb_Mo_replace 7 none :: vTB) mrm_Mo_replace).room s m ([.ref (ad 0 0), .int (0 : Int32), .int a2] : List Value).toArray below meth c H locs 0 0 (MQ below (fw_Qv D vcls mCL cA mkd ad (mI b) (mf_Mo_replace_0 v0 a2)) ([.ref (ad 0 0), .int (0 : Int32), .int a2] : List Value).toArray s 0 0 (fw_A mCL ad)) (F0 m 65 ls []) := by
    intro v  H locs ls hj hc0 hI hP hS hl
    clear J8 J7 J6 J5 J4 J3 J11 J13 J12 J10 J9 J2 J1 J21
    refine lv_aload_n hx hb md_Mo_replace_65 rfl (lv_at hl 0 rfl) ?_
    refine fw_getr hx hb hts i_Mo hown hK hP (mm_0 (by decide)) (mk_0 0) rfl 45 (by decide) (hts _ L_Mo_143) (fun _ h9 => h9) rfl md_Mo_replace_66 ?_
    refine lv_iload hx hb md_Mo_replace_69 (lv_at hl 5 rfl) ?_
    refine lv_iconst (v := (0 : Int32)) hx hb md_Mo_replace_71 (by decide) ?_
    refine fw_iast hx hb hK hD hP hS (mm_46 (by decide)) (mk_46 0) 0 rfl (j := (((0 : Int32) + ((2 : Int32) * a2)) + (1 : Int32)).toNatClampNeg) rfl (fw_inp1 (fw_inm (fw_inadd2 (n := 1) (m := 5) (t := 5) (fw_inc (by decide)) (fw_inmul (c := (2 : Int32)) (k := 2) (n := 3) (m := 5) rfl hc0 (by decide) (by decide)) (by decide)) (by decide)) (by decide)) md_Mo_replace_72 (fun v29 H locs ev29 hP hS => ?_)
    have hI : mI b v29 := by rw [ev29]; exact mI_up hI trivial trivial
    refine lv_goto (tgt := 99) hx hb md_Mo_replace_73 (by decide) ?_
    exact J20 v29  _ _ _ (by rw [hj]; subst ev29; simp only [mf_Mo_replace_0_j19]) hc0  hI hP hS (lv_sub hl [0, 1, 2, 3, 4] rfl)
  have J18 : ∀ (v : fw_V)  (H : Heap) (locs : List Loc) (ls : Array Slot), mf_Mo_replace_0 v0 a2 = mf_Mo_replace_0_j18 v a2 → vp_in a2 3 → mI b v → va_P D vcls (fw_w mCL cA mkd ad v) H → va_S (fw_A mCL ad) s.heap H locs → lv_has ls 7 [(0, .ref (ad 0 0)), (1, .int (0 : Int32)), (2, .int a2), (4, .int (0 : Int32)), (5, .int (1 : Int32))] → W p l e (headSpec (Cond.code my_Mo_replace mb_Mo_replace 7 none :: vTB) mrm_Mo_replace).room s m ([.ref (ad 0 0), .int (0 : Int32), .int a2] : List Value).toArray below meth c H locs 0 0 (MQ below (fw_Qv D vcls mCL cA mkd ad (mI b) (mf_Mo_replace_0 v0 a2)) ([.ref (ad 0 0), .int (0 : Int32), .int a2] : List Value).toArray s 0 0 (fw_A mCL ad)) (F0 m 30 ls []) := by
    intro v  H locs ls hj hc0 hI hP hS hl
    clear J8 J7 J6 J5 J4 J3 J11 J13 J12 J10 J9 J2 J1 J21 J20
    refine lv_iload hx hb md_Mo_replace_30 (lv_at hl 4 rfl) ?_
    refine lv_iconst (v := (2 : Int32)) hx hb md_Mo_replace_32 (by decide) ?_
    refine lv_icmp_ge (tgt := 105) hx hb md_Mo_replace_33 (by decide) (fun c_27 => absurd c_27 (by decide)) (fun _ => ?_)
    refine lv_bipush (v := (6 : Int32)) hx hb md_Mo_replace_36 (by decide) ?_
    refine lv_iload_n hx hb md_Mo_replace_38 rfl (lv_at hl 1 rfl) ?_
    refine lv_imul hx hb md_Mo_replace_39 ?_
    refine fw_top (y := (0 : Int32)) (by decide) ?_
    refine lv_iconst (v := (2 : Int32)) hx hb md_Mo_replace_40 (by decide) ?_
    refine lv_iload_n hx hb md_Mo_replace_41 rfl (lv_at hl 2 rfl) ?_
    refine lv_imul hx hb md_Mo_replace_42 ?_
    refine lv_iadd hx hb md_Mo_replace_43 ?_
    refine lv_iload hx hb md_Mo_replace_44 (lv_at hl 4 rfl) ?_
    refine lv_iadd hx hb md_Mo_replace_46 ?_
    refine lv_istore (lv' := [(6, .int (((0 : Int32) + ((2 : Int32) * a2)) + (1 : Int32))), (0, .ref (ad 0 0)), (1, .int (0 : Int32)), (2, .int a2), (4, .int (0 : Int32)), (5, .int (1 : Int32))]) hx hb md_Mo_replace_47 hl (by decide) rfl (fun ls hl => ?_)
    refine lv_iload hx hb md_Mo_replace_49 (lv_at hl 5 rfl) ?_
    refine lv_iload hx hb md_Mo_replace_51 (lv_at hl 4 rfl) ?_
    refine lv_icmp_ge (tgt := 65) hx hb md_Mo_replace_53 (by decide) (fun _ => ?_) (fun c_28 => absurd (by decide) c_28)
    exact J19 v  _ _ _ (by rw [hj]; simp only [mf_Mo_replace_0_j18]) hc0  hI hP hS (lv_sub hl [1, 2, 3, 4, 5, 0] rfl)
  have J17 : ∀ (v : fw_V)  (H : Heap) (locs : List Loc) (ls : Array Slot), mf_Mo_replace_0 v0 a2 = mf_Mo_replace_0_j17 v a2 → vp_in a2 3 → mI b v → va_P D vcls (fw_w mCL cA mkd ad v) H → va_S (fw_A mCL ad) s.heap H locs → lv_has ls 7 [(0, .ref (ad 0 0)), (1, .int (0 : Int32)), (2, .int a2), (4, .int (0 : Int32)), (5, .int (0 : Int32))] → W p l e (headSpec (Cond.code my_Mo_replace mb_Mo_replace 7 none :: vTB) mrm_Mo_replace).room s m ([.ref (ad 0 0), .int (0 : Int32), .int a2] : List Value).toArray below meth c H locs 0 0 (MQ below (fw_Qv D vcls mCL cA mkd ad (mI b) (mf_Mo_replace_0 v0 a2)) ([.ref (ad 0 0), .int (0 : Int32), .int a2] : List Value).toArray s 0 0 (fw_A mCL ad)) (F0 m 99 ls []) := by
    intro v  H locs ls hj hc0 hI hP hS hl
    clear J8 J7 J6 J5 J4 J3 J11 J13 J12 J10 J9 J2 J1 J21 J20 J19
    refine lv_iinc (v := (1 : Int32)) (lv' := [(5, .int (1 : Int32)), (0, .ref (ad 0 0)), (1, .int (0 : Int32)), (2, .int a2), (4, .int (0 : Int32))]) hx hb md_Mo_replace_99 hl (k := 4) rfl (by decide) (by decide) rfl (fun ls hl => ?_)
    refine lv_goto (tgt := 30) hx hb md_Mo_replace_102 (by decide) ?_
    exact J18 v  _ _ _ (by rw [hj]; simp only [mf_Mo_replace_0_j17]) hc0  hI hP hS (lv_sub hl [1, 2, 3, 4, 0] rfl)
  have J16 : ∀  (H : Heap) (locs : List Loc) (ls : Array Slot), mf_Mo_replace_0 v0 a2 = mf_Mo_replace_0_j16 v0 a2 → vp_in a2 3 → mI b v0 → va_P D vcls (fw_w mCL cA mkd ad v0) H → va_S (fw_A mCL ad) s.heap H locs → lv_has ls 7 [(0, .ref (ad 0 0)), (1, .int (0 : Int32)), (2, .int a2), (4, .int (0 : Int32)), (5, .int (0 : Int32)), (6, .int (((0 : Int32) + ((2 : Int32) * a2)) + (0 : Int32)))] → W p l e (headSpec (Cond.code my_Mo_replace mb_Mo_replace 7 none :: vTB) mrm_Mo_replace).room s m ([.ref (ad 0 0), .int (0 : Int32), .int a2] : List Value).toArray below meth c H locs 0 0 (MQ below (fw_Qv D vcls mCL cA mkd ad (mI b) (mf_Mo_replace_0 v0 a2)) ([.ref (ad 0 0), .int (0 : Int32), .int a2] : List Value).toArray s 0 0 (fw_A mCL ad)) (F0 m 65 ls []) := by
    intro  H locs ls hj hc0 hI hP hS hl
    clear J8 J7 J6 J5 J4 J3 J11 J13 J12 J10 J9 J2 J1 J21 J20 J19 J18
    refine lv_aload_n hx hb md_Mo_replace_65 rfl (lv_at hl 0 rfl) ?_
    refine fw_getr hx hb hts i_Mo hown hK hP (mm_0 (by decide)) (mk_0 0) rfl 45 (by decide) (hts _ L_Mo_143) (fun _ h9 => h9) rfl md_Mo_replace_66 ?_
    refine lv_iload hx hb md_Mo_replace_69 (lv_at hl 5 rfl) ?_
    refine lv_iconst (v := (0 : Int32)) hx hb md_Mo_replace_71 (by decide) ?_
    refine fw_iast hx hb hK hD hP hS (mm_46 (by decide)) (mk_46 0) 0 rfl (j := (((0 : Int32) + ((2 : Int32) * a2)) + (0 : Int32)).toNatClampNeg) rfl (fw_inm (fw_inadd2 (n := 5) (m := 1) (t := 5) (fw_inadd2 (n := 1) (m := 5) (t := 5) (fw_inc (by decide)) (fw_inmul (c := (2 : Int32)) (k := 2) (n := 3) (m := 5) rfl hc0 (by decide) (by decide)) (by decide)) (fw_inc (by decide)) (by decide)) (by decide)) md_Mo_replace_72 (fun v26 H locs ev26 hP hS => ?_)
    have hI : mI b v26 := by rw [ev26]; exact mI_up hI trivial trivial
    refine lv_goto (tgt := 99) hx hb md_Mo_replace_73 (by decide) ?_
    exact J17 v26  _ _ _ (by rw [hj]; subst ev26; simp only [mf_Mo_replace_0_j16]) hc0  hI hP hS (lv_sub hl [0, 1, 2, 3, 4] rfl)
  have J15 : ∀  (H : Heap) (locs : List Loc) (ls : Array Slot), mf_Mo_replace_0 v0 a2 = mf_Mo_replace_0_j15 v0 a2 → vp_in a2 3 → mI b v0 → va_P D vcls (fw_w mCL cA mkd ad v0) H → va_S (fw_A mCL ad) s.heap H locs → lv_has ls 7 [(0, .ref (ad 0 0)), (1, .int (0 : Int32)), (2, .int a2), (4, .int (0 : Int32)), (5, .int (0 : Int32))] → W p l e (headSpec (Cond.code my_Mo_replace mb_Mo_replace 7 none :: vTB) mrm_Mo_replace).room s m ([.ref (ad 0 0), .int (0 : Int32), .int a2] : List Value).toArray below meth c H locs 0 0 (MQ below (fw_Qv D vcls mCL cA mkd ad (mI b) (mf_Mo_replace_0 v0 a2)) ([.ref (ad 0 0), .int (0 : Int32), .int a2] : List Value).toArray s 0 0 (fw_A mCL ad)) (F0 m 30 ls []) := by
    intro  H locs ls hj hc0 hI hP hS hl
    clear J8 J7 J6 J5 J4 J3 J11 J13 J12 J10 J9 J2 J1 J21 J20 J19 J18 J17
    refine lv_iload hx hb md_Mo_replace_30 (lv_at hl 4 rfl) ?_
    refine lv_iconst (v := (2 : Int32)) hx hb md_Mo_replace_32 (by decide) ?_
    refine lv_icmp_ge (tgt := 105) hx hb md_Mo_replace_33 (by decide) (fun c_24 => absurd c_24 (by decide)) (fun _ => ?_)
    refine lv_bipush (v := (6 : Int32)) hx hb md_Mo_replace_36 (by decide) ?_
    refine lv_iload_n hx hb md_Mo_replace_38 rfl (lv_at hl 1 rfl) ?_
    refine lv_imul hx hb md_Mo_replace_39 ?_
    refine fw_top (y := (0 : Int32)) (by decide) ?_
    refine lv_iconst (v := (2 : Int32)) hx hb md_Mo_replace_40 (by decide) ?_
    refine lv_iload_n hx hb md_Mo_replace_41 rfl (lv_at hl 2 rfl) ?_
    refine lv_imul hx hb md_Mo_replace_42 ?_
    refine lv_iadd hx hb md_Mo_replace_43 ?_
    refine lv_iload hx hb md_Mo_replace_44 (lv_at hl 4 rfl) ?_
    refine lv_iadd hx hb md_Mo_replace_46 ?_
    refine lv_istore (lv' := [(6, .int (((0 : Int32) + ((2 : Int32) * a2)) + (0 : Int32))), (0, .ref (ad 0 0)), (1, .int (0 : Int32)), (2, .int a2), (4, .int (0 : Int32)), (5, .int (0 : Int32))]) hx hb md_Mo_replace_47 hl (by decide) rfl (fun ls hl => ?_)
    refine lv_iload hx hb md_Mo_replace_49 (lv_at hl 5 rfl) ?_
    refine lv_iload hx hb md_Mo_replace_51 (lv_at hl 4 rfl) ?_
    refine lv_icmp_ge (tgt := 65) hx hb md_Mo_replace_53 (by decide) (fun _ => ?_) (fun c_25 => absurd (by decide) c_25)
    exact J16  _ _ _ (by rw [hj]; simp only [mf_Mo_replace_0_j15]) hc0  hI hP hS (lv_sub hl [1, 2, 3, 4, 5, 0] rfl)
  have J14 : ∀  (H : Heap) (locs : List Loc) (ls : Array Slot), mf_Mo_replace_0 v0 a2 = mf_Mo_replace_0_j14 v0 a2 → vp_in a2 3 → mI b v0 → va_P D vcls (fw_w mCL cA mkd ad v0) H → va_S (fw_A mCL ad) s.heap H locs → lv_has ls 7 [(0, .ref (ad 0 0)), (1, .int (0 : Int32)), (2, .int a2)] → W p l e (headSpec (Cond.code my_Mo_replace mb_Mo_replace 7 none :: vTB) mrm_Mo_replace).room s m ([.ref (ad 0 0), .int (0 : Int32), .int a2] : List Value).toArray below meth c H locs 0 0 (MQ below (fw_Qv D vcls mCL cA mkd ad (mI b) (mf_Mo_replace_0 v0 a2)) ([.ref (ad 0 0), .int (0 : Int32), .int a2] : List Value).toArray s 0 0 (fw_A mCL ad)) (F0 m 25 ls [.int (0 : Int32)]) := by
    intro  H locs ls hj hc0 hI hP hS hl
    clear J8 J7 J6 J5 J4 J3 J11 J13 J12 J10 J9 J2 J1 J21 J20 J19 J18 J17 J16
    refine lv_istore (lv' := [(4, .int (0 : Int32)), (0, .ref (ad 0 0)), (1, .int (0 : Int32)), (2, .int a2)]) hx hb md_Mo_replace_25 hl (by decide) rfl (fun ls hl => ?_)
    refine lv_iconst (v := (0 : Int32)) hx hb md_Mo_replace_27 (by decide) ?_
    refine lv_istore (lv' := [(5, .int (0 : Int32)), (4, .int (0 : Int32)), (0, .ref (ad 0 0)), (1, .int (0 : Int32)), (2, .int a2)]) hx hb md_Mo_replace_28 hl (by decide) rfl (fun ls hl => ?_)
    exact J15  _ _ _ (by rw [hj]; simp only [mf_Mo_replace_0_j14]) hc0  hI hP hS (lv_sub hl [2, 3, 4, 1, 0] rfl)
  clear J8 J7 J6 J5 J4 J3 J11 J13 J12 J10 J9 J2 J21 J20 J19 J18 J17 J16 J15
  have hl := lv_entry ([.ref (ad 0 0), .int (0 : Int32), .int a2]) (n := 7) (Nat.le_of_ble_eq_true rfl)
  rw [lg_entry_eq]
  generalize (lg_sl ([.ref (ad 0 0), .int (0 : Int32), .int a2]) ++ List.replicate (7 - (lg_sl ([.ref (ad 0 0), .int (0 : Int32), .int a2])).length) Slot.unset).toArray = ls at hl ⊢
  have hl : lv_has ls 7 [(0, .ref (ad 0 0)), (1, .int (0 : Int32)), (2, .int a2)] := hl
  refine lv_aload_n hx hb md_Mo_replace_0 rfl (lv_at hl 0 rfl) ?_
  refine fw_getr hx hb hts i_Mo hown hK hP (mm_0 (by decide)) (mk_0 0) rfl 41 (by decide) (hts _ L_Mo_131) (fun _ h9 => h9) rfl md_Mo_replace_1 ?_
  refine lv_iconst (v := (3 : Int32)) hx hb md_Mo_replace_4 (by decide) ?_
  refine lv_iload_n hx hb md_Mo_replace_5 rfl (lv_at hl 1 rfl) ?_
  refine lv_imul hx hb md_Mo_replace_6 ?_
  refine fw_top (y := (0 : Int32)) (by decide) ?_
  refine lv_iload_n hx hb md_Mo_replace_7 rfl (lv_at hl 2 rfl) ?_
  refine lv_iadd hx hb md_Mo_replace_8 ?_
  refine fw_iald hx hb hK hP (mm_42 (by decide)) (mk_42 0) 0 rfl (j := ((0 : Int32) + a2).toNatClampNeg) rfl (fw_inm (fw_inadd2 (n := 1) (m := 3) (t := 3) (fw_inc (by decide)) hq0 (by decide)) (by decide)) md_Mo_replace_9 ?_
  have h_1 : vp_in ((v0 42 0 ((0 : Int32) + a2).toNatClampNeg) + 1) 9 := hI.1 42 0 (((0 : Int32) + a2).toNatClampNeg)
  refine lv_istore_n (lv' := [(3, .int (v0 42 0 ((0 : Int32) + a2).toNatClampNeg)), (0, .ref (ad 0 0)), (1, .int (0 : Int32)), (2, .int a2)]) hx hb md_Mo_replace_10 rfl hl (by decide) rfl (fun ls hl => ?_)
  refine lv_iload_n hx hb md_Mo_replace_11 rfl (lv_at hl 0 rfl) ?_
  refine lv_if_ge (tgt := 19) hx hb md_Mo_replace_12 (by decide) (fun c_2 => ?_) (fun c_2 => ?_)
  · have h_3 : vp_in (v0 42 0 ((0 : Int32) + a2).toNatClampNeg) 8 := fw_m8' h_1 c_2
    refine lv_aload_n hx hb md_Mo_replace_19 rfl (lv_at hl 1 rfl) ?_
    refine fw_getr hx hb hts i_Mo hown hK hP (mm_0 (by decide)) (mk_0 0) rfl 1 (by decide) (hts _ L_Mo_13) (fun _ h9 => h9) rfl md_Mo_replace_20 ?_
    refine lv_iload_n hx hb md_Mo_replace_23 rfl (lv_at hl 0 rfl) ?_
    refine fw_iald hx hb hK hP (mm_2 (by decide)) (mk_2 0) 0 rfl (j := (v0 42 0 ((0 : Int32) + a2).toNatClampNeg).toNatClampNeg) rfl h_3 md_Mo_replace_24 ?_
    exact J1  _ _ _ (by simp only [mf_Mo_replace_0, if_pos c_2]) hq0  hI hP hS (lv_sub hl [1, 2, 3] rfl)
  · refine lv_iconst (v := (0 : Int32)) hx hb md_Mo_replace_15 (by decide) ?_
    refine lv_goto (tgt := 25) hx hb md_Mo_replace_16 (by decide) ?_
    exact J14  _ _ _ (by simp only [mf_Mo_replace_0, if_neg c_2]) hq0  hI hP hS (lv_sub hl [1, 2, 3] rfl)
def mf_Mo_replace_1_j8 (v : fw_V) (a2 : Int32) (x4 : Int32) : fw_V :=
  v
def mf_Mo_replace_1_j7 (v : fw_V) (a2 : Int32) (x4 : Int32) : fw_V :=
  mf_Mo_replace_1_j8 v a2 (x4)
def mf_Mo_replace_1_j6 (v : fw_V) (a2 : Int32) (x4 : Int32) : fw_V :=
  let v9 := fw_up v 46 0 ((((6 : Int32) + ((2 : Int32) * a2)) + (1 : Int32)).toNatClampNeg) (0 : Int32)
  mf_Mo_replace_1_j7 v9 a2 (x4)
def mf_Mo_replace_1_j5 (v : fw_V) (a2 : Int32) (x4 : Int32) : fw_V :=
  if x4 ≤ (1 : Int32) then
    mf_Mo_replace_1_j6 v a2 (x4)
  else
    if (v 40 0 1) = (0 : Int32) then
      mf_Mo_replace_1_j6 v a2 (x4)
    else
      if (v 40 0 1) = (2 : Int32) then
        let v13 := fw_up v 46 0 ((((6 : Int32) + ((2 : Int32) * a2)) + (1 : Int32)).toNatClampNeg) (v 41 0 1)
        mf_Mo_replace_1_j7 v13 a2 (x4)
      else
        mf_Mo_replace_1_j7 v a2 (x4)
def mf_Mo_replace_1_j4 (v : fw_V) (a2 : Int32) (x4 : Int32) : fw_V :=
  mf_Mo_replace_1_j5 v a2 (x4)
def mf_Mo_replace_1_j3 (v0 : fw_V) (a2 : Int32)  : fw_V :=
  let v6 := fw_up v0 46 0 ((((6 : Int32) + ((2 : Int32) * a2)) + (0 : Int32)).toNatClampNeg) (0 : Int32)
  mf_Mo_replace_1_j4 v6 a2 ((v0 2 0 (v0 42 0 ((3 : Int32) + a2).toNatClampNeg).toNatClampNeg))
def mf_Mo_replace_1_j11 (v0 : fw_V) (a2 : Int32)  : fw_V :=
  let v18 := fw_up v0 46 0 ((((6 : Int32) + ((2 : Int32) * a2)) + (1 : Int32)).toNatClampNeg) (0 : Int32)
  mf_Mo_replace_1_j7 v18 a2 ((v0 2 0 (v0 42 0 ((3 : Int32) + a2).toNatClampNeg).toNatClampNeg))
def mf_Mo_replace_1_j13 (v0 : fw_V) (a2 : Int32)  : fw_V :=
  v0
def mf_Mo_replace_1_j12 (v0 : fw_V) (a2 : Int32)  : fw_V :=
  mf_Mo_replace_1_j13 v0 a2
def mf_Mo_replace_1_j10 (v0 : fw_V) (a2 : Int32)  : fw_V :=
  if (v0 2 0 (v0 42 0 ((3 : Int32) + a2).toNatClampNeg).toNatClampNeg) ≤ (1 : Int32) then
    mf_Mo_replace_1_j11 v0 a2
  else
    if (v0 40 0 1) = (0 : Int32) then
      mf_Mo_replace_1_j11 v0 a2
    else
      if (v0 40 0 1) = (2 : Int32) then
        let v22 := fw_up v0 46 0 ((((6 : Int32) + ((2 : Int32) * a2)) + (1 : Int32)).toNatClampNeg) (v0 41 0 1)
        mf_Mo_replace_1_j7 v22 a2 ((v0 2 0 (v0 42 0 ((3 : Int32) + a2).toNatClampNeg).toNatClampNeg))
      else
        mf_Mo_replace_1_j12 v0 a2
def mf_Mo_replace_1_j9 (v0 : fw_V) (a2 : Int32)  : fw_V :=
  mf_Mo_replace_1_j10 v0 a2
def mf_Mo_replace_1_j2 (v0 : fw_V) (a2 : Int32)  : fw_V :=
  if (v0 2 0 (v0 42 0 ((3 : Int32) + a2).toNatClampNeg).toNatClampNeg) ≤ (0 : Int32) then
    mf_Mo_replace_1_j3 v0 a2
  else
    if (v0 40 0 1) = (0 : Int32) then
      mf_Mo_replace_1_j3 v0 a2
    else
      if (v0 40 0 1) = (2 : Int32) then
        let v23 := fw_up v0 46 0 ((((6 : Int32) + ((2 : Int32) * a2)) + (0 : Int32)).toNatClampNeg) (v0 41 0 1)
        mf_Mo_replace_1_j4 v23 a2 ((v0 2 0 (v0 42 0 ((3 : Int32) + a2).toNatClampNeg).toNatClampNeg))
      else
        mf_Mo_replace_1_j9 v0 a2
def mf_Mo_replace_1_j1 (v0 : fw_V) (a2 : Int32)  : fw_V :=
  mf_Mo_replace_1_j2 v0 a2
def mf_Mo_replace_1_j21 (v : fw_V) (a2 : Int32)  : fw_V :=
  v
def mf_Mo_replace_1_j20 (v : fw_V) (a2 : Int32)  : fw_V :=
  mf_Mo_replace_1_j21 v a2
def mf_Mo_replace_1_j19 (v : fw_V) (a2 : Int32)  : fw_V :=
  let v29 := fw_up v 46 0 ((((6 : Int32) + ((2 : Int32) * a2)) + (1 : Int32)).toNatClampNeg) (0 : Int32)
  mf_Mo_replace_1_j20 v29 a2
def mf_Mo_replace_1_j18 (v : fw_V) (a2 : Int32)  : fw_V :=
  mf_Mo_replace_1_j19 v a2
def mf_Mo_replace_1_j17 (v : fw_V) (a2 : Int32)  : fw_V :=
  mf_Mo_replace_1_j18 v a2
def mf_Mo_replace_1_j16 (v0 : fw_V) (a2 : Int32)  : fw_V :=
  let v26 := fw_up v0 46 0 ((((6 : Int32) + ((2 : Int32) * a2)) + (0 : Int32)).toNatClampNeg) (0 : Int32)
  mf_Mo_replace_1_j17 v26 a2
def mf_Mo_replace_1_j15 (v0 : fw_V) (a2 : Int32)  : fw_V :=
  mf_Mo_replace_1_j16 v0 a2
def mf_Mo_replace_1_j14 (v0 : fw_V) (a2 : Int32)  : fw_V :=
  mf_Mo_replace_1_j15 v0 a2
def mf_Mo_replace_1 (v0 : fw_V) (a2 : Int32) : fw_V :=
  if (0 : Int32) ≤ (v0 42 0 ((3 : Int32) + a2).toNatClampNeg) then
    mf_Mo_replace_1_j1 v0 a2
  else
    mf_Mo_replace_1_j14 v0 a2

theorem mca_Mo_replace_1_j8 {v : fw_V} {a2 : Int32} {x4 : Int32} {i k : Nat} : mf_Mo_replace_1_j8 v a2 x4 10 i k = v 10 i k := by
  unfold mf_Mo_replace_1_j8
  try dsimp only
  all_goals ((repeat' split) <;> simp [fw_up, fw_row])
theorem mca_Mo_replace_1_j7 {v : fw_V} {a2 : Int32} {x4 : Int32} {i k : Nat} : mf_Mo_replace_1_j7 v a2 x4 10 i k = v 10 i k := by
  unfold mf_Mo_replace_1_j7
  try dsimp only
  all_goals ((repeat' split) <;> simp [fw_up, fw_row, mca_Mo_replace_1_j8])
theorem mca_Mo_replace_1_j6 {v : fw_V} {a2 : Int32} {x4 : Int32} {i k : Nat} : mf_Mo_replace_1_j6 v a2 x4 10 i k = v 10 i k := by
  unfold mf_Mo_replace_1_j6
  try dsimp only
  all_goals ((repeat' split) <;> simp [fw_up, fw_row, mca_Mo_replace_1_j7])
theorem mca_Mo_replace_1_j5 {v : fw_V} {a2 : Int32} {x4 : Int32} {i k : Nat} : mf_Mo_replace_1_j5 v a2 x4 10 i k = v 10 i k := by
  unfold mf_Mo_replace_1_j5
  try dsimp only
  all_goals ((repeat' split) <;> simp [fw_up, fw_row, mca_Mo_replace_1_j6, mca_Mo_replace_1_j7])
theorem mca_Mo_replace_1_j4 {v : fw_V} {a2 : Int32} {x4 : Int32} {i k : Nat} : mf_Mo_replace_1_j4 v a2 x4 10 i k = v 10 i k := by
  unfold mf_Mo_replace_1_j4
  try dsimp only
  all_goals ((repeat' split) <;> simp [fw_up, fw_row, mca_Mo_replace_1_j5])
theorem mca_Mo_replace_1_j3 {v0 : fw_V} {a2 : Int32} {i k : Nat} : mf_Mo_replace_1_j3 v0 a2 10 i k = v0 10 i k := by
  unfold mf_Mo_replace_1_j3
  try dsimp only
  all_goals ((repeat' split) <;> simp [fw_up, fw_row, mca_Mo_replace_1_j4])
theorem mca_Mo_replace_1_j11 {v0 : fw_V} {a2 : Int32} {i k : Nat} : mf_Mo_replace_1_j11 v0 a2 10 i k = v0 10 i k := by
  unfold mf_Mo_replace_1_j11
  try dsimp only
  all_goals ((repeat' split) <;> simp [fw_up, fw_row, mca_Mo_replace_1_j7])
theorem mca_Mo_replace_1_j13 {v0 : fw_V} {a2 : Int32} {i k : Nat} : mf_Mo_replace_1_j13 v0 a2 10 i k = v0 10 i k := by
  unfold mf_Mo_replace_1_j13
  try dsimp only
  all_goals ((repeat' split) <;> simp [fw_up, fw_row])
theorem mca_Mo_replace_1_j12 {v0 : fw_V} {a2 : Int32} {i k : Nat} : mf_Mo_replace_1_j12 v0 a2 10 i k = v0 10 i k := by
  unfold mf_Mo_replace_1_j12
  try dsimp only
  all_goals ((repeat' split) <;> simp [fw_up, fw_row, mca_Mo_replace_1_j13])
theorem mca_Mo_replace_1_j10 {v0 : fw_V} {a2 : Int32} {i k : Nat} : mf_Mo_replace_1_j10 v0 a2 10 i k = v0 10 i k := by
  unfold mf_Mo_replace_1_j10
  try dsimp only
  all_goals ((repeat' split) <;> simp [fw_up, fw_row, mca_Mo_replace_1_j11, mca_Mo_replace_1_j7, mca_Mo_replace_1_j12])
theorem mca_Mo_replace_1_j9 {v0 : fw_V} {a2 : Int32} {i k : Nat} : mf_Mo_replace_1_j9 v0 a2 10 i k = v0 10 i k := by
  unfold mf_Mo_replace_1_j9
  try dsimp only
  all_goals ((repeat' split) <;> simp [fw_up, fw_row, mca_Mo_replace_1_j10])
theorem mca_Mo_replace_1_j2 {v0 : fw_V} {a2 : Int32} {i k : Nat} : mf_Mo_replace_1_j2 v0 a2 10 i k = v0 10 i k := by
  unfold mf_Mo_replace_1_j2
  try dsimp only
  all_goals ((repeat' split) <;> simp [fw_up, fw_row, mca_Mo_replace_1_j3, mca_Mo_replace_1_j4, mca_Mo_replace_1_j9])
theorem mca_Mo_replace_1_j1 {v0 : fw_V} {a2 : Int32} {i k : Nat} : mf_Mo_replace_1_j1 v0 a2 10 i k = v0 10 i k := by
  unfold mf_Mo_replace_1_j1
  try dsimp only
  all_goals ((repeat' split) <;> simp [fw_up, fw_row, mca_Mo_replace_1_j2])
theorem mca_Mo_replace_1_j21 {v : fw_V} {a2 : Int32} {i k : Nat} : mf_Mo_replace_1_j21 v a2 10 i k = v 10 i k := by
  unfold mf_Mo_replace_1_j21
  try dsimp only
  all_goals ((repeat' split) <;> simp [fw_up, fw_row])
theorem mca_Mo_replace_1_j20 {v : fw_V} {a2 : Int32} {i k : Nat} : mf_Mo_replace_1_j20 v a2 10 i k = v 10 i k := by
  unfold mf_Mo_replace_1_j20
  try dsimp only
  all_goals ((repeat' split) <;> simp [fw_up, fw_row, mca_Mo_replace_1_j21])
theorem mca_Mo_replace_1_j19 {v : fw_V} {a2 : Int32} {i k : Nat} : mf_Mo_replace_1_j19 v a2 10 i k = v 10 i k := by
  unfold mf_Mo_replace_1_j19
  try dsimp only
  all_goals ((repeat' split) <;> simp [fw_up, fw_row, mca_Mo_replace_1_j20])
theorem mca_Mo_replace_1_j18 {v : fw_V} {a2 : Int32} {i k : Nat} : mf_Mo_replace_1_j18 v a2 10 i k = v 10 i k := by
  unfold mf_Mo_replace_1_j18
  try dsimp only
  all_goals ((repeat' split) <;> simp [fw_up, fw_row, mca_Mo_replace_1_j19])
theorem mca_Mo_replace_1_j17 {v : fw_V} {a2 : Int32} {i k : Nat} : mf_Mo_replace_1_j17 v a2 10 i k = v 10 i k := by
  unfold mf_Mo_replace_1_j17
  try dsimp only
  all_goals ((repeat' split) <;> simp [fw_up, fw_row, mca_Mo_replace_1_j18])
theorem mca_Mo_replace_1_j16 {v0 : fw_V} {a2 : Int32} {i k : Nat} : mf_Mo_replace_1_j16 v0 a2 10 i k = v0 10 i k := by
  unfold mf_Mo_replace_1_j16
  try dsimp only
  all_goals ((repeat' split) <;> simp [fw_up, fw_row, mca_Mo_replace_1_j17])
theorem mca_Mo_replace_1_j15 {v0 : fw_V} {a2 : Int32} {i k : Nat} : mf_Mo_replace_1_j15 v0 a2 10 i k = v0 10 i k := by
  unfold mf_Mo_replace_1_j15
  try dsimp only
  all_goals ((repeat' split) <;> simp [fw_up, fw_row, mca_Mo_replace_1_j16])
theorem mca_Mo_replace_1_j14 {v0 : fw_V} {a2 : Int32} {i k : Nat} : mf_Mo_replace_1_j14 v0 a2 10 i k = v0 10 i k := by
  unfold mf_Mo_replace_1_j14
  try dsimp only
  all_goals ((repeat' split) <;> simp [fw_up, fw_row, mca_Mo_replace_1_j15])
theorem mca_Mo_replace_1 {v0 : fw_V} {a2 : Int32} {i k : Nat} : mf_Mo_replace_1 v0 a2 10 i k = v0 10 i k := by
  unfold mf_Mo_replace_1
  try dsimp only
  all_goals ((repeat' split) <;> simp [fw_up, fw_row, mca_Mo_replace_1_j1, mca_Mo_replace_1_j14])
set_option maxHeartbeats 4000000 in
set_option maxRecDepth 100000 in
theorem mc_Mo_replace_1 (l : Launch) {D : va_G} {cA : Nat → ClassId} {ad : Nat → Nat → Nat} (hD : fw_D mCL ad) {b : Nat} (v0 : fw_V) (hI : mI b v0) (a2 : Int32) (hq0 : vp_in a2 3) : Met l my_Mo_replace (Cond.code my_Mo_replace mb_Mo_replace 7 none :: vTB) mrm_Mo_replace (fw_Pc vNL D vcls (vtys cA) mCL cA mkd ad v0 [.ref (ad 0 0), .int (1 : Int32), .int a2]) (fw_Qv D vcls mCL cA mkd ad (mI b) (mf_Mo_replace_1 v0 a2)) 0 0 (fw_A mCL ad) := by
  refine Met.ofW (cc := mb_Mo_replace) (maxL := 7) (ret := none) (by decide) rfl ?_
  intro p e s m args below meth c s₁ B hml hv
  obtain ⟨rfl, hP, hK, hN⟩ := hv
  have hx := B.exec
  have hb := B.bytes
  have hr := B.returns
  have hts : ∀ w ∈ vTB, w.before ([.ref (ad 0 0), .int (1 : Int32), .int a2] : List Value).toArray s = true := fun w h => atoms_spec (ws := (Cond.code my_Mo_replace mb_Mo_replace 7 none :: vTB)) B.pre w (List.mem_cons_of_mem _ h)
  have hown : s.vm.findClass R_Mo = some m.cls := findClass_of_methodNamed B.named
  have hlocks := B.notSynchronized
  have hS : va_S (fw_A mCL ad) s.heap s.heap [] := va_S.rf
  have J8 : ∀ (v : fw_V) (x4 : Int32) (H : Heap) (locs : List Loc) (ls : Array Slot), mf_Mo_replace_1 v0 a2 = mf_Mo_replace_1_j8 v a2 x4 → vp_in a2 3 → mI b v → va_P D vcls (fw_w mCL cA mkd ad v) H → va_S (fw_A mCL ad) s.heap H locs → lv_has ls 7 [(0, .ref (ad 0 0)), (1, .int (1 : Int32)), (2, .int a2), (4, .int x4), (5, .int (2 : Int32))] → W p l e (headSpec (Cond.code my_Mo_replace mb_Mo_replace 7 none :: vTB) mrm_Mo_replace).room s m ([.ref (ad 0 0), .int (1 : Int32), .int a2] : List Value).toArray below meth c H locs 0 0 (MQ below (fw_Qv D vcls mCL cA mkd ad (mI b) (mf_Mo_replace_1 v0 a2)) ([.ref (ad 0 0), .int (1 : Int32), .int a2] : List Value).toArray s 0 0 (fw_A mCL ad)) (F0 m 30 ls []) := by
    intro v x4 H locs ls hj hc0 hI hP hS hl
    refine lv_iload hx hb md_Mo_replace_30 (lv_at hl 4 rfl) ?_
    refine lv_iconst (v := (2 : Int32)) hx hb md_Mo_replace_32 (by decide) ?_
    refine lv_icmp_ge (tgt := 105) hx hb md_Mo_replace_33 (by decide) (fun _ => ?_) (fun c_10 => absurd (by decide) c_10)
    exact fw_vret hx hb hr hlocks hS hP hI md_Mo_replace_105 (by rw [hj]; simp only [mf_Mo_replace_1_j8])
  have J7 : ∀ (v : fw_V) (x4 : Int32) (H : Heap) (locs : List Loc) (ls : Array Slot), mf_Mo_replace_1 v0 a2 = mf_Mo_replace_1_j7 v a2 x4 → vp_in a2 3 → mI b v → va_P D vcls (fw_w mCL cA mkd ad v) H → va_S (fw_A mCL ad) s.heap H locs → lv_has ls 7 [(0, .ref (ad 0 0)), (1, .int (1 : Int32)), (2, .int a2), (4, .int x4), (5, .int (1 : Int32))] → W p l e (headSpec (Cond.code my_Mo_replace mb_Mo_replace 7 none :: vTB) mrm_Mo_replace).room s m ([.ref (ad 0 0), .int (1 : Int32), .int a2] : List Value).toArray below meth c H locs 0 0 (MQ below (fw_Qv D vcls mCL cA mkd ad (mI b) (mf_Mo_replace_1 v0 a2)) ([.ref (ad 0 0), .int (1 : Int32), .int a2] : List Value).toArray s 0 0 (fw_A mCL ad)) (F0 m 99 ls []) := by
    intro v x4 H locs ls hj hc0 hI hP hS hl
    refine lv_iinc (v := (2 : Int32)) (lv' := [(5, .int (2 : Int32)), (0, .ref (ad 0 0)), (1, .int (1 : Int32)), (2, .int a2), (4, .int x4)]) hx hb md_Mo_replace_99 hl (k := 4) rfl (by decide) (by decide) rfl (fun ls hl => ?_)
    refine lv_goto (tgt := 30) hx hb md_Mo_replace_102 (by decide) ?_
    exact J8 v (x4) _ _ _ (by rw [hj]; simp only [mf_Mo_replace_1_j7]) hc0  hI hP hS (lv_sub hl [1, 2, 3, 4, 0] rfl)
  have J6 : ∀ (v : fw_V) (x4 : Int32) (H : Heap) (locs : List Loc) (ls : Array Slot), mf_Mo_replace_1 v0 a2 = mf_Mo_replace_1_j6 v a2 x4 → vp_in a2 3 → mI b v → va_P D vcls (fw_w mCL cA mkd ad v) H → va_S (fw_A mCL ad) s.heap H locs → lv_has ls 7 [(0, .ref (ad 0 0)), (1, .int (1 : Int32)), (2, .int a2), (4, .int x4), (5, .int (1 : Int32)), (6, .int (((6 : Int32) + ((2 : Int32) * a2)) + (1 : Int32)))] → W p l e (headSpec (Cond.code my_Mo_replace mb_Mo_replace 7 none :: vTB) mrm_Mo_replace).room s m ([.ref (ad 0 0), .int (1 : Int32), .int a2] : List Value).toArray below meth c H locs 0 0 (MQ below (fw_Qv D vcls mCL cA mkd ad (mI b) (mf_Mo_replace_1 v0 a2)) ([.ref (ad 0 0), .int (1 : Int32), .int a2] : List Value).toArray s 0 0 (fw_A mCL ad)) (F0 m 65 ls []) := by
    intro v x4 H locs ls hj hc0 hI hP hS hl
    clear J8
    refine lv_aload_n hx hb md_Mo_replace_65 rfl (lv_at hl 0 rfl) ?_
    refine fw_getr hx hb hts i_Mo hown hK hP (mm_0 (by decide)) (mk_0 0) rfl 45 (by decide) (hts _ L_Mo_143) (fun _ h9 => h9) rfl md_Mo_replace_66 ?_
    refine lv_iload hx hb md_Mo_replace_69 (lv_at hl 5 rfl) ?_
    refine lv_iconst (v := (0 : Int32)) hx hb md_Mo_replace_71 (by decide) ?_
    refine fw_iast hx hb hK hD hP hS (mm_46 (by decide)) (mk_46 0) 0 rfl (j := (((6 : Int32) + ((2 : Int32) * a2)) + (1 : Int32)).toNatClampNeg) rfl (fw_inp1 (fw_inadd2 (n := 7) (m := 5) (t := 11) (fw_inc (by decide)) (fw_inmul (c := (2 : Int32)) (k := 2) (n := 3) (m := 5) rfl hc0 (by decide) (by decide)) (by decide)) (by decide)) md_Mo_replace_72 (fun v9 H locs ev9 hP hS => ?_)
    have hI : mI b v9 := by rw [ev9]; exact mI_up hI trivial trivial
    refine lv_goto (tgt := 99) hx hb md_Mo_replace_73 (by decide) ?_
    exact J7 v9 (x4) _ _ _ (by rw [hj]; subst ev9; simp only [mf_Mo_replace_1_j6]) hc0  hI hP hS (lv_sub hl [0, 1, 2, 3, 4] rfl)
  have J5 : ∀ (v : fw_V) (x4 : Int32) (H : Heap) (locs : List Loc) (ls : Array Slot), mf_Mo_replace_1 v0 a2 = mf_Mo_replace_1_j5 v a2 x4 → vp_in a2 3 → mI b v → va_P D vcls (fw_w mCL cA mkd ad v) H → va_S (fw_A mCL ad) s.heap H locs → lv_has ls 7 [(0, .ref (ad 0 0)), (1, .int (1 : Int32)), (2, .int a2), (4, .int x4), (5, .int (1 : Int32))] → W p l e (headSpec (Cond.code my_Mo_replace mb_Mo_replace 7 none :: vTB) mrm_Mo_replace).room s m ([.ref (ad 0 0), .int (1 : Int32), .int a2] : List Value).toArray below meth c H locs 0 0 (MQ below (fw_Qv D vcls mCL cA mkd ad (mI b) (mf_Mo_replace_1 v0 a2)) ([.ref (ad 0 0), .int (1 : Int32), .int a2] : List Value).toArray s 0 0 (fw_A mCL ad)) (F0 m 30 ls []) := by
    intro v x4 H locs ls hj hc0 hI hP hS hl
    clear J8
    refine lv_iload hx hb md_Mo_replace_30 (lv_at hl 4 rfl) ?_
    refine lv_iconst (v := (2 : Int32)) hx hb md_Mo_replace_32 (by decide) ?_
    refine lv_icmp_ge (tgt := 105) hx hb md_Mo_replace_33 (by decide) (fun c_7 => absurd c_7 (by decide)) (fun _ => ?_)
    refine lv_bipush (v := (6 : Int32)) hx hb md_Mo_replace_36 (by decide) ?_
    refine lv_iload_n hx hb md_Mo_replace_38 rfl (lv_at hl 1 rfl) ?_
    refine lv_imul hx hb md_Mo_replace_39 ?_
    refine fw_top (y := (6 : Int32)) (by decide) ?_
    refine lv_iconst (v := (2 : Int32)) hx hb md_Mo_replace_40 (by decide) ?_
    refine lv_iload_n hx hb md_Mo_replace_41 rfl (lv_at hl 2 rfl) ?_
    refine lv_imul hx hb md_Mo_replace_42 ?_
    refine lv_iadd hx hb md_Mo_replace_43 ?_
    refine lv_iload hx hb md_Mo_replace_44 (lv_at hl 4 rfl) ?_
    refine lv_iadd hx hb md_Mo_replace_46 ?_
    refine lv_istore (lv' := [(6, .int (((6 : Int32) + ((2 : Int32) * a2)) + (1 : Int32))), (0, .ref (ad 0 0)), (1, .int (1 : Int32)), (2, .int a2), (4, .int x4), (5, .int (1 : Int32))]) hx hb md_Mo_replace_47 hl (by decide) rfl (fun ls hl => ?_)
    refine lv_iload hx hb md_Mo_replace_49 (lv_at hl 5 rfl) ?_
    refine lv_iload hx hb md_Mo_replace_51 (lv_at hl 4 rfl) ?_
    refine lv_icmp_ge (tgt := 65) hx hb md_Mo_replace_53 (by decide) (fun c_8 => ?_) (fun c_8 => ?_)
    · exact J6 v (x4) _ _ _ (by rw [hj]; simp only [mf_Mo_replace_1_j5, if_pos c_8]) hc0  hI hP hS (lv_sub hl [1, 2, 3, 4, 5, 0] rfl)
    · refine lv_aload_n hx hb md_Mo_replace_56 rfl (lv_at hl 1 rfl) ?_
      refine fw_getr hx hb hts i_Mo hown hK hP (mm_0 (by decide)) (mk_0 0) rfl 39 (by decide) (hts _ L_Mo_125) (fun _ h9 => h9) rfl md_Mo_replace_57 ?_
      refine lv_iload_n hx hb md_Mo_replace_60 rfl (lv_at hl 2 rfl) ?_
      refine fw_iald hx hb hK hP (mm_40 (by decide)) (mk_40 0) 0 rfl (j := 1) (by decide) (fw_inc (by decide)) md_Mo_replace_61 ?_
      refine lv_if_ne (tgt := 76) hx hb md_Mo_replace_62 (by decide) (fun c_11 => ?_) (fun c_11 => ?_)
      · refine lv_aload_n hx hb md_Mo_replace_76 rfl (lv_at hl 1 rfl) ?_
        refine fw_getr hx hb hts i_Mo hown hK hP (mm_0 (by decide)) (mk_0 0) rfl 39 (by decide) (hts _ L_Mo_125) (fun _ h9 => h9) rfl md_Mo_replace_77 ?_
        refine lv_iload_n hx hb md_Mo_replace_80 rfl (lv_at hl 2 rfl) ?_
        refine fw_iald hx hb hK hP (mm_40 (by decide)) (mk_40 0) 0 rfl (j := 1) (by decide) (fw_inc (by decide)) md_Mo_replace_81 ?_
        refine lv_iconst (v := (2 : Int32)) hx hb md_Mo_replace_82 (by decide) ?_
        refine lv_icmp_ne (tgt := 99) hx hb md_Mo_replace_83 (by decide) (fun c_12 => ?_) (fun c_12 => ?_)
        · exact J7 v (x4) _ _ _ (by rw [hj]; simp only [mf_Mo_replace_1_j5, if_neg c_8, if_neg c_11, if_neg c_12]) hc0  hI hP hS (lv_sub hl [1, 2, 3, 4, 5] rfl)
        · refine lv_aload_n hx hb md_Mo_replace_86 rfl (lv_at hl 1 rfl) ?_
          refine fw_getr hx hb hts i_Mo hown hK hP (mm_0 (by decide)) (mk_0 0) rfl 45 (by decide) (hts _ L_Mo_143) (fun _ h9 => h9) rfl md_Mo_replace_87 ?_
          refine lv_iload hx hb md_Mo_replace_90 (lv_at hl 0 rfl) ?_
          refine lv_aload_n hx hb md_Mo_replace_92 rfl (lv_at hl 1 rfl) ?_
          refine fw_getr hx hb hts i_Mo hown hK hP (mm_0 (by decide)) (mk_0 0) rfl 40 (by decide) (hts _ L_Mo_128) (fun _ h9 => h9) rfl md_Mo_replace_93 ?_
          refine lv_iload_n hx hb md_Mo_replace_96 rfl (lv_at hl 2 rfl) ?_
          refine fw_iald hx hb hK hP (mm_41 (by decide)) (mk_41 0) 0 rfl (j := 1) (by decide) (fw_inc (by decide)) md_Mo_replace_97 ?_
          refine fw_iast hx hb hK hD hP hS (mm_46 (by decide)) (mk_46 0) 0 rfl (j := (((6 : Int32) + ((2 : Int32) * a2)) + (1 : Int32)).toNatClampNeg) rfl (fw_inp1 (fw_inadd2 (n := 7) (m := 5) (t := 11) (fw_inc (by decide)) (fw_inmul (c := (2 : Int32)) (k := 2) (n := 3) (m := 5) rfl hc0 (by decide) (by decide)) (by decide)) (by decide)) md_Mo_replace_98 (fun v13 H locs ev13 hP hS => ?_)
          have hI : mI b v13 := by rw [ev13]; exact mI_up hI trivial trivial
          exact J7 v13 (x4) _ _ _ (by rw [hj]; subst ev13; simp only [mf_Mo_replace_1_j5, if_neg c_8, if_neg c_11, if_pos c_12]) hc0  hI hP hS (lv_sub hl [1, 2, 3, 4, 5] rfl)
      · exact J6 v (x4) _ _ _ (by rw [hj]; simp only [mf_Mo_replace_1_j5, if_neg c_8, if_pos c_11]) hc0  hI hP hS (lv_sub hl [1, 2, 3, 4, 5, 0] rfl)
  have J4 : ∀ (v : fw_V) (x4 : Int32) (H : Heap) (locs : List Loc) (ls : Array Slot), mf_Mo_replace_1 v0 a2 = mf_Mo_replace_1_j4 v a2 x4 → vp_in a2 3 → mI b v → va_P D vcls (fw_w mCL cA mkd ad v) H → va_S (fw_A mCL ad) s.heap H locs → lv_has ls 7 [(0, .ref (ad 0 0)), (1, .int (1 : Int32)), (2, .int a2), (4, .int x4), (5, .int (0 : Int32))] → W p l e (headSpec (Cond.code my_Mo_replace mb_Mo_replace 7 none :: vTB) mrm_Mo_replace).room s m ([.ref (ad 0 0), .int (1 : Int32), .int a2] : List Value).toArray below meth c H locs 0 0 (MQ below (fw_Qv D vcls mCL cA mkd ad (mI b) (mf_Mo_replace_1 v0 a2)) ([.ref (ad 0 0), .int (1 : Int32), .int a2] : List Value).toArray s 0 0 (fw_A mCL ad)) (F0 m 99 ls []) := by
    intro v x4 H locs ls hj hc0 hI hP hS hl
    clear J8 J7 J6
    refine lv_iinc (v := (1 : Int32)) (lv' := [(5, .int (1 : Int32)), (0, .ref (ad 0 0)), (1, .int (1 : Int32)), (2, .int a2), (4, .int x4)]) hx hb md_Mo_replace_99 hl (k := 4) rfl (by decide) (by decide) rfl (fun ls hl => ?_)
    refine lv_goto (tgt := 30) hx hb md_Mo_replace_102 (by decide) ?_
    exact J5 v (x4) _ _ _ (by rw [hj]; simp only [mf_Mo_replace_1_j4]) hc0  hI hP hS (lv_sub hl [1, 2, 3, 4, 0] rfl)
  have J3 : ∀  (H : Heap) (locs : List Loc) (ls : Array Slot), mf_Mo_replace_1 v0 a2 = mf_Mo_replace_1_j3 v0 a2 → vp_in a2 3 → mI b v0 → va_P D vcls (fw_w mCL cA mkd ad v0) H → va_S (fw_A mCL ad) s.heap H locs → lv_has ls 7 [(0, .ref (ad 0 0)), (1, .int (1 : Int32)), (2, .int a2), (4, .int (v0 2 0 (v0 42 0 ((3 : Int32) + a2).toNatClampNeg).toNatClampNeg)), (5, .int (0 : Int32)), (6, .int (((6 : Int32) + ((2 : Int32) * a2)) + (0 : Int32)))] → W p l e (headSpec (Cond.code my_Mo_replace mb_Mo_replace 7 none :: vTB) mrm_Mo_replace).room s m ([.ref (ad 0 0), .int (1 : Int32), .int a2] : List Value).toArray below meth c H locs 0 0 (MQ below (fw_Qv D vcls mCL cA mkd ad (mI b) (mf_Mo_replace_1 v0 a2)) ([.ref (ad 0 0), .int (1 : Int32), .int a2] : List Value).toArray s 0 0 (fw_A mCL ad)) (F0 m 65 ls []) := by
    intro  H locs ls hj hc0 hI hP hS hl
    clear J8 J7 J6 J5
    refine lv_aload_n hx hb md_Mo_replace_65 rfl (lv_at hl 0 rfl) ?_
    refine fw_getr hx hb hts i_Mo hown hK hP (mm_0 (by decide)) (mk_0 0) rfl 45 (by decide) (hts _ L_Mo_143) (fun _ h9 => h9) rfl md_Mo_replace_66 ?_
    refine lv_iload hx hb md_Mo_replace_69 (lv_at hl 5 rfl) ?_
    refine lv_iconst (v := (0 : Int32)) hx hb md_Mo_replace_71 (by decide) ?_
    refine fw_iast hx hb hK hD hP hS (mm_46 (by decide)) (mk_46 0) 0 rfl (j := (((6 : Int32) + ((2 : Int32) * a2)) + (0 : Int32)).toNatClampNeg) rfl (fw_inm (fw_inadd2 (n := 11) (m := 1) (t := 11) (fw_inadd2 (n := 7) (m := 5) (t := 11) (fw_inc (by decide)) (fw_inmul (c := (2 : Int32)) (k := 2) (n := 3) (m := 5) rfl hc0 (by decide) (by decide)) (by decide)) (fw_inc (by decide)) (by decide)) (by decide)) md_Mo_replace_72 (fun v6 H locs ev6 hP hS => ?_)
    have hI : mI b v6 := by rw [ev6]; exact mI_up hI trivial trivial
    refine lv_goto (tgt := 99) hx hb md_Mo_replace_73 (by decide) ?_
    exact J4 v6 ((v0 2 0 (v0 42 0 ((3 : Int32) + a2).toNatClampNeg).toNatClampNeg)) _ _ _ (by rw [hj]; subst ev6; simp only [mf_Mo_replace_1_j3]) hc0  hI hP hS (lv_sub hl [0, 1, 2, 3, 4] rfl)
  have J11 : ∀  (H : Heap) (locs : List Loc) (ls : Array Slot), mf_Mo_replace_1 v0 a2 = mf_Mo_replace_1_j11 v0 a2 → vp_in a2 3 → mI b v0 → va_P D vcls (fw_w mCL cA mkd ad v0) H → va_S (fw_A mCL ad) s.heap H locs → lv_has ls 7 [(0, .ref (ad 0 0)), (1, .int (1 : Int32)), (2, .int a2), (4, .int (v0 2 0 (v0 42 0 ((3 : Int32) + a2).toNatClampNeg).toNatClampNeg)), (5, .int (1 : Int32)), (6, .int (((6 : Int32) + ((2 : Int32) * a2)) + (1 : Int32)))] → W p l e (headSpec (Cond.code my_Mo_replace mb_Mo_replace 7 none :: vTB) mrm_Mo_replace).room s m ([.ref (ad 0 0), .int (1 : Int32), .int a2] : List Value).toArray below meth c H locs 0 0 (MQ below (fw_Qv D vcls mCL cA mkd ad (mI b) (mf_Mo_replace_1 v0 a2)) ([.ref (ad 0 0), .int (1 : Int32), .int a2] : List Value).toArray s 0 0 (fw_A mCL ad)) (F0 m 65 ls []) := by
    intro  H locs ls hj hc0 hI hP hS hl
    clear J8 J6 J5 J4 J3
    refine lv_aload_n hx hb md_Mo_replace_65 rfl (lv_at hl 0 rfl) ?_
    refine fw_getr hx hb hts i_Mo hown hK hP (mm_0 (by decide)) (mk_0 0) rfl 45 (by decide) (hts _ L_Mo_143) (fun _ h9 => h9) rfl md_Mo_replace_66 ?_
    refine lv_iload hx hb md_Mo_replace_69 (lv_at hl 5 rfl) ?_
    refine lv_iconst (v := (0 : Int32)) hx hb md_Mo_replace_71 (by decide) ?_
    refine fw_iast hx hb hK hD hP hS (mm_46 (by decide)) (mk_46 0) 0 rfl (j := (((6 : Int32) + ((2 : Int32) * a2)) + (1 : Int32)).toNatClampNeg) rfl (fw_inp1 (fw_inadd2 (n := 7) (m := 5) (t := 11) (fw_inc (by decide)) (fw_inmul (c := (2 : Int32)) (k := 2) (n := 3) (m := 5) rfl hc0 (by decide) (by decide)) (by decide)) (by decide)) md_Mo_replace_72 (fun v18 H locs ev18 hP hS => ?_)
    have hI : mI b v18 := by rw [ev18]; exact mI_up hI trivial trivial
    refine lv_goto (tgt := 99) hx hb md_Mo_replace_73 (by decide) ?_
    exact J7 v18 ((v0 2 0 (v0 42 0 ((3 : Int32) + a2).toNatClampNeg).toNatClampNeg)) _ _ _ (by rw [hj]; subst ev18; simp only [mf_Mo_replace_1_j11]) hc0  hI hP hS (lv_sub hl [0, 1, 2, 3, 4] rfl)
  have J13 : ∀  (H : Heap) (locs : List Loc) (ls : Array Slot), mf_Mo_replace_1 v0 a2 = mf_Mo_replace_1_j13 v0 a2 → vp_in a2 3 → mI b v0 → va_P D vcls (fw_w mCL cA mkd ad v0) H → va_S (fw_A mCL ad) s.heap H locs → lv_has ls 7 [(0, .ref (ad 0 0)), (1, .int (1 : Int32)), (2, .int a2), (4, .int (v0 2 0 (v0 42 0 ((3 : Int32) + a2).toNatClampNeg).toNatClampNeg)), (5, .int (2 : Int32))] → W p l e (headSpec (Cond.code my_Mo_replace mb_Mo_replace 7 none :: vTB) mrm_Mo_replace).room s m ([.ref (ad 0 0), .int (1 : Int32), .int a2] : List Value).toArray below meth c H locs 0 0 (MQ below (fw_Qv D vcls mCL cA mkd ad (mI b) (mf_Mo_replace_1 v0 a2)) ([.ref (ad 0 0), .int (1 : Int32), .int a2] : List Value).toArray s 0 0 (fw_A mCL ad)) (F0 m 30 ls []) := by
    intro  H locs ls hj hc0 hI hP hS hl
    clear J8 J7 J6 J5 J4 J3 J11
    refine lv_iload hx hb md_Mo_replace_30 (lv_at hl 4 rfl) ?_
    refine lv_iconst (v := (2 : Int32)) hx hb md_Mo_replace_32 (by decide) ?_
    refine lv_icmp_ge (tgt := 105) hx hb md_Mo_replace_33 (by decide) (fun _ => ?_) (fun c_21 => absurd (by decide) c_21)
    exact fw_vret hx hb hr hlocks hS hP hI md_Mo_replace_105 (by rw [hj]; simp only [mf_Mo_replace_1_j13])
  have J12 : ∀  (H : Heap) (locs : List Loc) (ls : Array Slot), mf_Mo_replace_1 v0 a2 = mf_Mo_replace_1_j12 v0 a2 → vp_in a2 3 → mI b v0 → va_P D vcls (fw_w mCL cA mkd ad v0) H → va_S (fw_A mCL ad) s.heap H locs → lv_has ls 7 [(0, .ref (ad 0 0)), (1, .int (1 : Int32)), (2, .int a2), (4, .int (v0 2 0 (v0 42 0 ((3 : Int32) + a2).toNatClampNeg).toNatClampNeg)), (5, .int (1 : Int32))] → W p l e (headSpec (Cond.code my_Mo_replace mb_Mo_replace 7 none :: vTB) mrm_Mo_replace).room s m ([.ref (ad 0 0), .int (1 : Int32), .int a2] : List Value).toArray below meth c H locs 0 0 (MQ below (fw_Qv D vcls mCL cA mkd ad (mI b) (mf_Mo_replace_1 v0 a2)) ([.ref (ad 0 0), .int (1 : Int32), .int a2] : List Value).toArray s 0 0 (fw_A mCL ad)) (F0 m 99 ls []) := by
    intro  H locs ls hj hc0 hI hP hS hl
    clear J8 J7 J6 J5 J4 J3 J11
    refine lv_iinc (v := (2 : Int32)) (lv' := [(5, .int (2 : Int32)), (0, .ref (ad 0 0)), (1, .int (1 : Int32)), (2, .int a2), (4, .int (v0 2 0 (v0 42 0 ((3 : Int32) + a2).toNatClampNeg).toNatClampNeg))]) hx hb md_Mo_replace_99 hl (k := 4) rfl (by decide) (by decide) rfl (fun ls hl => ?_)
    refine lv_goto (tgt := 30) hx hb md_Mo_replace_102 (by decide) ?_
    exact J13  _ _ _ (by rw [hj]; simp only [mf_Mo_replace_1_j12]) hc0  hI hP hS (lv_sub hl [1, 2, 3, 4, 0] rfl)
  have J10 : ∀  (H : Heap) (locs : List Loc) (ls : Array Slot), mf_Mo_replace_1 v0 a2 = mf_Mo_replace_1_j10 v0 a2 → vp_in a2 3 → mI b v0 → va_P D vcls (fw_w mCL cA mkd ad v0) H → va_S (fw_A mCL ad) s.heap H locs → lv_has ls 7 [(0, .ref (ad 0 0)), (1, .int (1 : Int32)), (2, .int a2), (4, .int (v0 2 0 (v0 42 0 ((3 : Int32) + a2).toNatClampNeg).toNatClampNeg)), (5, .int (1 : Int32))] → W p l e (headSpec (Cond.code my_Mo_replace mb_Mo_replace 7 none :: vTB) mrm_Mo_replace).room s m ([.ref (ad 0 0), .int (1 : Int32), .int a2] : List Value).toArray below meth c H locs 0 0 (MQ below (fw_Qv D vcls mCL cA mkd ad (mI b) (mf_Mo_replace_1 v0 a2)) ([.ref (ad 0 0), .int (1 : Int32), .int a2] : List Value).toArray s 0 0 (fw_A mCL ad)) (F0 m 30 ls []) := by
    intro  H locs ls hj hc0 hI hP hS hl
    clear J8 J6 J5 J4 J3 J13
    refine lv_iload hx hb md_Mo_replace_30 (lv_at hl 4 rfl) ?_
    refine lv_iconst (v := (2 : Int32)) hx hb md_Mo_replace_32 (by decide) ?_
    refine lv_icmp_ge (tgt := 105) hx hb md_Mo_replace_33 (by decide) (fun c_16 => absurd c_16 (by decide)) (fun _ => ?_)
    refine lv_bipush (v := (6 : Int32)) hx hb md_Mo_replace_36 (by decide) ?_
    refine lv_iload_n hx hb md_Mo_replace_38 rfl (lv_at hl 1 rfl) ?_
    refine lv_imul hx hb md_Mo_replace_39 ?_
    refine fw_top (y := (6 : Int32)) (by decide) ?_
    refine lv_iconst (v := (2 : Int32)) hx hb md_Mo_replace_40 (by decide) ?_
    refine lv_iload_n hx hb md_Mo_replace_41 rfl (lv_at hl 2 rfl) ?_
    refine lv_imul hx hb md_Mo_replace_42 ?_
    refine lv_iadd hx hb md_Mo_replace_43 ?_
    refine lv_iload hx hb md_Mo_replace_44 (lv_at hl 4 rfl) ?_
    refine lv_iadd hx hb md_Mo_replace_46 ?_
    refine lv_istore (lv' := [(6, .int (((6 : Int32) + ((2 : Int32) * a2)) + (1 : Int32))), (0, .ref (ad 0 0)), (1, .int (1 : Int32)), (2, .int a2), (4, .int (v0 2 0 (v0 42 0 ((3 : Int32) + a2).toNatClampNeg).toNatClampNeg)), (5, .int (1 : Int32))]) hx hb md_Mo_replace_47 hl (by decide) rfl (fun ls hl => ?_)
    refine lv_iload hx hb md_Mo_replace_49 (lv_at hl 5 rfl) ?_
    refine lv_iload hx hb md_Mo_replace_51 (lv_at hl 4 rfl) ?_
    refine lv_icmp_ge (tgt := 65) hx hb md_Mo_replace_53 (by decide) (fun c_17 => ?_) (fun c_17 => ?_)
    · exact J11  _ _ _ (by rw [hj]; simp only [mf_Mo_replace_1_j10, if_pos c_17]) hc0  hI hP hS (lv_sub hl [1, 2, 3, 4, 5, 0] rfl)
    · refine lv_aload_n hx hb md_Mo_replace_56 rfl (lv_at hl 1 rfl) ?_
      refine fw_getr hx hb hts i_Mo hown hK hP (mm_0 (by decide)) (mk_0 0) rfl 39 (by decide) (hts _ L_Mo_125) (fun _ h9 => h9) rfl md_Mo_replace_57 ?_
      refine lv_iload_n hx hb md_Mo_replace_60 rfl (lv_at hl 2 rfl) ?_
      refine fw_iald hx hb hK hP (mm_40 (by decide)) (mk_40 0) 0 rfl (j := 1) (by decide) (fw_inc (by decide)) md_Mo_replace_61 ?_
      refine lv_if_ne (tgt := 76) hx hb md_Mo_replace_62 (by decide) (fun c_19 => ?_) (fun c_19 => ?_)
      · refine lv_aload_n hx hb md_Mo_replace_76 rfl (lv_at hl 1 rfl) ?_
        refine fw_getr hx hb hts i_Mo hown hK hP (mm_0 (by decide)) (mk_0 0) rfl 39 (by decide) (hts _ L_Mo_125) (fun _ h9 => h9) rfl md_Mo_replace_77 ?_
        refine lv_iload_n hx hb md_Mo_replace_80 rfl (lv_at hl 2 rfl) ?_
        refine fw_iald hx hb hK hP (mm_40 (by decide)) (mk_40 0) 0 rfl (j := 1) (by decide) (fw_inc (by decide)) md_Mo_replace_81 ?_
        refine lv_iconst (v := (2 : Int32)) hx hb md_Mo_replace_82 (by decide) ?_
        refine lv_icmp_ne (tgt := 99) hx hb md_Mo_replace_83 (by decide) (fun c_20 => ?_) (fun c_20 => ?_)
        · exact J12  _ _ _ (by rw [hj]; simp only [mf_Mo_replace_1_j10, if_neg c_17, if_neg c_19, if_neg c_20]) hc0  hI hP hS (lv_sub hl [1, 2, 3, 4, 5] rfl)
        · refine lv_aload_n hx hb md_Mo_replace_86 rfl (lv_at hl 1 rfl) ?_
          refine fw_getr hx hb hts i_Mo hown hK hP (mm_0 (by decide)) (mk_0 0) rfl 45 (by decide) (hts _ L_Mo_143) (fun _ h9 => h9) rfl md_Mo_replace_87 ?_
          refine lv_iload hx hb md_Mo_replace_90 (lv_at hl 0 rfl) ?_
          refine lv_aload_n hx hb md_Mo_replace_92 rfl (lv_at hl 1 rfl) ?_
          refine fw_getr hx hb hts i_Mo hown hK hP (mm_0 (by decide)) (mk_0 0) rfl 40 (by decide) (hts _ L_Mo_128) (fun _ h9 => h9) rfl md_Mo_replace_93 ?_
          refine lv_iload_n hx hb md_Mo_replace_96 rfl (lv_at hl 2 rfl) ?_
          refine fw_iald hx hb hK hP (mm_41 (by decide)) (mk_41 0) 0 rfl (j := 1) (by decide) (fw_inc (by decide)) md_Mo_replace_97 ?_
          refine fw_iast hx hb hK hD hP hS (mm_46 (by decide)) (mk_46 0) 0 rfl (j := (((6 : Int32) + ((2 : Int32) * a2)) + (1 : Int32)).toNatClampNeg) rfl (fw_inp1 (fw_inadd2 (n := 7) (m := 5) (t := 11) (fw_inc (by decide)) (fw_inmul (c := (2 : Int32)) (k := 2) (n := 3) (m := 5) rfl hc0 (by decide) (by decide)) (by decide)) (by decide)) md_Mo_replace_98 (fun v22 H locs ev22 hP hS => ?_)
          have hI : mI b v22 := by rw [ev22]; exact mI_up hI trivial trivial
          exact J7 v22 ((v0 2 0 (v0 42 0 ((3 : Int32) + a2).toNatClampNeg).toNatClampNeg)) _ _ _ (by rw [hj]; subst ev22; simp only [mf_Mo_replace_1_j10, if_neg c_17, if_neg c_19, if_pos c_20]) hc0  hI hP hS (lv_sub hl [1, 2, 3, 4, 5] rfl)
      · exact J11  _ _ _ (by rw [hj]; simp only [mf_Mo_replace_1_j10, if_neg c_17, if_pos c_19]) hc0  hI hP hS (lv_sub hl [1, 2, 3, 4, 5, 0] rfl)
  have J9 : ∀  (H : Heap) (locs : List Loc) (ls : Array Slot), mf_Mo_replace_1 v0 a2 = mf_Mo_replace_1_j9 v0 a2 → vp_in a2 3 → mI b v0 → va_P D vcls (fw_w mCL cA mkd ad v0) H → va_S (fw_A mCL ad) s.heap H locs → lv_has ls 7 [(0, .ref (ad 0 0)), (1, .int (1 : Int32)), (2, .int a2), (4, .int (v0 2 0 (v0 42 0 ((3 : Int32) + a2).toNatClampNeg).toNatClampNeg)), (5, .int (0 : Int32))] → W p l e (headSpec (Cond.code my_Mo_replace mb_Mo_replace 7 none :: vTB) mrm_Mo_replace).room s m ([.ref (ad 0 0), .int (1 : Int32), .int a2] : List Value).toArray below meth c H locs 0 0 (MQ below (fw_Qv D vcls mCL cA mkd ad (mI b) (mf_Mo_replace_1 v0 a2)) ([.ref (ad 0 0), .int (1 : Int32), .int a2] : List Value).toArray s 0 0 (fw_A mCL ad)) (F0 m 99 ls []) := by
    intro  H locs ls hj hc0 hI hP hS hl
    clear J8 J7 J6 J5 J4 J3 J11 J13 J12
    refine lv_iinc (v := (1 : Int32)) (lv' := [(5, .int (1 : Int32)), (0, .ref (ad 0 0)), (1, .int (1 : Int32)), (2, .int a2), (4, .int (v0 2 0 (v0 42 0 ((3 : Int32) + a2).toNatClampNeg).toNatClampNeg))]) hx hb md_Mo_replace_99 hl (k := 4) rfl (by decide) (by decide) rfl (fun ls hl => ?_)
    refine lv_goto (tgt := 30) hx hb md_Mo_replace_102 (by decide) ?_
    exact J10  _ _ _ (by rw [hj]; simp only [mf_Mo_replace_1_j9]) hc0  hI hP hS (lv_sub hl [1, 2, 3, 4, 0] rfl)
  have J2 : ∀  (H : Heap) (locs : List Loc) (ls : Array Slot), mf_Mo_replace_1 v0 a2 = mf_Mo_replace_1_j2 v0 a2 → vp_in a2 3 → mI b v0 → va_P D vcls (fw_w mCL cA mkd ad v0) H → va_S (fw_A mCL ad) s.heap H locs → lv_has ls 7 [(0, .ref (ad 0 0)), (1, .int (1 : Int32)), (2, .int a2), (4, .int (v0 2 0 (v0 42 0 ((3 : Int32) + a2).toNatClampNeg).toNatClampNeg)), (5, .int (0 : Int32))] → W p l e (headSpec (Cond.code my_Mo_replace mb_Mo_replace 7 none :: vTB) mrm_Mo_replace).room s m ([.ref (ad 0 0), .int (1 : Int32), .int a2] : List Value).toArray below meth c H locs 0 0 (MQ below (fw_Qv D vcls mCL cA mkd ad (mI b) (mf_Mo_replace_1 v0 a2)) ([.ref (ad 0 0), .int (1 : Int32), .int a2] : List Value).toArray s 0 0 (fw_A mCL ad)) (F0 m 30 ls []) := by
    intro  H locs ls hj hc0 hI hP hS hl
    clear J8 J7 J6 J5 J11 J13 J12 J10
    refine lv_iload hx hb md_Mo_replace_30 (lv_at hl 4 rfl) ?_
    refine lv_iconst (v := (2 : Int32)) hx hb md_Mo_replace_32 (by decide) ?_
    refine lv_icmp_ge (tgt := 105) hx hb md_Mo_replace_33 (by decide) (fun c_4 => absurd c_4 (by decide)) (fun _ => ?_)
    refine lv_bipush (v := (6 : Int32)) hx hb md_Mo_replace_36 (by decide) ?_
    refine lv_iload_n hx hb md_Mo_replace_38 rfl (lv_at hl 1 rfl) ?_
    refine lv_imul hx hb md_Mo_replace_39 ?_
    refine fw_top (y := (6 : Int32)) (by decide) ?_
    refine lv_iconst (v := (2 : Int32)) hx hb md_Mo_replace_40 (by decide) ?_
    refine lv_iload_n hx hb md_Mo_replace_41 rfl (lv_at hl 2 rfl) ?_
    refine lv_imul hx hb md_Mo_replace_42 ?_
    refine lv_iadd hx hb md_Mo_replace_43 ?_
    refine lv_iload hx hb md_Mo_replace_44 (lv_at hl 4 rfl) ?_
    refine lv_iadd hx hb md_Mo_replace_46 ?_
    refine lv_istore (lv' := [(6, .int (((6 : Int32) + ((2 : Int32) * a2)) + (0 : Int32))), (0, .ref (ad 0 0)), (1, .int (1 : Int32)), (2, .int a2), (4, .int (v0 2 0 (v0 42 0 ((3 : Int32) + a2).toNatClampNeg).toNatClampNeg)), (5, .int (0 : Int32))]) hx hb md_Mo_replace_47 hl (by decide) rfl (fun ls hl => ?_)
    refine lv_iload hx hb md_Mo_replace_49 (lv_at hl 5 rfl) ?_
    refine lv_iload hx hb md_Mo_replace_51 (lv_at hl 4 rfl) ?_
    refine lv_icmp_ge (tgt := 65) hx hb md_Mo_replace_53 (by decide) (fun c_5 => ?_) (fun c_5 => ?_)
    · exact J3  _ _ _ (by rw [hj]; simp only [mf_Mo_replace_1_j2, if_pos c_5]) hc0  hI hP hS (lv_sub hl [1, 2, 3, 4, 5, 0] rfl)
    · refine lv_aload_n hx hb md_Mo_replace_56 rfl (lv_at hl 1 rfl) ?_
      refine fw_getr hx hb hts i_Mo hown hK hP (mm_0 (by decide)) (mk_0 0) rfl 39 (by decide) (hts _ L_Mo_125) (fun _ h9 => h9) rfl md_Mo_replace_57 ?_
      refine lv_iload_n hx hb md_Mo_replace_60 rfl (lv_at hl 2 rfl) ?_
      refine fw_iald hx hb hK hP (mm_40 (by decide)) (mk_40 0) 0 rfl (j := 1) (by decide) (fw_inc (by decide)) md_Mo_replace_61 ?_
      refine lv_if_ne (tgt := 76) hx hb md_Mo_replace_62 (by decide) (fun c_14 => ?_) (fun c_14 => ?_)
      · refine lv_aload_n hx hb md_Mo_replace_76 rfl (lv_at hl 1 rfl) ?_
        refine fw_getr hx hb hts i_Mo hown hK hP (mm_0 (by decide)) (mk_0 0) rfl 39 (by decide) (hts _ L_Mo_125) (fun _ h9 => h9) rfl md_Mo_replace_77 ?_
        refine lv_iload_n hx hb md_Mo_replace_80 rfl (lv_at hl 2 rfl) ?_
        refine fw_iald hx hb hK hP (mm_40 (by decide)) (mk_40 0) 0 rfl (j := 1) (by decide) (fw_inc (by decide)) md_Mo_replace_81 ?_
        refine lv_iconst (v := (2 : Int32)) hx hb md_Mo_replace_82 (by decide) ?_
        refine lv_icmp_ne (tgt := 99) hx hb md_Mo_replace_83 (by decide) (fun c_15 => ?_) (fun c_15 => ?_)
        · exact J9  _ _ _ (by rw [hj]; simp only [mf_Mo_replace_1_j2, if_neg c_5, if_neg c_14, if_neg c_15]) hc0  hI hP hS (lv_sub hl [1, 2, 3, 4, 5] rfl)
        · refine lv_aload_n hx hb md_Mo_replace_86 rfl (lv_at hl 1 rfl) ?_
          refine fw_getr hx hb hts i_Mo hown hK hP (mm_0 (by decide)) (mk_0 0) rfl 45 (by decide) (hts _ L_Mo_143) (fun _ h9 => h9) rfl md_Mo_replace_87 ?_
          refine lv_iload hx hb md_Mo_replace_90 (lv_at hl 0 rfl) ?_
          refine lv_aload_n hx hb md_Mo_replace_92 rfl (lv_at hl 1 rfl) ?_
          refine fw_getr hx hb hts i_Mo hown hK hP (mm_0 (by decide)) (mk_0 0) rfl 40 (by decide) (hts _ L_Mo_128) (fun _ h9 => h9) rfl md_Mo_replace_93 ?_
          refine lv_iload_n hx hb md_Mo_replace_96 rfl (lv_at hl 2 rfl) ?_
          refine fw_iald hx hb hK hP (mm_41 (by decide)) (mk_41 0) 0 rfl (j := 1) (by decide) (fw_inc (by decide)) md_Mo_replace_97 ?_
          refine fw_iast hx hb hK hD hP hS (mm_46 (by decide)) (mk_46 0) 0 rfl (j := (((6 : Int32) + ((2 : Int32) * a2)) + (0 : Int32)).toNatClampNeg) rfl (fw_inm (fw_inadd2 (n := 11) (m := 1) (t := 11) (fw_inadd2 (n := 7) (m := 5) (t := 11) (fw_inc (by decide)) (fw_inmul (c := (2 : Int32)) (k := 2) (n := 3) (m := 5) rfl hc0 (by decide) (by decide)) (by decide)) (fw_inc (by decide)) (by decide)) (by decide)) md_Mo_replace_98 (fun v23 H locs ev23 hP hS => ?_)
          have hI : mI b v23 := by rw [ev23]; exact mI_up hI trivial trivial
          exact J4 v23 ((v0 2 0 (v0 42 0 ((3 : Int32) + a2).toNatClampNeg).toNatClampNeg)) _ _ _ (by rw [hj]; subst ev23; simp only [mf_Mo_replace_1_j2, if_neg c_5, if_neg c_14, if_pos c_15]) hc0  hI hP hS (lv_sub hl [1, 2, 3, 4, 5] rfl)
      · exact J3  _ _ _ (by rw [hj]; simp only [mf_Mo_replace_1_j2, if_neg c_5, if_pos c_14]) hc0  hI hP hS (lv_sub hl [1, 2, 3, 4, 5, 0] rfl)
  have J1 : ∀  (H : Heap) (locs : List Loc) (ls : Array Slot), mf_Mo_replace_1 v0 a2 = mf_Mo_replace_1_j1 v0 a2 → vp_in a2 3 → mI b v0 → va_P D vcls (fw_w mCL cA mkd ad v0) H → va_S (fw_A mCL ad) s.heap H locs → lv_has ls 7 [(0, .ref (ad 0 0)), (1, .int (1 : Int32)), (2, .int a2)] → W p l e (headSpec (Cond.code my_Mo_replace mb_Mo_replace 7 none :: vTB) mrm_Mo_replace).room s m ([.ref (ad 0 0), .int (1 : Int32), .int a2] : List Value).toArray below meth c H locs 0 0 (MQ below (fw_Qv D vcls mCL cA mkd ad (mI b) (mf_Mo_replace_1 v0 a2)) ([.ref (ad 0 0), .int (1 : Int32), .int a2] : List Value).toArray s 0 0 (fw_A mCL ad)) (F0 m 25 ls [.int (v0 2 0 (v0 42 0 ((3 : Int32) + a2).toNatClampNeg).toNatClampNeg)]) := by
    intro  H locs ls hj hc0 hI hP hS hl
    clear J8 J7 J6 J5 J4 J3 J11 J13 J12 J10 J9
    refine lv_istore (lv' := [(4, .int (v0 2 0 (v0 42 0 ((3 : Int32) + a2).toNatClampNeg).toNatClampNeg)), (0, .ref (ad 0 0)), (1, .int (1 : Int32)), (2, .int a2)]) hx hb md_Mo_replace_25 hl (by decide) rfl (fun ls hl => ?_)
    refine lv_iconst (v := (0 : Int32)) hx hb md_Mo_replace_27 (by decide) ?_
    refine lv_istore (lv' := [(5, .int (0 : Int32)), (4, .int (v0 2 0 (v0 42 0 ((3 : Int32) + a2).toNatClampNeg).toNatClampNeg)), (0, .ref (ad 0 0)), (1, .int (1 : Int32)), (2, .int a2)]) hx hb md_Mo_replace_28 hl (by decide) rfl (fun ls hl => ?_)
    exact J2  _ _ _ (by rw [hj]; simp only [mf_Mo_replace_1_j1]) hc0  hI hP hS (lv_sub hl [2, 3, 4, 1, 0] rfl)
  have J21 : ∀ (v : fw_V)  (H : Heap) (locs : List Loc) (ls : Array Slot), mf_Mo_replace_1 v0 a2 = mf_Mo_replace_1_j21 v a2 → vp_in a2 3 → mI b v → va_P D vcls (fw_w mCL cA mkd ad v) H → va_S (fw_A mCL ad) s.heap H locs → lv_has ls 7 [(0, .ref (ad 0 0)), (1, .int (1 : Int32)), (2, .int a2), (4, .int (0 : Int32)), (5, .int (2 : Int32))] → W p l e (headSpec (Cond.code my_Mo_replace mb_Mo_replace 7 none :: vTB) mrm_Mo_replace).room s m ([.ref (ad 0 0), .int (1 : Int32), .int a2] : List Value).toArray below meth c H locs 0 0 (MQ below (fw_Qv D vcls mCL cA mkd ad (mI b) (mf_Mo_replace_1 v0 a2)) ([.ref (ad 0 0), .int (1 : Int32), .int a2] : List Value).toArray s 0 0 (fw_A mCL ad)) (F0 m 30 ls []) := by
    intro v  H locs ls hj hc0 hI hP hS hl
    clear J8 J7 J6 J5 J4 J3 J11 J13 J12 J10 J9 J2 J1
    refine lv_iload hx hb md_Mo_replace_30 (lv_at hl 4 rfl) ?_
    refine lv_iconst (v := (2 : Int32)) hx hb md_Mo_replace_32 (by decide) ?_
    refine lv_icmp_ge (tgt := 105) hx hb md_Mo_replace_33 (by decide) (fun _ => ?_) (fun c_30 => absurd (by decide) c_30)
    exact fw_vret hx hb hr hlocks hS hP hI md_Mo_replace_105 (by rw [hj]; simp only [mf_Mo_replace_1_j21])
  have J20 : ∀ (v : fw_V)  (H : Heap) (locs : List Loc) (ls : Array Slot), mf_Mo_replace_1 v0 a2 = mf_Mo_replace_1_j20 v a2 → vp_in a2 3 → mI b v → va_P D vcls (fw_w mCL cA mkd ad v) H → va_S (fw_A mCL ad) s.heap H locs → lv_has ls 7 [(0, .ref (ad 0 0)), (1, .int (1 : Int32)), (2, .int a2), (4, .int (0 : Int32)), (5, .int (1 : Int32))] → W p l e (headSpec (Cond.code my_Mo_replace mb_Mo_replace 7 none :: vTB) mrm_Mo_replace).room s m ([.ref (ad 0 0), .int (1 : Int32), .int a2] : List Value).toArray below meth c H locs 0 0 (MQ below (fw_Qv D vcls mCL cA mkd ad (mI b) (mf_Mo_replace_1 v0 a2)) ([.ref (ad 0 0), .int (1 : Int32), .int a2] : List Value).toArray s 0 0 (fw_A mCL ad)) (F0 m 99 ls []) := by
    intro v  H locs ls hj hc0 hI hP hS hl
    clear J8 J7 J6 J5 J4 J3 J11 J13 J12 J10 J9 J2 J1
    refine lv_iinc (v := (2 : Int32)) (lv' := [(5, .int (2 : Int32)), (0, .ref (ad 0 0)), (1, .int (1 : Int32)), (2, .int a2), (4, .int (0 : Int32))]) hx hb md_Mo_replace_99 hl (k := 4) rfl (by decide) (by decide) rfl (fun ls hl => ?_)
    refine lv_goto (tgt := 30) hx hb md_Mo_replace_102 (by decide) ?_
    exact J21 v  _ _ _ (by rw [hj]; simp only [mf_Mo_replace_1_j20]) hc0  hI hP hS (lv_sub hl [1, 2, 3, 4, 0] rfl)
  have J19 : ∀ (v : fw_V)  (H : Heap) (locs : List Loc) (ls : Array Slot), mf_Mo_replace_1 v0 a2 = mf_Mo_replace_1_j19 v a2 → vp_in a2 3 → mI b v → va_P D vcls (fw_w mCL cA mkd ad v) H → va_S (fw_A mCL ad) s.heap H locs → lv_has ls 7 [(0, .ref (ad 0 0)), (1, .int (1 : Int32)), (2, .int a2), (4, .int (0 : Int32)), (5, .int (1 : Int32)), (6, .int (((6 : Int32) + ((2 : Int32) * a2)) + (1 : Int32)))] → W p l e (headSpec (Cond.code my_Mo_replace mb_Mo_replace 7 none :: vTB) mrm_Mo_replace).room s m ([.ref (ad 0 0), .int (1 : Int32), .int a2] : List Value).toArray below meth c H locs 0 0 (MQ below (fw_Qv D vcls mCL cA mkd ad (mI b) (mf_Mo_replace_1 v0 a2)) ([.ref (ad 0 0), .int (1 : Int32), .int a2] : List Value).toArray s 0 0 (fw_A mCL ad)) (F0 m 65 ls []) := by
    intro v  H locs ls hj hc0 hI hP hS hl
    clear J8 J7 J6 J5 J4 J3 J11 J13 J12 J10 J9 J2 J1 J21
    refine lv_aload_n hx hb md_Mo_replace_65 rfl (lv_at hl 0 rfl) ?_
    refine fw_getr hx hb hts i_Mo hown hK hP (mm_0 (by decide)) (mk_0 0) rfl 45 (by decide) (hts _ L_Mo_143) (fun _ h9 => h9) rfl md_Mo_replace_66 ?_
    refine lv_iload hx hb md_Mo_replace_69 (lv_at hl 5 rfl) ?_
    refine lv_iconst (v := (0 : Int32)) hx hb md_Mo_replace_71 (by decide) ?_
    refine fw_iast hx hb hK hD hP hS (mm_46 (by decide)) (mk_46 0) 0 rfl (j := (((6 : Int32) + ((2 : Int32) * a2)) + (1 : Int32)).toNatClampNeg) rfl (fw_inp1 (fw_inadd2 (n := 7) (m := 5) (t := 11) (fw_inc (by decide)) (fw_inmul (c := (2 : Int32)) (k := 2) (n := 3) (m := 5) rfl hc0 (by decide) (by decide)) (by decide)) (by decide)) md_Mo_replace_72 (fun v29 H locs ev29 hP hS => ?_)
    have hI : mI b v29 := by rw [ev29]; exact mI_up hI trivial trivial
    refine lv_goto (tgt := 99) hx hb md_Mo_replace_73 (by decide) ?_
    exact J20 v29  _ _ _ (by rw [hj]; subst ev29; simp only [mf_Mo_replace_1_j19]) hc0  hI hP hS (lv_sub hl [0, 1, 2, 3, 4] rfl)
  have J18 : ∀ (v : fw_V)  (H : Heap) (locs : List Loc) (ls : Array Slot), mf_Mo_replace_1 v0 a2 = mf_Mo_replace_1_j18 v a2 → vp_in a2 3 → mI b v → va_P D vcls (fw_w mCL cA mkd ad v) H → va_S (fw_A mCL ad) s.heap H locs → lv_has ls 7 [(0, .ref (ad 0 0)), (1, .int (1 : Int32)), (2, .int a2), (4, .int (0 : Int32)), (5, .int (1 : Int32))] → W p l e (headSpec (Cond.code my_Mo_replace mb_Mo_replace 7 none :: vTB) mrm_Mo_replace).room s m ([.ref (ad 0 0), .int (1 : Int32), .int a2] : List Value).toArray below meth c H locs 0 0 (MQ below (fw_Qv D vcls mCL cA mkd ad (mI b) (mf_Mo_replace_1 v0 a2)) ([.ref (ad 0 0), .int (1 : Int32), .int a2] : List Value).toArray s 0 0 (fw_A mCL ad)) (F0 m 30 ls []) := by
    intro v  H locs ls hj hc0 hI hP hS hl
    clear J8 J7 J6 J5 J4 J3 J11 J13 J12 J10 J9 J2 J1 J21 J20
    refine lv_iload hx hb md_Mo_replace_30 (lv_at hl 4 rfl) ?_
    refine lv_iconst (v := (2 : Int32)) hx hb md_Mo_replace_32 (by decide) ?_
    refine lv_icmp_ge (tgt := 105) hx hb md_Mo_replace_33 (by decide) (fun c_27 => absurd c_27 (by decide)) (fun _ => ?_)
    refine lv_bipush (v := (6 : Int32)) hx hb md_Mo_replace_36 (by decide) ?_
    refine lv_iload_n hx hb md_Mo_replace_38 rfl (lv_at hl 1 rfl) ?_
    refine lv_imul hx hb md_Mo_replace_39 ?_
    refine fw_top (y := (6 : Int32)) (by decide) ?_
    refine lv_iconst (v := (2 : Int32)) hx hb md_Mo_replace_40 (by decide) ?_
    refine lv_iload_n hx hb md_Mo_replace_41 rfl (lv_at hl 2 rfl) ?_
    refine lv_imul hx hb md_Mo_replace_42 ?_
    refine lv_iadd hx hb md_Mo_replace_43 ?_
    refine lv_iload hx hb md_Mo_replace_44 (lv_at hl 4 rfl) ?_
    refine lv_iadd hx hb md_Mo_replace_46 ?_
    refine lv_istore (lv' := [(6, .int (((6 : Int32) + ((2 : Int32) * a2)) + (1 : Int32))), (0, .ref (ad 0 0)), (1, .int (1 : Int32)), (2, .int a2), (4, .int (0 : Int32)), (5, .int (1 : Int32))]) hx hb md_Mo_replace_47 hl (by decide) rfl (fun ls hl => ?_)
    refine lv_iload hx hb md_Mo_replace_49 (lv_at hl 5 rfl) ?_
    refine lv_iload hx hb md_Mo_replace_51 (lv_at hl 4 rfl) ?_
    refine lv_icmp_ge (tgt := 65) hx hb md_Mo_replace_53 (by decide) (fun _ => ?_) (fun c_28 => absurd (by decide) c_28)
    exact J19 v  _ _ _ (by rw [hj]; simp only [mf_Mo_replace_1_j18]) hc0  hI hP hS (lv_sub hl [1, 2, 3, 4, 5, 0] rfl)
  have J17 : ∀ (v : fw_V)  (H : Heap) (locs : List Loc) (ls : Array Slot), mf_Mo_replace_1 v0 a2 = mf_Mo_replace_1_j17 v a2 → vp_in a2 3 → mI b v → va_P D vcls (fw_w mCL cA mkd ad v) H → va_S (fw_A mCL ad) s.heap H locs → lv_has ls 7 [(0, .ref (ad 0 0)), (1, .int (1 : Int32)), (2, .int a2), (4, .int (0 : Int32)), (5, .int (0 : Int32))] → W p l e (headSpec (Cond.code my_Mo_replace mb_Mo_replace 7 none :: vTB) mrm_Mo_replace).room s m ([.ref (ad 0 0), .int (1 : Int32), .int a2] : List Value).toArray below meth c H locs 0 0 (MQ below (fw_Qv D vcls mCL cA mkd ad (mI b) (mf_Mo_replace_1 v0 a2)) ([.ref (ad 0 0), .int (1 : Int32), .int a2] : List Value).toArray s 0 0 (fw_A mCL ad)) (F0 m 99 ls []) := by
    intro v  H locs ls hj hc0 hI hP hS hl
    clear J8 J7 J6 J5 J4 J3 J11 J13 J12 J10 J9 J2 J1 J21 J20 J19
    refine lv_iinc (v := (1 : Int32)) (lv' := [(5, .int (1 : Int32)), (0, .ref (ad 0 0)), (1, .int (1 : Int32)), (2, .int a2), (4, .int (0 : Int32))]) hx hb md_Mo_replace_99 hl (k := 4) rfl (by decide) (by decide) rfl (fun ls hl => ?_)
    refine lv_goto (tgt := 30) hx hb md_Mo_replace_102 (by decide) ?_
    exact J18 v  _ _ _ (by rw [hj]; simp only [mf_Mo_replace_1_j17]) hc0  hI hP hS (lv_sub hl [1, 2, 3, 4, 0] rfl)
  have J16 : ∀  (H : Heap) (locs : List Loc) (ls : Array Slot), mf_Mo_replace_1 v0 a2 = mf_Mo_replace_1_j16 v0 a2 → vp_in a2 3 → mI b v0 → va_P D vcls (fw_w mCL cA mkd ad v0) H → va_S (fw_A mCL ad) s.heap H locs → lv_has ls 7 [(0, .ref (ad 0 0)), (1, .int (1 : Int32)), (2, .int a2), (4, .int (0 : Int32)), (5, .int (0 : Int32)), (6, .int (((6 : Int32) + ((2 : Int32) * a2)) + (0 : Int32)))] → W p l e (headSpec (Cond.code my_Mo_replace mb_Mo_replace 7 none :: vTB) mrm_Mo_replace).room s m ([.ref (ad 0 0), .int (1 : Int32), .int a2] : List Value).toArray below meth c H locs 0 0 (MQ below (fw_Qv D vcls mCL cA mkd ad (mI b) (mf_Mo_replace_1 v0 a2)) ([.ref (ad 0 0), .int (1 : Int32), .int a2] : List Value).toArray s 0 0 (fw_A mCL ad)) (F0 m 65 ls []) := by
    intro  H locs ls hj hc0 hI hP hS hl
    clear J8 J7 J6 J5 J4 J3 J11 J13 J12 J10 J9 J2 J1 J21 J20 J19 J18
    refine lv_aload_n hx hb md_Mo_replace_65 rfl (lv_at hl 0 rfl) ?_
    refine fw_getr hx hb hts i_Mo hown hK hP (mm_0 (by decide)) (mk_0 0) rfl 45 (by decide) (hts _ L_Mo_143) (fun _ h9 => h9) rfl md_Mo_replace_66 ?_
    refine lv_iload hx hb md_Mo_replace_69 (lv_at hl 5 rfl) ?_
    refine lv_iconst (v := (0 : Int32)) hx hb md_Mo_replace_71 (by decide) ?_
    refine fw_iast hx hb hK hD hP hS (mm_46 (by decide)) (mk_46 0) 0 rfl (j := (((6 : Int32) + ((2 : Int32) * a2)) + (0 : Int32)).toNatClampNeg) rfl (fw_inm (fw_inadd2 (n := 11) (m := 1) (t := 11) (fw_inadd2 (n := 7) (m := 5) (t := 11) (fw_inc (by decide)) (fw_inmul (c := (2 : Int32)) (k := 2) (n := 3) (m := 5) rfl hc0 (by decide) (by decide)) (by decide)) (fw_inc (by decide)) (by decide)) (by decide)) md_Mo_replace_72 (fun v26 H locs ev26 hP hS => ?_)
    have hI : mI b v26 := by rw [ev26]; exact mI_up hI trivial trivial
    refine lv_goto (tgt := 99) hx hb md_Mo_replace_73 (by decide) ?_
    exact J17 v26  _ _ _ (by rw [hj]; subst ev26; simp only [mf_Mo_replace_1_j16]) hc0  hI hP hS (lv_sub hl [0, 1, 2, 3, 4] rfl)
  have J15 : ∀  (H : Heap) (locs : List Loc) (ls : Array Slot), mf_Mo_replace_1 v0 a2 = mf_Mo_replace_1_j15 v0 a2 → vp_in a2 3 → mI b v0 → va_P D vcls (fw_w mCL cA mkd ad v0) H → va_S (fw_A mCL ad) s.heap H locs → lv_has ls 7 [(0, .ref (ad 0 0)), (1, .int (1 : Int32)), (2, .int a2), (4, .int (0 : Int32)), (5, .int (0 : Int32))] → W p l e (headSpec (Cond.code my_Mo_replace mb_Mo_replace 7 none :: vTB) mrm_Mo_replace).room s m ([.ref (ad 0 0), .int (1 : Int32), .int a2] : List Value).toArray below meth c H locs 0 0 (MQ below (fw_Qv D vcls mCL cA mkd ad (mI b) (mf_Mo_replace_1 v0 a2)) ([.ref (ad 0 0), .int (1 : Int32), .int a2] : List Value).toArray s 0 0 (fw_A mCL ad)) (F0 m 30 ls []) := by
    intro  H locs ls hj hc0 hI hP hS hl
    clear J8 J7 J6 J5 J4 J3 J11 J13 J12 J10 J9 J2 J1 J21 J20 J19 J18 J17
    refine lv_iload hx hb md_Mo_replace_30 (lv_at hl 4 rfl) ?_
    refine lv_iconst (v := (2 : Int32)) hx hb md_Mo_replace_32 (by decide) ?_
    refine lv_icmp_ge (tgt := 105) hx hb md_Mo_replace_33 (by decide) (fun c_24 => absurd c_24 (by decide)) (fun _ => ?_)
    refine lv_bipush (v := (6 : Int32)) hx hb md_Mo_replace_36 (by decide) ?_
    refine lv_iload_n hx hb md_Mo_replace_38 rfl (lv_at hl 1 rfl) ?_
    refine lv_imul hx hb md_Mo_replace_39 ?_
    refine fw_top (y := (6 : Int32)) (by decide) ?_
    refine lv_iconst (v := (2 : Int32)) hx hb md_Mo_replace_40 (by decide) ?_
    refine lv_iload_n hx hb md_Mo_replace_41 rfl (lv_at hl 2 rfl) ?_
    refine lv_imul hx hb md_Mo_replace_42 ?_
    refine lv_iadd hx hb md_Mo_replace_43 ?_
    refine lv_iload hx hb md_Mo_replace_44 (lv_at hl 4 rfl) ?_
    refine lv_iadd hx hb md_Mo_replace_46 ?_
    refine lv_istore (lv' := [(6, .int (((6 : Int32) + ((2 : Int32) * a2)) + (0 : Int32))), (0, .ref (ad 0 0)), (1, .int (1 : Int32)), (2, .int a2), (4, .int (0 : Int32)), (5, .int (0 : Int32))]) hx hb md_Mo_replace_47 hl (by decide) rfl (fun ls hl => ?_)
    refine lv_iload hx hb md_Mo_replace_49 (lv_at hl 5 rfl) ?_
    refine lv_iload hx hb md_Mo_replace_51 (lv_at hl 4 rfl) ?_
    refine lv_icmp_ge (tgt := 65) hx hb md_Mo_replace_53 (by decide) (fun _ => ?_) (fun c_25 => absurd (by decide) c_25)
    exact J16  _ _ _ (by rw [hj]; simp only [mf_Mo_replace_1_j15]) hc0  hI hP hS (lv_sub hl [1, 2, 3, 4, 5, 0] rfl)
  have J14 : ∀  (H : Heap) (locs : List Loc) (ls : Array Slot), mf_Mo_replace_1 v0 a2 = mf_Mo_replace_1_j14 v0 a2 → vp_in a2 3 → mI b v0 → va_P D vcls (fw_w mCL cA mkd ad v0) H → va_S (fw_A mCL ad) s.heap H locs → lv_has ls 7 [(0, .ref (ad 0 0)), (1, .int (1 : Int32)), (2, .int a2)] → W p l e (headSpec (Cond.code my_Mo_replace mb_Mo_replace 7 none :: vTB) mrm_Mo_replace).room s m ([.ref (ad 0 0), .int (1 : Int32), .int a2] : List Value).toArray below meth c H locs 0 0 (MQ below (fw_Qv D vcls mCL cA mkd ad (mI b) (mf_Mo_replace_1 v0 a2)) ([.ref (ad 0 0), .int (1 : Int32), .int a2] : List Value).toArray s 0 0 (fw_A mCL ad)) (F0 m 25 ls [.int (0 : Int32)]) := by
    intro  H locs ls hj hc0 hI hP hS hl
    clear J8 J7 J6 J5 J4 J3 J11 J13 J12 J10 J9 J2 J1 J21 J20 J19 J18 J17 J16
    refine lv_istore (lv' := [(4, .int (0 : Int32)), (0, .ref (ad 0 0)), (1, .int (1 : Int32)), (2, .int a2)]) hx hb md_Mo_replace_25 hl (by decide) rfl (fun ls hl => ?_)
    refine lv_iconst (v := (0 : Int32)) hx hb md_Mo_replace_27 (by decide) ?_
    refine lv_istore (lv' := [(5, .int (0 : Int32)), (4, .int (0 : Int32)), (0, .ref (ad 0 0)), (1, .int (1 : Int32)), (2, .int a2)]) hx hb md_Mo_replace_28 hl (by decide) rfl (fun ls hl => ?_)
    exact J15  _ _ _ (by rw [hj]; simp only [mf_Mo_replace_1_j14]) hc0  hI hP hS (lv_sub hl [2, 3, 4, 1, 0] rfl)
  clear J8 J7 J6 J5 J4 J3 J11 J13 J12 J10 J9 J2 J21 J20 J19 J18 J17 J16 J15
  have hl := lv_entry ([.ref (ad 0 0), .int (1 : Int32), .int a2]) (n := 7) (Nat.le_of_ble_eq_true rfl)
  rw [lg_entry_eq]
  generalize (lg_sl ([.ref (ad 0 0), .int (1 : Int32), .int a2]) ++ List.replicate (7 - (lg_sl ([.ref (ad 0 0), .int (1 : Int32), .int a2])).length) Slot.unset).toArray = ls at hl ⊢
  have hl : lv_has ls 7 [(0, .ref (ad 0 0)), (1, .int (1 : Int32)), (2, .int a2)] := hl
  refine lv_aload_n hx hb md_Mo_replace_0 rfl (lv_at hl 0 rfl) ?_
  refine fw_getr hx hb hts i_Mo hown hK hP (mm_0 (by decide)) (mk_0 0) rfl 41 (by decide) (hts _ L_Mo_131) (fun _ h9 => h9) rfl md_Mo_replace_1 ?_
  refine lv_iconst (v := (3 : Int32)) hx hb md_Mo_replace_4 (by decide) ?_
  refine lv_iload_n hx hb md_Mo_replace_5 rfl (lv_at hl 1 rfl) ?_
  refine lv_imul hx hb md_Mo_replace_6 ?_
  refine fw_top (y := (3 : Int32)) (by decide) ?_
  refine lv_iload_n hx hb md_Mo_replace_7 rfl (lv_at hl 2 rfl) ?_
  refine lv_iadd hx hb md_Mo_replace_8 ?_
  refine fw_iald hx hb hK hP (mm_42 (by decide)) (mk_42 0) 0 rfl (j := ((3 : Int32) + a2).toNatClampNeg) rfl (fw_inadd2 (n := 4) (m := 3) (t := 6) (fw_inc (by decide)) hq0 (by decide)) md_Mo_replace_9 ?_
  have h_1 : vp_in ((v0 42 0 ((3 : Int32) + a2).toNatClampNeg) + 1) 9 := hI.1 42 0 (((3 : Int32) + a2).toNatClampNeg)
  refine lv_istore_n (lv' := [(3, .int (v0 42 0 ((3 : Int32) + a2).toNatClampNeg)), (0, .ref (ad 0 0)), (1, .int (1 : Int32)), (2, .int a2)]) hx hb md_Mo_replace_10 rfl hl (by decide) rfl (fun ls hl => ?_)
  refine lv_iload_n hx hb md_Mo_replace_11 rfl (lv_at hl 0 rfl) ?_
  refine lv_if_ge (tgt := 19) hx hb md_Mo_replace_12 (by decide) (fun c_2 => ?_) (fun c_2 => ?_)
  · have h_3 : vp_in (v0 42 0 ((3 : Int32) + a2).toNatClampNeg) 8 := fw_m8' h_1 c_2
    refine lv_aload_n hx hb md_Mo_replace_19 rfl (lv_at hl 1 rfl) ?_
    refine fw_getr hx hb hts i_Mo hown hK hP (mm_0 (by decide)) (mk_0 0) rfl 1 (by decide) (hts _ L_Mo_13) (fun _ h9 => h9) rfl md_Mo_replace_20 ?_
    refine lv_iload_n hx hb md_Mo_replace_23 rfl (lv_at hl 0 rfl) ?_
    refine fw_iald hx hb hK hP (mm_2 (by decide)) (mk_2 0) 0 rfl (j := (v0 42 0 ((3 : Int32) + a2).toNatClampNeg).toNatClampNeg) rfl h_3 md_Mo_replace_24 ?_
    exact J1  _ _ _ (by simp only [mf_Mo_replace_1, if_pos c_2]) hq0  hI hP hS (lv_sub hl [1, 2, 3] rfl)
  · refine lv_iconst (v := (0 : Int32)) hx hb md_Mo_replace_15 (by decide) ?_
    refine lv_goto (tgt := 25) hx hb md_Mo_replace_16 (by decide) ?_
    exact J14  _ _ _ (by simp only [mf_Mo_replace_1, if_neg c_2]) hq0  hI hP hS (lv_sub hl [1, 2, 3] rfl)

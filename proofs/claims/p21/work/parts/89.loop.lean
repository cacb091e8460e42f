theorem lw_five (n : Nat) : nI (5 * n) + 5 = nI (5 * (n + 1)) := by
  show nI (5 * n) + nI 5 = _
  rw [nI_add, Nat.mul_succ]
theorem lw_sub5 {L : Nat} (hL : L ≤ 2560) : (Int32.ofNat L - 5).toInt = (L : Int) - 5 := by
  rw [Int32.toInt_sub, show (5 : Int32).toInt = 5 from by decide, show (Int32.ofNat L).toInt = (L : Int) from nI_toInt (by omega)]
  rw [Int.bmod_eq_of_le (by omega) (by omega)]
theorem lw_in {L n : Nat} (hL : L ≤ 2560) (h : 5 * n + 5 ≤ L) (j : Nat) (hj : j < 5) : vp_in (nI (5 * n) + nI j) L := by
  rw [nI_add]
  exact vp_in_nI (by omega) (by omega)
set_option maxHeartbeats 8000000 in
set_option maxRecDepth 100000 in
theorem law_loop {p : Program} {l : Launch} {e : Env} {s : State} {m : MethodId} {below : List Frame} {meth : Method} {c : Code} {D : va_G} {cA : Nat → ClassId} {ad am : Nat → Nat → Nat} {b L : Nat} {xs : Nat → Int32} (hL : L ≤ 2560) (C0 : lw_At p s m meth c b L xs) (hK : va_K D vcls (vtys cA) s) (hN : xNN s) (hDx : fw_D xCL ad) (hDm : fw_D mCL am) (hAx : ∀ x ∈ xCL, s.heap.size ≤ ad x.1 x.2) (hAm : ∀ x ∈ mCL, s.heap.size ≤ am x.1 x.2) (hdis : ∀ x ∈ xCL, ∀ y ∈ mCL, ad x.1 x.2 ≠ am y.1 y.2) :
    ∀ (z n : Nat) (v w : fw_V) (H : Heap) (locs : List Loc) (ls : Array Slot), L + 5 ≤ 5 * n + 5 * z → 5 * n ≤ L → xI (2 * n) v → mI 0 w → lwR n v w → va_P D vcls (fw_w xCL cA xkd ad v) H → va_P D vcls (fw_w mCL cA mkd am w) H → va_S (fun q : Nat => s.heap.size ≤ q) s.heap H locs → lv_has ls 4 [(0, .ref b), (1, .ref (ad 0 0)), (2, .ref (am 0 0)), (3, .int (nI (5 * n)))] → W p l e room_1 s m #[Value.ref b] below meth c H locs 128 905 (lw_Z below #[Value.ref b] s) (F0 m 18 ls []) := by
  obtain ⟨hx, hb, hr, hml, hown, hts0, hX, hbl, hlocks, hgv⟩ := id C0
  have hts : ∀ w ∈ vTB, w.before #[Value.ref b] s = true := fun w h => hts0 w (List.mem_filter.mp h).1
  have hbA : ¬ (fun q : Nat => s.heap.size ≤ q) b := Nat.not_le.mpr hbl
  have hdis2 : ∀ x ∈ mCL, ∀ y ∈ xCL, am x.1 x.2 ≠ ad y.1 y.2 := fun x hx y hy h => hdis y hy x hx h.symm
  have hend : ∀ (H : Heap) (locs : List Loc) (ls : Array Slot), va_S (fun q : Nat => s.heap.size ≤ q) s.heap H locs → W p l e room_1 s m #[Value.ref b] below meth c H locs 128 905 (lw_Z below #[Value.ref b] s) (F0 m 850 ls []) := by
    intro H locs ls hS
    refine va_forget hS.2.2 ?_
    refine W.widen (k := 628245) (n := 7217514) (by omega) (by omega) ?_
    refine lv_iconst (v := (1 : Int32)) hx hb d_law_850 (by decide) ?_
    exact lw_ret hx hb hr hlocks d_law_851
  intro z
  induction z with
  | zero =>
    intro n v w H locs ls h1 h2
    exact absurd h1 (by omega)
  | succ z ih =>
    intro n v w H locs ls h1 h2 hIx hIm hR hPx hPm hS hl
    have hIx0 := hIx
    have hIm0 := hIm
    refine lv_iload_n hx hb d_law_18 rfl (lv_at hl 3 rfl) ?_
    refine lv_aload_n hx hb d_law_19 rfl (lv_at hl 0 rfl) ?_
    refine va_slen hx hb hX hbl hbA hS d_law_20 ?_
    refine lv_iconst (v := (5 : Int32)) hx hb d_law_21 (by decide) ?_
    refine lv_isub hx hb d_law_22 ?_
    refine lv_icmp_gt (tgt := 850) hx hb d_law_23 (by decide) (fun _ => hend _ _ _ hS) (fun q => ?_)
    have hlt : 5 * n + 5 ≤ L := by
      rw [Int32.lt_iff_toInt_lt, lw_sub5 (show L ≤ 2560 by omega), nI_toInt (by omega)] at q
      omega
    have hbud : 2 * n < 1990 := by omega
    have hn : 5 * n + 5 ≤ 2560 := by omega
    have hi0 : vp_in (nI (5 * n)) L := vp_in_nI (by omega) (by omega)
    have hi1 : vp_in (nI (5 * n) + (1 : Int32)) L := lw_in (show L ≤ 2560 by omega) hlt 1 (by decide)
    have hi2 : vp_in (nI (5 * n) + (2 : Int32)) L := lw_in (show L ≤ 2560 by omega) hlt 2 (by decide)
    have hi3 : vp_in (nI (5 * n) + (3 : Int32)) L := lw_in (show L ≤ 2560 by omega) hlt 3 (by decide)
    have hi4 : vp_in (nI (5 * n) + (4 : Int32)) L := lw_in (show L ≤ 2560 by omega) hlt 4 (by decide)
    refine lv_aload_n hx hb d_law_26 rfl (lv_at hl 0 rfl) ?_
    refine lv_iload_n hx hb d_law_27 rfl (lv_at hl 3 rfl) ?_
    refine va_sld hx hb hX hbl hbA hS hi0 d_law_28 ?_
    refine lv_bipush (v := (31 : Int32)) hx hb d_law_29 (by decide) ?_
    refine lv_iand hx hb d_law_31 ?_
    refine lv_topi (fun y ey => ?_)
    clear ey
    by_cases y0 : y = (0 : Int32)
    · refine lv_tableIn (off := 96) (tgt := 128) hx hb d_law_32 (by rw [y0]; decide) (by rw [y0]; decide) (by rw [y0]; rfl) (by decide) ?_
      refine lv_aload_n hx hb d_law_128 rfl (lv_at hl 1 rfl) ?_
      refine lv_aload_n hx hb d_law_129 rfl (lv_at hl 0 rfl) ?_
      refine lv_iload_n hx hb d_law_130 rfl (lv_at hl 3 rfl) ?_
      refine lv_iconst (v := (1 : Int32)) hx hb d_law_131 (by decide) ?_
      refine lv_iadd hx hb d_law_132 ?_
      refine va_sld hx hb hX hbl hbA hS hi1 d_law_133 ?_
      refine lv_aload_n hx hb d_law_134 rfl (lv_at hl 0 rfl) ?_
      refine lv_iload_n hx hb d_law_135 rfl (lv_at hl 3 rfl) ?_
      refine lv_iconst (v := (2 : Int32)) hx hb d_law_136 (by decide) ?_
      refine lv_iadd hx hb d_law_137 ?_
      refine va_sld hx hb hX hbl hbA hS hi2 d_law_138 ?_
      refine lv_aload_n hx hb d_law_139 rfl (lv_at hl 0 rfl) ?_
      refine lv_iload_n hx hb d_law_140 rfl (lv_at hl 3 rfl) ?_
      refine lv_iconst (v := (3 : Int32)) hx hb d_law_141 (by decide) ?_
      refine lv_iadd hx hb d_law_142 ?_
      refine va_sld hx hb hX hbl hbA hS hi3 d_law_143 ?_
      refine lv_aload_n hx hb d_law_144 rfl (lv_at hl 0 rfl) ?_
      refine lv_iload_n hx hb d_law_145 rfl (lv_at hl 3 rfl) ?_
      refine lv_iconst (v := (4 : Int32)) hx hb d_law_146 (by decide) ?_
      refine lv_iadd hx hb d_law_147 ?_
      refine va_sld hx hb hX hbl hbA hS hi4 d_law_148 ?_
      refine lv_if_eq (tgt := 156) hx hb d_law_149 (by decide) (fun c1 => ?_) (fun c1 => ?_)
      · refine lv_iconst (v := (0 : Int32)) hx hb d_law_156 (by decide) ?_
        refine fw_lcz (va_runV (As := [.int (xs ((nI (5 * n)) + (1 : Int32)).toNatClampNeg), .int (xs ((nI (5 * n)) + (2 : Int32)).toNatClampNeg), .int (xs ((nI (5 * n)) + (3 : Int32)).toNatClampNeg), .int (0 : Int32)]) (rest := []) ⟨hx, hb, hml, hown, hts⟩ (xc_FR_kind l hDx v hIx (xs ((nI (5 * n)) + (1 : Int32)).toNatClampNeg) (xs ((nI (5 * n)) + (2 : Int32)).toNatClampNeg) (xs ((nI (5 * n)) + (3 : Int32)).toNatClampNeg) (0 : Int32) ) (xw_FR_kind hts LL_13 ⟨(Nat.le_of_ble_eq_true rfl), (Nat.le_of_ble_eq_true rfl)⟩) (fw_preV hN.1 hK hPx (xm_0 (by decide)) (xk_0 0) rfl) rfl rfl hl.1 rfl (lv_room (Nat.le_of_ble_eq_true rfl)) d_law_157 ⟨(Nat.le_of_ble_eq_true rfl), (Nat.le_of_ble_eq_true rfl)⟩) hS hAx hPm hdis (fun r2 v3 H locs er2 ev3 hIx hPx hPm hS => ?_)
        refine lv_pop hx hb d_law_160 rfl ?_
        refine lv_aload_n hx hb d_law_161 rfl (lv_at hl 2 rfl) ?_
        refine lv_aload_n hx hb d_law_162 rfl (lv_at hl 0 rfl) ?_
        refine lv_iload_n hx hb d_law_163 rfl (lv_at hl 3 rfl) ?_
        refine lv_iconst (v := (1 : Int32)) hx hb d_law_164 (by decide) ?_
        refine lv_iadd hx hb d_law_165 ?_
        refine va_sld hx hb hX hbl hbA hS hi1 d_law_166 ?_
        refine lv_aload_n hx hb d_law_167 rfl (lv_at hl 0 rfl) ?_
        refine lv_iload_n hx hb d_law_168 rfl (lv_at hl 3 rfl) ?_
        refine lv_iconst (v := (2 : Int32)) hx hb d_law_169 (by decide) ?_
        refine lv_iadd hx hb d_law_170 ?_
        refine va_sld hx hb hX hbl hbA hS hi2 d_law_171 ?_
        refine lv_aload_n hx hb d_law_172 rfl (lv_at hl 0 rfl) ?_
        refine lv_iload_n hx hb d_law_173 rfl (lv_at hl 3 rfl) ?_
        refine lv_iconst (v := (3 : Int32)) hx hb d_law_174 (by decide) ?_
        refine lv_iadd hx hb d_law_175 ?_
        refine va_sld hx hb hX hbl hbA hS hi3 d_law_176 ?_
        refine lv_aload_n hx hb d_law_177 rfl (lv_at hl 0 rfl) ?_
        refine lv_iload_n hx hb d_law_178 rfl (lv_at hl 3 rfl) ?_
        refine lv_iconst (v := (4 : Int32)) hx hb d_law_179 (by decide) ?_
        refine lv_iadd hx hb d_law_180 ?_
        refine va_sld hx hb hX hbl hbA hS hi4 d_law_181 ?_
        refine lv_if_eq (tgt := 189) hx hb d_law_182 (by decide) (fun _ => ?_) (fun q => absurd c1 q)
        refine lv_iconst (v := (0 : Int32)) hx hb d_law_189 (by decide) ?_
        refine fw_lcz (va_runV (As := [.int (xs ((nI (5 * n)) + (1 : Int32)).toNatClampNeg), .int (xs ((nI (5 * n)) + (2 : Int32)).toNatClampNeg), .int (xs ((nI (5 * n)) + (3 : Int32)).toNatClampNeg), .int (0 : Int32)]) (rest := []) ⟨hx, hb, hml, hown, hts⟩ (mc_Mo_kind l hDm w hIm (xs ((nI (5 * n)) + (1 : Int32)).toNatClampNeg) (xs ((nI (5 * n)) + (2 : Int32)).toNatClampNeg) (xs ((nI (5 * n)) + (3 : Int32)).toNatClampNeg) (0 : Int32) ) (mw_Mo_kind hts LL_17 ⟨(Nat.le_of_ble_eq_true rfl), (Nat.le_of_ble_eq_true rfl)⟩) (fw_preV hN.1 hK hPm (mm_0 (by decide)) (mk_0 0) rfl) rfl rfl hl.1 rfl (lv_room (Nat.le_of_ble_eq_true rfl)) d_law_190 ⟨(Nat.le_of_ble_eq_true rfl), (Nat.le_of_ble_eq_true rfl)⟩) hS hAm hPx hdis2 (fun r4 w5 H locs er4 ew5 hIm hPm hPx hS => ?_)
        refine lv_pop hx hb d_law_193 rfl ?_
        refine lv_goto (tgt := 844) hx hb d_law_194 (by decide) ?_
        refine lv_iinc (v := nI (5 * (n + 1))) (lv' := [(3, .int (nI (5 * (n + 1)))), (0, .ref b), (1, .ref (ad 0 0)), (2, .ref (am 0 0))]) hx hb d_law_844 hl (k := 3) rfl (lw_five n) (by decide) rfl (fun ls hl => ?_)
        refine lv_goto (tgt := 18) hx hb d_law_847 (by decide) ?_
        exact ih (n + 1) v3 w5 _ _ _ (by omega) (by omega) (xI_mono hIx (by omega)) hIm (by rw [ev3, ew5]; exact (ls_kind (n := n) hn hIx0 hIm0 hR (xs ((nI (5 * n)) + (1 : Int32)).toNatClampNeg) (xs ((nI (5 * n)) + (2 : Int32)).toNatClampNeg) (xs ((nI (5 * n)) + (3 : Int32)).toNatClampNeg) (0 : Int32)).1) hPx hPm hS (lv_sub hl [1, 2, 3, 0] rfl)
      · refine lv_iconst (v := (1 : Int32)) hx hb d_law_152 (by decide) ?_
        refine lv_goto (tgt := 157) hx hb d_law_153 (by decide) ?_
        refine fw_lcz (va_runV (As := [.int (xs ((nI (5 * n)) + (1 : Int32)).toNatClampNeg), .int (xs ((nI (5 * n)) + (2 : Int32)).toNatClampNeg), .int (xs ((nI (5 * n)) + (3 : Int32)).toNatClampNeg), .int (1 : Int32)]) (rest := []) ⟨hx, hb, hml, hown, hts⟩ (xc_FR_kind l hDx v hIx (xs ((nI (5 * n)) + (1 : Int32)).toNatClampNeg) (xs ((nI (5 * n)) + (2 : Int32)).toNatClampNeg) (xs ((nI (5 * n)) + (3 : Int32)).toNatClampNeg) (1 : Int32) ) (xw_FR_kind hts LL_13 ⟨(Nat.le_of_ble_eq_true rfl), (Nat.le_of_ble_eq_true rfl)⟩) (fw_preV hN.1 hK hPx (xm_0 (by decide)) (xk_0 0) rfl) rfl rfl hl.1 rfl (lv_room (Nat.le_of_ble_eq_true rfl)) d_law_157 ⟨(Nat.le_of_ble_eq_true rfl), (Nat.le_of_ble_eq_true rfl)⟩) hS hAx hPm hdis (fun r6 v7 H locs er6 ev7 hIx hPx hPm hS => ?_)
        refine lv_pop hx hb d_law_160 rfl ?_
        refine lv_aload_n hx hb d_law_161 rfl (lv_at hl 2 rfl) ?_
        refine lv_aload_n hx hb d_law_162 rfl (lv_at hl 0 rfl) ?_
        refine lv_iload_n hx hb d_law_163 rfl (lv_at hl 3 rfl) ?_
        refine lv_iconst (v := (1 : Int32)) hx hb d_law_164 (by decide) ?_
        refine lv_iadd hx hb d_law_165 ?_
        refine va_sld hx hb hX hbl hbA hS hi1 d_law_166 ?_
        refine lv_aload_n hx hb d_law_167 rfl (lv_at hl 0 rfl) ?_
        refine lv_iload_n hx hb d_law_168 rfl (lv_at hl 3 rfl) ?_
        refine lv_iconst (v := (2 : Int32)) hx hb d_law_169 (by decide) ?_
        refine lv_iadd hx hb d_law_170 ?_
        refine va_sld hx hb hX hbl hbA hS hi2 d_law_171 ?_
        refine lv_aload_n hx hb d_law_172 rfl (lv_at hl 0 rfl) ?_
        refine lv_iload_n hx hb d_law_173 rfl (lv_at hl 3 rfl) ?_
        refine lv_iconst (v := (3 : Int32)) hx hb d_law_174 (by decide) ?_
        refine lv_iadd hx hb d_law_175 ?_
        refine va_sld hx hb hX hbl hbA hS hi3 d_law_176 ?_
        refine lv_aload_n hx hb d_law_177 rfl (lv_at hl 0 rfl) ?_
        refine lv_iload_n hx hb d_law_178 rfl (lv_at hl 3 rfl) ?_
        refine lv_iconst (v := (4 : Int32)) hx hb d_law_179 (by decide) ?_
        refine lv_iadd hx hb d_law_180 ?_
        refine va_sld hx hb hX hbl hbA hS hi4 d_law_181 ?_
        refine lv_if_eq (tgt := 189) hx hb d_law_182 (by decide) (fun q => absurd q c1) (fun _ => ?_)
        refine lv_iconst (v := (1 : Int32)) hx hb d_law_185 (by decide) ?_
        refine lv_goto (tgt := 190) hx hb d_law_186 (by decide) ?_
        refine fw_lcz (va_runV (As := [.int (xs ((nI (5 * n)) + (1 : Int32)).toNatClampNeg), .int (xs ((nI (5 * n)) + (2 : Int32)).toNatClampNeg), .int (xs ((nI (5 * n)) + (3 : Int32)).toNatClampNeg), .int (1 : Int32)]) (rest := []) ⟨hx, hb, hml, hown, hts⟩ (mc_Mo_kind l hDm w hIm (xs ((nI (5 * n)) + (1 : Int32)).toNatClampNeg) (xs ((nI (5 * n)) + (2 : Int32)).toNatClampNeg) (xs ((nI (5 * n)) + (3 : Int32)).toNatClampNeg) (1 : Int32) ) (mw_Mo_kind hts LL_17 ⟨(Nat.le_of_ble_eq_true rfl), (Nat.le_of_ble_eq_true rfl)⟩) (fw_preV hN.1 hK hPm (mm_0 (by decide)) (mk_0 0) rfl) rfl rfl hl.1 rfl (lv_room (Nat.le_of_ble_eq_true rfl)) d_law_190 ⟨(Nat.le_of_ble_eq_true rfl), (Nat.le_of_ble_eq_true rfl)⟩) hS hAm hPx hdis2 (fun r8 w9 H locs er8 ew9 hIm hPm hPx hS => ?_)
        refine lv_pop hx hb d_law_193 rfl ?_
        refine lv_goto (tgt := 844) hx hb d_law_194 (by decide) ?_
        refine lv_iinc (v := nI (5 * (n + 1))) (lv' := [(3, .int (nI (5 * (n + 1)))), (0, .ref b), (1, .ref (ad 0 0)), (2, .ref (am 0 0))]) hx hb d_law_844 hl (k := 3) rfl (lw_five n) (by decide) rfl (fun ls hl => ?_)
        refine lv_goto (tgt := 18) hx hb d_law_847 (by decide) ?_
        exact ih (n + 1) v7 w9 _ _ _ (by omega) (by omega) (xI_mono hIx (by omega)) hIm (by rw [ev7, ew9]; exact (ls_kind (n := n) hn hIx0 hIm0 hR (xs ((nI (5 * n)) + (1 : Int32)).toNatClampNeg) (xs ((nI (5 * n)) + (2 : Int32)).toNatClampNeg) (xs ((nI (5 * n)) + (3 : Int32)).toNatClampNeg) (1 : Int32)).1) hPx hPm hS (lv_sub hl [1, 2, 3, 0] rfl)
    by_cases y1 : y = (1 : Int32)
    · refine lv_tableIn (off := 165) (tgt := 197) hx hb d_law_32 (by rw [y1]; decide) (by rw [y1]; decide) (by rw [y1]; rfl) (by decide) ?_
      refine lv_aload_n hx hb d_law_197 rfl (lv_at hl 1 rfl) ?_
      refine lv_aload_n hx hb d_law_198 rfl (lv_at hl 0 rfl) ?_
      refine lv_iload_n hx hb d_law_199 rfl (lv_at hl 3 rfl) ?_
      refine lv_iconst (v := (1 : Int32)) hx hb d_law_200 (by decide) ?_
      refine lv_iadd hx hb d_law_201 ?_
      refine va_sld hx hb hX hbl hbA hS hi1 d_law_202 ?_
      refine lv_aload_n hx hb d_law_203 rfl (lv_at hl 0 rfl) ?_
      refine lv_iload_n hx hb d_law_204 rfl (lv_at hl 3 rfl) ?_
      refine lv_iconst (v := (2 : Int32)) hx hb d_law_205 (by decide) ?_
      refine lv_iadd hx hb d_law_206 ?_
      refine va_sld hx hb hX hbl hbA hS hi2 d_law_207 ?_
      refine fw_lcz (va_runV (As := [.int (xs ((nI (5 * n)) + (1 : Int32)).toNatClampNeg), .int (xs ((nI (5 * n)) + (2 : Int32)).toNatClampNeg)]) (rest := []) ⟨hx, hb, hml, hown, hts⟩ (xc_FR_name l hDx v hIx (xs ((nI (5 * n)) + (1 : Int32)).toNatClampNeg) (xs ((nI (5 * n)) + (2 : Int32)).toNatClampNeg) ) (xw_FR_name hts LL_18 ⟨(Nat.le_of_ble_eq_true rfl), (Nat.le_of_ble_eq_true rfl)⟩) (fw_preV hN.1 hK hPx (xm_0 (by decide)) (xk_0 0) rfl) rfl rfl hl.1 rfl (lv_room (Nat.le_of_ble_eq_true rfl)) d_law_208 ⟨(Nat.le_of_ble_eq_true rfl), (Nat.le_of_ble_eq_true rfl)⟩) hS hAx hPm hdis (fun r10 v11 H locs er10 ev11 hIx hPx hPm hS => ?_)
      refine lv_pop hx hb d_law_211 rfl ?_
      refine lv_aload_n hx hb d_law_212 rfl (lv_at hl 2 rfl) ?_
      refine lv_aload_n hx hb d_law_213 rfl (lv_at hl 0 rfl) ?_
      refine lv_iload_n hx hb d_law_214 rfl (lv_at hl 3 rfl) ?_
      refine lv_iconst (v := (1 : Int32)) hx hb d_law_215 (by decide) ?_
      refine lv_iadd hx hb d_law_216 ?_
      refine va_sld hx hb hX hbl hbA hS hi1 d_law_217 ?_
      refine lv_aload_n hx hb d_law_218 rfl (lv_at hl 0 rfl) ?_
      refine lv_iload_n hx hb d_law_219 rfl (lv_at hl 3 rfl) ?_
      refine lv_iconst (v := (2 : Int32)) hx hb d_law_220 (by decide) ?_
      refine lv_iadd hx hb d_law_221 ?_
      refine va_sld hx hb hX hbl hbA hS hi2 d_law_222 ?_
      refine fw_lcz (va_runV (As := [.int (xs ((nI (5 * n)) + (1 : Int32)).toNatClampNeg), .int (xs ((nI (5 * n)) + (2 : Int32)).toNatClampNeg)]) (rest := []) ⟨hx, hb, hml, hown, hts⟩ (mc_Mo_name l hDm w hIm (xs ((nI (5 * n)) + (1 : Int32)).toNatClampNeg) (xs ((nI (5 * n)) + (2 : Int32)).toNatClampNeg) ) (mw_Mo_name hts LL_22 ⟨(Nat.le_of_ble_eq_true rfl), (Nat.le_of_ble_eq_true rfl)⟩) (fw_preV hN.1 hK hPm (mm_0 (by decide)) (mk_0 0) rfl) rfl rfl hl.1 rfl (lv_room (Nat.le_of_ble_eq_true rfl)) d_law_223 ⟨(Nat.le_of_ble_eq_true rfl), (Nat.le_of_ble_eq_true rfl)⟩) hS hAm hPx hdis2 (fun r12 w13 H locs er12 ew13 hIm hPm hPx hS => ?_)
      refine lv_pop hx hb d_law_226 rfl ?_
      refine lv_goto (tgt := 844) hx hb d_law_227 (by decide) ?_
      refine lv_iinc (v := nI (5 * (n + 1))) (lv' := [(3, .int (nI (5 * (n + 1)))), (0, .ref b), (1, .ref (ad 0 0)), (2, .ref (am 0 0))]) hx hb d_law_844 hl (k := 3) rfl (lw_five n) (by decide) rfl (fun ls hl => ?_)
      refine lv_goto (tgt := 18) hx hb d_law_847 (by decide) ?_
      exact ih (n + 1) v11 w13 _ _ _ (by omega) (by omega) (xI_mono hIx (by omega)) hIm (by rw [ev11, ew13]; exact (ls_name (n := n) hn hIx0 hIm0 hR (xs ((nI (5 * n)) + (1 : Int32)).toNatClampNeg) (xs ((nI (5 * n)) + (2 : Int32)).toNatClampNeg)).1) hPx hPm hS (lv_sub hl [1, 2, 3, 0] rfl)
    by_cases y2 : y = (2 : Int32)
    · refine lv_tableIn (off := 198) (tgt := 230) hx hb d_law_32 (by rw [y2]; decide) (by rw [y2]; decide) (by rw [y2]; rfl) (by decide) ?_
      refine lv_aload_n hx hb d_law_230 rfl (lv_at hl 1 rfl) ?_
      refine lv_aload_n hx hb d_law_231 rfl (lv_at hl 0 rfl) ?_
      refine lv_iload_n hx hb d_law_232 rfl (lv_at hl 3 rfl) ?_
      refine lv_iconst (v := (1 : Int32)) hx hb d_law_233 (by decide) ?_
      refine lv_iadd hx hb d_law_234 ?_
      refine va_sld hx hb hX hbl hbA hS hi1 d_law_235 ?_
      refine lv_aload_n hx hb d_law_236 rfl (lv_at hl 0 rfl) ?_
      refine lv_iload_n hx hb d_law_237 rfl (lv_at hl 3 rfl) ?_
      refine lv_iconst (v := (2 : Int32)) hx hb d_law_238 (by decide) ?_
      refine lv_iadd hx hb d_law_239 ?_
      refine va_sld hx hb hX hbl hbA hS hi2 d_law_240 ?_
      refine lv_aload_n hx hb d_law_241 rfl (lv_at hl 0 rfl) ?_
      refine lv_iload_n hx hb d_law_242 rfl (lv_at hl 3 rfl) ?_
      refine lv_iconst (v := (3 : Int32)) hx hb d_law_243 (by decide) ?_
      refine lv_iadd hx hb d_law_244 ?_
      refine va_sld hx hb hX hbl hbA hS hi3 d_law_245 ?_
      refine fw_lcz (va_runV (As := [.int (xs ((nI (5 * n)) + (1 : Int32)).toNatClampNeg), .int (xs ((nI (5 * n)) + (2 : Int32)).toNatClampNeg), .int (xs ((nI (5 * n)) + (3 : Int32)).toNatClampNeg)]) (rest := []) ⟨hx, hb, hml, hown, hts⟩ (xc_FR_plug l hDx v hIx (xs ((nI (5 * n)) + (1 : Int32)).toNatClampNeg) (xs ((nI (5 * n)) + (2 : Int32)).toNatClampNeg) (xs ((nI (5 * n)) + (3 : Int32)).toNatClampNeg) ) (xw_FR_plug hts LL_23 ⟨(Nat.le_of_ble_eq_true rfl), (Nat.le_of_ble_eq_true rfl)⟩) (fw_preV hN.1 hK hPx (xm_0 (by decide)) (xk_0 0) rfl) rfl rfl hl.1 rfl (lv_room (Nat.le_of_ble_eq_true rfl)) d_law_246 ⟨(Nat.le_of_ble_eq_true rfl), (Nat.le_of_ble_eq_true rfl)⟩) hS hAx hPm hdis (fun r14 v15 H locs er14 ev15 hIx hPx hPm hS => ?_)
      refine lv_pop hx hb d_law_249 rfl ?_
      refine lv_aload_n hx hb d_law_250 rfl (lv_at hl 2 rfl) ?_
      refine lv_aload_n hx hb d_law_251 rfl (lv_at hl 0 rfl) ?_
      refine lv_iload_n hx hb d_law_252 rfl (lv_at hl 3 rfl) ?_
      refine lv_iconst (v := (1 : Int32)) hx hb d_law_253 (by decide) ?_
      refine lv_iadd hx hb d_law_254 ?_
      refine va_sld hx hb hX hbl hbA hS hi1 d_law_255 ?_
      refine lv_aload_n hx hb d_law_256 rfl (lv_at hl 0 rfl) ?_
      refine lv_iload_n hx hb d_law_257 rfl (lv_at hl 3 rfl) ?_
      refine lv_iconst (v := (2 : Int32)) hx hb d_law_258 (by decide) ?_
      refine lv_iadd hx hb d_law_259 ?_
      refine va_sld hx hb hX hbl hbA hS hi2 d_law_260 ?_
      refine lv_aload_n hx hb d_law_261 rfl (lv_at hl 0 rfl) ?_
      refine lv_iload_n hx hb d_law_262 rfl (lv_at hl 3 rfl) ?_
      refine lv_iconst (v := (3 : Int32)) hx hb d_law_263 (by decide) ?_
      refine lv_iadd hx hb d_law_264 ?_
      refine va_sld hx hb hX hbl hbA hS hi3 d_law_265 ?_
      refine fw_lcz (va_runV (As := [.int (xs ((nI (5 * n)) + (1 : Int32)).toNatClampNeg), .int (xs ((nI (5 * n)) + (2 : Int32)).toNatClampNeg), .int (xs ((nI (5 * n)) + (3 : Int32)).toNatClampNeg)]) (rest := []) ⟨hx, hb, hml, hown, hts⟩ (mc_Mo_plug l hDm w hIm (xs ((nI (5 * n)) + (1 : Int32)).toNatClampNeg) (xs ((nI (5 * n)) + (2 : Int32)).toNatClampNeg) (xs ((nI (5 * n)) + (3 : Int32)).toNatClampNeg) ) (mw_Mo_plug hts LL_27 ⟨(Nat.le_of_ble_eq_true rfl), (Nat.le_of_ble_eq_true rfl)⟩) (fw_preV hN.1 hK hPm (mm_0 (by decide)) (mk_0 0) rfl) rfl rfl hl.1 rfl (lv_room (Nat.le_of_ble_eq_true rfl)) d_law_266 ⟨(Nat.le_of_ble_eq_true rfl), (Nat.le_of_ble_eq_true rfl)⟩) hS hAm hPx hdis2 (fun r16 w17 H locs er16 ew17 hIm hPm hPx hS => ?_)
      refine lv_pop hx hb d_law_269 rfl ?_
      refine lv_goto (tgt := 844) hx hb d_law_270 (by decide) ?_
      refine lv_iinc (v := nI (5 * (n + 1))) (lv' := [(3, .int (nI (5 * (n + 1)))), (0, .ref b), (1, .ref (ad 0 0)), (2, .ref (am 0 0))]) hx hb d_law_844 hl (k := 3) rfl (lw_five n) (by decide) rfl (fun ls hl => ?_)
      refine lv_goto (tgt := 18) hx hb d_law_847 (by decide) ?_
      exact ih (n + 1) v15 w17 _ _ _ (by omega) (by omega) (xI_mono hIx (by omega)) hIm (by rw [ev15, ew17]; exact (ls_plug (n := n) hn hIx0 hIm0 hR (xs ((nI (5 * n)) + (1 : Int32)).toNatClampNeg) (xs ((nI (5 * n)) + (2 : Int32)).toNatClampNeg) (xs ((nI (5 * n)) + (3 : Int32)).toNatClampNeg)).1) hPx hPm hS (lv_sub hl [1, 2, 3, 0] rfl)
    by_cases y3 : y = (3 : Int32)
    · refine lv_tableIn (off := 241) (tgt := 273) hx hb d_law_32 (by rw [y3]; decide) (by rw [y3]; decide) (by rw [y3]; rfl) (by decide) ?_
      refine lv_aload_n hx hb d_law_273 rfl (lv_at hl 1 rfl) ?_
      refine lv_aload_n hx hb d_law_274 rfl (lv_at hl 0 rfl) ?_
      refine lv_iload_n hx hb d_law_275 rfl (lv_at hl 3 rfl) ?_
      refine lv_iconst (v := (1 : Int32)) hx hb d_law_276 (by decide) ?_
      refine lv_iadd hx hb d_law_277 ?_
      refine va_sld hx hb hX hbl hbA hS hi1 d_law_278 ?_
      refine lv_aload_n hx hb d_law_279 rfl (lv_at hl 0 rfl) ?_
      refine lv_iload_n hx hb d_law_280 rfl (lv_at hl 3 rfl) ?_
      refine lv_iconst (v := (2 : Int32)) hx hb d_law_281 (by decide) ?_
      refine lv_iadd hx hb d_law_282 ?_
      refine va_sld hx hb hX hbl hbA hS hi2 d_law_283 ?_
      refine lv_aload_n hx hb d_law_284 rfl (lv_at hl 0 rfl) ?_
      refine lv_iload_n hx hb d_law_285 rfl (lv_at hl 3 rfl) ?_
      refine lv_iconst (v := (3 : Int32)) hx hb d_law_286 (by decide) ?_
      refine lv_iadd hx hb d_law_287 ?_
      refine va_sld hx hb hX hbl hbA hS hi3 d_law_288 ?_
      refine fw_lcz (va_runV (As := [.int (xs ((nI (5 * n)) + (1 : Int32)).toNatClampNeg), .int (xs ((nI (5 * n)) + (2 : Int32)).toNatClampNeg), .int (xs ((nI (5 * n)) + (3 : Int32)).toNatClampNeg)]) (rest := []) ⟨hx, hb, hml, hown, hts⟩ (xc_FR_substitute l hDx v hIx (xs ((nI (5 * n)) + (1 : Int32)).toNatClampNeg) (xs ((nI (5 * n)) + (2 : Int32)).toNatClampNeg) (xs ((nI (5 * n)) + (3 : Int32)).toNatClampNeg) ) (xw_FR_substitute hts LL_28 ⟨(Nat.le_of_ble_eq_true rfl), (Nat.le_of_ble_eq_true rfl)⟩) (fw_preV hN.1 hK hPx (xm_0 (by decide)) (xk_0 0) rfl) rfl rfl hl.1 rfl (lv_room (Nat.le_of_ble_eq_true rfl)) d_law_289 ⟨(Nat.le_of_ble_eq_true rfl), (Nat.le_of_ble_eq_true rfl)⟩) hS hAx hPm hdis (fun r18 v19 H locs er18 ev19 hIx hPx hPm hS => ?_)
      refine lv_pop hx hb d_law_292 rfl ?_
      refine lv_aload_n hx hb d_law_293 rfl (lv_at hl 2 rfl) ?_
      refine lv_aload_n hx hb d_law_294 rfl (lv_at hl 0 rfl) ?_
      refine lv_iload_n hx hb d_law_295 rfl (lv_at hl 3 rfl) ?_
      refine lv_iconst (v := (1 : Int32)) hx hb d_law_296 (by decide) ?_
      refine lv_iadd hx hb d_law_297 ?_
      refine va_sld hx hb hX hbl hbA hS hi1 d_law_298 ?_
      refine lv_aload_n hx hb d_law_299 rfl (lv_at hl 0 rfl) ?_
      refine lv_iload_n hx hb d_law_300 rfl (lv_at hl 3 rfl) ?_
      refine lv_iconst (v := (2 : Int32)) hx hb d_law_301 (by decide) ?_
      refine lv_iadd hx hb d_law_302 ?_
      refine va_sld hx hb hX hbl hbA hS hi2 d_law_303 ?_
      refine lv_aload_n hx hb d_law_304 rfl (lv_at hl 0 rfl) ?_
      refine lv_iload_n hx hb d_law_305 rfl (lv_at hl 3 rfl) ?_
      refine lv_iconst (v := (3 : Int32)) hx hb d_law_306 (by decide) ?_
      refine lv_iadd hx hb d_law_307 ?_
      refine va_sld hx hb hX hbl hbA hS hi3 d_law_308 ?_
      refine fw_lcz (va_runV (As := [.int (xs ((nI (5 * n)) + (1 : Int32)).toNatClampNeg), .int (xs ((nI (5 * n)) + (2 : Int32)).toNatClampNeg), .int (xs ((nI (5 * n)) + (3 : Int32)).toNatClampNeg)]) (rest := []) ⟨hx, hb, hml, hown, hts⟩ (mc_Mo_substitute l hDm w hIm (xs ((nI (5 * n)) + (1 : Int32)).toNatClampNeg) (xs ((nI (5 * n)) + (2 : Int32)).toNatClampNeg) (xs ((nI (5 * n)) + (3 : Int32)).toNatClampNeg) ) (mw_Mo_substitute hts LL_31 ⟨(Nat.le_of_ble_eq_true rfl), (Nat.le_of_ble_eq_true rfl)⟩) (fw_preV hN.1 hK hPm (mm_0 (by decide)) (mk_0 0) rfl) rfl rfl hl.1 rfl (lv_room (Nat.le_of_ble_eq_true rfl)) d_law_309 ⟨(Nat.le_of_ble_eq_true rfl), (Nat.le_of_ble_eq_true rfl)⟩) hS hAm hPx hdis2 (fun r20 w21 H locs er20 ew21 hIm hPm hPx hS => ?_)
      refine lv_pop hx hb d_law_312 rfl ?_
      refine lv_goto (tgt := 844) hx hb d_law_313 (by decide) ?_
      refine lv_iinc (v := nI (5 * (n + 1))) (lv' := [(3, .int (nI (5 * (n + 1)))), (0, .ref b), (1, .ref (ad 0 0)), (2, .ref (am 0 0))]) hx hb d_law_844 hl (k := 3) rfl (lw_five n) (by decide) rfl (fun ls hl => ?_)
      refine lv_goto (tgt := 18) hx hb d_law_847 (by decide) ?_
      exact ih (n + 1) v19 w21 _ _ _ (by omega) (by omega) (xI_mono hIx (by omega)) hIm (by rw [ev19, ew21]; exact (ls_substitute (n := n) hn hIx0 hIm0 hR (xs ((nI (5 * n)) + (1 : Int32)).toNatClampNeg) (xs ((nI (5 * n)) + (2 : Int32)).toNatClampNeg) (xs ((nI (5 * n)) + (3 : Int32)).toNatClampNeg)).1) hPx hPm hS (lv_sub hl [1, 2, 3, 0] rfl)
    by_cases y4 : y = (4 : Int32)
    · refine lv_tableIn (off := 284) (tgt := 316) hx hb d_law_32 (by rw [y4]; decide) (by rw [y4]; decide) (by rw [y4]; rfl) (by decide) ?_
      refine lv_aload_n hx hb d_law_316 rfl (lv_at hl 1 rfl) ?_
      refine lv_aload_n hx hb d_law_317 rfl (lv_at hl 0 rfl) ?_
      refine lv_iload_n hx hb d_law_318 rfl (lv_at hl 3 rfl) ?_
      refine lv_iconst (v := (1 : Int32)) hx hb d_law_319 (by decide) ?_
      refine lv_iadd hx hb d_law_320 ?_
      refine va_sld hx hb hX hbl hbA hS hi1 d_law_321 ?_
      refine lv_aload_n hx hb d_law_322 rfl (lv_at hl 0 rfl) ?_
      refine lv_iload_n hx hb d_law_323 rfl (lv_at hl 3 rfl) ?_
      refine lv_iconst (v := (2 : Int32)) hx hb d_law_324 (by decide) ?_
      refine lv_iadd hx hb d_law_325 ?_
      refine va_sld hx hb hX hbl hbA hS hi2 d_law_326 ?_
      refine lv_aload_n hx hb d_law_327 rfl (lv_at hl 0 rfl) ?_
      refine lv_iload_n hx hb d_law_328 rfl (lv_at hl 3 rfl) ?_
      refine lv_iconst (v := (3 : Int32)) hx hb d_law_329 (by decide) ?_
      refine lv_iadd hx hb d_law_330 ?_
      refine va_sld hx hb hX hbl hbA hS hi3 d_law_331 ?_
      refine lv_aload_n hx hb d_law_332 rfl (lv_at hl 0 rfl) ?_
      refine lv_iload_n hx hb d_law_333 rfl (lv_at hl 3 rfl) ?_
      refine lv_iconst (v := (4 : Int32)) hx hb d_law_334 (by decide) ?_
      refine lv_iadd hx hb d_law_335 ?_
      refine va_sld hx hb hX hbl hbA hS hi4 d_law_336 ?_
      refine fw_lcz (va_runV (As := [.int (xs ((nI (5 * n)) + (1 : Int32)).toNatClampNeg), .int (xs ((nI (5 * n)) + (2 : Int32)).toNatClampNeg), .int (xs ((nI (5 * n)) + (3 : Int32)).toNatClampNeg), .int (xs ((nI (5 * n)) + (4 : Int32)).toNatClampNeg)]) (rest := []) ⟨hx, hb, hml, hown, hts⟩ (xc_FR_sense l hDx v hIx (xs ((nI (5 * n)) + (1 : Int32)).toNatClampNeg) (xs ((nI (5 * n)) + (2 : Int32)).toNatClampNeg) (xs ((nI (5 * n)) + (3 : Int32)).toNatClampNeg) (xs ((nI (5 * n)) + (4 : Int32)).toNatClampNeg) ) (xw_FR_sense hts LL_32 ⟨(Nat.le_of_ble_eq_true rfl), (Nat.le_of_ble_eq_true rfl)⟩) (fw_preV hN.1 hK hPx (xm_0 (by decide)) (xk_0 0) rfl) rfl rfl hl.1 rfl (lv_room (Nat.le_of_ble_eq_true rfl)) d_law_337 ⟨(Nat.le_of_ble_eq_true rfl), (Nat.le_of_ble_eq_true rfl)⟩) hS hAx hPm hdis (fun r22 v23 H locs er22 ev23 hIx hPx hPm hS => ?_)
      refine lv_pop hx hb d_law_340 rfl ?_
      refine lv_aload_n hx hb d_law_341 rfl (lv_at hl 2 rfl) ?_
      refine lv_aload_n hx hb d_law_342 rfl (lv_at hl 0 rfl) ?_
      refine lv_iload_n hx hb d_law_343 rfl (lv_at hl 3 rfl) ?_
      refine lv_iconst (v := (1 : Int32)) hx hb d_law_344 (by decide) ?_
      refine lv_iadd hx hb d_law_345 ?_
      refine va_sld hx hb hX hbl hbA hS hi1 d_law_346 ?_
      refine lv_aload_n hx hb d_law_347 rfl (lv_at hl 0 rfl) ?_
      refine lv_iload_n hx hb d_law_348 rfl (lv_at hl 3 rfl) ?_
      refine lv_iconst (v := (2 : Int32)) hx hb d_law_349 (by decide) ?_
      refine lv_iadd hx hb d_law_350 ?_
      refine va_sld hx hb hX hbl hbA hS hi2 d_law_351 ?_
      refine lv_aload_n hx hb d_law_352 rfl (lv_at hl 0 rfl) ?_
      refine lv_iload_n hx hb d_law_353 rfl (lv_at hl 3 rfl) ?_
      refine lv_iconst (v := (3 : Int32)) hx hb d_law_354 (by decide) ?_
      refine lv_iadd hx hb d_law_355 ?_
      refine va_sld hx hb hX hbl hbA hS hi3 d_law_356 ?_
      refine lv_aload_n hx hb d_law_357 rfl (lv_at hl 0 rfl) ?_
      refine lv_iload_n hx hb d_law_358 rfl (lv_at hl 3 rfl) ?_
      refine lv_iconst (v := (4 : Int32)) hx hb d_law_359 (by decide) ?_
      refine lv_iadd hx hb d_law_360 ?_
      refine va_sld hx hb hX hbl hbA hS hi4 d_law_361 ?_
      refine fw_lcz (va_runV (As := [.int (xs ((nI (5 * n)) + (1 : Int32)).toNatClampNeg), .int (xs ((nI (5 * n)) + (2 : Int32)).toNatClampNeg), .int (xs ((nI (5 * n)) + (3 : Int32)).toNatClampNeg), .int (xs ((nI (5 * n)) + (4 : Int32)).toNatClampNeg)]) (rest := []) ⟨hx, hb, hml, hown, hts⟩ (mc_Mo_sense l hDm w hIm (xs ((nI (5 * n)) + (1 : Int32)).toNatClampNeg) (xs ((nI (5 * n)) + (2 : Int32)).toNatClampNeg) (xs ((nI (5 * n)) + (3 : Int32)).toNatClampNeg) (xs ((nI (5 * n)) + (4 : Int32)).toNatClampNeg) ) (mw_Mo_sense hts LL_36 ⟨(Nat.le_of_ble_eq_true rfl), (Nat.le_of_ble_eq_true rfl)⟩) (fw_preV hN.1 hK hPm (mm_0 (by decide)) (mk_0 0) rfl) rfl rfl hl.1 rfl (lv_room (Nat.le_of_ble_eq_true rfl)) d_law_362 ⟨(Nat.le_of_ble_eq_true rfl), (Nat.le_of_ble_eq_true rfl)⟩) hS hAm hPx hdis2 (fun r24 w25 H locs er24 ew25 hIm hPm hPx hS => ?_)
      refine lv_pop hx hb d_law_365 rfl ?_
      refine lv_goto (tgt := 844) hx hb d_law_366 (by decide) ?_
      refine lv_iinc (v := nI (5 * (n + 1))) (lv' := [(3, .int (nI (5 * (n + 1)))), (0, .ref b), (1, .ref (ad 0 0)), (2, .ref (am 0 0))]) hx hb d_law_844 hl (k := 3) rfl (lw_five n) (by decide) rfl (fun ls hl => ?_)
      refine lv_goto (tgt := 18) hx hb d_law_847 (by decide) ?_
      exact ih (n + 1) v23 w25 _ _ _ (by omega) (by omega) (xI_mono hIx (by omega)) hIm (by rw [ev23, ew25]; exact (ls_sense (n := n) hn hIx0 hIm0 hR (xs ((nI (5 * n)) + (1 : Int32)).toNatClampNeg) (xs ((nI (5 * n)) + (2 : Int32)).toNatClampNeg) (xs ((nI (5 * n)) + (3 : Int32)).toNatClampNeg) (xs ((nI (5 * n)) + (4 : Int32)).toNatClampNeg)).1) hPx hPm hS (lv_sub hl [1, 2, 3, 0] rfl)
    by_cases y5 : y = (5 : Int32)
    · refine lv_tableIn (off := 337) (tgt := 369) hx hb d_law_32 (by rw [y5]; decide) (by rw [y5]; decide) (by rw [y5]; rfl) (by decide) ?_
      refine lv_aload_n hx hb d_law_369 rfl (lv_at hl 1 rfl) ?_
      refine lv_aload_n hx hb d_law_370 rfl (lv_at hl 0 rfl) ?_
      refine lv_iload_n hx hb d_law_371 rfl (lv_at hl 3 rfl) ?_
      refine lv_iconst (v := (1 : Int32)) hx hb d_law_372 (by decide) ?_
      refine lv_iadd hx hb d_law_373 ?_
      refine va_sld hx hb hX hbl hbA hS hi1 d_law_374 ?_
      refine lv_aload_n hx hb d_law_375 rfl (lv_at hl 0 rfl) ?_
      refine lv_iload_n hx hb d_law_376 rfl (lv_at hl 3 rfl) ?_
      refine lv_iconst (v := (2 : Int32)) hx hb d_law_377 (by decide) ?_
      refine lv_iadd hx hb d_law_378 ?_
      refine va_sld hx hb hX hbl hbA hS hi2 d_law_379 ?_
      refine fw_lcz (va_runV (As := [.int (xs ((nI (5 * n)) + (1 : Int32)).toNatClampNeg), .int (xs ((nI (5 * n)) + (2 : Int32)).toNatClampNeg)]) (rest := []) ⟨hx, hb, hml, hown, hts⟩ (xc_FR_target l hDx v hIx (xs ((nI (5 * n)) + (1 : Int32)).toNatClampNeg) (xs ((nI (5 * n)) + (2 : Int32)).toNatClampNeg) ) (xw_FR_target hts LL_37 ⟨(Nat.le_of_ble_eq_true rfl), (Nat.le_of_ble_eq_true rfl)⟩) (fw_preV hN.1 hK hPx (xm_0 (by decide)) (xk_0 0) rfl) rfl rfl hl.1 rfl (lv_room (Nat.le_of_ble_eq_true rfl)) d_law_380 ⟨(Nat.le_of_ble_eq_true rfl), (Nat.le_of_ble_eq_true rfl)⟩) hS hAx hPm hdis (fun r26 v27 H locs er26 ev27 hIx hPx hPm hS => ?_)
      refine lv_pop hx hb d_law_383 rfl ?_
      refine lv_aload_n hx hb d_law_384 rfl (lv_at hl 2 rfl) ?_
      refine lv_aload_n hx hb d_law_385 rfl (lv_at hl 0 rfl) ?_
      refine lv_iload_n hx hb d_law_386 rfl (lv_at hl 3 rfl) ?_
      refine lv_iconst (v := (1 : Int32)) hx hb d_law_387 (by decide) ?_
      refine lv_iadd hx hb d_law_388 ?_
      refine va_sld hx hb hX hbl hbA hS hi1 d_law_389 ?_
      refine lv_aload_n hx hb d_law_390 rfl (lv_at hl 0 rfl) ?_
      refine lv_iload_n hx hb d_law_391 rfl (lv_at hl 3 rfl) ?_
      refine lv_iconst (v := (2 : Int32)) hx hb d_law_392 (by decide) ?_
      refine lv_iadd hx hb d_law_393 ?_
      refine va_sld hx hb hX hbl hbA hS hi2 d_law_394 ?_
      refine fw_lcz (va_runV (As := [.int (xs ((nI (5 * n)) + (1 : Int32)).toNatClampNeg), .int (xs ((nI (5 * n)) + (2 : Int32)).toNatClampNeg)]) (rest := []) ⟨hx, hb, hml, hown, hts⟩ (mc_Mo_target l hDm w hIm (xs ((nI (5 * n)) + (1 : Int32)).toNatClampNeg) (xs ((nI (5 * n)) + (2 : Int32)).toNatClampNeg) ) (mw_Mo_target hts LL_40 ⟨(Nat.le_of_ble_eq_true rfl), (Nat.le_of_ble_eq_true rfl)⟩) (fw_preV hN.1 hK hPm (mm_0 (by decide)) (mk_0 0) rfl) rfl rfl hl.1 rfl (lv_room (Nat.le_of_ble_eq_true rfl)) d_law_395 ⟨(Nat.le_of_ble_eq_true rfl), (Nat.le_of_ble_eq_true rfl)⟩) hS hAm hPx hdis2 (fun r28 w29 H locs er28 ew29 hIm hPm hPx hS => ?_)
      refine lv_pop hx hb d_law_398 rfl ?_
      refine lv_goto (tgt := 844) hx hb d_law_399 (by decide) ?_
      refine lv_iinc (v := nI (5 * (n + 1))) (lv' := [(3, .int (nI (5 * (n + 1)))), (0, .ref b), (1, .ref (ad 0 0)), (2, .ref (am 0 0))]) hx hb d_law_844 hl (k := 3) rfl (lw_five n) (by decide) rfl (fun ls hl => ?_)
      refine lv_goto (tgt := 18) hx hb d_law_847 (by decide) ?_
      exact ih (n + 1) v27 w29 _ _ _ (by omega) (by omega) (xI_mono hIx (by omega)) hIm (by rw [ev27, ew29]; exact (ls_target (n := n) hn hIx0 hIm0 hR (xs ((nI (5 * n)) + (1 : Int32)).toNatClampNeg) (xs ((nI (5 * n)) + (2 : Int32)).toNatClampNeg)).1) hPx hPm hS (lv_sub hl [1, 2, 3, 0] rfl)
    by_cases y6 : y = (6 : Int32)
    · refine lv_tableIn (off := 370) (tgt := 402) hx hb d_law_32 (by rw [y6]; decide) (by rw [y6]; decide) (by rw [y6]; rfl) (by decide) ?_
      refine lv_aload_n hx hb d_law_402 rfl (lv_at hl 1 rfl) ?_
      refine lv_aload_n hx hb d_law_403 rfl (lv_at hl 0 rfl) ?_
      refine lv_iload_n hx hb d_law_404 rfl (lv_at hl 3 rfl) ?_
      refine lv_iconst (v := (1 : Int32)) hx hb d_law_405 (by decide) ?_
      refine lv_iadd hx hb d_law_406 ?_
      refine va_sld hx hb hX hbl hbA hS hi1 d_law_407 ?_
      refine lv_aload_n hx hb d_law_408 rfl (lv_at hl 0 rfl) ?_
      refine lv_iload_n hx hb d_law_409 rfl (lv_at hl 3 rfl) ?_
      refine lv_iconst (v := (2 : Int32)) hx hb d_law_410 (by decide) ?_
      refine lv_iadd hx hb d_law_411 ?_
      refine va_sld hx hb hX hbl hbA hS hi2 d_law_412 ?_
      refine lv_aload_n hx hb d_law_413 rfl (lv_at hl 0 rfl) ?_
      refine lv_iload_n hx hb d_law_414 rfl (lv_at hl 3 rfl) ?_
      refine lv_iconst (v := (3 : Int32)) hx hb d_law_415 (by decide) ?_
      refine lv_iadd hx hb d_law_416 ?_
      refine va_sld hx hb hX hbl hbA hS hi3 d_law_417 ?_
      refine lv_aload_n hx hb d_law_418 rfl (lv_at hl 0 rfl) ?_
      refine lv_iload_n hx hb d_law_419 rfl (lv_at hl 3 rfl) ?_
      refine lv_iconst (v := (4 : Int32)) hx hb d_law_420 (by decide) ?_
      refine lv_iadd hx hb d_law_421 ?_
      refine va_sld hx hb hX hbl hbA hS hi4 d_law_422 ?_
      refine fw_lcz (va_runV (As := [.int (xs ((nI (5 * n)) + (1 : Int32)).toNatClampNeg), .int (xs ((nI (5 * n)) + (2 : Int32)).toNatClampNeg), .int (xs ((nI (5 * n)) + (3 : Int32)).toNatClampNeg), .int (xs ((nI (5 * n)) + (4 : Int32)).toNatClampNeg)]) (rest := []) ⟨hx, hb, hml, hown, hts⟩ (xc_FR_expect l hDx v hIx (xs ((nI (5 * n)) + (1 : Int32)).toNatClampNeg) (xs ((nI (5 * n)) + (2 : Int32)).toNatClampNeg) (xs ((nI (5 * n)) + (3 : Int32)).toNatClampNeg) (xs ((nI (5 * n)) + (4 : Int32)).toNatClampNeg) ) (xw_FR_expect hts LL_41 ⟨(Nat.le_of_ble_eq_true rfl), (Nat.le_of_ble_eq_true rfl)⟩) (fw_preV hN.1 hK hPx (xm_0 (by decide)) (xk_0 0) rfl) rfl rfl hl.1 rfl (lv_room (Nat.le_of_ble_eq_true rfl)) d_law_423 ⟨(Nat.le_of_ble_eq_true rfl), (Nat.le_of_ble_eq_true rfl)⟩) hS hAx hPm hdis (fun r30 v31 H locs er30 ev31 hIx hPx hPm hS => ?_)
      refine lv_pop hx hb d_law_426 rfl ?_
      refine lv_aload_n hx hb d_law_427 rfl (lv_at hl 2 rfl) ?_
      refine lv_aload_n hx hb d_law_428 rfl (lv_at hl 0 rfl) ?_
      refine lv_iload_n hx hb d_law_429 rfl (lv_at hl 3 rfl) ?_
      refine lv_iconst (v := (1 : Int32)) hx hb d_law_430 (by decide) ?_
      refine lv_iadd hx hb d_law_431 ?_
      refine va_sld hx hb hX hbl hbA hS hi1 d_law_432 ?_
      refine lv_aload_n hx hb d_law_433 rfl (lv_at hl 0 rfl) ?_
      refine lv_iload_n hx hb d_law_434 rfl (lv_at hl 3 rfl) ?_
      refine lv_iconst (v := (2 : Int32)) hx hb d_law_435 (by decide) ?_
      refine lv_iadd hx hb d_law_436 ?_
      refine va_sld hx hb hX hbl hbA hS hi2 d_law_437 ?_
      refine lv_aload_n hx hb d_law_438 rfl (lv_at hl 0 rfl) ?_
      refine lv_iload_n hx hb d_law_439 rfl (lv_at hl 3 rfl) ?_
      refine lv_iconst (v := (3 : Int32)) hx hb d_law_440 (by decide) ?_
      refine lv_iadd hx hb d_law_441 ?_
      refine va_sld hx hb hX hbl hbA hS hi3 d_law_442 ?_
      refine lv_aload_n hx hb d_law_443 rfl (lv_at hl 0 rfl) ?_
      refine lv_iload_n hx hb d_law_444 rfl (lv_at hl 3 rfl) ?_
      refine lv_iconst (v := (4 : Int32)) hx hb d_law_445 (by decide) ?_
      refine lv_iadd hx hb d_law_446 ?_
      refine va_sld hx hb hX hbl hbA hS hi4 d_law_447 ?_
      refine fw_lcz (va_runV (As := [.int (xs ((nI (5 * n)) + (1 : Int32)).toNatClampNeg), .int (xs ((nI (5 * n)) + (2 : Int32)).toNatClampNeg), .int (xs ((nI (5 * n)) + (3 : Int32)).toNatClampNeg), .int (xs ((nI (5 * n)) + (4 : Int32)).toNatClampNeg)]) (rest := []) ⟨hx, hb, hml, hown, hts⟩ (mc_Mo_expect l hDm w hIm (xs ((nI (5 * n)) + (1 : Int32)).toNatClampNeg) (xs ((nI (5 * n)) + (2 : Int32)).toNatClampNeg) (xs ((nI (5 * n)) + (3 : Int32)).toNatClampNeg) (xs ((nI (5 * n)) + (4 : Int32)).toNatClampNeg) ) (mw_Mo_expect hts LL_44 ⟨(Nat.le_of_ble_eq_true rfl), (Nat.le_of_ble_eq_true rfl)⟩) (fw_preV hN.1 hK hPm (mm_0 (by decide)) (mk_0 0) rfl) rfl rfl hl.1 rfl (lv_room (Nat.le_of_ble_eq_true rfl)) d_law_448 ⟨(Nat.le_of_ble_eq_true rfl), (Nat.le_of_ble_eq_true rfl)⟩) hS hAm hPx hdis2 (fun r32 w33 H locs er32 ew33 hIm hPm hPx hS => ?_)
      refine lv_pop hx hb d_law_451 rfl ?_
      refine lv_goto (tgt := 844) hx hb d_law_452 (by decide) ?_
      refine lv_iinc (v := nI (5 * (n + 1))) (lv' := [(3, .int (nI (5 * (n + 1)))), (0, .ref b), (1, .ref (ad 0 0)), (2, .ref (am 0 0))]) hx hb d_law_844 hl (k := 3) rfl (lw_five n) (by decide) rfl (fun ls hl => ?_)
      refine lv_goto (tgt := 18) hx hb d_law_847 (by decide) ?_
      exact ih (n + 1) v31 w33 _ _ _ (by omega) (by omega) (xI_mono hIx (by omega)) hIm (by rw [ev31, ew33]; exact (ls_expect (n := n) hn hIx0 hIm0 hR (xs ((nI (5 * n)) + (1 : Int32)).toNatClampNeg) (xs ((nI (5 * n)) + (2 : Int32)).toNatClampNeg) (xs ((nI (5 * n)) + (3 : Int32)).toNatClampNeg) (xs ((nI (5 * n)) + (4 : Int32)).toNatClampNeg)).1) hPx hPm hS (lv_sub hl [1, 2, 3, 0] rfl)
    by_cases y7 : y = (7 : Int32)
    · refine lv_tableIn (off := 423) (tgt := 455) hx hb d_law_32 (by rw [y7]; decide) (by rw [y7]; decide) (by rw [y7]; rfl) (by decide) ?_
      refine lv_aload_n hx hb d_law_455 rfl (lv_at hl 1 rfl) ?_
      refine lv_aload_n hx hb d_law_456 rfl (lv_at hl 0 rfl) ?_
      refine lv_iload_n hx hb d_law_457 rfl (lv_at hl 3 rfl) ?_
      refine lv_iconst (v := (1 : Int32)) hx hb d_law_458 (by decide) ?_
      refine lv_iadd hx hb d_law_459 ?_
      refine va_sld hx hb hX hbl hbA hS hi1 d_law_460 ?_
      refine lv_aload_n hx hb d_law_461 rfl (lv_at hl 0 rfl) ?_
      refine lv_iload_n hx hb d_law_462 rfl (lv_at hl 3 rfl) ?_
      refine lv_iconst (v := (2 : Int32)) hx hb d_law_463 (by decide) ?_
      refine lv_iadd hx hb d_law_464 ?_
      refine va_sld hx hb hX hbl hbA hS hi2 d_law_465 ?_
      refine lv_aload_n hx hb d_law_466 rfl (lv_at hl 0 rfl) ?_
      refine lv_iload_n hx hb d_law_467 rfl (lv_at hl 3 rfl) ?_
      refine lv_iconst (v := (3 : Int32)) hx hb d_law_468 (by decide) ?_
      refine lv_iadd hx hb d_law_469 ?_
      refine va_sld hx hb hX hbl hbA hS hi3 d_law_470 ?_
      refine lv_aload_n hx hb d_law_471 rfl (lv_at hl 0 rfl) ?_
      refine lv_iload_n hx hb d_law_472 rfl (lv_at hl 3 rfl) ?_
      refine lv_iconst (v := (4 : Int32)) hx hb d_law_473 (by decide) ?_
      refine lv_iadd hx hb d_law_474 ?_
      refine va_sld hx hb hX hbl hbA hS hi4 d_law_475 ?_
      refine fw_lcz (va_runV (As := [.int (xs ((nI (5 * n)) + (1 : Int32)).toNatClampNeg), .int (xs ((nI (5 * n)) + (2 : Int32)).toNatClampNeg), .int (xs ((nI (5 * n)) + (3 : Int32)).toNatClampNeg), .int (xs ((nI (5 * n)) + (4 : Int32)).toNatClampNeg)]) (rest := []) ⟨hx, hb, hml, hown, hts⟩ (xc_FR_give l hDx v hIx (xs ((nI (5 * n)) + (1 : Int32)).toNatClampNeg) (xs ((nI (5 * n)) + (2 : Int32)).toNatClampNeg) (xs ((nI (5 * n)) + (3 : Int32)).toNatClampNeg) (xs ((nI (5 * n)) + (4 : Int32)).toNatClampNeg) ) (xw_FR_give hts LL_45 ⟨(Nat.le_of_ble_eq_true rfl), (Nat.le_of_ble_eq_true rfl)⟩) (fw_preV hN.1 hK hPx (xm_0 (by decide)) (xk_0 0) rfl) rfl rfl hl.1 rfl (lv_room (Nat.le_of_ble_eq_true rfl)) d_law_476 ⟨(Nat.le_of_ble_eq_true rfl), (Nat.le_of_ble_eq_true rfl)⟩) hS hAx hPm hdis (fun r34 v35 H locs er34 ev35 hIx hPx hPm hS => ?_)
      refine lv_pop hx hb d_law_479 rfl ?_
      refine lv_aload_n hx hb d_law_480 rfl (lv_at hl 2 rfl) ?_
      refine lv_aload_n hx hb d_law_481 rfl (lv_at hl 0 rfl) ?_
      refine lv_iload_n hx hb d_law_482 rfl (lv_at hl 3 rfl) ?_
      refine lv_iconst (v := (1 : Int32)) hx hb d_law_483 (by decide) ?_
      refine lv_iadd hx hb d_law_484 ?_
      refine va_sld hx hb hX hbl hbA hS hi1 d_law_485 ?_
      refine lv_aload_n hx hb d_law_486 rfl (lv_at hl 0 rfl) ?_
      refine lv_iload_n hx hb d_law_487 rfl (lv_at hl 3 rfl) ?_
      refine lv_iconst (v := (2 : Int32)) hx hb d_law_488 (by decide) ?_
      refine lv_iadd hx hb d_law_489 ?_
      refine va_sld hx hb hX hbl hbA hS hi2 d_law_490 ?_
      refine lv_aload_n hx hb d_law_491 rfl (lv_at hl 0 rfl) ?_
      refine lv_iload_n hx hb d_law_492 rfl (lv_at hl 3 rfl) ?_
      refine lv_iconst (v := (3 : Int32)) hx hb d_law_493 (by decide) ?_
      refine lv_iadd hx hb d_law_494 ?_
      refine va_sld hx hb hX hbl hbA hS hi3 d_law_495 ?_
      refine lv_aload_n hx hb d_law_496 rfl (lv_at hl 0 rfl) ?_
      refine lv_iload_n hx hb d_law_497 rfl (lv_at hl 3 rfl) ?_
      refine lv_iconst (v := (4 : Int32)) hx hb d_law_498 (by decide) ?_
      refine lv_iadd hx hb d_law_499 ?_
      refine va_sld hx hb hX hbl hbA hS hi4 d_law_500 ?_
      refine fw_lcz (va_runV (As := [.int (xs ((nI (5 * n)) + (1 : Int32)).toNatClampNeg), .int (xs ((nI (5 * n)) + (2 : Int32)).toNatClampNeg), .int (xs ((nI (5 * n)) + (3 : Int32)).toNatClampNeg), .int (xs ((nI (5 * n)) + (4 : Int32)).toNatClampNeg)]) (rest := []) ⟨hx, hb, hml, hown, hts⟩ (mc_Mo_give l hDm w hIm (xs ((nI (5 * n)) + (1 : Int32)).toNatClampNeg) (xs ((nI (5 * n)) + (2 : Int32)).toNatClampNeg) (xs ((nI (5 * n)) + (3 : Int32)).toNatClampNeg) (xs ((nI (5 * n)) + (4 : Int32)).toNatClampNeg) ) (mw_Mo_give hts LL_48 ⟨(Nat.le_of_ble_eq_true rfl), (Nat.le_of_ble_eq_true rfl)⟩) (fw_preV hN.1 hK hPm (mm_0 (by decide)) (mk_0 0) rfl) rfl rfl hl.1 rfl (lv_room (Nat.le_of_ble_eq_true rfl)) d_law_501 ⟨(Nat.le_of_ble_eq_true rfl), (Nat.le_of_ble_eq_true rfl)⟩) hS hAm hPx hdis2 (fun r36 w37 H locs er36 ew37 hIm hPm hPx hS => ?_)
      refine lv_pop hx hb d_law_504 rfl ?_
      refine lv_goto (tgt := 844) hx hb d_law_505 (by decide) ?_
      refine lv_iinc (v := nI (5 * (n + 1))) (lv' := [(3, .int (nI (5 * (n + 1)))), (0, .ref b), (1, .ref (ad 0 0)), (2, .ref (am 0 0))]) hx hb d_law_844 hl (k := 3) rfl (lw_five n) (by decide) rfl (fun ls hl => ?_)
      refine lv_goto (tgt := 18) hx hb d_law_847 (by decide) ?_
      exact ih (n + 1) v35 w37 _ _ _ (by omega) (by omega) (xI_mono hIx (by omega)) hIm (by rw [ev35, ew37]; exact (ls_give (n := n) hn hIx0 hIm0 hR (xs ((nI (5 * n)) + (1 : Int32)).toNatClampNeg) (xs ((nI (5 * n)) + (2 : Int32)).toNatClampNeg) (xs ((nI (5 * n)) + (3 : Int32)).toNatClampNeg) (xs ((nI (5 * n)) + (4 : Int32)).toNatClampNeg)).1) hPx hPm hS (lv_sub hl [1, 2, 3, 0] rfl)
    by_cases y8 : y = (8 : Int32)
    · refine lv_tableIn (off := 476) (tgt := 508) hx hb d_law_32 (by rw [y8]; decide) (by rw [y8]; decide) (by rw [y8]; rfl) (by decide) ?_
      refine lv_aload_n hx hb d_law_508 rfl (lv_at hl 1 rfl) ?_
      refine lv_aload_n hx hb d_law_509 rfl (lv_at hl 0 rfl) ?_
      refine lv_iload_n hx hb d_law_510 rfl (lv_at hl 3 rfl) ?_
      refine lv_iconst (v := (1 : Int32)) hx hb d_law_511 (by decide) ?_
      refine lv_iadd hx hb d_law_512 ?_
      refine va_sld hx hb hX hbl hbA hS hi1 d_law_513 ?_
      refine fw_lci (va_runV (As := [.int (xs ((nI (5 * n)) + (1 : Int32)).toNatClampNeg)]) (rest := []) ⟨hx, hb, hml, hown, hts⟩ (xc_FR_open l hDx v hIx (xs ((nI (5 * n)) + (1 : Int32)).toNatClampNeg) ) (xw_FR_open hts LL_49 ⟨(Nat.le_of_ble_eq_true rfl), (Nat.le_of_ble_eq_true rfl)⟩) (fw_preV hN.1 hK hPx (xm_0 (by decide)) (xk_0 0) rfl) rfl rfl hl.1 rfl (lv_room (Nat.le_of_ble_eq_true rfl)) d_law_514 ⟨(Nat.le_of_ble_eq_true rfl), (Nat.le_of_ble_eq_true rfl)⟩) hS hAx hPm hdis (fun r38 v39 H locs er38 ev39 hIx hPx hPm hS => ?_)
      refine lv_pop hx hb d_law_517 rfl ?_
      refine lv_aload_n hx hb d_law_518 rfl (lv_at hl 2 rfl) ?_
      refine lv_aload_n hx hb d_law_519 rfl (lv_at hl 0 rfl) ?_
      refine lv_iload_n hx hb d_law_520 rfl (lv_at hl 3 rfl) ?_
      refine lv_iconst (v := (1 : Int32)) hx hb d_law_521 (by decide) ?_
      refine lv_iadd hx hb d_law_522 ?_
      refine va_sld hx hb hX hbl hbA hS hi1 d_law_523 ?_
      refine fw_lci (va_runV (As := [.int (xs ((nI (5 * n)) + (1 : Int32)).toNatClampNeg)]) (rest := []) ⟨hx, hb, hml, hown, hts⟩ (mc_Mo_open l hDm w hIm (xs ((nI (5 * n)) + (1 : Int32)).toNatClampNeg) ) (mw_Mo_open hts LL_53 ⟨(Nat.le_of_ble_eq_true rfl), (Nat.le_of_ble_eq_true rfl)⟩) (fw_preV hN.1 hK hPm (mm_0 (by decide)) (mk_0 0) rfl) rfl rfl hl.1 rfl (lv_room (Nat.le_of_ble_eq_true rfl)) d_law_524 ⟨(Nat.le_of_ble_eq_true rfl), (Nat.le_of_ble_eq_true rfl)⟩) hS hAm hPx hdis2 (fun r40 w41 H locs er40 ew41 hIm hPm hPx hS => ?_)
      refine lv_pop hx hb d_law_527 rfl ?_
      refine lv_goto (tgt := 844) hx hb d_law_528 (by decide) ?_
      refine lv_iinc (v := nI (5 * (n + 1))) (lv' := [(3, .int (nI (5 * (n + 1)))), (0, .ref b), (1, .ref (ad 0 0)), (2, .ref (am 0 0))]) hx hb d_law_844 hl (k := 3) rfl (lw_five n) (by decide) rfl (fun ls hl => ?_)
      refine lv_goto (tgt := 18) hx hb d_law_847 (by decide) ?_
      exact ih (n + 1) v39 w41 _ _ _ (by omega) (by omega) (xI_mono hIx (by omega)) hIm (by rw [ev39, ew41]; exact (ls_open (n := n) hn hIx0 hIm0 hR (xs ((nI (5 * n)) + (1 : Int32)).toNatClampNeg)).1) hPx hPm hS (lv_sub hl [1, 2, 3, 0] rfl)
    by_cases y9 : y = (9 : Int32)
    · refine lv_tableIn (off := 499) (tgt := 531) hx hb d_law_32 (by rw [y9]; decide) (by rw [y9]; decide) (by rw [y9]; rfl) (by decide) ?_
      refine lv_aload_n hx hb d_law_531 rfl (lv_at hl 1 rfl) ?_
      refine lv_aload_n hx hb d_law_532 rfl (lv_at hl 0 rfl) ?_
      refine lv_iload_n hx hb d_law_533 rfl (lv_at hl 3 rfl) ?_
      refine lv_iconst (v := (1 : Int32)) hx hb d_law_534 (by decide) ?_
      refine lv_iadd hx hb d_law_535 ?_
      refine va_sld hx hb hX hbl hbA hS hi1 d_law_536 ?_
      refine fw_lci (va_runV (As := [.int (xs ((nI (5 * n)) + (1 : Int32)).toNatClampNeg)]) (rest := []) ⟨hx, hb, hml, hown, hts⟩ (xc_FR_close l hDx v hIx (xs ((nI (5 * n)) + (1 : Int32)).toNatClampNeg) ) (xw_FR_close hts LL_54 ⟨(Nat.le_of_ble_eq_true rfl), (Nat.le_of_ble_eq_true rfl)⟩) (fw_preV hN.1 hK hPx (xm_0 (by decide)) (xk_0 0) rfl) rfl rfl hl.1 rfl (lv_room (Nat.le_of_ble_eq_true rfl)) d_law_537 ⟨(Nat.le_of_ble_eq_true rfl), (Nat.le_of_ble_eq_true rfl)⟩) hS hAx hPm hdis (fun r42 v43 H locs er42 ev43 hIx hPx hPm hS => ?_)
      refine lv_pop hx hb d_law_540 rfl ?_
      refine lv_aload_n hx hb d_law_541 rfl (lv_at hl 2 rfl) ?_
      refine lv_aload_n hx hb d_law_542 rfl (lv_at hl 0 rfl) ?_
      refine lv_iload_n hx hb d_law_543 rfl (lv_at hl 3 rfl) ?_
      refine lv_iconst (v := (1 : Int32)) hx hb d_law_544 (by decide) ?_
      refine lv_iadd hx hb d_law_545 ?_
      refine va_sld hx hb hX hbl hbA hS hi1 d_law_546 ?_
      refine fw_lci (va_runV (As := [.int (xs ((nI (5 * n)) + (1 : Int32)).toNatClampNeg)]) (rest := []) ⟨hx, hb, hml, hown, hts⟩ (mc_Mo_close l hDm w hIm (xs ((nI (5 * n)) + (1 : Int32)).toNatClampNeg) ) (mw_Mo_close hts LL_57 ⟨(Nat.le_of_ble_eq_true rfl), (Nat.le_of_ble_eq_true rfl)⟩) (fw_preV hN.1 hK hPm (mm_0 (by decide)) (mk_0 0) rfl) rfl rfl hl.1 rfl (lv_room (Nat.le_of_ble_eq_true rfl)) d_law_547 ⟨(Nat.le_of_ble_eq_true rfl), (Nat.le_of_ble_eq_true rfl)⟩) hS hAm hPx hdis2 (fun r44 w45 H locs er44 ew45 hIm hPm hPx hS => ?_)
      refine lv_pop hx hb d_law_550 rfl ?_
      refine lv_goto (tgt := 844) hx hb d_law_551 (by decide) ?_
      refine lv_iinc (v := nI (5 * (n + 1))) (lv' := [(3, .int (nI (5 * (n + 1)))), (0, .ref b), (1, .ref (ad 0 0)), (2, .ref (am 0 0))]) hx hb d_law_844 hl (k := 3) rfl (lw_five n) (by decide) rfl (fun ls hl => ?_)
      refine lv_goto (tgt := 18) hx hb d_law_847 (by decide) ?_
      exact ih (n + 1) v43 w45 _ _ _ (by omega) (by omega) (xI_mono hIx (by omega)) hIm (by rw [ev43, ew45]; exact (ls_close (n := n) hn hIx0 hIm0 hR (xs ((nI (5 * n)) + (1 : Int32)).toNatClampNeg)).1) hPx hPm hS (lv_sub hl [1, 2, 3, 0] rfl)
    by_cases y10 : y = (10 : Int32)
    · refine lv_tableIn (off := 522) (tgt := 554) hx hb d_law_32 (by rw [y10]; decide) (by rw [y10]; decide) (by rw [y10]; rfl) (by decide) ?_
      refine lv_aload_n hx hb d_law_554 rfl (lv_at hl 1 rfl) ?_
      refine lv_aload_n hx hb d_law_555 rfl (lv_at hl 0 rfl) ?_
      refine lv_iload_n hx hb d_law_556 rfl (lv_at hl 3 rfl) ?_
      refine lv_iconst (v := (1 : Int32)) hx hb d_law_557 (by decide) ?_
      refine lv_iadd hx hb d_law_558 ?_
      refine va_sld hx hb hX hbl hbA hS hi1 d_law_559 ?_
      refine fw_lci (va_runV (As := [.int (xs ((nI (5 * n)) + (1 : Int32)).toNatClampNeg)]) (rest := []) ⟨hx, hb, hml, hown, hts⟩ (xc_FR_deliver l hDx v hIx (xs ((nI (5 * n)) + (1 : Int32)).toNatClampNeg) hbud) (xw_FR_deliver hts LL_58 ⟨(Nat.le_of_ble_eq_true rfl), (Nat.le_of_ble_eq_true rfl)⟩) (fw_preV hN.1 hK hPx (xm_0 (by decide)) (xk_0 0) rfl) rfl rfl hl.1 rfl (lv_room (Nat.le_of_ble_eq_true rfl)) d_law_560 ⟨(Nat.le_of_ble_eq_true rfl), (Nat.le_of_ble_eq_true rfl)⟩) hS hAx hPm hdis (fun r46 v47 H locs er46 ev47 hIx hPx hPm hS => ?_)
      refine lv_pop hx hb d_law_563 rfl ?_
      refine lv_aload_n hx hb d_law_564 rfl (lv_at hl 2 rfl) ?_
      refine lv_aload_n hx hb d_law_565 rfl (lv_at hl 0 rfl) ?_
      refine lv_iload_n hx hb d_law_566 rfl (lv_at hl 3 rfl) ?_
      refine lv_iconst (v := (1 : Int32)) hx hb d_law_567 (by decide) ?_
      refine lv_iadd hx hb d_law_568 ?_
      refine va_sld hx hb hX hbl hbA hS hi1 d_law_569 ?_
      refine fw_lci (va_runV (As := [.int (xs ((nI (5 * n)) + (1 : Int32)).toNatClampNeg)]) (rest := []) ⟨hx, hb, hml, hown, hts⟩ (mc_Mo_deliver l hDm w hIm (xs ((nI (5 * n)) + (1 : Int32)).toNatClampNeg) ) (mw_Mo_deliver hts LL_61 ⟨(Nat.le_of_ble_eq_true rfl), (Nat.le_of_ble_eq_true rfl)⟩) (fw_preV hN.1 hK hPm (mm_0 (by decide)) (mk_0 0) rfl) rfl rfl hl.1 rfl (lv_room (Nat.le_of_ble_eq_true rfl)) d_law_570 ⟨(Nat.le_of_ble_eq_true rfl), (Nat.le_of_ble_eq_true rfl)⟩) hS hAm hPx hdis2 (fun r48 w49 H locs er48 ew49 hIm hPm hPx hS => ?_)
      refine lv_pop hx hb d_law_573 rfl ?_
      refine lv_goto (tgt := 844) hx hb d_law_574 (by decide) ?_
      refine lv_iinc (v := nI (5 * (n + 1))) (lv' := [(3, .int (nI (5 * (n + 1)))), (0, .ref b), (1, .ref (ad 0 0)), (2, .ref (am 0 0))]) hx hb d_law_844 hl (k := 3) rfl (lw_five n) (by decide) rfl (fun ls hl => ?_)
      refine lv_goto (tgt := 18) hx hb d_law_847 (by decide) ?_
      exact ih (n + 1) v47 w49 _ _ _ (by omega) (by omega) (xI_mono hIx (by omega)) hIm (by rw [ev47, ew49]; exact (ls_deliver (n := n) hn hIx0 hIm0 hR (xs ((nI (5 * n)) + (1 : Int32)).toNatClampNeg)).1) hPx hPm hS (lv_sub hl [1, 2, 3, 0] rfl)
    by_cases y11 : y = (11 : Int32)
    · refine lv_tableIn (off := 545) (tgt := 577) hx hb d_law_32 (by rw [y11]; decide) (by rw [y11]; decide) (by rw [y11]; rfl) (by decide) ?_
      refine lv_aload_n hx hb d_law_577 rfl (lv_at hl 1 rfl) ?_
      refine lv_aload_n hx hb d_law_578 rfl (lv_at hl 0 rfl) ?_
      refine lv_iload_n hx hb d_law_579 rfl (lv_at hl 3 rfl) ?_
      refine lv_iconst (v := (1 : Int32)) hx hb d_law_580 (by decide) ?_
      refine lv_iadd hx hb d_law_581 ?_
      refine va_sld hx hb hX hbl hbA hS hi1 d_law_582 ?_
      refine fw_lci (va_runV (As := [.int (xs ((nI (5 * n)) + (1 : Int32)).toNatClampNeg)]) (rest := []) ⟨hx, hb, hml, hown, hts⟩ (xc_FR_lose l hDx v hIx (xs ((nI (5 * n)) + (1 : Int32)).toNatClampNeg) ) (xw_FR_lose hts LL_62 ⟨(Nat.le_of_ble_eq_true rfl), (Nat.le_of_ble_eq_true rfl)⟩) (fw_preV hN.1 hK hPx (xm_0 (by decide)) (xk_0 0) rfl) rfl rfl hl.1 rfl (lv_room (Nat.le_of_ble_eq_true rfl)) d_law_583 ⟨(Nat.le_of_ble_eq_true rfl), (Nat.le_of_ble_eq_true rfl)⟩) hS hAx hPm hdis (fun r50 v51 H locs er50 ev51 hIx hPx hPm hS => ?_)
      refine lv_pop hx hb d_law_586 rfl ?_
      refine lv_aload_n hx hb d_law_587 rfl (lv_at hl 2 rfl) ?_
      refine lv_aload_n hx hb d_law_588 rfl (lv_at hl 0 rfl) ?_
      refine lv_iload_n hx hb d_law_589 rfl (lv_at hl 3 rfl) ?_
      refine lv_iconst (v := (1 : Int32)) hx hb d_law_590 (by decide) ?_
      refine lv_iadd hx hb d_law_591 ?_
      refine va_sld hx hb hX hbl hbA hS hi1 d_law_592 ?_
      refine fw_lci (va_runV (As := [.int (xs ((nI (5 * n)) + (1 : Int32)).toNatClampNeg)]) (rest := []) ⟨hx, hb, hml, hown, hts⟩ (mc_Mo_lose l hDm w hIm (xs ((nI (5 * n)) + (1 : Int32)).toNatClampNeg) ) (mw_Mo_lose hts LL_65 ⟨(Nat.le_of_ble_eq_true rfl), (Nat.le_of_ble_eq_true rfl)⟩) (fw_preV hN.1 hK hPm (mm_0 (by decide)) (mk_0 0) rfl) rfl rfl hl.1 rfl (lv_room (Nat.le_of_ble_eq_true rfl)) d_law_593 ⟨(Nat.le_of_ble_eq_true rfl), (Nat.le_of_ble_eq_true rfl)⟩) hS hAm hPx hdis2 (fun r52 w53 H locs er52 ew53 hIm hPm hPx hS => ?_)
      refine lv_pop hx hb d_law_596 rfl ?_
      refine lv_goto (tgt := 844) hx hb d_law_597 (by decide) ?_
      refine lv_iinc (v := nI (5 * (n + 1))) (lv' := [(3, .int (nI (5 * (n + 1)))), (0, .ref b), (1, .ref (ad 0 0)), (2, .ref (am 0 0))]) hx hb d_law_844 hl (k := 3) rfl (lw_five n) (by decide) rfl (fun ls hl => ?_)
      refine lv_goto (tgt := 18) hx hb d_law_847 (by decide) ?_
      exact ih (n + 1) v51 w53 _ _ _ (by omega) (by omega) (xI_mono hIx (by omega)) hIm (by rw [ev51, ew53]; exact (ls_lose (n := n) hn hIx0 hIm0 hR (xs ((nI (5 * n)) + (1 : Int32)).toNatClampNeg)).1) hPx hPm hS (lv_sub hl [1, 2, 3, 0] rfl)
    by_cases y12 : y = (12 : Int32)
    · refine lv_tableIn (off := 568) (tgt := 600) hx hb d_law_32 (by rw [y12]; decide) (by rw [y12]; decide) (by rw [y12]; rfl) (by decide) ?_
      refine lv_aload_n hx hb d_law_600 rfl (lv_at hl 1 rfl) ?_
      refine lv_aload_n hx hb d_law_601 rfl (lv_at hl 0 rfl) ?_
      refine lv_iload_n hx hb d_law_602 rfl (lv_at hl 3 rfl) ?_
      refine lv_iconst (v := (1 : Int32)) hx hb d_law_603 (by decide) ?_
      refine lv_iadd hx hb d_law_604 ?_
      refine va_sld hx hb hX hbl hbA hS hi1 d_law_605 ?_
      refine fw_lci (va_runV (As := [.int (xs ((nI (5 * n)) + (1 : Int32)).toNatClampNeg)]) (rest := []) ⟨hx, hb, hml, hown, hts⟩ (xc_FR_repeat l hDx v hIx (xs ((nI (5 * n)) + (1 : Int32)).toNatClampNeg) ) (xw_FR_repeat hts LL_66 ⟨(Nat.le_of_ble_eq_true rfl), (Nat.le_of_ble_eq_true rfl)⟩) (fw_preV hN.1 hK hPx (xm_0 (by decide)) (xk_0 0) rfl) rfl rfl hl.1 rfl (lv_room (Nat.le_of_ble_eq_true rfl)) d_law_606 ⟨(Nat.le_of_ble_eq_true rfl), (Nat.le_of_ble_eq_true rfl)⟩) hS hAx hPm hdis (fun r54 v55 H locs er54 ev55 hIx hPx hPm hS => ?_)
      refine lv_pop hx hb d_law_609 rfl ?_
      refine lv_aload_n hx hb d_law_610 rfl (lv_at hl 2 rfl) ?_
      refine lv_aload_n hx hb d_law_611 rfl (lv_at hl 0 rfl) ?_
      refine lv_iload_n hx hb d_law_612 rfl (lv_at hl 3 rfl) ?_
      refine lv_iconst (v := (1 : Int32)) hx hb d_law_613 (by decide) ?_
      refine lv_iadd hx hb d_law_614 ?_
      refine va_sld hx hb hX hbl hbA hS hi1 d_law_615 ?_
      refine fw_lci (va_runV (As := [.int (xs ((nI (5 * n)) + (1 : Int32)).toNatClampNeg)]) (rest := []) ⟨hx, hb, hml, hown, hts⟩ (mc_Mo_repeat l hDm w hIm (xs ((nI (5 * n)) + (1 : Int32)).toNatClampNeg) ) (mw_Mo_repeat hts LL_69 ⟨(Nat.le_of_ble_eq_true rfl), (Nat.le_of_ble_eq_true rfl)⟩) (fw_preV hN.1 hK hPm (mm_0 (by decide)) (mk_0 0) rfl) rfl rfl hl.1 rfl (lv_room (Nat.le_of_ble_eq_true rfl)) d_law_616 ⟨(Nat.le_of_ble_eq_true rfl), (Nat.le_of_ble_eq_true rfl)⟩) hS hAm hPx hdis2 (fun r56 w57 H locs er56 ew57 hIm hPm hPx hS => ?_)
      refine lv_pop hx hb d_law_619 rfl ?_
      refine lv_goto (tgt := 844) hx hb d_law_620 (by decide) ?_
      refine lv_iinc (v := nI (5 * (n + 1))) (lv' := [(3, .int (nI (5 * (n + 1)))), (0, .ref b), (1, .ref (ad 0 0)), (2, .ref (am 0 0))]) hx hb d_law_844 hl (k := 3) rfl (lw_five n) (by decide) rfl (fun ls hl => ?_)
      refine lv_goto (tgt := 18) hx hb d_law_847 (by decide) ?_
      exact ih (n + 1) v55 w57 _ _ _ (by omega) (by omega) (xI_mono hIx (by omega)) hIm (by rw [ev55, ew57]; exact (ls_repeat (n := n) hn hIx0 hIm0 hR (xs ((nI (5 * n)) + (1 : Int32)).toNatClampNeg)).1) hPx hPm hS (lv_sub hl [1, 2, 3, 0] rfl)
    by_cases y13 : y = (13 : Int32)
    · refine lv_tableIn (off := 591) (tgt := 623) hx hb d_law_32 (by rw [y13]; decide) (by rw [y13]; decide) (by rw [y13]; rfl) (by decide) ?_
      refine lv_aload_n hx hb d_law_623 rfl (lv_at hl 1 rfl) ?_
      refine lv_aload_n hx hb d_law_624 rfl (lv_at hl 0 rfl) ?_
      refine lv_iload_n hx hb d_law_625 rfl (lv_at hl 3 rfl) ?_
      refine lv_iconst (v := (1 : Int32)) hx hb d_law_626 (by decide) ?_
      refine lv_iadd hx hb d_law_627 ?_
      refine va_sld hx hb hX hbl hbA hS hi1 d_law_628 ?_
      refine fw_lci (va_runV (As := [.int (xs ((nI (5 * n)) + (1 : Int32)).toNatClampNeg)]) (rest := []) ⟨hx, hb, hml, hown, hts⟩ (xc_FR_tick l hDx v hIx (xs ((nI (5 * n)) + (1 : Int32)).toNatClampNeg) ) (xw_FR_tick hts LL_70 ⟨(Nat.le_of_ble_eq_true rfl), (Nat.le_of_ble_eq_true rfl)⟩) (fw_preV hN.1 hK hPx (xm_0 (by decide)) (xk_0 0) rfl) rfl rfl hl.1 rfl (lv_room (Nat.le_of_ble_eq_true rfl)) d_law_629 ⟨(Nat.le_of_ble_eq_true rfl), (Nat.le_of_ble_eq_true rfl)⟩) hS hAx hPm hdis (fun r58 v59 H locs er58 ev59 hIx hPx hPm hS => ?_)
      refine lv_pop hx hb d_law_632 rfl ?_
      refine lv_aload_n hx hb d_law_633 rfl (lv_at hl 2 rfl) ?_
      refine lv_aload_n hx hb d_law_634 rfl (lv_at hl 0 rfl) ?_
      refine lv_iload_n hx hb d_law_635 rfl (lv_at hl 3 rfl) ?_
      refine lv_iconst (v := (1 : Int32)) hx hb d_law_636 (by decide) ?_
      refine lv_iadd hx hb d_law_637 ?_
      refine va_sld hx hb hX hbl hbA hS hi1 d_law_638 ?_
      refine fw_lci (va_runV (As := [.int (xs ((nI (5 * n)) + (1 : Int32)).toNatClampNeg)]) (rest := []) ⟨hx, hb, hml, hown, hts⟩ (mc_Mo_tick l hDm w hIm (xs ((nI (5 * n)) + (1 : Int32)).toNatClampNeg) ) (mw_Mo_tick hts LL_73 ⟨(Nat.le_of_ble_eq_true rfl), (Nat.le_of_ble_eq_true rfl)⟩) (fw_preV hN.1 hK hPm (mm_0 (by decide)) (mk_0 0) rfl) rfl rfl hl.1 rfl (lv_room (Nat.le_of_ble_eq_true rfl)) d_law_639 ⟨(Nat.le_of_ble_eq_true rfl), (Nat.le_of_ble_eq_true rfl)⟩) hS hAm hPx hdis2 (fun r60 w61 H locs er60 ew61 hIm hPm hPx hS => ?_)
      refine lv_pop hx hb d_law_642 rfl ?_
      refine lv_goto (tgt := 844) hx hb d_law_643 (by decide) ?_
      refine lv_iinc (v := nI (5 * (n + 1))) (lv' := [(3, .int (nI (5 * (n + 1)))), (0, .ref b), (1, .ref (ad 0 0)), (2, .ref (am 0 0))]) hx hb d_law_844 hl (k := 3) rfl (lw_five n) (by decide) rfl (fun ls hl => ?_)
      refine lv_goto (tgt := 18) hx hb d_law_847 (by decide) ?_
      exact ih (n + 1) v59 w61 _ _ _ (by omega) (by omega) (xI_mono hIx (by omega)) hIm (by rw [ev59, ew61]; exact (ls_tick (n := n) hn hIx0 hIm0 hR (xs ((nI (5 * n)) + (1 : Int32)).toNatClampNeg)).1) hPx hPm hS (lv_sub hl [1, 2, 3, 0] rfl)
    by_cases y14 : y = (14 : Int32)
    · refine lv_tableIn (off := 614) (tgt := 646) hx hb d_law_32 (by rw [y14]; decide) (by rw [y14]; decide) (by rw [y14]; rfl) (by decide) ?_
      refine lv_aload_n hx hb d_law_646 rfl (lv_at hl 1 rfl) ?_
      refine lv_aload_n hx hb d_law_647 rfl (lv_at hl 0 rfl) ?_
      refine lv_iload_n hx hb d_law_648 rfl (lv_at hl 3 rfl) ?_
      refine lv_iconst (v := (1 : Int32)) hx hb d_law_649 (by decide) ?_
      refine lv_iadd hx hb d_law_650 ?_
      refine va_sld hx hb hX hbl hbA hS hi1 d_law_651 ?_
      refine lv_aload_n hx hb d_law_652 rfl (lv_at hl 0 rfl) ?_
      refine lv_iload_n hx hb d_law_653 rfl (lv_at hl 3 rfl) ?_
      refine lv_iconst (v := (2 : Int32)) hx hb d_law_654 (by decide) ?_
      refine lv_iadd hx hb d_law_655 ?_
      refine va_sld hx hb hX hbl hbA hS hi2 d_law_656 ?_
      refine fw_lco (va_runV (As := [.int (xs ((nI (5 * n)) + (1 : Int32)).toNatClampNeg), .int (xs ((nI (5 * n)) + (2 : Int32)).toNatClampNeg)]) (rest := []) ⟨hx, hb, hml, hown, hts⟩ (xc_FR_frame l hDx v hIx (xs ((nI (5 * n)) + (1 : Int32)).toNatClampNeg) (xs ((nI (5 * n)) + (2 : Int32)).toNatClampNeg) ) (xw_FR_frame hts LL_74 ⟨(Nat.le_of_ble_eq_true rfl), (Nat.le_of_ble_eq_true rfl)⟩) (fw_preV hN.1 hK hPx (xm_0 (by decide)) (xk_0 0) rfl) rfl rfl hl.1 rfl (lv_room (Nat.le_of_ble_eq_true rfl)) d_law_657 ⟨(Nat.le_of_ble_eq_true rfl), (Nat.le_of_ble_eq_true rfl)⟩) hS hAx hPm hdis (fun r62 H locs er62 hPx hPm hS => ?_)
      refine lv_pop hx hb d_law_660 rfl ?_
      refine lv_aload_n hx hb d_law_661 rfl (lv_at hl 2 rfl) ?_
      refine lv_aload_n hx hb d_law_662 rfl (lv_at hl 0 rfl) ?_
      refine lv_iload_n hx hb d_law_663 rfl (lv_at hl 3 rfl) ?_
      refine lv_iconst (v := (1 : Int32)) hx hb d_law_664 (by decide) ?_
      refine lv_iadd hx hb d_law_665 ?_
      refine va_sld hx hb hX hbl hbA hS hi1 d_law_666 ?_
      refine lv_aload_n hx hb d_law_667 rfl (lv_at hl 0 rfl) ?_
      refine lv_iload_n hx hb d_law_668 rfl (lv_at hl 3 rfl) ?_
      refine lv_iconst (v := (2 : Int32)) hx hb d_law_669 (by decide) ?_
      refine lv_iadd hx hb d_law_670 ?_
      refine va_sld hx hb hX hbl hbA hS hi2 d_law_671 ?_
      refine fw_lco (va_runV (As := [.int (xs ((nI (5 * n)) + (1 : Int32)).toNatClampNeg), .int (xs ((nI (5 * n)) + (2 : Int32)).toNatClampNeg)]) (rest := []) ⟨hx, hb, hml, hown, hts⟩ (mc_Mo_frame l hDm w hIm (xs ((nI (5 * n)) + (1 : Int32)).toNatClampNeg) (xs ((nI (5 * n)) + (2 : Int32)).toNatClampNeg) ) (mw_Mo_frame hts LL_78 ⟨(Nat.le_of_ble_eq_true rfl), (Nat.le_of_ble_eq_true rfl)⟩) (fw_preV hN.1 hK hPm (mm_0 (by decide)) (mk_0 0) rfl) rfl rfl hl.1 rfl (lv_room (Nat.le_of_ble_eq_true rfl)) d_law_672 ⟨(Nat.le_of_ble_eq_true rfl), (Nat.le_of_ble_eq_true rfl)⟩) hS hAm hPx hdis2 (fun r64 H locs er64 hPm hPx hS => ?_)
      refine lv_pop hx hb d_law_675 rfl ?_
      refine lv_goto (tgt := 844) hx hb d_law_676 (by decide) ?_
      refine lv_iinc (v := nI (5 * (n + 1))) (lv' := [(3, .int (nI (5 * (n + 1)))), (0, .ref b), (1, .ref (ad 0 0)), (2, .ref (am 0 0))]) hx hb d_law_844 hl (k := 3) rfl (lw_five n) (by decide) rfl (fun ls hl => ?_)
      refine lv_goto (tgt := 18) hx hb d_law_847 (by decide) ?_
      exact ih (n + 1) v w _ _ _ (by omega) (by omega) (xI_mono hIx (by omega)) hIm (ls_none hR) hPx hPm hS (lv_sub hl [1, 2, 3, 0] rfl)
    by_cases y15 : y = (15 : Int32)
    · refine lv_tableIn (off := 647) (tgt := 679) hx hb d_law_32 (by rw [y15]; decide) (by rw [y15]; decide) (by rw [y15]; rfl) (by decide) ?_
      refine lv_aload_n hx hb d_law_679 rfl (lv_at hl 1 rfl) ?_
      refine lv_aload_n hx hb d_law_680 rfl (lv_at hl 0 rfl) ?_
      refine lv_iload_n hx hb d_law_681 rfl (lv_at hl 3 rfl) ?_
      refine lv_iconst (v := (1 : Int32)) hx hb d_law_682 (by decide) ?_
      refine lv_iadd hx hb d_law_683 ?_
      refine va_sld hx hb hX hbl hbA hS hi1 d_law_684 ?_
      refine lv_aload_n hx hb d_law_685 rfl (lv_at hl 0 rfl) ?_
      refine lv_iload_n hx hb d_law_686 rfl (lv_at hl 3 rfl) ?_
      refine lv_iconst (v := (2 : Int32)) hx hb d_law_687 (by decide) ?_
      refine lv_iadd hx hb d_law_688 ?_
      refine va_sld hx hb hX hbl hbA hS hi2 d_law_689 ?_
      refine fw_lco (va_runV (As := [.int (xs ((nI (5 * n)) + (1 : Int32)).toNatClampNeg), .int (xs ((nI (5 * n)) + (2 : Int32)).toNatClampNeg)]) (rest := []) ⟨hx, hb, hml, hown, hts⟩ (xc_FR_relation l hDx v hIx (xs ((nI (5 * n)) + (1 : Int32)).toNatClampNeg) (xs ((nI (5 * n)) + (2 : Int32)).toNatClampNeg) ) (xw_FR_relation hts LL_79 ⟨(Nat.le_of_ble_eq_true rfl), (Nat.le_of_ble_eq_true rfl)⟩) (fw_preV hN.1 hK hPx (xm_0 (by decide)) (xk_0 0) rfl) rfl rfl hl.1 rfl (lv_room (Nat.le_of_ble_eq_true rfl)) d_law_690 ⟨(Nat.le_of_ble_eq_true rfl), (Nat.le_of_ble_eq_true rfl)⟩) hS hAx hPm hdis (fun r66 H locs er66 hPx hPm hS => ?_)
      refine lv_pop hx hb d_law_693 rfl ?_
      refine lv_aload_n hx hb d_law_694 rfl (lv_at hl 2 rfl) ?_
      refine lv_aload_n hx hb d_law_695 rfl (lv_at hl 0 rfl) ?_
      refine lv_iload_n hx hb d_law_696 rfl (lv_at hl 3 rfl) ?_
      refine lv_iconst (v := (1 : Int32)) hx hb d_law_697 (by decide) ?_
      refine lv_iadd hx hb d_law_698 ?_
      refine va_sld hx hb hX hbl hbA hS hi1 d_law_699 ?_
      refine lv_aload_n hx hb d_law_700 rfl (lv_at hl 0 rfl) ?_
      refine lv_iload_n hx hb d_law_701 rfl (lv_at hl 3 rfl) ?_
      refine lv_iconst (v := (2 : Int32)) hx hb d_law_702 (by decide) ?_
      refine lv_iadd hx hb d_law_703 ?_
      refine va_sld hx hb hX hbl hbA hS hi2 d_law_704 ?_
      refine fw_lco (va_runV (As := [.int (xs ((nI (5 * n)) + (1 : Int32)).toNatClampNeg), .int (xs ((nI (5 * n)) + (2 : Int32)).toNatClampNeg)]) (rest := []) ⟨hx, hb, hml, hown, hts⟩ (mc_Mo_relation l hDm w hIm (xs ((nI (5 * n)) + (1 : Int32)).toNatClampNeg) (xs ((nI (5 * n)) + (2 : Int32)).toNatClampNeg) ) (mw_Mo_relation hts LL_82 ⟨(Nat.le_of_ble_eq_true rfl), (Nat.le_of_ble_eq_true rfl)⟩) (fw_preV hN.1 hK hPm (mm_0 (by decide)) (mk_0 0) rfl) rfl rfl hl.1 rfl (lv_room (Nat.le_of_ble_eq_true rfl)) d_law_705 ⟨(Nat.le_of_ble_eq_true rfl), (Nat.le_of_ble_eq_true rfl)⟩) hS hAm hPx hdis2 (fun r68 H locs er68 hPm hPx hS => ?_)
      refine lv_pop hx hb d_law_708 rfl ?_
      refine lv_goto (tgt := 844) hx hb d_law_709 (by decide) ?_
      refine lv_iinc (v := nI (5 * (n + 1))) (lv' := [(3, .int (nI (5 * (n + 1)))), (0, .ref b), (1, .ref (ad 0 0)), (2, .ref (am 0 0))]) hx hb d_law_844 hl (k := 3) rfl (lw_five n) (by decide) rfl (fun ls hl => ?_)
      refine lv_goto (tgt := 18) hx hb d_law_847 (by decide) ?_
      exact ih (n + 1) v w _ _ _ (by omega) (by omega) (xI_mono hIx (by omega)) hIm (ls_none hR) hPx hPm hS (lv_sub hl [1, 2, 3, 0] rfl)
    by_cases y16 : y = (16 : Int32)
    · refine lv_tableIn (off := 680) (tgt := 712) hx hb d_law_32 (by rw [y16]; decide) (by rw [y16]; decide) (by rw [y16]; rfl) (by decide) ?_
      refine lv_aload_n hx hb d_law_712 rfl (lv_at hl 1 rfl) ?_
      refine lv_aload_n hx hb d_law_713 rfl (lv_at hl 0 rfl) ?_
      refine lv_iload_n hx hb d_law_714 rfl (lv_at hl 3 rfl) ?_
      refine lv_iconst (v := (1 : Int32)) hx hb d_law_715 (by decide) ?_
      refine lv_iadd hx hb d_law_716 ?_
      refine va_sld hx hb hX hbl hbA hS hi1 d_law_717 ?_
      refine lv_aload_n hx hb d_law_718 rfl (lv_at hl 0 rfl) ?_
      refine lv_iload_n hx hb d_law_719 rfl (lv_at hl 3 rfl) ?_
      refine lv_iconst (v := (2 : Int32)) hx hb d_law_720 (by decide) ?_
      refine lv_iadd hx hb d_law_721 ?_
      refine va_sld hx hb hX hbl hbA hS hi2 d_law_722 ?_
      refine fw_lco (va_runV (As := [.int (xs ((nI (5 * n)) + (1 : Int32)).toNatClampNeg), .int (xs ((nI (5 * n)) + (2 : Int32)).toNatClampNeg)]) (rest := []) ⟨hx, hb, hml, hown, hts⟩ (xc_FR_device l hDx v hIx (xs ((nI (5 * n)) + (1 : Int32)).toNatClampNeg) (xs ((nI (5 * n)) + (2 : Int32)).toNatClampNeg) ) (xw_FR_device hts LL_83 ⟨(Nat.le_of_ble_eq_true rfl), (Nat.le_of_ble_eq_true rfl)⟩) (fw_preV hN.1 hK hPx (xm_0 (by decide)) (xk_0 0) rfl) rfl rfl hl.1 rfl (lv_room (Nat.le_of_ble_eq_true rfl)) d_law_723 ⟨(Nat.le_of_ble_eq_true rfl), (Nat.le_of_ble_eq_true rfl)⟩) hS hAx hPm hdis (fun r70 H locs er70 hPx hPm hS => ?_)
      refine lv_pop hx hb d_law_726 rfl ?_
      refine lv_aload_n hx hb d_law_727 rfl (lv_at hl 2 rfl) ?_
      refine lv_aload_n hx hb d_law_728 rfl (lv_at hl 0 rfl) ?_
      refine lv_iload_n hx hb d_law_729 rfl (lv_at hl 3 rfl) ?_
      refine lv_iconst (v := (1 : Int32)) hx hb d_law_730 (by decide) ?_
      refine lv_iadd hx hb d_law_731 ?_
      refine va_sld hx hb hX hbl hbA hS hi1 d_law_732 ?_
      refine lv_aload_n hx hb d_law_733 rfl (lv_at hl 0 rfl) ?_
      refine lv_iload_n hx hb d_law_734 rfl (lv_at hl 3 rfl) ?_
      refine lv_iconst (v := (2 : Int32)) hx hb d_law_735 (by decide) ?_
      refine lv_iadd hx hb d_law_736 ?_
      refine va_sld hx hb hX hbl hbA hS hi2 d_law_737 ?_
      refine fw_lco (va_runV (As := [.int (xs ((nI (5 * n)) + (1 : Int32)).toNatClampNeg), .int (xs ((nI (5 * n)) + (2 : Int32)).toNatClampNeg)]) (rest := []) ⟨hx, hb, hml, hown, hts⟩ (mc_Mo_device l hDm w hIm (xs ((nI (5 * n)) + (1 : Int32)).toNatClampNeg) (xs ((nI (5 * n)) + (2 : Int32)).toNatClampNeg) ) (mw_Mo_device hts LL_86 ⟨(Nat.le_of_ble_eq_true rfl), (Nat.le_of_ble_eq_true rfl)⟩) (fw_preV hN.1 hK hPm (mm_0 (by decide)) (mk_0 0) rfl) rfl rfl hl.1 rfl (lv_room (Nat.le_of_ble_eq_true rfl)) d_law_738 ⟨(Nat.le_of_ble_eq_true rfl), (Nat.le_of_ble_eq_true rfl)⟩) hS hAm hPx hdis2 (fun r72 H locs er72 hPm hPx hS => ?_)
      refine lv_pop hx hb d_law_741 rfl ?_
      refine lv_goto (tgt := 844) hx hb d_law_742 (by decide) ?_
      refine lv_iinc (v := nI (5 * (n + 1))) (lv' := [(3, .int (nI (5 * (n + 1)))), (0, .ref b), (1, .ref (ad 0 0)), (2, .ref (am 0 0))]) hx hb d_law_844 hl (k := 3) rfl (lw_five n) (by decide) rfl (fun ls hl => ?_)
      refine lv_goto (tgt := 18) hx hb d_law_847 (by decide) ?_
      exact ih (n + 1) v w _ _ _ (by omega) (by omega) (xI_mono hIx (by omega)) hIm (ls_none hR) hPx hPm hS (lv_sub hl [1, 2, 3, 0] rfl)
    by_cases y17 : y = (17 : Int32)
    · refine lv_tableIn (off := 713) (tgt := 745) hx hb d_law_32 (by rw [y17]; decide) (by rw [y17]; decide) (by rw [y17]; rfl) (by decide) ?_
      refine lv_aload_n hx hb d_law_745 rfl (lv_at hl 1 rfl) ?_
      refine lv_aload_n hx hb d_law_746 rfl (lv_at hl 0 rfl) ?_
      refine lv_iload_n hx hb d_law_747 rfl (lv_at hl 3 rfl) ?_
      refine lv_iconst (v := (1 : Int32)) hx hb d_law_748 (by decide) ?_
      refine lv_iadd hx hb d_law_749 ?_
      refine va_sld hx hb hX hbl hbA hS hi1 d_law_750 ?_
      refine lv_aload_n hx hb d_law_751 rfl (lv_at hl 0 rfl) ?_
      refine lv_iload_n hx hb d_law_752 rfl (lv_at hl 3 rfl) ?_
      refine lv_iconst (v := (2 : Int32)) hx hb d_law_753 (by decide) ?_
      refine lv_iadd hx hb d_law_754 ?_
      refine va_sld hx hb hX hbl hbA hS hi2 d_law_755 ?_
      refine lv_aload_n hx hb d_law_756 rfl (lv_at hl 0 rfl) ?_
      refine lv_iload_n hx hb d_law_757 rfl (lv_at hl 3 rfl) ?_
      refine lv_iconst (v := (3 : Int32)) hx hb d_law_758 (by decide) ?_
      refine lv_iadd hx hb d_law_759 ?_
      refine va_sld hx hb hX hbl hbA hS hi3 d_law_760 ?_
      refine lv_aload_n hx hb d_law_761 rfl (lv_at hl 0 rfl) ?_
      refine lv_iload_n hx hb d_law_762 rfl (lv_at hl 3 rfl) ?_
      refine lv_iconst (v := (4 : Int32)) hx hb d_law_763 (by decide) ?_
      refine lv_iadd hx hb d_law_764 ?_
      refine va_sld hx hb hX hbl hbA hS hi4 d_law_765 ?_
      refine fw_lco (va_runV (As := [.int (xs ((nI (5 * n)) + (1 : Int32)).toNatClampNeg), .int (xs ((nI (5 * n)) + (2 : Int32)).toNatClampNeg), .int (xs ((nI (5 * n)) + (3 : Int32)).toNatClampNeg), .int (xs ((nI (5 * n)) + (4 : Int32)).toNatClampNeg)]) (rest := []) ⟨hx, hb, hml, hown, hts⟩ (xc_FR_data l hDx v hIx (xs ((nI (5 * n)) + (1 : Int32)).toNatClampNeg) (xs ((nI (5 * n)) + (2 : Int32)).toNatClampNeg) (xs ((nI (5 * n)) + (3 : Int32)).toNatClampNeg) (xs ((nI (5 * n)) + (4 : Int32)).toNatClampNeg) ) (xw_FR_data hts LL_87 ⟨(Nat.le_of_ble_eq_true rfl), (Nat.le_of_ble_eq_true rfl)⟩) (fw_preV hN.1 hK hPx (xm_0 (by decide)) (xk_0 0) rfl) rfl rfl hl.1 rfl (lv_room (Nat.le_of_ble_eq_true rfl)) d_law_766 ⟨(Nat.le_of_ble_eq_true rfl), (Nat.le_of_ble_eq_true rfl)⟩) hS hAx hPm hdis (fun r74 H locs er74 hPx hPm hS => ?_)
      refine lv_pop hx hb d_law_769 rfl ?_
      refine lv_aload_n hx hb d_law_770 rfl (lv_at hl 2 rfl) ?_
      refine lv_aload_n hx hb d_law_771 rfl (lv_at hl 0 rfl) ?_
      refine lv_iload_n hx hb d_law_772 rfl (lv_at hl 3 rfl) ?_
      refine lv_iconst (v := (1 : Int32)) hx hb d_law_773 (by decide) ?_
      refine lv_iadd hx hb d_law_774 ?_
      refine va_sld hx hb hX hbl hbA hS hi1 d_law_775 ?_
      refine lv_aload_n hx hb d_law_776 rfl (lv_at hl 0 rfl) ?_
      refine lv_iload_n hx hb d_law_777 rfl (lv_at hl 3 rfl) ?_
      refine lv_iconst (v := (2 : Int32)) hx hb d_law_778 (by decide) ?_
      refine lv_iadd hx hb d_law_779 ?_
      refine va_sld hx hb hX hbl hbA hS hi2 d_law_780 ?_
      refine lv_aload_n hx hb d_law_781 rfl (lv_at hl 0 rfl) ?_
      refine lv_iload_n hx hb d_law_782 rfl (lv_at hl 3 rfl) ?_
      refine lv_iconst (v := (3 : Int32)) hx hb d_law_783 (by decide) ?_
      refine lv_iadd hx hb d_law_784 ?_
      refine va_sld hx hb hX hbl hbA hS hi3 d_law_785 ?_
      refine lv_aload_n hx hb d_law_786 rfl (lv_at hl 0 rfl) ?_
      refine lv_iload_n hx hb d_law_787 rfl (lv_at hl 3 rfl) ?_
      refine lv_iconst (v := (4 : Int32)) hx hb d_law_788 (by decide) ?_
      refine lv_iadd hx hb d_law_789 ?_
      refine va_sld hx hb hX hbl hbA hS hi4 d_law_790 ?_
      refine fw_lco (va_runV (As := [.int (xs ((nI (5 * n)) + (1 : Int32)).toNatClampNeg), .int (xs ((nI (5 * n)) + (2 : Int32)).toNatClampNeg), .int (xs ((nI (5 * n)) + (3 : Int32)).toNatClampNeg), .int (xs ((nI (5 * n)) + (4 : Int32)).toNatClampNeg)]) (rest := []) ⟨hx, hb, hml, hown, hts⟩ (mc_Mo_data l hDm w hIm (xs ((nI (5 * n)) + (1 : Int32)).toNatClampNeg) (xs ((nI (5 * n)) + (2 : Int32)).toNatClampNeg) (xs ((nI (5 * n)) + (3 : Int32)).toNatClampNeg) (xs ((nI (5 * n)) + (4 : Int32)).toNatClampNeg) ) (mw_Mo_data hts LL_91 ⟨(Nat.le_of_ble_eq_true rfl), (Nat.le_of_ble_eq_true rfl)⟩) (fw_preV hN.1 hK hPm (mm_0 (by decide)) (mk_0 0) rfl) rfl rfl hl.1 rfl (lv_room (Nat.le_of_ble_eq_true rfl)) d_law_791 ⟨(Nat.le_of_ble_eq_true rfl), (Nat.le_of_ble_eq_true rfl)⟩) hS hAm hPx hdis2 (fun r76 H locs er76 hPm hPx hS => ?_)
      refine lv_pop hx hb d_law_794 rfl ?_
      refine lv_goto (tgt := 844) hx hb d_law_795 (by decide) ?_
      refine lv_iinc (v := nI (5 * (n + 1))) (lv' := [(3, .int (nI (5 * (n + 1)))), (0, .ref b), (1, .ref (ad 0 0)), (2, .ref (am 0 0))]) hx hb d_law_844 hl (k := 3) rfl (lw_five n) (by decide) rfl (fun ls hl => ?_)
      refine lv_goto (tgt := 18) hx hb d_law_847 (by decide) ?_
      exact ih (n + 1) v w _ _ _ (by omega) (by omega) (xI_mono hIx (by omega)) hIm (ls_none hR) hPx hPm hS (lv_sub hl [1, 2, 3, 0] rfl)
    by_cases y18 : y = (18 : Int32)
    · refine lv_tableIn (off := 766) (tgt := 798) hx hb d_law_32 (by rw [y18]; decide) (by rw [y18]; decide) (by rw [y18]; rfl) (by decide) ?_
      refine lv_aload_n hx hb d_law_798 rfl (lv_at hl 1 rfl) ?_
      refine lv_aload_n hx hb d_law_799 rfl (lv_at hl 0 rfl) ?_
      refine lv_iload_n hx hb d_law_800 rfl (lv_at hl 3 rfl) ?_
      refine lv_iconst (v := (1 : Int32)) hx hb d_law_801 (by decide) ?_
      refine lv_iadd hx hb d_law_802 ?_
      refine va_sld hx hb hX hbl hbA hS hi1 d_law_803 ?_
      refine fw_lco (va_runV (As := [.int (xs ((nI (5 * n)) + (1 : Int32)).toNatClampNeg)]) (rest := []) ⟨hx, hb, hml, hown, hts⟩ (xc_FR_alarms l hDx v hIx (xs ((nI (5 * n)) + (1 : Int32)).toNatClampNeg) ) (xw_FR_alarms hts LL_92 ⟨(Nat.le_of_ble_eq_true rfl), (Nat.le_of_ble_eq_true rfl)⟩) (fw_preV hN.1 hK hPx (xm_0 (by decide)) (xk_0 0) rfl) rfl rfl hl.1 rfl (lv_room (Nat.le_of_ble_eq_true rfl)) d_law_804 ⟨(Nat.le_of_ble_eq_true rfl), (Nat.le_of_ble_eq_true rfl)⟩) hS hAx hPm hdis (fun r78 H locs er78 hPx hPm hS => ?_)
      refine lv_pop hx hb d_law_807 rfl ?_
      refine lv_aload_n hx hb d_law_808 rfl (lv_at hl 2 rfl) ?_
      refine lv_aload_n hx hb d_law_809 rfl (lv_at hl 0 rfl) ?_
      refine lv_iload_n hx hb d_law_810 rfl (lv_at hl 3 rfl) ?_
      refine lv_iconst (v := (1 : Int32)) hx hb d_law_811 (by decide) ?_
      refine lv_iadd hx hb d_law_812 ?_
      refine va_sld hx hb hX hbl hbA hS hi1 d_law_813 ?_
      refine fw_lco (va_runV (As := [.int (xs ((nI (5 * n)) + (1 : Int32)).toNatClampNeg)]) (rest := []) ⟨hx, hb, hml, hown, hts⟩ (mc_Mo_alarms l hDm w hIm (xs ((nI (5 * n)) + (1 : Int32)).toNatClampNeg) ) (mw_Mo_alarms hts LL_95 ⟨(Nat.le_of_ble_eq_true rfl), (Nat.le_of_ble_eq_true rfl)⟩) (fw_preV hN.1 hK hPm (mm_0 (by decide)) (mk_0 0) rfl) rfl rfl hl.1 rfl (lv_room (Nat.le_of_ble_eq_true rfl)) d_law_814 ⟨(Nat.le_of_ble_eq_true rfl), (Nat.le_of_ble_eq_true rfl)⟩) hS hAm hPx hdis2 (fun r80 H locs er80 hPm hPx hS => ?_)
      refine lv_pop hx hb d_law_817 rfl ?_
      refine lv_goto (tgt := 844) hx hb d_law_818 (by decide) ?_
      refine lv_iinc (v := nI (5 * (n + 1))) (lv' := [(3, .int (nI (5 * (n + 1)))), (0, .ref b), (1, .ref (ad 0 0)), (2, .ref (am 0 0))]) hx hb d_law_844 hl (k := 3) rfl (lw_five n) (by decide) rfl (fun ls hl => ?_)
      refine lv_goto (tgt := 18) hx hb d_law_847 (by decide) ?_
      exact ih (n + 1) v w _ _ _ (by omega) (by omega) (xI_mono hIx (by omega)) hIm (ls_none hR) hPx hPm hS (lv_sub hl [1, 2, 3, 0] rfl)
    by_cases y19 : y = (19 : Int32)
    · refine lv_tableIn (off := 789) (tgt := 821) hx hb d_law_32 (by rw [y19]; decide) (by rw [y19]; decide) (by rw [y19]; rfl) (by decide) ?_
      refine lv_aload_n hx hb d_law_821 rfl (lv_at hl 1 rfl) ?_
      refine lv_aload_n hx hb d_law_822 rfl (lv_at hl 0 rfl) ?_
      refine lv_iload_n hx hb d_law_823 rfl (lv_at hl 3 rfl) ?_
      refine lv_iconst (v := (1 : Int32)) hx hb d_law_824 (by decide) ?_
      refine lv_iadd hx hb d_law_825 ?_
      refine va_sld hx hb hX hbl hbA hS hi1 d_law_826 ?_
      refine fw_lco (va_runV (As := [.int (xs ((nI (5 * n)) + (1 : Int32)).toNatClampNeg)]) (rest := []) ⟨hx, hb, hml, hown, hts⟩ (xc_FR_count l hDx v hIx (xs ((nI (5 * n)) + (1 : Int32)).toNatClampNeg) ) (xw_FR_count hts LL_96 ⟨(Nat.le_of_ble_eq_true rfl), (Nat.le_of_ble_eq_true rfl)⟩) (fw_preV hN.1 hK hPx (xm_0 (by decide)) (xk_0 0) rfl) rfl rfl hl.1 rfl (lv_room (Nat.le_of_ble_eq_true rfl)) d_law_827 ⟨(Nat.le_of_ble_eq_true rfl), (Nat.le_of_ble_eq_true rfl)⟩) hS hAx hPm hdis (fun r82 H locs er82 hPx hPm hS => ?_)
      refine lv_aload_n hx hb d_law_830 rfl (lv_at hl 2 rfl) ?_
      refine lv_aload_n hx hb d_law_831 rfl (lv_at hl 0 rfl) ?_
      refine lv_iload_n hx hb d_law_832 rfl (lv_at hl 3 rfl) ?_
      refine lv_iconst (v := (1 : Int32)) hx hb d_law_833 (by decide) ?_
      refine lv_iadd hx hb d_law_834 ?_
      refine va_sld hx hb hX hbl hbA hS hi1 d_law_835 ?_
      refine fw_lco (va_runV (As := [.int (xs ((nI (5 * n)) + (1 : Int32)).toNatClampNeg)]) (rest := [.int r82]) ⟨hx, hb, hml, hown, hts⟩ (mc_Mo_count l hDm w hIm (xs ((nI (5 * n)) + (1 : Int32)).toNatClampNeg) ) (mw_Mo_count hts LL_99 ⟨(Nat.le_of_ble_eq_true rfl), (Nat.le_of_ble_eq_true rfl)⟩) (fw_preV hN.1 hK hPm (mm_0 (by decide)) (mk_0 0) rfl) rfl rfl hl.1 rfl (lv_room (Nat.le_of_ble_eq_true rfl)) d_law_836 ⟨(Nat.le_of_ble_eq_true rfl), (Nat.le_of_ble_eq_true rfl)⟩) hS hAm hPx hdis2 (fun r84 H locs er84 hPm hPx hS => ?_)
      refine lv_icmp_eq (tgt := 844) hx hb d_law_839 (by decide) (fun _ => ?_) (fun q => absurd (by rw [er82, er84]; exact (ls_count (n := n) hn hIx0 hIm0 hR (xs ((nI (5 * n)) + (1 : Int32)).toNatClampNeg)).2) q)
      refine lv_iinc (v := nI (5 * (n + 1))) (lv' := [(3, .int (nI (5 * (n + 1)))), (0, .ref b), (1, .ref (ad 0 0)), (2, .ref (am 0 0))]) hx hb d_law_844 hl (k := 3) rfl (lw_five n) (by decide) rfl (fun ls hl => ?_)
      refine lv_goto (tgt := 18) hx hb d_law_847 (by decide) ?_
      exact ih (n + 1) v w _ _ _ (by omega) (by omega) (xI_mono hIx (by omega)) hIm (ls_none hR) hPx hPm hS (lv_sub hl [1, 2, 3, 0] rfl)
    refine lv_tableOut (tgt := 844) hx hb d_law_32 (by have q0 := lv_neT y0 (a := 0) (by decide); have q1 := lv_neT y1 (a := 1) (by decide); have q2 := lv_neT y2 (a := 2) (by decide); have q3 := lv_neT y3 (a := 3) (by decide); have q4 := lv_neT y4 (a := 4) (by decide); have q5 := lv_neT y5 (a := 5) (by decide); have q6 := lv_neT y6 (a := 6) (by decide); have q7 := lv_neT y7 (a := 7) (by decide); have q8 := lv_neT y8 (a := 8) (by decide); have q9 := lv_neT y9 (a := 9) (by decide); have q10 := lv_neT y10 (a := 10) (by decide); have q11 := lv_neT y11 (a := 11) (by decide); have q12 := lv_neT y12 (a := 12) (by decide); have q13 := lv_neT y13 (a := 13) (by decide); have q14 := lv_neT y14 (a := 14) (by decide); have q15 := lv_neT y15 (a := 15) (by decide); have q16 := lv_neT y16 (a := 16) (by decide); have q17 := lv_neT y17 (a := 17) (by decide); have q18 := lv_neT y18 (a := 18) (by decide); have q19 := lv_neT y19 (a := 19) (by decide); omega) (by decide) ?_
    refine lv_iinc (v := nI (5 * (n + 1))) (lv' := [(3, .int (nI (5 * (n + 1)))), (0, .ref b), (1, .ref (ad 0 0)), (2, .ref (am 0 0))]) hx hb d_law_844 hl (k := 3) rfl (lw_five n) (by decide) rfl (fun ls hl => ?_)
    refine lv_goto (tgt := 18) hx hb d_law_847 (by decide) ?_
    exact ih (n + 1) v w _ _ _ (by omega) (by omega) (xI_mono hIx (by omega)) hIm (ls_none hR) hPx hPm hS (lv_sub hl [1, 2, 3, 0] rfl)

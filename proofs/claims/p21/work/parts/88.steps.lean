def lwR (n : Nat) (v w : fw_V) : Prop := GB (2 * n) v w ∧ ∃ l, l ≤ n ∧ J l w
theorem lwR_0 : lwR 0 x0 (mf_Mo_init (fun _ _ _ => 0)) := ⟨GB_0, 0, Nat.le_refl _, J_0⟩
theorem lw_k {n : Nat} {v w v' w' : fw_V} (h : lwR n v w) (g : GB (2 * n) v' w') (j : ∀ l, J l w → J l w') : lwR (n + 1) v' w' := by
  obtain ⟨_, l, hl, hj⟩ := h
  exact ⟨GB_mono g (by omega), l, by omega, j l hj⟩
theorem ls_none {n : Nat} {v w : fw_V} (h : lwR n v w) : lwR (n + 1) v w := lw_k h h.1 (fun _ z => z)
theorem lw_FW {n : Nat} {v w : fw_V} (hM : mI 0 w) (h : lwR n v w) : ∀ k, k < (w 0 0 10).toNatClampNeg → FW w k := by
  intro k hk
  obtain ⟨g, l, hl, hj⟩ := h
  obtain ⟨z, hz, ez⟩ := vp_in_of g.wr.ok (by decide)
  have ew : w 0 0 10 = nI z := by rw [← g.wr.sz]; exact ez
  have k16 : k < 16 := by rw [ew, nI_clamp (by omega)] at hk; omega
  obtain ⟨m1, m2, m3⟩ := hM.2.2.2 k k16
  refine FW_J hj hk m2 (fun q s hs => ?_)
  obtain ⟨n1, n2, n3⟩ := m3 q
  rcases (show s = 0 ∨ s = 1 ∨ s = 2 by omega) with rfl | rfl | rfl
  · exact n1
  · exact n2
  · exact n3
theorem lsa_kind {n : Nat} {v w : fw_V} (hn : 5 * n + 5 ≤ 2560) (hX : xI (2 * n) v) (hM : mI 0 w) (h : lwR n v w) (a1 a2 a3 a4 : Int32) : lwR (n + 1) (xf_FR_kind v a1 a2 a3 a4).2 (mf_Mo_kind w a1 a2 a3 a4).2 := lw_k h (GB_kind a1 a2 a3 a4 h.1).1 (fun _ z => J_kind a1 a2 a3 a4 z)
theorem lsb_kind {n : Nat} {v w : fw_V} (hn : 5 * n + 5 ≤ 2560) (hX : xI (2 * n) v) (hM : mI 0 w) (h : lwR n v w) (a1 a2 a3 a4 : Int32) : True := trivial
theorem ls_kind {n : Nat} {v w : fw_V} (hn : 5 * n + 5 ≤ 2560) (hX : xI (2 * n) v) (hM : mI 0 w) (h : lwR n v w) (a1 a2 a3 a4 : Int32) : lwR (n + 1) (xf_FR_kind v a1 a2 a3 a4).2 (mf_Mo_kind w a1 a2 a3 a4).2 ∧ True := ⟨lsa_kind hn hX hM h a1 a2 a3 a4, lsb_kind hn hX hM h a1 a2 a3 a4⟩
theorem lsa_name {n : Nat} {v w : fw_V} (hn : 5 * n + 5 ≤ 2560) (hX : xI (2 * n) v) (hM : mI 0 w) (h : lwR n v w) (a1 a2 : Int32) : lwR (n + 1) (xf_FR_name v a1 a2).2 (mf_Mo_name w a1 a2).2 := lw_k h (GB_name a1 a2 h.1) (fun _ z => J_name a1 a2 z)
theorem lsb_name {n : Nat} {v w : fw_V} (hn : 5 * n + 5 ≤ 2560) (hX : xI (2 * n) v) (hM : mI 0 w) (h : lwR n v w) (a1 a2 : Int32) : True := trivial
theorem ls_name {n : Nat} {v w : fw_V} (hn : 5 * n + 5 ≤ 2560) (hX : xI (2 * n) v) (hM : mI 0 w) (h : lwR n v w) (a1 a2 : Int32) : lwR (n + 1) (xf_FR_name v a1 a2).2 (mf_Mo_name w a1 a2).2 ∧ True := ⟨lsa_name hn hX hM h a1 a2, lsb_name hn hX hM h a1 a2⟩
theorem lsa_plug {n : Nat} {v w : fw_V} (hn : 5 * n + 5 ≤ 2560) (hX : xI (2 * n) v) (hM : mI 0 w) (h : lwR n v w) (a1 a2 a3 : Int32) : lwR (n + 1) (xf_FR_plug v a1 a2 a3).2 (mf_Mo_plug w a1 a2 a3).2 := lw_k h (GB_plug a1 a2 a3 h.1) (fun _ z => J_plug a1 a2 a3 h.1 z)
theorem lsb_plug {n : Nat} {v w : fw_V} (hn : 5 * n + 5 ≤ 2560) (hX : xI (2 * n) v) (hM : mI 0 w) (h : lwR n v w) (a1 a2 a3 : Int32) : True := trivial
theorem ls_plug {n : Nat} {v w : fw_V} (hn : 5 * n + 5 ≤ 2560) (hX : xI (2 * n) v) (hM : mI 0 w) (h : lwR n v w) (a1 a2 a3 : Int32) : lwR (n + 1) (xf_FR_plug v a1 a2 a3).2 (mf_Mo_plug w a1 a2 a3).2 ∧ True := ⟨lsa_plug hn hX hM h a1 a2 a3, lsb_plug hn hX hM h a1 a2 a3⟩
theorem lsa_substitute {n : Nat} {v w : fw_V} (hn : 5 * n + 5 ≤ 2560) (hX : xI (2 * n) v) (hM : mI 0 w) (h : lwR n v w) (a1 a2 a3 : Int32) : lwR (n + 1) (xf_FR_substitute v a1 a2 a3).2 (mf_Mo_substitute w a1 a2 a3).2 := lw_k h (GB_subst a1 a2 a3 h.1) (fun _ z => J_subst a1 a2 a3 z)
theorem lsb_substitute {n : Nat} {v w : fw_V} (hn : 5 * n + 5 ≤ 2560) (hX : xI (2 * n) v) (hM : mI 0 w) (h : lwR n v w) (a1 a2 a3 : Int32) : True := trivial
theorem ls_substitute {n : Nat} {v w : fw_V} (hn : 5 * n + 5 ≤ 2560) (hX : xI (2 * n) v) (hM : mI 0 w) (h : lwR n v w) (a1 a2 a3 : Int32) : lwR (n + 1) (xf_FR_substitute v a1 a2 a3).2 (mf_Mo_substitute w a1 a2 a3).2 ∧ True := ⟨lsa_substitute hn hX hM h a1 a2 a3, lsb_substitute hn hX hM h a1 a2 a3⟩
theorem lsa_sense {n : Nat} {v w : fw_V} (hn : 5 * n + 5 ≤ 2560) (hX : xI (2 * n) v) (hM : mI 0 w) (h : lwR n v w) (a1 a2 a3 a4 : Int32) : lwR (n + 1) (xf_FR_sense v a1 a2 a3 a4).2 (mf_Mo_sense w a1 a2 a3 a4).2 := lw_k h (GB_sense a1 a2 a3 a4 h.1) (fun _ z => J_sense a1 a2 a3 a4 z)
theorem lsb_sense {n : Nat} {v w : fw_V} (hn : 5 * n + 5 ≤ 2560) (hX : xI (2 * n) v) (hM : mI 0 w) (h : lwR n v w) (a1 a2 a3 a4 : Int32) : True := trivial
theorem ls_sense {n : Nat} {v w : fw_V} (hn : 5 * n + 5 ≤ 2560) (hX : xI (2 * n) v) (hM : mI 0 w) (h : lwR n v w) (a1 a2 a3 a4 : Int32) : lwR (n + 1) (xf_FR_sense v a1 a2 a3 a4).2 (mf_Mo_sense w a1 a2 a3 a4).2 ∧ True := ⟨lsa_sense hn hX hM h a1 a2 a3 a4, lsb_sense hn hX hM h a1 a2 a3 a4⟩
theorem lsa_target {n : Nat} {v w : fw_V} (hn : 5 * n + 5 ≤ 2560) (hX : xI (2 * n) v) (hM : mI 0 w) (h : lwR n v w) (a1 a2 : Int32) : lwR (n + 1) (xf_FR_target v a1 a2).2 (mf_Mo_target w a1 a2).2 := lw_k h (GB_target a1 a2 h.1).1 (fun _ z => J_target a1 a2 z)
theorem lsb_target {n : Nat} {v w : fw_V} (hn : 5 * n + 5 ≤ 2560) (hX : xI (2 * n) v) (hM : mI 0 w) (h : lwR n v w) (a1 a2 : Int32) : True := trivial
theorem ls_target {n : Nat} {v w : fw_V} (hn : 5 * n + 5 ≤ 2560) (hX : xI (2 * n) v) (hM : mI 0 w) (h : lwR n v w) (a1 a2 : Int32) : lwR (n + 1) (xf_FR_target v a1 a2).2 (mf_Mo_target w a1 a2).2 ∧ True := ⟨lsa_target hn hX hM h a1 a2, lsb_target hn hX hM h a1 a2⟩
theorem lsa_expect {n : Nat} {v w : fw_V} (hn : 5 * n + 5 ≤ 2560) (hX : xI (2 * n) v) (hM : mI 0 w) (h : lwR n v w) (a1 a2 a3 a4 : Int32) : lwR (n + 1) (xf_FR_expect v a1 a2 a3 a4).2 (mf_Mo_expect w a1 a2 a3 a4).2 := lw_k h (GB_expect a1 a2 a3 a4 h.1).1 (fun _ z => J_expect a1 a2 a3 a4 z)
theorem lsb_expect {n : Nat} {v w : fw_V} (hn : 5 * n + 5 ≤ 2560) (hX : xI (2 * n) v) (hM : mI 0 w) (h : lwR n v w) (a1 a2 a3 a4 : Int32) : True := trivial
theorem ls_expect {n : Nat} {v w : fw_V} (hn : 5 * n + 5 ≤ 2560) (hX : xI (2 * n) v) (hM : mI 0 w) (h : lwR n v w) (a1 a2 a3 a4 : Int32) : lwR (n + 1) (xf_FR_expect v a1 a2 a3 a4).2 (mf_Mo_expect w a1 a2 a3 a4).2 ∧ True := ⟨lsa_expect hn hX hM h a1 a2 a3 a4, lsb_expect hn hX hM h a1 a2 a3 a4⟩
theorem lsa_give {n : Nat} {v w : fw_V} (hn : 5 * n + 5 ≤ 2560) (hX : xI (2 * n) v) (hM : mI 0 w) (h : lwR n v w) (a1 a2 a3 a4 : Int32) : lwR (n + 1) (xf_FR_give v a1 a2 a3 a4).2 (mf_Mo_give w a1 a2 a3 a4).2 := lw_k h (GB_give a1 a2 a3 a4 h.1) (fun _ z => J_give a1 a2 a3 a4 z)
theorem lsb_give {n : Nat} {v w : fw_V} (hn : 5 * n + 5 ≤ 2560) (hX : xI (2 * n) v) (hM : mI 0 w) (h : lwR n v w) (a1 a2 a3 a4 : Int32) : True := trivial
theorem ls_give {n : Nat} {v w : fw_V} (hn : 5 * n + 5 ≤ 2560) (hX : xI (2 * n) v) (hM : mI 0 w) (h : lwR n v w) (a1 a2 a3 a4 : Int32) : lwR (n + 1) (xf_FR_give v a1 a2 a3 a4).2 (mf_Mo_give w a1 a2 a3 a4).2 ∧ True := ⟨lsa_give hn hX hM h a1 a2 a3 a4, lsb_give hn hX hM h a1 a2 a3 a4⟩
theorem lsa_open {n : Nat} {v w : fw_V} (hn : 5 * n + 5 ≤ 2560) (hX : xI (2 * n) v) (hM : mI 0 w) (h : lwR n v w) (a1 : Int32) : lwR (n + 1) (xf_FR_open v a1).2 (mf_Mo_open w a1).2 := by
  obtain ⟨l, hl, hj⟩ := h.2
  have g := (GB_open a1 h.1 (by rw [hj.la]; exact vp_in_nI (by omega) (by decide))).1
  rcases J_open a1 h.1 hj (by omega) with z | z
  · exact ⟨GB_mono g (by omega), l, by omega, z⟩
  · exact ⟨GB_mono g (by omega), l + 1, by omega, z⟩
theorem lsb_open {n : Nat} {v w : fw_V} (hn : 5 * n + 5 ≤ 2560) (hX : xI (2 * n) v) (hM : mI 0 w) (h : lwR n v w) (a1 : Int32) : True := trivial
theorem ls_open {n : Nat} {v w : fw_V} (hn : 5 * n + 5 ≤ 2560) (hX : xI (2 * n) v) (hM : mI 0 w) (h : lwR n v w) (a1 : Int32) : lwR (n + 1) (xf_FR_open v a1).2 (mf_Mo_open w a1).2 ∧ True := ⟨lsa_open hn hX hM h a1, lsb_open hn hX hM h a1⟩
theorem lsa_close {n : Nat} {v w : fw_V} (hn : 5 * n + 5 ≤ 2560) (hX : xI (2 * n) v) (hM : mI 0 w) (h : lwR n v w) (a1 : Int32) : lwR (n + 1) (xf_FR_close v a1).2 (mf_Mo_close w a1).2 := lw_k h (GB_close a1 h.1).1 (fun _ z => J_close a1 h.1 z)
theorem lsb_close {n : Nat} {v w : fw_V} (hn : 5 * n + 5 ≤ 2560) (hX : xI (2 * n) v) (hM : mI 0 w) (h : lwR n v w) (a1 : Int32) : True := trivial
theorem ls_close {n : Nat} {v w : fw_V} (hn : 5 * n + 5 ≤ 2560) (hX : xI (2 * n) v) (hM : mI 0 w) (h : lwR n v w) (a1 : Int32) : lwR (n + 1) (xf_FR_close v a1).2 (mf_Mo_close w a1).2 ∧ True := ⟨lsa_close hn hX hM h a1, lsb_close hn hX hM h a1⟩
theorem lsa_deliver {n : Nat} {v w : fw_V} (hn : 5 * n + 5 ≤ 2560) (hX : xI (2 * n) v) (hM : mI 0 w) (h : lwR n v w) (a1 : Int32) : lwR (n + 1) (xf_FR_deliver v a1).2 (mf_Mo_deliver w a1).2 := by
  obtain ⟨l, hl, hj⟩ := h.2
  exact ⟨GB_mono (GB_deliver a1 h.1 (by omega) (fun k => hX.1 6 0 k) (lw_FW hM h)).1 (by omega), l, by omega, GJ_deliver a1 h.1 (by omega) (fun k => hX.1 6 0 k) (lw_FW hM h) hj⟩
theorem lsb_deliver {n : Nat} {v w : fw_V} (hn : 5 * n + 5 ≤ 2560) (hX : xI (2 * n) v) (hM : mI 0 w) (h : lwR n v w) (a1 : Int32) : True := trivial
theorem ls_deliver {n : Nat} {v w : fw_V} (hn : 5 * n + 5 ≤ 2560) (hX : xI (2 * n) v) (hM : mI 0 w) (h : lwR n v w) (a1 : Int32) : lwR (n + 1) (xf_FR_deliver v a1).2 (mf_Mo_deliver w a1).2 ∧ True := ⟨lsa_deliver hn hX hM h a1, lsb_deliver hn hX hM h a1⟩
theorem lsa_lose {n : Nat} {v w : fw_V} (hn : 5 * n + 5 ≤ 2560) (hX : xI (2 * n) v) (hM : mI 0 w) (h : lwR n v w) (a1 : Int32) : lwR (n + 1) (xf_FR_lose v a1).2 (mf_Mo_lose w a1).2 := lw_k h (GB_lose a1 h.1 (fun k => hX.1 6 0 k)).1 (fun _ z => J_lose a1 h.1 z)
theorem lsb_lose {n : Nat} {v w : fw_V} (hn : 5 * n + 5 ≤ 2560) (hX : xI (2 * n) v) (hM : mI 0 w) (h : lwR n v w) (a1 : Int32) : True := trivial
theorem ls_lose {n : Nat} {v w : fw_V} (hn : 5 * n + 5 ≤ 2560) (hX : xI (2 * n) v) (hM : mI 0 w) (h : lwR n v w) (a1 : Int32) : lwR (n + 1) (xf_FR_lose v a1).2 (mf_Mo_lose w a1).2 ∧ True := ⟨lsa_lose hn hX hM h a1, lsb_lose hn hX hM h a1⟩
theorem lsa_repeat {n : Nat} {v w : fw_V} (hn : 5 * n + 5 ≤ 2560) (hX : xI (2 * n) v) (hM : mI 0 w) (h : lwR n v w) (a1 : Int32) : lwR (n + 1) (xf_FR_repeat v a1).2 (mf_Mo_repeat w a1).2 := lw_k h (GB_repeat a1 h.1).1 (fun _ z => J_repeat a1 h.1 z)
theorem lsb_repeat {n : Nat} {v w : fw_V} (hn : 5 * n + 5 ≤ 2560) (hX : xI (2 * n) v) (hM : mI 0 w) (h : lwR n v w) (a1 : Int32) : True := trivial
theorem ls_repeat {n : Nat} {v w : fw_V} (hn : 5 * n + 5 ≤ 2560) (hX : xI (2 * n) v) (hM : mI 0 w) (h : lwR n v w) (a1 : Int32) : lwR (n + 1) (xf_FR_repeat v a1).2 (mf_Mo_repeat w a1).2 ∧ True := ⟨lsa_repeat hn hX hM h a1, lsb_repeat hn hX hM h a1⟩
theorem lsa_tick {n : Nat} {v w : fw_V} (hn : 5 * n + 5 ≤ 2560) (hX : xI (2 * n) v) (hM : mI 0 w) (h : lwR n v w) (a1 : Int32) : lwR (n + 1) (xf_FR_tick v a1).2 (mf_Mo_tick w a1).2 := lw_k h (GB_tick a1 h.1).1 (fun _ z => J_tick a1 h.1 z)
theorem lsb_tick {n : Nat} {v w : fw_V} (hn : 5 * n + 5 ≤ 2560) (hX : xI (2 * n) v) (hM : mI 0 w) (h : lwR n v w) (a1 : Int32) : True := trivial
theorem ls_tick {n : Nat} {v w : fw_V} (hn : 5 * n + 5 ≤ 2560) (hX : xI (2 * n) v) (hM : mI 0 w) (h : lwR n v w) (a1 : Int32) : lwR (n + 1) (xf_FR_tick v a1).2 (mf_Mo_tick w a1).2 ∧ True := ⟨lsa_tick hn hX hM h a1, lsb_tick hn hX hM h a1⟩
theorem lsa_frame {n : Nat} {v w : fw_V} (hn : 5 * n + 5 ≤ 2560) (hX : xI (2 * n) v) (hM : mI 0 w) (h : lwR n v w) (a1 a2 : Int32) : lwR (n + 1) v w := ls_none h
theorem lsb_frame {n : Nat} {v w : fw_V} (hn : 5 * n + 5 ≤ 2560) (hX : xI (2 * n) v) (hM : mI 0 w) (h : lwR n v w) (a1 a2 : Int32) : True := trivial
theorem ls_frame {n : Nat} {v w : fw_V} (hn : 5 * n + 5 ≤ 2560) (hX : xI (2 * n) v) (hM : mI 0 w) (h : lwR n v w) (a1 a2 : Int32) : lwR (n + 1) v w ∧ True := ⟨lsa_frame hn hX hM h a1 a2, lsb_frame hn hX hM h a1 a2⟩
theorem lsa_relation {n : Nat} {v w : fw_V} (hn : 5 * n + 5 ≤ 2560) (hX : xI (2 * n) v) (hM : mI 0 w) (h : lwR n v w) (a1 a2 : Int32) : lwR (n + 1) v w := ls_none h
theorem lsb_relation {n : Nat} {v w : fw_V} (hn : 5 * n + 5 ≤ 2560) (hX : xI (2 * n) v) (hM : mI 0 w) (h : lwR n v w) (a1 a2 : Int32) : True := trivial
theorem ls_relation {n : Nat} {v w : fw_V} (hn : 5 * n + 5 ≤ 2560) (hX : xI (2 * n) v) (hM : mI 0 w) (h : lwR n v w) (a1 a2 : Int32) : lwR (n + 1) v w ∧ True := ⟨lsa_relation hn hX hM h a1 a2, lsb_relation hn hX hM h a1 a2⟩
theorem lsa_device {n : Nat} {v w : fw_V} (hn : 5 * n + 5 ≤ 2560) (hX : xI (2 * n) v) (hM : mI 0 w) (h : lwR n v w) (a1 a2 : Int32) : lwR (n + 1) v w := ls_none h
theorem lsb_device {n : Nat} {v w : fw_V} (hn : 5 * n + 5 ≤ 2560) (hX : xI (2 * n) v) (hM : mI 0 w) (h : lwR n v w) (a1 a2 : Int32) : True := trivial
theorem ls_device {n : Nat} {v w : fw_V} (hn : 5 * n + 5 ≤ 2560) (hX : xI (2 * n) v) (hM : mI 0 w) (h : lwR n v w) (a1 a2 : Int32) : lwR (n + 1) v w ∧ True := ⟨lsa_device hn hX hM h a1 a2, lsb_device hn hX hM h a1 a2⟩
theorem lsa_data {n : Nat} {v w : fw_V} (hn : 5 * n + 5 ≤ 2560) (hX : xI (2 * n) v) (hM : mI 0 w) (h : lwR n v w) (a1 a2 a3 a4 : Int32) : lwR (n + 1) v w := ls_none h
theorem lsb_data {n : Nat} {v w : fw_V} (hn : 5 * n + 5 ≤ 2560) (hX : xI (2 * n) v) (hM : mI 0 w) (h : lwR n v w) (a1 a2 a3 a4 : Int32) : True := trivial
theorem ls_data {n : Nat} {v w : fw_V} (hn : 5 * n + 5 ≤ 2560) (hX : xI (2 * n) v) (hM : mI 0 w) (h : lwR n v w) (a1 a2 a3 a4 : Int32) : lwR (n + 1) v w ∧ True := ⟨lsa_data hn hX hM h a1 a2 a3 a4, lsb_data hn hX hM h a1 a2 a3 a4⟩
theorem lsa_alarms {n : Nat} {v w : fw_V} (hn : 5 * n + 5 ≤ 2560) (hX : xI (2 * n) v) (hM : mI 0 w) (h : lwR n v w) (a1 : Int32) : lwR (n + 1) v w := ls_none h
theorem lsb_alarms {n : Nat} {v w : fw_V} (hn : 5 * n + 5 ≤ 2560) (hX : xI (2 * n) v) (hM : mI 0 w) (h : lwR n v w) (a1 : Int32) : True := trivial
theorem ls_alarms {n : Nat} {v w : fw_V} (hn : 5 * n + 5 ≤ 2560) (hX : xI (2 * n) v) (hM : mI 0 w) (h : lwR n v w) (a1 : Int32) : lwR (n + 1) v w ∧ True := ⟨lsa_alarms hn hX hM h a1, lsb_alarms hn hX hM h a1⟩
theorem lsa_count {n : Nat} {v w : fw_V} (hn : 5 * n + 5 ≤ 2560) (hX : xI (2 * n) v) (hM : mI 0 w) (h : lwR n v w) (a1 : Int32) : lwR (n + 1) v w := ls_none h
theorem lsb_count {n : Nat} {v w : fw_V} (hn : 5 * n + 5 ≤ 2560) (hX : xI (2 * n) v) (hM : mI 0 w) (h : lwR n v w) (a1 : Int32) : xf_FR_count v a1 = mf_Mo_count w a1 := GB_count a1 h.1
theorem ls_count {n : Nat} {v w : fw_V} (hn : 5 * n + 5 ≤ 2560) (hX : xI (2 * n) v) (hM : mI 0 w) (h : lwR n v w) (a1 : Int32) : lwR (n + 1) v w ∧ xf_FR_count v a1 = mf_Mo_count w a1 := ⟨lsa_count hn hX hM h a1, lsb_count hn hX hM h a1⟩

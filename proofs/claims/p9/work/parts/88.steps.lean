def lwR (_ : Nat) (_ _ : fw_V) : Prop := True
theorem lwR_0 : lwR 0 x0 (mf_Mo_init (fun _ _ _ => 0)) := trivial
theorem ls_none {n : Nat} {v w : fw_V} (_ : lwR n v w) : lwR (n + 1) v w := trivial
theorem ls_kind {n : Nat} {v w : fw_V} (hn : 5 * n + 5 ≤ 2560) (_ : xI (2 * n) v) (_ : mI 0 w) (h : lwR n v w) (a1 a2 a3 a4 : Int32) : lwR (n + 1) (xf_FR_kind v a1 a2 a3 a4).2 (mf_Mo_kind w a1 a2 a3 a4).2 ∧ True := ⟨trivial, trivial⟩
theorem ls_name {n : Nat} {v w : fw_V} (hn : 5 * n + 5 ≤ 2560) (_ : xI (2 * n) v) (_ : mI 0 w) (h : lwR n v w) (a1 a2 : Int32) : lwR (n + 1) (xf_FR_name v a1 a2).2 (mf_Mo_name w a1 a2).2 ∧ True := ⟨trivial, trivial⟩
theorem ls_plug {n : Nat} {v w : fw_V} (hn : 5 * n + 5 ≤ 2560) (_ : xI (2 * n) v) (_ : mI 0 w) (h : lwR n v w) (a1 a2 a3 : Int32) : lwR (n + 1) (xf_FR_plug v a1 a2 a3).2 (mf_Mo_plug w a1 a2 a3).2 ∧ True := ⟨trivial, trivial⟩
theorem ls_substitute {n : Nat} {v w : fw_V} (hn : 5 * n + 5 ≤ 2560) (_ : xI (2 * n) v) (_ : mI 0 w) (h : lwR n v w) (a1 a2 a3 : Int32) : lwR (n + 1) (xf_FR_substitute v a1 a2 a3).2 (mf_Mo_substitute w a1 a2 a3).2 ∧ True := ⟨trivial, trivial⟩
theorem ls_sense {n : Nat} {v w : fw_V} (hn : 5 * n + 5 ≤ 2560) (_ : xI (2 * n) v) (_ : mI 0 w) (h : lwR n v w) (a1 a2 a3 a4 : Int32) : lwR (n + 1) (xf_FR_sense v a1 a2 a3 a4).2 (mf_Mo_sense w a1 a2 a3 a4).2 ∧ True := ⟨trivial, trivial⟩
theorem ls_target {n : Nat} {v w : fw_V} (hn : 5 * n + 5 ≤ 2560) (_ : xI (2 * n) v) (_ : mI 0 w) (h : lwR n v w) (a1 a2 : Int32) : lwR (n + 1) (xf_FR_target v a1 a2).2 (mf_Mo_target w a1 a2).2 ∧ True := ⟨trivial, trivial⟩
theorem ls_expect {n : Nat} {v w : fw_V} (hn : 5 * n + 5 ≤ 2560) (_ : xI (2 * n) v) (_ : mI 0 w) (h : lwR n v w) (a1 a2 a3 a4 : Int32) : lwR (n + 1) (xf_FR_expect v a1 a2 a3 a4).2 (mf_Mo_expect w a1 a2 a3 a4).2 ∧ True := ⟨trivial, trivial⟩
theorem ls_give {n : Nat} {v w : fw_V} (hn : 5 * n + 5 ≤ 2560) (_ : xI (2 * n) v) (_ : mI 0 w) (h : lwR n v w) (a1 a2 a3 a4 : Int32) : lwR (n + 1) (xf_FR_give v a1 a2 a3 a4).2 (mf_Mo_give w a1 a2 a3 a4).2 ∧ (xf_FR_give v a1 a2 a3 a4).1 = (mf_Mo_give w a1 a2 a3 a4).1 := ⟨trivial, as_give v w a1 a2 a3 a4⟩
theorem ls_open {n : Nat} {v w : fw_V} (hn : 5 * n + 5 ≤ 2560) (_ : xI (2 * n) v) (_ : mI 0 w) (h : lwR n v w) (a1 : Int32) : lwR (n + 1) (xf_FR_open v a1).2 (mf_Mo_open w a1).2 ∧ True := ⟨trivial, trivial⟩
theorem ls_close {n : Nat} {v w : fw_V} (hn : 5 * n + 5 ≤ 2560) (_ : xI (2 * n) v) (_ : mI 0 w) (h : lwR n v w) (a1 : Int32) : lwR (n + 1) (xf_FR_close v a1).2 (mf_Mo_close w a1).2 ∧ True := ⟨trivial, trivial⟩
theorem ls_deliver {n : Nat} {v w : fw_V} (hn : 5 * n + 5 ≤ 2560) (_ : xI (2 * n) v) (_ : mI 0 w) (h : lwR n v w) (a1 : Int32) : lwR (n + 1) (xf_FR_deliver v a1).2 (mf_Mo_deliver w a1).2 ∧ True := ⟨trivial, trivial⟩
theorem ls_lose {n : Nat} {v w : fw_V} (hn : 5 * n + 5 ≤ 2560) (_ : xI (2 * n) v) (_ : mI 0 w) (h : lwR n v w) (a1 : Int32) : lwR (n + 1) (xf_FR_lose v a1).2 (mf_Mo_lose w a1).2 ∧ True := ⟨trivial, trivial⟩
theorem ls_repeat {n : Nat} {v w : fw_V} (hn : 5 * n + 5 ≤ 2560) (_ : xI (2 * n) v) (_ : mI 0 w) (h : lwR n v w) (a1 : Int32) : lwR (n + 1) (xf_FR_repeat v a1).2 (mf_Mo_repeat w a1).2 ∧ True := ⟨trivial, trivial⟩
theorem ls_tick {n : Nat} {v w : fw_V} (hn : 5 * n + 5 ≤ 2560) (_ : xI (2 * n) v) (_ : mI 0 w) (h : lwR n v w) (a1 : Int32) : lwR (n + 1) (xf_FR_tick v a1).2 (mf_Mo_tick w a1).2 ∧ True := ⟨trivial, trivial⟩
theorem ls_frame {n : Nat} {v w : fw_V} (hn : 5 * n + 5 ≤ 2560) (_ : xI (2 * n) v) (_ : mI 0 w) (h : lwR n v w) (a1 a2 : Int32) : lwR (n + 1) v w ∧ True := ⟨trivial, trivial⟩
theorem ls_relation {n : Nat} {v w : fw_V} (hn : 5 * n + 5 ≤ 2560) (_ : xI (2 * n) v) (_ : mI 0 w) (h : lwR n v w) (a1 a2 : Int32) : lwR (n + 1) v w ∧ True := ⟨trivial, trivial⟩
theorem ls_device {n : Nat} {v w : fw_V} (hn : 5 * n + 5 ≤ 2560) (_ : xI (2 * n) v) (_ : mI 0 w) (h : lwR n v w) (a1 a2 : Int32) : lwR (n + 1) v w ∧ True := ⟨trivial, trivial⟩
theorem ls_data {n : Nat} {v w : fw_V} (hn : 5 * n + 5 ≤ 2560) (_ : xI (2 * n) v) (_ : mI 0 w) (h : lwR n v w) (a1 a2 a3 a4 : Int32) : lwR (n + 1) v w ∧ True := ⟨trivial, trivial⟩
theorem ls_alarms {n : Nat} {v w : fw_V} (hn : 5 * n + 5 ≤ 2560) (_ : xI (2 * n) v) (_ : mI 0 w) (h : lwR n v w) (a1 : Int32) : lwR (n + 1) v w ∧ True := ⟨trivial, trivial⟩
theorem ls_count {n : Nat} {v w : fw_V} (hn : 5 * n + 5 ≤ 2560) (_ : xI (2 * n) v) (_ : mI 0 w) (h : lwR n v w) (a1 : Int32) : lwR (n + 1) v w ∧ True := ⟨trivial, trivial⟩

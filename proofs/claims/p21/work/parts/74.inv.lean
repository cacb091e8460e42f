/-- every frame on the wire keeps to P: type, session, number, row -/
def FRS (P : Int32 → Int32 → Int32 → (Nat → Int32) → Prop) (w : fw_V) : Prop := vp_in (w 0 0 10) 17 ∧ ∀ k, k < (w 0 0 10).toNatClampNeg → P (w 4 0 k) (w 5 0 k) (w 6 0 k) (fun t => if t < 7 then w 8 0 (7 * k + t) else 0)
def R9 (w : fw_V) : Nat → Int32 := fun t => if t < 7 then w 9 0 t else 0
theorem FRS_cg {P : Int32 → Int32 → Int32 → (Nat → Int32) → Prop} {w w' : fw_V} (h : FRS P w) (h0 : w' 0 0 10 = w 0 0 10) (hw : ∀ c k, 4 ≤ c → c ≤ 8 → w' c 0 k = w c 0 k) : FRS P w' := by
  unfold FRS at h ⊢
  rw [h0]
  refine ⟨h.1, fun k hk => ?_⟩
  have := h.2 k hk
  rw [hw 4 k (by decide) (by decide), hw 5 k (by decide) (by decide), hw 6 k (by decide) (by decide)]
  simp only [hw 8 _ (by decide) (by decide)]
  exact this
theorem FRS_im {P Q : Int32 → Int32 → Int32 → (Nat → Int32) → Prop} {w : fw_V} (h : FRS P w) (hi : ∀ a b c d, P a b c d → Q a b c d) : FRS Q w := ⟨h.1, fun k hk => hi _ _ _ _ (h.2 k hk)⟩
theorem FRS_send {P : Int32 → Int32 → Int32 → (Nat → Int32) → Prop} {w : fw_V} {a b c d : Int32} (h : FRS P w) (hp : P a b c (R9 w)) : FRS P (mf_Mo_send w a b c d) := by
  obtain ⟨n, hn, en⟩ := vp_in_of h.1 (by decide)
  have hs := h.2
  rw [en, nI_clamp (by omega)] at hs
  by_cases h16 : n = 16
  · subst h16
    rw [msend_full en]
    refine FRS_cg h ?_ (fun c k q1 q2 => ?_)
    · rw [mclear_c (by decide), fw_up_k (by decide), fw_up_k (by decide)]
    · rw [mclear_c (by omega), fw_up_c (by omega), fw_up_c (by omega)]
  · obtain ⟨m0, -, -, m4, m5, m6, -, m8, m8'⟩ := msend_room (a := a) (b := b) (c := c) (d := d) (show n < 16 by omega) en
    refine ⟨by rw [m0]; exact vp_in_nI (by omega) (by decide), fun k hk => ?_⟩
    rw [m0, nI_clamp (by omega)] at hk
    rw [m4, m5, m6]
    by_cases z : k = n
    · subst z
      rw [if_pos rfl, if_pos rfl, if_pos rfl]
      have er : (fun t => if t < 7 then mf_Mo_send w a b c d 8 0 (7 * k + t) else 0) = R9 w := by
        funext t
        unfold R9
        by_cases ht : t < 7
        · rw [if_pos ht, if_pos ht]; exact m8 t ht
        · rw [if_neg ht, if_neg ht]
      rw [er]; exact hp
    · rw [if_neg z, if_neg z, if_neg z]
      have er : (fun t => if t < 7 then mf_Mo_send w a b c d 8 0 (7 * k + t) else 0) = (fun t => if t < 7 then w 8 0 (7 * k + t) else 0) := by
        funext t
        by_cases ht : t < 7
        · rw [if_pos ht, if_pos ht]; exact m8' k t z ht
        · rw [if_neg ht, if_neg ht]
      rw [er]; exact hs k (by omega)
theorem FRS_rem {P : Int32 → Int32 → Int32 → (Nat → Int32) → Prop} {w : fw_V} {n k : Nat} (h : FRS P w) (en : w 0 0 10 = nI n) (hn : n ≤ 16) (hk : k < n) : FRS P (mf_Mo_remove w (nI k)) := by
  obtain ⟨q0, q1, q2, q3⟩ := mrem_ex (w := w) (k := k) (n := n) hk hn en
  have hs := h.2
  rw [en, nI_clamp (by omega)] at hs
  refine ⟨by rw [q0]; exact vp_in_nI (by omega) (by decide), fun j hj => ?_⟩
  rw [q0, nI_clamp (by omega)] at hj
  rw [q2 4 j (by decide) hj, q2 5 j (by decide) hj, q2 6 j (by decide) hj]
  have er : (fun t => if t < 7 then mf_Mo_remove w (nI k) 8 0 (7 * j + t) else 0) = (fun t => if t < 7 then w 8 0 (7 * (if j < k then j else j + 1) + t) else 0) := by
    funext t
    by_cases ht : t < 7
    · rw [if_pos ht, if_pos ht]; exact q3 j t hj ht
    · rw [if_neg ht, if_neg ht]
  rw [er]
  exact hs _ (by split <;> omega)
/-- bounds that always hold -/
def AI (w : fw_V) : Prop := ∀ k, vp_in (w 21 0 k) 256 ∧ vp_in (w 34 0 k) 256 ∧ vp_in (w 25 0 k) 256
theorem AI_cg {w w' : fw_V} (h : AI w) (hw : ∀ c k, c = 21 ∨ c = 34 ∨ c = 25 → w' c 0 k = w c 0 k) : AI w' := fun k => by
  rw [hw 21 k (by decide), hw 34 k (by decide), hw 25 k (by decide)]; exact h k
theorem AI_up {w : fw_V} {c k : Nat} {x : Int32} (h : AI w) (hx : c = 21 ∨ c = 34 ∨ c = 25 → vp_in x 256) : AI (fw_up w c 0 k x) := fun k' => by
  have key : ∀ c', (c' = 21 ∨ c' = 34 ∨ c' = 25) → vp_in (w c' 0 k') 256 → vp_in (fw_up w c 0 k x c' 0 k') 256 := fun c' hc' hb => by
    by_cases z : c' = c ∧ 0 = 0 ∧ k' = k
    · obtain ⟨rfl, -, rfl⟩ := z
      rw [fw_up_s]; exact hx hc'
    · rw [fw_up_ne z]; exact hb
  exact ⟨key 21 (by decide) (h k').1, key 34 (by decide) (h k').2.1, key 25 (by decide) (h k').2.2⟩
/-- RELATION r may send: with session S, expecting E -/
def Pr (P : Int32 → Int32 → Int32 → (Nat → Int32) → Prop) (S : Int32) (E : Nat → Int32) : Prop := (∀ t c d, (t = 8 ∨ t = 11 ∨ t = 15 ∨ t = 16) → P t S c d) ∧ (∀ c d, P 1 0 c d) ∧ (∀ c d, (∀ s, s < 3 → d s = E s + 1) → P 3 S c d) ∧ (∀ c d, ¬ d 0 < 0 → P 6 S c d) ∧ (∀ c d, vp_in c 256 → P 12 S c d)

def Sq_0 (P : Int32 → Int32 → Int32 → (Nat → Int32) → Prop) (S : Int32) (E : Nat → Int32) (w : fw_V) : Prop := (FRS P w) ∧ (At w) ∧ (AI w) ∧ (∀ s, s < 3 → w 24 0 (0 + s) = E s) ∧ (w 13 0 0 = S)
theorem Sq_0.fr {P : Int32 → Int32 → Int32 → (Nat → Int32) → Prop} {S : Int32} {E : Nat → Int32} {w : fw_V} (h : Sq_0 P S E w) : FRS P w := h.1
theorem Sq_0.at {P : Int32 → Int32 → Int32 → (Nat → Int32) → Prop} {S : Int32} {E : Nat → Int32} {w : fw_V} (h : Sq_0 P S E w) : At w := h.2.1
theorem Sq_0.ai {P : Int32 → Int32 → Int32 → (Nat → Int32) → Prop} {S : Int32} {E : Nat → Int32} {w : fw_V} (h : Sq_0 P S E w) : AI w := h.2.2.1
theorem Sq_0.ex {P : Int32 → Int32 → Int32 → (Nat → Int32) → Prop} {S : Int32} {E : Nat → Int32} {w : fw_V} (h : Sq_0 P S E w) : ∀ s, s < 3 → w 24 0 (0 + s) = E s := h.2.2.2.1
theorem Sq_0.se {P : Int32 → Int32 → Int32 → (Nat → Int32) → Prop} {S : Int32} {E : Nat → Int32} {w : fw_V} (h : Sq_0 P S E w) : w 13 0 0 = S := h.2.2.2.2
def Sz_0 (P : Int32 → Int32 → Int32 → (Nat → Int32) → Prop) (S : Int32) (w : fw_V) : Prop := (FRS P w) ∧ (AI w) ∧ (w 12 0 0 ≠ 0 → w 13 0 0 = S)
theorem Sz_0.fr {P : Int32 → Int32 → Int32 → (Nat → Int32) → Prop} {S : Int32} {w : fw_V} (h : Sz_0 P S w) : FRS P w := h.1
theorem Sz_0.ai {P : Int32 → Int32 → Int32 → (Nat → Int32) → Prop} {S : Int32} {w : fw_V} (h : Sz_0 P S w) : AI w := h.2.1
theorem Sz_0.op {P : Int32 → Int32 → Int32 → (Nat → Int32) → Prop} {S : Int32} {w : fw_V} (h : Sz_0 P S w) : w 12 0 0 ≠ 0 → w 13 0 0 = S := h.2.2
theorem Sq_z_0 {P : Int32 → Int32 → Int32 → (Nat → Int32) → Prop} {S : Int32} {E : Nat → Int32} {w : fw_V} (h : Sq_0 P S E w) : Sz_0 P S w := ⟨h.fr, h.ai, fun _ => h.se⟩
theorem Sq_up_0 {P : Int32 → Int32 → Int32 → (Nat → Int32) → Prop} {S : Int32} {E : Nat → Int32} {w : fw_V} {c k : Nat} {x : Int32} (h : Sq_0 P S E w) (hc : c ≠ 0 ∧ c ≠ 4 ∧ c ≠ 5 ∧ c ≠ 6 ∧ c ≠ 7 ∧ c ≠ 8 ∧ c ≠ 9 ∧ c ≠ 13 ∧ c ≠ 24 ∧ c ≠ 25 ∧ c ≠ 34) (hx : c = 21 → vp_in x 256) : Sq_0 P S E (fw_up w c 0 k x) := by
  refine ⟨FRS_cg h.fr (fw_up_c (by omega)) (fun c k q1 q2 => fw_up_c (by omega)), fun t ht => ?_, AI_up h.ai (fun q => hx (by omega)), fun s hs => ?_, ?_⟩
  · rw [fw_up_c (by omega)]; exact h.at t ht
  · rw [fw_up_c (by omega)]; exact h.ex s hs
  · rw [fw_up_c (by omega)]; exact h.se
theorem Sq_u9_0 {P : Int32 → Int32 → Int32 → (Nat → Int32) → Prop} {S : Int32} {E : Nat → Int32} {w w' : fw_V} {a b c d : Int32} (h : Sq_0 P S E w) (h9 : ∀ c k, c ≠ 9 → w' c 0 k = w c 0 k) (hp : P a b c (R9 w')) : Sq_0 P S E (mf_Mo_send w' a b c d) := by
  have ms : ∀ c' k, 10 ≤ c' → mf_Mo_send w' a b c d c' 0 k = w c' 0 k := fun c' k q => by rw [msend_c (by omega) (by omega) (by omega) (by omega) (by omega) (by omega) (by omega)]; exact h9 c' k (by omega)
  refine ⟨FRS_send (FRS_cg h.fr (h9 0 10 (by decide)) (fun c k q1 q2 => h9 c k (by omega))) hp, At_send, AI_cg h.ai (fun c k hc => ms c k (by omega)), fun s hs => ?_, ?_⟩
  · rw [ms 24 _ (by decide)]; exact h.ex s hs
  · rw [ms 13 _ (by decide)]; exact h.se
theorem Sq_sd_0 {P : Int32 → Int32 → Int32 → (Nat → Int32) → Prop} {S : Int32} {E : Nat → Int32} {w : fw_V} {a c d : Int32} (h : Sq_0 P S E w) (hP : Pr P S E) (ha : a = 8 ∨ a = 11 ∨ a = 15 ∨ a = 16) : Sq_0 P S E (mf_Mo_send w a (w 13 0 0) c d) := by
  rw [h.se]
  exact Sq_u9_0 h (fun _ _ _ => rfl) (hP.1 a c _ ha)
theorem Sq_enter_0 {P : Int32 → Int32 → Int32 → (Nat → Int32) → Prop} {S : Int32} {E : Nat → Int32} {w : fw_V} {x : Int32} (h : Sq_0 P S E w) : Sq_0 P S E (mf_Mo_enter_0 w x) := by
  unfold mf_Mo_enter_0
  exact Sq_up_0 (Sq_up_0 (Sq_up_0 h (by decide) (fun q => absurd q (by decide))) (by decide) (fun q => absurd q (by decide))) (by decide) (fun q => absurd q (by decide))
theorem Sq_ask_0 {P : Int32 → Int32 → Int32 → (Nat → Int32) → Prop} {S : Int32} {E : Nat → Int32} {w : fw_V} (h : Sq_0 P S E w) (hP : Pr P S E) : Sq_0 P S E (mf_Mo_ask_0 w) := by
  have h1 : Sq_0 P S E (fw_up w 18 0 0 0) := Sq_up_0 h (by decide) (fun q => absurd q (by decide))
  obtain ⟨w1, e1⟩ : ∃ w1, w1 = fw_up w 18 0 0 0 := ⟨_, rfl⟩
  unfold mf_Mo_ask_0
  (try dsimp only)
  rw [← e1] at h1 ⊢
  split
  · exact Sq_u9_0 h1 (fun _ _ _ => rfl) (hP.2.1 _ _)
  · split
    · have w9 : ∀ c k, c ≠ 9 → fw_up (fw_up (fw_up w1 9 0 0 (w1 24 0 0 + 1)) 9 0 1 (fw_up w1 9 0 0 (w1 24 0 0 + 1) 24 0 1 + 1)) 9 0 2 (fw_up (fw_up w1 9 0 0 (w1 24 0 0 + 1)) 9 0 1 (fw_up w1 9 0 0 (w1 24 0 0 + 1) 24 0 1 + 1) 24 0 2 + 1) c 0 k = w1 c 0 k := fun c k hc => by rw [fw_up_c hc, fw_up_c hc, fw_up_c hc]
      rw [w9 13 _ (by decide), h1.se]
      refine Sq_u9_0 h1 w9 (hP.2.2.1 _ _ (fun s hs => ?_))
      unfold R9
      rw [if_pos (by omega), fw_up_c (show (24 : Nat) ≠ 9 by decide), fw_up_c (show (24 : Nat) ≠ 9 by decide), fw_up_c (show (24 : Nat) ≠ 9 by decide)]
      rcases (show s = 0 ∨ s = 1 ∨ s = 2 by omega) with rfl | rfl | rfl
      · simp [fw_up]; exact h1.ex 0 (by decide)
      · simp [fw_up]; exact h1.ex 1 (by decide)
      · simp [fw_up]; exact h1.ex 2 (by decide)
    · split
      · rw [fw_up_c (show (13 : Nat) ≠ 9 by decide), h1.se]
        refine Sq_u9_0 h1 (fun c k hc => fw_up_c hc) (hP.2.2.2.1 _ _ ?_)
        unfold R9
        rw [if_pos (by decide), fw_up_s]
        obtain ⟨z, hz, ez⟩ := vp_in_of (h1.ai _).2.2 (by decide)
        rw [ez]
        intro q
        have := (nI_ltI (a := z) (b := 0) (by omega) (by omega)).mp q
        omega
      · exact Sq_sd_0 h1 hP (by decide)

def Sq_1 (P : Int32 → Int32 → Int32 → (Nat → Int32) → Prop) (S : Int32) (E : Nat → Int32) (w : fw_V) : Prop := (FRS P w) ∧ (At w) ∧ (AI w) ∧ (∀ s, s < 3 → w 24 0 (3 + s) = E s) ∧ (w 13 0 1 = S)
theorem Sq_1.fr {P : Int32 → Int32 → Int32 → (Nat → Int32) → Prop} {S : Int32} {E : Nat → Int32} {w : fw_V} (h : Sq_1 P S E w) : FRS P w := h.1
theorem Sq_1.at {P : Int32 → Int32 → Int32 → (Nat → Int32) → Prop} {S : Int32} {E : Nat → Int32} {w : fw_V} (h : Sq_1 P S E w) : At w := h.2.1
theorem Sq_1.ai {P : Int32 → Int32 → Int32 → (Nat → Int32) → Prop} {S : Int32} {E : Nat → Int32} {w : fw_V} (h : Sq_1 P S E w) : AI w := h.2.2.1
theorem Sq_1.ex {P : Int32 → Int32 → Int32 → (Nat → Int32) → Prop} {S : Int32} {E : Nat → Int32} {w : fw_V} (h : Sq_1 P S E w) : ∀ s, s < 3 → w 24 0 (3 + s) = E s := h.2.2.2.1
theorem Sq_1.se {P : Int32 → Int32 → Int32 → (Nat → Int32) → Prop} {S : Int32} {E : Nat → Int32} {w : fw_V} (h : Sq_1 P S E w) : w 13 0 1 = S := h.2.2.2.2
def Sz_1 (P : Int32 → Int32 → Int32 → (Nat → Int32) → Prop) (S : Int32) (w : fw_V) : Prop := (FRS P w) ∧ (AI w) ∧ (w 12 0 1 ≠ 0 → w 13 0 1 = S)
theorem Sz_1.fr {P : Int32 → Int32 → Int32 → (Nat → Int32) → Prop} {S : Int32} {w : fw_V} (h : Sz_1 P S w) : FRS P w := h.1
theorem Sz_1.ai {P : Int32 → Int32 → Int32 → (Nat → Int32) → Prop} {S : Int32} {w : fw_V} (h : Sz_1 P S w) : AI w := h.2.1
theorem Sz_1.op {P : Int32 → Int32 → Int32 → (Nat → Int32) → Prop} {S : Int32} {w : fw_V} (h : Sz_1 P S w) : w 12 0 1 ≠ 0 → w 13 0 1 = S := h.2.2
theorem Sq_z_1 {P : Int32 → Int32 → Int32 → (Nat → Int32) → Prop} {S : Int32} {E : Nat → Int32} {w : fw_V} (h : Sq_1 P S E w) : Sz_1 P S w := ⟨h.fr, h.ai, fun _ => h.se⟩
theorem Sq_up_1 {P : Int32 → Int32 → Int32 → (Nat → Int32) → Prop} {S : Int32} {E : Nat → Int32} {w : fw_V} {c k : Nat} {x : Int32} (h : Sq_1 P S E w) (hc : c ≠ 0 ∧ c ≠ 4 ∧ c ≠ 5 ∧ c ≠ 6 ∧ c ≠ 7 ∧ c ≠ 8 ∧ c ≠ 9 ∧ c ≠ 13 ∧ c ≠ 24 ∧ c ≠ 25 ∧ c ≠ 34) (hx : c = 21 → vp_in x 256) : Sq_1 P S E (fw_up w c 0 k x) := by
  refine ⟨FRS_cg h.fr (fw_up_c (by omega)) (fun c k q1 q2 => fw_up_c (by omega)), fun t ht => ?_, AI_up h.ai (fun q => hx (by omega)), fun s hs => ?_, ?_⟩
  · rw [fw_up_c (by omega)]; exact h.at t ht
  · rw [fw_up_c (by omega)]; exact h.ex s hs
  · rw [fw_up_c (by omega)]; exact h.se
theorem Sq_u9_1 {P : Int32 → Int32 → Int32 → (Nat → Int32) → Prop} {S : Int32} {E : Nat → Int32} {w w' : fw_V} {a b c d : Int32} (h : Sq_1 P S E w) (h9 : ∀ c k, c ≠ 9 → w' c 0 k = w c 0 k) (hp : P a b c (R9 w')) : Sq_1 P S E (mf_Mo_send w' a b c d) := by
  have ms : ∀ c' k, 10 ≤ c' → mf_Mo_send w' a b c d c' 0 k = w c' 0 k := fun c' k q => by rw [msend_c (by omega) (by omega) (by omega) (by omega) (by omega) (by omega) (by omega)]; exact h9 c' k (by omega)
  refine ⟨FRS_send (FRS_cg h.fr (h9 0 10 (by decide)) (fun c k q1 q2 => h9 c k (by omega))) hp, At_send, AI_cg h.ai (fun c k hc => ms c k (by omega)), fun s hs => ?_, ?_⟩
  · rw [ms 24 _ (by decide)]; exact h.ex s hs
  · rw [ms 13 _ (by decide)]; exact h.se
theorem Sq_sd_1 {P : Int32 → Int32 → Int32 → (Nat → Int32) → Prop} {S : Int32} {E : Nat → Int32} {w : fw_V} {a c d : Int32} (h : Sq_1 P S E w) (hP : Pr P S E) (ha : a = 8 ∨ a = 11 ∨ a = 15 ∨ a = 16) : Sq_1 P S E (mf_Mo_send w a (w 13 0 1) c d) := by
  rw [h.se]
  exact Sq_u9_1 h (fun _ _ _ => rfl) (hP.1 a c _ ha)
theorem Sq_enter_1 {P : Int32 → Int32 → Int32 → (Nat → Int32) → Prop} {S : Int32} {E : Nat → Int32} {w : fw_V} {x : Int32} (h : Sq_1 P S E w) : Sq_1 P S E (mf_Mo_enter_1 w x) := by
  unfold mf_Mo_enter_1
  exact Sq_up_1 (Sq_up_1 (Sq_up_1 h (by decide) (fun q => absurd q (by decide))) (by decide) (fun q => absurd q (by decide))) (by decide) (fun q => absurd q (by decide))
theorem Sq_ask_1 {P : Int32 → Int32 → Int32 → (Nat → Int32) → Prop} {S : Int32} {E : Nat → Int32} {w : fw_V} (h : Sq_1 P S E w) (hP : Pr P S E) : Sq_1 P S E (mf_Mo_ask_1 w) := by
  have h1 : Sq_1 P S E (fw_up w 18 0 1 0) := Sq_up_1 h (by decide) (fun q => absurd q (by decide))
  obtain ⟨w1, e1⟩ : ∃ w1, w1 = fw_up w 18 0 1 0 := ⟨_, rfl⟩
  unfold mf_Mo_ask_1
  (try dsimp only)
  rw [← e1] at h1 ⊢
  split
  · exact Sq_u9_1 h1 (fun _ _ _ => rfl) (hP.2.1 _ _)
  · split
    · have w9 : ∀ c k, c ≠ 9 → fw_up (fw_up (fw_up w1 9 0 0 (w1 24 0 3 + 1)) 9 0 1 (fw_up w1 9 0 0 (w1 24 0 3 + 1) 24 0 4 + 1)) 9 0 2 (fw_up (fw_up w1 9 0 0 (w1 24 0 3 + 1)) 9 0 1 (fw_up w1 9 0 0 (w1 24 0 3 + 1) 24 0 4 + 1) 24 0 5 + 1) c 0 k = w1 c 0 k := fun c k hc => by rw [fw_up_c hc, fw_up_c hc, fw_up_c hc]
      rw [w9 13 _ (by decide), h1.se]
      refine Sq_u9_1 h1 w9 (hP.2.2.1 _ _ (fun s hs => ?_))
      unfold R9
      rw [if_pos (by omega), fw_up_c (show (24 : Nat) ≠ 9 by decide), fw_up_c (show (24 : Nat) ≠ 9 by decide), fw_up_c (show (24 : Nat) ≠ 9 by decide)]
      rcases (show s = 0 ∨ s = 1 ∨ s = 2 by omega) with rfl | rfl | rfl
      · simp [fw_up]; exact h1.ex 0 (by decide)
      · simp [fw_up]; exact h1.ex 1 (by decide)
      · simp [fw_up]; exact h1.ex 2 (by decide)
    · split
      · rw [fw_up_c (show (13 : Nat) ≠ 9 by decide), h1.se]
        refine Sq_u9_1 h1 (fun c k hc => fw_up_c hc) (hP.2.2.2.1 _ _ ?_)
        unfold R9
        rw [if_pos (by decide), fw_up_s]
        obtain ⟨z, hz, ez⟩ := vp_in_of (h1.ai _).2.2 (by decide)
        rw [ez]
        intro q
        have := (nI_ltI (a := z) (b := 0) (by omega) (by omega)).mp q
        omega
      · exact Sq_sd_1 h1 hP (by decide)

theorem Sq_u0_0 {P : Int32 → Int32 → Int32 → (Nat → Int32) → Prop} {S : Int32} {E : Nat → Int32} {w : fw_V} {k : Nat} {x : Int32} (h : Sq_0 P S E w) (hk : k ≠ 10) : Sq_0 P S E (fw_up w 0 0 k x) := by
  refine ⟨FRS_cg h.fr (fw_up_k (Ne.symm hk)) (fun c k q1 q2 => fw_up_c (by omega)), fun t ht => ?_, AI_up h.ai (fun q => absurd q (by decide)), fun s hs => ?_, ?_⟩
  · rw [fw_up_c (by decide)]; exact h.at t ht
  · rw [fw_up_c (by decide)]; exact h.ex s hs
  · rw [fw_up_c (by decide)]; exact h.se
theorem Sz_shut_0 {P : Int32 → Int32 → Int32 → (Nat → Int32) → Prop} {S : Int32} {E : Nat → Int32} {w : fw_V} (h : Sq_0 P S E w) : Sz_0 P S (mf_Mo_shut_0 w) := by
  unfold mf_Mo_shut_0 mf_Mo_enter_0
  refine ⟨FRS_cg h.fr (by simp [fw_up]) (fun c k q1 q2 => ?_), AI_cg h.ai (fun c k hc => ?_), fun q => absurd (by simp [fw_up]) q⟩
  · rw [fw_up_c (by omega), fw_up_c (by omega), fw_up_c (by omega), fw_up_c (by omega), fw_up_c (by omega), fw_up_c (by omega), fw_up_c (by omega), fw_up_c (by omega), fw_up_c (by omega), fw_up_c (by omega), fw_up_c (by omega), fw_up_c (by omega), fw_up_c (by omega)]
  · rw [fw_up_c (by omega), fw_up_c (by omega), fw_up_c (by omega), fw_up_c (by omega), fw_up_c (by omega), fw_up_c (by omega), fw_up_c (by omega), fw_up_c (by omega), fw_up_c (by omega), fw_up_c (by omega), fw_up_c (by omega), fw_up_c (by omega), fw_up_c (by omega)]
theorem Sz_break_0 {P : Int32 → Int32 → Int32 → (Nat → Int32) → Prop} {S : Int32} {E : Nat → Int32} {w : fw_V} (h : Sq_0 P S E w) (hP : Pr P S E) : Sz_0 P S (mf_Mo_breakOff_0 w) := by
  unfold mf_Mo_breakOff_0
  (try dsimp only)
  split
  · exact Sz_shut_0 h
  · exact Sz_shut_0 (Sq_sd_0 h hP (by decide))
theorem Sq_write_0 {P : Int32 → Int32 → Int32 → (Nat → Int32) → Prop} {S : Int32} {E : Nat → Int32} (hP : Pr P S E) {a : Int32} : ∀ (n : Nat) (w : fw_V) (x : Int32), Sq_0 P S E w → Sq_0 P S E (mf_Mo_write_0_j1 n w a x) := by
  intro n
  induction n with
  | zero => intro w x h; exact h
  | succ n ih =>
    intro w x h
    have fin : ∀ z y, Sq_0 P S E (mf_Mo_ask_0 (fw_up (mf_Mo_enter_0 w z) 20 0 0 y)) := fun z y => Sq_ask_0 (Sq_up_0 (Sq_enter_0 h) (by decide) (fun q => absurd q (by decide))) hP
    unfold mf_Mo_write_0_j1 mf_Mo_write_0_j2 mf_Mo_write_0_j3
    (try dsimp only)
    (repeat' split) <;> (first | with_reducible exact fin _ _ | with_reducible exact ih _ _ h)
theorem Sq_tell_0 {P : Int32 → Int32 → Int32 → (Nat → Int32) → Prop} {S : Int32} {E : Nat → Int32} {w : fw_V} {a : Int32} (h : Sq_0 P S E w) : Sq_0 P S E (mf_Mo_tell_0 w a) := by
  have u : ∀ {w : fw_V} {c k : Nat} {x : Int32}, Sq_0 P S E w → (c = 16 ∨ c = 23 ∨ c = 49) → Sq_0 P S E (fw_up w c 0 k x) := fun h hc => Sq_up_0 h (by omega) (fun q => by omega)
  have j2 : ∀ {w : fw_V} {a b c d : Int32}, Sq_0 P S E w → Sq_0 P S E (mf_Mo_tell_0_j2 w a b c d) := fun h => by
    unfold mf_Mo_tell_0_j2
    (try dsimp only)
    exact Sq_u0_0 (u (u (u (u (u (u (u (u (u h (by decide)) (by decide)) (by decide)) (by decide)) (by decide)) (by decide)) (by decide)) (by decide)) (by decide)) (by decide)
  unfold mf_Mo_tell_0 mf_Mo_tell_0_j1
  (try dsimp only)
  (repeat' split) <;> with_reducible exact j2 (u h (by decide))
/-- a RELATION has heard something -/
theorem Sz_h6_0 {P : Int32 → Int32 → Int32 → (Nat → Int32) → Prop} {S : Int32} {E : Nat → Int32} {w : fw_V} {a n : Int32} (h : Sq_0 P S E w) (hP : Pr P S E) : Sz_0 P S (mf_Mo_hears_0_j6 w a n) := by
  unfold mf_Mo_hears_0_j6
  (try dsimp only)
  have s := Sq_sd_0 (a := 15) (c := n) (d := w 15 0 0) h hP (by decide)
  obtain ⟨ws, es⟩ : ∃ ws, ws = mf_Mo_send w 15 (w 13 0 0) n (w 15 0 0) := ⟨_, rfl⟩
  rw [← es] at s ⊢
  by_cases h14 : a = 14
  · rw [if_pos h14]
    by_cases h6 : w 12 0 0 = 6
    · rw [if_pos h6]
      by_cases h23 : n = ws 23 0 0
      · rw [if_pos h23]; exact Sq_z_0 s
      · rw [if_neg h23]; exact Sq_z_0 (Sq_tell_0 s)
    · rw [if_neg h6]; exact Sq_z_0 s
  · rw [if_neg h14]
    by_cases h16 : a = 16
    · rw [if_pos h16]; exact Sz_shut_0 h
    · rw [if_neg h16]; exact Sq_z_0 h
theorem Sz_h5_0 {P : Int32 → Int32 → Int32 → (Nat → Int32) → Prop} {S : Int32} {E : Nat → Int32} {w : fw_V} {a n : Int32} (h : Sq_0 P S E w) (hP : Pr P S E) : Sz_0 P S (mf_Mo_hears_0_j5 w a n) := by
  have u : ∀ {w : fw_V} {c k : Nat} {x : Int32}, Sq_0 P S E w → (c = 16 ∨ c = 17 ∨ c = 18 ∨ c = 22 ∨ c = 27) → Sq_0 P S E (fw_up w c 0 k x) := fun h hc => Sq_up_0 h (by omega) (fun q => by omega)
  unfold mf_Mo_hears_0_j5
  (try dsimp only)
  by_cases h13 : a = 13
  · rw [if_pos h13]
    by_cases h6 : w 12 0 0 = 6
    · rw [if_pos h6]
      by_cases hn : mf_Mo_isNewer n (w 22 0 0) = 0
      · rw [if_pos hn]; exact Sz_h6_0 h hP
      · rw [if_neg hn]
        exact Sq_z_0 (u (u (u (u (u (u (u (u (u h (by decide)) (by decide)) (by decide)) (by decide)) (by decide)) (by decide)) (by decide)) (by decide)) (by decide))
    · rw [if_neg h6]; exact Sz_h6_0 h hP
  · rw [if_neg h13]; exact Sz_h6_0 h hP
theorem Sz_h4_0 {P : Int32 → Int32 → Int32 → (Nat → Int32) → Prop} {S : Int32} {E : Nat → Int32} {w : fw_V} {a n : Int32} (h : Sq_0 P S E w) (hP : Pr P S E) : Sz_0 P S (mf_Mo_hears_0_j4 w a n) := by
  have u : ∀ {w : fw_V} {c k : Nat} {x : Int32}, Sq_0 P S E w → (c = 16 ∨ c = 17 ∨ c = 18 ∨ c = 22 ∨ c = 27) → Sq_0 P S E (fw_up w c 0 k x) := fun h hc => Sq_up_0 h (by omega) (fun q => by omega)
  unfold mf_Mo_hears_0_j4
  (try dsimp only)
  have s := Sq_sd_0 (a := 11) (c := 0) (d := w 15 0 0) h hP (by decide)
  obtain ⟨ws, es⟩ : ∃ ws, ws = mf_Mo_send w 11 (w 13 0 0) 0 (w 15 0 0) := ⟨_, rfl⟩
  rw [← es] at s ⊢
  by_cases h10 : a = 10
  · rw [if_pos h10]
    by_cases h5 : w 12 0 0 < 5
    · rw [if_pos h5]; exact Sz_h5_0 h hP
    · rw [if_neg h5]
      by_cases h6 : w 12 0 0 = 6
      · rw [if_pos h6]; exact Sq_z_0 s
      · rw [if_neg h6]
        have s2 := Sq_enter_0 (x := 6) s
        obtain ⟨wt, et⟩ : ∃ wt, wt = mf_Mo_enter_0 ws 6 := ⟨_, rfl⟩
        rw [← et] at s2 ⊢
        exact Sq_z_0 (u (u (Sq_up_0 s2 (by decide) (fun _ => fw_inc (by decide))) (by decide)) (by decide))
  · rw [if_neg h10]; exact Sz_h5_0 h hP
theorem Sz_h2_0 {P : Int32 → Int32 → Int32 → (Nat → Int32) → Prop} {S : Int32} {E : Nat → Int32} {w : fw_V} {a n : Int32} (h : Sq_0 P S E w) (hP : Pr P S E) : Sz_0 P S (mf_Mo_hears_0_j2 w a n) := by
  have z3 : Sz_0 P S (mf_Mo_hears_0_j3 w a n) := by
    unfold mf_Mo_hears_0_j3
    (try dsimp only)
    by_cases h9 : a = 9
    · rw [if_pos h9]
      by_cases h4 : w 12 0 0 = 4
      · rw [if_pos h4]; exact Sq_z_0 (Sq_enter_0 h)
      · rw [if_neg h4]; exact Sz_h4_0 h hP
    · rw [if_neg h9]; exact Sz_h4_0 h hP
  unfold mf_Mo_hears_0_j2 mf_Mo_write_0
  (try dsimp only)
  by_cases h7 : a = 7
  · rw [if_pos h7]
    by_cases h3 : w 12 0 0 = 3
    · rw [if_pos h3]
      by_cases hn : n = w 20 0 0
      · rw [if_pos hn]; exact Sq_z_0 (Sq_write_0 hP _ _ _ h)
      · rw [if_neg hn]; exact z3
    · rw [if_neg h3]; exact z3
  · rw [if_neg h7]; exact z3
theorem Sz_hears_0 {P : Int32 → Int32 → Int32 → (Nat → Int32) → Prop} {S : Int32} {E : Nat → Int32} {w : fw_V} {a n : Int32} (h : Sq_0 P S E w) (hP : Pr P S E) : Sz_0 P S (mf_Mo_hears_0 w a n) := by
  have u : ∀ {w : fw_V} {c k : Nat} {x : Int32}, Sq_0 P S E w → (c = 16 ∨ c = 17 ∨ c = 18 ∨ c = 22 ∨ c = 27) → Sq_0 P S E (fw_up w c 0 k x) := fun h hc => Sq_up_0 h (by omega) (fun q => by omega)
  have z1 : Sz_0 P S (mf_Mo_hears_0_j1 w a n) := by
    unfold mf_Mo_hears_0_j1
    (try dsimp only)
    by_cases h5 : a = 5
    · rw [if_pos h5]
      by_cases h2 : w 12 0 0 = 2
      · rw [if_pos h2]; exact Sz_shut_0 h
      · rw [if_neg h2]; exact Sz_h2_0 h hP
    · rw [if_neg h5]; exact Sz_h2_0 h hP
  unfold mf_Mo_hears_0 mf_Mo_write_0
  (try dsimp only)
  by_cases h4 : a = 4
  · rw [if_pos h4]
    by_cases h2 : w 12 0 0 = 2
    · rw [if_pos h2]; exact Sq_z_0 (Sq_write_0 hP _ _ _ (u h (by decide)))
    · rw [if_neg h2]; exact z1
  · rw [if_neg h4]; exact z1
theorem Sz_ctl_0 {P : Int32 → Int32 → Int32 → (Nat → Int32) → Prop} {S : Int32} {E : Nat → Int32} {w : fw_V} {a b n : Int32} (h : Sq_0 P S E w) (hP : Pr P S E) : Sz_0 P S (ctl_0 w a b n) := by
  unfold ctl_0
  by_cases h2 : a = 2
  · rw [if_pos h2]
    by_cases h1 : w 12 0 0 = 1
    · rw [if_pos h1]
      by_cases hn : w 14 0 0 = w 10 0 0
      · rw [if_pos hn]; exact Sq_z_0 (Sq_ask_0 (Sq_up_0 (Sq_enter_0 h) (by decide) (fun q => absurd q (by decide))) hP)
      · rw [if_neg hn]; exact Sq_z_0 h
    · rw [if_neg h1]; exact Sq_z_0 h
  · rw [if_neg h2]
    by_cases h0 : w 12 0 0 = 0
    · rw [if_pos h0]; exact Sq_z_0 h
    · rw [if_neg h0]
      by_cases hb : w 13 0 0 = b
      · rw [if_pos hb]; exact Sz_hears_0 h hP
      · rw [if_neg hb]; exact Sq_z_0 h
/-- a TICK of a RELATION -/
theorem Sz_beat_0 {P : Int32 → Int32 → Int32 → (Nat → Int32) → Prop} {S : Int32} {E : Nat → Int32} {w : fw_V} (h : Sq_0 P S E w) (hP : Pr P S E) : Sz_0 P S (mf_Mo_beat_0 w) := by
  have u : ∀ {w : fw_V} {c k : Nat} {x : Int32}, Sq_0 P S E w → (c = 18 ∨ c = 19) → Sq_0 P S E (fw_up w c 0 k x) := fun h hc => Sq_up_0 h (by omega) (fun q => by omega)
  have h2 : Sq_0 P S E (fw_up w 18 0 0 (w 18 0 0 + 1)) := u h (by decide)
  have j1 : ∀ {w : fw_V}, Sq_0 P S E w → Sz_0 P S (mf_Mo_beat_0_j1 w) := by
    intro w h
    obtain ⟨w6, e6⟩ : ∃ w6, w6 = fw_up (fw_up (fw_up (fw_up (fw_up (fw_up w 9 0 0 (OM_0 w 0 0)) 9 0 1 (OM_0 w 0 1)) 9 0 2 (OM_0 w 1 0)) 9 0 3 (OM_0 w 1 1)) 9 0 4 (OM_0 w 2 0)) 9 0 5 (OM_0 w 2 1) := ⟨_, rfl⟩
    have w6c : ∀ c k, c ≠ 9 → w6 c 0 k = w c 0 k := fun c k hc => by rw [e6, fw_up_c hc, fw_up_c hc, fw_up_c hc, fw_up_c hc, fw_up_c hc, fw_up_c hc]
    rw [bt_0, ← e6]
    unfold mf_Mo_beat_0_j25
    (try dsimp only)
    have s : Sq_0 P S E (mf_Mo_send w6 12 (w6 13 0 0) (w6 21 0 0) (w6 15 0 0)) := by
      rw [w6c 13 _ (by decide), h.se]
      exact Sq_u9_0 h w6c (hP.2.2.2.2 _ _ (by rw [w6c 21 _ (by decide)]; exact (h.ai _).1))
    exact Sq_z_0 (Sq_up_0 s (by decide) (fun _ => and255 _))
  unfold mf_Mo_beat_0
  (try dsimp only)
  obtain ⟨w2, e2⟩ : ∃ w2, w2 = fw_up w 18 0 0 (w 18 0 0 + 1) := ⟨_, rfl⟩
  rw [← e2] at h2 ⊢
  by_cases h0 : w 12 0 0 = 0
  · rw [if_pos h0]; exact Sq_z_0 h
  · rw [if_neg h0]
    by_cases h6 : w2 12 0 0 = 6
    · rw [if_pos h6]
      by_cases h4 : w2 18 0 0 = 4
      · rw [if_pos h4]; exact Sz_break_0 (Sq_u0_0 h2 (by decide)) hP
      · rw [if_neg h4]; exact j1 h2
    · rw [if_neg h6]
      by_cases h5 : w2 12 0 0 = 5
      · rw [if_pos h5]
        by_cases h12 : w2 18 0 0 = 12
        · rw [if_pos h12]; exact Sz_break_0 h2 hP
        · rw [if_neg h12]; exact Sq_z_0 h2
      · rw [if_neg h5]
        by_cases h4 : w2 18 0 0 = 4
        · rw [if_pos h4]
          by_cases h22 : w2 19 0 0 = 2
          · rw [if_pos h22]; exact Sz_break_0 (u h2 (by decide)) hP
          · rw [if_neg h22]; exact Sq_z_0 (Sq_ask_0 (u h2 (by decide)) hP)
        · rw [if_neg h4]; exact Sq_z_0 h2

theorem Sq_u0_1 {P : Int32 → Int32 → Int32 → (Nat → Int32) → Prop} {S : Int32} {E : Nat → Int32} {w : fw_V} {k : Nat} {x : Int32} (h : Sq_1 P S E w) (hk : k ≠ 10) : Sq_1 P S E (fw_up w 0 0 k x) := by
  refine ⟨FRS_cg h.fr (fw_up_k (Ne.symm hk)) (fun c k q1 q2 => fw_up_c (by omega)), fun t ht => ?_, AI_up h.ai (fun q => absurd q (by decide)), fun s hs => ?_, ?_⟩
  · rw [fw_up_c (by decide)]; exact h.at t ht
  · rw [fw_up_c (by decide)]; exact h.ex s hs
  · rw [fw_up_c (by decide)]; exact h.se
theorem Sz_shut_1 {P : Int32 → Int32 → Int32 → (Nat → Int32) → Prop} {S : Int32} {E : Nat → Int32} {w : fw_V} (h : Sq_1 P S E w) : Sz_1 P S (mf_Mo_shut_1 w) := by
  unfold mf_Mo_shut_1 mf_Mo_enter_1
  refine ⟨FRS_cg h.fr (by simp [fw_up]) (fun c k q1 q2 => ?_), AI_cg h.ai (fun c k hc => ?_), fun q => absurd (by simp [fw_up]) q⟩
  · rw [fw_up_c (by omega), fw_up_c (by omega), fw_up_c (by omega), fw_up_c (by omega), fw_up_c (by omega), fw_up_c (by omega), fw_up_c (by omega), fw_up_c (by omega), fw_up_c (by omega), fw_up_c (by omega), fw_up_c (by omega), fw_up_c (by omega), fw_up_c (by omega)]
  · rw [fw_up_c (by omega), fw_up_c (by omega), fw_up_c (by omega), fw_up_c (by omega), fw_up_c (by omega), fw_up_c (by omega), fw_up_c (by omega), fw_up_c (by omega), fw_up_c (by omega), fw_up_c (by omega), fw_up_c (by omega), fw_up_c (by omega), fw_up_c (by omega)]
theorem Sz_break_1 {P : Int32 → Int32 → Int32 → (Nat → Int32) → Prop} {S : Int32} {E : Nat → Int32} {w : fw_V} (h : Sq_1 P S E w) (hP : Pr P S E) : Sz_1 P S (mf_Mo_breakOff_1 w) := by
  unfold mf_Mo_breakOff_1
  (try dsimp only)
  split
  · exact Sz_shut_1 h
  · exact Sz_shut_1 (Sq_sd_1 h hP (by decide))
theorem Sq_write_1 {P : Int32 → Int32 → Int32 → (Nat → Int32) → Prop} {S : Int32} {E : Nat → Int32} (hP : Pr P S E) {a : Int32} : ∀ (n : Nat) (w : fw_V) (x : Int32), Sq_1 P S E w → Sq_1 P S E (mf_Mo_write_1_j1 n w a x) := by
  intro n
  induction n with
  | zero => intro w x h; exact h
  | succ n ih =>
    intro w x h
    have fin : ∀ z y, Sq_1 P S E (mf_Mo_ask_1 (fw_up (mf_Mo_enter_1 w z) 20 0 1 y)) := fun z y => Sq_ask_1 (Sq_up_1 (Sq_enter_1 h) (by decide) (fun q => absurd q (by decide))) hP
    unfold mf_Mo_write_1_j1 mf_Mo_write_1_j2 mf_Mo_write_1_j3
    (try dsimp only)
    (repeat' split) <;> (first | with_reducible exact fin _ _ | with_reducible exact ih _ _ h)
theorem Sq_tell_1 {P : Int32 → Int32 → Int32 → (Nat → Int32) → Prop} {S : Int32} {E : Nat → Int32} {w : fw_V} {a : Int32} (h : Sq_1 P S E w) : Sq_1 P S E (mf_Mo_tell_1 w a) := by
  have u : ∀ {w : fw_V} {c k : Nat} {x : Int32}, Sq_1 P S E w → (c = 16 ∨ c = 23 ∨ c = 49) → Sq_1 P S E (fw_up w c 0 k x) := fun h hc => Sq_up_1 h (by omega) (fun q => by omega)
  have j2 : ∀ {w : fw_V} {a b c d : Int32}, Sq_1 P S E w → Sq_1 P S E (mf_Mo_tell_1_j2 w a b c d) := fun h => by
    unfold mf_Mo_tell_1_j2
    (try dsimp only)
    exact Sq_u0_1 (u (u (u (u (u (u (u (u (u h (by decide)) (by decide)) (by decide)) (by decide)) (by decide)) (by decide)) (by decide)) (by decide)) (by decide)) (by decide)
  unfold mf_Mo_tell_1 mf_Mo_tell_1_j1
  (try dsimp only)
  (repeat' split) <;> with_reducible exact j2 (u h (by decide))
/-- a RELATION has heard something -/
theorem Sz_h6_1 {P : Int32 → Int32 → Int32 → (Nat → Int32) → Prop} {S : Int32} {E : Nat → Int32} {w : fw_V} {a n : Int32} (h : Sq_1 P S E w) (hP : Pr P S E) : Sz_1 P S (mf_Mo_hears_1_j6 w a n) := by
  unfold mf_Mo_hears_1_j6
  (try dsimp only)
  have s := Sq_sd_1 (a := 15) (c := n) (d := w 15 0 1) h hP (by decide)
  obtain ⟨ws, es⟩ : ∃ ws, ws = mf_Mo_send w 15 (w 13 0 1) n (w 15 0 1) := ⟨_, rfl⟩
  rw [← es] at s ⊢
  by_cases h14 : a = 14
  · rw [if_pos h14]
    by_cases h6 : w 12 0 1 = 6
    · rw [if_pos h6]
      by_cases h23 : n = ws 23 0 1
      · rw [if_pos h23]; exact Sq_z_1 s
      · rw [if_neg h23]; exact Sq_z_1 (Sq_tell_1 s)
    · rw [if_neg h6]; exact Sq_z_1 s
  · rw [if_neg h14]
    by_cases h16 : a = 16
    · rw [if_pos h16]; exact Sz_shut_1 h
    · rw [if_neg h16]; exact Sq_z_1 h
theorem Sz_h5_1 {P : Int32 → Int32 → Int32 → (Nat → Int32) → Prop} {S : Int32} {E : Nat → Int32} {w : fw_V} {a n : Int32} (h : Sq_1 P S E w) (hP : Pr P S E) : Sz_1 P S (mf_Mo_hears_1_j5 w a n) := by
  have u : ∀ {w : fw_V} {c k : Nat} {x : Int32}, Sq_1 P S E w → (c = 16 ∨ c = 17 ∨ c = 18 ∨ c = 22 ∨ c = 27) → Sq_1 P S E (fw_up w c 0 k x) := fun h hc => Sq_up_1 h (by omega) (fun q => by omega)
  unfold mf_Mo_hears_1_j5
  (try dsimp only)
  by_cases h13 : a = 13
  · rw [if_pos h13]
    by_cases h6 : w 12 0 1 = 6
    · rw [if_pos h6]
      by_cases hn : mf_Mo_isNewer n (w 22 0 1) = 0
      · rw [if_pos hn]; exact Sz_h6_1 h hP
      · rw [if_neg hn]
        exact Sq_z_1 (u (u (u (u (u (u (u (u (u h (by decide)) (by decide)) (by decide)) (by decide)) (by decide)) (by decide)) (by decide)) (by decide)) (by decide))
    · rw [if_neg h6]; exact Sz_h6_1 h hP
  · rw [if_neg h13]; exact Sz_h6_1 h hP
theorem Sz_h4_1 {P : Int32 → Int32 → Int32 → (Nat → Int32) → Prop} {S : Int32} {E : Nat → Int32} {w : fw_V} {a n : Int32} (h : Sq_1 P S E w) (hP : Pr P S E) : Sz_1 P S (mf_Mo_hears_1_j4 w a n) := by
  have u : ∀ {w : fw_V} {c k : Nat} {x : Int32}, Sq_1 P S E w → (c = 16 ∨ c = 17 ∨ c = 18 ∨ c = 22 ∨ c = 27) → Sq_1 P S E (fw_up w c 0 k x) := fun h hc => Sq_up_1 h (by omega) (fun q => by omega)
  unfold mf_Mo_hears_1_j4
  (try dsimp only)
  have s := Sq_sd_1 (a := 11) (c := 0) (d := w 15 0 1) h hP (by decide)
  obtain ⟨ws, es⟩ : ∃ ws, ws = mf_Mo_send w 11 (w 13 0 1) 0 (w 15 0 1) := ⟨_, rfl⟩
  rw [← es] at s ⊢
  by_cases h10 : a = 10
  · rw [if_pos h10]
    by_cases h5 : w 12 0 1 < 5
    · rw [if_pos h5]; exact Sz_h5_1 h hP
    · rw [if_neg h5]
      by_cases h6 : w 12 0 1 = 6
      · rw [if_pos h6]; exact Sq_z_1 s
      · rw [if_neg h6]
        have s2 := Sq_enter_1 (x := 6) s
        obtain ⟨wt, et⟩ : ∃ wt, wt = mf_Mo_enter_1 ws 6 := ⟨_, rfl⟩
        rw [← et] at s2 ⊢
        exact Sq_z_1 (u (u (Sq_up_1 s2 (by decide) (fun _ => fw_inc (by decide))) (by decide)) (by decide))
  · rw [if_neg h10]; exact Sz_h5_1 h hP
theorem Sz_h2_1 {P : Int32 → Int32 → Int32 → (Nat → Int32) → Prop} {S : Int32} {E : Nat → Int32} {w : fw_V} {a n : Int32} (h : Sq_1 P S E w) (hP : Pr P S E) : Sz_1 P S (mf_Mo_hears_1_j2 w a n) := by
  have z3 : Sz_1 P S (mf_Mo_hears_1_j3 w a n) := by
    unfold mf_Mo_hears_1_j3
    (try dsimp only)
    by_cases h9 : a = 9
    · rw [if_pos h9]
      by_cases h4 : w 12 0 1 = 4
      · rw [if_pos h4]; exact Sq_z_1 (Sq_enter_1 h)
      · rw [if_neg h4]; exact Sz_h4_1 h hP
    · rw [if_neg h9]; exact Sz_h4_1 h hP
  unfold mf_Mo_hears_1_j2 mf_Mo_write_1
  (try dsimp only)
  by_cases h7 : a = 7
  · rw [if_pos h7]
    by_cases h3 : w 12 0 1 = 3
    · rw [if_pos h3]
      by_cases hn : n = w 20 0 1
      · rw [if_pos hn]; exact Sq_z_1 (Sq_write_1 hP _ _ _ h)
      · rw [if_neg hn]; exact z3
    · rw [if_neg h3]; exact z3
  · rw [if_neg h7]; exact z3
theorem Sz_hears_1 {P : Int32 → Int32 → Int32 → (Nat → Int32) → Prop} {S : Int32} {E : Nat → Int32} {w : fw_V} {a n : Int32} (h : Sq_1 P S E w) (hP : Pr P S E) : Sz_1 P S (mf_Mo_hears_1 w a n) := by
  have u : ∀ {w : fw_V} {c k : Nat} {x : Int32}, Sq_1 P S E w → (c = 16 ∨ c = 17 ∨ c = 18 ∨ c = 22 ∨ c = 27) → Sq_1 P S E (fw_up w c 0 k x) := fun h hc => Sq_up_1 h (by omega) (fun q => by omega)
  have z1 : Sz_1 P S (mf_Mo_hears_1_j1 w a n) := by
    unfold mf_Mo_hears_1_j1
    (try dsimp only)
    by_cases h5 : a = 5
    · rw [if_pos h5]
      by_cases h2 : w 12 0 1 = 2
      · rw [if_pos h2]; exact Sz_shut_1 h
      · rw [if_neg h2]; exact Sz_h2_1 h hP
    · rw [if_neg h5]; exact Sz_h2_1 h hP
  unfold mf_Mo_hears_1 mf_Mo_write_1
  (try dsimp only)
  by_cases h4 : a = 4
  · rw [if_pos h4]
    by_cases h2 : w 12 0 1 = 2
    · rw [if_pos h2]; exact Sq_z_1 (Sq_write_1 hP _ _ _ (u h (by decide)))
    · rw [if_neg h2]; exact z1
  · rw [if_neg h4]; exact z1
theorem Sz_ctl_1 {P : Int32 → Int32 → Int32 → (Nat → Int32) → Prop} {S : Int32} {E : Nat → Int32} {w : fw_V} {a b n : Int32} (h : Sq_1 P S E w) (hP : Pr P S E) : Sz_1 P S (ctl_1 w a b n) := by
  unfold ctl_1
  by_cases h2 : a = 2
  · rw [if_pos h2]
    by_cases h1 : w 12 0 1 = 1
    · rw [if_pos h1]
      by_cases hn : w 14 0 1 = w 10 0 0
      · rw [if_pos hn]; exact Sq_z_1 (Sq_ask_1 (Sq_up_1 (Sq_enter_1 h) (by decide) (fun q => absurd q (by decide))) hP)
      · rw [if_neg hn]; exact Sq_z_1 h
    · rw [if_neg h1]; exact Sq_z_1 h
  · rw [if_neg h2]
    by_cases h0 : w 12 0 1 = 0
    · rw [if_pos h0]; exact Sq_z_1 h
    · rw [if_neg h0]
      by_cases hb : w 13 0 1 = b
      · rw [if_pos hb]; exact Sz_hears_1 h hP
      · rw [if_neg hb]; exact Sq_z_1 h
/-- a TICK of a RELATION -/
theorem Sz_beat_1 {P : Int32 → Int32 → Int32 → (Nat → Int32) → Prop} {S : Int32} {E : Nat → Int32} {w : fw_V} (h : Sq_1 P S E w) (hP : Pr P S E) : Sz_1 P S (mf_Mo_beat_1 w) := by
  have u : ∀ {w : fw_V} {c k : Nat} {x : Int32}, Sq_1 P S E w → (c = 18 ∨ c = 19) → Sq_1 P S E (fw_up w c 0 k x) := fun h hc => Sq_up_1 h (by omega) (fun q => by omega)
  have h2 : Sq_1 P S E (fw_up w 18 0 1 (w 18 0 1 + 1)) := u h (by decide)
  have j1 : ∀ {w : fw_V}, Sq_1 P S E w → Sz_1 P S (mf_Mo_beat_1_j1 w) := by
    intro w h
    obtain ⟨w6, e6⟩ : ∃ w6, w6 = fw_up (fw_up (fw_up (fw_up (fw_up (fw_up w 9 0 0 (OM_1 w 0 0)) 9 0 1 (OM_1 w 0 1)) 9 0 2 (OM_1 w 1 0)) 9 0 3 (OM_1 w 1 1)) 9 0 4 (OM_1 w 2 0)) 9 0 5 (OM_1 w 2 1) := ⟨_, rfl⟩
    have w6c : ∀ c k, c ≠ 9 → w6 c 0 k = w c 0 k := fun c k hc => by rw [e6, fw_up_c hc, fw_up_c hc, fw_up_c hc, fw_up_c hc, fw_up_c hc, fw_up_c hc]
    rw [bt_1, ← e6]
    unfold mf_Mo_beat_1_j25
    (try dsimp only)
    have s : Sq_1 P S E (mf_Mo_send w6 12 (w6 13 0 1) (w6 21 0 1) (w6 15 0 1)) := by
      rw [w6c 13 _ (by decide), h.se]
      exact Sq_u9_1 h w6c (hP.2.2.2.2 _ _ (by rw [w6c 21 _ (by decide)]; exact (h.ai _).1))
    exact Sq_z_1 (Sq_up_1 s (by decide) (fun _ => and255 _))
  unfold mf_Mo_beat_1
  (try dsimp only)
  obtain ⟨w2, e2⟩ : ∃ w2, w2 = fw_up w 18 0 1 (w 18 0 1 + 1) := ⟨_, rfl⟩
  rw [← e2] at h2 ⊢
  by_cases h0 : w 12 0 1 = 0
  · rw [if_pos h0]; exact Sq_z_1 h
  · rw [if_neg h0]
    by_cases h6 : w2 12 0 1 = 6
    · rw [if_pos h6]
      by_cases h4 : w2 18 0 1 = 4
      · rw [if_pos h4]; exact Sz_break_1 (Sq_u0_1 h2 (by decide)) hP
      · rw [if_neg h4]; exact j1 h2
    · rw [if_neg h6]
      by_cases h5 : w2 12 0 1 = 5
      · rw [if_pos h5]
        by_cases h12 : w2 18 0 1 = 12
        · rw [if_pos h12]; exact Sz_break_1 h2 hP
        · rw [if_neg h12]; exact Sq_z_1 h2
      · rw [if_neg h5]
        by_cases h4 : w2 18 0 1 = 4
        · rw [if_pos h4]
          by_cases h22 : w2 19 0 1 = 2
          · rw [if_pos h22]; exact Sz_break_1 (u h2 (by decide)) hP
          · rw [if_neg h22]; exact Sq_z_1 (Sq_ask_1 (u h2 (by decide)) hP)
        · rw [if_neg h4]; exact Sq_z_1 h2

/-- a DEVICE may send: Q holds its session with what it wants -/
def Pd (P : Int32 → Int32 → Int32 → (Nat → Int32) → Prop) (Q : Int32 → (Nat → Int32) → Prop) : Prop := (∀ S W t c d, Q S W → (t = 4 ∨ t = 7 ∨ t = 9 ∨ t = 10 ∨ t = 16) → P t S c d) ∧ (∀ c d, P 2 0 c d) ∧ (∀ S W c d, Q S W → vp_in c 256 → P 13 S c d) ∧ (∀ S W c d, Q S W → vp_in (d 0) 3 → ¬ W (d 0).toNatClampNeg < 0 → P 14 S c d)

def WD_0 (w : fw_V) : Nat → Int32 := fun s => if s < 3 then w 43 0 (3 * 0 + s) else 0
theorem WD_cg_0 {w w' : fw_V} (h : ∀ s, s < 3 → w' 43 0 (3 * 0 + s) = w 43 0 (3 * 0 + s)) : WD_0 w' = WD_0 w := by
  funext s
  unfold WD_0
  by_cases z : s < 3
  · rw [if_pos z, if_pos z]; exact h s z
  · rw [if_neg z, if_neg z]
def Sd_0 (P : Int32 → Int32 → Int32 → (Nat → Int32) → Prop) (Q : Int32 → (Nat → Int32) → Prop) (w : fw_V) : Prop := (FRS P w) ∧ (At w) ∧ (AI w) ∧ (w 28 0 0 ≠ 0 → Q (w 29 0 0) (WD_0 w)) ∧ (w 28 0 0 = 3 → ∀ j, j < 4 → nI j < w 37 0 0 → ¬ w 43 0 (3 * 0 + (w 47 0 (4 * 0 + j)).toNatClampNeg) < 0)
theorem Sd_0.fr {P : Int32 → Int32 → Int32 → (Nat → Int32) → Prop} {Q : Int32 → (Nat → Int32) → Prop} {w : fw_V} (h : Sd_0 P Q w) : FRS P w := h.1
theorem Sd_0.at {P : Int32 → Int32 → Int32 → (Nat → Int32) → Prop} {Q : Int32 → (Nat → Int32) → Prop} {w : fw_V} (h : Sd_0 P Q w) : At w := h.2.1
theorem Sd_0.ai {P : Int32 → Int32 → Int32 → (Nat → Int32) → Prop} {Q : Int32 → (Nat → Int32) → Prop} {w : fw_V} (h : Sd_0 P Q w) : AI w := h.2.2.1
theorem Sd_0.ds {P : Int32 → Int32 → Int32 → (Nat → Int32) → Prop} {Q : Int32 → (Nat → Int32) → Prop} {w : fw_V} (h : Sd_0 P Q w) : w 28 0 0 ≠ 0 → Q (w 29 0 0) (WD_0 w) := h.2.2.2.1
theorem Sd_0.dq {P : Int32 → Int32 → Int32 → (Nat → Int32) → Prop} {Q : Int32 → (Nat → Int32) → Prop} {w : fw_V} (h : Sd_0 P Q w) : w 28 0 0 = 3 → ∀ j, j < 4 → nI j < w 37 0 0 → ¬ w 43 0 (3 * 0 + (w 47 0 (4 * 0 + j)).toNatClampNeg) < 0 := h.2.2.2.2
/-- nothing that matters changes -/
theorem Sd_cg_0 {P : Int32 → Int32 → Int32 → (Nat → Int32) → Prop} {Q : Int32 → (Nat → Int32) → Prop} {w w' : fw_V} (h : Sd_0 P Q w) (hw : ∀ c k, (4 ≤ c ∧ c ≤ 9) ∨ c = 21 ∨ c = 25 ∨ c = 28 ∨ c = 29 ∨ c = 34 ∨ c = 37 ∨ c = 43 ∨ c = 47 → w' c 0 k = w c 0 k) (h0 : w' 0 0 10 = w 0 0 10) : Sd_0 P Q w' := by
  refine ⟨FRS_cg h.fr h0 (fun c k q1 q2 => hw c k (by omega)), fun t ht => by rw [hw 9 t (by omega)]; exact h.at t ht, AI_cg h.ai (fun c k hc => hw c k (by omega)), ?_, ?_⟩
  · rw [hw 28 _ (by omega), hw 29 _ (by omega), WD_cg_0 (w := w) (fun s hs => hw 43 _ (by omega))]; exact h.ds
  · intro q j hj hl
    rw [hw 28 _ (by omega)] at q
    rw [hw 37 _ (by omega)] at hl
    rw [hw 43 _ (by omega), hw 47 _ (by omega)]
    exact h.dq q j hj hl
theorem Sd_up_0 {P : Int32 → Int32 → Int32 → (Nat → Int32) → Prop} {Q : Int32 → (Nat → Int32) → Prop} {w : fw_V} {c k : Nat} {x : Int32} (h : Sd_0 P Q w) (hc : ¬ (c ≤ 9 ∨ c = 21 ∨ c = 25 ∨ c = 28 ∨ c = 29 ∨ c = 34 ∨ c = 37 ∨ c = 43 ∨ c = 47)) : Sd_0 P Q (fw_up w c 0 k x) := Sd_cg_0 h (fun c' k' q => fw_up_c (by omega)) (fw_up_c (by omega))
theorem Sd_u9_0 {P : Int32 → Int32 → Int32 → (Nat → Int32) → Prop} {Q : Int32 → (Nat → Int32) → Prop} {w w' : fw_V} {a b c d : Int32} (h : Sd_0 P Q w) (h9 : ∀ c k, c ≠ 9 → w' c 0 k = w c 0 k) (hp : P a b c (R9 w')) : Sd_0 P Q (mf_Mo_send w' a b c d) := by
  have ms : ∀ c' k, 10 ≤ c' → mf_Mo_send w' a b c d c' 0 k = w c' 0 k := fun c' k q => by rw [msend_c (by omega) (by omega) (by omega) (by omega) (by omega) (by omega) (by omega)]; exact h9 c' k (by omega)
  refine ⟨FRS_send (FRS_cg h.fr (h9 0 10 (by decide)) (fun c k q1 q2 => h9 c k (by omega))) hp, At_send, AI_cg h.ai (fun c k hc => ms c k (by omega)), ?_, ?_⟩
  · rw [ms 28 _ (by decide), ms 29 _ (by decide), WD_cg_0 (w := w) (fun s hs => ms 43 _ (by decide))]; exact h.ds
  · intro q j hj hl
    rw [ms 28 _ (by decide)] at q
    rw [ms 37 _ (by decide)] at hl
    rw [ms 43 _ (by decide), ms 47 _ (by decide)]
    exact h.dq q j hj hl
theorem Sd_rp_0 {P : Int32 → Int32 → Int32 → (Nat → Int32) → Prop} {Q : Int32 → (Nat → Int32) → Prop} {w : fw_V} {a c : Int32} (h : Sd_0 P Q w) (hP : Pd P Q) (hn : w 28 0 0 ≠ 0) (ha : a = 4 ∨ a = 7 ∨ a = 9 ∨ a = 10 ∨ a = 16) : Sd_0 P Q (mf_Mo_reply_0 w a c) := by
  unfold mf_Mo_reply_0
  exact Sd_u9_0 h (fun _ _ _ => rfl) (hP.1 _ _ _ _ _ (h.ds hn) ha)
theorem Sd_rest_0 {P : Int32 → Int32 → Int32 → (Nat → Int32) → Prop} {Q : Int32 → (Nat → Int32) → Prop} {w : fw_V} (h : Sd_0 P Q w) : Sd_0 P Q (mf_Mo_rest_0 w) := by
  have f : ∀ c k, (4 ≤ c ∧ c ≤ 9) ∨ c = 21 ∨ c = 25 ∨ c = 34 ∨ c = 0 → mf_Mo_rest_0 w c 0 k = w c 0 k := fun c k hc => by
    rw [rest_eq_0]
    split
    · rw [(rp_3_0 (w := RS_0 w)).2 c 0 k (by omega), RS_c_0 (by omega)]
    · rw [RS_c_0 (by omega)]
  have s0 : mf_Mo_rest_0 w 28 0 0 = 0 := by
    have e : RS_0 w 28 0 0 = 0 := by
      unfold RS_0 mf_Mo_rest_0_j1 mf_Mo_rest_0_j2
      simp [fw_up]
    rw [rest_eq_0]
    split
    · rw [(rp_3_0 (w := RS_0 w)).2 28 0 0 (by omega)]; exact e
    · exact e
  exact ⟨FRS_cg h.fr (f 0 10 (by omega)) (fun c k q1 q2 => f c k (by omega)), fun t ht => by rw [f 9 t (by omega)]; exact h.at t ht, AI_cg h.ai (fun c k hc => f c k (by omega)), fun q => absurd s0 q, fun q => absurd (s0.symm.trans q) (by decide)⟩
theorem Sd_quit_0 {P : Int32 → Int32 → Int32 → (Nat → Int32) → Prop} {Q : Int32 → (Nat → Int32) → Prop} {w : fw_V} (h : Sd_0 P Q w) (hP : Pd P Q) (hn : w 28 0 0 ≠ 0) : Sd_0 P Q (mf_Mo_quit_0 w) := by
  unfold mf_Mo_quit_0
  exact Sd_rest_0 (Sd_rp_0 h hP hn (by decide))
/-- the alarm of a TICK -/
theorem Sd_alarm_0 {P : Int32 → Int32 → Int32 → (Nat → Int32) → Prop} {Q : Int32 → (Nat → Int32) → Prop} {w : fw_V} (h : Sd_0 P Q w) (hP : Pd P Q) (h3 : w 28 0 0 = 3) (h5 : vp_in (w 37 0 0) 5) (ha : vp_in (w 47 0 (4 * 0)) 3) : Sd_0 P Q (mf_Mo_alarm_0 w) := by
  have j2 : ∀ u : fw_V, Sd_0 P Q u → u 28 0 0 = 3 → ¬ w 37 0 0 = 0 → u 37 0 0 = w 37 0 0 → u 47 0 (4 * 0) = w 47 0 (4 * 0) → Sd_0 P Q (mf_Mo_alarm_0_j2 u) := by
    intro u hu u3 hne e37 e47
    unfold mf_Mo_alarm_0_j2 mf_Mo_reply_0
    (try dsimp only)
    have h1 : Sd_0 P Q (fw_up u 38 0 0 0) := Sd_up_0 hu (by decide)
    have s1 : fw_up u 38 0 0 0 28 0 0 = 3 := by rw [fw_up_c (by decide)]; exact u3
    have e1 : fw_up u 38 0 0 0 37 0 0 = w 37 0 0 := by rw [fw_up_c (by decide)]; exact e37
    have e2 : fw_up u 38 0 0 0 47 0 (4 * 0) = w 47 0 (4 * 0) := by rw [fw_up_c (by decide)]; exact e47
    obtain ⟨u1, eu⟩ : ∃ u1, u1 = fw_up u 38 0 0 0 := ⟨_, rfl⟩
    rw [← eu] at h1 s1 e1 e2 ⊢
    have w9 : ∀ c k, c ≠ 9 → fw_up (fw_up u1 9 0 0 (u1 47 0 0)) 9 0 1 (fw_up u1 9 0 0 (u1 47 0 0) 48 0 0) c 0 k = u1 c 0 k := fun c k hc => by rw [fw_up_c hc, fw_up_c hc]
    rw [w9 29 _ (by decide)]
    have r0 : R9 (fw_up (fw_up u1 9 0 0 (u1 47 0 0)) 9 0 1 (fw_up u1 9 0 0 (u1 47 0 0) 48 0 0)) 0 = w 47 0 (4 * 0) := by
      unfold R9
      rw [if_pos (by decide), fw_up_k (by decide), fw_up_s]; exact e2
    have pos : nI 0 < u1 37 0 0 := by
      rw [e1]
      obtain ⟨z, hz, ez⟩ := vp_in_of h5 (by decide)
      rw [ez] at hne ⊢
      refine (nI_ltI (by omega) (by omega)).mpr ?_
      by_cases q : z = 0
      · subst q; exact absurd rfl hne
      · omega
    obtain ⟨z, hz, ez⟩ := vp_in_of ha (by decide)
    have g := h1.dq s1 0 (by decide) pos
    refine Sd_u9_0 h1 w9 (hP.2.2.2 _ _ _ _ (h1.ds (by rw [s1]; decide)) (by rw [r0]; exact ha) ?_)
    rw [r0]
    unfold WD_0
    rw [if_pos (by rw [ez, nI_clamp (by omega)]; exact hz)]
    rw [show 4 * 0 + 0 = 4 * 0 from rfl, e2] at g
    exact g
  unfold mf_Mo_alarm_0 mf_Mo_alarm_0_j1 mf_Mo_alarm_0_j3
  (try dsimp only)
  by_cases h0 : w 37 0 0 = 0
  · rw [if_pos h0]; exact h
  · rw [if_neg h0]
    by_cases hw : w 36 0 0 ≤ 0
    · rw [if_pos hw]
      by_cases h255 : w 39 0 0 = 255
      · rw [if_pos h255]
        exact j2 _ (Sd_up_0 (Sd_up_0 h (by decide)) (by decide)) (by rw [fw_up_c (by decide), fw_up_c (by decide)]; exact h3) h0 (by rw [fw_up_c (by decide), fw_up_c (by decide)]) (by rw [fw_up_c (by decide), fw_up_c (by decide)])
      · rw [if_neg h255]
        exact j2 _ (Sd_up_0 (Sd_up_0 h (by decide)) (by decide)) (by rw [fw_up_c (by decide), fw_up_c (by decide)]; exact h3) h0 (by rw [fw_up_c (by decide), fw_up_c (by decide)]) (by rw [fw_up_c (by decide), fw_up_c (by decide)])
    · rw [if_neg hw]
      by_cases hd : (3 : Int32) ≤ fw_up w 38 0 0 (w 38 0 0 + 1) 38 0 0
      · rw [if_pos hd]
        exact j2 _ (Sd_up_0 h (by decide)) (by rw [fw_up_c (by decide)]; exact h3) h0 (by rw [fw_up_c (by decide)]) (by rw [fw_up_c (by decide)])
      · rw [if_neg hd]; exact Sd_up_0 h (by decide)
/-- INPUT -/
theorem Sd_input_0 {P : Int32 → Int32 → Int32 → (Nat → Int32) → Prop} {Q : Int32 → (Nat → Int32) → Prop} {w : fw_V} (h : Sd_0 P Q w) (hP : Pd P Q) (hn : w 28 0 0 ≠ 0) : Sd_0 P Q (mf_Mo_pulse_0_j1 w) := by
  rw [pi_0]
  unfold LF_0 mf_Mo_reply_0
  (try dsimp only)
  obtain ⟨g, eg⟩ : ∃ g, g = GM (mf_Mo_isGood_0 w (nI 0)) (mf_Mo_isGood_0 w (nI 1)) (mf_Mo_isGood_0 w (nI 2)) := ⟨_, rfl⟩
  obtain ⟨w6, e6⟩ : ∃ w6, w6 = fw_up (fw_up (fw_up (fw_up (fw_up (fw_up (fw_up w 9 0 0 (IM_0 w 0 0)) 9 0 1 (IM_0 w 0 1)) 9 0 2 (IM_0 w 1 0)) 9 0 3 (IM_0 w 1 1)) 9 0 4 (IM_0 w 2 0)) 9 0 5 (IM_0 w 2 1)) 9 0 6 g := ⟨_, rfl⟩
  have w6c : ∀ c k, c ≠ 9 → w6 c 0 k = w c 0 k := fun c k hc => by rw [e6, fw_up_c hc, fw_up_c hc, fw_up_c hc, fw_up_c hc, fw_up_c hc, fw_up_c hc, fw_up_c hc]
  rw [← eg, ← e6]
  have s : Sd_0 P Q (mf_Mo_send w6 13 (w6 29 0 0) (w6 34 0 0) 2) := by
    rw [w6c 29 _ (by decide)]
    exact Sd_u9_0 h w6c (hP.2.2.1 _ _ _ _ (h.ds hn) (by rw [w6c 34 _ (by decide)]; exact (h.ai _).2.1))
  obtain ⟨ws, es⟩ : ∃ ws, ws = mf_Mo_send w6 13 (w6 29 0 0) (w6 34 0 0) 2 := ⟨_, rfl⟩
  rw [← es] at s ⊢
  refine ⟨FRS_cg s.fr (fw_up_c (by decide)) (fun c k q1 q2 => fw_up_c (by omega)), fun t ht => by rw [fw_up_c (by decide)]; exact s.at t ht, AI_up s.ai (fun _ => and255 _), ?_, ?_⟩
  · rw [fw_up_c (by decide), fw_up_c (by decide), WD_cg_0 (w := ws) (fun s hs => fw_up_c (by decide))]; exact s.ds
  · intro q j hj hl
    rw [fw_up_c (by decide)] at q hl
    rw [fw_up_c (by decide), fw_up_c (by decide)]
    exact s.dq q j hj hl

def WD_1 (w : fw_V) : Nat → Int32 := fun s => if s < 3 then w 43 0 (3 * 1 + s) else 0
theorem WD_cg_1 {w w' : fw_V} (h : ∀ s, s < 3 → w' 43 0 (3 * 1 + s) = w 43 0 (3 * 1 + s)) : WD_1 w' = WD_1 w := by
  funext s
  unfold WD_1
  by_cases z : s < 3
  · rw [if_pos z, if_pos z]; exact h s z
  · rw [if_neg z, if_neg z]
def Sd_1 (P : Int32 → Int32 → Int32 → (Nat → Int32) → Prop) (Q : Int32 → (Nat → Int32) → Prop) (w : fw_V) : Prop := (FRS P w) ∧ (At w) ∧ (AI w) ∧ (w 28 0 1 ≠ 0 → Q (w 29 0 1) (WD_1 w)) ∧ (w 28 0 1 = 3 → ∀ j, j < 4 → nI j < w 37 0 1 → ¬ w 43 0 (3 * 1 + (w 47 0 (4 * 1 + j)).toNatClampNeg) < 0)
theorem Sd_1.fr {P : Int32 → Int32 → Int32 → (Nat → Int32) → Prop} {Q : Int32 → (Nat → Int32) → Prop} {w : fw_V} (h : Sd_1 P Q w) : FRS P w := h.1
theorem Sd_1.at {P : Int32 → Int32 → Int32 → (Nat → Int32) → Prop} {Q : Int32 → (Nat → Int32) → Prop} {w : fw_V} (h : Sd_1 P Q w) : At w := h.2.1
theorem Sd_1.ai {P : Int32 → Int32 → Int32 → (Nat → Int32) → Prop} {Q : Int32 → (Nat → Int32) → Prop} {w : fw_V} (h : Sd_1 P Q w) : AI w := h.2.2.1
theorem Sd_1.ds {P : Int32 → Int32 → Int32 → (Nat → Int32) → Prop} {Q : Int32 → (Nat → Int32) → Prop} {w : fw_V} (h : Sd_1 P Q w) : w 28 0 1 ≠ 0 → Q (w 29 0 1) (WD_1 w) := h.2.2.2.1
theorem Sd_1.dq {P : Int32 → Int32 → Int32 → (Nat → Int32) → Prop} {Q : Int32 → (Nat → Int32) → Prop} {w : fw_V} (h : Sd_1 P Q w) : w 28 0 1 = 3 → ∀ j, j < 4 → nI j < w 37 0 1 → ¬ w 43 0 (3 * 1 + (w 47 0 (4 * 1 + j)).toNatClampNeg) < 0 := h.2.2.2.2
/-- nothing that matters changes -/
theorem Sd_cg_1 {P : Int32 → Int32 → Int32 → (Nat → Int32) → Prop} {Q : Int32 → (Nat → Int32) → Prop} {w w' : fw_V} (h : Sd_1 P Q w) (hw : ∀ c k, (4 ≤ c ∧ c ≤ 9) ∨ c = 21 ∨ c = 25 ∨ c = 28 ∨ c = 29 ∨ c = 34 ∨ c = 37 ∨ c = 43 ∨ c = 47 → w' c 0 k = w c 0 k) (h0 : w' 0 0 10 = w 0 0 10) : Sd_1 P Q w' := by
  refine ⟨FRS_cg h.fr h0 (fun c k q1 q2 => hw c k (by omega)), fun t ht => by rw [hw 9 t (by omega)]; exact h.at t ht, AI_cg h.ai (fun c k hc => hw c k (by omega)), ?_, ?_⟩
  · rw [hw 28 _ (by omega), hw 29 _ (by omega), WD_cg_1 (w := w) (fun s hs => hw 43 _ (by omega))]; exact h.ds
  · intro q j hj hl
    rw [hw 28 _ (by omega)] at q
    rw [hw 37 _ (by omega)] at hl
    rw [hw 43 _ (by omega), hw 47 _ (by omega)]
    exact h.dq q j hj hl
theorem Sd_up_1 {P : Int32 → Int32 → Int32 → (Nat → Int32) → Prop} {Q : Int32 → (Nat → Int32) → Prop} {w : fw_V} {c k : Nat} {x : Int32} (h : Sd_1 P Q w) (hc : ¬ (c ≤ 9 ∨ c = 21 ∨ c = 25 ∨ c = 28 ∨ c = 29 ∨ c = 34 ∨ c = 37 ∨ c = 43 ∨ c = 47)) : Sd_1 P Q (fw_up w c 0 k x) := Sd_cg_1 h (fun c' k' q => fw_up_c (by omega)) (fw_up_c (by omega))
theorem Sd_u9_1 {P : Int32 → Int32 → Int32 → (Nat → Int32) → Prop} {Q : Int32 → (Nat → Int32) → Prop} {w w' : fw_V} {a b c d : Int32} (h : Sd_1 P Q w) (h9 : ∀ c k, c ≠ 9 → w' c 0 k = w c 0 k) (hp : P a b c (R9 w')) : Sd_1 P Q (mf_Mo_send w' a b c d) := by
  have ms : ∀ c' k, 10 ≤ c' → mf_Mo_send w' a b c d c' 0 k = w c' 0 k := fun c' k q => by rw [msend_c (by omega) (by omega) (by omega) (by omega) (by omega) (by omega) (by omega)]; exact h9 c' k (by omega)
  refine ⟨FRS_send (FRS_cg h.fr (h9 0 10 (by decide)) (fun c k q1 q2 => h9 c k (by omega))) hp, At_send, AI_cg h.ai (fun c k hc => ms c k (by omega)), ?_, ?_⟩
  · rw [ms 28 _ (by decide), ms 29 _ (by decide), WD_cg_1 (w := w) (fun s hs => ms 43 _ (by decide))]; exact h.ds
  · intro q j hj hl
    rw [ms 28 _ (by decide)] at q
    rw [ms 37 _ (by decide)] at hl
    rw [ms 43 _ (by decide), ms 47 _ (by decide)]
    exact h.dq q j hj hl
theorem Sd_rp_1 {P : Int32 → Int32 → Int32 → (Nat → Int32) → Prop} {Q : Int32 → (Nat → Int32) → Prop} {w : fw_V} {a c : Int32} (h : Sd_1 P Q w) (hP : Pd P Q) (hn : w 28 0 1 ≠ 0) (ha : a = 4 ∨ a = 7 ∨ a = 9 ∨ a = 10 ∨ a = 16) : Sd_1 P Q (mf_Mo_reply_1 w a c) := by
  unfold mf_Mo_reply_1
  exact Sd_u9_1 h (fun _ _ _ => rfl) (hP.1 _ _ _ _ _ (h.ds hn) ha)
theorem Sd_rest_1 {P : Int32 → Int32 → Int32 → (Nat → Int32) → Prop} {Q : Int32 → (Nat → Int32) → Prop} {w : fw_V} (h : Sd_1 P Q w) : Sd_1 P Q (mf_Mo_rest_1 w) := by
  have f : ∀ c k, (4 ≤ c ∧ c ≤ 9) ∨ c = 21 ∨ c = 25 ∨ c = 34 ∨ c = 0 → mf_Mo_rest_1 w c 0 k = w c 0 k := fun c k hc => by
    rw [rest_eq_1]
    split
    · rw [(rp_3_1 (w := RS_1 w)).2 c 0 k (by omega), RS_c_1 (by omega)]
    · rw [RS_c_1 (by omega)]
  have s0 : mf_Mo_rest_1 w 28 0 1 = 0 := by
    have e : RS_1 w 28 0 1 = 0 := by
      unfold RS_1 mf_Mo_rest_1_j1 mf_Mo_rest_1_j2
      simp [fw_up]
    rw [rest_eq_1]
    split
    · rw [(rp_3_1 (w := RS_1 w)).2 28 0 1 (by omega)]; exact e
    · exact e
  exact ⟨FRS_cg h.fr (f 0 10 (by omega)) (fun c k q1 q2 => f c k (by omega)), fun t ht => by rw [f 9 t (by omega)]; exact h.at t ht, AI_cg h.ai (fun c k hc => f c k (by omega)), fun q => absurd s0 q, fun q => absurd (s0.symm.trans q) (by decide)⟩
theorem Sd_quit_1 {P : Int32 → Int32 → Int32 → (Nat → Int32) → Prop} {Q : Int32 → (Nat → Int32) → Prop} {w : fw_V} (h : Sd_1 P Q w) (hP : Pd P Q) (hn : w 28 0 1 ≠ 0) : Sd_1 P Q (mf_Mo_quit_1 w) := by
  unfold mf_Mo_quit_1
  exact Sd_rest_1 (Sd_rp_1 h hP hn (by decide))
/-- the alarm of a TICK -/
theorem Sd_alarm_1 {P : Int32 → Int32 → Int32 → (Nat → Int32) → Prop} {Q : Int32 → (Nat → Int32) → Prop} {w : fw_V} (h : Sd_1 P Q w) (hP : Pd P Q) (h3 : w 28 0 1 = 3) (h5 : vp_in (w 37 0 1) 5) (ha : vp_in (w 47 0 (4 * 1)) 3) : Sd_1 P Q (mf_Mo_alarm_1 w) := by
  have j2 : ∀ u : fw_V, Sd_1 P Q u → u 28 0 1 = 3 → ¬ w 37 0 1 = 0 → u 37 0 1 = w 37 0 1 → u 47 0 (4 * 1) = w 47 0 (4 * 1) → Sd_1 P Q (mf_Mo_alarm_1_j2 u) := by
    intro u hu u3 hne e37 e47
    unfold mf_Mo_alarm_1_j2 mf_Mo_reply_1
    (try dsimp only)
    have h1 : Sd_1 P Q (fw_up u 38 0 1 0) := Sd_up_1 hu (by decide)
    have s1 : fw_up u 38 0 1 0 28 0 1 = 3 := by rw [fw_up_c (by decide)]; exact u3
    have e1 : fw_up u 38 0 1 0 37 0 1 = w 37 0 1 := by rw [fw_up_c (by decide)]; exact e37
    have e2 : fw_up u 38 0 1 0 47 0 (4 * 1) = w 47 0 (4 * 1) := by rw [fw_up_c (by decide)]; exact e47
    obtain ⟨u1, eu⟩ : ∃ u1, u1 = fw_up u 38 0 1 0 := ⟨_, rfl⟩
    rw [← eu] at h1 s1 e1 e2 ⊢
    have w9 : ∀ c k, c ≠ 9 → fw_up (fw_up u1 9 0 0 (u1 47 0 4)) 9 0 1 (fw_up u1 9 0 0 (u1 47 0 4) 48 0 4) c 0 k = u1 c 0 k := fun c k hc => by rw [fw_up_c hc, fw_up_c hc]
    rw [w9 29 _ (by decide)]
    have r0 : R9 (fw_up (fw_up u1 9 0 0 (u1 47 0 4)) 9 0 1 (fw_up u1 9 0 0 (u1 47 0 4) 48 0 4)) 0 = w 47 0 (4 * 1) := by
      unfold R9
      rw [if_pos (by decide), fw_up_k (by decide), fw_up_s]; exact e2
    have pos : nI 0 < u1 37 0 1 := by
      rw [e1]
      obtain ⟨z, hz, ez⟩ := vp_in_of h5 (by decide)
      rw [ez] at hne ⊢
      refine (nI_ltI (by omega) (by omega)).mpr ?_
      by_cases q : z = 0
      · subst q; exact absurd rfl hne
      · omega
    obtain ⟨z, hz, ez⟩ := vp_in_of ha (by decide)
    have g := h1.dq s1 0 (by decide) pos
    refine Sd_u9_1 h1 w9 (hP.2.2.2 _ _ _ _ (h1.ds (by rw [s1]; decide)) (by rw [r0]; exact ha) ?_)
    rw [r0]
    unfold WD_1
    rw [if_pos (by rw [ez, nI_clamp (by omega)]; exact hz)]
    rw [show 4 * 1 + 0 = 4 * 1 from rfl, e2] at g
    exact g
  unfold mf_Mo_alarm_1 mf_Mo_alarm_1_j1 mf_Mo_alarm_1_j3
  (try dsimp only)
  by_cases h0 : w 37 0 1 = 0
  · rw [if_pos h0]; exact h
  · rw [if_neg h0]
    by_cases hw : w 36 0 1 ≤ 0
    · rw [if_pos hw]
      by_cases h255 : w 39 0 1 = 255
      · rw [if_pos h255]
        exact j2 _ (Sd_up_1 (Sd_up_1 h (by decide)) (by decide)) (by rw [fw_up_c (by decide), fw_up_c (by decide)]; exact h3) h0 (by rw [fw_up_c (by decide), fw_up_c (by decide)]) (by rw [fw_up_c (by decide), fw_up_c (by decide)])
      · rw [if_neg h255]
        exact j2 _ (Sd_up_1 (Sd_up_1 h (by decide)) (by decide)) (by rw [fw_up_c (by decide), fw_up_c (by decide)]; exact h3) h0 (by rw [fw_up_c (by decide), fw_up_c (by decide)]) (by rw [fw_up_c (by decide), fw_up_c (by decide)])
    · rw [if_neg hw]
      by_cases hd : (3 : Int32) ≤ fw_up w 38 0 1 (w 38 0 1 + 1) 38 0 1
      · rw [if_pos hd]
        exact j2 _ (Sd_up_1 h (by decide)) (by rw [fw_up_c (by decide)]; exact h3) h0 (by rw [fw_up_c (by decide)]) (by rw [fw_up_c (by decide)])
      · rw [if_neg hd]; exact Sd_up_1 h (by decide)
/-- INPUT -/
theorem Sd_input_1 {P : Int32 → Int32 → Int32 → (Nat → Int32) → Prop} {Q : Int32 → (Nat → Int32) → Prop} {w : fw_V} (h : Sd_1 P Q w) (hP : Pd P Q) (hn : w 28 0 1 ≠ 0) : Sd_1 P Q (mf_Mo_pulse_1_j1 w) := by
  rw [pi_1]
  unfold LF_1 mf_Mo_reply_1
  (try dsimp only)
  obtain ⟨g, eg⟩ : ∃ g, g = GM (mf_Mo_isGood_1 w (nI 0)) (mf_Mo_isGood_1 w (nI 1)) (mf_Mo_isGood_1 w (nI 2)) := ⟨_, rfl⟩
  obtain ⟨w6, e6⟩ : ∃ w6, w6 = fw_up (fw_up (fw_up (fw_up (fw_up (fw_up (fw_up w 9 0 0 (IM_1 w 0 0)) 9 0 1 (IM_1 w 0 1)) 9 0 2 (IM_1 w 1 0)) 9 0 3 (IM_1 w 1 1)) 9 0 4 (IM_1 w 2 0)) 9 0 5 (IM_1 w 2 1)) 9 0 6 g := ⟨_, rfl⟩
  have w6c : ∀ c k, c ≠ 9 → w6 c 0 k = w c 0 k := fun c k hc => by rw [e6, fw_up_c hc, fw_up_c hc, fw_up_c hc, fw_up_c hc, fw_up_c hc, fw_up_c hc, fw_up_c hc]
  rw [← eg, ← e6]
  have s : Sd_1 P Q (mf_Mo_send w6 13 (w6 29 0 1) (w6 34 0 1) 2) := by
    rw [w6c 29 _ (by decide)]
    exact Sd_u9_1 h w6c (hP.2.2.1 _ _ _ _ (h.ds hn) (by rw [w6c 34 _ (by decide)]; exact (h.ai _).2.1))
  obtain ⟨ws, es⟩ : ∃ ws, ws = mf_Mo_send w6 13 (w6 29 0 1) (w6 34 0 1) 2 := ⟨_, rfl⟩
  rw [← es] at s ⊢
  refine ⟨FRS_cg s.fr (fw_up_c (by decide)) (fun c k q1 q2 => fw_up_c (by omega)), fun t ht => by rw [fw_up_c (by decide)]; exact s.at t ht, AI_up s.ai (fun _ => and255 _), ?_, ?_⟩
  · rw [fw_up_c (by decide), fw_up_c (by decide), WD_cg_1 (w := ws) (fun s hs => fw_up_c (by decide))]; exact s.ds
  · intro q j hj hl
    rw [fw_up_c (by decide)] at q hl
    rw [fw_up_c (by decide), fw_up_c (by decide)]
    exact s.dq q j hj hl

/-- a TICK of a DEVICE -/
theorem Sd_pulse_0 {P : Int32 → Int32 → Int32 → (Nat → Int32) → Prop} {Q : Int32 → (Nat → Int32) → Prop} {w : fw_V} (h : Sd_0 P Q w) (hP : Pd P Q) (h5 : vp_in (w 37 0 0) 5) (ha : vp_in (w 47 0 (4 * 0)) 3) (h4 : vp_in (w 28 0 0) 4) : Sd_0 P Q (mf_Mo_pulse_0 w) := by
  unfold mf_Mo_pulse_0
  (try dsimp only)
  by_cases h0 : w 28 0 0 = 0
  · rw [if_pos h0]; exact h
  · rw [if_neg h0]
    have h2 : Sd_0 P Q (fw_up w 32 0 0 (w 32 0 0 + 1)) := Sd_up_0 h (by decide)
    have s2 : fw_up w 32 0 0 (w 32 0 0 + 1) 28 0 0 = w 28 0 0 := fw_up_c (by decide)
    have e37 : fw_up w 32 0 0 (w 32 0 0 + 1) 37 0 0 = w 37 0 0 := fw_up_c (by decide)
    have e47 : fw_up w 32 0 0 (w 32 0 0 + 1) 47 0 (4 * 0) = w 47 0 (4 * 0) := fw_up_c (by decide)
    obtain ⟨w2, e2⟩ : ∃ w2, w2 = fw_up w 32 0 0 (w 32 0 0 + 1) := ⟨_, rfl⟩
    rw [← e2] at h2 s2 e37 e47 ⊢
    have n2 : w2 28 0 0 ≠ 0 := by rw [s2]; exact h0
    rw [s2]
    by_cases h1 : w 28 0 0 = 1
    · rw [if_pos h1]
      by_cases q : w2 32 0 0 = 16
      · rw [if_pos q]; exact Sd_rest_0 h2
      · rw [if_neg q]; exact h2
    · rw [if_neg h1]
      by_cases h22 : w 28 0 0 = 2
      · rw [if_pos h22]
        by_cases q : (3 : Int32) ≤ w2 32 0 0
        · rw [if_pos q]
          have h3 : Sd_0 P Q (fw_up w2 33 0 0 (w2 33 0 0 + 1)) := Sd_up_0 h2 (by decide)
          by_cases q3 : w2 33 0 0 = 3
          · rw [if_pos q3]; exact Sd_quit_0 h3 hP (by rw [fw_up_c (by decide)]; exact n2)
          · rw [if_neg q3]; exact Sd_rp_0 (Sd_up_0 h3 (by decide)) hP (by rw [fw_up_c (by decide), fw_up_c (by decide)]; exact n2) (by decide)
        · rw [if_neg q]; exact h2
      · rw [if_neg h22]
        have h3 : w 28 0 0 = 3 := by
          obtain ⟨z, hz, ez⟩ := vp_in_of h4 (by decide)
          rw [ez] at h0 h1 h22 ⊢
          rcases (show z = 0 ∨ z = 1 ∨ z = 2 ∨ z = 3 by omega) with rfl | rfl | rfl | rfl
          · exact absurd rfl h0
          · exact absurd rfl h1
          · exact absurd rfl h22
          · rfl
        by_cases q : w2 32 0 0 = 4
        · rw [if_pos q]
          refine Sd_quit_0 (Sd_cg_0 h2 (fun c k hc => fw_up_c (by omega)) (fw_up_k (by decide))) hP (by rw [fw_up_c (by decide)]; exact n2)
        · rw [if_neg q]
          refine Sd_input_0 (Sd_alarm_0 h2 hP (by rw [s2]; exact h3) (by rw [e37]; exact h5) (by rw [e47]; exact ha)) hP ?_
          rw [al28_0]; exact n2
theorem Sd_conn_0 {P : Int32 → Int32 → Int32 → (Nat → Int32) → Prop} {Q : Int32 → (Nat → Int32) → Prop} {w : fw_V} {who : Int32} (h : Sd_0 P Q w) (hP : Pd P Q) (h5 : ∀ c d, P 5 who c d) (hQ : Q who (fun s => if s < 3 then w 10 0 s - 1 else 0)) : Sd_0 P Q (mf_Mo_connect_0 w who) := by
  have j1 : Sd_0 P Q (mf_Mo_connect_0_j1 w who) := by
    rw [conn_eq_0]
    by_cases q : w 28 0 0 ≤ 1
    · rw [if_pos q]
      obtain ⟨w4, e4⟩ : ∃ w4, w4 = fw_up (fw_up (fw_up w 28 0 0 1) 29 0 0 who) 32 0 0 0 := ⟨_, rfl⟩
      obtain ⟨w5, e5⟩ : ∃ w5, w5 = MX_0 (MX_0 (MX_0 w4 0) 1) 2 := ⟨_, rfl⟩
      rw [← e4, ← e5]
      have w5c : ∀ c k, ¬ ((c = 43 ∨ c = 44) ∧ 3 * 0 ≤ k ∧ k < 3 * 0 + 3) → ¬ (c = 31 ∧ k = 0) → w5 c 0 k = w4 c 0 k := fun c k q1 q2 => by
        rw [e5, MX_o_0 (by decide) (by omega) (by omega), MX_o_0 (by decide) (by omega) (by omega), MX_o_0 (by decide) (by omega) (by omega)]
      have w4c : ∀ c k, c ≠ 28 → c ≠ 29 → c ≠ 32 → w4 c 0 k = w c 0 k := fun c k q1 q2 q3 => by rw [e4, fw_up_c q3, fw_up_c q2, fw_up_c q1]
      have s28 : w5 28 0 0 = 1 := by rw [w5c 28 _ (by omega) (by omega), e4, fw_up_c (by decide), fw_up_c (by decide), fw_up_s]
      have s29 : w5 29 0 0 = who := by rw [w5c 29 _ (by omega) (by omega), e4, fw_up_c (by decide), fw_up_s]
      have wd : WD_0 w5 = fun s => if s < 3 then w 10 0 s - 1 else 0 := by
        funext s
        unfold WD_0
        by_cases z : s < 3
        · rw [if_pos z, if_pos z]
          rcases (show s = 0 ∨ s = 1 ∨ s = 2 by omega) with rfl | rfl | rfl
          · rw [e5, MX_o_0 (by decide) (by omega) (by omega), MX_o_0 (by decide) (by omega) (by omega), MX_w_0 (by decide), w4c 10 _ (by decide) (by decide) (by decide)]
          · rw [e5, MX_o_0 (by decide) (by omega) (by omega), MX_w_0 (by decide), MX_o_0 (by decide) (by omega) (by omega), w4c 10 _ (by decide) (by decide) (by decide)]
          · rw [e5, MX_w_0 (by decide), MX_o_0 (by decide) (by omega) (by omega), MX_o_0 (by decide) (by omega) (by omega), w4c 10 _ (by decide) (by decide) (by decide)]
        · rw [if_neg z, if_neg z]
      have d5 : Sd_0 P Q w5 := by
        have g : ∀ c k, (4 ≤ c ∧ c ≤ 9) ∨ c = 21 ∨ c = 25 ∨ c = 34 ∨ c = 0 → w5 c 0 k = w c 0 k := fun c k hc => by rw [w5c c k (by omega) (by omega), w4c c k (by omega) (by omega) (by omega)]
        refine ⟨FRS_cg h.fr (g 0 10 (by omega)) (fun c k q1 q2 => g c k (by omega)), fun t ht => by rw [g 9 t (by omega)]; exact h.at t ht, AI_cg h.ai (fun c k hc => g c k (by omega)), fun _ => ?_, fun z => absurd (s28.symm.trans z) (by decide)⟩
        rw [s29, wd]; exact hQ
      exact Sd_rp_0 d5 hP (by rw [s28]; decide) (by decide)
    · rw [if_neg q]; exact h
  unfold mf_Mo_connect_0
  (try dsimp only)
  by_cases h0 : w 28 0 0 = 0
  · rw [if_pos h0]; exact j1
  · rw [if_neg h0]
    by_cases hw : w 29 0 0 = who
    · rw [if_pos hw]; exact j1
    · rw [if_neg hw]; exact Sd_u9_0 h (fun _ _ _ => rfl) (h5 _ _)
theorem Sd_shift_0 {P : Int32 → Int32 → Int32 → (Nat → Int32) → Prop} {Q : Int32 → (Nat → Int32) → Prop} {w : fw_V} {a b : Int32} {p : Nat} (h : Sd_0 P Q w) (h3 : w 28 0 0 = 3) (hp : p < 4) (e37 : w 37 0 0 = nI (p + 1)) : Sd_0 P Q (mf_Mo_obeys_0_j6 (fw_up (fw_up w 36 0 0 0) 37 0 0 (nI p)) a b) := by
  obtain ⟨w1, e1⟩ : ∃ w1, w1 = fw_up (fw_up w 36 0 0 0) 37 0 0 (nI p) := ⟨_, rfl⟩
  have w1c : ∀ c k, c ≠ 36 → c ≠ 37 → w1 c 0 k = w c 0 k := fun c k q1 q2 => by rw [e1, fw_up_c q2, fw_up_c q1]
  have q1 : w1 37 0 0 = nI p := by rw [e1]; exact fw_up_s
  rw [← e1]
  -- the shifted state, cell by cell
  have sh : (∀ c k, c ≠ 47 → c ≠ 48 → mf_Mo_obeys_0_j6 w1 a b c 0 k = w1 c 0 k) ∧ ∀ j, j < p → mf_Mo_obeys_0_j6 w1 a b 47 0 (4 * 0 + j) = w1 47 0 (4 * 0 + j + 1) := by
    have so : ∀ (u : fw_V) (j c k : Nat), c ≠ 47 → c ≠ 48 → SM_0 u j c 0 k = u c 0 k := fun u j c k z1 z2 => by unfold SM_0; rw [fw_up_c z2, fw_up_c z1]
    have s47 : ∀ (u : fw_V) (j k : Nat), SM_0 u j 47 0 k = if k = 4 * 0 + j then u 47 0 (4 * 0 + j + 1) else u 47 0 k := fun u j k => by
      unfold SM_0
      rw [fw_up_c (by decide)]
      by_cases z : k = 4 * 0 + j
      · rw [if_pos z, z, fw_up_s]
      · rw [if_neg z, fw_up_k z]
    rw [sm1_0 (by omega) q1]
    by_cases p0 : p ≤ 0
    · rw [if_pos p0]; exact ⟨fun _ _ _ _ => rfl, fun j hj => by omega⟩
    · rw [if_neg p0, sm2_0 (by omega) (SM_37_0.trans q1)]
      by_cases p1 : p ≤ 1
      · rw [if_pos p1]
        refine ⟨fun c k z1 z2 => so _ _ _ _ z1 z2, fun j hj => ?_⟩
        have : j = 0 := by omega
        subst this
        rw [s47, if_pos rfl]
      · rw [if_neg p1, sm3_0 (by omega) (SM_37_0.trans (SM_37_0.trans q1))]
        by_cases p2 : p ≤ 2
        · rw [if_pos p2]
          refine ⟨fun c k z1 z2 => by rw [so _ _ _ _ z1 z2, so _ _ _ _ z1 z2], fun j hj => ?_⟩
          rcases (show j = 0 ∨ j = 1 by omega) with rfl | rfl
          · rw [s47, if_neg (by omega), s47, if_pos rfl]
          · rw [s47, if_pos rfl, s47, if_neg (by omega)]
        · rw [if_neg p2]
          refine ⟨fun c k z1 z2 => by rw [so _ _ _ _ z1 z2, so _ _ _ _ z1 z2, so _ _ _ _ z1 z2], fun j hj => ?_⟩
          rcases (show j = 0 ∨ j = 1 ∨ j = 2 by omega) with rfl | rfl | rfl
          · rw [s47, if_neg (by omega), s47, if_neg (by omega), s47, if_pos rfl]
          · rw [s47, if_neg (by omega), s47, if_pos rfl, s47, if_neg (by omega)]
          · rw [s47, if_pos rfl, s47, if_neg (by omega), s47, if_neg (by omega)]
  obtain ⟨w7, e7⟩ : ∃ w7, w7 = mf_Mo_obeys_0_j6 w1 a b := ⟨_, rfl⟩
  rw [← e7] at sh ⊢
  obtain ⟨sc, s7⟩ := sh
  have g : ∀ c k, c ≠ 36 → c ≠ 37 → c ≠ 47 → c ≠ 48 → w7 c 0 k = w c 0 k := fun c k z1 z2 z3 z4 => by rw [sc c k z3 z4, w1c c k z1 z2]
  refine ⟨FRS_cg h.fr (g 0 10 (by decide) (by decide) (by decide) (by decide)) (fun c k z1 z2 => g c k (by omega) (by omega) (by omega) (by omega)), fun t ht => by rw [g 9 t (by decide) (by decide) (by decide) (by decide)]; exact h.at t ht, AI_cg h.ai (fun c k hc => g c k (by omega) (by omega) (by omega) (by omega)), ?_, ?_⟩
  · rw [g 28 _ (by decide) (by decide) (by decide) (by decide), g 29 _ (by decide) (by decide) (by decide) (by decide), WD_cg_0 (w := w) (fun s hs => g 43 _ (by decide) (by decide) (by decide) (by decide))]; exact h.ds
  · intro _ j hj hl
    rw [sc 37 _ (by decide) (by decide), q1] at hl
    have jp : j < p := (nI_ltI (by omega) (by omega)).mp hl
    rw [s7 j jp, g 43 _ (by decide) (by decide) (by decide) (by decide), w1c 47 _ (by decide) (by decide)]
    exact h.dq h3 (j + 1) (by omega) (by rw [e37]; exact (nI_ltI (by omega) (by omega)).mpr (by omega))

/-- a TICK of a DEVICE -/
theorem Sd_pulse_1 {P : Int32 → Int32 → Int32 → (Nat → Int32) → Prop} {Q : Int32 → (Nat → Int32) → Prop} {w : fw_V} (h : Sd_1 P Q w) (hP : Pd P Q) (h5 : vp_in (w 37 0 1) 5) (ha : vp_in (w 47 0 (4 * 1)) 3) (h4 : vp_in (w 28 0 1) 4) : Sd_1 P Q (mf_Mo_pulse_1 w) := by
  unfold mf_Mo_pulse_1
  (try dsimp only)
  by_cases h0 : w 28 0 1 = 0
  · rw [if_pos h0]; exact h
  · rw [if_neg h0]
    have h2 : Sd_1 P Q (fw_up w 32 0 1 (w 32 0 1 + 1)) := Sd_up_1 h (by decide)
    have s2 : fw_up w 32 0 1 (w 32 0 1 + 1) 28 0 1 = w 28 0 1 := fw_up_c (by decide)
    have e37 : fw_up w 32 0 1 (w 32 0 1 + 1) 37 0 1 = w 37 0 1 := fw_up_c (by decide)
    have e47 : fw_up w 32 0 1 (w 32 0 1 + 1) 47 0 (4 * 1) = w 47 0 (4 * 1) := fw_up_c (by decide)
    obtain ⟨w2, e2⟩ : ∃ w2, w2 = fw_up w 32 0 1 (w 32 0 1 + 1) := ⟨_, rfl⟩
    rw [← e2] at h2 s2 e37 e47 ⊢
    have n2 : w2 28 0 1 ≠ 0 := by rw [s2]; exact h0
    rw [s2]
    by_cases h1 : w 28 0 1 = 1
    · rw [if_pos h1]
      by_cases q : w2 32 0 1 = 16
      · rw [if_pos q]; exact Sd_rest_1 h2
      · rw [if_neg q]; exact h2
    · rw [if_neg h1]
      by_cases h22 : w 28 0 1 = 2
      · rw [if_pos h22]
        by_cases q : (3 : Int32) ≤ w2 32 0 1
        · rw [if_pos q]
          have h3 : Sd_1 P Q (fw_up w2 33 0 1 (w2 33 0 1 + 1)) := Sd_up_1 h2 (by decide)
          by_cases q3 : w2 33 0 1 = 3
          · rw [if_pos q3]; exact Sd_quit_1 h3 hP (by rw [fw_up_c (by decide)]; exact n2)
          · rw [if_neg q3]; exact Sd_rp_1 (Sd_up_1 h3 (by decide)) hP (by rw [fw_up_c (by decide), fw_up_c (by decide)]; exact n2) (by decide)
        · rw [if_neg q]; exact h2
      · rw [if_neg h22]
        have h3 : w 28 0 1 = 3 := by
          obtain ⟨z, hz, ez⟩ := vp_in_of h4 (by decide)
          rw [ez] at h0 h1 h22 ⊢
          rcases (show z = 0 ∨ z = 1 ∨ z = 2 ∨ z = 3 by omega) with rfl | rfl | rfl | rfl
          · exact absurd rfl h0
          · exact absurd rfl h1
          · exact absurd rfl h22
          · rfl
        by_cases q : w2 32 0 1 = 4
        · rw [if_pos q]
          refine Sd_quit_1 (Sd_cg_1 h2 (fun c k hc => fw_up_c (by omega)) (fw_up_k (by decide))) hP (by rw [fw_up_c (by decide)]; exact n2)
        · rw [if_neg q]
          refine Sd_input_1 (Sd_alarm_1 h2 hP (by rw [s2]; exact h3) (by rw [e37]; exact h5) (by rw [e47]; exact ha)) hP ?_
          rw [al28_1]; exact n2
theorem Sd_conn_1 {P : Int32 → Int32 → Int32 → (Nat → Int32) → Prop} {Q : Int32 → (Nat → Int32) → Prop} {w : fw_V} {who : Int32} (h : Sd_1 P Q w) (hP : Pd P Q) (h5 : ∀ c d, P 5 who c d) (hQ : Q who (fun s => if s < 3 then w 10 0 s - 1 else 0)) : Sd_1 P Q (mf_Mo_connect_1 w who) := by
  have j1 : Sd_1 P Q (mf_Mo_connect_1_j1 w who) := by
    rw [conn_eq_1]
    by_cases q : w 28 0 1 ≤ 1
    · rw [if_pos q]
      obtain ⟨w4, e4⟩ : ∃ w4, w4 = fw_up (fw_up (fw_up w 28 0 1 1) 29 0 1 who) 32 0 1 0 := ⟨_, rfl⟩
      obtain ⟨w5, e5⟩ : ∃ w5, w5 = MX_1 (MX_1 (MX_1 w4 0) 1) 2 := ⟨_, rfl⟩
      rw [← e4, ← e5]
      have w5c : ∀ c k, ¬ ((c = 43 ∨ c = 44) ∧ 3 * 1 ≤ k ∧ k < 3 * 1 + 3) → ¬ (c = 31 ∧ k = 1) → w5 c 0 k = w4 c 0 k := fun c k q1 q2 => by
        rw [e5, MX_o_1 (by decide) (by omega) (by omega), MX_o_1 (by decide) (by omega) (by omega), MX_o_1 (by decide) (by omega) (by omega)]
      have w4c : ∀ c k, c ≠ 28 → c ≠ 29 → c ≠ 32 → w4 c 0 k = w c 0 k := fun c k q1 q2 q3 => by rw [e4, fw_up_c q3, fw_up_c q2, fw_up_c q1]
      have s28 : w5 28 0 1 = 1 := by rw [w5c 28 _ (by omega) (by omega), e4, fw_up_c (by decide), fw_up_c (by decide), fw_up_s]
      have s29 : w5 29 0 1 = who := by rw [w5c 29 _ (by omega) (by omega), e4, fw_up_c (by decide), fw_up_s]
      have wd : WD_1 w5 = fun s => if s < 3 then w 10 0 s - 1 else 0 := by
        funext s
        unfold WD_1
        by_cases z : s < 3
        · rw [if_pos z, if_pos z]
          rcases (show s = 0 ∨ s = 1 ∨ s = 2 by omega) with rfl | rfl | rfl
          · rw [e5, MX_o_1 (by decide) (by omega) (by omega), MX_o_1 (by decide) (by omega) (by omega), MX_w_1 (by decide), w4c 10 _ (by decide) (by decide) (by decide)]
          · rw [e5, MX_o_1 (by decide) (by omega) (by omega), MX_w_1 (by decide), MX_o_1 (by decide) (by omega) (by omega), w4c 10 _ (by decide) (by decide) (by decide)]
          · rw [e5, MX_w_1 (by decide), MX_o_1 (by decide) (by omega) (by omega), MX_o_1 (by decide) (by omega) (by omega), w4c 10 _ (by decide) (by decide) (by decide)]
        · rw [if_neg z, if_neg z]
      have d5 : Sd_1 P Q w5 := by
        have g : ∀ c k, (4 ≤ c ∧ c ≤ 9) ∨ c = 21 ∨ c = 25 ∨ c = 34 ∨ c = 0 → w5 c 0 k = w c 0 k := fun c k hc => by rw [w5c c k (by omega) (by omega), w4c c k (by omega) (by omega) (by omega)]
        refine ⟨FRS_cg h.fr (g 0 10 (by omega)) (fun c k q1 q2 => g c k (by omega)), fun t ht => by rw [g 9 t (by omega)]; exact h.at t ht, AI_cg h.ai (fun c k hc => g c k (by omega)), fun _ => ?_, fun z => absurd (s28.symm.trans z) (by decide)⟩
        rw [s29, wd]; exact hQ
      exact Sd_rp_1 d5 hP (by rw [s28]; decide) (by decide)
    · rw [if_neg q]; exact h
  unfold mf_Mo_connect_1
  (try dsimp only)
  by_cases h0 : w 28 0 1 = 0
  · rw [if_pos h0]; exact j1
  · rw [if_neg h0]
    by_cases hw : w 29 0 1 = who
    · rw [if_pos hw]; exact j1
    · rw [if_neg hw]; exact Sd_u9_1 h (fun _ _ _ => rfl) (h5 _ _)
theorem Sd_shift_1 {P : Int32 → Int32 → Int32 → (Nat → Int32) → Prop} {Q : Int32 → (Nat → Int32) → Prop} {w : fw_V} {a b : Int32} {p : Nat} (h : Sd_1 P Q w) (h3 : w 28 0 1 = 3) (hp : p < 4) (e37 : w 37 0 1 = nI (p + 1)) : Sd_1 P Q (mf_Mo_obeys_1_j6 (fw_up (fw_up w 36 0 1 0) 37 0 1 (nI p)) a b) := by
  obtain ⟨w1, e1⟩ : ∃ w1, w1 = fw_up (fw_up w 36 0 1 0) 37 0 1 (nI p) := ⟨_, rfl⟩
  have w1c : ∀ c k, c ≠ 36 → c ≠ 37 → w1 c 0 k = w c 0 k := fun c k q1 q2 => by rw [e1, fw_up_c q2, fw_up_c q1]
  have q1 : w1 37 0 1 = nI p := by rw [e1]; exact fw_up_s
  rw [← e1]
  -- the shifted state, cell by cell
  have sh : (∀ c k, c ≠ 47 → c ≠ 48 → mf_Mo_obeys_1_j6 w1 a b c 0 k = w1 c 0 k) ∧ ∀ j, j < p → mf_Mo_obeys_1_j6 w1 a b 47 0 (4 * 1 + j) = w1 47 0 (4 * 1 + j + 1) := by
    have so : ∀ (u : fw_V) (j c k : Nat), c ≠ 47 → c ≠ 48 → SM_1 u j c 0 k = u c 0 k := fun u j c k z1 z2 => by unfold SM_1; rw [fw_up_c z2, fw_up_c z1]
    have s47 : ∀ (u : fw_V) (j k : Nat), SM_1 u j 47 0 k = if k = 4 * 1 + j then u 47 0 (4 * 1 + j + 1) else u 47 0 k := fun u j k => by
      unfold SM_1
      rw [fw_up_c (by decide)]
      by_cases z : k = 4 * 1 + j
      · rw [if_pos z, z, fw_up_s]
      · rw [if_neg z, fw_up_k z]
    rw [sm1_1 (by omega) q1]
    by_cases p0 : p ≤ 0
    · rw [if_pos p0]; exact ⟨fun _ _ _ _ => rfl, fun j hj => by omega⟩
    · rw [if_neg p0, sm2_1 (by omega) (SM_37_1.trans q1)]
      by_cases p1 : p ≤ 1
      · rw [if_pos p1]
        refine ⟨fun c k z1 z2 => so _ _ _ _ z1 z2, fun j hj => ?_⟩
        have : j = 0 := by omega
        subst this
        rw [s47, if_pos rfl]
      · rw [if_neg p1, sm3_1 (by omega) (SM_37_1.trans (SM_37_1.trans q1))]
        by_cases p2 : p ≤ 2
        · rw [if_pos p2]
          refine ⟨fun c k z1 z2 => by rw [so _ _ _ _ z1 z2, so _ _ _ _ z1 z2], fun j hj => ?_⟩
          rcases (show j = 0 ∨ j = 1 by omega) with rfl | rfl
          · rw [s47, if_neg (by omega), s47, if_pos rfl]
          · rw [s47, if_pos rfl, s47, if_neg (by omega)]
        · rw [if_neg p2]
          refine ⟨fun c k z1 z2 => by rw [so _ _ _ _ z1 z2, so _ _ _ _ z1 z2, so _ _ _ _ z1 z2], fun j hj => ?_⟩
          rcases (show j = 0 ∨ j = 1 ∨ j = 2 by omega) with rfl | rfl | rfl
          · rw [s47, if_neg (by omega), s47, if_neg (by omega), s47, if_pos rfl]
          · rw [s47, if_neg (by omega), s47, if_pos rfl, s47, if_neg (by omega)]
          · rw [s47, if_pos rfl, s47, if_neg (by omega), s47, if_neg (by omega)]
  obtain ⟨w7, e7⟩ : ∃ w7, w7 = mf_Mo_obeys_1_j6 w1 a b := ⟨_, rfl⟩
  rw [← e7] at sh ⊢
  obtain ⟨sc, s7⟩ := sh
  have g : ∀ c k, c ≠ 36 → c ≠ 37 → c ≠ 47 → c ≠ 48 → w7 c 0 k = w c 0 k := fun c k z1 z2 z3 z4 => by rw [sc c k z3 z4, w1c c k z1 z2]
  refine ⟨FRS_cg h.fr (g 0 10 (by decide) (by decide) (by decide) (by decide)) (fun c k z1 z2 => g c k (by omega) (by omega) (by omega) (by omega)), fun t ht => by rw [g 9 t (by decide) (by decide) (by decide) (by decide)]; exact h.at t ht, AI_cg h.ai (fun c k hc => g c k (by omega) (by omega) (by omega) (by omega)), ?_, ?_⟩
  · rw [g 28 _ (by decide) (by decide) (by decide) (by decide), g 29 _ (by decide) (by decide) (by decide) (by decide), WD_cg_1 (w := w) (fun s hs => g 43 _ (by decide) (by decide) (by decide) (by decide))]; exact h.ds
  · intro _ j hj hl
    rw [sc 37 _ (by decide) (by decide), q1] at hl
    have jp : j < p := (nI_ltI (by omega) (by omega)).mp hl
    rw [s7 j jp, g 43 _ (by decide) (by decide) (by decide) (by decide), w1c 47 _ (by decide) (by decide)]
    exact h.dq h3 (j + 1) (by omega) (by rw [e37]; exact (nI_ltI (by omega) (by omega)).mpr (by omega))

theorem Sd_obeys_0 {P : Int32 → Int32 → Int32 → (Nat → Int32) → Prop} {Q : Int32 → (Nat → Int32) → Prop} {w : fw_V} {a n : Int32} (h : Sd_0 P Q w) (hP : Pd P Q) (hn : w 28 0 0 ≠ 0) (h5 : vp_in (w 37 0 0) 5) (hp0 : w 28 0 0 = 3 → w 37 0 0 = 0 → w 36 0 0 = 0) : Sd_0 P Q (mf_Mo_obeys_0 w a n) := by
  by_cases e6 : a = 6
  · subst e6
    rw [ob6_0]
    by_cases q : w 28 0 0 = 1
    · rw [if_pos q]
      have g := Sd_rp_0 (a := 7) (c := n) (Sd_up_0 (c := 32) (k := 0) (x := 0) (Sd_up_0 (c := 44) (k := ((0 : Int32) + n).toNatClampNeg) (x := w 10 0 0) h (by decide)) (by decide)) hP (by rw [fw_up_c (by decide), fw_up_c (by decide)]; exact hn) (by decide)
      unfold mf_Mo_reply_0 at g
      (try dsimp only at g)
      rw [fw_up_c (show (29 : Nat) ≠ 32 by decide), fw_up_c (show (29 : Nat) ≠ 44 by decide)] at g
      exact g
    · rw [if_neg q]; exact h
  · by_cases e8 : a = 8
    · subst e8
      rw [ob8_0]
      by_cases q : w 28 0 0 = 1
      · rw [if_pos q]
        obtain ⟨l1, l2⟩ := lacks_m_0 w 8 n
        by_cases l : ¬ LM_0 w 0 ∧ ¬ LM_0 w 1 ∧ ¬ LM_0 w 2
        · rw [l1 l]
          unfold mf_Mo_obeys_0_j44
          (try dsimp only)
          have d1 : Sd_0 P Q (fw_up w 28 0 0 2) := by
            refine ⟨FRS_cg h.fr (fw_up_c (by decide)) (fun c k q1 q2 => fw_up_c (by omega)), fun t ht => by rw [fw_up_c (by decide)]; exact h.at t ht, AI_cg h.ai (fun c k hc => fw_up_c (by omega)), fun _ => ?_, fun z => absurd (fw_up_s.symm.trans z) (by decide)⟩
            rw [fw_up_c (by decide), WD_cg_0 (w := w) (fun s hs => fw_up_c (by decide))]; exact h.ds hn
          have d3 : Sd_0 P Q (fw_up (fw_up (fw_up w 28 0 0 2) 32 0 0 0) 33 0 0 0) := Sd_up_0 (Sd_up_0 d1 (by decide)) (by decide)
          have s3 : fw_up (fw_up (fw_up w 28 0 0 2) 32 0 0 0) 33 0 0 0 28 0 0 = 2 := by rw [fw_up_c (by decide), fw_up_c (by decide), fw_up_s]
          obtain ⟨w3, e3⟩ : ∃ w3, w3 = fw_up (fw_up (fw_up w 28 0 0 2) 32 0 0 0) 33 0 0 0 := ⟨_, rfl⟩
          rw [← e3] at d3 s3 ⊢
          have d4 := Sd_rp_0 (a := 9) (c := 0) d3 hP (by rw [s3]; decide) (by decide)
          have s4 : mf_Mo_reply_0 w3 9 0 28 0 0 = 2 := by
            unfold mf_Mo_reply_0
            rw [msend_c (by decide) (by decide) (by decide) (by decide) (by decide) (by decide) (by decide)]; exact s3
          obtain ⟨w4, e4⟩ : ∃ w4, w4 = mf_Mo_reply_0 w3 9 0 := ⟨_, rfl⟩
          rw [← e4] at d4 s4 ⊢
          exact Sd_rp_0 d4 hP (by rw [s4]; decide) (by decide)
        · rw [l2 l]; exact Sd_quit_0 h hP hn
      · rw [if_neg q]
        by_cases q2 : w 28 0 0 = 2
        · rw [if_pos q2]
          have g := Sd_rp_0 (a := 9) (c := 0) h hP hn (by decide)
          unfold mf_Mo_reply_0 at g
          exact g
        · rw [if_neg q2]; exact h
    · by_cases e11 : a = 11
      · subst e11
        rw [ob11_0]
        by_cases q : w 28 0 0 = 2
        · rw [if_pos q]
          obtain ⟨w7, e7⟩ : ∃ w7, w7 = fw_up (fw_up (fw_up (fw_up (fw_up (fw_up (fw_up w 28 0 0 3) 32 0 0 0) 34 0 0 0) 35 0 0 (-1)) 37 0 0 0) 36 0 0 0) 39 0 0 0 := ⟨_, rfl⟩
          have g : ∀ c k, c ≠ 28 → c ≠ 32 → c ≠ 34 → c ≠ 35 → c ≠ 36 → c ≠ 37 → c ≠ 39 → w7 c 0 k = w c 0 k := fun c k z1 z2 z3 z4 z5 z6 z7 => by rw [e7, fw_up_c z7, fw_up_c z5, fw_up_c z6, fw_up_c z4, fw_up_c z3, fw_up_c z2, fw_up_c z1]
          have s37 : w7 37 0 0 = 0 := by rw [e7, fw_up_c (by decide), fw_up_c (by decide), fw_up_s]
          have ai7 : AI w7 := by
            rw [e7]
            exact AI_up (AI_up (AI_up (AI_up (AI_up (AI_up (AI_up h.ai (fun z => by omega)) (fun z => by omega)) (fun _ => fw_inc (by decide))) (fun z => by omega)) (fun z => by omega)) (fun z => by omega)) (fun z => by omega)
          rw [← e7]
          refine ⟨FRS_cg h.fr (g 0 10 (by decide) (by decide) (by decide) (by decide) (by decide) (by decide) (by decide)) (fun c k z1 z2 => g c k (by omega) (by omega) (by omega) (by omega) (by omega) (by omega) (by omega)), fun t ht => by rw [g 9 t (by decide) (by decide) (by decide) (by decide) (by decide) (by decide) (by decide)]; exact h.at t ht, ai7, fun _ => ?_, fun _ j hj hl => ?_⟩
          · rw [g 29 _ (by decide) (by decide) (by decide) (by decide) (by decide) (by decide) (by decide), WD_cg_0 (w := w) (fun s hs => g 43 _ (by decide) (by decide) (by decide) (by decide) (by decide) (by decide) (by decide))]; exact h.ds hn
          · rw [s37] at hl
            have := (nI_ltI (a := j) (b := 0) (by omega) (by omega)).mp hl
            omega
        · rw [if_neg q]; exact h
      · by_cases e12 : a = 12
        · subst e12
          rw [ob12_0]
          by_cases q : w 28 0 0 = 3
          · rw [if_pos q]
            by_cases q2 : mf_Mo_isNewer n (w 35 0 0) = 0
            · rw [if_pos q2]; exact h
            · rw [if_neg q2]
              have d : Sd_0 P Q (fw_up (fw_up w 35 0 0 n) 32 0 0 0) := Sd_up_0 (Sd_up_0 h (by decide)) (by decide)
              obtain ⟨w2, e2⟩ : ∃ w2, w2 = fw_up (fw_up w 35 0 0 n) 32 0 0 0 := ⟨_, rfl⟩
              rw [← e2] at d ⊢
              exact Sd_cg_0 d (fun c k hc => (mt_3_0 (w := w2) (a := 12) (b := n)).2 c 0 k (by omega)) ((mt_3_0 (w := w2) (a := 12) (b := n)).2 0 0 10 (by omega))
          · rw [if_neg q]; exact h
        · by_cases e15 : a = 15
          · subst e15
            rw [ob15_0]
            by_cases q : w 28 0 0 = 3
            · rw [if_pos q]
              by_cases q2 : w 36 0 0 ≤ 0
              · rw [if_pos q2]; exact h
              · rw [if_neg q2]
                by_cases q3 : w 36 0 0 = n
                · rw [if_pos q3]
                  obtain ⟨z, hz, ez⟩ := vp_in_of h5 (by decide)
                  have z0 : z ≠ 0 := fun zz => by
                    subst zz
                    exact q2 (by rw [hp0 q ez]; decide)
                  have ep : w 37 0 0 - 1 = nI (z - 1) := by rw [ez, nI_p (by omega)]
                  rw [ep]
                  exact Sd_shift_0 h q (by omega) (by rw [ez]; congr 1; omega)
                · rw [if_neg q3]; exact h
            · rw [if_neg q]; exact h
          · by_cases e16 : a = 16
            · subst e16
              rw [ob16_0]; exact Sd_rest_0 h
            · rw [ob_no_0 e6 e8 e11 e12 e15 e16]; exact h
/-- a FRAME comes to a DEVICE -/
theorem Sd_arr_0 {P : Int32 → Int32 → Int32 → (Nat → Int32) → Prop} {Q : Int32 → (Nat → Int32) → Prop} {w : fw_V} {a who n : Int32} (h : Sd_0 P Q w) (hP : Pd P Q) (h5 : vp_in (w 37 0 0) 5) (hp0 : w 28 0 0 = 3 → w 37 0 0 = 0 → w 36 0 0 = 0) (h55 : ∀ c d, P 5 who c d) (hQ : a = 3 → Q who (fun s => if s < 3 then w 10 0 s - 1 else 0)) : Sd_0 P Q (mf_Mo_arrives_0 w a who n) := by
  unfold mf_Mo_arrives_0
  (try dsimp only)
  by_cases e1 : a = 1
  · rw [if_pos e1]
    by_cases q : w 30 0 0 = 0
    · rw [if_pos q]; exact h
    · rw [if_neg q]
      by_cases q2 : w 30 0 0 = n
      · rw [if_pos q2]; exact Sd_u9_0 h (fun c k hc => fw_up_c hc) (hP.2.1 _ _)
      · rw [if_neg q2]; exact h
  · rw [if_neg e1]
    by_cases e3 : a = 3
    · rw [if_pos e3]; exact Sd_conn_0 h hP h55 (hQ e3)
    · rw [if_neg e3]
      by_cases q : w 28 0 0 = 0
      · rw [if_pos q]; exact h
      · rw [if_neg q]
        by_cases q2 : w 29 0 0 = who
        · rw [if_pos q2]; exact Sd_obeys_0 h hP q h5 hp0
        · rw [if_neg q2]; exact h

theorem Sd_obeys_1 {P : Int32 → Int32 → Int32 → (Nat → Int32) → Prop} {Q : Int32 → (Nat → Int32) → Prop} {w : fw_V} {a n : Int32} (h : Sd_1 P Q w) (hP : Pd P Q) (hn : w 28 0 1 ≠ 0) (h5 : vp_in (w 37 0 1) 5) (hp0 : w 28 0 1 = 3 → w 37 0 1 = 0 → w 36 0 1 = 0) : Sd_1 P Q (mf_Mo_obeys_1 w a n) := by
  by_cases e6 : a = 6
  · subst e6
    rw [ob6_1]
    by_cases q : w 28 0 1 = 1
    · rw [if_pos q]
      have g := Sd_rp_1 (a := 7) (c := n) (Sd_up_1 (c := 32) (k := 1) (x := 0) (Sd_up_1 (c := 44) (k := ((3 : Int32) + n).toNatClampNeg) (x := w 10 0 0) h (by decide)) (by decide)) hP (by rw [fw_up_c (by decide), fw_up_c (by decide)]; exact hn) (by decide)
      unfold mf_Mo_reply_1 at g
      (try dsimp only at g)
      rw [fw_up_c (show (29 : Nat) ≠ 32 by decide), fw_up_c (show (29 : Nat) ≠ 44 by decide)] at g
      exact g
    · rw [if_neg q]; exact h
  · by_cases e8 : a = 8
    · subst e8
      rw [ob8_1]
      by_cases q : w 28 0 1 = 1
      · rw [if_pos q]
        obtain ⟨l1, l2⟩ := lacks_m_1 w 8 n
        by_cases l : ¬ LM_1 w 0 ∧ ¬ LM_1 w 1 ∧ ¬ LM_1 w 2
        · rw [l1 l]
          unfold mf_Mo_obeys_1_j44
          (try dsimp only)
          have d1 : Sd_1 P Q (fw_up w 28 0 1 2) := by
            refine ⟨FRS_cg h.fr (fw_up_c (by decide)) (fun c k q1 q2 => fw_up_c (by omega)), fun t ht => by rw [fw_up_c (by decide)]; exact h.at t ht, AI_cg h.ai (fun c k hc => fw_up_c (by omega)), fun _ => ?_, fun z => absurd (fw_up_s.symm.trans z) (by decide)⟩
            rw [fw_up_c (by decide), WD_cg_1 (w := w) (fun s hs => fw_up_c (by decide))]; exact h.ds hn
          have d3 : Sd_1 P Q (fw_up (fw_up (fw_up w 28 0 1 2) 32 0 1 0) 33 0 1 0) := Sd_up_1 (Sd_up_1 d1 (by decide)) (by decide)
          have s3 : fw_up (fw_up (fw_up w 28 0 1 2) 32 0 1 0) 33 0 1 0 28 0 1 = 2 := by rw [fw_up_c (by decide), fw_up_c (by decide), fw_up_s]
          obtain ⟨w3, e3⟩ : ∃ w3, w3 = fw_up (fw_up (fw_up w 28 0 1 2) 32 0 1 0) 33 0 1 0 := ⟨_, rfl⟩
          rw [← e3] at d3 s3 ⊢
          have d4 := Sd_rp_1 (a := 9) (c := 0) d3 hP (by rw [s3]; decide) (by decide)
          have s4 : mf_Mo_reply_1 w3 9 0 28 0 1 = 2 := by
            unfold mf_Mo_reply_1
            rw [msend_c (by decide) (by decide) (by decide) (by decide) (by decide) (by decide) (by decide)]; exact s3
          obtain ⟨w4, e4⟩ : ∃ w4, w4 = mf_Mo_reply_1 w3 9 0 := ⟨_, rfl⟩
          rw [← e4] at d4 s4 ⊢
          exact Sd_rp_1 d4 hP (by rw [s4]; decide) (by decide)
        · rw [l2 l]; exact Sd_quit_1 h hP hn
      · rw [if_neg q]
        by_cases q2 : w 28 0 1 = 2
        · rw [if_pos q2]
          have g := Sd_rp_1 (a := 9) (c := 0) h hP hn (by decide)
          unfold mf_Mo_reply_1 at g
          exact g
        · rw [if_neg q2]; exact h
    · by_cases e11 : a = 11
      · subst e11
        rw [ob11_1]
        by_cases q : w 28 0 1 = 2
        · rw [if_pos q]
          obtain ⟨w7, e7⟩ : ∃ w7, w7 = fw_up (fw_up (fw_up (fw_up (fw_up (fw_up (fw_up w 28 0 1 3) 32 0 1 0) 34 0 1 0) 35 0 1 (-1)) 37 0 1 0) 36 0 1 0) 39 0 1 0 := ⟨_, rfl⟩
          have g : ∀ c k, c ≠ 28 → c ≠ 32 → c ≠ 34 → c ≠ 35 → c ≠ 36 → c ≠ 37 → c ≠ 39 → w7 c 0 k = w c 0 k := fun c k z1 z2 z3 z4 z5 z6 z7 => by rw [e7, fw_up_c z7, fw_up_c z5, fw_up_c z6, fw_up_c z4, fw_up_c z3, fw_up_c z2, fw_up_c z1]
          have s37 : w7 37 0 1 = 0 := by rw [e7, fw_up_c (by decide), fw_up_c (by decide), fw_up_s]
          have ai7 : AI w7 := by
            rw [e7]
            exact AI_up (AI_up (AI_up (AI_up (AI_up (AI_up (AI_up h.ai (fun z => by omega)) (fun z => by omega)) (fun _ => fw_inc (by decide))) (fun z => by omega)) (fun z => by omega)) (fun z => by omega)) (fun z => by omega)
          rw [← e7]
          refine ⟨FRS_cg h.fr (g 0 10 (by decide) (by decide) (by decide) (by decide) (by decide) (by decide) (by decide)) (fun c k z1 z2 => g c k (by omega) (by omega) (by omega) (by omega) (by omega) (by omega) (by omega)), fun t ht => by rw [g 9 t (by decide) (by decide) (by decide) (by decide) (by decide) (by decide) (by decide)]; exact h.at t ht, ai7, fun _ => ?_, fun _ j hj hl => ?_⟩
          · rw [g 29 _ (by decide) (by decide) (by decide) (by decide) (by decide) (by decide) (by decide), WD_cg_1 (w := w) (fun s hs => g 43 _ (by decide) (by decide) (by decide) (by decide) (by decide) (by decide) (by decide))]; exact h.ds hn
          · rw [s37] at hl
            have := (nI_ltI (a := j) (b := 0) (by omega) (by omega)).mp hl
            omega
        · rw [if_neg q]; exact h
      · by_cases e12 : a = 12
        · subst e12
          rw [ob12_1]
          by_cases q : w 28 0 1 = 3
          · rw [if_pos q]
            by_cases q2 : mf_Mo_isNewer n (w 35 0 1) = 0
            · rw [if_pos q2]; exact h
            · rw [if_neg q2]
              have d : Sd_1 P Q (fw_up (fw_up w 35 0 1 n) 32 0 1 0) := Sd_up_1 (Sd_up_1 h (by decide)) (by decide)
              obtain ⟨w2, e2⟩ : ∃ w2, w2 = fw_up (fw_up w 35 0 1 n) 32 0 1 0 := ⟨_, rfl⟩
              rw [← e2] at d ⊢
              exact Sd_cg_1 d (fun c k hc => (mt_3_1 (w := w2) (a := 12) (b := n)).2 c 0 k (by omega)) ((mt_3_1 (w := w2) (a := 12) (b := n)).2 0 0 10 (by omega))
          · rw [if_neg q]; exact h
        · by_cases e15 : a = 15
          · subst e15
            rw [ob15_1]
            by_cases q : w 28 0 1 = 3
            · rw [if_pos q]
              by_cases q2 : w 36 0 1 ≤ 0
              · rw [if_pos q2]; exact h
              · rw [if_neg q2]
                by_cases q3 : w 36 0 1 = n
                · rw [if_pos q3]
                  obtain ⟨z, hz, ez⟩ := vp_in_of h5 (by decide)
                  have z0 : z ≠ 0 := fun zz => by
                    subst zz
                    exact q2 (by rw [hp0 q ez]; decide)
                  have ep : w 37 0 1 - 1 = nI (z - 1) := by rw [ez, nI_p (by omega)]
                  rw [ep]
                  exact Sd_shift_1 h q (by omega) (by rw [ez]; congr 1; omega)
                · rw [if_neg q3]; exact h
            · rw [if_neg q]; exact h
          · by_cases e16 : a = 16
            · subst e16
              rw [ob16_1]; exact Sd_rest_1 h
            · rw [ob_no_1 e6 e8 e11 e12 e15 e16]; exact h
/-- a FRAME comes to a DEVICE -/
theorem Sd_arr_1 {P : Int32 → Int32 → Int32 → (Nat → Int32) → Prop} {Q : Int32 → (Nat → Int32) → Prop} {w : fw_V} {a who n : Int32} (h : Sd_1 P Q w) (hP : Pd P Q) (h5 : vp_in (w 37 0 1) 5) (hp0 : w 28 0 1 = 3 → w 37 0 1 = 0 → w 36 0 1 = 0) (h55 : ∀ c d, P 5 who c d) (hQ : a = 3 → Q who (fun s => if s < 3 then w 10 0 s - 1 else 0)) : Sd_1 P Q (mf_Mo_arrives_1 w a who n) := by
  unfold mf_Mo_arrives_1
  (try dsimp only)
  by_cases e1 : a = 1
  · rw [if_pos e1]
    by_cases q : w 30 0 1 = 0
    · rw [if_pos q]; exact h
    · rw [if_neg q]
      by_cases q2 : w 30 0 1 = n
      · rw [if_pos q2]; exact Sd_u9_1 h (fun c k hc => fw_up_c hc) (hP.2.1 _ _)
      · rw [if_neg q2]; exact h
  · rw [if_neg e1]
    by_cases e3 : a = 3
    · rw [if_pos e3]; exact Sd_conn_1 h hP h55 (hQ e3)
    · rw [if_neg e3]
      by_cases q : w 28 0 1 = 0
      · rw [if_pos q]; exact h
      · rw [if_neg q]
        by_cases q2 : w 29 0 1 = who
        · rw [if_pos q2]; exact Sd_obeys_1 h hP q h5 hp0
        · rw [if_neg q2]; exact h

/-- a session that has been given -/
def Sx (l : Nat) (S : Int32) : Prop := ∃ s, s ≤ l ∧ S = nI s
def Qs (l : Nat) (w : fw_V) : Int32 → (Nat → Int32) → Prop := fun S W => Sx l S ∧ ∀ r, r < 2 → w 12 0 r ≠ 0 → w 13 0 r = S → ∀ s, s < 3 → W s = w 24 0 (3 * r + s)
def Ps (l : Nat) (w : fw_V) : Int32 → Int32 → Int32 → (Nat → Int32) → Prop := fun t S c d => Sx l S ∧ (t = 12 ∨ t = 13 → vp_in c 256) ∧ (t = 6 → ¬ d 0 < 0) ∧ (t = 14 → vp_in (d 0) 3) ∧ (t = 14 → ∀ r, r < 2 → w 12 0 r ≠ 0 → w 13 0 r = S → ¬ w 24 0 (3 * r + (d 0).toNatClampNeg) < 0) ∧ (t = 3 → ∀ r, r < 2 → w 12 0 r ≠ 0 → w 13 0 r = S → ∀ s, s < 3 → d s = w 24 0 (3 * r + s) + 1)
def J (l : Nat) (w : fw_V) : Prop := (w 0 0 54 = nI l) ∧ (∀ r, r < 2 → w 12 0 r ≠ 0 → Sx l (w 13 0 r)) ∧ (∀ r, r < 2 → ∀ r', r' < 2 → w 12 0 r ≠ 0 → w 12 0 r' ≠ 0 → w 13 0 r = w 13 0 r' → r = r') ∧ (FRS (Ps l w) w) ∧ (AI w) ∧ (w 28 0 0 ≠ 0 → Qs l w (w 29 0 0) (WD_0 w)) ∧ (w 28 0 1 ≠ 0 → Qs l w (w 29 0 1) (WD_1 w)) ∧ (w 28 0 0 = 3 → ∀ j, j < 4 → nI j < w 37 0 0 → ¬ w 43 0 (3 * 0 + (w 47 0 (4 * 0 + j)).toNatClampNeg) < 0) ∧ (w 28 0 1 = 3 → ∀ j, j < 4 → nI j < w 37 0 1 → ¬ w 43 0 (3 * 1 + (w 47 0 (4 * 1 + j)).toNatClampNeg) < 0)
theorem J.la {l : Nat} {w : fw_V} (h : J l w) : w 0 0 54 = nI l := h.1
theorem J.rs {l : Nat} {w : fw_V} (h : J l w) : ∀ r, r < 2 → w 12 0 r ≠ 0 → Sx l (w 13 0 r) := h.2.1
theorem J.ap {l : Nat} {w : fw_V} (h : J l w) : ∀ r, r < 2 → ∀ r', r' < 2 → w 12 0 r ≠ 0 → w 12 0 r' ≠ 0 → w 13 0 r = w 13 0 r' → r = r' := h.2.2.1
theorem J.fr {l : Nat} {w : fw_V} (h : J l w) : FRS (Ps l w) w := h.2.2.2.1
theorem J.ai {l : Nat} {w : fw_V} (h : J l w) : AI w := h.2.2.2.2.1
theorem J.d0 {l : Nat} {w : fw_V} (h : J l w) : w 28 0 0 ≠ 0 → Qs l w (w 29 0 0) (WD_0 w) := h.2.2.2.2.2.1
theorem J.d1 {l : Nat} {w : fw_V} (h : J l w) : w 28 0 1 ≠ 0 → Qs l w (w 29 0 1) (WD_1 w) := h.2.2.2.2.2.2.1
theorem J.q0 {l : Nat} {w : fw_V} (h : J l w) : w 28 0 0 = 3 → ∀ j, j < 4 → nI j < w 37 0 0 → ¬ w 43 0 (3 * 0 + (w 47 0 (4 * 0 + j)).toNatClampNeg) < 0 := h.2.2.2.2.2.2.2.1
theorem J.q1 {l : Nat} {w : fw_V} (h : J l w) : w 28 0 1 = 3 → ∀ j, j < 4 → nI j < w 37 0 1 → ¬ w 43 0 (3 * 1 + (w 47 0 (4 * 1 + j)).toNatClampNeg) < 0 := h.2.2.2.2.2.2.2.2
theorem Sx_0 {l : Nat} : Sx l 0 := ⟨0, Nat.zero_le _, rfl⟩
theorem Pd_s {l : Nat} {w : fw_V} : Pd (Ps l w) (Qs l w) := by
  refine ⟨fun S W t c d hq ht => ?_, fun c d => ?_, fun S W c d hq hc => ?_, fun S W c d hq h3 hd => ?_⟩
  · exact ⟨hq.1, fun z => by rcases ht with rfl | rfl | rfl | rfl | rfl <;> exact absurd z (by decide), fun z => by rcases ht with rfl | rfl | rfl | rfl | rfl <;> exact absurd z (by decide), fun z => by rcases ht with rfl | rfl | rfl | rfl | rfl <;> exact absurd z (by decide), fun z => by rcases ht with rfl | rfl | rfl | rfl | rfl <;> exact absurd z (by decide), fun z => by rcases ht with rfl | rfl | rfl | rfl | rfl <;> exact absurd z (by decide)⟩
  · exact ⟨Sx_0, fun z => absurd z (by decide), fun z => absurd z (by decide), fun z => absurd z (by decide), fun z => absurd z (by decide), fun z => absurd z (by decide)⟩
  · exact ⟨hq.1, fun _ => hc, fun z => absurd z (by decide), fun z => absurd z (by decide), fun z => absurd z (by decide), fun z => absurd z (by decide)⟩
  · refine ⟨hq.1, fun z => absurd z (by decide), fun z => absurd z (by decide), fun _ => h3, fun _ r hr ho hs => ?_, fun z => absurd z (by decide)⟩
    obtain ⟨k, hk, ek⟩ := vp_in_of h3 (by decide)
    rw [← hq.2 r hr ho hs (d 0).toNatClampNeg (by rw [ek, nI_clamp (by omega)]; exact hk)]
    exact hd
theorem Pr_s {l : Nat} {w : fw_V} {r : Nat} (h : J l w) (hr : r < 2) (ho : w 12 0 r ≠ 0) : Pr (Ps l w) (w 13 0 r) (fun s => w 24 0 (3 * r + s)) := by
  have hx := h.rs r hr ho
  refine ⟨fun t c d ht => ?_, fun c d => ?_, fun c d hd => ?_, fun c d hd => ?_, fun c d hc => ?_⟩
  · exact ⟨hx, fun z => by rcases ht with rfl | rfl | rfl | rfl <;> exact absurd z (by decide), fun z => by rcases ht with rfl | rfl | rfl | rfl <;> exact absurd z (by decide), fun z => by rcases ht with rfl | rfl | rfl | rfl <;> exact absurd z (by decide), fun z => by rcases ht with rfl | rfl | rfl | rfl <;> exact absurd z (by decide), fun z => by rcases ht with rfl | rfl | rfl | rfl <;> exact absurd z (by decide)⟩
  · exact ⟨Sx_0, fun z => absurd z (by decide), fun z => absurd z (by decide), fun z => absurd z (by decide), fun z => absurd z (by decide), fun z => absurd z (by decide)⟩
  · refine ⟨hx, fun z => absurd z (by decide), fun z => absurd z (by decide), fun z => absurd z (by decide), fun z => absurd z (by decide), fun _ r' hr' ho' hs' => ?_⟩
    have := h.ap r' hr' r hr ho' ho hs'
    subst this
    exact hd
  · exact ⟨hx, fun z => absurd z (by decide), fun _ => hd, fun z => absurd z (by decide), fun z => absurd z (by decide), fun z => absurd z (by decide)⟩
  · exact ⟨hx, fun _ => hc, fun z => absurd z (by decide), fun z => absurd z (by decide), fun z => absurd z (by decide), fun z => absurd z (by decide)⟩
/-- what is asked of frames weakens with the open sessions -/
theorem Ps_im {l l' : Nat} {w w' : fw_V} (hl : l ≤ l') (h : ∀ r S, r < 2 → Sx l S → w' 12 0 r ≠ 0 → w' 13 0 r = S → w 12 0 r ≠ 0 ∧ w 13 0 r = S ∧ ∀ s, w' 24 0 (3 * r + s) = w 24 0 (3 * r + s)) : ∀ a b c d, Ps l w a b c d → Ps l' w' a b c d := by
  intro t S c d hp
  obtain ⟨p1, p2, p3, p4, p5, p6⟩ := hp
  obtain ⟨s, hs, es⟩ := p1
  refine ⟨⟨s, by omega, es⟩, p2, p3, p4, fun z r hr ho hS => ?_, fun z r hr ho hS => ?_⟩
  · obtain ⟨k1, k2, k3⟩ := h r S hr ⟨s, hs, es⟩ ho hS
    rw [k3]; exact p5 z r hr k1 k2
  · obtain ⟨k1, k2, k3⟩ := h r S hr ⟨s, hs, es⟩ ho hS
    intro s hs
    rw [k3]; exact p6 z r hr k1 k2 s hs
theorem Qs_im {l l' : Nat} {w w' : fw_V} (hl : l ≤ l') (h : ∀ r S, r < 2 → Sx l S → w' 12 0 r ≠ 0 → w' 13 0 r = S → w 12 0 r ≠ 0 ∧ w 13 0 r = S ∧ ∀ s, w' 24 0 (3 * r + s) = w 24 0 (3 * r + s)) {S : Int32} {W : Nat → Int32} (hq : Qs l w S W) : Qs l' w' S W := by
  obtain ⟨⟨s, hs, es⟩, p2⟩ := hq
  refine ⟨⟨s, by omega, es⟩, fun r hr ho hS => ?_⟩
  obtain ⟨k1, k2, k3⟩ := h r S hr ⟨s, hs, es⟩ ho hS
  intro s hs
  rw [k3]; exact p2 r hr k1 k2 s hs

/-- RELATION r, open, has done something -/
theorem J_re_0 {l : Nat} {w w' : fw_V} (h : J l w) (ho : w 12 0 0 ≠ 0) (hz : Sz_0 (Ps l w) (w 13 0 0) w') (hw : ∀ c k, (c ≠ 0 ∧ c ≠ 4 ∧ c ≠ 5 ∧ c ≠ 6 ∧ c ≠ 7 ∧ c ≠ 8 ∧ c ≠ 9 ∧ c ≠ 49) → ¬ (k = 0 ∧ 12 ≤ c ∧ c ≤ 23) → ¬ (c = 27 ∧ 0 ≤ k ∧ k < 0 + 6) → w' c 0 k = w c 0 k) (h54 : w' 0 0 54 = w 0 0 54) : J l w' := by
  have key : ∀ r S, r < 2 → Sx l S → w' 12 0 r ≠ 0 → w' 13 0 r = S → w 12 0 r ≠ 0 ∧ w 13 0 r = S ∧ ∀ s, w' 24 0 (3 * r + s) = w 24 0 (3 * r + s) := by
    intro r S hr _ o s
    have e24 : ∀ s, w' 24 0 (3 * r + s) = w 24 0 (3 * r + s) := fun s => hw 24 _ (by decide) (by omega) (by omega)
    by_cases z : r = 0
    · subst z; exact ⟨ho, by rw [← s]; exact (hz.op o).symm, e24⟩
    · rw [hw 12 r (by decide) (by omega) (by omega)] at o
      rw [hw 13 r (by decide) (by omega) (by omega)] at s
      exact ⟨o, s, e24⟩
  have os : ∀ r, r < 2 → w' 12 0 r ≠ 0 → w 12 0 r ≠ 0 ∧ w' 13 0 r = w 13 0 r := by
    intro r hr o
    by_cases z : r = 0
    · subst z; exact ⟨ho, hz.op o⟩
    · rw [hw 12 r (by decide) (by omega) (by omega)] at o
      exact ⟨o, hw 13 r (by decide) (by omega) (by omega)⟩
  refine ⟨by rw [h54]; exact h.la, fun r hr o => ?_, fun r hr r' hr' o o' e => ?_, FRS_im hz.fr (Ps_im (Nat.le_refl _) key), hz.ai, fun q => ?_, fun q => ?_, fun q j hj hl => ?_, fun q j hj hl => ?_⟩
  · rw [(os r hr o).2]; exact h.rs r hr (os r hr o).1
  · rw [(os r hr o).2, (os r' hr' o').2] at e
    exact h.ap r hr r' hr' (os r hr o).1 (os r' hr' o').1 e
  · rw [hw 28 _ (by decide) (by omega) (by omega)] at q
    rw [hw 29 _ (by decide) (by omega) (by omega), WD_cg_0 (w := w) (fun s hs => hw 43 _ (by decide) (by omega) (by omega))]
    exact Qs_im (Nat.le_refl _) key (h.d0 q)
  · rw [hw 28 _ (by decide) (by omega) (by omega)] at q
    rw [hw 29 _ (by decide) (by omega) (by omega), WD_cg_1 (w := w) (fun s hs => hw 43 _ (by decide) (by omega) (by omega))]
    exact Qs_im (Nat.le_refl _) key (h.d1 q)
  · rw [hw 28 _ (by decide) (by omega) (by omega)] at q
    rw [hw 37 _ (by decide) (by omega) (by omega)] at hl
    rw [hw 43 _ (by decide) (by omega) (by omega), hw 47 _ (by decide) (by omega) (by omega)]
    exact h.q0 q j hj hl
  · rw [hw 28 _ (by decide) (by omega) (by omega)] at q
    rw [hw 37 _ (by decide) (by omega) (by omega)] at hl
    rw [hw 43 _ (by decide) (by omega) (by omega), hw 47 _ (by decide) (by omega) (by omega)]
    exact h.q1 q j hj hl
theorem J_Sq_0 {l : Nat} {w : fw_V} (h : J l w) (h9 : At w) : Sq_0 (Ps l w) (w 13 0 0) (fun s => w 24 0 (3 * 0 + s)) w := ⟨h.fr, h9, h.ai, fun s hs => by rw [show 0 + s = 3 * 0 + s by omega], rfl⟩
theorem J_Sd_0 {l : Nat} {w : fw_V} (h : J l w) (h9 : At w) : Sd_0 (Ps l w) (Qs l w) w := ⟨h.fr, h9, h.ai, h.d0, h.q0⟩
/-- DEVICE d has done something -/
theorem J_de_0 {l : Nat} {w w' : fw_V} (h : J l w) (hz : Sd_0 (Ps l w) (Qs l w) w') (hw : ∀ c k, (c = 12 ∨ c = 13 ∨ c = 24) ∨ ((c = 28 ∨ c = 29 ∨ c = 37) ∧ k = 1) ∨ (c = 43 ∧ 3 * 1 ≤ k ∧ k < 3 * 1 + 3) ∨ (c = 47 ∧ 4 * 1 ≤ k ∧ k < 4 * 1 + 4) → w' c 0 k = w c 0 k) (ha : ∀ j, j < 4 → vp_in (w 47 0 (4 * 1 + j)) 3) (h54 : w' 0 0 54 = w 0 0 54) : J l w' := by
  have key : ∀ r S, r < 2 → Sx l S → w' 12 0 r ≠ 0 → w' 13 0 r = S → w 12 0 r ≠ 0 ∧ w 13 0 r = S ∧ ∀ s, w' 24 0 (3 * r + s) = w 24 0 (3 * r + s) := by
    intro r S hr _ o s
    rw [hw 12 r (by omega)] at o
    rw [hw 13 r (by omega)] at s
    exact ⟨o, s, fun s => hw 24 _ (by omega)⟩
  have dq : w' 28 0 1 ≠ 0 → Qs l w' (w' 29 0 1) (WD_1 w') := fun q => by
    rw [hw 28 _ (by omega)] at q
    rw [hw 29 _ (by omega), WD_cg_1 (w := w) (fun s hs => hw 43 _ (by omega))]
    exact Qs_im (Nat.le_refl _) key (h.d1 q)
  have qq : w' 28 0 1 = 3 → ∀ j, j < 4 → nI j < w' 37 0 1 → ¬ w' 43 0 (3 * 1 + (w' 47 0 (4 * 1 + j)).toNatClampNeg) < 0 := fun q j hj hl => by
    rw [hw 28 _ (by omega)] at q
    rw [hw 37 _ (by omega)] at hl
    obtain ⟨z, hz, ez⟩ := vp_in_of (ha j hj) (by decide)
    have g := h.q1 q j hj hl
    rw [hw 47 _ (by omega)]
    rw [ez, nI_clamp (by omega)] at g ⊢
    rw [hw 43 _ (by omega)]
    exact g
  refine ⟨by rw [h54]; exact h.la, fun r hr o => ?_, fun r hr r' hr' o o' e => ?_, FRS_im hz.fr (Ps_im (Nat.le_refl _) key), hz.ai, fun z => Qs_im (Nat.le_refl _) key (hz.ds z), dq, hz.dq, qq⟩
  · rw [hw 12 r (by omega)] at o
    rw [hw 13 r (by omega)]; exact h.rs r hr o
  · rw [hw 12 r (by omega)] at o
    rw [hw 12 r' (by omega)] at o'
    rw [hw 13 r (by omega), hw 13 r' (by omega)] at e
    exact h.ap r hr r' hr' o o' e
theorem J_beat_0 {B l : Nat} {v w : fw_V} (g : GB B v w) (h : J l w) : J l (mf_Mo_beat_0 w) := by
  by_cases ho : w 12 0 0 = 0
  · have : mf_Mo_beat_0 w = w := by unfold mf_Mo_beat_0; rw [if_pos ho]
    rw [this]; exact h
  · exact J_re_0 h ho (Sz_beat_0 (J_Sq_0 h g.at) (Pr_s h (by decide) ho)) (fun c k q1 q2 q3 => mr0_Mo_beat_0 q1 q2 (by omega) w) (mz_Mo_beat_0 (by decide) w)
theorem J_pulse_0 {B l : Nat} {v w : fw_V} (g : GB B v w) (h : J l w) : J l (mf_Mo_pulse_0 w) :=
  J_de_0 h (Sd_pulse_0 (J_Sd_0 h g.at) Pd_s g.e0.q5 (g.e0.a3 0 (by decide)) g.e0.s4) (fun c k q => md0_Mo_pulse_0 (by omega) (by omega) w) g.e1.a3 (mz_Mo_pulse_0 (by decide) w)
theorem J_ctl_0 {B l : Nat} {v w : fw_V} {a b n : Int32} (g : GB B v w) (h : J l w) : J l (ctl_0 w a b n) := by
  by_cases ho : w 12 0 0 = 0
  · have : ctl_0 w a b n = w := by
      unfold ctl_0
      rw [if_pos ho, if_neg (show ¬ w 12 0 0 = 1 by rw [ho]; decide)]
      split <;> rfl
    rw [this]; exact h
  · exact J_re_0 h ho (Sz_ctl_0 (J_Sq_0 h g.at) (Pr_s h (by decide) ho)) (fun c k q1 q2 q3 => ctl_c_0 q1 q2 q3) (ctl_z_0 (by decide))
theorem J_arr_0 {B l : Nat} {v w : fw_V} {a who n : Int32} (g : GB B v w) (h : J l w) (hS : Sx l who) (hQ : a = 3 → ∀ r, r < 2 → w 12 0 r ≠ 0 → w 13 0 r = who → ∀ s, s < 3 → w 10 0 s = w 24 0 (3 * r + s) + 1) : J l (mf_Mo_arrives_0 w a who n) := by
  refine J_de_0 h (Sd_arr_0 (J_Sd_0 h g.at) Pd_s g.e0.q5 g.e0.wp (fun c d => ⟨hS, fun z => absurd z (by decide), fun z => absurd z (by decide), fun z => absurd z (by decide), fun z => absurd z (by decide), fun z => absurd z (by decide)⟩) (fun z => ⟨hS, fun r hr ho hs s hs3 => ?_⟩)) (fun c k q => md0_Mo_arrives_0 (by omega) (by omega) w _ _ _) g.e1.a3 (mz_Mo_arrives_0 (by decide) w _ _ _)
  show (if s < 3 then w 10 0 s - 1 else 0) = _
  rw [if_pos hs3, hQ z r hr ho hs s hs3]; simp
theorem J_close_0 {B l : Nat} {v w : fw_V} (g : GB B v w) (h : J l w) (ho : w 12 0 0 ≠ 0) : J l (mf_Mo_breakOff_0 w) :=
  J_re_0 h ho (Sz_break_0 (J_Sq_0 h g.at) (Pr_s h (by decide) ho)) (fun c k q1 q2 q3 => mr0_Mo_breakOff_0 q1 q2 (by omega) w) (mz_Mo_breakOff_0 (by decide) w)

/-- RELATION r, open, has done something -/
theorem J_re_1 {l : Nat} {w w' : fw_V} (h : J l w) (ho : w 12 0 1 ≠ 0) (hz : Sz_1 (Ps l w) (w 13 0 1) w') (hw : ∀ c k, (c ≠ 0 ∧ c ≠ 4 ∧ c ≠ 5 ∧ c ≠ 6 ∧ c ≠ 7 ∧ c ≠ 8 ∧ c ≠ 9 ∧ c ≠ 49) → ¬ (k = 1 ∧ 12 ≤ c ∧ c ≤ 23) → ¬ (c = 27 ∧ 6 ≤ k ∧ k < 6 + 6) → w' c 0 k = w c 0 k) (h54 : w' 0 0 54 = w 0 0 54) : J l w' := by
  have key : ∀ r S, r < 2 → Sx l S → w' 12 0 r ≠ 0 → w' 13 0 r = S → w 12 0 r ≠ 0 ∧ w 13 0 r = S ∧ ∀ s, w' 24 0 (3 * r + s) = w 24 0 (3 * r + s) := by
    intro r S hr _ o s
    have e24 : ∀ s, w' 24 0 (3 * r + s) = w 24 0 (3 * r + s) := fun s => hw 24 _ (by decide) (by omega) (by omega)
    by_cases z : r = 1
    · subst z; exact ⟨ho, by rw [← s]; exact (hz.op o).symm, e24⟩
    · rw [hw 12 r (by decide) (by omega) (by omega)] at o
      rw [hw 13 r (by decide) (by omega) (by omega)] at s
      exact ⟨o, s, e24⟩
  have os : ∀ r, r < 2 → w' 12 0 r ≠ 0 → w 12 0 r ≠ 0 ∧ w' 13 0 r = w 13 0 r := by
    intro r hr o
    by_cases z : r = 1
    · subst z; exact ⟨ho, hz.op o⟩
    · rw [hw 12 r (by decide) (by omega) (by omega)] at o
      exact ⟨o, hw 13 r (by decide) (by omega) (by omega)⟩
  refine ⟨by rw [h54]; exact h.la, fun r hr o => ?_, fun r hr r' hr' o o' e => ?_, FRS_im hz.fr (Ps_im (Nat.le_refl _) key), hz.ai, fun q => ?_, fun q => ?_, fun q j hj hl => ?_, fun q j hj hl => ?_⟩
  · rw [(os r hr o).2]; exact h.rs r hr (os r hr o).1
  · rw [(os r hr o).2, (os r' hr' o').2] at e
    exact h.ap r hr r' hr' (os r hr o).1 (os r' hr' o').1 e
  · rw [hw 28 _ (by decide) (by omega) (by omega)] at q
    rw [hw 29 _ (by decide) (by omega) (by omega), WD_cg_0 (w := w) (fun s hs => hw 43 _ (by decide) (by omega) (by omega))]
    exact Qs_im (Nat.le_refl _) key (h.d0 q)
  · rw [hw 28 _ (by decide) (by omega) (by omega)] at q
    rw [hw 29 _ (by decide) (by omega) (by omega), WD_cg_1 (w := w) (fun s hs => hw 43 _ (by decide) (by omega) (by omega))]
    exact Qs_im (Nat.le_refl _) key (h.d1 q)
  · rw [hw 28 _ (by decide) (by omega) (by omega)] at q
    rw [hw 37 _ (by decide) (by omega) (by omega)] at hl
    rw [hw 43 _ (by decide) (by omega) (by omega), hw 47 _ (by decide) (by omega) (by omega)]
    exact h.q0 q j hj hl
  · rw [hw 28 _ (by decide) (by omega) (by omega)] at q
    rw [hw 37 _ (by decide) (by omega) (by omega)] at hl
    rw [hw 43 _ (by decide) (by omega) (by omega), hw 47 _ (by decide) (by omega) (by omega)]
    exact h.q1 q j hj hl
theorem J_Sq_1 {l : Nat} {w : fw_V} (h : J l w) (h9 : At w) : Sq_1 (Ps l w) (w 13 0 1) (fun s => w 24 0 (3 * 1 + s)) w := ⟨h.fr, h9, h.ai, fun s hs => by rw [show 3 + s = 3 * 1 + s by omega], rfl⟩
theorem J_Sd_1 {l : Nat} {w : fw_V} (h : J l w) (h9 : At w) : Sd_1 (Ps l w) (Qs l w) w := ⟨h.fr, h9, h.ai, h.d1, h.q1⟩
/-- DEVICE d has done something -/
theorem J_de_1 {l : Nat} {w w' : fw_V} (h : J l w) (hz : Sd_1 (Ps l w) (Qs l w) w') (hw : ∀ c k, (c = 12 ∨ c = 13 ∨ c = 24) ∨ ((c = 28 ∨ c = 29 ∨ c = 37) ∧ k = 0) ∨ (c = 43 ∧ 3 * 0 ≤ k ∧ k < 3 * 0 + 3) ∨ (c = 47 ∧ 4 * 0 ≤ k ∧ k < 4 * 0 + 4) → w' c 0 k = w c 0 k) (ha : ∀ j, j < 4 → vp_in (w 47 0 (4 * 0 + j)) 3) (h54 : w' 0 0 54 = w 0 0 54) : J l w' := by
  have key : ∀ r S, r < 2 → Sx l S → w' 12 0 r ≠ 0 → w' 13 0 r = S → w 12 0 r ≠ 0 ∧ w 13 0 r = S ∧ ∀ s, w' 24 0 (3 * r + s) = w 24 0 (3 * r + s) := by
    intro r S hr _ o s
    rw [hw 12 r (by omega)] at o
    rw [hw 13 r (by omega)] at s
    exact ⟨o, s, fun s => hw 24 _ (by omega)⟩
  have dq : w' 28 0 0 ≠ 0 → Qs l w' (w' 29 0 0) (WD_0 w') := fun q => by
    rw [hw 28 _ (by omega)] at q
    rw [hw 29 _ (by omega), WD_cg_0 (w := w) (fun s hs => hw 43 _ (by omega))]
    exact Qs_im (Nat.le_refl _) key (h.d0 q)
  have qq : w' 28 0 0 = 3 → ∀ j, j < 4 → nI j < w' 37 0 0 → ¬ w' 43 0 (3 * 0 + (w' 47 0 (4 * 0 + j)).toNatClampNeg) < 0 := fun q j hj hl => by
    rw [hw 28 _ (by omega)] at q
    rw [hw 37 _ (by omega)] at hl
    obtain ⟨z, hz, ez⟩ := vp_in_of (ha j hj) (by decide)
    have g := h.q0 q j hj hl
    rw [hw 47 _ (by omega)]
    rw [ez, nI_clamp (by omega)] at g ⊢
    rw [hw 43 _ (by omega)]
    exact g
  refine ⟨by rw [h54]; exact h.la, fun r hr o => ?_, fun r hr r' hr' o o' e => ?_, FRS_im hz.fr (Ps_im (Nat.le_refl _) key), hz.ai, dq, fun z => Qs_im (Nat.le_refl _) key (hz.ds z), qq, hz.dq⟩
  · rw [hw 12 r (by omega)] at o
    rw [hw 13 r (by omega)]; exact h.rs r hr o
  · rw [hw 12 r (by omega)] at o
    rw [hw 12 r' (by omega)] at o'
    rw [hw 13 r (by omega), hw 13 r' (by omega)] at e
    exact h.ap r hr r' hr' o o' e
theorem J_beat_1 {B l : Nat} {v w : fw_V} (g : GB B v w) (h : J l w) : J l (mf_Mo_beat_1 w) := by
  by_cases ho : w 12 0 1 = 0
  · have : mf_Mo_beat_1 w = w := by unfold mf_Mo_beat_1; rw [if_pos ho]
    rw [this]; exact h
  · exact J_re_1 h ho (Sz_beat_1 (J_Sq_1 h g.at) (Pr_s h (by decide) ho)) (fun c k q1 q2 q3 => mr1_Mo_beat_1 q1 q2 (by omega) w) (mz_Mo_beat_1 (by decide) w)
theorem J_pulse_1 {B l : Nat} {v w : fw_V} (g : GB B v w) (h : J l w) : J l (mf_Mo_pulse_1 w) :=
  J_de_1 h (Sd_pulse_1 (J_Sd_1 h g.at) Pd_s g.e1.q5 (g.e1.a3 0 (by decide)) g.e1.s4) (fun c k q => md1_Mo_pulse_1 (by omega) (by omega) w) g.e0.a3 (mz_Mo_pulse_1 (by decide) w)
theorem J_ctl_1 {B l : Nat} {v w : fw_V} {a b n : Int32} (g : GB B v w) (h : J l w) : J l (ctl_1 w a b n) := by
  by_cases ho : w 12 0 1 = 0
  · have : ctl_1 w a b n = w := by
      unfold ctl_1
      rw [if_pos ho, if_neg (show ¬ w 12 0 1 = 1 by rw [ho]; decide)]
      split <;> rfl
    rw [this]; exact h
  · exact J_re_1 h ho (Sz_ctl_1 (J_Sq_1 h g.at) (Pr_s h (by decide) ho)) (fun c k q1 q2 q3 => ctl_c_1 q1 q2 q3) (ctl_z_1 (by decide))
theorem J_arr_1 {B l : Nat} {v w : fw_V} {a who n : Int32} (g : GB B v w) (h : J l w) (hS : Sx l who) (hQ : a = 3 → ∀ r, r < 2 → w 12 0 r ≠ 0 → w 13 0 r = who → ∀ s, s < 3 → w 10 0 s = w 24 0 (3 * r + s) + 1) : J l (mf_Mo_arrives_1 w a who n) := by
  refine J_de_1 h (Sd_arr_1 (J_Sd_1 h g.at) Pd_s g.e1.q5 g.e1.wp (fun c d => ⟨hS, fun z => absurd z (by decide), fun z => absurd z (by decide), fun z => absurd z (by decide), fun z => absurd z (by decide), fun z => absurd z (by decide)⟩) (fun z => ⟨hS, fun r hr ho hs s hs3 => ?_⟩)) (fun c k q => md1_Mo_arrives_1 (by omega) (by omega) w _ _ _) g.e0.a3 (mz_Mo_arrives_1 (by decide) w _ _ _)
  show (if s < 3 then w 10 0 s - 1 else 0) = _
  rw [if_pos hs3, hQ z r hr ho hs s hs3]; simp
theorem J_close_1 {B l : Nat} {v w : fw_V} (g : GB B v w) (h : J l w) (ho : w 12 0 1 ≠ 0) : J l (mf_Mo_breakOff_1 w) :=
  J_re_1 h ho (Sz_break_1 (J_Sq_1 h g.at) (Pr_s h (by decide) ho)) (fun c k q1 q2 q3 => mr1_Mo_breakOff_1 q1 q2 (by omega) w) (mz_Mo_breakOff_1 (by decide) w)

theorem J_cg {l : Nat} {w w' : fw_V} (h : J l w) (hf : FRS (Ps l w) w') (ha : AI w') (hw : ∀ c k, c = 12 ∨ c = 13 ∨ c = 24 ∨ c = 28 ∨ c = 29 ∨ c = 37 ∨ c = 43 ∨ c = 47 → w' c 0 k = w c 0 k) (h54 : w' 0 0 54 = w 0 0 54) : J l w' := by
  have key : ∀ r S, r < 2 → Sx l S → w' 12 0 r ≠ 0 → w' 13 0 r = S → w 12 0 r ≠ 0 ∧ w 13 0 r = S ∧ ∀ s, w' 24 0 (3 * r + s) = w 24 0 (3 * r + s) := by
    intro r S hr _ o s
    rw [hw 12 r (by omega)] at o
    rw [hw 13 r (by omega)] at s
    exact ⟨o, s, fun s => hw 24 _ (by omega)⟩
  refine ⟨by rw [h54]; exact h.la, fun r hr o => ?_, fun r hr r' hr' o o' e => ?_, FRS_im hf (Ps_im (Nat.le_refl _) key), ha, fun q => ?_, fun q => ?_, fun q j hj hl => ?_, fun q j hj hl => ?_⟩
  · rw [hw 12 r (by omega)] at o
    rw [hw 13 r (by omega)]; exact h.rs r hr o
  · rw [hw 12 r (by omega)] at o
    rw [hw 12 r' (by omega)] at o'
    rw [hw 13 r (by omega), hw 13 r' (by omega)] at e
    exact h.ap r hr r' hr' o o' e
  · rw [hw 28 _ (by omega)] at q
    rw [hw 29 _ (by omega), WD_cg_0 (w := w) (fun s hs => hw 43 _ (by omega))]
    exact Qs_im (Nat.le_refl _) key (h.d0 q)
  · rw [hw 28 _ (by omega)] at q
    rw [hw 29 _ (by omega), WD_cg_1 (w := w) (fun s hs => hw 43 _ (by omega))]
    exact Qs_im (Nat.le_refl _) key (h.d1 q)
  · rw [hw 28 _ (by omega)] at q
    rw [hw 37 _ (by omega)] at hl
    rw [hw 43 _ (by omega), hw 47 _ (by omega)]
    exact h.q0 q j hj hl
  · rw [hw 28 _ (by omega)] at q
    rw [hw 37 _ (by omega)] at hl
    rw [hw 43 _ (by omega), hw 47 _ (by omega)]
    exact h.q1 q j hj hl
theorem J_up {l : Nat} {w : fw_V} {c k : Nat} {x : Int32} (h : J l w) (hc : ¬ (c = 0 ∨ (4 ≤ c ∧ c ≤ 8) ∨ c = 12 ∨ c = 13 ∨ c = 21 ∨ c = 24 ∨ c = 25 ∨ c = 28 ∨ c = 29 ∨ c = 34 ∨ c = 37 ∨ c = 43 ∨ c = 47)) : J l (fw_up w c 0 k x) :=
  J_cg h (FRS_cg h.fr (fw_up_c (by omega)) (fun c k q1 q2 => fw_up_c (by omega))) (AI_cg h.ai (fun c k hc => fw_up_c (by omega))) (fun c k q => fw_up_c (by omega)) (fw_up_c (by omega))
theorem J_u0 {l : Nat} {w : fw_V} {k : Nat} {x : Int32} (h : J l w) (hk : k ≠ 10 ∧ k ≠ 54) : J l (fw_up w 0 0 k x) :=
  J_cg h (FRS_cg h.fr (fw_up_k (Ne.symm hk.1)) (fun c k q1 q2 => fw_up_c (by omega))) (AI_cg h.ai (fun c k hc => fw_up_c (by omega))) (fun c k q => fw_up_c (by omega)) (fw_up_k (Ne.symm hk.2))
theorem J_tk {B l : Nat} : ∀ (n : Nat) (v w : fw_V) (a x : Int32), GB B v w → J l w → J l (mf_Mo_tick_j1 n w a x).2 := by
  intro n
  induction n with
  | zero => intro v w a x g h; exact h
  | succ n ih =>
    intro v w a x g h
    unfold mf_Mo_tick_j1
    by_cases hx : a ≤ x
    · rw [if_pos hx]; exact h
    · rw [if_neg hx]
      have g1 := GB_c6 g
      have h1 : J l (fw_up w 0 0 49 (w 0 0 49 + 1)) := J_u0 h (by decide)
      have g2 := GB_beat_0 g1
      have h2 := J_beat_0 g1 h1
      have g3 := GB_beat_1 g2
      have h3 := J_beat_1 g2 h2
      have g4 := GB_pulse_0 g3
      have h4 := J_pulse_0 g3 h3
      exact ih _ _ _ _ (GB_pulse_1 g4) (J_pulse_1 g4 h4)
theorem J_tick {B l : Nat} {v w : fw_V} (a : Int32) (g : GB B v w) (h : J l w) : J l (mf_Mo_tick w a).2 := by
  unfold mf_Mo_tick
  (try dsimp only)
  by_cases hx : mf_Mo_is a 1 8 = 0
  · rw [if_pos hx]; exact h
  · rw [if_neg hx]; exact J_tk 10 v w a 0 g h
theorem J_rem {l : Nat} {w : fw_V} {n k : Nat} (h : J l w) (en : w 0 0 10 = nI n) (hn : n ≤ 16) (hk : k < n) : J l (mf_Mo_remove w (nI k)) := by
  obtain ⟨q0, q1, q2, q3⟩ := mrem_ex (w := w) (k := k) (n := n) hk hn en
  exact J_cg h (FRS_rem h.fr en hn hk) (AI_cg h.ai (fun c k hc => q1 c 0 k (by omega) (by omega) (by omega) (by omega) (by omega) (by omega))) (fun c k q => q1 c 0 k (by omega) (by omega) (by omega) (by omega) (by omega) (by omega)) (q1 0 0 54 (by decide) (by decide) (by decide) (by decide) (by decide) (by decide))
theorem J_lose {B l : Nat} {v w : fw_V} (a : Int32) (g : GB B v w) (h : J l w) : J l (mf_Mo_lose w a).2 := by
  unfold mf_Mo_lose
  (try dsimp only)
  by_cases hx : mf_Mo_is a 0 (w 0 0 10 - 1) = 0
  · rw [if_pos hx]; exact h
  · rw [if_neg hx]
    obtain ⟨n, hn, en⟩ := vp_in_of g.wr.ok (by decide)
    have ew : w 0 0 10 = nI n := by rw [← g.wr.sz]; exact en
    rw [ew] at hx
    obtain ⟨k, hk, rfl⟩ := is_has (by omega) hx
    exact J_rem h ew (by omega) hk
theorem FW_J {l : Nat} {w : fw_V} {k : Nat} (h : J l w) (hk : k < (w 0 0 10).toNatClampNeg) (h6 : w 4 0 k = 6 → vp_in (w 6 0 k) 3) (h3 : w 4 0 k = 3 → ∀ s, s < 3 → vp_in (w 8 0 (7 * k + s)) 9) : FW w k := by
  obtain ⟨p1, p2, p3, p4, p5, p6⟩ := h.fr.2 k hk
  have e0 : (if 0 < 7 then w 8 0 (7 * k + 0) else 0) = w 8 0 (7 * k) := if_pos (by decide)
  refine ⟨fun z => p2 (Or.inr z), fun z => p2 (Or.inl z), fun z => ?_, h6, fun z => ?_, h3, fun z r hr ho hs => ?_⟩
  · have := p4 z; rw [← e0]; exact this
  · have := p3 z; rw [← e0]; exact this
  · have := p5 z r hr (by rw [ho]; decide) hs
    rw [← e0]; exact this

theorem J_repeat {B l : Nat} {v w : fw_V} (a : Int32) (g : GB B v w) (h : J l w) : J l (mf_Mo_repeat w a).2 := by
  unfold mf_Mo_repeat
  (try dsimp only)
  by_cases hx : mf_Mo_is a 0 (w 0 0 10 - 1) = 0
  · rw [if_pos hx]; exact h
  · rw [if_neg hx]
    obtain ⟨n, hn, en⟩ := vp_in_of g.wr.ok (by decide)
    have ew : w 0 0 10 = nI n := by rw [← g.wr.sz]; exact en
    rw [ew] at hx
    obtain ⟨k, hk, rfl⟩ := is_has (by omega) hx
    by_cases h16 : w 0 0 10 = 16
    · rw [if_pos h16]; exact h
    · rw [if_neg h16]
      have hn16 : n < 16 := by
        by_cases z : n < 16
        · exact z
        · have : n = 16 := by omega
          subst this
          exact absurd ew h16
      have m0 : ∀ c k', ¬ (4 ≤ c ∧ c ≤ 8) → mf_Mo_move w (nI k) (w 0 0 10) c 0 k' = w c 0 k' := fun c k' q => mmove_c (by omega) (by omega) (by omega) (by omega) (by omega)
      (try dsimp only)
      rw [m0 0 10 (by decide), ew, nI_1]
      rw [ew] at m0
      obtain ⟨x4, x5, x6, -, x8, x8'⟩ := mmove_ex (w := w) (a := k) (b := n) (by omega) hn16
      have hs := h.fr.2
      rw [ew, nI_clamp (by omega)] at hs
      refine J_cg h ⟨?_, fun j hj => ?_⟩ (AI_cg h.ai (fun c k hc => ?_)) (fun c k q => ?_) ?_
      · rw [fw_up_s]; exact vp_in_nI (by omega) (by decide)
      · rw [fw_up_s, nI_clamp (by omega)] at hj
        rw [fw_up_c (by decide), fw_up_c (by decide), fw_up_c (by decide), x4, x5, x6]
        have er : (fun t => if t < 7 then fw_up (mf_Mo_move w (nI k) (nI n)) 0 0 10 (nI (n + 1)) 8 0 (7 * j + t) else 0) = (fun t => if t < 7 then w 8 0 (7 * (if j = n then k else j) + t) else 0) := by
          funext t
          by_cases ht : t < 7
          · rw [if_pos ht, if_pos ht, fw_up_c (by decide)]
            by_cases z : j = n
            · rw [if_pos z, z]; exact x8 t ht
            · rw [if_neg z]; exact x8' j t z ht
          · rw [if_neg ht, if_neg ht]
        rw [er]
        by_cases z : j = n
        · rw [if_pos z, if_pos z, if_pos z, if_pos z]; exact hs k hk
        · rw [if_neg z, if_neg z, if_neg z, if_neg z]; exact hs j (by omega)
      · rw [fw_up_c (by omega)]; exact m0 c k (by omega)
      · rw [fw_up_c (by omega)]; exact m0 c k (by omega)
      · rw [fw_up_k (by decide)]; exact m0 0 54 (by decide)
theorem J_close {B l : Nat} {v w : fw_V} (a1 : Int32) (g : GB B v w) (h : J l w) : J l (mf_Mo_close w a1).2 := by
  unfold mf_Mo_close
  (try dsimp only)
  by_cases h1 : mf_Mo_is a1 0 1 = 0
  · rw [if_pos h1]; exact h
  · rw [if_neg h1]
    rcases dev01 h1 with rfl | rfl
    · rw [z0]
      by_cases q : w 12 0 0 = 0
      · rw [if_pos q]; exact h
      · rw [if_neg q, if_pos rfl]; exact J_close_0 g h q
    · rw [z1]
      by_cases q : w 12 0 1 = 0
      · rw [if_pos q]; exact h
      · rw [if_neg q, if_neg (show ¬ (1 : Int32) = 0 by decide)]; exact J_close_1 g h q
/-- what is expected changes while CLOSED -/
theorem J_exp {l r s : Nat} {w : fw_V} {x y : Int32} (h : J l w) (hr : r < 2) (hs : s < 3) (h0 : w 12 0 r = 0) (hy : vp_in y 256) : J l (fw_up (fw_up w 24 0 (3 * r + s) x) 25 0 (3 * r + s) y) := by
  have wc : ∀ c k, c ≠ 24 → c ≠ 25 → fw_up (fw_up w 24 0 (3 * r + s) x) 25 0 (3 * r + s) y c 0 k = w c 0 k := fun c k q1 q2 => by rw [fw_up_c q2, fw_up_c q1]
  obtain ⟨w', e'⟩ : ∃ w', w' = fw_up (fw_up w 24 0 (3 * r + s) x) 25 0 (3 * r + s) y := ⟨_, rfl⟩
  have ai' : AI w' := by rw [e']; exact AI_up (AI_up h.ai (fun q => by omega)) (fun _ => hy)
  have w24 : ∀ k, k ≠ 3 * r + s → w' 24 0 k = w 24 0 k := fun k q => by rw [e', fw_up_c (by decide), fw_up_k q]
  rw [← e'] at wc ⊢
  have key : ∀ r' S, r' < 2 → Sx l S → w' 12 0 r' ≠ 0 → w' 13 0 r' = S → w 12 0 r' ≠ 0 ∧ w 13 0 r' = S ∧ ∀ s', s' < 3 → w' 24 0 (3 * r' + s') = w 24 0 (3 * r' + s') := by
    intro r' S hr' _ o e
    rw [wc 12 r' (by decide) (by decide)] at o
    rw [wc 13 r' (by decide) (by decide)] at e
    have hn : r' ≠ r := fun z => o (by rw [z]; exact h0)
    exact ⟨o, e, fun s' hs' => w24 _ (by omega)⟩
  have pim : ∀ a b c d, Ps l w a b c d → Ps l w' a b c d := by
    intro t S c d hp
    obtain ⟨p1, p2, p3, p4, p5, p6⟩ := hp
    refine ⟨p1, p2, p3, p4, fun z r' hr' ho hS => ?_, fun z r' hr' ho hS s' hs' => ?_⟩
    · obtain ⟨k1, k2, k3⟩ := key r' S hr' p1 ho hS
      obtain ⟨m, hm, em⟩ := vp_in_of (p4 z) (by decide)
      have g := p5 z r' hr' k1 k2
      rw [em, nI_clamp (by omega)] at g ⊢
      rw [k3 m hm]; exact g
    · obtain ⟨k1, k2, k3⟩ := key r' S hr' p1 ho hS
      rw [k3 s' hs']; exact p6 z r' hr' k1 k2 s' hs'
  have qim : ∀ S W, Qs l w S W → Qs l w' S W := by
    intro S W hq
    refine ⟨hq.1, fun r' hr' ho hS s' hs' => ?_⟩
    obtain ⟨k1, k2, k3⟩ := key r' S hr' hq.1 ho hS
    rw [k3 s' hs']; exact hq.2 r' hr' k1 k2 s' hs'
  refine ⟨by rw [wc 0 54 (by decide) (by decide)]; exact h.la, fun r hr o => ?_, fun r hr r' hr' o o' e => ?_, FRS_im (FRS_cg h.fr (wc 0 10 (by decide) (by decide)) (fun c k q1 q2 => wc c k (by omega) (by omega))) pim, ai', fun q => ?_, fun q => ?_, fun q j hj hl => ?_, fun q j hj hl => ?_⟩
  · rw [wc 12 r (by decide) (by decide)] at o
    rw [wc 13 r (by decide) (by decide)]; exact h.rs r hr o
  · rw [wc 12 r (by decide) (by decide)] at o
    rw [wc 12 r' (by decide) (by decide)] at o'
    rw [wc 13 r (by decide) (by decide), wc 13 r' (by decide) (by decide)] at e
    exact h.ap r hr r' hr' o o' e
  · rw [wc 28 _ (by decide) (by decide)] at q
    rw [wc 29 _ (by decide) (by decide), WD_cg_0 (w := w) (fun s hs => wc 43 _ (by decide) (by decide))]
    exact qim _ _ (h.d0 q)
  · rw [wc 28 _ (by decide) (by decide)] at q
    rw [wc 29 _ (by decide) (by decide), WD_cg_1 (w := w) (fun s hs => wc 43 _ (by decide) (by decide))]
    exact qim _ _ (h.d1 q)
  · rw [wc 28 _ (by decide) (by decide)] at q
    rw [wc 37 _ (by decide) (by decide)] at hl
    rw [wc 43 _ (by decide) (by decide), wc 47 _ (by decide) (by decide)]
    exact h.q0 q j hj hl
  · rw [wc 28 _ (by decide) (by decide)] at q
    rw [wc 37 _ (by decide) (by decide)] at hl
    rw [wc 43 _ (by decide) (by decide), wc 47 _ (by decide) (by decide)]
    exact h.q1 q j hj hl
theorem oct256 {a : Int32} (h : ¬ mf_Mo_is a 0 255 = 0) : vp_in a 256 := by
  unfold mf_Mo_is at h
  have h1 : ¬ a < 0 := fun q => h (by simp [q])
  have h2 : ¬ (255 : Int32) < a := fun q => h (by simp [q])
  rw [Int32.lt_iff_toInt_lt] at h1 h2
  have e0 : (0 : Int32).toInt = 0 := by decide
  have e1 : (255 : Int32).toInt = 255 := by decide
  rw [vp_in_iff]; omega
theorem J_expect {l : Nat} {w : fw_V} (a1 a2 a3 a4 : Int32) (h : J l w) : J l (mf_Mo_expect w a1 a2 a3 a4).2 := by
  unfold mf_Mo_expect
  (try dsimp only)
  by_cases h1 : mf_Mo_is a1 0 1 = 0
  · rw [if_pos h1]; exact h
  · rw [if_neg h1]
    by_cases h2 : mf_Mo_is a2 0 2 = 0
    · rw [if_pos h2]; exact h
    · rw [if_neg h2]
      by_cases h3 : mf_Mo_is a3 (-1) 7 = 0
      · rw [if_pos h3]; exact h
      · rw [if_neg h3]
        by_cases h4 : mf_Mo_is a4 0 255 = 0
        · rw [if_pos h4]; exact h
        · rw [if_neg h4]
          obtain ⟨s, hs, rfl⟩ := slot3 h2
          rcases dev01 h1 with rfl | rfl
          · rw [z0, i3_0 hs]
            by_cases q : w 12 0 0 = 0
            · rw [if_pos q]; exact J_exp h (by decide) hs q (oct256 h4)
            · rw [if_neg q]; exact h
          · rw [z1, i3_1 hs]
            by_cases q : w 12 0 1 = 0
            · rw [if_pos q]; exact J_exp h (by decide) hs q (oct256 h4)
            · rw [if_neg q]; exact h

/-- open: a session that nothing has -/
theorem J_openr_0 {B l : Nat} {v w : fw_V} (g : GB B v w) (h : J l w) (h0 : w 12 0 0 = 0) (hl : l < 65535) : J (l + 1) (mf_Mo_ask_0 (fw_up (fw_up (mf_Mo_enter_0 (fw_up (fw_up w 0 0 54 (nI (l + 1))) 0 0 53 (w 0 0 53 + 1)) 1) 13 0 0 (nI (l + 1))) 23 0 0 0)) := by
  obtain ⟨w1, e1⟩ : ∃ w1, w1 = fw_up (fw_up w 0 0 54 (nI (l + 1))) 0 0 53 (w 0 0 53 + 1) := ⟨_, rfl⟩
  obtain ⟨w2, e2⟩ : ∃ w2, w2 = fw_up (fw_up (mf_Mo_enter_0 w1 1) 13 0 0 (nI (l + 1))) 23 0 0 0 := ⟨_, rfl⟩
  have w1c : ∀ c k, c ≠ 0 → w1 c 0 k = w c 0 k := fun c k q => by rw [e1, fw_up_c q, fw_up_c q]
  have w2c : ∀ c k, ¬ ((c = 12 ∨ c = 13 ∨ c = 18 ∨ c = 19 ∨ c = 23) ∧ k = 0) → w2 c 0 k = w1 c 0 k := fun c k q => by
    rw [e2, fw_up_ne (by omega), fw_up_ne (by omega)]
    unfold mf_Mo_enter_0
    (try dsimp only)
    rw [fw_up_ne (by omega), fw_up_ne (by omega), fw_up_ne (by omega)]
  have wc : ∀ c k, c ≠ 0 → ¬ ((c = 12 ∨ c = 13 ∨ c = 18 ∨ c = 19 ∨ c = 23) ∧ k = 0) → w2 c 0 k = w c 0 k := fun c k q1 q2 => by rw [w2c c k q2, w1c c k q1]
  have s12 : w2 12 0 0 = 1 := by
    rw [e2, fw_up_c (by decide), fw_up_c (by decide)]
    unfold mf_Mo_enter_0
    simp [fw_up]
  have s13 : w2 13 0 0 = nI (l + 1) := by rw [e2, fw_up_c (by decide), fw_up_s]
  have s54 : w2 0 0 54 = nI (l + 1) := by rw [w2c 0 54 (by omega), e1, fw_up_k (by decide), fw_up_s]
  have s10 : w2 0 0 10 = w 0 0 10 := by rw [w2c 0 10 (by omega), e1, fw_up_k (by decide), fw_up_k (by decide)]
  rw [← e1, ← e2]
  have key : ∀ r S, r < 2 → Sx l S → w2 12 0 r ≠ 0 → w2 13 0 r = S → w 12 0 r ≠ 0 ∧ w 13 0 r = S ∧ ∀ s, w2 24 0 (3 * r + s) = w 24 0 (3 * r + s) := by
    intro r S hr hS o s
    by_cases z : r = 0
    · subst z
      exfalso
      obtain ⟨m, hm, em⟩ := hS
      rw [s13, em] at s
      have := (nI_eq (a := l + 1) (b := m) (by omega) (by omega)).mp s
      omega
    · rw [wc 12 r (by decide) (by omega)] at o
      rw [wc 13 r (by decide) (by omega)] at s
      exact ⟨o, s, fun s => wc 24 _ (by decide) (by omega)⟩
  have h2 : J (l + 1) w2 := by
    refine ⟨s54, fun r hr o => ?_, fun r hr r' hr' o o' e => ?_, FRS_im (FRS_cg h.fr s10 (fun c k q1 q2 => wc c k (by omega) (by omega))) (Ps_im (by omega) key), AI_cg h.ai (fun c k hc => wc c k (by omega) (by omega)), fun q => ?_, fun q => ?_, fun q j hj hl => ?_, fun q j hj hl => ?_⟩
    · by_cases z : r = 0
      · subst z; exact ⟨l + 1, Nat.le_refl _, s13⟩
      · rw [wc 12 r (by decide) (by omega)] at o
        rw [wc 13 r (by decide) (by omega)]
        obtain ⟨m, hm, em⟩ := h.rs r hr o
        exact ⟨m, by omega, em⟩
    · have ne : ∀ r, r < 2 → r ≠ 0 → w2 12 0 r ≠ 0 → w2 13 0 r ≠ nI (l + 1) := by
        intro r hr z o e
        rw [wc 12 r (by decide) (by omega)] at o
        rw [wc 13 r (by decide) (by omega)] at e
        obtain ⟨m, hm, em⟩ := h.rs r hr o
        rw [em] at e
        have := (nI_eq (a := m) (b := l + 1) (by omega) (by omega)).mp e
        omega
      by_cases z : r = 0
      · by_cases z' : r' = 0
        · omega
        · subst z
          exact absurd (e.symm.trans s13) (ne r' hr' z' o')
      · by_cases z' : r' = 0
        · subst z'
          exact absurd (e.trans s13) (ne r hr z o)
        · omega
    · rw [wc 28 _ (by decide) (by omega)] at q
      rw [wc 29 _ (by decide) (by omega), WD_cg_0 (w := w) (fun s hs => wc 43 _ (by decide) (by omega))]
      exact Qs_im (by omega) key (h.d0 q)
    · rw [wc 28 _ (by decide) (by omega)] at q
      rw [wc 29 _ (by decide) (by omega), WD_cg_1 (w := w) (fun s hs => wc 43 _ (by decide) (by omega))]
      exact Qs_im (by omega) key (h.d1 q)
    · rw [wc 28 _ (by decide) (by omega)] at q
      rw [wc 37 _ (by decide) (by omega)] at hl
      rw [wc 43 _ (by decide) (by omega), wc 47 _ (by decide) (by omega)]
      exact h.q0 q j hj hl
    · rw [wc 28 _ (by decide) (by omega)] at q
      rw [wc 37 _ (by decide) (by omega)] at hl
      rw [wc 43 _ (by decide) (by omega), wc 47 _ (by decide) (by omega)]
      exact h.q1 q j hj hl
  have a2 : At w2 := fun t ht => by rw [wc 9 t (by decide) (by omega)]; exact g.at t ht
  have o2 : w2 12 0 0 ≠ 0 := by rw [s12]; decide
  exact J_re_0 h2 o2 (Sq_z_0 (Sq_ask_0 (J_Sq_0 h2 a2) (Pr_s h2 (by decide) o2))) (fun c k q1 q2 q3 => mr0_Mo_ask_0 q1 q2 (by omega) w2) (mz_Mo_ask_0 (by decide) w2)
/-- plug -/
theorem J_plugr_0 {B l : Nat} {v w : fw_V} {s : Nat} {x : Int32} (g : GB B v w) (h : J l w) (hs : s < 3) (hx : vp_in (x + 1) 9) : J l (mf_Mo_plug w (0 : Int32) (nI s) x).2 := by
  have r1 : ¬ mf_Mo_is (0 : Int32) 0 1 = 0 := by decide
  have r2 : ¬ mf_Mo_is (nI s) 0 2 = 0 := by
    rcases (show s = 0 ∨ s = 1 ∨ s = 2 by omega) with rfl | rfl | rfl <;> decide
  have r3 : ¬ mf_Mo_is x (-1) 7 = 0 := plx hx
  have ci : (0 : Int32).toNatClampNeg = 0 := by decide
  obtain ⟨w3, f3⟩ : ∃ w3, w3 = mf_Mo_replace_0 (fw_up w 42 0 (3 * 0 + s) x) (nI s) := ⟨_, rfl⟩
  have w3c : ∀ c k, c ≠ 42 → c ≠ 46 → w3 c 0 k = w c 0 k := fun c k q1 q2 => by rw [f3, rp_o_0 hs (by omega), fw_up_c q1]
  have j3 : J l w3 := J_cg h (FRS_cg h.fr (w3c 0 10 (by decide) (by decide)) (fun c k q1 q2 => w3c c k (by omega) (by omega))) (AI_cg h.ai (fun c k hc => w3c c k (by omega) (by omega))) (fun c k q => w3c c k (by omega) (by omega)) (w3c 0 54 (by decide) (by decide))
  unfold mf_Mo_plug
  (try dsimp only)
  rw [if_neg r1, if_neg r2, if_neg r3, i3_0 hs, ci]
  by_cases hm : w 42 0 (3 * 0 + s) = x
  · rw [if_pos hm]; exact h
  · rw [if_neg hm]
    rw [if_pos rfl]
    rw [← f3]
    by_cases h3 : w3 28 0 0 = 3
    · rw [if_pos h3]
      by_cases hge : (0 : Int32) ≤ w3 43 0 (3 * 0 + s)
      · rw [if_pos hge, mark_0 hs]
        obtain ⟨y, ey⟩ : ∃ y, y = MW_0 (w3 31 0 0) (w3 43 0 (3 * 0 + s)) (w3 42 0 (3 * 0 + s)) s := ⟨_, rfl⟩
        rw [← ey]
        have j4 : J l (fw_up w3 31 0 0 y) := J_up j3 (by decide)
        have c37 : fw_up w3 31 0 0 y 37 0 0 = w 37 0 0 := by rw [fw_up_c (by decide), w3c 37 _ (by decide) (by decide)]
        have c28 : fw_up w3 31 0 0 y 28 0 0 = 3 := by rw [fw_up_c (by decide)]; exact h3
        have c43 : fw_up w3 31 0 0 y 43 0 (3 * 0 + s) = w3 43 0 (3 * 0 + s) := fw_up_c (by decide)
        obtain ⟨w4, f4⟩ : ∃ w4, w4 = fw_up w3 31 0 0 y := ⟨_, rfl⟩
        rw [← f4] at j4 c37 c28 c43 ⊢
        obtain ⟨n, hn5, en⟩ := vp_in_of g.e0.q5 (by decide)
        have e37 : w4 37 0 0 = nI n := by rw [c37]; exact en
        rw [e37]
        by_cases h4 : (4 : Int32) ≤ nI n
        · rw [if_pos h4]; exact j4
        · rw [if_neg h4]
          have n4 : n < 4 := by
            by_cases z : n < 4
            · exact z
            · exact absurd ((nI_leI (a := 4) (b := n) (by omega) (by omega)).mpr (by omega)) h4
          rw [i4_0 n4, fw_up_c (show (37 : Nat) ≠ 47 by decide), e37, i4_0 n4, nI_1]
          obtain ⟨w5, f5⟩ : ∃ w5, w5 = fw_up (fw_up (fw_up w4 47 0 (4 * 0 + n) (nI s)) 37 0 0 (nI (n + 1))) 48 0 (4 * 0 + n) (x + 1) := ⟨_, rfl⟩
          rw [← f5]
          have w5c : ∀ c k, ¬ (c = 47 ∧ k = 4 * 0 + n) → ¬ (c = 37 ∧ k = 0) → ¬ (c = 48) → w5 c 0 k = w4 c 0 k := fun c k q1 q2 q3 => by rw [f5, fw_up_ne (by omega), fw_up_ne (by omega), fw_up_ne (by omega)]
          have s37 : w5 37 0 0 = nI (n + 1) := by rw [f5, fw_up_c (by decide), fw_up_s]
          have s47 : w5 47 0 (4 * 0 + n) = nI s := by rw [f5, fw_up_c (by decide), fw_up_c (by decide), fw_up_s]
          have dq : w5 28 0 0 = 3 → ∀ j, j < 4 → nI j < w5 37 0 0 → ¬ w5 43 0 (3 * 0 + (w5 47 0 (4 * 0 + j)).toNatClampNeg) < 0 := by
            intro _ j hj hl
            rw [w5c 43 _ (by omega) (by omega) (by omega)]
            by_cases z : j = n
            · subst z
              rw [s47, nI_clamp (by omega), c43]
              exact Int32.not_lt.mpr hge
            · rw [w5c 47 _ (by omega) (by omega) (by omega)]
              rw [s37] at hl
              have := (nI_ltI (a := j) (b := n + 1) (by omega) (by omega)).mp hl
              exact j4.q0 c28 j hj (by rw [e37]; exact (nI_ltI (by omega) (by omega)).mpr (by omega))
          have w5k : ∀ c k, (c = 12 ∨ c = 13 ∨ c = 24) ∨ ((c = 28 ∨ c = 29 ∨ c = 37) ∧ k = 1) ∨ (c = 43 ∧ 3 * 1 ≤ k ∧ k < 3 * 1 + 3) ∨ (c = 47 ∧ 4 * 1 ≤ k ∧ k < 4 * 1 + 4) → w5 c 0 k = w4 c 0 k := fun c k q => w5c c k (by omega) (by omega) (by omega)
          have sd : Sd_0 (Ps l w4) (Qs l w4) w5 := by
            refine ⟨FRS_cg j4.fr (w5c 0 10 (by omega) (by omega) (by omega)) (fun c k q1 q2 => w5c c k (by omega) (by omega) (by omega)), fun t ht => ?_, AI_cg j4.ai (fun c k hc => w5c c k (by omega) (by omega) (by omega)), fun q => ?_, dq⟩
            · rw [w5c 9 t (by omega) (by omega) (by omega), f4, fw_up_c (by decide), w3c 9 t (by decide) (by decide)]; exact g.at t ht
            · rw [w5c 29 _ (by omega) (by omega) (by omega), WD_cg_0 (w := w4) (fun s hs => w5c 43 _ (by omega) (by omega) (by omega))]
              exact j4.d0 (by rw [c28]; decide)
          exact J_de_0 j4 sd w5k (fun j hj => by rw [f4, fw_up_c (by decide), w3c 47 _ (by decide) (by decide)]; exact g.e1.a3 j hj) (w5c 0 54 (by omega) (by omega) (by omega))
      · rw [if_neg hge]; exact j3
    · rw [if_neg h3]; exact j3

/-- open: a session that nothing has -/
theorem J_openr_1 {B l : Nat} {v w : fw_V} (g : GB B v w) (h : J l w) (h0 : w 12 0 1 = 0) (hl : l < 65535) : J (l + 1) (mf_Mo_ask_1 (fw_up (fw_up (mf_Mo_enter_1 (fw_up (fw_up w 0 0 54 (nI (l + 1))) 0 0 53 (w 0 0 53 + 1)) 1) 13 0 1 (nI (l + 1))) 23 0 1 0)) := by
  obtain ⟨w1, e1⟩ : ∃ w1, w1 = fw_up (fw_up w 0 0 54 (nI (l + 1))) 0 0 53 (w 0 0 53 + 1) := ⟨_, rfl⟩
  obtain ⟨w2, e2⟩ : ∃ w2, w2 = fw_up (fw_up (mf_Mo_enter_1 w1 1) 13 0 1 (nI (l + 1))) 23 0 1 0 := ⟨_, rfl⟩
  have w1c : ∀ c k, c ≠ 0 → w1 c 0 k = w c 0 k := fun c k q => by rw [e1, fw_up_c q, fw_up_c q]
  have w2c : ∀ c k, ¬ ((c = 12 ∨ c = 13 ∨ c = 18 ∨ c = 19 ∨ c = 23) ∧ k = 1) → w2 c 0 k = w1 c 0 k := fun c k q => by
    rw [e2, fw_up_ne (by omega), fw_up_ne (by omega)]
    unfold mf_Mo_enter_1
    (try dsimp only)
    rw [fw_up_ne (by omega), fw_up_ne (by omega), fw_up_ne (by omega)]
  have wc : ∀ c k, c ≠ 0 → ¬ ((c = 12 ∨ c = 13 ∨ c = 18 ∨ c = 19 ∨ c = 23) ∧ k = 1) → w2 c 0 k = w c 0 k := fun c k q1 q2 => by rw [w2c c k q2, w1c c k q1]
  have s12 : w2 12 0 1 = 1 := by
    rw [e2, fw_up_c (by decide), fw_up_c (by decide)]
    unfold mf_Mo_enter_1
    simp [fw_up]
  have s13 : w2 13 0 1 = nI (l + 1) := by rw [e2, fw_up_c (by decide), fw_up_s]
  have s54 : w2 0 0 54 = nI (l + 1) := by rw [w2c 0 54 (by omega), e1, fw_up_k (by decide), fw_up_s]
  have s10 : w2 0 0 10 = w 0 0 10 := by rw [w2c 0 10 (by omega), e1, fw_up_k (by decide), fw_up_k (by decide)]
  rw [← e1, ← e2]
  have key : ∀ r S, r < 2 → Sx l S → w2 12 0 r ≠ 0 → w2 13 0 r = S → w 12 0 r ≠ 0 ∧ w 13 0 r = S ∧ ∀ s, w2 24 0 (3 * r + s) = w 24 0 (3 * r + s) := by
    intro r S hr hS o s
    by_cases z : r = 1
    · subst z
      exfalso
      obtain ⟨m, hm, em⟩ := hS
      rw [s13, em] at s
      have := (nI_eq (a := l + 1) (b := m) (by omega) (by omega)).mp s
      omega
    · rw [wc 12 r (by decide) (by omega)] at o
      rw [wc 13 r (by decide) (by omega)] at s
      exact ⟨o, s, fun s => wc 24 _ (by decide) (by omega)⟩
  have h2 : J (l + 1) w2 := by
    refine ⟨s54, fun r hr o => ?_, fun r hr r' hr' o o' e => ?_, FRS_im (FRS_cg h.fr s10 (fun c k q1 q2 => wc c k (by omega) (by omega))) (Ps_im (by omega) key), AI_cg h.ai (fun c k hc => wc c k (by omega) (by omega)), fun q => ?_, fun q => ?_, fun q j hj hl => ?_, fun q j hj hl => ?_⟩
    · by_cases z : r = 1
      · subst z; exact ⟨l + 1, Nat.le_refl _, s13⟩
      · rw [wc 12 r (by decide) (by omega)] at o
        rw [wc 13 r (by decide) (by omega)]
        obtain ⟨m, hm, em⟩ := h.rs r hr o
        exact ⟨m, by omega, em⟩
    · have ne : ∀ r, r < 2 → r ≠ 1 → w2 12 0 r ≠ 0 → w2 13 0 r ≠ nI (l + 1) := by
        intro r hr z o e
        rw [wc 12 r (by decide) (by omega)] at o
        rw [wc 13 r (by decide) (by omega)] at e
        obtain ⟨m, hm, em⟩ := h.rs r hr o
        rw [em] at e
        have := (nI_eq (a := m) (b := l + 1) (by omega) (by omega)).mp e
        omega
      by_cases z : r = 1
      · by_cases z' : r' = 1
        · omega
        · subst z
          exact absurd (e.symm.trans s13) (ne r' hr' z' o')
      · by_cases z' : r' = 1
        · subst z'
          exact absurd (e.trans s13) (ne r hr z o)
        · omega
    · rw [wc 28 _ (by decide) (by omega)] at q
      rw [wc 29 _ (by decide) (by omega), WD_cg_0 (w := w) (fun s hs => wc 43 _ (by decide) (by omega))]
      exact Qs_im (by omega) key (h.d0 q)
    · rw [wc 28 _ (by decide) (by omega)] at q
      rw [wc 29 _ (by decide) (by omega), WD_cg_1 (w := w) (fun s hs => wc 43 _ (by decide) (by omega))]
      exact Qs_im (by omega) key (h.d1 q)
    · rw [wc 28 _ (by decide) (by omega)] at q
      rw [wc 37 _ (by decide) (by omega)] at hl
      rw [wc 43 _ (by decide) (by omega), wc 47 _ (by decide) (by omega)]
      exact h.q0 q j hj hl
    · rw [wc 28 _ (by decide) (by omega)] at q
      rw [wc 37 _ (by decide) (by omega)] at hl
      rw [wc 43 _ (by decide) (by omega), wc 47 _ (by decide) (by omega)]
      exact h.q1 q j hj hl
  have a2 : At w2 := fun t ht => by rw [wc 9 t (by decide) (by omega)]; exact g.at t ht
  have o2 : w2 12 0 1 ≠ 0 := by rw [s12]; decide
  exact J_re_1 h2 o2 (Sq_z_1 (Sq_ask_1 (J_Sq_1 h2 a2) (Pr_s h2 (by decide) o2))) (fun c k q1 q2 q3 => mr1_Mo_ask_1 q1 q2 (by omega) w2) (mz_Mo_ask_1 (by decide) w2)
/-- plug -/
theorem J_plugr_1 {B l : Nat} {v w : fw_V} {s : Nat} {x : Int32} (g : GB B v w) (h : J l w) (hs : s < 3) (hx : vp_in (x + 1) 9) : J l (mf_Mo_plug w (1 : Int32) (nI s) x).2 := by
  have r1 : ¬ mf_Mo_is (1 : Int32) 0 1 = 0 := by decide
  have r2 : ¬ mf_Mo_is (nI s) 0 2 = 0 := by
    rcases (show s = 0 ∨ s = 1 ∨ s = 2 by omega) with rfl | rfl | rfl <;> decide
  have r3 : ¬ mf_Mo_is x (-1) 7 = 0 := plx hx
  have ci : (1 : Int32).toNatClampNeg = 1 := by decide
  obtain ⟨w3, f3⟩ : ∃ w3, w3 = mf_Mo_replace_1 (fw_up w 42 0 (3 * 1 + s) x) (nI s) := ⟨_, rfl⟩
  have w3c : ∀ c k, c ≠ 42 → c ≠ 46 → w3 c 0 k = w c 0 k := fun c k q1 q2 => by rw [f3, rp_o_1 hs (by omega), fw_up_c q1]
  have j3 : J l w3 := J_cg h (FRS_cg h.fr (w3c 0 10 (by decide) (by decide)) (fun c k q1 q2 => w3c c k (by omega) (by omega))) (AI_cg h.ai (fun c k hc => w3c c k (by omega) (by omega))) (fun c k q => w3c c k (by omega) (by omega)) (w3c 0 54 (by decide) (by decide))
  unfold mf_Mo_plug
  (try dsimp only)
  rw [if_neg r1, if_neg r2, if_neg r3, i3_1 hs, ci]
  by_cases hm : w 42 0 (3 * 1 + s) = x
  · rw [if_pos hm]; exact h
  · rw [if_neg hm]
    rw [if_neg (show ¬ (1 : Int32) = 0 by decide)]
    rw [← f3]
    by_cases h3 : w3 28 0 1 = 3
    · rw [if_pos h3]
      by_cases hge : (0 : Int32) ≤ w3 43 0 (3 * 1 + s)
      · rw [if_pos hge, mark_1 hs]
        obtain ⟨y, ey⟩ : ∃ y, y = MW_1 (w3 31 0 1) (w3 43 0 (3 * 1 + s)) (w3 42 0 (3 * 1 + s)) s := ⟨_, rfl⟩
        rw [← ey]
        have j4 : J l (fw_up w3 31 0 1 y) := J_up j3 (by decide)
        have c37 : fw_up w3 31 0 1 y 37 0 1 = w 37 0 1 := by rw [fw_up_c (by decide), w3c 37 _ (by decide) (by decide)]
        have c28 : fw_up w3 31 0 1 y 28 0 1 = 3 := by rw [fw_up_c (by decide)]; exact h3
        have c43 : fw_up w3 31 0 1 y 43 0 (3 * 1 + s) = w3 43 0 (3 * 1 + s) := fw_up_c (by decide)
        obtain ⟨w4, f4⟩ : ∃ w4, w4 = fw_up w3 31 0 1 y := ⟨_, rfl⟩
        rw [← f4] at j4 c37 c28 c43 ⊢
        obtain ⟨n, hn5, en⟩ := vp_in_of g.e1.q5 (by decide)
        have e37 : w4 37 0 1 = nI n := by rw [c37]; exact en
        rw [e37]
        by_cases h4 : (4 : Int32) ≤ nI n
        · rw [if_pos h4]; exact j4
        · rw [if_neg h4]
          have n4 : n < 4 := by
            by_cases z : n < 4
            · exact z
            · exact absurd ((nI_leI (a := 4) (b := n) (by omega) (by omega)).mpr (by omega)) h4
          rw [i4_1 n4, fw_up_c (show (37 : Nat) ≠ 47 by decide), e37, i4_1 n4, nI_1]
          obtain ⟨w5, f5⟩ : ∃ w5, w5 = fw_up (fw_up (fw_up w4 47 0 (4 * 1 + n) (nI s)) 37 0 1 (nI (n + 1))) 48 0 (4 * 1 + n) (x + 1) := ⟨_, rfl⟩
          rw [← f5]
          have w5c : ∀ c k, ¬ (c = 47 ∧ k = 4 * 1 + n) → ¬ (c = 37 ∧ k = 1) → ¬ (c = 48) → w5 c 0 k = w4 c 0 k := fun c k q1 q2 q3 => by rw [f5, fw_up_ne (by omega), fw_up_ne (by omega), fw_up_ne (by omega)]
          have s37 : w5 37 0 1 = nI (n + 1) := by rw [f5, fw_up_c (by decide), fw_up_s]
          have s47 : w5 47 0 (4 * 1 + n) = nI s := by rw [f5, fw_up_c (by decide), fw_up_c (by decide), fw_up_s]
          have dq : w5 28 0 1 = 3 → ∀ j, j < 4 → nI j < w5 37 0 1 → ¬ w5 43 0 (3 * 1 + (w5 47 0 (4 * 1 + j)).toNatClampNeg) < 0 := by
            intro _ j hj hl
            rw [w5c 43 _ (by omega) (by omega) (by omega)]
            by_cases z : j = n
            · subst z
              rw [s47, nI_clamp (by omega), c43]
              exact Int32.not_lt.mpr hge
            · rw [w5c 47 _ (by omega) (by omega) (by omega)]
              rw [s37] at hl
              have := (nI_ltI (a := j) (b := n + 1) (by omega) (by omega)).mp hl
              exact j4.q1 c28 j hj (by rw [e37]; exact (nI_ltI (by omega) (by omega)).mpr (by omega))
          have w5k : ∀ c k, (c = 12 ∨ c = 13 ∨ c = 24) ∨ ((c = 28 ∨ c = 29 ∨ c = 37) ∧ k = 0) ∨ (c = 43 ∧ 3 * 0 ≤ k ∧ k < 3 * 0 + 3) ∨ (c = 47 ∧ 4 * 0 ≤ k ∧ k < 4 * 0 + 4) → w5 c 0 k = w4 c 0 k := fun c k q => w5c c k (by omega) (by omega) (by omega)
          have sd : Sd_1 (Ps l w4) (Qs l w4) w5 := by
            refine ⟨FRS_cg j4.fr (w5c 0 10 (by omega) (by omega) (by omega)) (fun c k q1 q2 => w5c c k (by omega) (by omega) (by omega)), fun t ht => ?_, AI_cg j4.ai (fun c k hc => w5c c k (by omega) (by omega) (by omega)), fun q => ?_, dq⟩
            · rw [w5c 9 t (by omega) (by omega) (by omega), f4, fw_up_c (by decide), w3c 9 t (by decide) (by decide)]; exact g.at t ht
            · rw [w5c 29 _ (by omega) (by omega) (by omega), WD_cg_1 (w := w4) (fun s hs => w5c 43 _ (by omega) (by omega) (by omega))]
              exact j4.d1 (by rw [c28]; decide)
          exact J_de_1 j4 sd w5k (fun j hj => by rw [f4, fw_up_c (by decide), w3c 47 _ (by decide) (by decide)]; exact g.e0.a3 j hj) (w5c 0 54 (by omega) (by omega) (by omega))
      · rw [if_neg hge]; exact j3
    · rw [if_neg h3]; exact j3

theorem J_open {B l : Nat} {v w : fw_V} (a1 : Int32) (g : GB B v w) (h : J l w) (hl : l < 65535) : J l (mf_Mo_open w a1).2 ∨ J (l + 1) (mf_Mo_open w a1).2 := by
  unfold mf_Mo_open
  (try dsimp only)
  by_cases h1 : mf_Mo_is a1 0 1 = 0
  · rw [if_pos h1]; exact Or.inl h
  · rw [if_neg h1]
    have zn : ¬ w 0 0 54 = (65535 : Int32) := fun y => by
      rw [h.la] at y
      have := (nI_eq (a := l) (b := 65535) (by omega) (by omega)).mp y
      omega
    rcases dev01 h1 with rfl | rfl
    · rw [z0]
      by_cases q : w 12 0 0 = 0
      · rw [if_pos q]
        by_cases q2 : w 14 0 0 = 0
        · rw [if_pos q2]; exact Or.inl h
        · rw [if_neg q2, if_neg zn]
          have fin := J_openr_0 g h q hl
          unfold mf_Mo_open_j1
          (try dsimp only)
          rw [if_pos rfl, z0, fw_up_k (show (53 : Nat) ≠ 54 by decide), mz_Mo_enter_0 (k := 54) (by decide), fw_up_k (show (54 : Nat) ≠ 53 by decide), fw_up_s, h.la, nI_1]
          exact Or.inr fin
      · rw [if_neg q]; exact Or.inl h
    · rw [z1]
      by_cases q : w 12 0 1 = 0
      · rw [if_pos q]
        by_cases q2 : w 14 0 1 = 0
        · rw [if_pos q2]; exact Or.inl h
        · rw [if_neg q2, if_neg zn]
          have fin := J_openr_1 g h q hl
          unfold mf_Mo_open_j1
          (try dsimp only)
          rw [if_neg (show ¬ (1 : Int32) = 0 by decide), z1, fw_up_k (show (53 : Nat) ≠ 54 by decide), mz_Mo_enter_1 (k := 54) (by decide), fw_up_k (show (54 : Nat) ≠ 53 by decide), fw_up_s, h.la, nI_1]
          exact Or.inr fin
      · rw [if_neg q]; exact Or.inl h
theorem J_plug {B l : Nat} {v w : fw_V} (a1 a2 a3 : Int32) (g : GB B v w) (h : J l w) : J l (mf_Mo_plug w a1 a2 a3).2 := by
  by_cases h1 : mf_Mo_is a1 0 1 = 0
  · unfold mf_Mo_plug
    simp only [h1, if_true]; exact h
  · by_cases h2 : mf_Mo_is a2 0 2 = 0
    · unfold mf_Mo_plug
      simp only [h1, h2, if_true, if_false]; exact h
    · by_cases h3 : mf_Mo_is a3 (-1) 7 = 0
      · unfold mf_Mo_plug
        simp only [h1, h2, h3, if_true, if_false]; exact h
      · obtain ⟨s, hs, rfl⟩ := slot3 h2
        rcases dev01 h1 with rfl | rfl
        · exact J_plugr_0 g h hs (kon9 h3)
        · exact J_plugr_1 g h hs (kon9 h3)
theorem J_name {l : Nat} {w : fw_V} (a1 a2 : Int32) (h : J l w) : J l (mf_Mo_name w a1 a2).2 := by
  unfold mf_Mo_name
  (try dsimp only)
  (repeat' split) <;> (first | exact h | exact J_up h (by decide))
theorem J_target {l : Nat} {w : fw_V} (a1 a2 : Int32) (h : J l w) : J l (mf_Mo_target w a1 a2).2 := by
  unfold mf_Mo_target
  (try dsimp only)
  (repeat' split) <;> (first | exact h | exact J_up h (by decide))
theorem J_sense {l : Nat} {w : fw_V} (a1 a2 a3 a4 : Int32) (h : J l w) : J l (mf_Mo_sense w a1 a2 a3 a4).2 := by
  unfold mf_Mo_sense
  (try dsimp only)
  (repeat' split) <;> (first | exact h | exact J_up h (by decide))
theorem J_give {l : Nat} {w : fw_V} (a1 a2 a3 a4 : Int32) (h : J l w) : J l (mf_Mo_give w a1 a2 a3 a4).2 := by
  unfold mf_Mo_give
  (try dsimp only)
  (repeat' split) <;> (first | exact h | exact J_up h (by decide))
theorem J_subst {l : Nat} {w : fw_V} (a1 a2 a3 : Int32) (h : J l w) : J l (mf_Mo_substitute w a1 a2 a3).2 := by
  unfold mf_Mo_substitute mf_Mo_substitute_j1 mf_Mo_substitute_j2
  (try dsimp only)
  (repeat' split) <;> (first | exact h | exact J_up (J_up h (by decide)) (by decide))
theorem J_kind {l : Nat} {w : fw_V} (a1 a2 a3 a4 : Int32) (h : J l w) : J l (mf_Mo_kind w a1 a2 a3 a4).2 := by
  unfold mf_Mo_kind mf_Mo_kind_j1 mf_Mo_kind_j2 mf_Mo_kind_j3
  (try dsimp only)
  (repeat' split) <;> (first | exact h | exact J_up (J_up (J_up h (by decide)) (by decide)) (by decide))

/-- deliver, J kept -/
theorem GJ_deliver {B l : Nat} {v w : fw_V} (a : Int32) (h : GB B v w) (hB : B + 1 < 2 ^ 30) (h6 : ∀ k, vp_in (v 6 0 k) 18) (hW : ∀ k, k < (w 0 0 10).toNatClampNeg → FW w k) (hJ : J l w) : J l (mf_Mo_deliver w a).2 := by
  by_cases hx : mf_Mo_is a 0 (w 0 0 10 - 1) = 0
  · unfold mf_Mo_deliver
    (try dsimp only)
    rw [if_pos hx]; exact hJ
  · obtain ⟨n, hn, en⟩ := vp_in_of h.wr.ok (by decide)
    have ew : w 0 0 10 = nI n := by rw [← h.wr.sz]; exact en
    have hx' := hx
    rw [ew] at hx'
    obtain ⟨k, hk, rfl⟩ := is_has (by omega) hx'
    have hsz : k < (v 5 0 2).toNatClampNeg := by rw [en, nI_clamp (by omega)]; exact hk
    obtain ⟨F13, F12, F14, F6, F6p, F3, FA⟩ := hW k (by rw [ew, nI_clamp (by omega)]; exact hk)
    rw [dl_ref hk (by omega) ew]
    have wrc : Wr v (CM w k) := Wr_cg h.wr (fun _ _ _ _ _ => rfl) ⟨CM_c (by decide), CM_c (by decide), CM_c (by decide)⟩ (fun c k q1 q2 => CM_c (by omega))
    obtain ⟨t1, t2, t3, t4, t5⟩ := Wr_take (k := k) wrc h6 hsz
    obtain ⟨q0, q1, -, -⟩ := mrem_ex (w := CM w k) (k := k) (n := n) hk (by omega) (by rw [CM_c (by decide)]; exact ew)
    obtain ⟨v6, e6⟩ : ∃ v6, v6 = (xf_Wi_take v (nI k)).2 := ⟨_, rfl⟩
    obtain ⟨w6, g6⟩ : ∃ w6, w6 = mf_Mo_remove (CM w k) (nI k) := ⟨_, rfl⟩
    obtain ⟨q, eq'⟩ : ∃ q, q = (v 6 0 k).toNatClampNeg := ⟨_, rfl⟩
    rw [← e6] at t2 t3 t4 t5
    rw [← g6] at t2 q0 q1
    rw [← g6]
    rw [← eq'] at t4
    have hq17 : q < 17 := by rw [eq']; exact h.wr.lt k (by omega)
    obtain ⟨v8, e8⟩ : ∃ v8, v8 = fw_up v6 0 0 7 (v6 0 0 7 + 1) := ⟨_, rfl⟩
    obtain ⟨w8, g8⟩ : ∃ w8, w8 = fw_up w6 0 0 52 (w6 0 0 52 + 1) := ⟨_, rfl⟩
    rw [← g8]
    have v8c : ∀ c i k, c ≠ 0 → v8 c i k = v6 c i k := fun c i k z => by rw [e8, fw_up_c z]
    have w8c : ∀ c k, c ≠ 0 → w8 c 0 k = w6 c 0 k := fun c k z => by rw [g8, fw_up_c z]
    have wr8 : Wr v8 w8 := Wr_cg t2 (fun c i k z1 z2 => v8c c i k (by omega)) ⟨by rw [g8]; exact fw_up_k (by decide), by rw [g8]; exact fw_up_k (by decide), by rw [g8]; exact fw_up_k (by decide)⟩ (fun c k z1 z2 => w8c c k (by omega))
    have w6k : ∀ t, t ≠ 10 → w6 0 0 t = w 0 0 t := fun t z => by rw [q1 0 0 t (by decide) (by decide) (by decide) (by decide) (by decide) (by omega)]; exact CM_c (by decide)
    have w6c : ∀ c k', c ≠ 0 → ¬ (4 ≤ c ∧ c ≤ 8) → c ≠ 10 → w6 c 0 k' = w c 0 k' := fun c k' z1 z2 z3 => by rw [q1 c 0 k' (by omega) (by omega) (by omega) (by omega) (by omega) (by omega)]; exact CM_c z3
    have h8 : GB B v8 w8 := by
      refine GB_o h (fun c i k z1 z2 => by rw [v8c c i k z1]; exact t3 c i k (by omega) (by omega)) (fun c k z1 z2 z3 => by rw [w8c c k z1]; exact w6c c k z1 z2 z3) wr8 ?_ ?_ ?_ ?_ ?_ ?_
      · rw [e8, g8, fw_up_k (by decide), fw_up_k (by decide), t3 0 0 5 (by decide) (by decide), w6k 54 (by decide)]; exact h.c5
      · rw [e8, g8, fw_up_k (by decide), fw_up_k (by decide), t3 0 0 6 (by decide) (by decide), w6k 49 (by decide)]; exact h.c6
      · rw [e8, g8, fw_up_s, fw_up_s, t3 0 0 7 (by decide) (by decide), w6k 52 (by decide), h.c7]
      · rw [e8, g8, fw_up_k (by decide), fw_up_k (by decide), t3 0 0 8 (by decide) (by decide), w6k 53 (by decide)]; exact h.c8
      · rw [g8, fw_up_k (by decide), w6k 55 (by decide)]
      · rw [g8, fw_up_k (by decide), w6k 56 (by decide)]
    have j8 : J l w8 := by
      have jc : J l (CM w k) := J_cg hJ (FRS_cg hJ.fr (CM_c (by decide)) (fun c k q1 q2 => CM_c (by omega))) (AI_cg hJ.ai (fun c k hc => CM_c (by omega))) (fun c k q => CM_c (by omega)) (CM_c (by decide))
      have jr := J_rem jc (by rw [CM_c (by decide)]; exact ew) (show n ≤ 16 by omega) hk
      rw [← g6] at jr
      rw [g8]
      exact J_u0 jr (by decide)
    obtain ⟨S5, -, -, -, -, S3⟩ := hJ.fr.2 k (by rw [ew, nI_clamp (by omega)]; exact hk)
    have came : ∀ t, t < 7 → w8 10 0 t = w 8 0 (7 * k + t) := fun t ht => by rw [w8c 10 t (by decide), q1 10 0 t (by decide) (by decide) (by decide) (by decide) (by decide) (by omega)]; exact CM_t ht
    obtain ⟨x0, x1, x2, x3, x8⟩ := h.wr.fr k hsz
    rw [← eq'] at x0 x1 x2 x3 x8
    have y : ∀ c t, c = 7 ∨ c = 8 → v8 c q t = v c q t := fun c t z => by rw [v8c c q t (by omega)]; exact t3 c q t (by omega) (by omega)
    have f0 : v8 7 q 0 = w 4 0 k := by rw [y 7 0 (by decide)]; exact x0
    have f1 : v8 7 q 1 = w 5 0 k := by rw [y 7 1 (by decide)]; exact x1
    have f2 : v8 7 q 2 = w 6 0 k := by rw [y 7 2 (by decide)]; exact x2
    have f3 : v8 7 q 3 = w 7 0 k := by rw [y 7 3 (by decide)]; exact x3
    have f8 : ∀ t, t < 7 → v8 8 q t = w8 10 0 t := fun t ht => by rw [y 8 t (by decide), came t ht]; exact x8 t ht
    have hF : Fx v8 q := by
      refine ⟨hq17, fun j hj z => ?_⟩
      have z16 : (v8 6 0 16).toNatClampNeg = q := by rw [v8c 6 0 16 (by decide), t4]; exact nI_clamp (by omega)
      have := wr8.inj j 16 (by omega) (by decide) (z.trans z16.symm)
      omega
    have c0 : w8 10 0 0 = w 8 0 (7 * k) := came 0 (by decide)
    have w812 : ∀ c k', c ≠ 0 → ¬ (4 ≤ c ∧ c ≤ 8) → c ≠ 10 → w8 c 0 k' = w c 0 k' := fun c k' z1 z2 z3 => by rw [w8c c k' z1]; exact w6c c k' z1 z2 z3
    by_cases hg : w 7 0 k = 2
    · rw [if_pos hg, ctl_eq]
      have a0 := GB_ctl_0 h8 (by omega) f0 f1 f2 f8 hF F13 (fun z => by rw [c0]; exact F14 z) (fun z z1 z2 => by
        rw [w812 12 0 (by decide) (by decide) (by decide)] at z1
        rw [w812 13 0 (by decide) (by decide) (by decide)] at z2
        rw [c0, w812 24 _ (by decide) (by decide) (by decide)]
        exact FA z 0 (by decide) z1 z2)
      (try dsimp only)
      obtain ⟨va, ea⟩ : ∃ va, va = xf_Re_receive v8 0 q := ⟨_, rfl⟩
      obtain ⟨wa, ga⟩ : ∃ wa, wa = ctl_0 w8 (w 4 0 k) (w 5 0 k) (w 6 0 k) := ⟨_, rfl⟩
      rw [← ea, ← ga] at a0
      rw [← ga]
      have ya : ∀ c t, c = 7 ∨ c = 8 → va c q t = v8 c q t := fun c t z => by rw [ea]; exact kx_Re_receive z hF
      have wac : ∀ c k', (c = 10 ∨ c = 24 ∨ ((c = 12 ∨ c = 13) ∧ k' = 1)) → wa c 0 k' = w8 c 0 k' := fun c k' z => by rw [ga]; exact ctl_c_0 (by omega) (by omega) (by omega)
      have hFa : Fx va q := by rw [ea]; exact kf_Re_receive.mpr hF
      have ja : J l wa := by rw [ga]; exact J_ctl_0 h8 j8
      exact J_ctl_1 a0 ja
    · rw [if_neg hg]
      have hm : ∀ {v' w' : fw_V}, GB B v' w' → GB (B + 2) v' w' := fun z => GB_mono z (by omega)
      have p3 : w 4 0 k = 3 → ∀ s, s < 3 → vp_in (w8 10 0 s) 9 := fun z s hs => by rw [came s (by omega)]; exact F3 z s hs
      have p6 : w 4 0 k = 6 → ¬ w8 10 0 0 < 0 := fun z => by rw [c0]; exact F6p z
      have hQ : ∀ wa : fw_V, (∀ t, wa 10 0 t = w8 10 0 t) → (∀ c k', c = 12 ∨ c = 13 ∨ c = 24 → wa c 0 k' = w8 c 0 k') → w 4 0 k = 3 → ∀ r, r < 2 → wa 12 0 r ≠ 0 → wa 13 0 r = w 5 0 k → ∀ s, s < 3 → wa 10 0 s = wa 24 0 (3 * r + s) + 1 := by
        intro wa y1 y2 z r hr o e s hs
        rw [y2 12 r (by omega), w812 12 r (by decide) (by decide) (by decide)] at o
        rw [y2 13 r (by omega), w812 13 r (by decide) (by decide) (by decide)] at e
        rw [y1 s, came s (by omega), y2 24 _ (by omega), w812 24 _ (by decide) (by decide) (by decide)]
        have := S3 z r hr o e s hs
        exact (show (if s < 7 then w 8 0 (7 * k + s) else 0) = w 8 0 (7 * k + s) from if_pos (by omega)).symm.trans this
      have second : ∀ va wa, GB B va wa → J l wa → (∀ t, wa 10 0 t = w8 10 0 t) → (∀ c k', c = 12 ∨ c = 13 ∨ c = 24 → wa c 0 k' = w8 c 0 k') → J l (mf_Mo_deliver_j3 wa (nI k) (w 4 0 k) (w 5 0 k) (w 6 0 k) (w 7 0 k)).2 := by
        intro va wa ha ja y1 y2
        have last : J l (mf_Mo_arrives_1 wa (w 4 0 k) (w 5 0 k) (w 6 0 k)) := J_arr_1 ha ja S5 (hQ wa y1 y2)
        unfold mf_Mo_deliver_j3 mf_Mo_deliver_j4 mf_Mo_deliver_j5 mf_Mo_deliver_j6 mf_Mo_deliver_j7
        (try dsimp only)
        by_cases g1 : w 7 0 k = 1
        · rw [if_pos g1]; exact last
        · rw [if_neg g1]
          by_cases g33 : w 7 0 k = 3
          · rw [if_pos g33]; exact last
          · rw [if_neg g33]; exact ja
      have first : J l (mf_Mo_deliver_j2 w8 (nI k) (w 4 0 k) (w 5 0 k) (w 6 0 k) (w 7 0 k)).2 := by
        have a0 := GB_arr_0 h8 f0 f1 f2 f8 F12 F6 p6 p3
        unfold mf_Mo_deliver_j2
        exact second _ _ a0 (J_arr_0 h8 j8 S5 (hQ w8 (fun _ => rfl) (fun _ _ _ => rfl))) (fun t => md0_Mo_arrives_0 (by decide) (by omega) w8 _ _ _) (fun c k' z => md0_Mo_arrives_0 (by omega) (by omega) w8 _ _ _)
      have skip := second v8 w8 h8 j8 (fun _ => rfl) (fun _ _ _ => rfl)
      unfold mf_Mo_deliver_j1
      by_cases g0 : w 7 0 k = 0
      · rw [if_pos g0]; exact first
      · rw [if_neg g0]
        by_cases g33 : w 7 0 k = 3
        · rw [if_pos g33]; exact first
        · rw [if_neg g33]; exact skip


/-! the mesh's state beside what the law keeps of it; the calls keep it -/
def lz_c (θ : rm_St) (i j : Nat) : Int32 := if i < 8 then (if j < 8 then θ 0 (8 * i + j) else 0) else 0
def lz_L (K : Nat) (σ θ : rm_St) : Prop := (∀ i j, i < 10 → j < 10 → lz_c θ i j = σ (15 + i) j) ∧ (∀ n, n < 10 → θ 1 n = σ 5 n ∧ θ 1 (10 + n) = σ 6 n ∧ 0 ≤ (σ 6 n).toInt ∧ (σ 6 n).toInt ≤ (K : Int)) ∧ θ 2 0 = σ 0 4 ∧ θ 2 1 = σ 0 2 ∧ θ 2 2 = σ 0 5
def lz_I (K B : Nat) (σ θ : rm_St) : Prop := iv_M σ ∧ iv_N σ ∧ iv_T σ 10 ∧ lz_L K σ θ ∧ (σ 0 4).toInt ≤ (B : Int)
section IV3
variable {σ σ' σ1 σ2 τ θ : rm_St} {n o t i K B : Nat} {v : Int32}
theorem lz_I_up (h : lz_I K B σ θ) {K' B' : Nat} (hK : K ≤ K') (hB : B ≤ B') : lz_I K' B' σ θ := by
  obtain ⟨h1, h2, h3, ⟨h4, h5, h6⟩, h7⟩ := h
  refine ⟨h1, h2, h3, ⟨h4, fun n hn => ?_, h6⟩, by omega⟩
  obtain ⟨g1, g2, g3, g4⟩ := h5 n hn
  exact ⟨g1, g2, g3, by omega⟩
/-- a tick -/
theorem lz_tick (h : lz_I K B σ θ) (hB : B ≤ 2900) :
    ∃ c', (rm_tick σ).2 = nI c' ∧ c' ≤ rq_cnt (iv_due σ) 10 ∧ lz_I K (B + 1) (rm_tick σ).1 (rm_up θ 2 0 (θ 2 0 + 1)) ∧
      ∀ f, f < 10 → (∀ j, j < f → ¬ iv_due σ j = true) → iv_due σ f = true → 1 ≤ c' ∧ ∀ k, k < 10 → 0 < (σ (15 + f) k).toInt → (rm_tick σ).1 (45 + k) f = σ 9 f := by
  obtain ⟨h1, h2, h3, ⟨h4, h5, h6, h7, h8⟩, h9⟩ := h
  obtain ⟨c', g1, g2, g3, g4, g5, g6, ⟨g7, g8⟩, g9⟩ := iv_tick h1 h2 h3 (by omega)
  refine ⟨c', g1, g2, ⟨g3, g4, g5, ⟨fun i j hi hj => ?_, fun n hn => ?_, ?_, ?_, ?_⟩, by rw [g7, g8]; omega⟩, g9⟩
  · rw [g6 _ _ (Or.inr (by omega)) (by omega)]
    exact h4 i j hi hj
  · rw [g6 5 n (Or.inl (by omega)) (by omega), g6 6 n (Or.inl (by omega)) (by omega)]
    exact h5 n hn
  · rw [g7, rm_up_s, h6]
  · rw [g6 0 2 (Or.inl (by omega)) (by omega), rm_up_j (by decide)]; exact h7
  · rw [g6 0 5 (Or.inl (by omega)) (by omega), rm_up_j (by decide)]; exact h8
/-- some ticks -/
theorem lz_pass {T : Nat} (h : lz_I K B σ θ) (hT1 : T ≤ 100) (hB : B ≤ 2800) :
    ∃ c', (rm_pass σ (nI T)).2 = nI c' ∧ c' ≤ 10 * T ∧ lz_I K (B + T) (rm_pass σ (nI T)).1 (rm_up θ 2 0 (θ 2 0 + nI T)) := by
  obtain ⟨h1, h2, h3, ⟨h4, h5, h6, h7, h8⟩, h9⟩ := h
  have e : rm_pass σ (nI T) = rm_passL T 0 (nI 0) σ := by
    unfold rm_pass
    rw [nI_clamp (by omega)]
    rfl
  rw [e]
  obtain ⟨c', g1, g2, g3, g4, g5, g6, g7⟩ := iv_passL T 0 0 σ h1 h2 h3 (by omega)
  have h0 := h1.1.2.2
  have g8 : (σ 0 4 + nI T).toInt = (σ 0 4).toInt + T := by
    rw [iv_add (by omega) (by rw [nI_toInt (by omega)]; omega), nI_toInt (by omega)]
  refine ⟨c', g1, by omega, ⟨g3, g4, g5, ⟨fun i j hi hj => ?_, fun n hn => ?_, ?_, ?_, ?_⟩, by rw [g7, g8]; omega⟩⟩
  · rw [g6 _ _ (Or.inr (by omega)) (by omega)]
    exact h4 i j hi hj
  · rw [g6 5 n (Or.inl (by omega)) (by omega), g6 6 n (Or.inl (by omega)) (by omega)]
    exact h5 n hn
  · rw [g7, rm_up_s, h6]
  · rw [g6 0 2 (Or.inl (by omega)) (by omega), rm_up_j (by decide)]; exact h7
  · rw [g6 0 5 (Or.inl (by omega)) (by omega), rm_up_j (by decide)]; exact h8
/-- setRules -/
theorem lz_set_ (h : lz_I K B σ θ) {x y z w : Int32} (hz : 1 ≤ z.toInt ∧ z.toInt ≤ 8) (hw : 0 ≤ w.toInt ∧ w.toInt ≤ 6) : lz_I K B (rm_setS σ x y z w) (rm_up θ 2 1 z) := by
  obtain ⟨h1, h2, h3, ⟨h4, h5, h6, h7, h8⟩, h9⟩ := h
  have a0 : ∀ q j, (q ≠ 0 ∨ 3 < j) → rm_setS σ x y z w q j = σ q j := fun q j h => by
    unfold rm_setS
    rcases h with h | h
    · rw [rm_up_k h, rm_up_k h, rm_up_k h, rm_up_k h]
    · rw [rm_up_j (by omega), rm_up_j (by omega), rm_up_j (by omega), rm_up_j (by omega)]
  have a2 : rm_setS σ x y z w 0 2 = z := by
    unfold rm_setS
    rw [rm_up_j (by decide), rm_up_s]
  have a3 : rm_setS σ x y z w 0 3 = w := by
    unfold rm_setS
    rw [rm_up_s]
  generalize rm_setS σ x y z w = ρ at *
  have hf := h1.1
  refine ⟨⟨?_, fun a b ha hb => iv_cg_c (a0 _ _ (by omega)) (a0 _ _ (by omega)) (h1.2.1 a b ha hb), fun a b ha hb => iv_cg_h (a0 _ _ (by omega)) (a0 _ _ (by omega)) (a0 _ _ (by omega)) (a0 _ _ (by omega)) (fun r _ => by rw [a0 6 r (by omega)]; exact Int.le_refl _) (h1.2.2 a b ha hb)⟩,
    fun m hm => iv_cg_p (fun q hq => a0 _ _ (by omega)) (fun p _ => a0 _ _ (by omega)) (fun p _ => a0 _ _ (by omega)) (fun r _ => by rw [a0 6 r (by omega)]; exact Int.le_refl _) (a0 _ _ (by omega)) (h2 m hm), fun j hj => ?_, ⟨fun i j hi hj => ?_, fun n hn => ?_, ?_, ?_, ?_⟩, ?_⟩
  · unfold iv_f at hf ⊢
    rw [a2, a3, a0 0 4 (by omega)]
    exact ⟨hz, hw, hf.2.2⟩
  · have := h3 j hj
    unfold iv_I at this ⊢
    rw [a0 12 j (by omega), a0 13 j (by omega), a0 0 4 (by omega)]
    exact this
  · rw [a0 _ _ (by omega)]; exact h4 i j hi hj
  · rw [a0 5 n (by omega), a0 6 n (by omega)]; exact h5 n hn
  · rw [rm_up_j (by decide), a0 0 4 (by omega)]; exact h6
  · rw [rm_up_s, a2]
  · rw [rm_up_j (by decide), a0 0 5 (by omega)]; exact h8
  · rw [a0 0 4 (by omega)]; exact h9
/-- a step that changes a node and its timer alone -/
theorem iv_T_ch (hf : iv_f σ) (h : iv_ch n σ σ') (hT : iv_T σ 10) : iv_T σ' 10 := fun j hj => by
  obtain ⟨t0, t1, -⟩ := hT j hj
  have e4 : σ' 0 4 = σ 0 4 := h.1 0 4 (by omega)
  have ea : (σ 0 4 + σ 0 2).toInt = (σ 0 4).toInt + (σ 0 2).toInt := by
    unfold iv_f at hf
    exact iv_add (by omega) (by omega)
  unfold iv_f at hf
  unfold iv_I at t0 ⊢
  rw [e4]
  have t1 := t1 hj
  refine ⟨?_, fun _ => ?_, fun q => by omega⟩
  · by_cases e : j = n
    · subst e
      rcases h.2 with ⟨g1, -⟩ | ⟨g1, -⟩ <;> rw [g1] <;> omega
    · rw [h.1 12 j (by omega)]; exact t0
  · by_cases e : j = n
    · subst e
      rcases h.2 with ⟨-, g1⟩ | ⟨-, g1⟩ <;> rw [g1]
      · exact t1
      · rw [ea]; omega
    · rw [h.1 13 j (by omega)]; exact t1
theorem lz_L_ch (h : iv_ch n σ σ') (hL : lz_L K σ θ) : lz_L K σ' θ := by
  obtain ⟨h4, h5, h6, h7, h8⟩ := hL
  refine ⟨fun i j hi hj => ?_, fun m hm => ?_, ?_, ?_, ?_⟩
  · rw [h.1 _ _ (by omega)]; exact h4 i j hi hj
  · rw [h.1 5 m (by omega), h.1 6 m (by omega)]; exact h5 m hm
  · rw [h.1 0 4 (by omega)]; exact h6
  · rw [h.1 0 2 (by omega)]; exact h7
  · rw [h.1 0 5 (by omega)]; exact h8
/-- link -/
theorem iv_forget_v : (∀ q j, (j ≠ o ∨ (q ≠ 25 + n ∧ q ≠ 35 + n ∧ q ≠ 45 + n)) → rm_forget σ n o q j = σ q j) ∧ rm_forget σ n o (45 + n) o = -1 := by
  refine ⟨fun q j h => ?_, ?_⟩
  · unfold rm_forget
    rcases h with h | h
    · rw [rm_up_j h, rm_up_j h, rm_up_j h]
    · rw [rm_up_k h.2.2, rm_up_k h.2.1, rm_up_k h.1]
  · unfold rm_forget
    rw [rm_up_s]
theorem iv_lnk_v (hn : n < 10) (ho : o < 10) (hno : n ≠ o) : (∀ q j, q < 15 → rm_lnk σ n o v q j = σ q j) ∧ (∀ a b, a < 10 → b < 10 → rm_lnk σ n o v (15 + a) b = if (a = n ∧ b = o) ∨ (a = o ∧ b = n) then v else σ (15 + a) b) ∧
    (∀ q j, 24 < q → ((j ≠ o ∨ (q ≠ 25 + n ∧ q ≠ 35 + n ∧ q ≠ 45 + n)) ∧ (j ≠ n ∨ (q ≠ 25 + o ∧ q ≠ 35 + o ∧ q ≠ 45 + o)) ∨ v ≠ 0) → rm_lnk σ n o v q j = σ q j) ∧
    (v = 0 → rm_lnk σ n o v (45 + n) o = -1 ∧ rm_lnk σ n o v (45 + o) n = -1) := by
  have b0 : ∀ q j, (q < 15 ∨ 24 < q) → rm_up (rm_up σ (15 + n) o v) (15 + o) n v q j = σ q j := fun q j h => by
    rw [rm_up_k (by omega), rm_up_k (by omega)]
  have b1 : ∀ a b, a < 10 → b < 10 → rm_up (rm_up σ (15 + n) o v) (15 + o) n v (15 + a) b = if (a = n ∧ b = o) ∨ (a = o ∧ b = n) then v else σ (15 + a) b := fun a b ha hb => by
    by_cases e1 : a = o ∧ b = n
    · obtain ⟨rfl, rfl⟩ := e1
      rw [rm_up_s, if_pos (Or.inr ⟨rfl, rfl⟩)]
    · have k1 : rm_up (rm_up σ (15 + n) o v) (15 + o) n v (15 + a) b = rm_up σ (15 + n) o v (15 + a) b := by
        by_cases e : a = o
        · exact rm_up_j (fun q => e1 ⟨e, q⟩)
        · exact rm_up_k (by omega)
      rw [k1]
      by_cases e2 : a = n ∧ b = o
      · obtain ⟨rfl, rfl⟩ := e2
        rw [rm_up_s, if_pos (Or.inl ⟨rfl, rfl⟩)]
      · rw [if_neg (fun q => q.elim e2 e1)]
        by_cases e : a = n
        · exact rm_up_j (fun q => e2 ⟨e, q⟩)
        · exact rm_up_k (by omega)
  unfold rm_lnk
  by_cases c : v = 0
  · rw [if_pos c]
    generalize rm_up (rm_up σ (15 + n) o v) (15 + o) n v = ρ at *
    obtain ⟨f0, f1⟩ := iv_forget_v (σ := ρ) (n := n) (o := o)
    obtain ⟨g0, g1⟩ := iv_forget_v (σ := rm_forget ρ n o) (n := o) (o := n)
    refine ⟨fun q j h => by rw [g0 _ _ (by omega), f0 _ _ (by omega), b0 q j (by omega)], fun a b ha hb => by rw [g0 _ _ (by omega), f0 _ _ (by omega), b1 a b ha hb], fun q j hq h => ?_, fun _ => ⟨?_, g1⟩⟩
    · rcases h with ⟨h1, h2⟩ | h
      · rw [g0 _ _ h2, f0 _ _ h1, b0 q j (by omega)]
      · exact absurd c h
    · rw [g0 _ _ (by omega), f1]
  · rw [if_neg c]
    exact ⟨fun q j h => b0 q j (by omega), b1, fun q j hq _ => b0 q j (by omega), fun h => absurd h c⟩
theorem lz_link_ (h : lz_I K B σ θ) (hn : n < 8) (ho : o < 8) (hno : n ≠ o) (hv : 0 ≤ v.toInt ∧ v.toInt ≤ 100) :
    lz_I K B (rm_linkS σ (nI n) (nI o) v) (rm_up (rm_up θ 0 (8 * n + o) v) 0 (8 * o + n) v) ∧ (v = 0 → rm_linkS σ (nI n) (nI o) v (45 + n) o = -1 ∧ rm_linkS σ (nI n) (nI o) v (45 + o) n = -1) := by
  obtain ⟨h1, h2, h3, ⟨h4, h5, h6, h7, h8⟩, h9⟩ := h
  obtain ⟨a0, a1, a2, a3⟩ := iv_lnk_v (σ := σ) (v := v) (n := n) (o := o) (by omega) (by omega) hno
  unfold rm_linkS
  rw [rm_cl (show n < 10 by omega), rm_cl (show o < 10 by omega)]
  generalize rm_lnk σ n o v = ρ at *
  have h6' : ∀ r, r < 10 → (σ 6 r).toInt ≤ (ρ 6 r).toInt := fun r _ => by rw [a0 6 r (by omega)]; exact Int.le_refl _
  have hM : iv_M ρ := by
    refine ⟨iv_cg_f (fun j => a0 0 j (by omega)) h1.1, fun a b ha hb => ?_, fun a b ha hb => ?_⟩
    · obtain ⟨c1, c2, c3⟩ := h1.2.1 a b ha hb
      unfold iv_c
      rw [a1 a b ha hb, a1 b a hb ha]
      by_cases e : (a = n ∧ b = o) ∨ (a = o ∧ b = n)
      · rw [if_pos e, if_pos (by omega)]
        exact ⟨hv, fun q => by omega, rfl⟩
      · rw [if_neg e, if_neg (by omega)]
        exact ⟨c1, c2, c3⟩
    · by_cases e : (a = n ∧ b = o) ∨ (a = o ∧ b = n)
      · by_cases c : v = 0
        · left
          rcases e with ⟨rfl, rfl⟩ | ⟨rfl, rfl⟩
          · exact (a3 c).1
          · exact (a3 c).2
        · rcases h1.2.2 a b ha hb with g | ⟨g1, g2, g3⟩
          · left
            rw [a2 _ _ (by omega) (Or.inr c)]; exact g
          · right
            rw [a2 (45 + a) b (by omega) (Or.inr c), a2 (35 + a) b (by omega) (Or.inr c), a2 (25 + a) b (by omega) (Or.inr c), a1 a b ha hb, if_pos e]
            refine ⟨?_, g2, fun q => iv_ok_mono h6' (g3 q)⟩
            have : ¬ v.toInt = 0 := fun q => c (Int32.toInt_inj.mp q)
            omega
      · have ea : ρ (15 + a) b = σ (15 + a) b := by rw [a1 a b ha hb, if_neg e]
        exact iv_cg_h ea (a2 _ _ (by omega) (Or.inl (by omega))) (a2 _ _ (by omega) (Or.inl (by omega))) (a2 _ _ (by omega) (Or.inl (by omega))) h6' (h1.2.2 a b ha hb)
  have hp : ∀ m, m < 10 → m ≠ n → m ≠ o → iv_p ρ m := fun m hm m1 m2 => iv_cg_p (fun q hq => a0 _ _ (by omega)) (fun p hp => by rw [a1 m p hm hp, if_neg (by omega)]) (fun p _ => a2 _ _ (by omega) (Or.inl (by omega))) h6' (a0 _ _ (by omega)) (h2 m hm)
  have hq : ∀ m, m < 10 → iv_q ρ m := fun m hm => by
    rcases iv_p_q (h2 m hm) with g | g
    · exact Or.inl (by rw [a0 5 m (by omega)]; exact g)
    · exact Or.inr (iv_cg_r (fun q hq => a0 _ _ (by omega)) g)
  have hT : iv_T ρ 10 := fun j hj => by
    have := h3 j hj
    unfold iv_I at this ⊢
    rw [a0 12 j (by omega), a0 13 j (by omega), a0 0 4 (by omega)]
    exact this
  have hL : lz_L K ρ (rm_up (rm_up θ 0 (8 * n + o) v) 0 (8 * o + n) v) := by
    refine ⟨fun i j hi hj => ?_, fun m hm => ?_, ?_, ?_, ?_⟩
    · rw [a1 i j hi hj, ← h4 i j hi hj]
      unfold lz_c
      by_cases hi8 : i < 8
      · rw [if_pos hi8, if_pos hi8]
        by_cases hj8 : j < 8
        · rw [if_pos hj8, if_pos hj8]
          by_cases e1 : i = o ∧ j = n
          · obtain ⟨rfl, rfl⟩ := e1
            rw [rm_up_s, if_pos (Or.inr ⟨rfl, rfl⟩)]
          · rw [rm_up_j (by omega)]
            by_cases e2 : i = n ∧ j = o
            · obtain ⟨rfl, rfl⟩ := e2
              rw [rm_up_s, if_pos (Or.inl ⟨rfl, rfl⟩)]
            · rw [rm_up_j (by omega), if_neg (by omega)]
        · rw [if_neg hj8, if_neg hj8, if_neg (by omega)]
      · rw [if_neg hi8, if_neg hi8, if_neg (by omega)]
    · rw [rm_up_k (by decide), rm_up_k (by decide), rm_up_k (by decide), rm_up_k (by decide), a0 5 m (by omega), a0 6 m (by omega)]
      exact h5 m hm
    · rw [rm_up_k (by decide), rm_up_k (by decide), a0 0 4 (by omega)]; exact h6
    · rw [rm_up_k (by decide), rm_up_k (by decide), a0 0 2 (by omega)]; exact h7
    · rw [rm_up_k (by decide), rm_up_k (by decide), a0 0 5 (by omega)]; exact h8
  obtain ⟨d1, d2⟩ := iv_choose hM (show n < 10 by omega) (hq n (by omega))
  have hM2 := iv_ch_M d1 hM
  have hq2 : iv_q (rm_choose ρ n) o := by
    rcases hq o (by omega) with g | g
    · exact Or.inl (by rw [d1.1 5 o (by omega)]; exact g)
    · exact Or.inr (iv_cg_r (fun q hq => d1.1 _ _ (by omega)) g)
  have hT2 := iv_T_ch hM.1 d1 hT
  have hL2 := lz_L_ch d1 hL
  have e45 : ∀ k j, rm_choose ρ n (45 + k) j = ρ (45 + k) j := fun k j => d1.1 _ _ (by omega)
  have e04 : rm_choose ρ n 0 4 = ρ 0 4 := d1.1 _ _ (by omega)
  have hp2 : ∀ m, m < 10 → m ≠ o → iv_p (rm_choose ρ n) m := fun m hm m2 => by
    by_cases e : m = n
    · subst e; exact d2
    · exact iv_ch_p d1 e (hp m hm e m2)
  generalize rm_choose ρ n = π at *
  obtain ⟨f1, f2⟩ := iv_choose hM2 (show o < 10 by omega) hq2
  refine ⟨⟨iv_ch_M f1 hM2, fun m hm => ?_, iv_T_ch hM2.1 f1 hT2, lz_L_ch f1 hL2, ?_⟩, fun c => ?_⟩
  · by_cases e : m = o
    · subst e; exact f2
    · exact iv_ch_p f1 e (hp2 m hm e)
  · rw [f1.1 0 4 (by omega), e04, a0 0 4 (by omega)]; exact h9
  · rw [f1.1 _ _ (by omega), f1.1 _ _ (by omega), e45, e45]
    exact a3 c
/-- a root begins, or renews -/
theorem iv_begin_v : (∀ q j, (j ≠ n ∨ (q ≠ 6 ∧ q ≠ 8 ∧ q ≠ 12 ∧ q ≠ 13)) → rm_begin σ n q j = σ q j) ∧ rm_begin σ n 6 n = σ 6 n + 1 ∧ rm_begin σ n 8 n = σ 6 n + 1 ∧ rm_begin σ n 12 n = σ 0 2 ∧ rm_begin σ n 13 n = σ 0 4 + σ 0 2 := by
  unfold rm_begin
  have e6 : rm_begin0 σ n 6 n = σ 6 n + 1 := by unfold rm_begin0; rw [rm_up_s]
  have b0 : ∀ q j, (j ≠ n ∨ q ≠ 6) → rm_begin0 σ n q j = σ q j := fun q j h => by
    unfold rm_begin0
    rcases h with h | h
    · exact rm_up_j h
    · exact rm_up_k h
  generalize rm_begin0 σ n = ρ at *
  obtain ⟨c0, c1, c2⟩ := iv_reset_v (σ := rm_up ρ 8 n (ρ 6 n)) (n := n)
  refine ⟨fun q j h => ?_, ?_, ?_, ?_, ?_⟩
  · rw [c0 q j (by omega)]
    rcases h with h | h
    · rw [rm_up_j h, b0 q j (Or.inl h)]
    · rw [rm_up_k h.2.1, b0 q j (Or.inr h.1)]
  · rw [c0 6 n (by omega), rm_up_k (by decide), e6]
  · rw [c0 8 n (by omega), rm_up_s, e6]
  · rw [c1, rm_up_k (by decide), b0 0 2 (by omega)]
  · rw [c2, rm_up_k (by decide), rm_up_k (by decide), b0 0 4 (by omega), b0 0 2 (by omega)]
theorem lz_begin_ (hn : n < 10) (h : lz_I K B σ θ) (hK : K ≤ 1000) (ρ : rm_St) (hρ : ∀ q j, (j ≠ n ∨ (q ≠ 5 ∧ q ≠ 7 ∧ q ≠ 9 ∧ q ≠ 10 ∧ q ≠ 11)) → ρ q j = σ q j) (e5 : ρ 5 n = 1) (e7 : ρ 7 n = nI n) (e9 : ρ 9 n = 0) (e11 : ρ 11 n = -1) (θ' : rm_St)
    (t0 : ∀ q j, (q ≠ 1 ∨ (j ≠ n ∧ j ≠ 10 + n)) → θ' q j = θ q j) (t1 : θ' 1 n = 1) (t2 : θ' 1 (10 + n) = θ 1 (10 + n) + 1) :
    lz_I (K + 1) B (rm_begin ρ n) θ' ∧ rm_begin ρ n 8 n = θ 1 (10 + n) + 1 ∧ rm_begin ρ n 13 n = θ 2 0 + θ 2 1 ∧ 1 ≤ (θ 1 (10 + n) + 1).toInt := by
  obtain ⟨h1, h2, h3, ⟨h4, h5, h6, h7, h8⟩, h9⟩ := h
  obtain ⟨b0, b6, b8, b12, b13⟩ := iv_begin_v (σ := ρ) (n := n)
  have r6 : ρ 6 n = σ 6 n := hρ 6 n (by omega)
  rw [r6] at b6 b8
  rw [hρ 0 4 (by omega), hρ 0 2 (by omega)] at b13
  rw [hρ 0 2 (by omega)] at b12
  have a0 : ∀ q j, (j ≠ n ∨ (q ≠ 5 ∧ q ≠ 6 ∧ q ≠ 7 ∧ q ≠ 8 ∧ q ≠ 9 ∧ q ≠ 10 ∧ q ≠ 11 ∧ q ≠ 12 ∧ q ≠ 13)) → rm_begin ρ n q j = σ q j := fun q j h => by
    rw [b0 q j (by omega), hρ q j (by omega)]
  have a5 : rm_begin ρ n 5 n = 1 := by rw [b0 5 n (by omega), e5]
  have a7 : rm_begin ρ n 7 n = nI n := by rw [b0 7 n (by omega), e7]
  have a9 : rm_begin ρ n 9 n = 0 := by rw [b0 9 n (by omega), e9]
  have a11 : rm_begin ρ n 11 n = -1 := by rw [b0 11 n (by omega), e11]
  generalize rm_begin ρ n = π at *
  have hk := (h5 n hn).2.2
  have es : (σ 6 n + 1).toInt = (σ 6 n).toInt + 1 := iv_add (by omega) (by decide)
  have l6 : ∀ r, r < 10 → (σ 6 r).toInt ≤ (π 6 r).toInt := fun r _ => by
    by_cases e : r = n
    · subst e; rw [b6, es]; omega
    · rw [a0 6 r (by omega)]; exact Int.le_refl _
  have hf := h1.1
  refine ⟨⟨⟨iv_cg_f (fun j => a0 0 j (by omega)) h1.1, fun a b ha hb => iv_cg_c (a0 _ _ (by omega)) (a0 _ _ (by omega)) (h1.2.1 a b ha hb), fun a b ha hb => iv_cg_h (a0 _ _ (by omega)) (a0 _ _ (by omega)) (a0 _ _ (by omega)) (a0 _ _ (by omega)) l6 (h1.2.2 a b ha hb)⟩,
    fun m hm => ?_, fun j hj => ?_, ⟨fun i j hi hj => ?_, fun m hm => ?_, ?_, ?_, ?_⟩, ?_⟩, ?_, ?_, ?_⟩
  · by_cases e : m = n
    · subst e
      exact Or.inl ⟨a5, a7, by rw [b8, b6], a9, a11, by rw [b6, es]; omega⟩
    · exact iv_cg_p (fun q hq => a0 _ _ (by omega)) (fun p _ => a0 _ _ (by omega)) (fun p _ => a0 _ _ (by omega)) l6 (a0 _ _ (by omega)) (h2 m hm)
  · have := h3 j hj
    unfold iv_f at hf
    unfold iv_I at this ⊢
    rw [a0 0 4 (by omega)]
    by_cases e : j = n
    · subst e
      have ea : (σ 0 4 + σ 0 2).toInt = (σ 0 4).toInt + (σ 0 2).toInt := iv_add (by omega) (by omega)
      rw [b12, b13, ea]
      exact ⟨by omega, fun _ => by omega, fun _ => by omega⟩
    · rw [a0 12 j (by omega), a0 13 j (by omega)]
      exact this
  · rw [a0 _ _ (by omega), ← h4 i j hi hj]
    unfold lz_c
    rw [t0 0 _ (Or.inl (by decide))]
  · by_cases e : m = n
    · subst e
      rw [t1, t2, a5, b6, (h5 m hm).2.1, es]
      exact ⟨rfl, rfl, by omega, by omega⟩
    · obtain ⟨k1, k2, k3, k4⟩ := h5 m hm
      rw [t0 1 m (Or.inr (by omega)), t0 1 (10 + m) (Or.inr (by omega)), a0 5 m (by omega), a0 6 m (by omega)]
      exact ⟨k1, k2, k3, by omega⟩
  · rw [t0 2 0 (Or.inl (by decide)), a0 0 4 (by omega)]; exact h6
  · rw [t0 2 1 (Or.inl (by decide)), a0 0 2 (by omega)]; exact h7
  · rw [t0 2 2 (Or.inl (by decide)), a0 0 5 (by omega)]; exact h8
  · rw [a0 0 4 (by omega)]; exact h9
  · rw [b8, (h5 n hn).2.1]
  · rw [b13, h6, h7]
  · rw [(h5 n hn).2.1, es]; omega
theorem iv_mk_v : (∀ q j, (j ≠ n ∨ (q ≠ 5 ∧ q ≠ 7 ∧ q ≠ 9 ∧ q ≠ 10 ∧ q ≠ 11)) → rm_mk σ n q j = σ q j) ∧ rm_mk σ n 5 n = 1 ∧ rm_mk σ n 7 n = nI n ∧ rm_mk σ n 9 n = 0 ∧ rm_mk σ n 11 n = -1 := by
  unfold rm_mk
  refine ⟨fun q j h => ?_, ?_, ?_, ?_, ?_⟩
  · rcases h with h | h
    · rw [rm_up_j h, rm_up_j h, rm_up_j h, rm_up_j h, rm_up_j h]
    · rw [rm_up_k h.2.2.2.2, rm_up_k h.2.2.2.1, rm_up_k h.2.2.1, rm_up_k h.2.1, rm_up_k h.1]
  · rw [rm_up_k (by decide), rm_up_k (by decide), rm_up_k (by decide), rm_up_k (by decide), rm_up_s]
  · rw [rm_up_k (by decide), rm_up_k (by decide), rm_up_k (by decide), rm_up_s]
  · rw [rm_up_k (by decide), rm_up_k (by decide), rm_up_s]
  · rw [rm_up_s]
/-- endRoot -/
theorem iv_clear_v : (∀ q j, (j ≠ n ∨ (q ≠ 7 ∧ q ≠ 8 ∧ q ≠ 9 ∧ q ≠ 10 ∧ q ≠ 11)) → rm_clear σ n q j = σ q j) := by
  unfold rm_clear
  intro q j h
  rcases h with h | h
  · rw [rm_up_j h, rm_up_j h, rm_up_j h, rm_up_j h, rm_up_j h]
  · rw [rm_up_k h.2.2.2.2, rm_up_k h.2.2.2.1, rm_up_k h.2.2.1, rm_up_k h.2.1, rm_up_k h.1]
theorem lz_end_ (hn : n < 10) (h : lz_I K B σ θ) : lz_I K B (rm_choose (rm_reset (rm_clear (rm_up σ 5 n 0) n) n) n) (rm_up θ 1 n 0) ∧ rm_choose (rm_reset (rm_clear (rm_up σ 5 n 0) n) n) n 13 n = θ 2 0 + θ 2 1 := by
  obtain ⟨h1, h2, h3, ⟨h4, h5, h6, h7, h8⟩, h9⟩ := h
  have c0 := iv_clear_v (σ := rm_up σ 5 n 0) (n := n)
  have c5 : rm_clear (rm_up σ 5 n 0) n 5 n = 0 := by rw [c0 5 n (by omega), rm_up_s]
  have c0' : ∀ q j, (j ≠ n ∨ (q ≠ 5 ∧ q ≠ 7 ∧ q ≠ 8 ∧ q ≠ 9 ∧ q ≠ 10 ∧ q ≠ 11)) → rm_clear (rm_up σ 5 n 0) n q j = σ q j := fun q j h => by
    rw [c0 q j (by omega)]
    rcases h with h | h
    · exact rm_up_j h
    · exact rm_up_k h.1
  generalize rm_clear (rm_up σ 5 n 0) n = ρ at *
  obtain ⟨b0, b12, b13⟩ := iv_reset_v (σ := ρ) (n := n)
  rw [c0' 0 2 (by omega)] at b12 b13
  rw [c0' 0 4 (by omega)] at b13
  have a0 : ∀ q j, (j ≠ n ∨ (q ≠ 5 ∧ q ≠ 7 ∧ q ≠ 8 ∧ q ≠ 9 ∧ q ≠ 10 ∧ q ≠ 11 ∧ q ≠ 12 ∧ q ≠ 13)) → rm_reset ρ n q j = σ q j := fun q j h => by
    rw [b0 q j (by omega), c0' q j (by omega)]
  have a5 : rm_reset ρ n 5 n = 0 := by rw [b0 5 n (by omega), c5]
  generalize rm_reset ρ n = π at *
  have hf := h1.1
  have l6 : ∀ r, r < 10 → (σ 6 r).toInt ≤ (π 6 r).toInt := fun r _ => by rw [a0 6 r (by omega)]; exact Int.le_refl _
  have hM : iv_M π := ⟨iv_cg_f (fun j => a0 0 j (by omega)) h1.1, fun a b ha hb => iv_cg_c (a0 _ _ (by omega)) (a0 _ _ (by omega)) (h1.2.1 a b ha hb), fun a b ha hb => iv_cg_h (a0 _ _ (by omega)) (a0 _ _ (by omega)) (a0 _ _ (by omega)) (a0 _ _ (by omega)) l6 (h1.2.2 a b ha hb)⟩
  have hT : iv_T π 10 := fun j hj => by
    have := h3 j hj
    unfold iv_f at hf
    unfold iv_I at this ⊢
    rw [a0 0 4 (by omega)]
    by_cases e : j = n
    · subst e
      have ea : (σ 0 4 + σ 0 2).toInt = (σ 0 4).toInt + (σ 0 2).toInt := iv_add (by omega) (by omega)
      rw [b12, b13, ea]
      exact ⟨by omega, fun _ => by omega, fun _ => by omega⟩
    · rw [a0 12 j (by omega), a0 13 j (by omega)]
      exact this
  have hL : lz_L K π (rm_up θ 1 n 0) := by
    refine ⟨fun i j hi hj => ?_, fun m hm => ?_, ?_, ?_, ?_⟩
    · rw [a0 _ _ (by omega), ← h4 i j hi hj]
      unfold lz_c
      rw [rm_up_k (by decide)]
    · obtain ⟨k1, k2, k3, k4⟩ := h5 m hm
      rw [rm_up_j (show 10 + m ≠ n by omega), a0 6 m (by omega)]
      by_cases e : m = n
      · subst e
        rw [rm_up_s, a5]
        exact ⟨rfl, k2, k3, k4⟩
      · rw [rm_up_j e, a0 5 m (by omega)]
        exact ⟨k1, k2, k3, k4⟩
    · rw [rm_up_k (by decide), a0 0 4 (by omega)]; exact h6
    · rw [rm_up_k (by decide), a0 0 2 (by omega)]; exact h7
    · rw [rm_up_k (by decide), a0 0 5 (by omega)]; exact h8
  have hp : ∀ m, m < 10 → m ≠ n → iv_p π m := fun m hm e => iv_cg_p (fun q hq => a0 _ _ (by omega)) (fun p _ => a0 _ _ (by omega)) (fun p _ => a0 _ _ (by omega)) l6 (a0 _ _ (by omega)) (h2 m hm)
  obtain ⟨d1, d2⟩ := iv_choose hM hn (Or.inl a5)
  have p2 : π 0 2 = σ 0 2 := a0 0 2 (by omega)
  have p4 : π 0 4 = σ 0 4 := a0 0 4 (by omega)
  refine ⟨⟨iv_ch_M d1 hM, fun m hm => ?_, iv_T_ch hM.1 d1 hT, lz_L_ch d1 hL, ?_⟩, ?_⟩
  · by_cases e : m = n
    · subst e; exact d2
    · exact iv_ch_p d1 e (hp m hm e)
  · rw [d1.1 0 4 (by omega), p4]; exact h9
  · rw [h6, h7]
    rcases d1.2 with ⟨-, g⟩ | ⟨-, g⟩
    · rw [g, b13]
    · rw [g, p2, p4]
end IV3

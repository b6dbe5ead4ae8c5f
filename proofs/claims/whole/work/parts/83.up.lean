/-! counting over the nodes; up: here as there -/
def rq_cnt (p : Nat → Bool) : Nat → Nat
  | 0 => 0
  | r + 1 => rq_cnt p r + (if p r = true then 1 else 0)
theorem rq_cnt_s {p : Nat → Bool} {r : Nat} : rq_cnt p (r + 1) = rq_cnt p r + (if p r = true then 1 else 0) := rfl
theorem rq_cnt_le {p : Nat → Bool} : ∀ r, rq_cnt p r ≤ r := by
  intro r
  induction r with
  | zero => exact Nat.le_refl _
  | succ r ih =>
    rw [rq_cnt_s]
    by_cases c : p r = true
    · rw [if_pos c]; omega
    · rw [if_neg c]; omega
theorem rq_cnt_mono {p q : Nat → Bool} : ∀ r, (∀ i, i < r → p i = true → q i = true) → rq_cnt p r ≤ rq_cnt q r := by
  intro r
  induction r with
  | zero => intro _; exact Nat.le_refl _
  | succ r ih =>
    intro h
    have h1 := ih (fun i hi => h i (by omega))
    have h2 := h r (by omega)
    rw [rq_cnt_s, rq_cnt_s]
    by_cases c : p r = true
    · rw [if_pos c, if_pos (h2 c)]; omega
    · rw [if_neg c]; omega
theorem rq_cnt_lt {p q : Nat → Bool} : ∀ r, (∀ i, i < r → p i = true → q i = true) → (∃ i, i < r ∧ q i = true ∧ ¬ p i = true) → rq_cnt p r < rq_cnt q r := by
  intro r
  induction r with
  | zero => intro _ ⟨i, hi, _⟩; omega
  | succ r ih =>
    intro h ⟨i, hi, h1, h2⟩
    have hm := rq_cnt_mono r (fun i hi => h i (by omega))
    rw [rq_cnt_s, rq_cnt_s]
    by_cases e : i = r
    · subst e
      rw [if_neg h2, if_pos h1]; omega
    · have h4 := ih (fun i hi => h i (by omega)) ⟨i, by omega, h1, h2⟩
      have h3 := h r (by omega)
      by_cases c : p r = true
      · rw [if_pos c, if_pos (h3 c)]; omega
      · rw [if_neg c]; omega
theorem rq_cnt_full {p : Nat → Bool} : ∀ r, r ≤ rq_cnt p r → ∀ i, i < r → p i = true := by
  intro r
  induction r with
  | zero => intro _ i hi; omega
  | succ r ih =>
    intro h i hi
    have h1 := rq_cnt_le (p := p) r
    rw [rq_cnt_s] at h
    by_cases c : p r = true
    · rw [if_pos c] at h
      by_cases e : i = r
      · subst e; exact c
      · exact ih (by omega) i (by omega)
    · rw [if_neg c] at h
      omega
theorem rq_cnt_pos {p : Nat → Bool} {r i : Nat} (hi : i < r) (h : p i = true) : 1 ≤ rq_cnt p r := by
  have h1 := rq_cnt_lt (p := fun _ => false) (q := p) r (fun i _ q => by cases q) ⟨i, hi, h, by decide⟩
  omega
section RQU
variable {σ τ : rm_St} {n o : Nat}
theorem rq_okn (h : rq σ τ) : rn_ok τ := fun n hn => by
  obtain ⟨⟨-, -, -, -, -, g6, -⟩, -, -, -, gp, -⟩ := h.2.1 n hn
  rw [← g6]
  exact gp
def rq_less (τ : rm_St) (k : Nat) : Nat := rq_cnt (fun i => decide (τ 6 i < τ 6 k)) 10
theorem rq_less_lt {o k : Nat} (ho : o < 10) (c : τ 6 o < τ 6 k) : rq_less τ o < rq_less τ k := by
  refine rq_cnt_lt 10 (fun i _ q => ?_) ⟨o, ho, decide_eq_true c, fun q => ?_⟩
  · have q := of_decide_eq_true q
    refine decide_eq_true ?_
    rw [Int32.lt_iff_toInt_lt] at q c ⊢
    omega
  · have q := of_decide_eq_true q
    rw [Int32.lt_iff_toInt_lt] at q
    omega
theorem rq_less_9 {o : Nat} (ho : o < 10) : rq_less τ o < 10 := by
  have h1 := rq_cnt_le (p := fun _ => true) 10
  have h2 := rq_cnt_lt (p := fun i => decide (τ 6 i < τ 6 o)) (q := fun _ => true) 10 (fun i _ _ => rfl) ⟨o, ho, rfl, fun q => by
    have q := of_decide_eq_true q
    rw [Int32.lt_iff_toInt_lt] at q
    omega⟩
  unfold rq_less
  omega
theorem rn_upOK_of (hok : rn_ok τ) : ∀ (r k : Nat) (d : Int32), k < 10 → (d = 0 ∧ rq_less τ k + 10 < r ∨ d = 1 ∧ rq_less τ k < r) → rn_upOK τ r k d := by
  intro r
  induction r with
  | zero => intro k d hk h; omega
  | succ r ih =>
    intro k d hk h h2 h7 hd
    obtain ⟨o, ho, eo⟩ := isNd_of ((hok k hk).resolve_left h7)
    have e : rn_odd τ k d = if τ 6 o < τ 6 k then d + 0 else d + 1 := by
      unfold rn_odd
      rw [eo, rm_cl ho]
    rw [eo, rm_cl ho, e]
    rw [e] at hd
    by_cases c : τ 6 o < τ 6 k
    · have hlt := rq_less_lt ho c
      rw [if_pos c, Int32.add_zero]
      refine ih o d ho ?_
      rcases h with ⟨h, h0⟩ | ⟨h, h0⟩
      · exact Or.inl ⟨h, by omega⟩
      · exact Or.inr ⟨h, by omega⟩
    · have h9 := rq_less_9 (τ := τ) ho
      rw [if_neg c] at hd ⊢
      rcases h with ⟨h, h0⟩ | ⟨h, h0⟩
      · subst h
        exact ih o _ ho (Or.inr ⟨rfl, by omega⟩)
      · subst h
        exact absurd rfl hd
theorem rq_upOK (h : rq σ τ) (hn : n < 10) : rn_upOK τ 21 n 0 := rn_upOK_of (rq_okn h) 21 n 0 hn (Or.inl ⟨rfl, by have := rq_less_9 (τ := τ) hn; omega⟩)
theorem rq_upL (h : rq σ τ) : ∀ (r i k : Nat) (w : Bool) (d : Int32), k < 10 → (d = 0 ∧ w = false ∨ d = 1 ∧ w = true) → rn_upOK τ r k d →
    (rm_upL σ r i k w).2 = (rn_upL τ r k (nI i) d).2 ∧ ((rm_upL σ r i k w).1 = σ ∧ (rn_upL τ r k (nI i) d).1 = τ ∨ (rm_upL σ r i k w).1 = rm_drop σ ∧ (rn_upL τ r k (nI i) d).1 = rm_up τ 0 19 (τ 0 19 + 1)) := by
  intro r
  induction r with
  | zero => intro i k w d _ _ hOK; exact hOK.elim
  | succ r ih =>
    intro i k w d hk hd hOK
    obtain ⟨⟨e5, -, -, -, e9, e11, -⟩, -, -, -, hp, -⟩ := h.2.1 k hk
    by_cases c5 : σ 5 k = 0
    · have c2 : τ 2 k = 0 := by rw [← e5]; exact c5
      rcases hp with hp | hp
      · have E1 : rm_upL σ (r + 1) i k w = (σ, -1) := by
          unfold rm_upL
          rw [if_pos c5, hp, if_neg (by decide)]
        have E2 : rn_upL τ (r + 1) k (nI i) d = (τ, -1) := by
          unfold rn_upL
          rw [if_pos c2, if_pos (by rw [← e11]; exact hp)]
        rw [E1, E2]
        exact ⟨rfl, Or.inl ⟨rfl, rfl⟩⟩
      · obtain ⟨o, ho, eo⟩ := isNd_of hp
        have et : τ 7 k = nI o := by rw [← e11]; exact eo
        have hne : ¬ τ 7 k = -1 := fun q => by
          have h1 := nI_pos (n := o) (by omega)
          rw [← et, q] at h1
          exact h1 (by decide)
        have eo9 := (h.2.1 o ho).1.2.2.2.2.1
        have ex : rn_odd τ k d = if σ 9 o < σ 9 k then d + 0 else d + 1 := by
          unfold rn_odd
          rw [et, rm_cl ho, eo9, e9]
        have F1 : rm_upL σ (r + 1) i k w = (if σ 9 o < σ 9 k then rm_upL σ r (i + 1) o w else if w = true then (rm_drop σ, -2) else rm_upL σ r (i + 1) o true) := by
          rw [rm_upL, if_pos c5, if_pos hp, eo, rm_cl ho]
        have F2 : rn_upL τ (r + 1) k (nI i) d = (if rn_odd τ k d = 2 then (rm_up τ 0 19 (τ 0 19 + 1), -2) else rn_upL τ r o (nI (i + 1)) (rn_odd τ k d)) := by
          rw [rn_upL, if_pos c2, if_neg hne, et, rm_cl ho, nI_1]
        have hOK := hOK c2 hne
        rw [et, rm_cl ho] at hOK
        rw [F1, F2]
        rw [ex] at hOK ⊢
        by_cases c : σ 9 o < σ 9 k
        · rw [if_pos c, if_pos c, Int32.add_zero]
          rw [if_pos c, Int32.add_zero] at hOK
          have hd2 : ¬ d = 2 := by
            rcases hd with ⟨rfl, -⟩ | ⟨rfl, -⟩ <;> decide
          rw [if_neg hd2]
          exact ih (i + 1) o w d ho hd (hOK hd2)
        · rw [if_neg c, if_neg c]
          rw [if_neg c] at hOK
          rcases hd with ⟨rfl, rfl⟩ | ⟨rfl, rfl⟩
          · rw [if_neg (by decide), if_neg (by decide)]
            exact ih (i + 1) o true _ ho (Or.inr ⟨rfl, rfl⟩) (hOK (by decide))
          · rw [if_pos rfl, if_pos (by decide)]
            exact ⟨rfl, Or.inr ⟨rfl, rfl⟩⟩
    · have E1 : rm_upL σ (r + 1) i k w = (σ, nI i) := by
        unfold rm_upL
        rw [if_neg c5]
      have E2 : rn_upL τ (r + 1) k (nI i) d = (τ, nI i) := by
        unfold rn_upL
        rw [if_neg (by rw [← e5]; exact c5)]
      rw [E1, E2]
      exact ⟨rfl, Or.inl ⟨rfl, rfl⟩⟩
theorem rq_drop (h : rq σ τ) : rq (rm_drop σ) (rm_up τ 0 19 (τ 0 19 + 1)) := by
  have a : ∀ q j, q ≠ 0 ∨ j ≠ 5 → rm_drop σ q j = σ q j := fun q j hq => by
    unfold rm_drop
    rcases hq with hq | hq
    · exact rm_up_k hq
    · exact rm_up_j hq
  have b : ∀ q j, q ≠ 0 ∨ j ≠ 19 → rm_up τ 0 19 (τ 0 19 + 1) q j = τ q j := fun q j hq => by
    rcases hq with hq | hq
    · exact rm_up_k hq
    · exact rm_up_j hq
  obtain ⟨⟨f0, f1, f2, f3, f4, f5⟩, h2, h3, h4⟩ := h
  refine ⟨⟨by rw [a 0 0 (by omega), b 0 0 (by omega), f0], by rw [a 0 1 (by omega), b 0 1 (by omega), f1], by rw [a 0 2 (by omega), b 0 2 (by omega), f2], by rw [a 0 3 (by omega), b 0 3 (by omega), f3], by rw [a 0 4 (by omega), b 0 4 (by omega), f4], ?_⟩, fun i hi => ?_, fun i j hi hj => ?_, fun i j hi hj => ?_⟩
  · unfold rm_drop
    rw [rm_up_s, rm_up_s, f5]
  · have g := h2 i hi
    unfold rq_n at g ⊢
    rw [a 5 i (by omega), a 6 i (by omega), a 7 i (by omega), a 8 i (by omega), a 9 i (by omega), a 10 i (by omega), a 11 i (by omega), a 12 i (by omega), a 13 i (by omega), b 2 i (by omega), b 3 i (by omega), b 4 i (by omega), b 5 i (by omega), b 6 i (by omega), b 7 i (by omega), b 8 i (by omega), b 9 i (by omega), b 10 i (by omega)]
    exact g
  · have g := h3 i j hi hj
    unfold rq_h at g ⊢
    rw [a (15 + i) j (by omega), a (25 + i) j (by omega), a (35 + i) j (by omega), a (45 + i) j (by omega), b 1 _ (by omega), b 11 _ (by omega), b 12 _ (by omega), b 13 _ (by omega)]
    exact g
  · rw [a (15 + i) j (by omega), a (15 + j) i (by omega)]
    exact h4 i j hi hj
theorem rq_g_up : rw_g_up rq := fun σ τ h p0 => by
  unfold rn_upS
  by_cases c : isNd p0 = true
  · rw [if_pos c, show rm_tN p0 = none from if_pos c]
    obtain ⟨j, hj, rfl⟩ := isNd_of c
    unfold rm_upS
    rw [rm_cl hj]
    have ht : rq σ (rm_up τ 0 20 0) := rq_thr h
    have h20 : rm_up τ 0 20 0 0 20 = 0 := rm_up_s _ _ _ _
    generalize rm_up τ 0 20 0 = τ' at ht h20 ⊢
    obtain ⟨g1, g2⟩ := rq_upL ht 21 0 j false 0 hj (Or.inl ⟨rfl, rfl⟩) (rq_upOK ht hj)
    rw [nI_0] at g1 g2
    rcases g2 with ⟨g2, g3⟩ | ⟨g2, g3⟩
    · refine ⟨?_, fun _ => g1, ?_⟩
      · rw [g3]; exact h20
      · rw [g3]
        show rq (rm_upL σ 21 0 j false).1 τ'
        rw [g2]
        exact ht
    · refine ⟨?_, fun _ => g1, ?_⟩
      · rw [g3, rm_up_j (by decide)]; exact h20
      · rw [g3]
        show rq (rm_upL σ 21 0 j false).1 _
        rw [g2]
        exact rq_drop ht
  · rw [if_neg c, show rm_tN p0 = some rm_IO from if_neg c]
    exact rq_no h
end RQU

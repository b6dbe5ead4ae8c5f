/-! a telling, a tick, a pass: here as there -/
section RQT
variable {σ τ : rm_St} {n o t i : Nat}
theorem rq_thr {v : Int32} (h : rq σ τ) : rq σ (rm_up τ 0 20 v) := by
  have e : ∀ q j, q ≠ 0 ∨ j ≠ 20 → rm_up τ 0 20 v q j = τ q j := fun q j hq => by
    rcases hq with hq | hq
    · exact rm_up_k hq
    · exact rm_up_j hq
  obtain ⟨⟨f0, f1, f2, f3, f4, f5⟩, h2, h3, h4⟩ := h
  refine ⟨⟨by rw [e 0 0 (by omega), f0], by rw [e 0 1 (by omega), f1], by rw [e 0 2 (by omega), f2], by rw [e 0 3 (by omega), f3], by rw [e 0 4 (by omega), f4], by rw [e 0 19 (by omega), f5]⟩, fun n hn => ?_, fun n o hn ho => ?_, h4⟩
  · have g := h2 n hn
    unfold rq_n at g ⊢
    rw [e 2 n (by omega), e 3 n (by omega), e 4 n (by omega), e 5 n (by omega), e 6 n (by omega), e 7 n (by omega), e 8 n (by omega), e 9 n (by omega), e 10 n (by omega)]
    exact g
  · have g := h3 n o hn ho
    unfold rq_h at g ⊢
    rw [e 1 _ (by omega), e 11 _ (by omega), e 12 _ (by omega), e 13 _ (by omega)]
    exact g
theorem rq_time {v : Int32} (h : rq σ τ) : rq (rm_up σ 0 4 v) (rm_up τ 0 4 v) := by
  have e : ∀ (s : rm_St) q j, q ≠ 0 ∨ j ≠ 4 → rm_up s 0 4 v q j = s q j := fun s q j hq => by
    rcases hq with hq | hq
    · exact rm_up_k hq
    · exact rm_up_j hq
  obtain ⟨⟨f0, f1, f2, f3, f4, f5⟩, h2, h3, h4⟩ := h
  refine ⟨⟨by rw [e _ 0 0 (by omega), e _ 0 0 (by omega), f0], by rw [e _ 0 1 (by omega), e _ 0 1 (by omega), f1], by rw [e _ 0 2 (by omega), e _ 0 2 (by omega), f2], by rw [e _ 0 3 (by omega), e _ 0 3 (by omega), f3], by rw [rm_up_s, rm_up_s], by rw [e _ 0 5 (by omega), e _ 0 19 (by omega), f5]⟩, fun n hn => ?_, fun n o hn ho => ?_, fun n o hn ho => ?_⟩
  · have g := h2 n hn
    unfold rq_n at g ⊢
    rw [e σ 5 n (by omega), e σ 6 n (by omega), e σ 7 n (by omega), e σ 8 n (by omega), e σ 9 n (by omega), e σ 10 n (by omega), e σ 11 n (by omega), e σ 12 n (by omega), e σ 13 n (by omega), e τ 2 n (by omega), e τ 3 n (by omega), e τ 4 n (by omega), e τ 5 n (by omega), e τ 6 n (by omega), e τ 7 n (by omega), e τ 8 n (by omega), e τ 9 n (by omega), e τ 10 n (by omega)]
    exact g
  · have g := h3 n o hn ho
    unfold rq_h at g ⊢
    rw [e σ (15 + n) o (by omega), e σ (25 + n) o (by omega), e σ (35 + n) o (by omega), e σ (45 + n) o (by omega), e τ 1 _ (by omega), e τ 11 _ (by omega), e τ 12 _ (by omega), e τ 13 _ (by omega)]
    exact g
  · rw [e σ (15 + n) o (by omega), e σ (15 + o) n (by omega)]
    exact h4 n o hn ho
theorem rq_hear (h : rq σ τ) (ht : t < 10) (hi : i < 10) : rq (rm_hear σ t i) (rn_hear τ t i) := by
  have g := h.2.1 t ht
  have es : rm_hear σ t i = rm_up (rm_up (rm_up σ (25 + i) t (σ 7 t)) (35 + i) t (σ 8 t)) (45 + i) t (σ 9 t) := by
    unfold rm_hear
    rw [show (rm_up σ (25 + i) t (σ 7 t)) 8 t = σ 8 t from rm_up_k (by omega), show ∀ w, (rm_up (rm_up σ (25 + i) t (σ 7 t)) (35 + i) t w) 9 t = σ 9 t from fun w => by rw [rm_up_k (by omega), rm_up_k (by omega)]]
  have et : rn_hear τ t i = rm_up (rm_up (rm_up τ 11 (10 * i + t) (τ 4 t)) 12 (10 * i + t) (τ 5 t)) 13 (10 * i + t) (τ 6 t) := by
    unfold rn_hear
    rw [show (rm_up τ 11 (10 * i + t) (τ 4 t)) 5 t = τ 5 t from rm_up_k (by decide), show ∀ w, (rm_up (rm_up τ 11 (10 * i + t) (τ 4 t)) 12 (10 * i + t) w) 6 t = τ 6 t from fun w => by rw [rm_up_k (by decide), rm_up_k (by decide)]]
  rw [es, et]
  have a : ∀ q j, (q ≠ 25 + i ∧ q ≠ 35 + i ∧ q ≠ 45 + i) ∨ j ≠ t → rm_up (rm_up (rm_up σ (25 + i) t (σ 7 t)) (35 + i) t (σ 8 t)) (45 + i) t (σ 9 t) q j = σ q j := fun q j hq => by
    rcases hq with ⟨q1, q2, q3⟩ | hq
    · rw [rm_up_k q3, rm_up_k q2, rm_up_k q1]
    · rw [rm_up_j hq, rm_up_j hq, rm_up_j hq]
  have b : ∀ q j, (q ≠ 11 ∧ q ≠ 12 ∧ q ≠ 13) ∨ j ≠ 10 * i + t → rm_up (rm_up (rm_up τ 11 (10 * i + t) (τ 4 t)) 12 (10 * i + t) (τ 5 t)) 13 (10 * i + t) (τ 6 t) q j = τ q j := fun q j hq => by
    rcases hq with ⟨q1, q2, q3⟩ | hq
    · rw [rm_up_k q3, rm_up_k q2, rm_up_k q1]
    · rw [rm_up_j hq, rm_up_j hq, rm_up_j hq]
  obtain ⟨⟨f0, f1, f2, f3, f4, f5⟩, h2, h3, h4⟩ := h
  refine ⟨⟨by rw [a 0 0 (by omega), b 0 0 (by omega), f0], by rw [a 0 1 (by omega), b 0 1 (by omega), f1], by rw [a 0 2 (by omega), b 0 2 (by omega), f2], by rw [a 0 3 (by omega), b 0 3 (by omega), f3], by rw [a 0 4 (by omega), b 0 4 (by omega), f4], by rw [a 0 5 (by omega), b 0 19 (by omega), f5]⟩, fun n hn => ?_, fun n o hn ho => ?_, fun n o hn ho => ?_⟩
  · have g := h2 n hn
    unfold rq_n at g ⊢
    rw [a 5 n (by omega), a 6 n (by omega), a 7 n (by omega), a 8 n (by omega), a 9 n (by omega), a 10 n (by omega), a 11 n (by omega), a 12 n (by omega), a 13 n (by omega), b 2 n (by omega), b 3 n (by omega), b 4 n (by omega), b 5 n (by omega), b 6 n (by omega), b 7 n (by omega), b 8 n (by omega), b 9 n (by omega), b 10 n (by omega)]
    exact g
  · have g0 := h3 n o hn ho
    by_cases e : n = i ∧ o = t
    · obtain ⟨rfl, rfl⟩ := e
      obtain ⟨⟨-, -, g3, g4, g5, -⟩, -, ⟨g6, g7⟩, g8, -⟩ := g
      refine ⟨by rw [a (15 + n) o (by omega), b 1 _ (by omega)]; exact g0.1, by rw [a (15 + n) o (by omega)]; exact g0.2.1, ?_, Or.inr ?_⟩
      · rw [rm_up_s, rm_up_s, g5]
      · rw [rm_up_s, rm_up_k (show 25 + n ≠ 45 + n by omega), rm_up_k (show 25 + n ≠ 35 + n by omega), rm_up_s, rm_up_k (show 35 + n ≠ 45 + n by omega), rm_up_s, rm_up_k (by decide : (11 : Nat) ≠ 13), rm_up_k (by decide : (11 : Nat) ≠ 12), rm_up_s, rm_up_k (by decide : (12 : Nat) ≠ 13), rm_up_s]
        exact ⟨g6, g7, g3, g4, g8⟩
    · unfold rq_h at g0 ⊢
      rw [a (15 + n) o (by omega), a (25 + n) o (by omega), a (35 + n) o (by omega), a (45 + n) o (by omega), b 1 _ (by omega), b 11 _ (by omega), b 12 _ (by omega), b 13 _ (by omega)]
      exact g0
  · rw [a (15 + n) o (by omega), a (15 + o) n (by omega)]
    exact h4 n o hn ho
theorem rq_tellL (ht : t < 10) : ∀ (r i : Nat) (σ τ : rm_St), i + r = 10 → rq σ τ → rq (rm_tellL t r i σ) (rn_tellL t r i τ) := by
  intro r
  induction r with
  | zero => intro i σ τ _ h; exact h
  | succ r ih =>
    intro i σ τ hi h
    have hi10 : i < 10 := by omega
    unfold rm_tellL rn_tellL
    rw [← (h.2.2.1 t i ht hi10).1]
    by_cases c : σ (15 + t) i ≤ 0
    · rw [if_pos c, if_pos c]
      exact ih (i + 1) σ τ (by omega) h
    · rw [if_neg c, if_neg c]
      exact ih (i + 1) _ _ (by omega) (rq_choose (rq_hear h ht hi10) hi10)
end RQT

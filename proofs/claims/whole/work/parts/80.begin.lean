/-! renew: here as there -/
section RQR
variable {σ τ : rm_St} {n : Nat}
theorem rq_begin_v : rm_begin σ n = rm_reset (rm_up (rm_up σ 6 n (σ 6 n + 1)) 8 n (σ 6 n + 1)) n := by
  unfold rm_begin rm_begin0
  rw [rm_up_s]
theorem rn_begins_v : rn_begins τ n = rn_resets (rm_up (rm_up (rm_up (rm_up (rm_up (rm_up τ 3 n (τ 3 n + 1)) 4 n (nI n)) 5 n (τ 3 n + 1)) 6 n 0) 7 n (-1)) 8 n 0) n := by
  unfold rn_begins rn_beg1
  rw [rm_up_k (show (3 : Nat) ≠ 4 by decide), rm_up_s]
theorem rq_upd2 {σ' τ' : rm_St} (h : rq σ τ) (e1 : ∀ q j, (q < 5 ∨ 14 < q ∨ j ≠ n) → σ' q j = σ q j) (e2 : ∀ q j, (q < 2 ∨ (10 < q ∧ q < 14) ∨ j ≠ n) → τ' q j = τ q j) (hn : n < 10) (hh : rq_n σ' τ' n) : rq σ' τ' := by
  obtain ⟨⟨f0, f1, f2, f3, f4, f5⟩, h2, h3, h4⟩ := h
  refine ⟨⟨?_, ?_, ?_, ?_, ?_, ?_⟩, fun j hj => ?_, fun i j hi hj => ?_, fun i j hi hj => ?_⟩
  · rw [e1 0 0 (by omega), e2 0 0 (by omega), f0]
  · rw [e1 0 1 (by omega), e2 0 1 (by omega), f1]
  · rw [e1 0 2 (by omega), e2 0 2 (by omega), f2]
  · rw [e1 0 3 (by omega), e2 0 3 (by omega), f3]
  · rw [e1 0 4 (by omega), e2 0 4 (by omega), f4]
  · rw [e1 0 5 (by omega), e2 0 19 (by omega), f5]
  · by_cases e : j = n
    · rw [e]; exact hh
    · have g := h2 j hj
      unfold rq_n at g ⊢
      rw [e1 5 j (by omega), e1 6 j (by omega), e1 7 j (by omega), e1 8 j (by omega), e1 9 j (by omega), e1 10 j (by omega), e1 11 j (by omega), e1 12 j (by omega), e1 13 j (by omega), e2 2 j (by omega), e2 3 j (by omega), e2 4 j (by omega), e2 5 j (by omega), e2 6 j (by omega), e2 7 j (by omega), e2 8 j (by omega), e2 9 j (by omega), e2 10 j (by omega)]
      exact g
  · have g := h3 i j hi hj
    unfold rq_h at g ⊢
    rw [e1 (15 + i) j (by omega), e1 (25 + i) j (by omega), e1 (35 + i) j (by omega), e1 (45 + i) j (by omega), e2 1 _ (by omega), e2 11 _ (by omega), e2 12 _ (by omega), e2 13 _ (by omega)]
    exact g
  · rw [e1 (15 + i) j (by omega), e1 (15 + j) i (by omega)]
    exact h4 i j hi hj
end RQR

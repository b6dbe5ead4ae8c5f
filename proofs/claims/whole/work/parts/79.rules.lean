/-! setRules: here as there -/
theorem rq_fld {σ τ : rm_St} {v : Int32} {k : Nat} (hk : k < 4) (h : rq σ τ) : rq (rm_up σ 0 k v) (rm_up τ 0 k v) := by
  have e : ∀ (s : rm_St) q j, q ≠ 0 ∨ j ≠ k → rm_up s 0 k v q j = s q j := fun s q j hq => by
    rcases hq with hq | hq
    · exact rm_up_k hq
    · exact rm_up_j hq
  obtain ⟨⟨f0, f1, f2, f3, f4, f5⟩, h2, h3, h4⟩ := h
  have fld : ∀ i, σ 0 i = τ 0 i → rm_up σ 0 k v 0 i = rm_up τ 0 k v 0 i := fun i hi => by
    by_cases c : i = k
    · subst c
      rw [rm_up_s, rm_up_s]
    · rw [rm_up_j c, rm_up_j c, hi]
  refine ⟨⟨fld 0 f0, fld 1 f1, fld 2 f2, fld 3 f3, fld 4 f4, by rw [e σ 0 5 (by omega), e τ 0 19 (by omega), f5]⟩, fun n hn => ?_, fun n o hn ho => ?_, fun n o hn ho => ?_⟩
  · have g := h2 n hn
    unfold rq_n at g ⊢
    rw [e σ 5 n (by omega), e σ 6 n (by omega), e σ 7 n (by omega), e σ 8 n (by omega), e σ 9 n (by omega), e σ 10 n (by omega), e σ 11 n (by omega), e σ 12 n (by omega), e σ 13 n (by omega), e τ 2 n (by omega), e τ 3 n (by omega), e τ 4 n (by omega), e τ 5 n (by omega), e τ 6 n (by omega), e τ 7 n (by omega), e τ 8 n (by omega), e τ 9 n (by omega), e τ 10 n (by omega)]
    exact g
  · have g := h3 n o hn ho
    unfold rq_h at g ⊢
    rw [e σ (15 + n) o (by omega), e σ (25 + n) o (by omega), e σ (35 + n) o (by omega), e σ (45 + n) o (by omega), e τ 1 _ (by omega), e τ 11 _ (by omega), e τ 12 _ (by omega), e τ 13 _ (by omega)]
    exact g
  · rw [e σ (15 + n) o (by omega), e σ (15 + o) n (by omega)]
    exact h4 n o hn ho

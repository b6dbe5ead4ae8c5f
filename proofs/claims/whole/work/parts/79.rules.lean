/-! setRules: here as there -/
theorem rq_fld {σ τ : rm_St} {v : Int32} {k : Nat} (hk : k < 4) (h : rq σ τ) : rq (rm_up σ 0 k v) (rm_up τ 0 k v) := by
  have e : ∀ (s : rm_St) q j, q ≠ 0 ∨ j ≠ k → rm_up s 0 k v q j = s q j := fun s q j hq => by
    rcases hq with hq | hq
    · exact rm_up_k hq
    · exact rm_up_j hq
  obtain ⟨⟨f0, f1, f2, f3, f4, f5⟩, h2, h3, h4⟩ := h
  have fld : ∀ i, σ 0 i = τ 0 i → rm_up σ 0 k v 0 i = rm_up τ 0 k v 0 i := fun i hi => by
    by_cases c : i = k
    · subst c
      rw [rm_up_s, rm_up_s]
    · rw [rm_up_j c, rm_up_j c, hi]
  refine ⟨⟨fld 0 f0, fld 1 f1, fld 2 f2, fld 3 f3, fld 4 f4, by rw [e σ 0 5 (by omega), e τ 0 19 (by omega), f5]⟩, fun n hn => ?_, fun n o hn ho => ?_, fun n o hn ho => ?_⟩
  · have g := h2 n hn
    unfold rq_n at g ⊢
    rw [e σ 5 n (by omega), e σ 6 n (by omega), e σ 7 n (by omega), e σ 8 n (by omega), e σ 9 n (by omega), e σ 10 n (by omega), e σ 11 n (by omega), e σ 12 n (by omega), e σ 13 n (by omega), e τ 2 n (by omega), e τ 3 n (by omega), e τ 4 n (by omega), e τ 5 n (by omega), e τ 6 n (by omega), e τ 7 n (by omega), e τ 8 n (by omega), e τ 9 n (by omega), e τ 10 n (by omega)]
    exact g
  · have g := h3 n o hn ho
    unfold rq_h at g ⊢
    rw [e σ (15 + n) o (by omega), e σ (25 + n) o (by omega), e σ (35 + n) o (by omega), e σ (45 + n) o (by omega), e τ 1 _ (by omega), e τ 11 _ (by omega), e τ 12 _ (by omega), e τ 13 _ (by omega)]
    exact g
  · rw [e σ (15 + n) o (by omega), e σ (15 + o) n (by omega)]
    exact h4 n o hn ho
theorem rq_g_setRules : rw_g_setRules rq := fun σ τ h p0 p1 p2 p3 => by
  have no : ∀ X : Option String, X = some rm_IA → rw_op rq σ (rm_setS σ p0 p1 p2 p3) X (rl_c1 X) 0 0 (rm_up τ 0 20 1) := fun X e => by
    subst e
    exact ⟨(show rm_up τ 0 20 1 0 20 = 1 from rm_up_s _ _ _ _), (fun q => by cases q), rq_thr h⟩
  unfold rn_setRules
  by_cases c0 : isIn p0 0 100 = true
  · rw [if_pos c0]
    by_cases c1 : isIn p1 0 10000 = true
    · rw [if_pos c1]
      by_cases c2 : isIn p2 1 8 = true
      · rw [if_pos c2]
        by_cases c3 : isIn p3 0 6 = true
        · rw [if_pos c3, show rm_tSet p0 p1 p2 p3 = none from by unfold rm_tSet; rw [rq_tR, rq_tR, rq_tR, rq_tR, if_pos c0, if_pos c1, if_pos c2, if_pos c3]; rfl]
          refine ⟨?_, fun _ => rfl, ?_⟩
          · rw [rm_up_j (by decide), rm_up_j (by decide), rm_up_j (by decide), rm_up_j (by decide), rm_up_s]
            rfl
          · exact rq_fld (by decide) (rq_fld (by decide) (rq_fld (by decide) (rq_fld (by decide) (rq_thr h))))
        · rw [if_neg c3]
          exact no _ (by unfold rm_tSet; rw [rq_tR, rq_tR, rq_tR, rq_tR, if_pos c0, if_pos c1, if_pos c2, if_neg c3]; rfl)
      · rw [if_neg c2]
        exact no _ (by unfold rm_tSet; rw [rq_tR, rq_tR, rq_tR, rq_tR, if_pos c0, if_pos c1, if_neg c2]; rfl)
    · rw [if_neg c1]
      exact no _ (by unfold rm_tSet; rw [rq_tR, rq_tR, rq_tR, rq_tR, if_pos c0, if_neg c1]; rfl)
  · rw [if_neg c0]
    exact no _ (by unfold rm_tSet; rw [rq_tR, rq_tR, rq_tR, rq_tR, if_neg c0]; rfl)

/-! a node follows, a node loses its parent, a node chooses: here as there -/
section RQD
variable {σ τ : rm_St} {n o : Nat}
theorem rq_fol (h : rq σ τ) (hn : n < 10) (ho : o < 10) (c : rn_cand τ n o = true) (h5 : σ 5 n = 0) {low : Int32} (hl : low = rn_low τ n o) : rq (rm_fol σ n o low) (rn_takes τ n o) := by
  obtain ⟨⟨r1, r2⟩, t1, t2, t3, -⟩ := rn_cand_h h hn ho c
  have g := h.2.1 n hn
  have hr := rq_rankBy h hn ho
  subst hl
  rw [rm_fol_v, rn_takes_v, hr, t1, t2]
  have a : ∀ q j, (q ≠ 7 ∧ q ≠ 8 ∧ q ≠ 9 ∧ q ≠ 10 ∧ q ≠ 11) ∨ j ≠ n → rm_up (rm_up (rm_up (rm_up (rm_up σ 10 n (rn_low τ n o)) 7 n (τ 11 (10 * n + o))) 8 n (τ 12 (10 * n + o))) 9 n (rn_rankBy τ n o)) 11 n (nI o) q j = σ q j := fun q j hq => by
    rcases hq with ⟨q1, q2, q3, q4, q5⟩ | hq
    · rw [rm_up_k q5, rm_up_k q3, rm_up_k q2, rm_up_k q1, rm_up_k q4]
    · rw [rm_up_j hq, rm_up_j hq, rm_up_j hq, rm_up_j hq, rm_up_j hq]
  have b : ∀ q j, (q ≠ 4 ∧ q ≠ 5 ∧ q ≠ 6 ∧ q ≠ 7 ∧ q ≠ 8) ∨ j ≠ n → rm_up (rm_up (rm_up (rm_up (rm_up τ 7 n (nI o)) 4 n (τ 11 (10 * n + o))) 5 n (τ 12 (10 * n + o))) 6 n (rn_rankBy τ n o)) 8 n (rn_low τ n o) q j = τ q j := fun q j hq => by
    rcases hq with ⟨q1, q2, q3, q4, q5⟩ | hq
    · rw [rm_up_k q5, rm_up_k q3, rm_up_k q2, rm_up_k q1, rm_up_k q4]
    · rw [rm_up_j hq, rm_up_j hq, rm_up_j hq, rm_up_j hq, rm_up_j hq]
  refine rq_upd (n := n) h (fun q j hq => a q j (by omega)) (fun q j hq => b q j (by omega)) hn ?_
  obtain ⟨⟨g1, g2, -, -, -, -, g7, g8⟩, -⟩ := g
  refine ⟨⟨?_, ?_, ?_, ?_, ?_, ?_, ?_, ?_⟩, fun _ => ?_, ⟨?_, ?_⟩, fun _ => ?_, Or.inr ?_, Or.inl ?_⟩
  · rw [a 5 n (by omega), b 2 n (by omega), g1]
  · rw [a 6 n (by omega), b 3 n (by omega), g2]
  · rw [rm_up_k (by decide), rm_up_k (by decide), rm_up_k (by decide), rm_up_s, rm_up_k (by decide), rm_up_k (by decide), rm_up_k (by decide), rm_up_s]
  · rw [rm_up_k (by decide), rm_up_k (by decide), rm_up_s, rm_up_k (by decide), rm_up_k (by decide), rm_up_s]
  · rw [rm_up_k (by decide), rm_up_s, rm_up_k (by decide), rm_up_s]
  · rw [rm_up_s, rm_up_k (by decide), rm_up_k (by decide), rm_up_k (by decide), rm_up_k (by decide), rm_up_s]
  · rw [a 12 n (by omega), b 9 n (by omega), g7]
  · rw [a 13 n (by omega), b 10 n (by omega), g8]
  · rw [rm_up_k (by decide), rm_up_k (by decide), rm_up_k (by decide), rm_up_k (by decide), rm_up_s, rm_up_s]
  · rw [rm_up_k (by decide), rm_up_s]; exact r1
  · rw [rm_up_k (by decide), rm_up_s]
    rw [Int32.lt_iff_toInt_lt] at r2
    rw [Int32.le_iff_toInt_le]
    omega
  · rw [rm_up_k (by decide), rm_up_k (by decide), rm_up_k (by decide), rm_up_s]; exact t3
  · rw [rm_up_s]; exact isNd_nI ho
  · rw [a 5 n (by omega)]; exact h5
theorem rq_follow (h : rq σ τ) (hn : n < 10) (ho : o < 10) (c : rn_cand τ n o = true) (h5 : σ 5 n = 0) : rq (rm_follow σ n o) (rn_chooseT τ (rn_takes τ n o) n) := by
  obtain ⟨-, t1, t2, t3, t4⟩ := rn_cand_h h hn ho c
  have hr := rq_rankBy h hn ho
  obtain ⟨⟨-, -, e7, e8, e9, e11, -⟩, elow, -⟩ := h.2.1 n hn
  have v4 : rn_takes τ n o 4 n = τ 11 (10 * n + o) := by rw [rn_takes_v, rm_up_k (by decide), rm_up_k (by decide), rm_up_k (by decide), rm_up_s]
  have v5 : rn_takes τ n o 5 n = τ 12 (10 * n + o) := by rw [rn_takes_v, rm_up_k (by decide), rm_up_k (by decide), rm_up_s]
  have v6 : rn_takes τ n o 6 n = rn_rankBy τ n o := by rw [rn_takes_v, rm_up_k (by decide), rm_up_s]
  have v7 : rn_takes τ n o 7 n = nI o := by rw [rn_takes_v, rm_up_k (by decide), rm_up_k (by decide), rm_up_k (by decide), rm_up_k (by decide), rm_up_s]
  have hown := rq_own h hn ho t4
  unfold rm_follow rn_chooseT
  rw [v4, v5, v6, v7, hr, hown, e9, e11]
  by_cases d1 : τ 11 (10 * n + o) = τ 4 n
  · by_cases d2 : τ 12 (10 * n + o) = τ 5 n
    · have el : σ 10 n = τ 8 n := elow (by rw [e7, ← d1]; exact t3)
      have hlow : rm_mn (rn_rankBy τ n o) (σ 10 n) = rn_low τ n o := by
        unfold rm_mn rn_low
        rw [if_pos d1, if_pos d2, el]
        by_cases d3 : τ 8 n ≤ rn_rankBy τ n o
        · rw [if_pos d3]
          by_cases d4 : τ 8 n < rn_rankBy τ n o
          · rw [if_pos d4]
          · rw [if_neg d4]
            rw [Int32.lt_iff_toInt_lt] at d4
            rw [Int32.le_iff_toInt_le] at d3
            exact Int32.toInt_inj.mp (by omega)
        · rw [if_neg d3, if_neg (fun q => d3 (by rw [Int32.lt_iff_toInt_lt] at q; rw [Int32.le_iff_toInt_le]; omega))]
      have hf := rq_fol h hn ho c h5 hlow
      rw [if_pos (show (decide (τ 11 (10 * n + o) = τ 4 n) && decide (τ 12 (10 * n + o) = τ 5 n)) = true by simp [d1, d2]), if_pos d1, if_pos d2]
      by_cases d5 : rn_rankBy τ n o = τ 6 n
      · rw [if_pos d5, if_pos d5]
        by_cases d6 : nI o = τ 7 n
        · rw [if_pos d6, if_pos d6]
          exact hf
        · rw [if_neg d6, if_neg d6]
          exact rq_reset hf hn
      · rw [if_neg d5, if_neg d5]
        exact rq_reset hf hn
    · have hlow : rn_rankBy τ n o = rn_low τ n o := by unfold rn_low; rw [if_pos d1, if_neg d2]
      rw [if_neg (show ¬ (decide (τ 11 (10 * n + o) = τ 4 n) && decide (τ 12 (10 * n + o) = τ 5 n)) = true by simp [d2]), if_pos d1, if_neg d2]
      exact rq_reset (rq_fol h hn ho c h5 hlow) hn
  · have hlow : rn_rankBy τ n o = rn_low τ n o := by unfold rn_low; rw [if_neg d1]
    rw [if_neg (show ¬ (decide (τ 11 (10 * n + o) = τ 4 n) && decide (τ 12 (10 * n + o) = τ 5 n)) = true by simp [d1]), if_neg d1]
    exact rq_reset (rq_fol h hn ho c h5 hlow) hn
theorem rq_lose (h : rq σ τ) (hn : n < 10) (h5 : σ 5 n = 0) : rq (rm_lose σ n) (rn_chooseT τ (rm_up (rm_up τ 7 n (-1)) 6 n 10000) n) := by
  have g := h.2.1 n hn
  have hl : rq (rm_up (rm_up σ 9 n 10000) 11 n (-1)) (rm_up (rm_up τ 7 n (-1)) 6 n 10000) := by
    have a : ∀ q j, (q ≠ 9 ∧ q ≠ 11) ∨ j ≠ n → rm_up (rm_up σ 9 n 10000) 11 n (-1) q j = σ q j := fun q j hq => by
      rcases hq with hq | hq
      · rw [rm_up_k hq.2, rm_up_k hq.1]
      · rw [rm_up_j hq, rm_up_j hq]
    have b : ∀ q j, (q ≠ 7 ∧ q ≠ 6) ∨ j ≠ n → rm_up (rm_up τ 7 n (-1)) 6 n 10000 q j = τ q j := fun q j hq => by
      rcases hq with hq | hq
      · rw [rm_up_k hq.2, rm_up_k hq.1]
      · rw [rm_up_j hq, rm_up_j hq]
    refine rq_upd (n := n) h (fun q j hq => a q j (by omega)) (fun q j hq => b q j (by omega)) hn ?_
    unfold rq_n at g ⊢
    rw [a 5 n (by omega), a 6 n (by omega), a 7 n (by omega), a 8 n (by omega), a 10 n (by omega), a 12 n (by omega), a 13 n (by omega), b 2 n (by omega), b 3 n (by omega), b 4 n (by omega), b 5 n (by omega), b 8 n (by omega), b 9 n (by omega), b 10 n (by omega)]
    rw [rm_up_s, rm_up_s, rm_up_k (by decide : (9 : Nat) ≠ 11), rm_up_s, rm_up_k (by decide : (7 : Nat) ≠ 6), rm_up_s]
    obtain ⟨⟨g1, g2, g3, g4, -, -, g7, g8⟩, g9, -⟩ := g
    exact ⟨⟨g1, g2, g3, g4, rfl, rfl, g7, g8⟩, g9, ⟨by decide, by decide⟩, fun q => absurd q (by decide), Or.inl rfl, Or.inl h5⟩
  obtain ⟨⟨-, -, e7, e8, e9, e11, -⟩, -⟩ := g
  have v4 : rm_up (rm_up τ 7 n (-1)) 6 n 10000 4 n = τ 4 n := by rw [rm_up_k (by decide), rm_up_k (by decide)]
  have v5 : rm_up (rm_up τ 7 n (-1)) 6 n 10000 5 n = τ 5 n := by rw [rm_up_k (by decide), rm_up_k (by decide)]
  have v6 : rm_up (rm_up τ 7 n (-1)) 6 n 10000 6 n = 10000 := rm_up_s _ _ _ _
  have v7 : rm_up (rm_up τ 7 n (-1)) 6 n 10000 7 n = -1 := by rw [rm_up_k (by decide), rm_up_s]
  unfold rm_lose rn_chooseT
  rw [v4, v5, v6, v7, if_pos rfl, if_pos rfl, e9, e11]
  by_cases d1 : τ 6 n = 10000
  · rw [if_pos d1, if_pos d1.symm]
    by_cases d2 : τ 7 n = -1
    · rw [if_pos d2, if_pos d2.symm]
      exact hl
    · rw [if_neg d2, if_neg (fun q => d2 q.symm)]
      exact rq_reset hl hn
  · rw [if_neg d1, if_neg (fun q => d1 q.symm)]
    exact rq_reset hl hn
theorem rq_choose (h : rq σ τ) (hn : n < 10) : rq (rm_choose σ n) (rn_chooses τ n) := by
  obtain ⟨⟨e5, -, -, -, -, e11, -⟩, -⟩ := h.2.1 n hn
  unfold rm_choose rn_chooses
  rw [← e5]
  by_cases h5 : σ 5 n = 0
  · rw [if_pos h5, if_pos h5]
    obtain ⟨hb, hc⟩ := rq_best h hn
    rw [hb]
    rcases hc with hc | ⟨j, hj, ej, cj⟩
    · rw [hc, if_neg (by decide : ¬ isNd (-1) = true), show rn_pick τ n (-1) = -1 from by unfold rn_pick; rw [if_pos rfl], show rn_after τ n (-1) = rm_up (rm_up τ 7 n (-1)) 6 n 10000 from by unfold rn_after; rw [if_pos rfl]]
      exact rq_lose h hn h5
    · rw [ej, if_pos (isNd_nI hj), rm_cl hj, rq_pick h hn hj]
      have hne : ∀ q : Nat, q < 10 → ¬ nI q = -1 := fun q hq z => by
        have := nI_pos (n := q) (by omega)
        rw [z] at this
        exact this (by decide)
      by_cases hk : rm_keeps σ n j = true
      · rw [if_pos hk, if_pos hk]
        obtain ⟨q, hq, eq⟩ := isNd_of (rm_keeps_nd hk)
        have cq : rn_cand τ n q = true := by
          have hk2 := hk
          unfold rm_keeps at hk2
          rw [eq, if_pos (isNd_nI hq), rm_cl hq] at hk2
          by_cases z : rm_cand σ n q = true
          · rw [← rq_cand h hn hq]; exact z
          · rw [if_neg z] at hk2; cases hk2
        rw [eq, rm_cl hq, show rn_after τ n (nI q) = rn_takes τ n q from by unfold rn_after; rw [if_neg (hne q hq), rm_cl hq]]
        exact rq_follow h hn hq cq h5
      · rw [if_neg hk, if_neg hk, show rn_after τ n (nI j) = rn_takes τ n j from by unfold rn_after; rw [if_neg (hne j hj), rm_cl hj]]
        exact rq_follow h hn hj cj h5
  · rw [if_neg h5, if_neg h5]
    exact h
end RQD

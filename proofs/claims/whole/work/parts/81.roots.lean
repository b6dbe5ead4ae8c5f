/-! makeRoot, endRoot, renew: here as there -/
section RQS
variable {σ τ : rm_St} {n o : Nat}
theorem rq_no (h : rq σ τ) {σ0 : rm_St} {E : String} {r0 r1 c : Int32} : rw_op rq σ σ0 (some E) c r0 r1 (rm_up τ 0 20 c) := ⟨rm_up_s _ _ _ _, (fun q => by cases q), rq_thr h⟩
theorem rq_beg {σ' τ' : rm_St} {v : Int32} (h : rq σ τ) (hn : n < 10) (e1 : ∀ q j, (q < 5 ∨ 14 < q ∨ j ≠ n) → σ' q j = σ q j) (e2 : ∀ q j, (q < 2 ∨ (10 < q ∧ q < 14) ∨ j ≠ n) → τ' q j = τ q j)
    (a5 : σ' 5 n = 1) (a6 : σ' 6 n = v) (a7 : σ' 7 n = nI n) (a8 : σ' 8 n = v) (a9 : σ' 9 n = 0) (a10 : σ' 10 n = 0) (a11 : σ' 11 n = -1) (a12 : σ' 12 n = σ 12 n) (a13 : σ' 13 n = σ 13 n)
    (b2 : τ' 2 n = 1) (b3 : τ' 3 n = v) (b4 : τ' 4 n = nI n) (b5 : τ' 5 n = v) (b6 : τ' 6 n = 0) (b7 : τ' 7 n = -1) (b8 : τ' 8 n = 0) (b9 : τ' 9 n = τ 9 n) (b10 : τ' 10 n = τ 10 n) : rq σ' τ' := by
  obtain ⟨⟨-, -, -, -, -, -, g7, g8⟩, -⟩ := h.2.1 n hn
  refine rq_upd2 (n := n) h e1 e2 hn ?_
  have hne : ¬ nI n = -1 := fun q => by
    have := nI_pos (n := n) (by omega)
    rw [q] at this
    exact this (by decide)
  unfold rq_n
  rw [a5, a6, a7, a8, a9, a10, a11, a12, a13, b2, b3, b4, b5, b6, b7, b8, b9, b10]
  exact ⟨⟨rfl, rfl, rfl, rfl, rfl, rfl, g7, g8⟩, fun _ => rfl, ⟨by decide, by decide⟩, fun _ => hne, Or.inl rfl, Or.inr ⟨rfl, rfl, rfl, rfl, rfl⟩⟩
theorem rq_begin (h : rq σ τ) (hn : n < 10) (h5 : ¬ σ 5 n = 0) : rq (rm_begin σ n) (rn_begins τ n) := by
  obtain ⟨⟨g1, g2, g3, g4, g5, g6, g7, g8⟩, -, -, -, -, gr⟩ := h.2.1 n hn
  obtain ⟨r5, r7, r9, r11, r10⟩ := gr.resolve_left h5
  rw [rq_begin_v, rn_begins_v]
  refine rq_reset (rq_beg (v := σ 6 n + 1) h hn ?_ ?_ ?_ ?_ ?_ ?_ ?_ ?_ ?_ ?_ ?_ ?_ ?_ ?_ ?_ ?_ ?_ ?_ ?_ ?_) hn
  · intro q j hq
    unfold rm_up
    rw [if_neg (by omega), if_neg (by omega)]
  · intro q j hq
    unfold rm_up
    rw [if_neg (by omega), if_neg (by omega), if_neg (by omega), if_neg (by omega), if_neg (by omega), if_neg (by omega)]
  all_goals simp [rm_up, r5, r7, r9, r10, r11, ← g1, ← g2, g7, g8]
theorem rq_mk (h : rq σ τ) (hn : n < 10) : rq (rm_begin (rm_mk σ n) n) (rn_begins (rm_up τ 2 n 1) n) := by
  obtain ⟨⟨g1, g2, g3, g4, g5, g6, g7, g8⟩, -⟩ := h.2.1 n hn
  rw [rq_begin_v, rn_begins_v]
  have m6 : rm_mk σ n 6 n = σ 6 n := by simp [rm_mk, rm_up]
  have t3 : rm_up τ 2 n 1 3 n = σ 6 n := by simp [rm_up, ← g2]
  rw [m6, t3]
  unfold rm_mk
  refine rq_reset (rq_beg (v := σ 6 n + 1) h hn ?_ ?_ ?_ ?_ ?_ ?_ ?_ ?_ ?_ ?_ ?_ ?_ ?_ ?_ ?_ ?_ ?_ ?_ ?_ ?_) hn
  · intro q j hq
    unfold rm_up
    rw [if_neg (by omega), if_neg (by omega), if_neg (by omega), if_neg (by omega), if_neg (by omega), if_neg (by omega), if_neg (by omega)]
  · intro q j hq
    unfold rm_up
    rw [if_neg (by omega), if_neg (by omega), if_neg (by omega), if_neg (by omega), if_neg (by omega), if_neg (by omega), if_neg (by omega)]
  all_goals simp [rm_up]
theorem rq_end (h : rq σ τ) (hn : n < 10) (h5 : ¬ σ 5 n = 0) : rq (rm_choose (rm_reset (rm_clear (rm_up σ 5 n 0) n) n) n) (rn_chooses (rn_endS τ n) n) := by
  obtain ⟨⟨g1, g2, g3, g4, g5, g6, g7, g8⟩, -, -, -, -, gr⟩ := h.2.1 n hn
  obtain ⟨r5, r7, r9, r11, r10⟩ := gr.resolve_left h5
  refine rq_choose (rq_reset (rq_upd2 (n := n) h ?_ ?_ hn ?_) hn) hn
  · intro q j hq
    unfold rm_clear rm_up
    rw [if_neg (by omega), if_neg (by omega), if_neg (by omega), if_neg (by omega), if_neg (by omega), if_neg (by omega)]
  · intro q j hq
    unfold rm_up
    rw [if_neg (by omega), if_neg (by omega), if_neg (by omega), if_neg (by omega)]
  · have p7 : τ 7 n = -1 := by rw [← g6, r11]
    have d0 : ¬ (10000 : Int32) < 10000 := by decide
    have d1 : ¬ (10000 : Int32) < 0 := by decide
    have d2 : (10000 : Int32) ≤ 10000 := by decide
    simp [rq_n, rm_clear, rm_up, g1, g2, g7, g8, p7, d0, d1, d2]
theorem rn_k_begins : rn_begins τ n 0 20 = τ 0 20 := by
  rw [rn_begins_v, rn_k_resets, rm_up_k (by decide), rm_up_k (by decide), rm_up_k (by decide), rm_up_k (by decide), rm_up_k (by decide), rm_up_k (by decide)]
theorem rn_k_endS : rn_endS τ n 0 20 = τ 0 20 := by
  unfold rn_endS
  rw [rn_k_resets, rm_up_k (by decide), rm_up_k (by decide), rm_up_k (by decide), rm_up_k (by decide)]
theorem rl_c2_S : rl_c2 rm_IO (some rm_IS) = 2 := rl_c2_2 (by decide)
theorem rl_c2_A : rl_c2 rm_IO (some rm_IA) = 2 := rl_c2_2 (by decide)
theorem rq_g_makeRoot : rw_g_makeRoot rq := fun σ τ h p0 => by
  by_cases c : isNd p0 = true
  · obtain ⟨j, hj, rfl⟩ := isNd_of c
    have e5 := (h.2.1 j hj).1.1
    unfold rn_makeRoot rm_tMake
    rw [if_pos c, rm_cl hj, show rm_tN (nI j) = none from if_pos c, rm_or_n]
    by_cases c5 : σ 5 j = 0
    · rw [if_pos c5, if_pos (by rw [← e5]; exact c5)]
      have g := rq_mk (rq_thr (v := 0) h) hj
      refine ⟨?_, fun _ => (g.2.1 j hj).1.2.2.2.1, g⟩
      show rn_begins (rm_up (rm_up τ 0 20 0) 2 j 1) j 0 20 = 0
      rw [rn_k_begins, rm_up_k (by decide), rm_up_s]
    · rw [if_neg c5, if_neg (by rw [← e5]; exact c5), rl_c2_S]
      exact rq_no h
  · unfold rn_makeRoot rm_tMake
    rw [if_neg c, show rm_tN p0 = some rm_IO from if_neg c, rm_or_s, rl_c2_1]
    exact rq_no h
theorem rq_g_endRoot : rw_g_endRoot rq := fun σ τ h p0 => by
  by_cases c : isNd p0 = true
  · obtain ⟨j, hj, rfl⟩ := isNd_of c
    have e5 := (h.2.1 j hj).1.1
    unfold rn_endRoot rm_tRoot
    rw [if_pos c, rm_cl hj, show rm_tN (nI j) = none from if_pos c, rm_or_n]
    by_cases c5 : σ 5 j = 0
    · rw [if_pos c5, if_pos (by rw [← e5]; exact c5), rl_c2_S]
      exact rq_no h
    · rw [if_neg c5, if_neg (by rw [← e5]; exact c5)]
      refine ⟨?_, fun _ => rfl, rq_end (rq_thr (v := 0) h) hj c5⟩
      show rn_chooses (rn_endS (rm_up τ 0 20 0) j) j 0 20 = 0
      rw [rn_k_chooses, rn_k_endS, rm_up_s]
  · unfold rn_endRoot rm_tRoot
    rw [if_neg c, show rm_tN p0 = some rm_IO from if_neg c, rm_or_s, rl_c2_1]
    exact rq_no h
theorem rq_g_renew : rw_g_renew rq := fun σ τ h p0 => by
  by_cases c : isNd p0 = true
  · obtain ⟨j, hj, rfl⟩ := isNd_of c
    have e5 := (h.2.1 j hj).1.1
    unfold rn_renew rm_tRoot
    rw [if_pos c, rm_cl hj, show rm_tN (nI j) = none from if_pos c, rm_or_n]
    by_cases c5 : σ 5 j = 0
    · rw [if_pos c5, if_pos (by rw [← e5]; exact c5), rl_c2_S]
      exact rq_no h
    · rw [if_neg c5, if_neg (by rw [← e5]; exact c5)]
      have g := rq_begin (rq_thr (v := 0) h) hj c5
      refine ⟨?_, fun _ => (g.2.1 j hj).1.2.2.2.1, g⟩
      show rn_begins (rm_up τ 0 20 0) j 0 20 = 0
      rw [rn_k_begins, rm_up_s]
  · unfold rn_renew rm_tRoot
    rw [if_neg c, show rm_tN p0 = some rm_IO from if_neg c, rm_or_s, rl_c2_1]
    exact rq_no h
end RQS

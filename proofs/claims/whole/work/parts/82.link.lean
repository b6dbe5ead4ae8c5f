/-! link: here as there -/
section RQL
variable {σ τ : rm_St} {n o : Nat}
theorem rq_cost {v : Int32} (h : rq σ τ) (hn : n < 10) (ho : o < 10) (hno : n ≠ o) (hv : ¬ v < 0 ∧ v ≤ 100) : rq (rm_up (rm_up σ (15 + n) o v) (15 + o) n v) (rm_up (rm_up τ 1 (10 * n + o) v) 1 (10 * o + n) v) := by
  have a : ∀ q j, ¬ (q = 15 + n ∧ j = o) ∧ ¬ (q = 15 + o ∧ j = n) → rm_up (rm_up σ (15 + n) o v) (15 + o) n v q j = σ q j := fun q j hq => by
    unfold rm_up
    rw [if_neg hq.2, if_neg hq.1]
  have b : ∀ q j, ¬ (q = 1 ∧ j = 10 * n + o) ∧ ¬ (q = 1 ∧ j = 10 * o + n) → rm_up (rm_up τ 1 (10 * n + o) v) 1 (10 * o + n) v q j = τ q j := fun q j hq => by
    unfold rm_up
    rw [if_neg hq.2, if_neg hq.1]
  have a1 : rm_up (rm_up σ (15 + n) o v) (15 + o) n v (15 + n) o = v := by
    rw [rm_up_j (Ne.symm hno), rm_up_s]
  have a2 : rm_up (rm_up σ (15 + n) o v) (15 + o) n v (15 + o) n = v := rm_up_s _ _ _ _
  have b1 : rm_up (rm_up τ 1 (10 * n + o) v) 1 (10 * o + n) v 1 (10 * n + o) = v := by
    rw [rm_up_j (by omega), rm_up_s]
  have b2 : rm_up (rm_up τ 1 (10 * n + o) v) 1 (10 * o + n) v 1 (10 * o + n) = v := rm_up_s _ _ _ _
  obtain ⟨⟨f0, f1, f2, f3, f4, f5⟩, h2, h3, h4⟩ := h
  generalize rm_up (rm_up σ (15 + n) o v) (15 + o) n v = σ' at a a1 a2 ⊢
  generalize rm_up (rm_up τ 1 (10 * n + o) v) 1 (10 * o + n) v = τ' at b b1 b2 ⊢
  refine ⟨⟨by rw [a 0 0 (by omega), b 0 0 (by omega), f0], by rw [a 0 1 (by omega), b 0 1 (by omega), f1], by rw [a 0 2 (by omega), b 0 2 (by omega), f2], by rw [a 0 3 (by omega), b 0 3 (by omega), f3], by rw [a 0 4 (by omega), b 0 4 (by omega), f4], by rw [a 0 5 (by omega), b 0 19 (by omega), f5]⟩, fun i hi => ?_, fun i j hi hj => ?_, fun i j hi hj => ?_⟩
  · have g := h2 i hi
    unfold rq_n at g ⊢
    rw [a 5 i (by omega), a 6 i (by omega), a 7 i (by omega), a 8 i (by omega), a 9 i (by omega), a 10 i (by omega), a 11 i (by omega), a 12 i (by omega), a 13 i (by omega), b 2 i (by omega), b 3 i (by omega), b 4 i (by omega), b 5 i (by omega), b 6 i (by omega), b 7 i (by omega), b 8 i (by omega), b 9 i (by omega), b 10 i (by omega)]
    exact g
  · have g := h3 i j hi hj
    unfold rq_h at g ⊢
    rw [a (25 + i) j (by omega), a (35 + i) j (by omega), a (45 + i) j (by omega), b 11 _ (by omega), b 12 _ (by omega), b 13 _ (by omega)]
    by_cases c1 : i = n ∧ j = o
    · obtain ⟨rfl, rfl⟩ := c1
      rw [a1, b1]
      exact ⟨rfl, hv, g.2.2⟩
    · by_cases c2 : i = o ∧ j = n
      · obtain ⟨rfl, rfl⟩ := c2
        rw [a2, b2]
        exact ⟨rfl, hv, g.2.2⟩
      · rw [a (15 + i) j (by omega), b 1 _ (by omega)]
        exact g
  · by_cases c1 : i = n ∧ j = o
    · obtain ⟨rfl, rfl⟩ := c1
      rw [a1, a2]
    · by_cases c2 : i = o ∧ j = n
      · obtain ⟨rfl, rfl⟩ := c2
        rw [a1, a2]
      · rw [a (15 + i) j (by omega), a (15 + j) i (by omega)]
        exact h4 i j hi hj
theorem rq_forget (h : rq σ τ) (hn : n < 10) (ho : o < 10) : rq (rm_forget σ n o) (rm_up τ 13 (10 * n + o) (-1)) := by
  have a : ∀ q j, ¬ ((q = 25 + n ∨ q = 35 + n ∨ q = 45 + n) ∧ j = o) → rm_forget σ n o q j = σ q j := fun q j hq => by
    unfold rm_forget rm_up
    rw [if_neg (by omega), if_neg (by omega), if_neg (by omega)]
  have b : ∀ q j, ¬ (q = 13 ∧ j = 10 * n + o) → rm_up τ 13 (10 * n + o) (-1) q j = τ q j := fun q j hq => by
    unfold rm_up
    rw [if_neg hq]
  have a1 : rm_forget σ n o (45 + n) o = -1 := rm_up_s _ _ _ _
  have a2 : rm_forget σ n o (25 + n) o = -1 := by
    unfold rm_forget
    rw [rm_up_k (by omega), rm_up_k (by omega), rm_up_s]
  have b1 : rm_up τ 13 (10 * n + o) (-1) 13 (10 * n + o) = -1 := rm_up_s _ _ _ _
  obtain ⟨⟨f0, f1, f2, f3, f4, f5⟩, h2, h3, h4⟩ := h
  generalize rm_forget σ n o = σ' at a a1 a2 ⊢
  generalize rm_up τ 13 (10 * n + o) (-1) = τ' at b b1 ⊢
  refine ⟨⟨by rw [a 0 0 (by omega), b 0 0 (by omega), f0], by rw [a 0 1 (by omega), b 0 1 (by omega), f1], by rw [a 0 2 (by omega), b 0 2 (by omega), f2], by rw [a 0 3 (by omega), b 0 3 (by omega), f3], by rw [a 0 4 (by omega), b 0 4 (by omega), f4], by rw [a 0 5 (by omega), b 0 19 (by omega), f5]⟩, fun i hi => ?_, fun i j hi hj => ?_, fun i j hi hj => ?_⟩
  · have g := h2 i hi
    unfold rq_n at g ⊢
    rw [a 5 i (by omega), a 6 i (by omega), a 7 i (by omega), a 8 i (by omega), a 9 i (by omega), a 10 i (by omega), a 11 i (by omega), a 12 i (by omega), a 13 i (by omega), b 2 i (by omega), b 3 i (by omega), b 4 i (by omega), b 5 i (by omega), b 6 i (by omega), b 7 i (by omega), b 8 i (by omega), b 9 i (by omega), b 10 i (by omega)]
    exact g
  · have g := h3 i j hi hj
    unfold rq_h at g ⊢
    by_cases c1 : i = n ∧ j = o
    · obtain ⟨rfl, rfl⟩ := c1
      rw [a1, a2, b1, a (15 + i) j (by omega), b 1 _ (by omega)]
      exact ⟨g.1, g.2.1, rfl, Or.inl ⟨rfl, rfl⟩⟩
    · rw [a (15 + i) j (by omega), a (25 + i) j (by omega), a (35 + i) j (by omega), a (45 + i) j (by omega), b 1 _ (by omega), b 11 _ (by omega), b 12 _ (by omega), b 13 _ (by omega)]
      exact g
  · rw [a (15 + i) j (by omega), a (15 + j) i (by omega)]
    exact h4 i j hi hj
theorem rq_lnk {v : Int32} (h : rq σ τ) (hn : n < 10) (ho : o < 10) (hno : n ≠ o) (hv : ¬ v < 0 ∧ v ≤ 100) : rq (rm_lnk σ n o v) (rn_lnk τ n o v) := by
  unfold rm_lnk rn_lnk
  by_cases c : v = 0
  · rw [if_pos c, if_pos c]
    exact rq_forget (rq_forget (rq_cost h hn ho hno hv) hn ho) ho hn
  · rw [if_neg c, if_neg c]
    exact rq_cost h hn ho hno hv
theorem rn_k_lnk {v : Int32} : rn_lnk τ n o v 0 20 = τ 0 20 := by
  unfold rn_lnk
  split
  · rw [rm_up_k (by decide), rm_up_k (by decide), rm_up_k (by decide), rm_up_k (by decide)]
  · rw [rm_up_k (by decide), rm_up_k (by decide)]
theorem isIn_b {v f t : Int32} (h : isIn v f t = true) : ¬ v < f ∧ v ≤ t := by
  unfold isIn at h
  by_cases c1 : v < f
  · rw [if_pos c1] at h; cases h
  · rw [if_neg c1] at h
    by_cases c2 : t < v
    · rw [if_pos c2] at h; cases h
    · refine ⟨c1, ?_⟩
      rw [Int32.lt_iff_toInt_lt] at c2
      rw [Int32.le_iff_toInt_le]
      omega
theorem rq_g_link : rw_g_link rq := fun σ τ h p0 p1 p2 => by
  unfold rn_link rm_tLink
  by_cases c0 : isNd p0 = true
  · rw [if_pos c0, show rm_tN p0 = none from if_pos c0, rm_or_n]
    by_cases c1 : isNd p1 = true
    · rw [if_pos c1, show rm_tN p1 = none from if_pos c1, rm_or_n]
      by_cases c2 : p0 = p1
      · rw [if_pos c2, if_pos c2, rl_c2_A]
        exact rq_no h
      · rw [if_neg c2, if_neg c2, rq_tR]
        by_cases c3 : isIn p2 0 100 = true
        · rw [if_pos c3, if_pos c3]
          obtain ⟨i, hi, rfl⟩ := isNd_of c0
          obtain ⟨j, hj, rfl⟩ := isNd_of c1
          rw [rm_cl hi, rm_cl hj]
          have hij : i ≠ j := fun q => c2 (by rw [q])
          refine ⟨?_, fun _ => ?_, ?_⟩
          · show rn_chooses (rn_chooses (rn_lnk (rm_up τ 0 20 0) i j p2) i) j 0 20 = 0
            rw [rn_k_chooses, rn_k_chooses, rn_k_lnk, rm_up_s]
          · show σ (15 + i) j = rm_up τ 0 20 0 1 (10 * i + j)
            rw [rm_up_k (by decide)]
            exact (h.2.2.1 i j hi hj).1
          · show rq (rm_linkS σ (nI i) (nI j) p2) (rn_chooses (rn_chooses (rn_lnk (rm_up τ 0 20 0) i j p2) i) j)
            unfold rm_linkS
            rw [rm_cl hi, rm_cl hj]
            exact rq_choose (rq_choose (rq_lnk (rq_thr h) hi hj hij (isIn_b c3)) hi) hj
        · rw [if_neg c3, if_neg c3, rl_c2_A]
          exact rq_no h
    · rw [if_neg c1, show rm_tN p1 = some rm_IO from if_neg c1, rm_or_s, rl_c2_1]
      exact rq_no h
  · rw [if_neg c0, show rm_tN p0 = some rm_IO from if_neg c0, rm_or_s, rl_c2_1]
    exact rq_no h
end RQL

/-! the best candidate, the parent that is kept -/
section RQB
variable {σ τ : rm_St} {n o : Nat}
theorem rq_upd {σ' τ' : rm_St} (h : rq σ τ) (e1 : ∀ q j, (q < 7 ∨ 14 < q ∨ j ≠ n) → σ' q j = σ q j) (e2 : ∀ q j, (q < 4 ∨ 10 < q ∨ j ≠ n) → τ' q j = τ q j) (hn : n < 10) (hh : rq_n σ' τ' n) : rq σ' τ' := by
  obtain ⟨⟨f0, f1, f2, f3, f4, f5⟩, h2, h3, h4⟩ := h
  refine ⟨⟨?_, ?_, ?_, ?_, ?_, ?_⟩, fun j hj => ?_, fun i j hi hj => ?_, fun i j hi hj => ?_⟩
  · rw [e1 0 0 (by omega), e2 0 0 (by omega), f0]
  · rw [e1 0 1 (by omega), e2 0 1 (by omega), f1]
  · rw [e1 0 2 (by omega), e2 0 2 (by omega), f2]
  · rw [e1 0 3 (by omega), e2 0 3 (by omega), f3]
  · rw [e1 0 4 (by omega), e2 0 4 (by omega), f4]
  · rw [e1 0 5 (by omega), e2 0 19 (by omega), f5]
  · by_cases e : j = n
    · rw [e]; exact hh
    · have g := h2 j hj
      unfold rq_n at g ⊢
      rw [e1 5 j (by omega), e1 6 j (by omega), e1 7 j (by omega), e1 8 j (by omega), e1 9 j (by omega), e1 10 j (by omega), e1 11 j (by omega), e1 12 j (by omega), e1 13 j (by omega), e2 2 j (by omega), e2 3 j (by omega), e2 4 j (by omega), e2 5 j (by omega), e2 6 j (by omega), e2 7 j (by omega), e2 8 j (by omega), e2 9 j (by omega), e2 10 j (by omega)]
      exact g
  · have g := h3 i j hi hj
    unfold rq_h at g ⊢
    rw [e1 (15 + i) j (by omega), e1 (25 + i) j (by omega), e1 (35 + i) j (by omega), e1 (45 + i) j (by omega), e2 1 _ (by omega), e2 11 _ (by omega), e2 12 _ (by omega), e2 13 _ (by omega)]
    exact g
  · rw [e1 (15 + i) j (by omega), e1 (15 + j) i (by omega)]
    exact h4 i j hi hj
theorem rq_lt (x y : Int32) : x < y ↔ ¬ y ≤ x := by rw [Int32.lt_iff_toInt_lt, Int32.le_iff_toInt_le]; omega
theorem rn_cand_lt {j : Nat} (h : rn_cand τ n j = true) : rn_rankBy τ n j < 10000 := by
  unfold rn_cand at h
  by_cases c1 : isIn (τ 13 (10 * n + j)) 0 9999 = true
  · rw [if_pos c1] at h
    by_cases c2 : rn_rankBy τ n j < 10000
    · exact c2
    · rw [if_neg c2] at h
      cases h
  · rw [if_neg c1] at h
    cases h
theorem rq_bestL (h : rq σ τ) (hn : n < 10) : ∀ (r i : Nat) (b x : Int32), i + r = 10 → ((b = -1 ∧ x = 10000) ∨ ∃ j, j < 10 ∧ b = nI j ∧ x = rn_rankBy τ n j ∧ rn_cand τ n j = true) →
    rm_bestL σ n r i b x = rn_bestL τ n r i b ∧ (rn_bestL τ n r i b = -1 ∨ ∃ j, j < 10 ∧ rn_bestL τ n r i b = nI j ∧ rn_cand τ n j = true) := by
  intro r
  induction r with
  | zero =>
    intro i b x _ hb
    refine ⟨rfl, ?_⟩
    rcases hb with ⟨h1, -⟩ | ⟨j, h1, h2, -, h3⟩
    · exact Or.inl h1
    · exact Or.inr ⟨j, h1, h2, h3⟩
  | succ r ih =>
    intro i b x hi hb
    have hi10 : i < 10 := by omega
    have ec := rq_cand h hn hi10
    have er := rq_rankBy h hn hi10
    have key : rm_bestL σ n (r + 1) i b x = (if x ≤ rn_rankBy τ n i then rm_bestL σ n r (i + 1) b x else if rn_cand τ n i = true then rm_bestL σ n r (i + 1) (nI i) (rn_rankBy τ n i) else rm_bestL σ n r (i + 1) b x) := by
      rw [← ec, ← er]; rfl
    have key2 : rn_bestL τ n (r + 1) i b = (if rn_cand τ n i = true then (if b = -1 then rn_bestL τ n r (i + 1) (nI i) else if rn_rankBy τ n b.toNatClampNeg ≤ rn_rankBy τ n i then rn_bestL τ n r (i + 1) b else rn_bestL τ n r (i + 1) (nI i)) else rn_bestL τ n r (i + 1) b) := rfl
    rw [key, key2]
    have hself := ih (i + 1) b x (by omega) hb
    by_cases c : rn_cand τ n i = true
    · have hnew := ih (i + 1) (nI i) (rn_rankBy τ n i) (by omega) (Or.inr ⟨i, hi10, rfl, rfl, c⟩)
      rw [if_pos c, if_pos c]
      rcases hb with ⟨h1, h2⟩ | ⟨j, h1, h2, h3, h4⟩
      · have hlt := rn_cand_lt c
        rw [if_pos h1, if_neg (by rw [h2]; exact (rq_lt _ _).mp hlt)]
        exact hnew
      · have hb1 : ¬ b = -1 := fun q => by
          have := nI_pos (n := j) (by omega)
          rw [← h2, q] at this
          exact this (by decide)
        rw [if_neg hb1, h2, rm_cl h1, ← h2, ← h3]
        by_cases c2 : x ≤ rn_rankBy τ n i
        · rw [if_pos c2, if_pos c2]
          exact hself
        · rw [if_neg c2, if_neg c2]
          exact hnew
    · rw [if_neg c, if_neg c]
      by_cases c2 : x ≤ rn_rankBy τ n i
      · rw [if_pos c2]; exact hself
      · rw [if_neg c2]; exact hself
theorem rq_best (h : rq σ τ) (hn : n < 10) : rm_best σ n = rn_best τ n ∧ (rn_best τ n = -1 ∨ ∃ j, j < 10 ∧ rn_best τ n = nI j ∧ rn_cand τ n j = true) := rq_bestL h hn 10 0 (-1) 10000 rfl (Or.inl ⟨rfl, rfl⟩)
theorem rq_pick (h : rq σ τ) (hn : n < 10) (ho : o < 10) : rn_pick τ n (nI o) = (if rm_keeps σ n o = true then σ 11 n else nI o) := by
  obtain ⟨⟨-, -, -, -, -, e11, -⟩, -, -, -, hp, -⟩ := h.2.1 n hn
  have hb1 : ¬ nI o = -1 := fun q => by
    have := nI_pos (n := o) (by omega)
    rw [q] at this
    exact this (by decide)
  unfold rn_pick rm_keeps
  rw [if_neg hb1]
  rcases hp with hp | hp
  · rw [← e11, if_pos hp, hp, if_neg (by decide : ¬ isNd (-1) = true), if_neg (by decide : ¬ false = true)]
  · obtain ⟨q, hq, eq⟩ := isNd_of hp
    have hq1 : ¬ nI q = -1 := fun z => by
      have := nI_pos (n := q) (by omega)
      rw [z] at this
      exact this (by decide)
    rw [← e11, eq, if_neg hq1, if_pos (isNd_nI hq), rm_cl hq, rm_cl ho, rq_cand h hn hq, rq_rankBy h hn hq, rq_rankBy h hn ho, h.1.1]
    by_cases c1 : rn_cand τ n q = true
    · rw [if_pos c1, if_pos c1]
      by_cases c2 : rn_rankBy τ n q - rn_rankBy τ n o < τ 0 0
      · rw [if_pos c2, if_pos c2, if_pos rfl]
      · rw [if_neg c2, if_neg c2]
        by_cases c3 : 1 ≤ rn_rankBy τ n q - rn_rankBy τ n o
        · rw [if_pos c3, if_neg (fun z => (rq_lt _ _).mp z c3), if_neg (by decide : ¬ false = true)]
        · rw [if_neg c3, if_pos ((rq_lt _ _).mpr c3), if_pos rfl]
    · rw [if_neg c1, if_neg c1, if_neg (by decide : ¬ false = true)]
end RQB

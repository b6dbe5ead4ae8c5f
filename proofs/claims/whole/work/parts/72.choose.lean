/-! a node chooses: here as there -/
section RQC
variable {σ τ : rm_St} {n o : Nat}
theorem rq_reset (h : rq σ τ) (hn : n < 10) : rq (rm_reset σ n) (rn_resets τ n) := by
  have g := h.2.1 n hn
  obtain ⟨-, -, f2, -, f4, -⟩ := h.1
  have v1 : (rm_up σ 12 n (σ 0 2)) 0 4 = σ 0 4 := rm_up_k (by decide)
  have v2 : (rm_up σ 12 n (σ 0 2)) 0 2 = σ 0 2 := rm_up_k (by decide)
  have v3 : (rm_up τ 9 n (τ 0 2)) 0 4 = τ 0 4 := rm_up_k (by decide)
  have v4 : (rm_up τ 9 n (τ 0 2)) 0 2 = τ 0 2 := rm_up_k (by decide)
  unfold rm_reset rn_resets
  rw [v1, v2, v3, v4]
  have a : ∀ q j, (q ≠ 12 ∧ q ≠ 13) ∨ j ≠ n → rm_up (rm_up σ 12 n (σ 0 2)) 13 n (σ 0 4 + σ 0 2) q j = σ q j := fun q j hq => by
    rcases hq with hq | hq
    · rw [rm_up_k hq.2, rm_up_k hq.1]
    · rw [rm_up_j hq, rm_up_j hq]
  have b : ∀ q j, (q ≠ 9 ∧ q ≠ 10) ∨ j ≠ n → rm_up (rm_up τ 9 n (τ 0 2)) 10 n (τ 0 4 + τ 0 2) q j = τ q j := fun q j hq => by
    rcases hq with hq | hq
    · rw [rm_up_k hq.2, rm_up_k hq.1]
    · rw [rm_up_j hq, rm_up_j hq]
  refine rq_upd (n := n) h (fun q j hq => a q j (by omega)) (fun q j hq => b q j (by omega)) hn ?_
  unfold rq_n at g ⊢
  rw [a 5 n (by omega), a 6 n (by omega), a 7 n (by omega), a 8 n (by omega), a 9 n (by omega), a 10 n (by omega), a 11 n (by omega), b 2 n (by omega), b 3 n (by omega), b 4 n (by omega), b 5 n (by omega), b 6 n (by omega), b 7 n (by omega), b 8 n (by omega)]
  rw [rm_up_s, rm_up_s, rm_up_k (by decide : (12 : Nat) ≠ 13), rm_up_s, rm_up_k (by decide : (9 : Nat) ≠ 10), rm_up_s, f2, f4]
  obtain ⟨⟨g1, g2, g3, g4, g5, g6, -, -⟩, g7⟩ := g
  exact ⟨⟨g1, g2, g3, g4, g5, g6, rfl, rfl⟩, g7⟩
theorem rn_tk_v : rn_tk τ n o = rm_up (rm_up (rm_up (rm_up τ 7 n (nI o)) 4 n (τ 11 (10 * n + o))) 5 n (τ 12 (10 * n + o))) 6 n (rn_rankBy τ n o) := by
  have a1 : rn_tk1 τ n o 11 (10 * n + o) = τ 11 (10 * n + o) := rm_up_k (by decide)
  have e2 : rn_tk2 τ n o = rm_up (rm_up τ 7 n (nI o)) 4 n (τ 11 (10 * n + o)) := by
    unfold rn_tk2
    rw [a1]
    rfl
  have a2 : rn_tk2 τ n o 12 (10 * n + o) = τ 12 (10 * n + o) := by
    rw [e2, rm_up_k (by decide), rm_up_k (by decide)]
  have e3 : rn_tk3 τ n o = rm_up (rm_up (rm_up τ 7 n (nI o)) 4 n (τ 11 (10 * n + o))) 5 n (τ 12 (10 * n + o)) := by
    unfold rn_tk3
    rw [a2, e2]
  have a3 : rn_rankBy (rn_tk3 τ n o) n o = rn_rankBy τ n o := by
    unfold rn_rankBy
    rw [e3, rm_up_k (by decide), rm_up_k (by decide), rm_up_k (by decide), rm_up_k (by decide), rm_up_k (by decide), rm_up_k (by decide)]
  unfold rn_tk
  rw [a3, e3]
def rn_low (τ : rm_St) (n o : Nat) : Int32 := if τ 11 (10 * n + o) = τ 4 n then (if τ 12 (10 * n + o) = τ 5 n then (if τ 8 n ≤ rn_rankBy τ n o then τ 8 n else rn_rankBy τ n o) else rn_rankBy τ n o) else rn_rankBy τ n o
theorem rn_takes_v : rn_takes τ n o = rm_up (rm_up (rm_up (rm_up (rm_up τ 7 n (nI o)) 4 n (τ 11 (10 * n + o))) 5 n (τ 12 (10 * n + o))) 6 n (rn_rankBy τ n o)) 8 n (rn_low τ n o) := by
  have a6 : rn_tk τ n o 6 n = rn_rankBy τ n o := by rw [rn_tk_v, rm_up_s]
  have a8 : rn_tk τ n o 8 n = τ 8 n := by rw [rn_tk_v, rm_up_k (by decide), rm_up_k (by decide), rm_up_k (by decide), rm_up_k (by decide)]
  unfold rn_takes rn_low
  rw [a6, a8, rn_tk_v]
  split
  · split
    · split <;> rfl
    · rfl
  · rfl
theorem rm_fol_v {low : Int32} : rm_fol σ n o low = rm_up (rm_up (rm_up (rm_up (rm_up σ 10 n low) 7 n (σ (25 + n) o)) 8 n (σ (35 + n) o)) 9 n (rm_rankBy σ n o)) 11 n (nI o) := by
  have a1 : (rm_up σ 10 n low) (25 + n) o = σ (25 + n) o := rm_up_k (by omega)
  have a2 : ∀ v, (rm_up (rm_up σ 10 n low) 7 n v) (35 + n) o = σ (35 + n) o := fun v => by rw [rm_up_k (by omega), rm_up_k (by omega)]
  unfold rm_fol
  rw [a1, a2]
theorem rn_cand_h (h : rq σ τ) (hn : n < 10) (ho : o < 10) (c : rn_cand τ n o = true) : (¬ rn_rankBy τ n o < 0 ∧ rn_rankBy τ n o < 10000) ∧ σ (25 + n) o = τ 11 (10 * n + o) ∧ σ (35 + n) o = τ 12 (10 * n + o) ∧ ¬ τ 11 (10 * n + o) = -1 ∧ ¬ σ (45 + n) o = -1 := by
  have hlt := rn_cand_lt c
  obtain ⟨g1, ⟨gx, gy⟩, g3, hh⟩ := h.2.2.1 n o hn ho
  have hin : isIn (τ 13 (10 * n + o)) 0 9999 = true := by
    unfold rn_cand at c
    by_cases c1 : isIn (τ 13 (10 * n + o)) 0 9999 = true
    · exact c1
    · rw [if_neg c1] at c; cases c
  rcases hh with ⟨ga, -⟩ | ⟨ga, gb, gc, gd, ge⟩
  · rw [← g3, ga] at hin
    exact absurd hin (by decide)
  · have hi : σ (45 + n) o ≤ 9999 := by
      rw [← g3] at hin
      unfold isIn at hin
      rw [if_neg ga] at hin
      by_cases c2 : 9999 < σ (45 + n) o
      · rw [if_pos c2] at hin; cases hin
      · rw [Int32.lt_iff_toInt_lt] at c2
        rw [Int32.le_iff_toInt_le]
        omega
    have e9 : (9999 : Int32).toInt = 9999 := rfl
    have e10 : (10000 : Int32).toInt = 10000 := rfl
    have e100 : (100 : Int32).toInt = 100 := rfl
    rw [Int32.lt_iff_toInt_lt, Int32.toInt_zero] at ga gx
    rw [Int32.le_iff_toInt_le] at hi gy
    have hpos : ¬ rn_rankBy τ n o < 0 := by
      unfold rn_rankBy
      rw [← g1, ← g3, Int32.lt_iff_toInt_lt, Int32.toInt_zero, Int32.toInt_add, Int.bmod_eq_of_le (by omega) (by omega)]
      omega
    refine ⟨⟨hpos, hlt⟩, gc, gd, ?_, fun q => ?_⟩
    · rw [← gc]
      exact ge (by rw [Int32.lt_iff_toInt_lt]; omega)
    · rw [q] at ga
      exact ga (by decide)
end RQC

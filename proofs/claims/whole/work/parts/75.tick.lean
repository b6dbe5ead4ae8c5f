/-! a tick, a pass: here as there -/
section RQP
variable {σ τ : rm_St} {n : Nat}
theorem rq_ivl {v w : Int32} (h : rq σ τ) (hn : n < 10) : rq (rm_up (rm_up σ 12 n v) 13 n w) (rm_up (rm_up τ 9 n v) 10 n w) := by
  have g := h.2.1 n hn
  have a : ∀ q j, (q ≠ 12 ∧ q ≠ 13) ∨ j ≠ n → rm_up (rm_up σ 12 n v) 13 n w q j = σ q j := fun q j hq => by
    rcases hq with hq | hq
    · rw [rm_up_k hq.2, rm_up_k hq.1]
    · rw [rm_up_j hq, rm_up_j hq]
  have b : ∀ q j, (q ≠ 9 ∧ q ≠ 10) ∨ j ≠ n → rm_up (rm_up τ 9 n v) 10 n w q j = τ q j := fun q j hq => by
    rcases hq with hq | hq
    · rw [rm_up_k hq.2, rm_up_k hq.1]
    · rw [rm_up_j hq, rm_up_j hq]
  refine rq_upd (n := n) h (fun q j hq => a q j (by omega)) (fun q j hq => b q j (by omega)) hn ?_
  unfold rq_n at g ⊢
  rw [a 5 n (by omega), a 6 n (by omega), a 7 n (by omega), a 8 n (by omega), a 9 n (by omega), a 10 n (by omega), a 11 n (by omega), b 2 n (by omega), b 3 n (by omega), b 4 n (by omega), b 5 n (by omega), b 6 n (by omega), b 7 n (by omega), b 8 n (by omega)]
  rw [rm_up_s, rm_up_s, rm_up_k (by decide : (12 : Nat) ≠ 13), rm_up_s, rm_up_k (by decide : (9 : Nat) ≠ 10), rm_up_s]
  obtain ⟨⟨g1, g2, g3, g4, g5, g6, -, -⟩, g7⟩ := g
  exact ⟨⟨g1, g2, g3, g4, g5, g6, rfl, rfl⟩, g7⟩
theorem rq_len (h : rq σ τ) (hn : n < 10) : rq (rm_len σ n) (rn_len2 τ n) := by
  obtain ⟨⟨-, -, -, -, -, -, e12, -⟩, -⟩ := h.2.1 n hn
  obtain ⟨-, -, f2, f3, f4, -⟩ := h.1
  have e0 : rn_len0 τ n = rm_up τ 9 n (rm_mn (2 * σ 12 n) (σ 0 2 <<< (σ 0 3 &&& 31))) := by
    unfold rn_len0 rn_g rm_mn
    rw [e12, f2, f3]
    by_cases c : 2 * τ 9 n ≤ τ 0 2 <<< (τ 0 3 &&& 31)
    · rw [if_pos c, if_neg (fun q => (rq_lt _ _).mp q c)]
    · rw [if_neg c, if_pos ((rq_lt _ _).mpr c)]
  have e1 : rm_len0 σ n = rm_up σ 12 n (rm_mn (2 * σ 12 n) (σ 0 2 <<< (σ 0 3 &&& 31))) := rfl
  unfold rm_len rn_len2
  rw [e0, e1]
  generalize rm_mn (2 * σ 12 n) (σ 0 2 <<< (σ 0 3 &&& 31)) = v
  rw [rm_up_k (show (0 : Nat) ≠ 12 by decide), rm_up_s, rm_up_k (show (0 : Nat) ≠ 9 by decide), rm_up_s, f4]
  exact rq_ivl h hn
theorem rq_tell (h : rq σ τ) (hn : n < 10) : rq (rm_tell σ n) (rn_tells τ n) := rq_tellL hn 10 0 σ τ rfl h
theorem rq_tickL : ∀ (r i : Nat) (x y : Int32) (σ τ : rm_St), i + r = 10 → rq σ τ → rq (rm_tickL r i y σ).1 (rn_tickL r i (x + y) τ).1 ∧ x + (rm_tickL r i y σ).2 = (rn_tickL r i (x + y) τ).2 := by
  intro r
  induction r with
  | zero => intro i x y σ τ _ h; exact ⟨h, rfl⟩
  | succ r ih =>
    intro i x y σ τ hi h
    have hi10 : i < 10 := by omega
    obtain ⟨⟨-, -, -, -, -, -, -, e13⟩, -⟩ := h.2.1 i hi10
    obtain ⟨-, -, -, -, f4, -⟩ := h.1
    have k1 : rm_tickL (r + 1) i y σ = (if τ 10 i = τ 0 4 then rm_tickL r (i + 1) (y + 1) (rm_len (rm_tell σ i) i) else rm_tickL r (i + 1) y σ) := by
      rw [← e13, ← f4]; rfl
    have k2 : rn_tickL (r + 1) i (x + y) τ = (if τ 10 i = τ 0 4 then rn_tickL r (i + 1) (x + y + 1) (rn_len2 (rn_tells τ i) i) else rn_tickL r (i + 1) (x + y) τ) := rfl
    rw [k1, k2]
    by_cases c : τ 10 i = τ 0 4
    · rw [if_pos c, if_pos c, Int32.add_assoc]
      exact ih (i + 1) x (y + 1) _ _ (by omega) (rq_len (rq_tell h hi10) hi10)
    · rw [if_neg c, if_neg c]
      exact ih (i + 1) x y σ τ (by omega) h
theorem rq_tick (h : rq σ τ) (x : Int32) : rq (rm_tick σ).1 (rn_tickL 10 0 x (rm_up τ 0 4 (τ 0 4 + 1))).1 ∧ x + (rm_tick σ).2 = (rn_tickL 10 0 x (rm_up τ 0 4 (τ 0 4 + 1))).2 := by
  obtain ⟨-, -, -, -, f4, -⟩ := h.1
  have ht : rq (rm_up σ 0 4 (σ 0 4 + 1)) (rm_up τ 0 4 (τ 0 4 + 1)) := by
    rw [f4]
    exact rq_time h
  have g := rq_tickL 10 0 x 0 _ _ rfl ht
  rw [Int32.add_zero] at g
  exact g
theorem rq_passL : ∀ (r t : Nat) (x : Int32) (σ τ : rm_St), rq σ τ → rq (rm_passL r t x σ).1 (rn_passL r t x τ).1 ∧ (rm_passL r t x σ).2 = (rn_passL r t x τ).2 := by
  intro r
  induction r with
  | zero => intro t x σ τ h; exact ⟨h, rfl⟩
  | succ r ih =>
    intro t x σ τ h
    obtain ⟨g1, g2⟩ := rq_tick h x
    have k1 : rm_passL (r + 1) t x σ = rm_passL r (t + 1) (x + (rm_tick σ).2) (rm_tick σ).1 := by rw [rm_passL]
    have k2 : rn_passL (r + 1) t x τ = rn_passL r (t + 1) (rn_tickL 10 0 x (rm_up τ 0 4 (τ 0 4 + 1))).2 (rn_tickL 10 0 x (rm_up τ 0 4 (τ 0 4 + 1))).1 := by rw [rn_passL]
    rw [k1, k2, g2]
    exact ih (t + 1) _ _ _ g1
end RQP

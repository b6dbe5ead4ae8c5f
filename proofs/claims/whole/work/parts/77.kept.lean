/-! what leaves 'thrown' alone -/
section RQK
variable {τ : rm_St} {n o : Nat}
theorem rn_k_resets : rn_resets τ n 0 20 = τ 0 20 := by
  unfold rn_resets
  rw [rm_up_k (by decide), rm_up_k (by decide)]
theorem rn_k_takes : rn_takes τ n o 0 20 = τ 0 20 := by
  rw [rn_takes_v, rm_up_k (by decide), rm_up_k (by decide), rm_up_k (by decide), rm_up_k (by decide), rm_up_k (by decide)]
theorem rn_k_after {b : Int32} : rn_after τ n b 0 20 = τ 0 20 := by
  unfold rn_after
  split
  · rw [rm_up_k (by decide), rm_up_k (by decide)]
  · exact rn_k_takes
theorem rn_k_chooses : rn_chooses τ n 0 20 = τ 0 20 := by
  have h : rn_after τ n (rn_pick τ n (rn_best τ n)) 0 20 = τ 0 20 := rn_k_after
  unfold rn_chooses
  generalize rn_after τ n (rn_pick τ n (rn_best τ n)) = υ at h ⊢
  unfold rn_chooseT
  repeat' split
  all_goals first | exact h | rfl | (rw [rn_k_resets]; exact h)
theorem rn_k_hear {t i : Nat} : rn_hear τ t i 0 20 = τ 0 20 := by
  unfold rn_hear
  rw [rm_up_k (by decide), rm_up_k (by decide), rm_up_k (by decide)]
theorem rn_k_tellL {t : Nat} : ∀ (r i : Nat) (τ : rm_St), rn_tellL t r i τ 0 20 = τ 0 20 := by
  intro r
  induction r with
  | zero => intro i τ; rfl
  | succ r ih =>
    intro i τ
    unfold rn_tellL
    split
    · exact ih _ _
    · rw [ih, rn_k_chooses, rn_k_hear]
theorem rn_k_len : rn_len2 τ n 0 20 = τ 0 20 := by
  unfold rn_len2 rn_len0
  rw [rm_up_k (by decide)]
  split
  all_goals rw [rm_up_k (by decide)]
theorem rn_k_tickL : ∀ (r i : Nat) (x : Int32) (τ : rm_St), (rn_tickL r i x τ).1 0 20 = τ 0 20 := by
  intro r
  induction r with
  | zero => intro i x τ; rfl
  | succ r ih =>
    intro i x τ
    unfold rn_tickL
    split
    · rw [ih, rn_k_len]
      exact rn_k_tellL 10 0 τ
    · exact ih _ _ _
theorem rn_k_passL : ∀ (r t : Nat) (x : Int32) (τ : rm_St), (rn_passL r t x τ).1 0 20 = τ 0 20 := by
  intro r
  induction r with
  | zero => intro t x τ; rfl
  | succ r ih =>
    intro t x τ
    rw [rn_passL, ih, rn_k_tickL, rm_up_j (by decide)]
end RQK

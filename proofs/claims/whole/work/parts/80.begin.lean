/-! renew: here as there -/
section RQR
variable {σ τ : rm_St} {n : Nat}
theorem rq_begin_v : rm_begin σ n = rm_reset (rm_up (rm_up σ 6 n (σ 6 n + 1)) 8 n (σ 6 n + 1)) n := by
  unfold rm_begin rm_begin0
  rw [rm_up_s]
theorem rn_begins_v : rn_begins τ n = rn_resets (rm_up (rm_up (rm_up (rm_up (rm_up (rm_up τ 3 n (τ 3 n + 1)) 4 n (nI n)) 5 n (τ 3 n + 1)) 6 n 0) 7 n (-1)) 8 n 0) n := by
  unfold rn_begins rn_beg1
  rw [rm_up_k (show (3 : Nat) ≠ 4 by decide), rm_up_s]
end RQR

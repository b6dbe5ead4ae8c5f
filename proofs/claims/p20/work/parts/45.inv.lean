/-! what the law asks, as facts of the mesh's state (no machine in it): choosing -/
def iv_ok (σ : rm_St) (t v : Int32) : Prop := ∃ r, r < 10 ∧ t = nI r ∧ 1 ≤ v.toInt ∧ v.toInt ≤ (σ 6 r).toInt
def iv_h (σ : rm_St) (n o : Nat) : Prop := σ (45 + n) o = -1 ∨ (0 < (σ (15 + n) o).toInt ∧ (0 ≤ (σ (45 + n) o).toInt ∧ (σ (45 + n) o).toInt ≤ 10000) ∧ ((σ (45 + n) o).toInt < 10000 → iv_ok σ (σ (25 + n) o) (σ (35 + n) o)))
def iv_r (σ : rm_St) (n : Nat) : Prop := σ 5 n = 1 ∧ σ 7 n = nI n ∧ σ 8 n = σ 6 n ∧ σ 9 n = 0 ∧ σ 11 n = -1 ∧ 1 ≤ (σ 6 n).toInt
def iv_p (σ : rm_St) (n : Nat) : Prop := iv_r σ n ∨ (σ 5 n = 0 ∧ σ 9 n = 10000 ∧ σ 11 n = -1) ∨ (σ 5 n = 0 ∧ ∃ p, p < 10 ∧ σ 11 n = nI p ∧ 0 < (σ 9 n).toInt ∧ (σ 9 n).toInt < 10000 ∧ 0 < (σ (15 + n) p).toInt ∧ σ 9 n = σ (45 + n) p + σ (15 + n) p ∧ iv_ok σ (σ 7 n) (σ 8 n))
def iv_q (σ : rm_St) (n : Nat) : Prop := σ 5 n = 0 ∨ iv_r σ n
def iv_f (σ : rm_St) : Prop := (1 ≤ (σ 0 2).toInt ∧ (σ 0 2).toInt ≤ 8) ∧ (0 ≤ (σ 0 3).toInt ∧ (σ 0 3).toInt ≤ 6) ∧ 0 ≤ (σ 0 4).toInt ∧ (σ 0 4).toInt ≤ 3000
def iv_c (σ : rm_St) (n o : Nat) : Prop := (0 ≤ (σ (15 + n) o).toInt ∧ (σ (15 + n) o).toInt ≤ 100) ∧ (n = o → σ (15 + n) o = 0) ∧ σ (15 + n) o = σ (15 + o) n
def iv_M (σ : rm_St) : Prop := iv_f σ ∧ (∀ n o, n < 10 → o < 10 → iv_c σ n o) ∧ ∀ n o, n < 10 → o < 10 → iv_h σ n o
def iv_N (σ : rm_St) : Prop := ∀ n, n < 10 → iv_p σ n
/-- what a node's choosing may change -/
def iv_ch (n : Nat) (σ σ' : rm_St) : Prop := (∀ q j, (j ≠ n ∨ q < 7 ∨ 13 < q) → σ' q j = σ q j) ∧ ((σ' 12 n = σ 12 n ∧ σ' 13 n = σ 13 n) ∨ (σ' 12 n = σ 0 2 ∧ σ' 13 n = σ 0 4 + σ 0 2))
theorem iv_add {x y : Int32} (h1 : 0 ≤ x.toInt ∧ x.toInt ≤ 10000) (h2 : 0 ≤ y.toInt ∧ y.toInt ≤ 10000) : (x + y).toInt = x.toInt + y.toInt := by
  rw [Int32.toInt_add, Int.bmod_eq_of_le (by omega) (by omega)]
theorem iv_10000 : (10000 : Int32).toInt = 10000 := rfl
section IV1
variable {σ σ' τ : rm_St} {n o t i : Nat}
theorem iv_ok_mono {t v : Int32} (h6 : ∀ r, r < 10 → (σ 6 r).toInt ≤ (σ' 6 r).toInt) (h : iv_ok σ t v) : iv_ok σ' t v := by
  obtain ⟨r, hr, e, h1, h2⟩ := h
  exact ⟨r, hr, e, h1, Int.le_trans h2 (h6 r hr)⟩
theorem iv_reset_v : (∀ q j, (j ≠ n ∨ (q ≠ 12 ∧ q ≠ 13)) → rm_reset σ n q j = σ q j) ∧ rm_reset σ n 12 n = σ 0 2 ∧ rm_reset σ n 13 n = σ 0 4 + σ 0 2 := by
  refine ⟨fun q j h => ?_, ?_, ?_⟩
  · unfold rm_reset
    rcases h with h | h
    · rw [rm_up_j h, rm_up_j h]
    · rw [rm_up_k h.2, rm_up_k h.1]
  · unfold rm_reset
    rw [rm_up_k (by decide), rm_up_s]
  · unfold rm_reset
    rw [rm_up_s, rm_up_k (by decide), rm_up_k (by decide)]
theorem iv_fol_v {low : Int32} : (∀ q j, (j ≠ n ∨ q < 7 ∨ 11 < q) → rm_fol σ n o low q j = σ q j) ∧ rm_fol σ n o low 7 n = σ (25 + n) o ∧ rm_fol σ n o low 8 n = σ (35 + n) o ∧ rm_fol σ n o low 9 n = rm_rankBy σ n o ∧ rm_fol σ n o low 11 n = nI o := by
  refine ⟨fun q j h => ?_, ?_, ?_, ?_, ?_⟩
  · unfold rm_fol
    rcases h with h | h
    · rw [rm_up_j h, rm_up_j h, rm_up_j h, rm_up_j h, rm_up_j h]
    · rw [rm_up_k (by omega), rm_up_k (by omega), rm_up_k (by omega), rm_up_k (by omega), rm_up_k (by omega)]
  · unfold rm_fol
    rw [rm_up_k (by decide), rm_up_k (by decide), rm_up_k (by decide), rm_up_s, rm_up_k (by omega)]
  · unfold rm_fol
    rw [rm_up_k (by decide), rm_up_k (by decide), rm_up_s, rm_up_k (by omega), rm_up_k (by omega)]
  · unfold rm_fol
    rw [rm_up_k (by decide), rm_up_s]
  · unfold rm_fol
    rw [rm_up_s]
theorem iv_follow_or : ∃ low, rm_follow σ n o = rm_fol σ n o low ∨ rm_follow σ n o = rm_reset (rm_fol σ n o low) n := by
  unfold rm_follow
  by_cases c : rm_own σ n o = true
  · rw [if_pos c]
    refine ⟨rm_mn (rm_rankBy σ n o) (σ 10 n), ?_⟩
    by_cases c2 : rm_rankBy σ n o = σ 9 n
    · rw [if_pos c2]
      by_cases c3 : nI o = σ 11 n
      · rw [if_pos c3]; exact Or.inl rfl
      · rw [if_neg c3]; exact Or.inr rfl
    · rw [if_neg c2]; exact Or.inr rfl
  · rw [if_neg c]; exact ⟨_, Or.inr rfl⟩
theorem iv_follow_v : iv_ch n σ (rm_follow σ n o) ∧ rm_follow σ n o 7 n = σ (25 + n) o ∧ rm_follow σ n o 8 n = σ (35 + n) o ∧ rm_follow σ n o 9 n = rm_rankBy σ n o ∧ rm_follow σ n o 11 n = nI o := by
  obtain ⟨low, h⟩ := iv_follow_or (σ := σ) (n := n) (o := o)
  obtain ⟨a0, a1, a2, a3, a4⟩ := iv_fol_v (σ := σ) (n := n) (o := o) (low := low)
  rcases h with h | h
  · rw [h]
    exact ⟨⟨fun q j hq => a0 q j (by omega), Or.inl ⟨a0 12 n (by omega), a0 13 n (by omega)⟩⟩, a1, a2, a3, a4⟩
  · obtain ⟨b0, b1, b2⟩ := iv_reset_v (σ := rm_fol σ n o low) (n := n)
    rw [h]
    refine ⟨⟨fun q j hq => ?_, Or.inr ⟨?_, ?_⟩⟩, ?_, ?_, ?_, ?_⟩
    · rw [b0 q j (by omega), a0 q j (by omega)]
    · rw [b1, a0 0 2 (by omega)]
    · rw [b2, a0 0 4 (by omega), a0 0 2 (by omega)]
    · rw [b0 7 n (by omega), a1]
    · rw [b0 8 n (by omega), a2]
    · rw [b0 9 n (by omega), a3]
    · rw [b0 11 n (by omega), a4]
theorem iv_lose_v : iv_ch n σ (rm_lose σ n) ∧ rm_lose σ n 9 n = 10000 ∧ rm_lose σ n 11 n = -1 := by
  have a0 : ∀ q j, (j ≠ n ∨ (q ≠ 9 ∧ q ≠ 11)) → rm_up (rm_up σ 9 n 10000) 11 n (-1) q j = σ q j := fun q j h => by
    rcases h with h | h
    · rw [rm_up_j h, rm_up_j h]
    · rw [rm_up_k h.2, rm_up_k h.1]
  have a1 : rm_up (rm_up σ 9 n 10000) 11 n (-1) 9 n = 10000 := by rw [rm_up_k (by decide), rm_up_s]
  have a2 : rm_up (rm_up σ 9 n 10000) 11 n (-1) 11 n = -1 := rm_up_s _ _ _ _
  have hor : rm_lose σ n = rm_up (rm_up σ 9 n 10000) 11 n (-1) ∨ rm_lose σ n = rm_reset (rm_up (rm_up σ 9 n 10000) 11 n (-1)) n := by
    unfold rm_lose
    by_cases c : σ 9 n = 10000
    · rw [if_pos c]
      by_cases c2 : σ 11 n = -1
      · rw [if_pos c2]; exact Or.inl rfl
      · rw [if_neg c2]; exact Or.inr rfl
    · rw [if_neg c]; exact Or.inr rfl
  generalize rm_up (rm_up σ 9 n 10000) 11 n (-1) = ρ at a0 a1 a2 hor
  rcases hor with h | h
  · rw [h]
    exact ⟨⟨fun q j hq => a0 q j (by omega), Or.inl ⟨a0 12 n (by omega), a0 13 n (by omega)⟩⟩, a1, a2⟩
  · obtain ⟨b0, b1, b2⟩ := iv_reset_v (σ := ρ) (n := n)
    rw [h]
    refine ⟨⟨fun q j hq => ?_, Or.inr ⟨?_, ?_⟩⟩, ?_, ?_⟩
    · rw [b0 q j (by omega), a0 q j (by omega)]
    · rw [b1, a0 0 2 (by omega)]
    · rw [b2, a0 0 4 (by omega), a0 0 2 (by omega)]
    · rw [b0 9 n (by omega), a1]
    · rw [b0 11 n (by omega), a2]
theorem iv_cand (h : rm_cand σ n o = true) : ¬ σ (45 + n) o = -1 ∧ ¬ 10000 ≤ σ (45 + n) o ∧ rm_rankBy σ n o < 10000 := by
  unfold rm_cand at h
  by_cases c1 : σ (45 + n) o = -1
  · rw [if_pos c1] at h; cases h
  · rw [if_neg c1] at h
    by_cases c2 : 10000 ≤ σ (45 + n) o
    · rw [if_pos c2] at h; cases h
    · rw [if_neg c2] at h
      by_cases c3 : rm_rankBy σ n o < 10000
      · exact ⟨c1, c2, c3⟩
      · rw [if_neg c3] at h; cases h
theorem iv_bestL : ∀ (r i : Nat) (b x : Int32), i + r = 10 → (b = -1 ∨ ∃ o, o < 10 ∧ b = nI o ∧ rm_cand σ n o = true) → (rm_bestL σ n r i b x = -1 ∨ ∃ o, o < 10 ∧ rm_bestL σ n r i b x = nI o ∧ rm_cand σ n o = true) := by
  intro r
  induction r with
  | zero => intro i b x _ h; exact h
  | succ r ih =>
    intro i b x hi h
    rw [rm_bestL]
    by_cases c : x ≤ rm_rankBy σ n i
    · rw [if_pos c]; exact ih (i + 1) b x (by omega) h
    · rw [if_neg c]
      by_cases c2 : rm_cand σ n i = true
      · rw [if_pos c2]; exact ih (i + 1) _ _ (by omega) (Or.inr ⟨i, by omega, rfl, c2⟩)
      · rw [if_neg c2]; exact ih (i + 1) b x (by omega) h
theorem iv_best (h : isNd (rm_best σ n) = true) : ∃ o, o < 10 ∧ rm_best σ n = nI o ∧ rm_cand σ n o = true := by
  rcases iv_bestL (σ := σ) (n := n) 10 0 (-1) 10000 rfl (Or.inl rfl) with e | e
  · have e : rm_best σ n = -1 := e
    rw [e] at h
    exact absurd h (by decide)
  · exact e
theorem iv_keeps (h : rm_keeps σ n o = true) : ∃ p, p < 10 ∧ σ 11 n = nI p ∧ rm_cand σ n p = true := by
  obtain ⟨p, hp, e⟩ := isNd_of (rm_keeps_nd h)
  refine ⟨p, hp, e, ?_⟩
  unfold rm_keeps at h
  rw [e, if_pos (isNd_nI hp), rm_cl hp] at h
  by_cases c : rm_cand σ n p = true
  · exact c
  · rw [if_neg c] at h; cases h
theorem iv_follow (hM : iv_M σ) (hn : n < 10) (ho : o < 10) (c5 : σ 5 n = 0) (hc : rm_cand σ n o = true) : iv_ch n σ (rm_follow σ n o) ∧ iv_p (rm_follow σ n o) n := by
  obtain ⟨hch, a1, a2, a3, a4⟩ := iv_follow_v (σ := σ) (n := n) (o := o)
  obtain ⟨d1, d2, d3⟩ := iv_cand hc
  obtain ⟨g1, g2, g3⟩ := (hM.2.2 n o hn ho).resolve_left d1
  have hcost := (hM.2.1 n o hn ho).1
  rw [Int32.le_iff_toInt_le, iv_10000] at d2
  have eadd : (rm_rankBy σ n o).toInt = (σ (45 + n) o).toInt + (σ (15 + n) o).toInt := iv_add g2 (by omega)
  rw [Int32.lt_iff_toInt_lt, iv_10000] at d3
  refine ⟨hch, Or.inr (Or.inr ⟨by rw [hch.1 5 n (by omega), c5], o, ho, a4, by rw [a3]; omega, by rw [a3]; omega, ?_, ?_, ?_⟩)⟩
  · rw [hch.1 (15 + n) o (by omega)]; exact g1
  · rw [hch.1 (15 + n) o (by omega), hch.1 (45 + n) o (by omega), a3]; rfl
  · rw [a1, a2]
    exact iv_ok_mono (fun r _ => by rw [hch.1 6 r (by omega)]; exact Int.le_refl _) (g3 (by omega))
theorem iv_choose (hM : iv_M σ) (hn : n < 10) (hq : iv_q σ n) : iv_ch n σ (rm_choose σ n) ∧ iv_p (rm_choose σ n) n := by
  unfold rm_choose
  by_cases c5 : σ 5 n = 0
  · rw [if_pos c5]
    by_cases cb : isNd (rm_best σ n) = true
    · rw [if_pos cb]
      obtain ⟨o, ho, eo, hc⟩ := iv_best cb
      rw [eo, rm_cl ho]
      by_cases ck : rm_keeps σ n o = true
      · rw [if_pos ck]
        obtain ⟨p, hp, ep, hcp⟩ := iv_keeps ck
        rw [ep, rm_cl hp]
        exact iv_follow hM hn hp c5 hcp
      · rw [if_neg ck]
        exact iv_follow hM hn ho c5 hc
    · rw [if_neg cb]
      obtain ⟨hch, a1, a2⟩ := iv_lose_v (σ := σ) (n := n)
      exact ⟨hch, Or.inr (Or.inl ⟨by rw [hch.1 5 n (by omega), c5], a1, a2⟩)⟩
  · rw [if_neg c5]
    exact ⟨⟨fun _ _ _ => rfl, Or.inl ⟨rfl, rfl⟩⟩, Or.inl (hq.resolve_left c5)⟩
theorem iv_cg_f (h : ∀ j, σ' 0 j = σ 0 j) (hf : iv_f σ) : iv_f σ' := by
  unfold iv_f at hf ⊢
  rw [h 2, h 3, h 4]
  exact hf
theorem iv_cg_c (h1 : σ' (15 + n) o = σ (15 + n) o) (h2 : σ' (15 + o) n = σ (15 + o) n) (hc : iv_c σ n o) : iv_c σ' n o := by
  unfold iv_c at hc ⊢
  rw [h1, h2]
  exact hc
theorem iv_cg_h (h1 : σ' (15 + n) o = σ (15 + n) o) (h2 : σ' (25 + n) o = σ (25 + n) o) (h3 : σ' (35 + n) o = σ (35 + n) o) (h4 : σ' (45 + n) o = σ (45 + n) o) (h6 : ∀ r, r < 10 → (σ 6 r).toInt ≤ (σ' 6 r).toInt) (hh : iv_h σ n o) : iv_h σ' n o := by
  unfold iv_h at hh ⊢
  rw [h1, h2, h3, h4]
  rcases hh with hh | ⟨g1, g2, g3⟩
  · exact Or.inl hh
  · exact Or.inr ⟨g1, g2, fun q => iv_ok_mono h6 (g3 q)⟩
theorem iv_cg_r (h : ∀ q, q = 5 ∨ q = 6 ∨ q = 7 ∨ q = 8 ∨ q = 9 ∨ q = 11 → σ' q n = σ q n) (hr : iv_r σ n) : iv_r σ' n := by
  unfold iv_r at hr ⊢
  rw [h 5 (by omega), h 6 (by omega), h 7 (by omega), h 8 (by omega), h 9 (by omega), h 11 (by omega)]
  exact hr
theorem iv_cg_p (h : ∀ q, q = 5 ∨ q = 7 ∨ q = 8 ∨ q = 9 ∨ q = 11 → σ' q n = σ q n) (h1 : ∀ p, p < 10 → σ' (15 + n) p = σ (15 + n) p) (h4 : ∀ p, p < 10 → σ' (45 + n) p = σ (45 + n) p) (h6 : ∀ r, r < 10 → (σ 6 r).toInt ≤ (σ' 6 r).toInt) (h6n : σ' 6 n = σ 6 n) (hp : iv_p σ n) : iv_p σ' n := by
  rcases hp with hp | hp | ⟨g0, p, hp, g1, g2, g3, g4, g5, g6⟩
  · exact Or.inl (iv_cg_r (fun q hq => by rcases hq with hq | hq | hq | hq | hq | hq <;> subst hq <;> first | exact h6n | exact h _ (by omega)) hp)
  · refine Or.inr (Or.inl ?_)
    rw [h 5 (by omega), h 9 (by omega), h 11 (by omega)]
    exact hp
  · refine Or.inr (Or.inr ⟨?_, p, hp, ?_⟩)
    · rw [h 5 (by omega)]; exact g0
    · rw [h 11 (by omega), h 9 (by omega), h 7 (by omega), h 8 (by omega), h1 p hp, h4 p hp]
      exact ⟨g1, g2, g3, g4, g5, iv_ok_mono h6 g6⟩
theorem iv_ch_M (h : iv_ch n σ σ') (hM : iv_M σ) : iv_M σ' := by
  refine ⟨iv_cg_f (fun j => h.1 0 j (by omega)) hM.1, fun a b ha hb => iv_cg_c (h.1 _ _ (by omega)) (h.1 _ _ (by omega)) (hM.2.1 a b ha hb), fun a b ha hb => ?_⟩
  exact iv_cg_h (h.1 _ _ (by omega)) (h.1 _ _ (by omega)) (h.1 _ _ (by omega)) (h.1 _ _ (by omega)) (fun r _ => by rw [h.1 6 r (by omega)]; exact Int.le_refl _) (hM.2.2 a b ha hb)
theorem iv_ch_p {m : Nat} (h : iv_ch n σ σ') (hm : m ≠ n) (hp : iv_p σ m) : iv_p σ' m :=
  iv_cg_p (fun q _ => h.1 q m (by omega)) (fun p _ => h.1 _ _ (by omega)) (fun p _ => h.1 _ _ (by omega)) (fun r _ => by rw [h.1 6 r (by omega)]; exact Int.le_refl _) (h.1 6 m (by omega)) hp
theorem iv_p_q (h : iv_p σ n) : iv_q σ n := by
  rcases h with h | h | h
  · exact Or.inr h
  · exact Or.inl h.1
  · exact Or.inl h.1
end IV1

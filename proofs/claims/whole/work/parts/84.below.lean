/-! bits of an Int32 (began as rows of laws/BITS.to-paste); the nodes below a node -/
def qb (x : Int32) (i : Nat) : Bool := x.toBitVec.getLsbD i
theorem qb_ext {x y : Int32} (h : ∀ i, i < 32 → qb x i = qb y i) : x = y := Int32.toBitVec_inj.mp (BitVec.eq_of_getLsbD_eq (fun i hi => h i hi))
theorem qb_or (x y : Int32) (i : Nat) : qb (x ||| y) i = (qb x i || qb y i) := by unfold qb; rw [Int32.toBitVec_or, BitVec.getLsbD_or]
theorem qb_and (x y : Int32) (i : Nat) : qb (x &&& y) i = (qb x i && qb y i) := by unfold qb; rw [Int32.toBitVec_and, BitVec.getLsbD_and]
theorem qb_0 (i : Nat) : qb 0 i = false := BitVec.getLsbD_zero
theorem qb_sl : ∀ n, n < 32 → ((nI n &&& 31).toBitVec.smod 32).toNat = n := by decide +kernel
theorem qb_sshr (n : Nat) (hn : n < 32) (x : Int32) : qb (x >>> (nI n &&& 31)) 0 = qb x n := by
  unfold qb
  rw [Int32.toBitVec_shiftRight]
  show (x.toBitVec.sshiftRight ((nI n &&& 31).toBitVec.smod 32).toNat).getLsbD 0 = _
  rw [qb_sl n hn, BitVec.getLsbD_sshiftRight]
  simp [hn]
theorem qb_one : ∀ i, i < 32 → qb 1 i = decide (i = 0) := by decide +kernel
theorem qb_and1 (x : Int32) : x &&& 1 = if qb x 0 = true then 1 else 0 := by
  refine qb_ext (fun i hi => ?_)
  rw [qb_and, qb_one i hi]
  by_cases e : i = 0
  · subst e
    by_cases c : qb x 0 = true
    · rw [if_pos c, c]; rfl
    · rw [if_neg c, qb_0, Bool.eq_false_iff.mpr c]; rfl
  · rw [decide_eq_false e, Bool.and_false]
    by_cases c : qb x 0 = true
    · rw [if_pos c, qb_one i hi, decide_eq_false e]
    · rw [if_neg c, qb_0]
theorem qb_t {x : Int32} {n : Nat} (hn : n < 10) : (x >>> (nI n &&& 31)) &&& 1 = if qb x n = true then 1 else 0 := by
  rw [qb_and1, qb_sshr n (by omega)]
theorem qb_t0 {x : Int32} {n : Nat} (hn : n < 10) : (x >>> (nI n &&& 31)) &&& 1 = 0 ↔ ¬ qb x n = true := by
  rw [qb_t hn]
  by_cases c : qb x n = true
  · rw [if_pos c]; exact ⟨fun q => absurd q (by decide), fun q => absurd c q⟩
  · rw [if_neg c]; exact ⟨fun _ => c, fun _ => rfl⟩
theorem qb_t1 {x : Int32} {n : Nat} (hn : n < 10) : (x >>> (nI n &&& 31)) &&& 1 = 1 ↔ qb x n = true := by
  rw [qb_t hn]
  by_cases c : qb x n = true
  · rw [if_pos c]; exact ⟨fun _ => c, fun _ => rfl⟩
  · rw [if_neg c]; exact ⟨fun q => absurd q (by decide), fun q => absurd q c⟩
theorem qb_bit0 : ∀ n, n < 10 → ∀ j, j < 32 → qb ((1 : Int32) <<< (nI n &&& 31)) j = decide (n = j) := by decide +kernel
theorem qb_big {x : Int32} {i : Nat} (h : 32 ≤ i) : qb x i = false := BitVec.getLsbD_of_ge _ _ h
theorem qb_bit {n : Nat} (hn : n < 10) (j : Nat) : qb ((1 : Int32) <<< (nI n &&& 31)) j = decide (n = j) := by
  by_cases h : j < 32
  · exact qb_bit0 n hn j h
  · rw [qb_big (by omega), decide_eq_false (by omega)]
/-- i comes to n by at most k parents -/
def rq_R (f : Nat → Int32) (n : Nat) : Nat → Nat → Bool
  | 0, i => decide (i = n)
  | k + 1, i => rq_R f n k i || (isNd (f i) && rq_R f n k (f i).toNatClampNeg)
section RQW
variable {f g : Nat → Int32} {n i k : Nat}
theorem rq_R_s : rq_R f n (k + 1) i = (rq_R f n k i || (isNd (f i) && rq_R f n k (f i).toNatClampNeg)) := rfl
theorem rq_R_up (h : rq_R f n k i = true) : rq_R f n (k + 1) i = true := by rw [rq_R_s, h]; rfl
theorem rq_R_par {p : Nat} (hp : p < 10) (e : f i = nI p) (h : rq_R f n k p = true) : rq_R f n (k + 1) i = true := by
  rw [rq_R_s, e, rm_cl hp, h, isNd_nI hp]
  simp
theorem rq_R_of (h : rq_R f n (k + 1) i = true) : rq_R f n k i = true ∨ ∃ p, p < 10 ∧ f i = nI p ∧ rq_R f n k p = true := by
  rw [rq_R_s, Bool.or_eq_true, Bool.and_eq_true] at h
  rcases h with h | ⟨h1, h2⟩
  · exact Or.inl h
  · obtain ⟨p, hp, e⟩ := isNd_of h1
    rw [e, rm_cl hp] at h2
    exact Or.inr ⟨p, hp, e, h2⟩
theorem rq_R_cg (h : ∀ i, i < 10 → f i = g i) : ∀ (k i : Nat), i < 10 → rq_R f n k i = rq_R g n k i := by
  intro k
  induction k with
  | zero => intro i _; rfl
  | succ k ih =>
    intro i hi
    rw [rq_R_s, rq_R_s, ih i hi, h i hi]
    by_cases c : isNd (g i) = true
    · obtain ⟨p, hp, e⟩ := isNd_of c
      rw [e, rm_cl hp, ih p hp]
    · rw [Bool.eq_false_iff.mpr c, Bool.false_and, Bool.false_and]
theorem rq_R_grow (hn : n < 10) : ∀ k, (∀ i, i < 10 → rq_R f n (k + 1) i = true → rq_R f n k i = true) ∨ k + 1 ≤ rq_cnt (rq_R f n k) 10 := by
  intro k
  induction k with
  | zero => exact Or.inr (rq_cnt_pos hn (decide_eq_true rfl))
  | succ k ih =>
    have cl : (∀ i, i < 10 → rq_R f n (k + 1) i = true → rq_R f n k i = true) → ∀ i, i < 10 → rq_R f n (k + 1 + 1) i = true → rq_R f n (k + 1) i = true := by
      intro hc i hi h
      rcases rq_R_of h with h | ⟨p, hp, e, h⟩
      · exact h
      · exact rq_R_par hp e (hc p hp h)
    rcases ih with ih | ih
    · exact Or.inl (cl ih)
    · by_cases hc : ∀ i, i < 10 → rq_R f n (k + 1) i = true → rq_R f n k i = true
      · exact Or.inl (cl hc)
      · have hex : ∃ i, i < 10 ∧ rq_R f n (k + 1) i = true ∧ ¬ rq_R f n k i = true := Classical.byContradiction (fun q => hc (fun i hi h => Classical.byContradiction (fun q2 => q ⟨i, hi, h, q2⟩)))
        have hlt := rq_cnt_lt (p := rq_R f n k) (q := rq_R f n (k + 1)) 10 (fun i _ h => rq_R_up h) hex
        exact Or.inr (by omega)
theorem rq_R_9 (hn : n < 10) : ∀ i, i < 10 → rq_R f n 10 i = true → rq_R f n 9 i = true := by
  rcases rq_R_grow (f := f) hn 9 with h | h
  · exact h
  · exact fun i hi _ => rq_cnt_full 10 h i hi
theorem rq_R_le {a b : Nat} (hab : a ≤ b) (h : rq_R f n a i = true) : rq_R f n b i = true := by
  induction b with
  | zero =>
    obtain rfl : a = 0 := by omega
    exact h
  | succ b ih =>
    by_cases e : a = b + 1
    · subst e; exact h
    · exact rq_R_up (ih (by omega))
end RQW
section RQX
variable {σ τ : rm_St} {n : Nat}
theorem rm_chL_b {v : Int32} : ∀ (r i : Nat) (x : Int32), i + r = 10 → ∀ j, qb (rm_chL σ v r i x) j = (qb x j || (decide (i ≤ j ∧ j < 10) && (isNd (σ 11 j) && qb v (σ 11 j).toNatClampNeg))) := by
  intro r
  induction r with
  | zero =>
    intro i x hi j
    rw [rm_chL, decide_eq_false (by omega), Bool.false_and, Bool.or_false]
  | succ r ih =>
    intro i x hi j
    have hb := qb_bit (n := i) (by omega) j
    have hd : ∀ X : Bool, (decide (i ≤ j ∧ j < 10) && X) = ((decide (i = j) && X) || (decide (i + 1 ≤ j ∧ j < 10) && X)) := fun X => by
      by_cases e : i = j
      · rw [decide_eq_true (show i ≤ j ∧ j < 10 by omega), decide_eq_true e, decide_eq_false (show ¬ (i + 1 ≤ j ∧ j < 10) by omega)]
        cases X <;> rfl
      · rw [decide_eq_false e]
        by_cases e2 : i + 1 ≤ j ∧ j < 10
        · rw [decide_eq_true (show i ≤ j ∧ j < 10 by omega), decide_eq_true e2]
          cases X <;> rfl
        · rw [decide_eq_false (show ¬ (i ≤ j ∧ j < 10) by omega), decide_eq_false e2]
          cases X <;> rfl
    rw [hd, ← Bool.or_assoc]
    unfold rm_chL
    by_cases c : isNd (σ 11 i) = true
    · obtain ⟨p, hp, e⟩ := isNd_of c
      rw [if_pos c, e]
      by_cases c2 : qb v p = true
      · rw [if_neg (fun q => (qb_t0 hp).mp q c2), ih _ _ (by omega), qb_or, hb]
        congr 2
        by_cases e3 : i = j
        · subst e3
          rw [e, rm_cl hp, c2, isNd_nI hp, decide_eq_true rfl]
          rfl
        · rw [decide_eq_false e3]
          rfl
      · rw [if_pos ((qb_t0 hp).mpr c2), ih _ _ (by omega)]
        congr 1
        by_cases e3 : i = j
        · subst e3
          rw [e, rm_cl hp, Bool.eq_false_iff.mpr c2, Bool.and_false, Bool.and_false, Bool.or_false]
        · rw [decide_eq_false e3, Bool.false_and, Bool.or_false]
    · rw [if_neg c, ih _ _ (by omega)]
      congr 1
      by_cases e3 : i = j
      · subst e3
        rw [Bool.eq_false_iff.mpr c, Bool.false_and, Bool.and_false, Bool.or_false]
      · rw [decide_eq_false e3, Bool.false_and, Bool.or_false]
theorem rm_blL_b : ∀ (r i k : Nat) (x : Int32), (∀ j, qb x j = (decide (j < 10) && rq_R (σ 11) n k j)) → ∀ j, qb (rm_blL σ r i x) j = (decide (j < 10) && rq_R (σ 11) n (k + r) j) := by
  intro r
  induction r with
  | zero => intro i k x h j; exact h j
  | succ r ih =>
    intro i k x h j
    have e : rm_blL σ (r + 1) i x = rm_blL σ r (i + 1) (x ||| rm_ch σ x) := by rw [rm_blL]
    rw [e, ih (i + 1) (k + 1) _ ?_ j, show k + 1 + r = k + (r + 1) by omega]
    intro j
    unfold rm_ch
    rw [qb_or, rm_chL_b 10 0 0 rfl j, qb_0, Bool.false_or, h j, rq_R_s]
    by_cases hj : j < 10
    · rw [decide_eq_true hj, decide_eq_true (show 0 ≤ j ∧ j < 10 by omega), Bool.true_and, Bool.true_and, Bool.true_and]
      by_cases c : isNd (σ 11 j) = true
      · obtain ⟨p, hp, e⟩ := isNd_of c
        rw [e, rm_cl hp, h p, decide_eq_true hp, Bool.true_and]
      · rw [Bool.eq_false_iff.mpr c, Bool.false_and, Bool.false_and]
    · rw [decide_eq_false hj, decide_eq_false (show ¬ (0 ≤ j ∧ j < 10) by omega), Bool.false_and, Bool.false_and, Bool.false_and]
      rfl
theorem rm_below_b (hn : n < 10) (j : Nat) : qb (rm_below σ (nI n)) j = (decide (j < 10) && rq_R (σ 11) n 9 j) := by
  unfold rm_below
  refine rm_blL_b 9 1 0 _ (fun j => ?_) j
  rw [qb_bit hn]
  show decide (n = j) = (decide (j < 10) && decide (j = n))
  by_cases e : n = j
  · subst e
    rw [decide_eq_true hn, decide_eq_true rfl]
    rfl
  · rw [decide_eq_false e, decide_eq_false (show ¬ j = n from fun q => e q.symm), Bool.and_false]
theorem rn_undL_b {S : Nat → Prop} (hok : rn_ok τ) (hS : ∀ i p, i < 10 → p < 10 → τ 7 i = nI p → S p → S i) : ∀ (r i : Nat) (x : Int32), i + r = 10 →
    (∀ j, qb x j = true → qb (rn_undL τ r i x) j = true) ∧ (∀ j p, i ≤ j → j < 10 → p < 10 → τ 7 j = nI p → qb x p = true → qb (rn_undL τ r i x) j = true) ∧ ((∀ j, qb x j = true → j < 10 ∧ S j) → ∀ j, qb (rn_undL τ r i x) j = true → j < 10 ∧ S j) := by
  intro r
  induction r with
  | zero => intro i x hi; exact ⟨fun j h => h, fun j p h1 h2 => by omega, fun h => h⟩
  | succ r ih =>
    intro i x hi
    have hi10 : i < 10 := by omega
    have e0 : ∀ j, qb (x ||| 0) j = qb x j := fun j => by rw [qb_or, qb_0, Bool.or_false]
    rcases hok i hi10 with hp | hp
    · have E : rn_undL τ (r + 1) i x = rn_undL τ r (i + 1) (x ||| 0) := by rw [rn_undL, if_pos hp]
      obtain ⟨g1, g2, g3⟩ := ih (i + 1) (x ||| 0) (by omega)
      rw [E]
      refine ⟨fun j h => g1 j (by rw [e0]; exact h), fun j p h1 h2 h3 h4 h5 => ?_, fun h => g3 (fun j hj => h j (by rw [← e0]; exact hj))⟩
      by_cases e : j = i
      · subst e
        rw [hp] at h4
        have := nI_pos (n := p) (by omega)
        rw [← h4] at this
        exact absurd (by decide) this
      · exact g2 j p (by omega) h2 h3 h4 (by rw [e0]; exact h5)
    · obtain ⟨q, hq, eq⟩ := isNd_of hp
      have hne : ¬ τ 7 i = -1 := fun z => by
        have h1 := nI_pos (n := q) (by omega)
        rw [← eq, z] at h1
        exact h1 (by decide)
      by_cases c : qb x q = true
      · have E : rn_undL τ (r + 1) i x = rn_undL τ r (i + 1) (x ||| ((1 : Int32) <<< (nI i &&& 31))) := by rw [rn_undL, if_neg hne, eq, if_pos ((qb_t1 hq).mpr c)]
        have e1 : ∀ j, qb (x ||| ((1 : Int32) <<< (nI i &&& 31))) j = (qb x j || decide (i = j)) := fun j => by rw [qb_or, qb_bit hi10]
        generalize x ||| ((1 : Int32) <<< (nI i &&& 31)) = y at E e1
        obtain ⟨g1, g2, g3⟩ := ih (i + 1) y (by omega)
        have hxy : ∀ j, qb x j = true → qb y j = true := fun j h => by rw [e1, h]; rfl
        rw [E]
        refine ⟨fun j h => g1 j (hxy j h), fun j p h1 h2 h3 h4 h5 => ?_, fun h => g3 (fun j hj => ?_)⟩
        · by_cases e : j = i
          · subst e
            exact g1 j (by rw [e1, decide_eq_true rfl, Bool.or_true])
          · exact g2 j p (by omega) h2 h3 h4 (hxy p h5)
        · rw [e1, Bool.or_eq_true] at hj
          rcases hj with hj | hj
          · exact h j hj
          · obtain rfl := of_decide_eq_true hj
            exact ⟨hi10, hS i q hi10 hq eq (h q c).2⟩
      · have E : rn_undL τ (r + 1) i x = rn_undL τ r (i + 1) (x ||| 0) := by rw [rn_undL, if_neg hne, eq, if_neg (fun z => c ((qb_t1 hq).mp z))]
        obtain ⟨g1, g2, g3⟩ := ih (i + 1) (x ||| 0) (by omega)
        rw [E]
        refine ⟨fun j h => g1 j (by rw [e0]; exact h), fun j p h1 h2 h3 h4 h5 => ?_, fun h => g3 (fun j hj => h j (by rw [← e0]; exact hj))⟩
        by_cases e : j = i
        · subst e
          rw [eq] at h4
          obtain rfl := (nI_eq (by omega) (by omega)).mp h4
          exact absurd h5 c
        · exact g2 j p (by omega) h2 h3 h4 (by rw [e0]; exact h5)
theorem rn_undO_b (hok : rn_ok τ) (hn : n < 10) : ∀ (r t k : Nat) (x : Int32), (∀ j, j < 10 → rq_R (τ 7) n k j = true → qb x j = true) → (∀ j, qb x j = true → j < 10 ∧ rq_R (τ 7) n 9 j = true) →
    (∀ j, j < 10 → rq_R (τ 7) n (k + r) j = true → qb (rn_undO τ r t x) j = true) ∧ (∀ j, qb (rn_undO τ r t x) j = true → j < 10 ∧ rq_R (τ 7) n 9 j = true) := by
  intro r
  induction r with
  | zero => intro t k x h1 h2; exact ⟨h1, h2⟩
  | succ r ih =>
    intro t k x h1 h2
    have E : rn_undO τ (r + 1) t x = rn_undO τ r (t + 1) (rn_undL τ 10 0 x) := by rw [rn_undO]
    obtain ⟨g1, g2, g3⟩ := rn_undL_b (S := fun j => rq_R (τ 7) n 9 j = true) hok (fun i p hi hp e h => rq_R_9 hn i hi (rq_R_par hp e h)) 10 0 x rfl
    rw [E, show k + (r + 1) = k + 1 + r by omega]
    refine ih (t + 1) (k + 1) _ (fun j hj h => ?_) (g3 h2)
    rcases rq_R_of h with h | ⟨p, hp, e, h⟩
    · exact g1 j (h1 j hj h)
    · exact g2 j p (by omega) hj hp e (h1 p hp h)
theorem rn_under_b (hok : rn_ok τ) (hn : n < 10) (j : Nat) : qb (rn_under τ n) j = (decide (j < 10) && rq_R (τ 7) n 9 j) := by
  obtain ⟨g1, g2⟩ := rn_undO_b hok hn 10 0 0 ((1 : Int32) <<< (nI n &&& 31)) (fun j hj h => by rw [qb_bit hn]; exact decide_eq_true (of_decide_eq_true h).symm) (fun j h => by
    rw [qb_bit hn] at h
    obtain rfl := of_decide_eq_true h
    exact ⟨hn, rq_R_le (a := 0) (by omega) (decide_eq_true rfl)⟩)
  show qb (rn_undO τ 10 0 ((1 : Int32) <<< (nI n &&& 31))) j = _
  generalize rn_undO τ 10 0 ((1 : Int32) <<< (nI n &&& 31)) = z at g1 g2 ⊢
  by_cases c : qb z j = true
  · obtain ⟨h1, h2⟩ := g2 j c
    rw [c, decide_eq_true h1, h2]
    rfl
  · rw [Bool.eq_false_iff.mpr c]
    by_cases hj : j < 10
    · by_cases c2 : rq_R (τ 7) n 9 j = true
      · exact absurd (g1 j hj (rq_R_le (a := 9) (by omega) c2)) c
      · rw [Bool.eq_false_iff.mpr c2, Bool.and_false]
    · rw [decide_eq_false hj, Bool.false_and]
theorem rq_par (h : rq σ τ) : ∀ i, i < 10 → σ 11 i = τ 7 i := fun i hi => (h.2.1 i hi).1.2.2.2.2.2.1
theorem rq_g_below : rw_g_below rq := fun σ τ h p0 => rq_get1 h p0 _ _ (fun j hj e => by
  subst e
  have ht : rq σ (rm_up τ 0 20 0) := rq_thr h
  unfold rn_below
  rw [if_pos (isNd_nI hj), rm_cl hj]
  refine qb_ext (fun i _ => ?_)
  rw [rm_below_b hj, rn_under_b (rq_okn ht) hj]
  by_cases hi : i < 10
  · rw [rq_R_cg (rq_par ht) 9 i hi]
  · rw [decide_eq_false hi, Bool.false_and, Bool.false_and])
end RQX

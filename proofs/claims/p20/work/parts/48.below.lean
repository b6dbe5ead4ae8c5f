/-! bits of an Int32 (began as rows of laws/BITS.to-paste); the nodes below a node -/
def qb (x : Int32) (i : Nat) : Bool := x.toBitVec.getLsbD i
theorem qb_ext {x y : Int32} (h : ∀ i, i < 32 → qb x i = qb y i) : x = y := Int32.toBitVec_inj.mp (BitVec.eq_of_getLsbD_eq (fun i hi => h i hi))
theorem qb_or (x y : Int32) (i : Nat) : qb (x ||| y) i = (qb x i || qb y i) := by unfold qb; rw [Int32.toBitVec_or, BitVec.getLsbD_or]
theorem qb_and (x y : Int32) (i : Nat) : qb (x &&& y) i = (qb x i && qb y i) := by unfold qb; rw [Int32.toBitVec_and, BitVec.getLsbD_and]
theorem qb_0 (i : Nat) : qb 0 i = false := BitVec.getLsbD_zero
theorem qb_sl : ∀ n, n < 32 → ((nI n &&& 31).toBitVec.smod 32).toNat = n := by decide +kernel
theorem qb_sshr (n : Nat) (hn : n < 32) (x : Int32) : qb (x >>> (nI n &&& 31)) 0 = qb x n := by
  unfold qb
  rw [Int32.toBitVec_shiftRight]
  show (x.toBitVec.sshiftRight ((nI n &&& 31).toBitVec.smod 32).toNat).getLsbD 0 = _
  rw [qb_sl n hn, BitVec.getLsbD_sshiftRight]
  simp [hn]
theorem qb_one : ∀ i, i < 32 → qb 1 i = decide (i = 0) := by decide +kernel
theorem qb_and1 (x : Int32) : x &&& 1 = if qb x 0 = true then 1 else 0 := by
  refine qb_ext (fun i hi => ?_)
  rw [qb_and, qb_one i hi]
  by_cases e : i = 0
  · subst e
    by_cases c : qb x 0 = true
    · rw [if_pos c, c]; rfl
    · rw [if_neg c, qb_0, Bool.eq_false_iff.mpr c]; rfl
  · rw [decide_eq_false e, Bool.and_false]
    by_cases c : qb x 0 = true
    · rw [if_pos c, qb_one i hi, decide_eq_false e]
    · rw [if_neg c, qb_0]
theorem qb_t {x : Int32} {n : Nat} (hn : n < 10) : (x >>> (nI n &&& 31)) &&& 1 = if qb x n = true then 1 else 0 := by
  rw [qb_and1, qb_sshr n (by omega)]
theorem qb_t0 {x : Int32} {n : Nat} (hn : n < 10) : (x >>> (nI n &&& 31)) &&& 1 = 0 ↔ ¬ qb x n = true := by
  rw [qb_t hn]
  by_cases c : qb x n = true
  · rw [if_pos c]; exact ⟨fun q => absurd q (by decide), fun q => absurd c q⟩
  · rw [if_neg c]; exact ⟨fun _ => c, fun _ => rfl⟩
theorem qb_t1 {x : Int32} {n : Nat} (hn : n < 10) : (x >>> (nI n &&& 31)) &&& 1 = 1 ↔ qb x n = true := by
  rw [qb_t hn]
  by_cases c : qb x n = true
  · rw [if_pos c]; exact ⟨fun _ => c, fun _ => rfl⟩
  · rw [if_neg c]; exact ⟨fun q => absurd q (by decide), fun q => absurd q c⟩
theorem qb_bit0 : ∀ n, n < 10 → ∀ j, j < 32 → qb ((1 : Int32) <<< (nI n &&& 31)) j = decide (n = j) := by decide +kernel
theorem qb_big {x : Int32} {i : Nat} (h : 32 ≤ i) : qb x i = false := BitVec.getLsbD_of_ge _ _ h
theorem qb_bit {n : Nat} (hn : n < 10) (j : Nat) : qb ((1 : Int32) <<< (nI n &&& 31)) j = decide (n = j) := by
  by_cases h : j < 32
  · exact qb_bit0 n hn j h
  · rw [qb_big (by omega), decide_eq_false (by omega)]
/-- i comes to n by at most k parents -/
def rq_R (f : Nat → Int32) (n : Nat) : Nat → Nat → Bool
  | 0, i => decide (i = n)
  | k + 1, i => rq_R f n k i || (isNd (f i) && rq_R f n k (f i).toNatClampNeg)
section RQW
variable {f g : Nat → Int32} {n i k : Nat}
theorem rq_R_s : rq_R f n (k + 1) i = (rq_R f n k i || (isNd (f i) && rq_R f n k (f i).toNatClampNeg)) := rfl
theorem rq_R_up (h : rq_R f n k i = true) : rq_R f n (k + 1) i = true := by rw [rq_R_s, h]; rfl
theorem rq_R_par {p : Nat} (hp : p < 10) (e : f i = nI p) (h : rq_R f n k p = true) : rq_R f n (k + 1) i = true := by
  rw [rq_R_s, e, rm_cl hp, h, isNd_nI hp]
  simp
theorem rq_R_of (h : rq_R f n (k + 1) i = true) : rq_R f n k i = true ∨ ∃ p, p < 10 ∧ f i = nI p ∧ rq_R f n k p = true := by
  rw [rq_R_s, Bool.or_eq_true, Bool.and_eq_true] at h
  rcases h with h | ⟨h1, h2⟩
  · exact Or.inl h
  · obtain ⟨p, hp, e⟩ := isNd_of h1
    rw [e, rm_cl hp] at h2
    exact Or.inr ⟨p, hp, e, h2⟩
theorem rq_R_cg (h : ∀ i, i < 10 → f i = g i) : ∀ (k i : Nat), i < 10 → rq_R f n k i = rq_R g n k i := by
  intro k
  induction k with
  | zero => intro i _; rfl
  | succ k ih =>
    intro i hi
    rw [rq_R_s, rq_R_s, ih i hi, h i hi]
    by_cases c : isNd (g i) = true
    · obtain ⟨p, hp, e⟩ := isNd_of c
      rw [e, rm_cl hp, ih p hp]
    · rw [Bool.eq_false_iff.mpr c, Bool.false_and, Bool.false_and]
theorem rq_R_grow (hn : n < 10) : ∀ k, (∀ i, i < 10 → rq_R f n (k + 1) i = true → rq_R f n k i = true) ∨ k + 1 ≤ rq_cnt (rq_R f n k) 10 := by
  intro k
  induction k with
  | zero => exact Or.inr (rq_cnt_pos hn (decide_eq_true rfl))
  | succ k ih =>
    have cl : (∀ i, i < 10 → rq_R f n (k + 1) i = true → rq_R f n k i = true) → ∀ i, i < 10 → rq_R f n (k + 1 + 1) i = true → rq_R f n (k + 1) i = true := by
      intro hc i hi h
      rcases rq_R_of h with h | ⟨p, hp, e, h⟩
      · exact h
      · exact rq_R_par hp e (hc p hp h)
    rcases ih with ih | ih
    · exact Or.inl (cl ih)
    · by_cases hc : ∀ i, i < 10 → rq_R f n (k + 1) i = true → rq_R f n k i = true
      · exact Or.inl (cl hc)
      · have hex : ∃ i, i < 10 ∧ rq_R f n (k + 1) i = true ∧ ¬ rq_R f n k i = true := Classical.byContradiction (fun q => hc (fun i hi h => Classical.byContradiction (fun q2 => q ⟨i, hi, h, q2⟩)))
        have hlt := rq_cnt_lt (p := rq_R f n k) (q := rq_R f n (k + 1)) 10 (fun i _ h => rq_R_up h) hex
        exact Or.inr (by omega)
theorem rq_R_9 (hn : n < 10) : ∀ i, i < 10 → rq_R f n 10 i = true → rq_R f n 9 i = true := by
  rcases rq_R_grow (f := f) hn 9 with h | h
  · exact h
  · exact fun i hi _ => rq_cnt_full 10 h i hi
theorem rq_R_le {a b : Nat} (hab : a ≤ b) (h : rq_R f n a i = true) : rq_R f n b i = true := by
  induction b with
  | zero =>
    obtain rfl : a = 0 := by omega
    exact h
  | succ b ih =>
    by_cases e : a = b + 1
    · subst e; exact h
    · exact rq_R_up (ih (by omega))
end RQW
section RQX
variable {σ τ : rm_St} {n o k : Nat}
theorem rm_chL_b {v : Int32} : ∀ (r i : Nat) (x : Int32), i + r = 10 → ∀ j, qb (rm_chL σ v r i x) j = (qb x j || (decide (i ≤ j ∧ j < 10) && (isNd (σ 11 j) && qb v (σ 11 j).toNatClampNeg))) := by
  intro r
  induction r with
  | zero =>
    intro i x hi j
    rw [rm_chL, decide_eq_false (by omega), Bool.false_and, Bool.or_false]
  | succ r ih =>
    intro i x hi j
    have hb := qb_bit (n := i) (by omega) j
    have hd : ∀ X : Bool, (decide (i ≤ j ∧ j < 10) && X) = ((decide (i = j) && X) || (decide (i + 1 ≤ j ∧ j < 10) && X)) := fun X => by
      by_cases e : i = j
      · rw [decide_eq_true (show i ≤ j ∧ j < 10 by omega), decide_eq_true e, decide_eq_false (show ¬ (i + 1 ≤ j ∧ j < 10) by omega)]
        cases X <;> rfl
      · rw [decide_eq_false e]
        by_cases e2 : i + 1 ≤ j ∧ j < 10
        · rw [decide_eq_true (show i ≤ j ∧ j < 10 by omega), decide_eq_true e2]
          cases X <;> rfl
        · rw [decide_eq_false (show ¬ (i ≤ j ∧ j < 10) by omega), decide_eq_false e2]
          cases X <;> rfl
    rw [hd, ← Bool.or_assoc]
    unfold rm_chL
    by_cases c : isNd (σ 11 i) = true
    · obtain ⟨p, hp, e⟩ := isNd_of c
      rw [if_pos c, e]
      by_cases c2 : qb v p = true
      · rw [if_neg (fun q => (qb_t0 hp).mp q c2), ih _ _ (by omega), qb_or, hb]
        congr 2
        by_cases e3 : i = j
        · subst e3
          rw [e, rm_cl hp, c2, isNd_nI hp, decide_eq_true rfl]
          rfl
        · rw [decide_eq_false e3]
          rfl
      · rw [if_pos ((qb_t0 hp).mpr c2), ih _ _ (by omega)]
        congr 1
        by_cases e3 : i = j
        · subst e3
          rw [e, rm_cl hp, Bool.eq_false_iff.mpr c2, Bool.and_false, Bool.and_false, Bool.or_false]
        · rw [decide_eq_false e3, Bool.false_and, Bool.or_false]
    · rw [if_neg c, ih _ _ (by omega)]
      congr 1
      by_cases e3 : i = j
      · subst e3
        rw [Bool.eq_false_iff.mpr c, Bool.false_and, Bool.and_false, Bool.or_false]
      · rw [decide_eq_false e3, Bool.false_and, Bool.or_false]
theorem rm_blL_b : ∀ (r i k : Nat) (x : Int32), (∀ j, qb x j = (decide (j < 10) && rq_R (σ 11) n k j)) → ∀ j, qb (rm_blL σ r i x) j = (decide (j < 10) && rq_R (σ 11) n (k + r) j) := by
  intro r
  induction r with
  | zero => intro i k x h j; exact h j
  | succ r ih =>
    intro i k x h j
    have e : rm_blL σ (r + 1) i x = rm_blL σ r (i + 1) (x ||| rm_ch σ x) := by rw [rm_blL]
    rw [e, ih (i + 1) (k + 1) _ ?_ j, show k + 1 + r = k + (r + 1) by omega]
    intro j
    unfold rm_ch
    rw [qb_or, rm_chL_b 10 0 0 rfl j, qb_0, Bool.false_or, h j, rq_R_s]
    by_cases hj : j < 10
    · rw [decide_eq_true hj, decide_eq_true (show 0 ≤ j ∧ j < 10 by omega), Bool.true_and, Bool.true_and, Bool.true_and]
      by_cases c : isNd (σ 11 j) = true
      · obtain ⟨p, hp, e⟩ := isNd_of c
        rw [e, rm_cl hp, h p, decide_eq_true hp, Bool.true_and]
      · rw [Bool.eq_false_iff.mpr c, Bool.false_and, Bool.false_and]
    · rw [decide_eq_false hj, decide_eq_false (show ¬ (0 ≤ j ∧ j < 10) by omega), Bool.false_and, Bool.false_and, Bool.false_and]
      rfl
theorem rm_below_b (hn : n < 10) (j : Nat) : qb (rm_below σ (nI n)) j = (decide (j < 10) && rq_R (σ 11) n 9 j) := by
  unfold rm_below
  refine rm_blL_b 9 1 0 _ (fun j => ?_) j
  rw [qb_bit hn]
  show decide (n = j) = (decide (j < 10) && decide (j = n))
  by_cases e : n = j
  · subst e
    rw [decide_eq_true hn, decide_eq_true rfl]
    rfl
  · rw [decide_eq_false e, decide_eq_false (show ¬ j = n from fun q => e q.symm), Bool.and_false]
theorem qb_nat {x : Int32} (h : ∀ i, 10 ≤ i → qb x i = false) {n : Nat} (hn : qb x n = true) : ∃ j : Nat, 0 < j ∧ j < 1024 ∧ x = nI j := by
  have h1 : x.toBitVec.toNat < 2 ^ 10 := Nat.lt_pow_two_of_testBit _ (fun i hi => h i hi)
  have h0 : x.toBitVec.toNat ≠ 0 := fun q => by
    have h2 : x.toBitVec.toNat.testBit n = true := hn
    rw [q, Nat.zero_testBit] at h2
    cases h2
  refine ⟨x.toBitVec.toNat, Nat.pos_of_ne_zero h0, h1, ?_⟩
  apply Int32.toBitVec_inj.mp
  show _ = BitVec.ofNat 32 _
  rw [BitVec.ofNat_toNat, BitVec.setWidth_eq]
theorem iv_below_nat (hn : n < 10) : ∃ j : Nat, 0 < j ∧ j < 1024 ∧ rm_below σ (nI n) = nI j := by
  refine qb_nat (fun i hi => ?_) (n := n) ?_
  · rw [rm_below_b hn, decide_eq_false (by omega), Bool.false_and]
  · rw [rm_below_b hn, decide_eq_true hn, rq_R_le (a := 0) (by omega) (decide_eq_true rfl)]
    rfl
theorem iv_bit (hn : n < 10) (hk : k < 10) : (rm_below σ (nI n) >>> (nI k &&& 31)) &&& 1 = if rq_R (σ 11) n 9 k = true then 1 else 0 := by
  rw [qb_t hk, rm_below_b hn, decide_eq_true hk, Bool.true_and]
theorem rq_R_pred {f : Nat → Int32} : ∀ K k, k ≠ n → rq_R f n K k = true → ∃ p K', K' < K ∧ p < 10 ∧ f k = nI p ∧ rq_R f n K' p = true := by
  intro K
  induction K with
  | zero => intro k hk h; exact absurd (of_decide_eq_true h) hk
  | succ K ih =>
    intro k hk h
    rcases rq_R_of h with h | ⟨p, hp, e, h⟩
    · obtain ⟨p, K', h1, h2⟩ := ih k hk h
      exact ⟨p, K', by omega, h2⟩
    · exact ⟨p, K, by omega, hp, e, h⟩
theorem iv_R_step {f : Nat → Int32} (hn : n < 10) (hk : k < 10) (hkn : k ≠ n) : rq_R f n 9 k = true ↔ ∃ p, p < 10 ∧ f k = nI p ∧ rq_R f n 9 p = true := by
  constructor
  · intro h
    obtain ⟨p, K', h1, h2, h3, h4⟩ := rq_R_pred 9 k hkn h
    exact ⟨p, h2, h3, rq_R_le (by omega) h4⟩
  · intro ⟨p, h1, h2, h3⟩
    exact rq_R_9 hn k hk (rq_R_par h1 h2 h3)
theorem iv_dn_some (hn : n < 10) : ∀ (K o : Nat), o < 10 → o ≠ n → rq_R (σ 11) n K o = true → ∀ (r i : Nat), K ≤ r → ∃ d, d < 10 ∧ rm_dnL σ (nI n) r i (nI o) = some (nI d) ∧ σ 11 d = nI n ∧ rq_R (σ 11) d K o = true := by
  intro K
  induction K with
  | zero => intro o ho hne hR; exact absurd (of_decide_eq_true hR) hne
  | succ K ih =>
    intro o ho hne hR r i hr
    rcases rq_R_of hR with hR | ⟨p, hp, e, hR⟩
    · obtain ⟨d, h1, h2, h3, h4⟩ := ih o ho hne hR r i (by omega)
      exact ⟨d, h1, h2, h3, rq_R_up h4⟩
    · obtain ⟨r, rfl⟩ : ∃ r', r = r' + 1 := ⟨r - 1, by omega⟩
      rw [rm_dnL, if_pos (isNd_nI ho), rm_cl ho]
      by_cases c : p = n
      · rw [c] at e
        rw [if_pos e]
        exact ⟨o, ho, rfl, e, rq_R_le (a := 0) (by omega) (decide_eq_true rfl)⟩
      · have hne2 : ¬ nI p = nI n := fun q => c ((nI_eq (by omega) (by omega)).mp q)
        rw [e, if_neg hne2]
        obtain ⟨d, h1, h2, h3, h4⟩ := ih p hp c hR r (i + 1) (by omega)
        exact ⟨d, h1, h2, h3, rq_R_par hp e h4⟩
theorem rm_dnL_m {f : Int32} : ∀ (r i : Nat), rm_dnL σ f r i (-1) = none := by
  intro r i
  cases r with
  | zero => rfl
  | succ r => rw [rm_dnL, if_neg (by decide)]
theorem iv_dn_none (hN : iv_N σ) (hn : n < 10) : ∀ (r i o : Nat), o < 10 → ¬ rm_dnL σ (nI n) r i (nI o) = none → rq_R (σ 11) n r o = true := by
  intro r
  induction r with
  | zero => intro i o _ hq; exact absurd rfl hq
  | succ r ih =>
    intro i o ho hq
    rw [rm_dnL, if_pos (isNd_nI ho), rm_cl ho] at hq
    by_cases c : σ 11 o = nI n
    · exact rq_R_le (a := 1) (by omega) (rq_R_par (k := 0) hn c (decide_eq_true rfl))
    · rw [if_neg c] at hq
      rcases hN o ho with g | g | ⟨-, p, hp, ep, -⟩
      · rw [g.2.2.2.2.1, rm_dnL_m] at hq; exact absurd rfl hq
      · rw [g.2.2, rm_dnL_m] at hq; exact absurd rfl hq
      · rw [ep] at hq
        exact rq_R_par hp ep (ih (i + 1) p hp hq)
/-- down, as the law asks it -/
theorem iv_down (hN : iv_N σ) (hn : n < 10) (ho : o < 10) : (o = n ∨ ¬ rq_R (σ 11) n 9 o = true → rm_tDown σ (nI n) (nI o) = some rm_IS) ∧
    (o ≠ n → rq_R (σ 11) n 9 o = true → rm_tDown σ (nI n) (nI o) = none ∧ ∃ d, d < 10 ∧ (rm_dnL σ (nI n) 10 0 (nI o)).getD 0 = nI d ∧ σ 11 d = nI n ∧ rq_R (σ 11) d 9 o = true) := by
  have t0 : rm_tN (nI n) = none := if_pos (isNd_nI hn)
  have t1 : rm_tN (nI o) = none := if_pos (isNd_nI ho)
  have ht : rm_tDown σ (nI n) (nI o) = if nI n = nI o then some rm_IS else if rm_dnL σ (nI n) 10 0 (nI o) = none then some rm_IS else none := by
    unfold rm_tDown
    rw [t0, t1]
    rfl
  rw [ht]
  refine ⟨fun h => ?_, fun h1 h2 => ?_⟩
  · by_cases e : o = n
    · subst e; rw [if_pos rfl]
    · rw [if_neg (fun q => e ((nI_eq (by omega) (by omega)).mp q).symm)]
      have h := h.resolve_left e
      rw [if_pos]
      exact Classical.byContradiction (fun q => h (rq_R_9 hn o ho (iv_dn_none hN hn 10 0 o ho q)))
  · obtain ⟨d, g1, g2, g3, g4⟩ := iv_dn_some hn 9 o ho h1 h2 10 0 (by omega)
    rw [if_neg (fun q => h1 ((nI_eq (by omega) (by omega)).mp q).symm), if_neg (by rw [g2]; exact fun q => by cases q)]
    exact ⟨rfl, d, g1, by rw [g2]; rfl, g3, g4⟩
end RQX
/-! packets up -/
section IVU
variable {σ : rm_St} {n o k : Nat}
def iv_less (σ : rm_St) (k : Nat) : Nat := rq_cnt (fun i => decide (σ 9 i < σ 9 k)) 10
theorem iv_less_lt {o k : Nat} (ho : o < 10) (c : σ 9 o < σ 9 k) : iv_less σ o < iv_less σ k := by
  refine rq_cnt_lt 10 (fun i _ q => ?_) ⟨o, ho, decide_eq_true c, fun q => ?_⟩
  · have q := of_decide_eq_true q
    refine decide_eq_true ?_
    rw [Int32.lt_iff_toInt_lt] at q c ⊢
    omega
  · have q := of_decide_eq_true q
    rw [Int32.lt_iff_toInt_lt] at q
    omega
theorem iv_less_9 {o : Nat} (ho : o < 10) : iv_less σ o < 10 := by
  have h1 := rq_cnt_le (p := fun _ => true) 10
  have h2 := rq_cnt_lt (p := fun i => decide (σ 9 i < σ 9 o)) (q := fun _ => true) 10 (fun i _ _ => rfl) ⟨o, ho, rfl, fun q => by
    have q := of_decide_eq_true q
    rw [Int32.lt_iff_toInt_lt] at q
    omega⟩
  unfold iv_less
  omega
/-- the way up ends within r steps -/
def iv_uOK (σ : rm_St) : Nat → Nat → Bool → Prop
  | 0, _, _ => False
  | r + 1, k, w => σ 5 k = 0 → ∀ p, p < 10 → σ 11 k = nI p → (σ 9 p < σ 9 k → iv_uOK σ r p w) ∧ (¬ σ 9 p < σ 9 k → w = false → iv_uOK σ r p true)
theorem iv_uOK_of : ∀ (r k : Nat) (w : Bool), k < 10 → (w = false ∧ iv_less σ k + 10 < r ∨ w = true ∧ iv_less σ k < r) → iv_uOK σ r k w := by
  intro r
  induction r with
  | zero => intro k w hk h; omega
  | succ r ih =>
    intro k w hk h h5 p hp ep
    refine ⟨fun c => ?_, fun c hw => ?_⟩
    · have hlt := iv_less_lt hp c
      refine ih p w hp ?_
      rcases h with ⟨h, h0⟩ | ⟨h, h0⟩
      · exact Or.inl ⟨h, by omega⟩
      · exact Or.inr ⟨h, by omega⟩
    · have h9 := iv_less_9 (σ := σ) hp
      rcases h with ⟨h, h0⟩ | ⟨h, h0⟩
      · exact ih p true hp (Or.inr ⟨rfl, by omega⟩)
      · rw [hw] at h; cases h
theorem iv_uOK21 (hk : k < 10) : iv_uOK σ 21 k false := iv_uOK_of 21 k false hk (Or.inl ⟨rfl, by have := iv_less_9 (σ := σ) hk; omega⟩)
end IVU

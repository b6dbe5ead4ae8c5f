/-! counting over the nodes; telling and ticks -/
def rq_cnt (p : Nat → Bool) : Nat → Nat
  | 0 => 0
  | r + 1 => rq_cnt p r + (if p r = true then 1 else 0)
theorem rq_cnt_s {p : Nat → Bool} {r : Nat} : rq_cnt p (r + 1) = rq_cnt p r + (if p r = true then 1 else 0) := rfl
theorem rq_cnt_le {p : Nat → Bool} : ∀ r, rq_cnt p r ≤ r := by
  intro r
  induction r with
  | zero => exact Nat.le_refl _
  | succ r ih =>
    rw [rq_cnt_s]
    by_cases c : p r = true
    · rw [if_pos c]; omega
    · rw [if_neg c]; omega
theorem rq_cnt_mono {p q : Nat → Bool} : ∀ r, (∀ i, i < r → p i = true → q i = true) → rq_cnt p r ≤ rq_cnt q r := by
  intro r
  induction r with
  | zero => intro _; exact Nat.le_refl _
  | succ r ih =>
    intro h
    have h1 := ih (fun i hi => h i (by omega))
    have h2 := h r (by omega)
    rw [rq_cnt_s, rq_cnt_s]
    by_cases c : p r = true
    · rw [if_pos c, if_pos (h2 c)]; omega
    · rw [if_neg c]; omega
theorem rq_cnt_lt {p q : Nat → Bool} : ∀ r, (∀ i, i < r → p i = true → q i = true) → (∃ i, i < r ∧ q i = true ∧ ¬ p i = true) → rq_cnt p r < rq_cnt q r := by
  intro r
  induction r with
  | zero => intro _ ⟨i, hi, _⟩; omega
  | succ r ih =>
    intro h ⟨i, hi, h1, h2⟩
    have hm := rq_cnt_mono r (fun i hi => h i (by omega))
    rw [rq_cnt_s, rq_cnt_s]
    by_cases e : i = r
    · subst e
      rw [if_neg h2, if_pos h1]; omega
    · have h4 := ih (fun i hi => h i (by omega)) ⟨i, by omega, h1, h2⟩
      have h3 := h r (by omega)
      by_cases c : p r = true
      · rw [if_pos c, if_pos (h3 c)]; omega
      · rw [if_neg c]; omega
theorem rq_cnt_full {p : Nat → Bool} : ∀ r, r ≤ rq_cnt p r → ∀ i, i < r → p i = true := by
  intro r
  induction r with
  | zero => intro _ i hi; omega
  | succ r ih =>
    intro h i hi
    have h1 := rq_cnt_le (p := p) r
    rw [rq_cnt_s] at h
    by_cases c : p r = true
    · rw [if_pos c] at h
      by_cases e : i = r
      · subst e; exact c
      · exact ih (by omega) i (by omega)
    · rw [if_neg c] at h
      omega
theorem rq_cnt_pos {p : Nat → Bool} {r i : Nat} (hi : i < r) (h : p i = true) : 1 ≤ rq_cnt p r := by
  have h1 := rq_cnt_lt (p := fun _ => false) (q := p) r (fun i _ q => by cases q) ⟨i, hi, h, by decide⟩
  omega
def iv_F (q : Nat) : Prop := q < 7 ∨ (13 < q ∧ q < 25)
/-- what a telling of t may change -/
def iv_tl (t : Nat) (σ σ' : rm_St) : Prop := (∀ q j, iv_F q → σ' q j = σ q j) ∧ (∀ k o, k < 10 → o ≠ t → σ' (45 + k) o = σ (45 + k) o) ∧ (∀ j, j < 10 → (σ' 12 j = σ 12 j ∧ σ' 13 j = σ 13 j) ∨ (σ' 12 j = σ 0 2 ∧ σ' 13 j = σ 0 4 + σ 0 2)) ∧ ∀ q, q < 14 → σ' q t = σ q t
def iv_I (σ : rm_St) (j : Nat) : Prop := 1 ≤ (σ 12 j).toInt ∧ (σ 12 j).toInt ≤ 512
def iv_T (σ : rm_St) (i : Nat) : Prop := ∀ j, j < 10 → iv_I σ j ∧ (j < i → (σ 0 4).toInt < (σ 13 j).toInt) ∧ (i ≤ j → (σ 0 4).toInt ≤ (σ 13 j).toInt)
section IV2
variable {σ σ' σ1 σ2 τ : rm_St} {n o t i : Nat}
theorem iv_hear_v : (∀ q j, (j ≠ t ∨ (q ≠ 25 + i ∧ q ≠ 35 + i ∧ q ≠ 45 + i)) → rm_hear σ t i q j = σ q j) ∧ rm_hear σ t i (25 + i) t = σ 7 t ∧ (i < 10 → rm_hear σ t i (35 + i) t = σ 8 t) ∧ (i < 10 → rm_hear σ t i (45 + i) t = σ 9 t) := by
  refine ⟨fun q j h => ?_, ?_, fun hi => ?_, fun hi => ?_⟩
  · unfold rm_hear
    rcases h with h | h
    · rw [rm_up_j h, rm_up_j h, rm_up_j h]
    · rw [rm_up_k h.2.2, rm_up_k h.2.1, rm_up_k h.1]
  · unfold rm_hear
    rw [rm_up_k (by omega), rm_up_k (by omega), rm_up_s]
  · unfold rm_hear
    rw [rm_up_k (by omega), rm_up_s, rm_up_k (by omega)]
  · unfold rm_hear
    rw [rm_up_s, rm_up_k (by omega), rm_up_k (by omega)]
theorem iv_hear (hM : iv_M σ) (hN : iv_N σ) (ht : t < 10) (hi : i < 10) (hc : 0 < (σ (15 + t) i).toInt) : iv_M (rm_hear σ t i) ∧ (∀ m, m < 10 → m ≠ i → iv_p (rm_hear σ t i) m) ∧ iv_q (rm_hear σ t i) i := by
  obtain ⟨a0, a1, a2, a3⟩ := iv_hear_v (σ := σ) (t := t) (i := i)
  have a2 := a2 hi
  have a3 := a3 hi
  have h6 : ∀ r, r < 10 → (σ 6 r).toInt ≤ (rm_hear σ t i 6 r).toInt := fun r _ => by rw [a0 6 r (by omega)]; exact Int.le_refl _
  have hsym : σ (15 + i) t = σ (15 + t) i := (hM.2.1 i t hi ht).2.2
  refine ⟨⟨iv_cg_f (fun j => a0 0 j (by omega)) hM.1, fun a b ha hb => iv_cg_c (a0 _ _ (by omega)) (a0 _ _ (by omega)) (hM.2.1 a b ha hb), fun a b ha hb => ?_⟩, fun m hm hne => ?_, ?_⟩
  · by_cases e : a = i ∧ b = t
    · obtain ⟨rfl, rfl⟩ := e
      refine Or.inr ⟨?_, ?_, ?_⟩
      · rw [a0 _ _ (by omega), hsym]; exact hc
      · rw [a3]
        rcases hN b hb with g | g | ⟨-, -, -, -, g1, g2, -⟩
        · rw [g.2.2.2.1]; decide
        · rw [g.2.1]; decide
        · omega
      · rw [a1, a2, a3]
        intro q
        rcases hN b hb with g | g | ⟨-, p, hp, -, -, -, -, -, g⟩
        · exact ⟨b, hb, g.2.1, by rw [g.2.2.1]; exact g.2.2.2.2.2, by rw [g.2.2.1]; exact h6 b hb⟩
        · rw [g.2.1] at q; exact absurd q (by decide)
        · exact iv_ok_mono h6 g
    · exact iv_cg_h (a0 _ _ (by omega)) (a0 _ _ (by omega)) (a0 _ _ (by omega)) (a0 _ _ (by omega)) h6 (hM.2.2 a b ha hb)
  · exact iv_cg_p (fun q _ => a0 _ _ (by omega)) (fun p _ => a0 _ _ (by omega)) (fun p _ => a0 _ _ (by omega)) h6 (a0 _ _ (by omega)) (hN m hm)
  · rcases iv_p_q (hN i hi) with g | g
    · exact Or.inl (by rw [a0 _ _ (by omega)]; exact g)
    · exact Or.inr (iv_cg_r (fun q _ => a0 _ _ (by omega)) g)
theorem iv_tl_rf : iv_tl t σ σ := ⟨fun _ _ _ => rfl, fun _ _ _ _ => rfl, fun _ _ => Or.inl ⟨rfl, rfl⟩, fun _ _ => rfl⟩
theorem iv_tl_tr (h1 : iv_tl t σ σ1) (h2 : iv_tl t σ1 σ2) : iv_tl t σ σ2 := by
  obtain ⟨p1, p2, p3, p4⟩ := h1
  obtain ⟨q1, q2, q3, q4⟩ := h2
  refine ⟨fun q j h => by rw [q1 q j h, p1 q j h], fun k o hk h => by rw [q2 k o hk h, p2 k o hk h], fun j hj => ?_, fun q h => by rw [q4 q h, p4 q h]⟩
  have e2 : σ1 0 2 = σ 0 2 := p1 0 2 (Or.inl (by omega))
  have e4 : σ1 0 4 = σ 0 4 := p1 0 4 (Or.inl (by omega))
  rcases q3 j hj with ⟨g1, g2⟩ | ⟨g1, g2⟩
  · rw [g1, g2]; exact p3 j hj
  · rw [g1, g2, e2, e4]; exact Or.inr ⟨rfl, rfl⟩
theorem iv_tell1 (hM : iv_M σ) (hN : iv_N σ) (ht : t < 10) (hi : i < 10) (hc : 0 < (σ (15 + t) i).toInt) : iv_M (rm_choose (rm_hear σ t i) i) ∧ iv_N (rm_choose (rm_hear σ t i) i) ∧ iv_tl t σ (rm_choose (rm_hear σ t i) i) ∧ (∀ k, k < 10 → k ≠ i → rm_choose (rm_hear σ t i) i (45 + k) t = σ (45 + k) t) ∧ rm_choose (rm_hear σ t i) i (45 + i) t = σ 9 t := by
  obtain ⟨a0, a1, a2, a3⟩ := iv_hear_v (σ := σ) (t := t) (i := i)
  obtain ⟨b1, b2, b3⟩ := iv_hear hM hN ht hi hc
  obtain ⟨c1, c2⟩ := iv_choose b1 hi b3
  have hne : t ≠ i := fun e => by
    have h := (hM.2.1 t i ht hi).2.1 e
    rw [h] at hc
    exact absurd hc (by decide)
  have a3 := a3 hi
  generalize rm_hear σ t i = ρ at *
  generalize rm_choose ρ i = π at *
  refine ⟨iv_ch_M c1 b1, fun m hm => ?_, ⟨fun q j h => ?_, fun k o hk h => ?_, fun j hj => ?_, fun q h => ?_⟩, fun k hk hki => ?_, ?_⟩
  · by_cases e : m = i
    · subst e; exact c2
    · exact iv_ch_p c1 e (b2 m hm e)
  · unfold iv_F at h
    rw [c1.1 q j (by omega), a0 q j (by omega)]
  · rw [c1.1 _ _ (by omega), a0 _ _ (by omega)]
  · by_cases e : j = i
    · subst e
      rcases c1.2 with ⟨g1, g2⟩ | ⟨g1, g2⟩
      · rw [g1, g2, a0 12 j (by omega), a0 13 j (by omega)]; exact Or.inl ⟨rfl, rfl⟩
      · rw [g1, g2, a0 0 2 (by omega), a0 0 4 (by omega)]; exact Or.inr ⟨rfl, rfl⟩
    · rw [c1.1 12 j (by omega), c1.1 13 j (by omega), a0 12 j (by omega), a0 13 j (by omega)]; exact Or.inl ⟨rfl, rfl⟩
  · rw [c1.1 q t (by omega), a0 q t (by omega)]
  · rw [c1.1 _ _ (by omega), a0 _ _ (by omega)]
  · rw [c1.1 _ _ (by omega), a3]
theorem iv_tellL (ht : t < 10) : ∀ (r i : Nat) (σ : rm_St), i + r = 10 → iv_M σ → iv_N σ → iv_M (rm_tellL t r i σ) ∧ iv_N (rm_tellL t r i σ) ∧ iv_tl t σ (rm_tellL t r i σ) ∧ (∀ k, k < 10 → k < i → rm_tellL t r i σ (45 + k) t = σ (45 + k) t) ∧ ∀ k, i ≤ k → k < 10 → 0 < (σ (15 + t) k).toInt → rm_tellL t r i σ (45 + k) t = σ 9 t := by
  intro r
  induction r with
  | zero => intro i σ hi hM hN; exact ⟨hM, hN, iv_tl_rf, fun _ _ _ => rfl, fun k h1 h2 => by omega⟩
  | succ r ih =>
    intro i σ hi hM hN
    rw [rm_tellL]
    by_cases c : σ (15 + t) i ≤ 0
    · rw [if_pos c]
      obtain ⟨g1, g2, g3, g4, g5⟩ := ih (i + 1) σ (by omega) hM hN
      refine ⟨g1, g2, g3, fun k hk h => g4 k hk (by omega), fun k h1 h2 h3 => g5 k ?_ h2 h3⟩
      by_cases e : k = i
      · subst e
        rw [Int32.le_iff_toInt_le, Int32.toInt_zero] at c
        omega
      · omega
    · rw [if_neg c]
      rw [Int32.le_iff_toInt_le, Int32.toInt_zero] at c
      obtain ⟨d1, d2, d3, d4, d5⟩ := iv_tell1 (i := i) hM hN ht (by omega) (by omega)
      generalize rm_choose (rm_hear σ t i) i = ρ at *
      obtain ⟨g1, g2, g3, g4, g5⟩ := ih (i + 1) ρ (by omega) d1 d2
      refine ⟨g1, g2, iv_tl_tr d3 g3, fun k hk h => by rw [g4 k hk (by omega), d4 k hk (by omega)], fun k h1 h2 h3 => ?_⟩
      by_cases e : k = i
      · subst e
        rw [g4 k h2 (by omega), d5]
      · rw [g5 k (by omega) h2 (by rw [d3.1 _ _ (Or.inr (by omega))]; exact h3), d3.2.2.2 9 (by omega)]
theorem iv_tell (ht : t < 10) (hM : iv_M σ) (hN : iv_N σ) : iv_M (rm_tell σ t) ∧ iv_N (rm_tell σ t) ∧ iv_tl t σ (rm_tell σ t) ∧ ∀ k, k < 10 → 0 < (σ (15 + t) k).toInt → rm_tell σ t (45 + k) t = σ 9 t := by
  obtain ⟨g1, g2, g3, -, g5⟩ := iv_tellL ht 10 0 σ rfl hM hN
  exact ⟨g1, g2, g3, fun k hk h => g5 k (by omega) hk h⟩
theorem iv_shl : ∀ x, x < 9 → ∀ y, y < 7 → 1 ≤ x → 1 ≤ ((nI x) <<< (nI y &&& 31)).toInt ∧ ((nI x) <<< (nI y &&& 31)).toInt ≤ 512 := by decide +kernel
theorem iv_nat {x : Int32} {N : Nat} (h0 : 0 ≤ x.toInt) (h1 : x.toInt ≤ N) (hN : N < 2 ^ 31) : ∃ j : Nat, j ≤ N ∧ x = nI j := by
  obtain ⟨j, hj, e⟩ := nI_of (x := x) (by rw [Int32.lt_iff_toInt_lt, Int32.toInt_zero]; omega)
  refine ⟨j, ?_, e⟩
  rw [e, nI_toInt hj] at h1
  omega
theorem iv_len_v : (∀ q j, (j ≠ n ∨ (q ≠ 12 ∧ q ≠ 13)) → rm_len σ n q j = σ q j) ∧ rm_len σ n 12 n = rm_mn (2 * σ 12 n) (σ 0 2 <<< (σ 0 3 &&& 31)) ∧ rm_len σ n 13 n = σ 0 4 + rm_mn (2 * σ 12 n) (σ 0 2 <<< (σ 0 3 &&& 31)) := by
  refine ⟨fun q j h => ?_, ?_, ?_⟩
  · unfold rm_len rm_len0
    rcases h with h | h
    · rw [rm_up_j h, rm_up_j h]
    · rw [rm_up_k h.2, rm_up_k h.1]
  · unfold rm_len rm_len0
    rw [rm_up_k (by decide), rm_up_s]
  · unfold rm_len rm_len0
    rw [rm_up_s, rm_up_s, rm_up_k (by decide)]
theorem iv_len (hf : iv_f σ) (hI : iv_I σ n) : iv_I (rm_len σ n) n ∧ (σ 0 4).toInt < (rm_len σ n 13 n).toInt := by
  obtain ⟨-, b1, b2⟩ := iv_len_v (σ := σ) (n := n)
  obtain ⟨x, hx, ex⟩ := iv_nat (x := σ 0 2) (N := 8) (by have := hf.1; omega) hf.1.2 (by decide)
  obtain ⟨y, hy, ey⟩ := iv_nat (x := σ 0 3) (N := 6) hf.2.1.1 hf.2.1.2 (by decide)
  have hx1 : 1 ≤ x := by
    have h := hf.1.1
    rw [ex, nI_toInt (by omega)] at h
    omega
  have hs := iv_shl x (by omega) y (by omega) hx1
  rw [← ex, ← ey] at hs
  have e2 : (2 * σ 12 n).toInt = 2 * (σ 12 n).toInt := by
    unfold iv_I at hI
    rw [Int32.toInt_mul, show (2 : Int32).toInt = 2 from rfl, Int.bmod_eq_of_le (by omega) (by omega)]
  have hv : 1 ≤ (rm_mn (2 * σ 12 n) (σ 0 2 <<< (σ 0 3 &&& 31))).toInt ∧ (rm_mn (2 * σ 12 n) (σ 0 2 <<< (σ 0 3 &&& 31))).toInt ≤ 512 := by
    unfold iv_I at hI
    unfold rm_mn
    by_cases c : σ 0 2 <<< (σ 0 3 &&& 31) < 2 * σ 12 n
    · rw [if_pos c]; exact hs
    · rw [if_neg c]
      rw [Int32.lt_iff_toInt_lt] at c
      omega
  generalize rm_mn (2 * σ 12 n) (σ 0 2 <<< (σ 0 3 &&& 31)) = v at *
  have h4 := hf.2.2
  unfold iv_I
  rw [b1, b2, iv_add (by omega) (by omega)]
  omega
theorem iv_tickL : ∀ (r i c : Nat) (σ : rm_St), i + r = 10 → iv_M σ → iv_N σ → iv_T σ i → ∀ S : Nat → Bool, (∀ j, i ≤ j → j < 10 → σ 13 j = σ 0 4 → S j = true) →
    ∃ c', (rm_tickL r i (nI c) σ).2 = nI c' ∧ c ≤ c' ∧ c' + rq_cnt S i ≤ c + rq_cnt S 10 ∧ iv_M (rm_tickL r i (nI c) σ).1 ∧ iv_N (rm_tickL r i (nI c) σ).1 ∧ iv_T (rm_tickL r i (nI c) σ).1 10 ∧
      (∀ q j, iv_F q → (rm_tickL r i (nI c) σ).1 q j = σ q j) ∧ (∀ k o, k < 10 → o < i → (rm_tickL r i (nI c) σ).1 (45 + k) o = σ (45 + k) o) ∧
      ∀ f, i ≤ f → f < 10 → (∀ j, i ≤ j → j < f → ¬ σ 13 j = σ 0 4) → σ 13 f = σ 0 4 → c + 1 ≤ c' ∧ ∀ k, k < 10 → 0 < (σ (15 + f) k).toInt → (rm_tickL r i (nI c) σ).1 (45 + k) f = σ 9 f := by
  intro r
  induction r with
  | zero =>
    intro i c σ hi hM hN hT S hS
    obtain rfl : i = 10 := by omega
    exact ⟨c, rfl, Nat.le_refl _, Nat.le_refl _, hM, hN, hT, fun _ _ _ => rfl, fun _ _ _ _ => rfl, fun f h1 h2 => by omega⟩
  | succ r ih =>
    intro i c σ hi hM hN hT S hS
    have hi10 : i < 10 := by omega
    rw [rm_tickL]
    by_cases e : σ 13 i = σ 0 4
    · rw [if_pos e, nI_1]
      obtain ⟨d1, d2, d3, d4⟩ := iv_tell hi10 hM hN
      have hI1 : ∀ j, j < 10 → iv_I (rm_tell σ i) j := fun j hj => by
        have h1 := (hT j hj).1
        have h2 := hM.1.1
        unfold iv_I at h1 ⊢
        rcases d3.2.2.1 j hj with ⟨g1, -⟩ | ⟨g1, -⟩ <;> rw [g1] <;> omega
      have E2 : rm_tell σ i 0 2 = σ 0 2 := d3.1 0 2 (Or.inl (by omega))
      have E4 : rm_tell σ i 0 4 = σ 0 4 := d3.1 0 4 (Or.inl (by omega))
      have hreset : (σ 0 4 + σ 0 2).toInt = (σ 0 4).toInt + (σ 0 2).toInt := by
        have h1 := hM.1.1
        have h2 := hM.1.2.2
        exact iv_add (by omega) (by omega)
      have hpos := hM.1.1
      obtain ⟨l1, l2⟩ := iv_len (n := i) d1.1 (hI1 i hi10)
      obtain ⟨b0, -, -⟩ := iv_len_v (σ := rm_tell σ i) (n := i)
      rw [E4] at l2
      generalize rm_tell σ i = ρ at *
      have hch : iv_M (rm_len ρ i) ∧ iv_N (rm_len ρ i) := by
        refine ⟨⟨iv_cg_f (fun j => b0 0 j (by omega)) d1.1, fun a b ha hb => iv_cg_c (b0 _ _ (by omega)) (b0 _ _ (by omega)) (d1.2.1 a b ha hb), fun a b ha hb => ?_⟩, fun m hm => ?_⟩
        · exact iv_cg_h (b0 _ _ (by omega)) (b0 _ _ (by omega)) (b0 _ _ (by omega)) (b0 _ _ (by omega)) (fun r _ => by rw [b0 6 r (by omega)]; exact Int.le_refl _) (d1.2.2 a b ha hb)
        · exact iv_cg_p (fun q _ => b0 _ _ (by omega)) (fun p _ => b0 _ _ (by omega)) (fun p _ => b0 _ _ (by omega)) (fun r _ => by rw [b0 6 r (by omega)]; exact Int.le_refl _) (b0 _ _ (by omega)) (d2 m hm)
      have F4 : rm_len ρ i 0 4 = σ 0 4 := by rw [b0 0 4 (by omega), E4]
      have hT2 : iv_T (rm_len ρ i) (i + 1) := fun j hj => by
        rw [F4]
        by_cases ej : j = i
        · subst ej
          exact ⟨l1, fun _ => l2, fun _ => Int.le_of_lt l2⟩
        · have hI : iv_I (rm_len ρ i) j := by
            have := hI1 j hj
            unfold iv_I at this ⊢
            rw [b0 12 j (by omega)]
            exact this
          obtain ⟨-, t1, t2⟩ := hT j hj
          rw [b0 13 j (by omega)]
          rcases d3.2.2.1 j hj with ⟨-, g⟩ | ⟨-, g⟩
          · rw [g]
            exact ⟨hI, fun h => t1 (by omega), fun h => t2 (by omega)⟩
          · rw [g, hreset]
            exact ⟨hI, fun _ => by omega, fun _ => by omega⟩
      have hS2 : ∀ j, i + 1 ≤ j → j < 10 → rm_len ρ i 13 j = rm_len ρ i 0 4 → S j = true := fun j h1 h2 h3 => by
        rw [F4, b0 13 j (by omega)] at h3
        rcases d3.2.2.1 j h2 with ⟨-, g⟩ | ⟨-, g⟩
        · exact hS j (by omega) h2 (by rw [← g]; exact h3)
        · rw [g] at h3
          have h4 := congrArg Int32.toInt h3
          rw [hreset] at h4
          omega
      obtain ⟨c', f1, f2, f3, f4, f5, f6, f7, f8, f9⟩ := ih (i + 1) (c + 1) (rm_len ρ i) (by omega) hch.1 hch.2 hT2 S hS2
      have hSi : S i = true := hS i (Nat.le_refl _) hi10 e
      rw [rq_cnt_s, if_pos hSi] at f3
      refine ⟨c', f1, by omega, by omega, f4, f5, f6, fun q j h => ?_, fun k o hk h => ?_, fun f h1 h2 h3 h4 => ?_⟩
      · have hq : q ≠ 12 ∧ q ≠ 13 := by unfold iv_F at h; omega
        rw [f7 q j h, b0 q j (Or.inr hq), d3.1 q j h]
      · rw [f8 k o hk (by omega), b0 _ _ (by omega), d3.2.1 k o hk (by omega)]
      · by_cases ef : f = i
        · subst ef
          refine ⟨by omega, fun k hk hck => ?_⟩
          rw [f8 k f hk (by omega), b0 _ _ (by omega), d4 k hk hck]
        · exact absurd e (h3 i (Nat.le_refl _) (by omega))
    · rw [if_neg e]
      have hT2 : iv_T σ (i + 1) := fun j hj => by
        obtain ⟨t0, t1, t2⟩ := hT j hj
        refine ⟨t0, fun h => ?_, fun h => t2 (by omega)⟩
        by_cases ej : j = i
        · subst ej
          have h1 := t2 (Nat.le_refl _)
          have h2 : ¬ (σ 13 j).toInt = (σ 0 4).toInt := fun q => e (Int32.toInt_inj.mp q)
          omega
        · exact t1 (by omega)
      obtain ⟨c', f1, f2, f3, f4, f5, f6, f7, f8, f9⟩ := ih (i + 1) c σ (by omega) hM hN hT2 S (fun j h1 h2 h3 => hS j (by omega) h2 h3)
      rw [rq_cnt_s] at f3
      refine ⟨c', f1, f2, by omega, f4, f5, f6, f7, fun k o hk h => f8 k o hk (by omega), fun f h1 h2 h3 h4 => ?_⟩
      by_cases ef : f = i
      · subst ef; exact absurd h4 e
      · exact f9 f (by omega) h2 (fun j q1 q2 => h3 j (by omega) q2) h4
def iv_at (σ : rm_St) : rm_St := rm_up σ 0 4 (σ 0 4 + 1)
def iv_due (σ : rm_St) (j : Nat) : Bool := decide (σ 13 j = σ 0 4 + 1)
theorem iv_tick (hM : iv_M σ) (hN : iv_N σ) (hT : iv_T σ 10) (hB : (σ 0 4).toInt ≤ 2999) :
    ∃ c', (rm_tick σ).2 = nI c' ∧ c' ≤ rq_cnt (iv_due σ) 10 ∧ iv_M (rm_tick σ).1 ∧ iv_N (rm_tick σ).1 ∧ iv_T (rm_tick σ).1 10 ∧
      (∀ q j, iv_F q → (q ≠ 0 ∨ j ≠ 4) → (rm_tick σ).1 q j = σ q j) ∧ ((rm_tick σ).1 0 4 = σ 0 4 + 1 ∧ (σ 0 4 + 1).toInt = (σ 0 4).toInt + 1) ∧
      ∀ f, f < 10 → (∀ j, j < f → ¬ iv_due σ j = true) → iv_due σ f = true → 1 ≤ c' ∧ ∀ k, k < 10 → 0 < (σ (15 + f) k).toInt → (rm_tick σ).1 (45 + k) f = σ 9 f := by
  have h4 := hM.1.2.2
  have e4 : (σ 0 4 + 1).toInt = (σ 0 4).toInt + 1 := iv_add (by omega) (by decide)
  have a0 : ∀ q j, (q ≠ 0 ∨ j ≠ 4) → rm_up σ 0 4 (σ 0 4 + 1) q j = σ q j := fun q j h => by
    rcases h with h | h
    · exact rm_up_k h
    · exact rm_up_j h
  have a1 : rm_up σ 0 4 (σ 0 4 + 1) 0 4 = σ 0 4 + 1 := rm_up_s _ _ _ _
  have hf := hM.1
  have hM1 : iv_M (rm_up σ 0 4 (σ 0 4 + 1)) := by
    refine ⟨?_, fun a b ha hb => iv_cg_c (a0 _ _ (by omega)) (a0 _ _ (by omega)) (hM.2.1 a b ha hb), fun a b ha hb => ?_⟩
    · unfold iv_f at hf ⊢
      rw [a1, a0 0 2 (by omega), a0 0 3 (by omega), e4]
      omega
    · exact iv_cg_h (a0 _ _ (by omega)) (a0 _ _ (by omega)) (a0 _ _ (by omega)) (a0 _ _ (by omega)) (fun r _ => by rw [a0 6 r (by omega)]; exact Int.le_refl _) (hM.2.2 a b ha hb)
  have hN1 : iv_N (rm_up σ 0 4 (σ 0 4 + 1)) := fun m hm => iv_cg_p (fun q hq => a0 _ _ (by omega)) (fun p _ => a0 _ _ (by omega)) (fun p _ => a0 _ _ (by omega)) (fun r _ => by rw [a0 6 r (by omega)]; exact Int.le_refl _) (a0 _ _ (by omega)) (hN m hm)
  have hT1 : iv_T (rm_up σ 0 4 (σ 0 4 + 1)) 0 := fun j hj => by
    obtain ⟨t0, t1, -⟩ := hT j hj
    unfold iv_I at t0 ⊢
    rw [a1, a0 12 j (by omega), a0 13 j (by omega), e4]
    have := t1 hj
    exact ⟨t0, fun q => by omega, fun _ => by omega⟩
  obtain ⟨c', f1, f2, f3, f4, f5, f6, f7, f8, f9⟩ := iv_tickL 10 0 0 (rm_up σ 0 4 (σ 0 4 + 1)) rfl hM1 hN1 hT1 (iv_due σ) (fun j _ hj h => by
    rw [a1, a0 13 j (by omega)] at h
    exact decide_eq_true h)
  have hR : rm_tick σ = rm_tickL 10 0 (nI 0) (rm_up σ 0 4 (σ 0 4 + 1)) := rfl
  rw [hR]
  refine ⟨c', f1, by rw [show rq_cnt (iv_due σ) 0 = 0 from rfl] at f3; omega, f4, f5, f6, fun q j h hne => by rw [f7 q j h, a0 q j hne], ⟨by rw [f7 0 4 (Or.inl (by omega)), a1], e4⟩, fun f h1 h2 h3 => ?_⟩
  obtain ⟨g1, g2⟩ := f9 f (Nat.zero_le _) h1 (fun j _ hj h => h2 j hj (by
    rw [a1, a0 13 j (by omega)] at h
    exact decide_eq_true h)) (by
    rw [a1, a0 13 f (by omega)]
    exact of_decide_eq_true h3)
  refine ⟨by omega, fun k hk hc => ?_⟩
  rw [g2 k hk (by rw [a0 _ _ (by omega)]; exact hc), a0 9 f (by omega)]
theorem iv_passL : ∀ (r t c : Nat) (σ : rm_St), iv_M σ → iv_N σ → iv_T σ 10 → (σ 0 4).toInt + r ≤ 3000 →
    ∃ c', (rm_passL r t (nI c) σ).2 = nI c' ∧ c' ≤ c + 10 * r ∧ iv_M (rm_passL r t (nI c) σ).1 ∧ iv_N (rm_passL r t (nI c) σ).1 ∧ iv_T (rm_passL r t (nI c) σ).1 10 ∧ (∀ q j, iv_F q → (q ≠ 0 ∨ j ≠ 4) → (rm_passL r t (nI c) σ).1 q j = σ q j) ∧ (rm_passL r t (nI c) σ).1 0 4 = σ 0 4 + nI r := by
  intro r
  induction r with
  | zero => intro t c σ hM hN hT hB; exact ⟨c, rfl, by omega, hM, hN, hT, fun _ _ _ _ => rfl, by rw [nI_0, Int32.add_zero]; rfl⟩
  | succ r ih =>
    intro t c σ hM hN hT hB
    obtain ⟨c1, g1, g2, g3, g4, g5, g6, ⟨g7, g8⟩, -⟩ := iv_tick hM hN hT (by omega)
    have h10 := rq_cnt_le (p := iv_due σ) 10
    rw [rm_passL, g1, nI_add]
    generalize (rm_tick σ).1 = ρ at *
    obtain ⟨c', f1, f2, f3, f4, f5, f6, f7⟩ := ih (t + 1) (c + c1) ρ g3 g4 g5 (by rw [g7, g8]; omega)
    refine ⟨c', f1, by omega, f3, f4, f5, fun q j h hne => by rw [f6 q j h hne, g6 q j h hne], ?_⟩
    rw [f7, g7, Int32.add_assoc, show (1 : Int32) = nI 1 from rfl, nI_add, Nat.add_comm 1 r]
end IV2

/-! leastRank: here as there -/
def rq_W (c : Nat → Nat → Int) (P : Nat → Nat → Prop) (σ σ' : rm_St) : Prop :=
  (∀ q m, q ≠ 14 → σ' q m = σ q m) ∧ (∀ a, a < 10 → 0 ≤ (σ' 14 a).toInt ∧ (σ' 14 a).toInt ≤ (σ 14 a).toInt) ∧
  (∀ a d, a < 10 → d < 10 → P a d → 0 < c a d → (σ' 14 a).toInt ≤ (σ 14 d).toInt + c a d) ∧
  ∀ v, rq_pt c v → (∀ a, a < 10 → v a ≤ (σ 14 a).toInt) → ∀ a, a < 10 → v a ≤ (σ' 14 a).toInt
def rq_B (σ : rm_St) : Prop := ∀ a, a < 10 → 0 ≤ (σ 14 a).toInt ∧ (σ 14 a).toInt ≤ 10000
section RQW2
variable {c : Nat → Nat → Int} {P Q : Nat → Nat → Prop} {σ σ1 σ2 τ : rm_St}
theorem rq_W0 (hB : rq_B σ) : rq_W c (fun _ _ => False) σ σ := ⟨fun _ _ _ => rfl, fun a ha => ⟨(hB a ha).1, Int.le_refl _⟩, fun _ _ _ _ h => h.elim, fun _ _ h => h⟩
theorem rq_Wt (h1 : rq_W c P σ σ1) (h2 : rq_W c Q σ1 σ2) : rq_W c (fun a d => P a d ∨ Q a d) σ σ2 := by
  obtain ⟨p1, p2, p3, p4⟩ := h1
  obtain ⟨q1, q2, q3, q4⟩ := h2
  refine ⟨fun q m h => by rw [q1 q m h, p1 q m h], fun a ha => ⟨(q2 a ha).1, Int.le_trans (q2 a ha).2 (p2 a ha).2⟩, fun a d ha hd h hc => ?_, fun v hv h => q4 v hv (p4 v hv h)⟩
  rcases h with h | h
  · exact Int.le_trans (q2 a ha).2 (p3 a d ha hd h hc)
  · have h1 := q3 a d ha hd h hc
    have h2 := (p2 d hd).2
    omega
theorem rq_Ww (h1 : rq_W c P σ σ1) (h : ∀ a d, a < 10 → d < 10 → Q a d → 0 < c a d → P a d) : rq_W c Q σ σ1 := by
  obtain ⟨p1, p2, p3, p4⟩ := h1
  exact ⟨p1, p2, fun a d ha hd hq hc => p3 a d ha hd (h a d ha hd hq hc) hc, p4⟩
theorem rq_WB (h1 : rq_W c P σ σ1) (hB : rq_B σ) : rq_B σ1 := fun a ha => ⟨(h1.2.1 a ha).1, Int.le_trans (h1.2.1 a ha).2 (hB a ha).2⟩
theorem rq_W1 {i j : Nat} {x : Int32} (hB : rq_B σ) (hi : i < 10) (hj : j < 10) (h1 : x.toInt ≤ (σ 14 i).toInt) (h2 : 0 < c i j → x.toInt ≤ (σ 14 j).toInt + c i j) (h3 : x = σ 14 i ∨ (0 < c i j ∧ x.toInt = (σ 14 j).toInt + c i j)) : rq_W c (fun a d => a = i ∧ d = j) σ (rm_up σ 14 i x) := by
  refine ⟨fun q m h => rm_up_k h, fun a ha => ?_, fun a d ha hd h hc => ?_, fun v hv h a ha => ?_⟩
  · by_cases e : a = i
    · subst e
      rw [rm_up_s]
      refine ⟨?_, h1⟩
      rcases h3 with h3 | ⟨hc, h3⟩
      · rw [h3]
        exact (hB a ha).1
      · have := (hB j hj).1
        omega
    · rw [rm_up_j e]
      exact ⟨(hB a ha).1, Int.le_refl _⟩
  · obtain ⟨rfl, rfl⟩ := h
    rw [rm_up_s]
    exact h2 hc
  · by_cases e : a = i
    · subst e
      rw [rm_up_s]
      rcases h3 with h3 | ⟨hc, h3⟩
      · rw [h3]
        exact h a ha
      · have g1 := hv a j ha hj hc
        have g2 := h j hj
        omega
    · rw [rm_up_j e]
      exact h a ha
theorem rq_add {x y : Int32} (h1 : 0 ≤ x.toInt ∧ x.toInt ≤ 10000) (h2 : 0 ≤ y.toInt ∧ y.toInt ≤ 100) : (x + y).toInt = x.toInt + y.toInt := by
  rw [Int32.toInt_add, Int.bmod_eq_of_le (by omega) (by omega)]
def rq_C (c : Nat → Nat → Int) (σ : rm_St) : Prop := ∀ a d, a < 10 → d < 10 → (σ (15 + a) d).toInt = c a d
def rq_D (c : Nat → Nat → Int) (τ : rm_St) : Prop := ∀ m, m < 100 → (τ 1 m).toInt = c (m % 10) (m / 10)
theorem rq_CW (h : rq_W c P σ σ1) (hC : rq_C c σ) : rq_C c σ1 := fun a d ha hd => by rw [h.1 (15 + a) d (by omega)]; exact hC a d ha hd
theorem rq_DW (h : rq_W c P σ σ1) (hD : rq_D c σ) : rq_D c σ1 := fun m hm => by rw [h.1 1 m (by decide)]; exact hD m hm
theorem rm_lowJ_W (hc : ∀ a d, a < 10 → d < 10 → 0 ≤ c a d ∧ c a d ≤ 100) {i : Nat} (hi : i < 10) : ∀ (r j : Nat) (σ : rm_St), j + r = 10 → rq_C c σ → rq_B σ → rq_W c (fun a d => a = i ∧ j ≤ d) σ (rm_lowJ i r j σ) := by
  intro r
  induction r with
  | zero => intro j σ hj hC hB; exact rq_Ww (rq_W0 hB) (fun a d _ hd q _ => by omega)
  | succ r ih =>
    intro j σ hj hC hB
    have hj10 : j < 10 := by omega
    have ec := hC i j hi hj10
    have hcb := hc i j hi hj10
    by_cases c1 : σ (15 + i) j ≤ 0
    · rw [rm_lowJ, if_pos c1]
      have hle : c i j ≤ 0 := by
        rw [Int32.le_iff_toInt_le, ec, Int32.toInt_zero] at c1
        exact c1
      refine rq_Ww (ih (j + 1) σ (by omega) hC hB) (fun a d _ _ q hcp => ?_)
      by_cases e : d = j
      · obtain ⟨rfl, -⟩ := q
        subst e
        omega
      · exact ⟨q.1, by omega⟩
    · rw [rm_lowJ, if_neg c1]
      have hpos : 0 < c i j := by
        rw [Int32.le_iff_toInt_le, ec, Int32.toInt_zero] at c1
        omega
      have eadd : (σ 14 j + σ (15 + i) j).toInt = (σ 14 j).toInt + c i j := by
        rw [rq_add (hB j hj10) (by rw [ec]; exact hcb), ec]
      have hW : rq_W c (fun a d => a = i ∧ d = j) σ (rm_up σ 14 i (rm_mn (σ 14 i) (σ 14 j + σ (15 + i) j))) := by
        unfold rm_mn
        by_cases c2 : σ 14 j + σ (15 + i) j < σ 14 i
        · rw [if_pos c2]
          rw [Int32.lt_iff_toInt_lt] at c2
          exact rq_W1 hB hi hj10 (by omega) (fun _ => by omega) (Or.inr ⟨hpos, eadd⟩)
        · rw [if_neg c2]
          rw [Int32.lt_iff_toInt_lt] at c2
          exact rq_W1 hB hi hj10 (Int.le_refl _) (fun _ => by omega) (Or.inl rfl)
      generalize rm_up σ 14 i (rm_mn (σ 14 i) (σ 14 j + σ (15 + i) j)) = ρ at hW ⊢
      refine rq_Ww (rq_Wt hW (ih (j + 1) ρ (by omega) (rq_CW hW hC) (rq_WB hW hB))) (fun a d _ _ q _ => ?_)
      by_cases e : d = j
      · exact Or.inl ⟨q.1, e⟩
      · exact Or.inr ⟨q.1, by omega⟩
theorem rm_lowL_W (hc : ∀ a d, a < 10 → d < 10 → 0 ≤ c a d ∧ c a d ≤ 100) : ∀ (r i : Nat) (σ : rm_St), i + r = 10 → rq_C c σ → rq_B σ → rq_W c (fun a _ => i ≤ a) σ (rm_lowL r i σ) := by
  intro r
  induction r with
  | zero => intro i σ hi hC hB; exact rq_Ww (rq_W0 hB) (fun a d ha _ q _ => by omega)
  | succ r ih =>
    intro i σ hi hC hB
    have hW := rm_lowJ_W hc (i := i) (by omega) 10 0 σ rfl hC hB
    rw [rm_lowL]
    generalize rm_lowJ i 10 0 σ = ρ at hW ⊢
    refine rq_Ww (rq_Wt hW (ih (i + 1) ρ (by omega) (rq_CW hW hC) (rq_WB hW hB))) (fun a d _ _ q _ => ?_)
    by_cases e : a = i
    · exact Or.inl ⟨e, Nat.zero_le _⟩
    · exact Or.inr (by omega)
theorem rn_rel_W (hc : ∀ a d, a < 10 → d < 10 → 0 ≤ c a d ∧ c a d ≤ 100) {j : Nat} (hj : j < 100) (hD : rq_D c τ) (hB : rq_B τ) : rq_W c (fun a d => a = j % 10 ∧ d = j / 10) τ (rn_rel τ j) := by
  have ha : j % 10 < 10 := by omega
  have hd : j / 10 < 10 := by omega
  have ec := hD j hj
  have hcb := hc (j % 10) (j / 10) ha hd
  have hBa := hB (j % 10) ha
  have hBd := hB (j / 10) hd
  have eadd : (τ 14 (j / 10) + τ 1 j).toInt = (τ 14 (j / 10)).toInt + c (j % 10) (j / 10) := by
    rw [rq_add hBd (by rw [ec]; exact hcb), ec]
  unfold rn_rel
  by_cases c1 : τ 1 j ≤ 0
  · rw [if_pos c1]
    rw [Int32.le_iff_toInt_le, ec, Int32.toInt_zero] at c1
    exact rq_W1 hB ha hd (Int.le_refl _) (fun q => by omega) (Or.inl rfl)
  · rw [if_neg c1]
    rw [Int32.le_iff_toInt_le, ec, Int32.toInt_zero] at c1
    by_cases c2 : 10000 ≤ τ 14 (j / 10)
    · rw [if_pos c2]
      rw [Int32.le_iff_toInt_le, show (10000 : Int32).toInt = 10000 from rfl] at c2
      exact rq_W1 hB ha hd (Int.le_refl _) (fun q => by omega) (Or.inl rfl)
    · rw [if_neg c2]
      by_cases c3 : τ 14 (j % 10) ≤ τ 14 (j / 10) + τ 1 j
      · rw [if_pos c3]
        rw [Int32.le_iff_toInt_le, eadd] at c3
        exact rq_W1 hB ha hd (Int.le_refl _) (fun _ => c3) (Or.inl rfl)
      · rw [if_neg c3]
        rw [Int32.le_iff_toInt_le, eadd] at c3
        exact rq_W1 hB ha hd (by omega) (fun _ => by omega) (Or.inr ⟨by omega, eadd⟩)
theorem rn_relL_W (hc : ∀ a d, a < 10 → d < 10 → 0 ≤ c a d ∧ c a d ≤ 100) : ∀ (r j : Nat) (τ : rm_St), j + r = 100 → rq_D c τ → rq_B τ → rq_W c (fun a d => j ≤ 10 * d + a) τ (rn_relL r j τ) := by
  intro r
  induction r with
  | zero => intro j τ hj hD hB; exact rq_Ww (rq_W0 hB) (fun a d ha hd q _ => by omega)
  | succ r ih =>
    intro j τ hj hD hB
    have hW := rn_rel_W hc (j := j) (by omega) hD hB
    have E : rn_relL (r + 1) j τ = rn_relL r (j + 1) (rn_rel τ j) := by rw [rn_relL]
    rw [E]
    generalize rn_rel τ j = ρ at hW ⊢
    refine rq_Ww (rq_Wt hW (ih (j + 1) ρ (by omega) (rq_DW hW hD) (rq_WB hW hB))) (fun a d ha hd q _ => ?_)
    by_cases e : 10 * d + a = j
    · exact Or.inl ⟨by omega, by omega⟩
    · exact Or.inr (by omega)
theorem rq_Wr (h : rq_W c P σ σ1) (hP : ∀ a d, a < 10 → d < 10 → P a d) : rq_rnd c (fun i => (σ 14 i).toInt) (fun i => (σ1 14 i).toInt) := ⟨fun i hi => (h.2.1 i hi).2, fun i j hi hj hc => h.2.2.1 i j hi hj (hP i j hi hj) hc, h.2.2.2⟩
theorem rm_lwL_K {b v : Nat → Int} (hc : ∀ a d, a < 10 → d < 10 → 0 ≤ c a d ∧ c a d ≤ 100) (hv : rq_pot c b v) (hs : ∀ i, i < 10 → v i = b i ∨ ∃ j, j < 10 ∧ 0 < c i j ∧ v i = v j + c i j) :
    ∀ (r i : Nat) (σ : rm_St), rq_C c σ → rq_B σ → rq_K b v r (fun i => (σ 14 i).toInt) → (∀ q m, q ≠ 14 → rm_lwL r i σ q m = σ q m) ∧ ∀ i2, i2 < 10 → v i2 = (rm_lwL r i σ 14 i2).toInt := by
  intro r
  induction r with
  | zero => intro i σ hC hB hK; exact ⟨fun _ _ _ => rfl, rq_K0 hK⟩
  | succ r ih =>
    intro i σ hC hB hK
    have hW : rq_W c (fun a _ => 0 ≤ a) σ (rm_lower σ) := rm_lowL_W hc 10 0 σ rfl hC hB
    have E : rm_lwL (r + 1) i σ = rm_lwL r (i + 1) (rm_lower σ) := by rw [rm_lwL]
    rw [E]
    generalize rm_lower σ = ρ at hW ⊢
    obtain ⟨g1, g2⟩ := ih (i + 1) ρ (rq_CW hW hC) (rq_WB hW hB) (rq_Ks hv hs hK (rq_Wr hW (fun a _ _ _ => Nat.zero_le a)))
    exact ⟨fun q m h => by rw [g1 q m h, hW.1 q m h], g2⟩
theorem rn_lrL_K {b v : Nat → Int} (hc : ∀ a d, a < 10 → d < 10 → 0 ≤ c a d ∧ c a d ≤ 100) (hv : rq_pot c b v) (hs : ∀ i, i < 10 → v i = b i ∨ ∃ j, j < 10 ∧ 0 < c i j ∧ v i = v j + c i j) :
    ∀ (r i : Nat) (τ : rm_St), rq_D c τ → rq_B τ → rq_K b v r (fun i => (τ 14 i).toInt) → (∀ q m, q ≠ 14 → rn_lrL r i τ q m = τ q m) ∧ ∀ i2, i2 < 10 → v i2 = (rn_lrL r i τ 14 i2).toInt := by
  intro r
  induction r with
  | zero => intro i τ hD hB hK; exact ⟨fun _ _ _ => rfl, rq_K0 hK⟩
  | succ r ih =>
    intro i τ hD hB hK
    have hW : rq_W c (fun a d => 0 ≤ 10 * d + a) τ (rn_relL 100 0 τ) := rn_relL_W hc 100 0 τ rfl hD hB
    have E : rn_lrL (r + 1) i τ = rn_lrL r (i + 1) (rn_relL 100 0 τ) := by rw [rn_lrL]
    rw [E]
    generalize rn_relL 100 0 τ = ρ at hW ⊢
    obtain ⟨g1, g2⟩ := ih (i + 1) ρ (rq_DW hW hD) (rq_WB hW hB) (rq_Ks hv hs hK (rq_Wr hW (fun a d _ _ => Nat.zero_le _)))
    exact ⟨fun q m h => by rw [g1 q m h, hW.1 q m h], g2⟩
theorem rm_wayI_v : ∀ (r i : Nat) (σ : rm_St), (∀ q m, q ≠ 14 → rm_wayI r i σ q m = σ q m) ∧ (∀ m, m < i → rm_wayI r i σ 14 m = σ 14 m) ∧ ∀ m, i ≤ m → m < i + r → rm_wayI r i σ 14 m = if σ 5 m = 0 then 10000 else 0 := by
  intro r
  induction r with
  | zero => intro i σ; exact ⟨fun _ _ _ => rfl, fun _ _ => rfl, fun m h1 h2 => by omega⟩
  | succ r ih =>
    intro i σ
    have key : rm_wayI (r + 1) i σ = rm_wayI r (i + 1) (rm_up σ 14 i (if σ 5 i = 0 then 10000 else 0)) := by
      rw [rm_wayI]
      by_cases e : σ 5 i = 0
      · rw [if_pos e, if_pos e]
      · rw [if_neg e, if_neg e]
    rw [key]
    obtain ⟨g1, g2, g3⟩ := ih (i + 1) (rm_up σ 14 i (if σ 5 i = 0 then 10000 else 0))
    refine ⟨fun q m h => by rw [g1 q m h, rm_up_k h], fun m h => by rw [g2 m (by omega), rm_up_j (by omega)], fun m h1 h2 => ?_⟩
    by_cases e : m = i
    · subst e
      rw [g2 m (by omega), rm_up_s]
    · rw [g3 m (by omega) (by omega), rm_up_k (by decide)]
theorem rn_wayI_v : ∀ (r i : Nat) (σ : rm_St), (∀ q m, q ≠ 14 → rn_wayI r i σ q m = σ q m) ∧ (∀ m, m < i → rn_wayI r i σ 14 m = σ 14 m) ∧ ∀ m, i ≤ m → m < i + r → rn_wayI r i σ 14 m = if σ 2 m = 0 then 10000 else 0 := by
  intro r
  induction r with
  | zero => intro i σ; exact ⟨fun _ _ _ => rfl, fun _ _ => rfl, fun m h1 h2 => by omega⟩
  | succ r ih =>
    intro i σ
    have key : rn_wayI (r + 1) i σ = rn_wayI r (i + 1) (rm_up σ 14 i (if σ 2 i = 0 then 10000 else 0)) := by
      rw [rn_wayI]
      by_cases e : σ 2 i = 0
      · rw [if_pos e, if_pos e]
      · rw [if_neg e, if_neg e]
    rw [key]
    obtain ⟨g1, g2, g3⟩ := ih (i + 1) (rm_up σ 14 i (if σ 2 i = 0 then 10000 else 0))
    refine ⟨fun q m h => by rw [g1 q m h, rm_up_k h], fun m h => by rw [g2 m (by omega), rm_up_j (by omega)], fun m h1 h2 => ?_⟩
    by_cases e : m = i
    · subst e
      rw [g2 m (by omega), rm_up_s]
    · rw [g3 m (by omega) (by omega), rm_up_k (by decide)]
theorem rq_14 {σ' τ' : rm_St} (h : rq σ τ) (a : ∀ q m, q ≠ 14 → σ' q m = σ q m) (b : ∀ q m, q ≠ 14 → τ' q m = τ q m) : rq σ' τ' := by
  obtain ⟨⟨f0, f1, f2, f3, f4, f5⟩, h2, h3, h4⟩ := h
  refine ⟨⟨by rw [a 0 0 (by omega), b 0 0 (by omega), f0], by rw [a 0 1 (by omega), b 0 1 (by omega), f1], by rw [a 0 2 (by omega), b 0 2 (by omega), f2], by rw [a 0 3 (by omega), b 0 3 (by omega), f3], by rw [a 0 4 (by omega), b 0 4 (by omega), f4], by rw [a 0 5 (by omega), b 0 19 (by omega), f5]⟩, fun i hi => ?_, fun i j hi hj => ?_, fun i j hi hj => ?_⟩
  · have g := h2 i hi
    unfold rq_n at g ⊢
    rw [a 5 i (by omega), a 6 i (by omega), a 7 i (by omega), a 8 i (by omega), a 9 i (by omega), a 10 i (by omega), a 11 i (by omega), a 12 i (by omega), a 13 i (by omega), b 2 i (by omega), b 3 i (by omega), b 4 i (by omega), b 5 i (by omega), b 6 i (by omega), b 7 i (by omega), b 8 i (by omega), b 9 i (by omega), b 10 i (by omega)]
    exact g
  · have g := h3 i j hi hj
    unfold rq_h at g ⊢
    rw [a (15 + i) j (by omega), a (25 + i) j (by omega), a (35 + i) j (by omega), a (45 + i) j (by omega), b 1 _ (by omega), b 11 _ (by omega), b 12 _ (by omega), b 13 _ (by omega)]
    exact g
  · rw [a (15 + i) j (by omega), a (15 + j) i (by omega)]
    exact h4 i j hi hj
theorem rq_least (h : rq σ τ) : (∀ q m, q ≠ 14 → rm_least σ q m = σ q m) ∧ (∀ q m, q ≠ 14 → rn_lrL 10 0 (rn_wayI 10 0 τ) q m = τ q m) ∧ ∀ j, j < 10 → rm_least σ 14 j = rn_lrL 10 0 (rn_wayI 10 0 τ) 14 j := by
  obtain ⟨a1, -, a3⟩ := rm_wayI_v 10 0 σ
  obtain ⟨b1, -, b3⟩ := rn_wayI_v 10 0 τ
  have e5 : ∀ m, m < 10 → σ 5 m = τ 2 m := fun m hm => (h.2.1 m hm).1.1
  have hab : ∀ m, m < 10 → rm_wayI 10 0 σ 14 m = rn_wayI 10 0 τ 14 m := fun m hm => by rw [a3 m (by omega) (by omega), b3 m (by omega) (by omega), e5 m hm]
  have hB : rq_B (rm_wayI 10 0 σ) := fun m hm => by
    rw [a3 m (by omega) (by omega)]
    by_cases e : σ 5 m = 0
    · rw [if_pos e]; decide
    · rw [if_neg e]; decide
  have hB2 : rq_B (rn_wayI 10 0 τ) := fun m hm => by rw [← hab m hm]; exact hB m hm
  have hc : ∀ a d, a < 10 → d < 10 → 0 ≤ (fun a d => (σ (15 + a) d).toInt) a d ∧ (fun a d => (σ (15 + a) d).toInt) a d ≤ 100 := fun a d ha hd => by
    obtain ⟨-, ⟨g1, g2⟩, -⟩ := h.2.2.1 a d ha hd
    rw [Int32.lt_iff_toInt_lt, Int32.toInt_zero] at g1
    rw [Int32.le_iff_toInt_le, show (100 : Int32).toInt = 100 from rfl] at g2
    show 0 ≤ (σ (15 + a) d).toInt ∧ (σ (15 + a) d).toInt ≤ 100
    omega
  have hC : rq_C (fun a d => (σ (15 + a) d).toInt) (rm_wayI 10 0 σ) := fun a d _ _ => by rw [a1 (15 + a) d (by omega)]
  have hD : rq_D (fun a d => (σ (15 + a) d).toInt) (rn_wayI 10 0 τ) := fun m hm => by
    show _ = (σ (15 + m % 10) (m / 10)).toInt
    rw [b1 1 m (by decide), h.2.2.2 (m % 10) (m / 10) (by omega) (by omega), (h.2.2.1 (m / 10) (m % 10) (by omega) (by omega)).1, show 10 * (m / 10) + m % 10 = m by omega]
  obtain ⟨v, hv, hs⟩ := rq_max (c := fun a d => (σ (15 + a) d).toInt) (b := fun i => (rm_wayI 10 0 σ 14 i).toInt) (fun i hi => (hB i hi).1)
  have hK := rq_K9 hv hs
  have hK2 : rq_K (fun i => (rm_wayI 10 0 σ 14 i).toInt) v 10 (fun i => (rn_wayI 10 0 τ 14 i).toInt) := by
    refine ⟨fun i hi => ?_, ?_⟩
    · show v i ≤ (rn_wayI 10 0 τ 14 i).toInt ∧ (rn_wayI 10 0 τ 14 i).toInt ≤ _
      rw [← hab i hi]
      exact hK.1 i hi
    · exact Nat.le_add_left _ _
  obtain ⟨g1, g2⟩ := rm_lwL_K hc hv hs 9 1 _ hC hB hK
  obtain ⟨g3, g4⟩ := rn_lrL_K hc hv hs 10 0 _ hD hB2 hK2
  refine ⟨fun q m hq => ?_, fun q m hq => by rw [g3 q m hq, b1 q m hq], fun j hj => ?_⟩
  · unfold rm_least
    rw [g1 q m hq, a1 q m hq]
  · unfold rm_least
    exact Int32.toInt_inj.mp ((g2 j hj).symm.trans (g4 j hj))
theorem rq_g_leastRank : rw_g_leastRank rq := fun σ τ h p0 => by
  unfold rn_leastRank
  by_cases c : isNd p0 = true
  · rw [if_pos c, show rm_tN p0 = none from if_pos c]
    obtain ⟨j, hj, rfl⟩ := isNd_of c
    rw [rm_cl hj]
    have ht : rq σ (rm_up τ 0 20 0) := rq_thr h
    obtain ⟨g1, g2, g3⟩ := rq_least ht
    have h20 : rm_up τ 0 20 0 0 20 = 0 := rm_up_s _ _ _ _
    generalize rm_up τ 0 20 0 = τ' at ht g2 g3 h20 ⊢
    generalize rn_lrL 10 0 (rn_wayI 10 0 τ') = τ2 at g2 g3 ⊢
    have gq : rq (rm_least σ) τ2 := rq_14 ht g1 g2
    have gc := g3 j hj
    generalize rm_least σ = σ2 at gq gc ⊢
    refine ⟨?_, fun _ => gc, gq⟩
    show τ2 0 20 = 0
    rw [g2 0 20 (by decide), h20]
  · rw [if_neg c, show rm_tN p0 = some rm_IO from if_neg c]
    exact rq_no h
end RQW2
theorem rq_good : rw_good rq := ⟨rq_g_0, rq_g_setRules, rq_g_link, rq_g_makeRoot, rq_g_endRoot, rq_g_renew, rq_g_pass, rq_g_rank, rq_g_parent, rq_g_tree, rq_g_nextTelling, rq_g_heard, rq_g_leastRank, rq_g_up, rq_g_below, rq_g_down⟩

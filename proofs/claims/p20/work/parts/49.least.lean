/-! the greatest potential, and rounds that come down to it -/
def rq_pt (c : Nat → Nat → Int) (v : Nat → Int) : Prop := ∀ i j, i < 10 → j < 10 → 0 < c i j → v i ≤ v j + c i j
def rq_pot (c : Nat → Nat → Int) (b v : Nat → Int) : Prop := (∀ i, i < 10 → 0 ≤ v i ∧ v i ≤ b i) ∧ rq_pt c v
def rq_sum (w : Nat → Int) : Nat → Int
  | 0 => 0
  | r + 1 => rq_sum w r + w r
theorem rq_sum_s {w : Nat → Int} {r : Nat} : rq_sum w (r + 1) = rq_sum w r + w r := rfl
theorem rq_sum_le {w b : Nat → Int} : ∀ r, (∀ i, i < r → w i ≤ b i) → rq_sum w r ≤ rq_sum b r := by
  intro r
  induction r with
  | zero => intro _; exact Int.le_refl _
  | succ r ih =>
    intro h
    have h1 := ih (fun i hi => h i (by omega))
    have h2 := h r (by omega)
    rw [rq_sum_s, rq_sum_s]
    omega
def rq_inc (w : Nat → Int) (i : Nat) : Nat → Int := fun j => if j = i then w j + 1 else w j
theorem rq_inc_s {w : Nat → Int} {i : Nat} : rq_inc w i i = w i + 1 := if_pos rfl
theorem rq_inc_n {w : Nat → Int} {i j : Nat} (h : j ≠ i) : rq_inc w i j = w j := if_neg h
theorem rq_sum_inc {w : Nat → Int} {i : Nat} : ∀ r, (i < r → rq_sum (rq_inc w i) r = rq_sum w r + 1) ∧ (r ≤ i → rq_sum (rq_inc w i) r = rq_sum w r) := by
  intro r
  induction r with
  | zero => exact ⟨fun h => by omega, fun _ => rfl⟩
  | succ r ih =>
    rw [rq_sum_s, rq_sum_s]
    refine ⟨fun h => ?_, fun h => ?_⟩
    · by_cases e : i = r
      · subst e
        rw [ih.2 (Nat.le_refl _), rq_inc_s]
        omega
      · rw [ih.1 (by omega), rq_inc_n (fun q => e q.symm)]
        omega
    · rw [ih.2 (by omega), rq_inc_n (by omega)]
theorem rq_max0 {c : Nat → Nat → Int} {b : Nat → Int} : ∀ (d : Nat) (w : Nat → Int), rq_pot c b w → (rq_sum b 10 - rq_sum w 10).toNat ≤ d → ∃ w, rq_pot c b w ∧ ∀ u, rq_pot c b u → rq_sum u 10 ≤ rq_sum w 10 := by
  intro d
  induction d with
  | zero =>
    intro w hw hd
    refine ⟨w, hw, fun u hu => ?_⟩
    have h1 := rq_sum_le 10 (fun i hi => (hu.1 i hi).2)
    omega
  | succ d ih =>
    intro w hw hd
    by_cases hm : ∀ u, rq_pot c b u → rq_sum u 10 ≤ rq_sum w 10
    · exact ⟨w, hw, hm⟩
    · have hex : ∃ u, rq_pot c b u ∧ ¬ rq_sum u 10 ≤ rq_sum w 10 := Classical.byContradiction (fun q => hm (fun u hu => Classical.byContradiction (fun q2 => q ⟨u, hu, q2⟩)))
      obtain ⟨u, hu, hlt⟩ := hex
      exact ih u hu (by omega)
theorem rq_max {c : Nat → Nat → Int} {b : Nat → Int} (hb : ∀ i, i < 10 → 0 ≤ b i) : ∃ w, rq_pot c b w ∧ ∀ i, i < 10 → w i = b i ∨ ∃ j, j < 10 ∧ 0 < c i j ∧ w i = w j + c i j := by
  obtain ⟨w, hw, hm⟩ := rq_max0 (c := c) (b := b) _ (fun _ => 0) ⟨fun i hi => ⟨Int.le_refl _, hb i hi⟩, fun i j _ _ h => by show (0 : Int) ≤ 0 + c i j; omega⟩ (Nat.le_refl _)
  refine ⟨w, hw, fun i hi => Classical.byContradiction (fun q => ?_)⟩
  have q1 : ¬ w i = b i := fun z => q (Or.inl z)
  have q2 : ∀ j, j < 10 → 0 < c i j → ¬ w i = w j + c i j := fun j hj hc z => q (Or.inr ⟨j, hj, hc, z⟩)
  have hs := hm (rq_inc w i) ⟨fun j hj => ?_, fun a d ha hd hc => ?_⟩
  · rw [(rq_sum_inc 10).1 hi] at hs
    omega
  · have h1 := hw.1 j hj
    by_cases e : j = i
    · subst e
      rw [rq_inc_s]
      omega
    · rw [rq_inc_n e]
      exact h1
  · have h1 := hw.2 a d ha hd hc
    by_cases e : a = i
    · subst e
      have h2 := q2 d hd hc
      rw [rq_inc_s]
      by_cases e2 : d = a
      · subst e2
        rw [rq_inc_s]
        omega
      · rw [rq_inc_n e2]
        omega
    · rw [rq_inc_n e]
      by_cases e2 : d = i
      · subst e2
        rw [rq_inc_s]
        omega
      · rw [rq_inc_n e2]
        exact h1
def rq_rnd (c : Nat → Nat → Int) (w w' : Nat → Int) : Prop := (∀ i, i < 10 → w' i ≤ w i) ∧ (∀ i j, i < 10 → j < 10 → 0 < c i j → w' i ≤ w j + c i j) ∧ ∀ v, rq_pt c v → (∀ i, i < 10 → v i ≤ w i) → ∀ i, i < 10 → v i ≤ w' i
def rq_K (b v : Nat → Int) (r : Nat) (w : Nat → Int) : Prop := (∀ i, i < 10 → v i ≤ w i ∧ w i ≤ b i) ∧ 10 ≤ rq_cnt (fun i => decide (v i = w i)) 10 + r
section RQK2
variable {c : Nat → Nat → Int} {b v w w' : Nat → Int}
theorem rq_find (hv : rq_pot c b v) (hs : ∀ i, i < 10 → v i = b i ∨ ∃ j, j < 10 ∧ 0 < c i j ∧ v i = v j + c i j) (hw : ∀ i, i < 10 → v i ≤ w i ∧ w i ≤ b i) :
    ∀ (N : Nat) (i : Nat), i < 10 → v i ≤ (N : Int) → ¬ v i = w i → ∃ i, i < 10 ∧ ¬ v i = w i ∧ ∃ j, j < 10 ∧ v j = w j ∧ 0 < c i j ∧ v i = v j + c i j := by
  intro N
  induction N with
  | zero =>
    intro i hi hN hne
    have h1 := hw i hi
    rcases hs i hi with e | ⟨j, hj, hc, e⟩
    · omega
    · have h2 := hv.1 j hj
      omega
  | succ N ih =>
    intro i hi hN hne
    have h1 := hw i hi
    rcases hs i hi with e | ⟨j, hj, hc, e⟩
    · omega
    · by_cases ej : v j = w j
      · exact ⟨i, hi, hne, j, hj, ej, hc, e⟩
      · exact ih j hj (by omega) ej
theorem rq_K9 (hv : rq_pot c b v) (hs : ∀ i, i < 10 → v i = b i ∨ ∃ j, j < 10 ∧ 0 < c i j ∧ v i = v j + c i j) : rq_K b v 9 b := by
  have hw : ∀ i, i < 10 → v i ≤ b i ∧ b i ≤ b i := fun i hi => ⟨(hv.1 i hi).2, Int.le_refl _⟩
  refine ⟨hw, ?_⟩
  have hex : ∃ i, i < 10 ∧ v i = b i := by
    by_cases e : v 0 = b 0
    · exact ⟨0, by omega, e⟩
    · obtain ⟨_, _, _, j, hj, ej, _⟩ := rq_find hv hs hw (v 0).toNat 0 (by omega) (by omega) e
      exact ⟨j, hj, ej⟩
  obtain ⟨i, hi, e⟩ := hex
  have h1 := rq_cnt_pos (p := fun i => decide (v i = b i)) hi (decide_eq_true e)
  omega
theorem rq_Ks (hv : rq_pot c b v) (hs : ∀ i, i < 10 → v i = b i ∨ ∃ j, j < 10 ∧ 0 < c i j ∧ v i = v j + c i j) {r : Nat} (hK : rq_K b v (r + 1) w) (hR : rq_rnd c w w') : rq_K b v r w' := by
  obtain ⟨hw, hc⟩ := hK
  have hw' : ∀ i, i < 10 → v i ≤ w' i ∧ w' i ≤ b i := fun i hi => by
    have h1 := hR.1 i hi
    have h2 := hw i hi
    have h3 := hR.2.2 v hv.2 (fun i hi => (hw i hi).1) i hi
    omega
  refine ⟨hw', ?_⟩
  have mono : ∀ i, i < 10 → decide (v i = w i) = true → decide (v i = w' i) = true := fun i hi h => by
    have h := of_decide_eq_true h
    have h1 := hR.1 i hi
    have h2 := hw' i hi
    exact decide_eq_true (by omega)
  by_cases hall : ∃ i, i < 10 ∧ ¬ v i = w i
  · obtain ⟨i, hi, hne⟩ := hall
    obtain ⟨a, ha, hane, j, hj, ej, hcj, e⟩ := rq_find hv hs hw (v i).toNat i hi (by omega) hne
    have h1 := hR.2.1 a j ha hj hcj
    have h2 := hw' a ha
    have hlt := rq_cnt_lt (p := fun i => decide (v i = w i)) (q := fun i => decide (v i = w' i)) 10 mono ⟨a, ha, decide_eq_true (by omega), fun q => hane (of_decide_eq_true q)⟩
    omega
  · have hm := rq_cnt_mono (p := fun _ => true) (q := fun i => decide (v i = w' i)) 10 (fun i hi _ => mono i hi (decide_eq_true (Classical.byContradiction (fun q => hall ⟨i, hi, q⟩))))
    have h10 : rq_cnt (fun _ => true) 10 = 10 := rfl
    omega
theorem rq_K0 (hK : rq_K b v 0 w) : ∀ i, i < 10 → v i = w i := fun i hi => of_decide_eq_true (rq_cnt_full (p := fun i => decide (v i = w i)) 10 hK.2 i hi)
end RQK2
/-! leastRank: here as there -/
def rq_W (c : Nat → Nat → Int) (P : Nat → Nat → Prop) (σ σ' : rm_St) : Prop :=
  (∀ q m, q ≠ 14 → σ' q m = σ q m) ∧ (∀ a, a < 10 → 0 ≤ (σ' 14 a).toInt ∧ (σ' 14 a).toInt ≤ (σ 14 a).toInt) ∧
  (∀ a d, a < 10 → d < 10 → P a d → 0 < c a d → (σ' 14 a).toInt ≤ (σ 14 d).toInt + c a d) ∧
  ∀ v, rq_pt c v → (∀ a, a < 10 → v a ≤ (σ 14 a).toInt) → ∀ a, a < 10 → v a ≤ (σ' 14 a).toInt
def rq_B (σ : rm_St) : Prop := ∀ a, a < 10 → 0 ≤ (σ 14 a).toInt ∧ (σ 14 a).toInt ≤ 10000
section RQW2
variable {c : Nat → Nat → Int} {P Q : Nat → Nat → Prop} {σ σ1 σ2 τ : rm_St}
theorem rq_W0 (hB : rq_B σ) : rq_W c (fun _ _ => False) σ σ := ⟨fun _ _ _ => rfl, fun a ha => ⟨(hB a ha).1, Int.le_refl _⟩, fun _ _ _ _ h => h.elim, fun _ _ h => h⟩
theorem rq_Wt (h1 : rq_W c P σ σ1) (h2 : rq_W c Q σ1 σ2) : rq_W c (fun a d => P a d ∨ Q a d) σ σ2 := by
  obtain ⟨p1, p2, p3, p4⟩ := h1
  obtain ⟨q1, q2, q3, q4⟩ := h2
  refine ⟨fun q m h => by rw [q1 q m h, p1 q m h], fun a ha => ⟨(q2 a ha).1, Int.le_trans (q2 a ha).2 (p2 a ha).2⟩, fun a d ha hd h hc => ?_, fun v hv h => q4 v hv (p4 v hv h)⟩
  rcases h with h | h
  · exact Int.le_trans (q2 a ha).2 (p3 a d ha hd h hc)
  · have h1 := q3 a d ha hd h hc
    have h2 := (p2 d hd).2
    omega
theorem rq_Ww (h1 : rq_W c P σ σ1) (h : ∀ a d, a < 10 → d < 10 → Q a d → 0 < c a d → P a d) : rq_W c Q σ σ1 := by
  obtain ⟨p1, p2, p3, p4⟩ := h1
  exact ⟨p1, p2, fun a d ha hd hq hc => p3 a d ha hd (h a d ha hd hq hc) hc, p4⟩
theorem rq_WB (h1 : rq_W c P σ σ1) (hB : rq_B σ) : rq_B σ1 := fun a ha => ⟨(h1.2.1 a ha).1, Int.le_trans (h1.2.1 a ha).2 (hB a ha).2⟩
theorem rq_W1 {i j : Nat} {x : Int32} (hB : rq_B σ) (hi : i < 10) (hj : j < 10) (h1 : x.toInt ≤ (σ 14 i).toInt) (h2 : 0 < c i j → x.toInt ≤ (σ 14 j).toInt + c i j) (h3 : x = σ 14 i ∨ (0 < c i j ∧ x.toInt = (σ 14 j).toInt + c i j)) : rq_W c (fun a d => a = i ∧ d = j) σ (rm_up σ 14 i x) := by
  refine ⟨fun q m h => rm_up_k h, fun a ha => ?_, fun a d ha hd h hc => ?_, fun v hv h a ha => ?_⟩
  · by_cases e : a = i
    · subst e
      rw [rm_up_s]
      refine ⟨?_, h1⟩
      rcases h3 with h3 | ⟨hc, h3⟩
      · rw [h3]
        exact (hB a ha).1
      · have := (hB j hj).1
        omega
    · rw [rm_up_j e]
      exact ⟨(hB a ha).1, Int.le_refl _⟩
  · obtain ⟨rfl, rfl⟩ := h
    rw [rm_up_s]
    exact h2 hc
  · by_cases e : a = i
    · subst e
      rw [rm_up_s]
      rcases h3 with h3 | ⟨hc, h3⟩
      · rw [h3]
        exact h a ha
      · have g1 := hv a j ha hj hc
        have g2 := h j hj
        omega
    · rw [rm_up_j e]
      exact h a ha
theorem rq_add {x y : Int32} (h1 : 0 ≤ x.toInt ∧ x.toInt ≤ 10000) (h2 : 0 ≤ y.toInt ∧ y.toInt ≤ 100) : (x + y).toInt = x.toInt + y.toInt := by
  rw [Int32.toInt_add, Int.bmod_eq_of_le (by omega) (by omega)]
def rq_C (c : Nat → Nat → Int) (σ : rm_St) : Prop := ∀ a d, a < 10 → d < 10 → (σ (15 + a) d).toInt = c a d
def rq_D (c : Nat → Nat → Int) (τ : rm_St) : Prop := ∀ m, m < 100 → (τ 1 m).toInt = c (m % 10) (m / 10)
theorem rq_CW (h : rq_W c P σ σ1) (hC : rq_C c σ) : rq_C c σ1 := fun a d ha hd => by rw [h.1 (15 + a) d (by omega)]; exact hC a d ha hd
theorem rq_DW (h : rq_W c P σ σ1) (hD : rq_D c σ) : rq_D c σ1 := fun m hm => by rw [h.1 1 m (by decide)]; exact hD m hm
theorem rm_lowJ_W (hc : ∀ a d, a < 10 → d < 10 → 0 ≤ c a d ∧ c a d ≤ 100) {i : Nat} (hi : i < 10) : ∀ (r j : Nat) (σ : rm_St), j + r = 10 → rq_C c σ → rq_B σ → rq_W c (fun a d => a = i ∧ j ≤ d) σ (rm_lowJ i r j σ) := by
  intro r
  induction r with
  | zero => intro j σ hj hC hB; exact rq_Ww (rq_W0 hB) (fun a d _ hd q _ => by omega)
  | succ r ih =>
    intro j σ hj hC hB
    have hj10 : j < 10 := by omega
    have ec := hC i j hi hj10
    have hcb := hc i j hi hj10
    by_cases c1 : σ (15 + i) j ≤ 0
    · rw [rm_lowJ, if_pos c1]
      have hle : c i j ≤ 0 := by
        rw [Int32.le_iff_toInt_le, ec, Int32.toInt_zero] at c1
        exact c1
      refine rq_Ww (ih (j + 1) σ (by omega) hC hB) (fun a d _ _ q hcp => ?_)
      by_cases e : d = j
      · obtain ⟨rfl, -⟩ := q
        subst e
        omega
      · exact ⟨q.1, by omega⟩
    · rw [rm_lowJ, if_neg c1]
      have hpos : 0 < c i j := by
        rw [Int32.le_iff_toInt_le, ec, Int32.toInt_zero] at c1
        omega
      have eadd : (σ 14 j + σ (15 + i) j).toInt = (σ 14 j).toInt + c i j := by
        rw [rq_add (hB j hj10) (by rw [ec]; exact hcb), ec]
      have hW : rq_W c (fun a d => a = i ∧ d = j) σ (rm_up σ 14 i (rm_mn (σ 14 i) (σ 14 j + σ (15 + i) j))) := by
        unfold rm_mn
        by_cases c2 : σ 14 j + σ (15 + i) j < σ 14 i
        · rw [if_pos c2]
          rw [Int32.lt_iff_toInt_lt] at c2
          exact rq_W1 hB hi hj10 (by omega) (fun _ => by omega) (Or.inr ⟨hpos, eadd⟩)
        · rw [if_neg c2]
          rw [Int32.lt_iff_toInt_lt] at c2
          exact rq_W1 hB hi hj10 (Int.le_refl _) (fun _ => by omega) (Or.inl rfl)
      generalize rm_up σ 14 i (rm_mn (σ 14 i) (σ 14 j + σ (15 + i) j)) = ρ at hW ⊢
      refine rq_Ww (rq_Wt hW (ih (j + 1) ρ (by omega) (rq_CW hW hC) (rq_WB hW hB))) (fun a d _ _ q _ => ?_)
      by_cases e : d = j
      · exact Or.inl ⟨q.1, e⟩
      · exact Or.inr ⟨q.1, by omega⟩
theorem rm_lowL_W (hc : ∀ a d, a < 10 → d < 10 → 0 ≤ c a d ∧ c a d ≤ 100) : ∀ (r i : Nat) (σ : rm_St), i + r = 10 → rq_C c σ → rq_B σ → rq_W c (fun a _ => i ≤ a) σ (rm_lowL r i σ) := by
  intro r
  induction r with
  | zero => intro i σ hi hC hB; exact rq_Ww (rq_W0 hB) (fun a d ha _ q _ => by omega)
  | succ r ih =>
    intro i σ hi hC hB
    have hW := rm_lowJ_W hc (i := i) (by omega) 10 0 σ rfl hC hB
    rw [rm_lowL]
    generalize rm_lowJ i 10 0 σ = ρ at hW ⊢
    refine rq_Ww (rq_Wt hW (ih (i + 1) ρ (by omega) (rq_CW hW hC) (rq_WB hW hB))) (fun a d _ _ q _ => ?_)
    by_cases e : a = i
    · exact Or.inl ⟨e, Nat.zero_le _⟩
    · exact Or.inr (by omega)
theorem rq_Wr (h : rq_W c P σ σ1) (hP : ∀ a d, a < 10 → d < 10 → P a d) : rq_rnd c (fun i => (σ 14 i).toInt) (fun i => (σ1 14 i).toInt) := ⟨fun i hi => (h.2.1 i hi).2, fun i j hi hj hc => h.2.2.1 i j hi hj (hP i j hi hj) hc, h.2.2.2⟩
theorem rm_lwL_K {b v : Nat → Int} (hc : ∀ a d, a < 10 → d < 10 → 0 ≤ c a d ∧ c a d ≤ 100) (hv : rq_pot c b v) (hs : ∀ i, i < 10 → v i = b i ∨ ∃ j, j < 10 ∧ 0 < c i j ∧ v i = v j + c i j) :
    ∀ (r i : Nat) (σ : rm_St), rq_C c σ → rq_B σ → rq_K b v r (fun i => (σ 14 i).toInt) → (∀ q m, q ≠ 14 → rm_lwL r i σ q m = σ q m) ∧ ∀ i2, i2 < 10 → v i2 = (rm_lwL r i σ 14 i2).toInt := by
  intro r
  induction r with
  | zero => intro i σ hC hB hK; exact ⟨fun _ _ _ => rfl, rq_K0 hK⟩
  | succ r ih =>
    intro i σ hC hB hK
    have hW : rq_W c (fun a _ => 0 ≤ a) σ (rm_lower σ) := rm_lowL_W hc 10 0 σ rfl hC hB
    have E : rm_lwL (r + 1) i σ = rm_lwL r (i + 1) (rm_lower σ) := by rw [rm_lwL]
    rw [E]
    generalize rm_lower σ = ρ at hW ⊢
    obtain ⟨g1, g2⟩ := ih (i + 1) ρ (rq_CW hW hC) (rq_WB hW hB) (rq_Ks hv hs hK (rq_Wr hW (fun a _ _ _ => Nat.zero_le a)))
    exact ⟨fun q m h => by rw [g1 q m h, hW.1 q m h], g2⟩
theorem rm_wayI_v : ∀ (r i : Nat) (σ : rm_St), (∀ q m, q ≠ 14 → rm_wayI r i σ q m = σ q m) ∧ (∀ m, m < i → rm_wayI r i σ 14 m = σ 14 m) ∧ ∀ m, i ≤ m → m < i + r → rm_wayI r i σ 14 m = if σ 5 m = 0 then 10000 else 0 := by
  intro r
  induction r with
  | zero => intro i σ; exact ⟨fun _ _ _ => rfl, fun _ _ => rfl, fun m h1 h2 => by omega⟩
  | succ r ih =>
    intro i σ
    have key : rm_wayI (r + 1) i σ = rm_wayI r (i + 1) (rm_up σ 14 i (if σ 5 i = 0 then 10000 else 0)) := by
      rw [rm_wayI]
      by_cases e : σ 5 i = 0
      · rw [if_pos e, if_pos e]
      · rw [if_neg e, if_neg e]
    rw [key]
    obtain ⟨g1, g2, g3⟩ := ih (i + 1) (rm_up σ 14 i (if σ 5 i = 0 then 10000 else 0))
    refine ⟨fun q m h => by rw [g1 q m h, rm_up_k h], fun m h => by rw [g2 m (by omega), rm_up_j (by omega)], fun m h1 h2 => ?_⟩
    by_cases e : m = i
    · subst e
      rw [g2 m (by omega), rm_up_s]
    · rw [g3 m (by omega) (by omega), rm_up_k (by decide)]
def iv_cf (σ : rm_St) : Nat → Nat → Int := fun a d => (σ (15 + a) d).toInt
def iv_bf (σ : rm_St) : Nat → Int := fun i => if σ 5 i = 0 then 10000 else 0
/-- leastRank: the least potential that the law asks, whatever stood in the rows of ways before -/
theorem iv_least (hM : iv_M σ) : ∃ v : Nat → Int, (∀ i, i < 10 → 0 ≤ v i ∧ v i ≤ iv_bf σ i) ∧ (∀ i j, i < 10 → j < 10 → 0 < (σ (15 + i) j).toInt → v i ≤ v j + (σ (15 + i) j).toInt) ∧
    (∀ i, i < 10 → v i = iv_bf σ i ∨ ∃ j, j < 10 ∧ 0 < (σ (15 + i) j).toInt ∧ v i = v j + (σ (15 + i) j).toInt) ∧
    ∀ σ' : rm_St, (∀ q m, q ≠ 14 → σ' q m = σ q m) → (∀ q m, q ≠ 14 → rm_least σ' q m = σ q m) ∧ ∀ j, j < 10 → (rm_least σ' 14 j).toInt = v j := by
  have hb : ∀ i, i < 10 → 0 ≤ iv_bf σ i := fun i _ => by unfold iv_bf; split <;> decide
  obtain ⟨v, hv, hs⟩ := rq_max (c := iv_cf σ) (b := iv_bf σ) hb
  refine ⟨v, hv.1, hv.2, hs, fun σ' hσ => ?_⟩
  obtain ⟨a1, -, a3⟩ := rm_wayI_v 10 0 σ'
  have e14 : ∀ m, m < 10 → (rm_wayI 10 0 σ' 14 m).toInt = iv_bf σ m := fun m hm => by
    rw [a3 m (by omega) (by omega), hσ 5 m (by decide)]
    unfold iv_bf
    split <;> rfl
  have hB : rq_B (rm_wayI 10 0 σ') := fun m hm => by
    rw [e14 m hm]
    unfold iv_bf
    split <;> decide
  have hc : ∀ a d, a < 10 → d < 10 → 0 ≤ iv_cf σ a d ∧ iv_cf σ a d ≤ 100 := fun a d ha hd => (hM.2.1 a d ha hd).1
  have hC : rq_C (iv_cf σ) (rm_wayI 10 0 σ') := fun a d _ _ => by rw [a1 (15 + a) d (by omega), hσ (15 + a) d (by omega)]; rfl
  have hK : rq_K (iv_bf σ) v 9 (fun i => (rm_wayI 10 0 σ' 14 i).toInt) := by
    have h := rq_K9 hv hs
    refine ⟨fun i hi => ?_, ?_⟩
    · show v i ≤ (rm_wayI 10 0 σ' 14 i).toInt ∧ (rm_wayI 10 0 σ' 14 i).toInt ≤ _
      rw [e14 i hi]
      exact h.1 i hi
    · refine Nat.le_trans h.2 (Nat.add_le_add_right (rq_cnt_mono 10 (fun i hi q => ?_)) 9)
      have q := of_decide_eq_true q
      refine decide_eq_true ?_
      show v i = (rm_wayI 10 0 σ' 14 i).toInt
      rw [e14 i hi]
      exact q
  obtain ⟨g1, g2⟩ := rm_lwL_K hc hv hs 9 1 _ hC hB hK
  refine ⟨fun q m hq => ?_, fun j hj => ?_⟩
  · unfold rm_least
    rw [g1 q m hq, a1 q m hq, hσ q m hq]
  · unfold rm_least
    exact (g2 j hj).symm
end RQW2

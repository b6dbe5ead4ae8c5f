/-! the greatest potential, and rounds that come down to it -/
def rq_pt (c : Nat → Nat → Int) (v : Nat → Int) : Prop := ∀ i j, i < 10 → j < 10 → 0 < c i j → v i ≤ v j + c i j
def rq_pot (c : Nat → Nat → Int) (b v : Nat → Int) : Prop := (∀ i, i < 10 → 0 ≤ v i ∧ v i ≤ b i) ∧ rq_pt c v
def rq_sum (w : Nat → Int) : Nat → Int
  | 0 => 0
  | r + 1 => rq_sum w r + w r
theorem rq_sum_s {w : Nat → Int} {r : Nat} : rq_sum w (r + 1) = rq_sum w r + w r := rfl
theorem rq_sum_le {w b : Nat → Int} : ∀ r, (∀ i, i < r → w i ≤ b i) → rq_sum w r ≤ rq_sum b r := by
  intro r
  induction r with
  | zero => intro _; exact Int.le_refl _
  | succ r ih =>
    intro h
    have h1 := ih (fun i hi => h i (by omega))
    have h2 := h r (by omega)
    rw [rq_sum_s, rq_sum_s]
    omega
def rq_inc (w : Nat → Int) (i : Nat) : Nat → Int := fun j => if j = i then w j + 1 else w j
theorem rq_inc_s {w : Nat → Int} {i : Nat} : rq_inc w i i = w i + 1 := if_pos rfl
theorem rq_inc_n {w : Nat → Int} {i j : Nat} (h : j ≠ i) : rq_inc w i j = w j := if_neg h
theorem rq_sum_inc {w : Nat → Int} {i : Nat} : ∀ r, (i < r → rq_sum (rq_inc w i) r = rq_sum w r + 1) ∧ (r ≤ i → rq_sum (rq_inc w i) r = rq_sum w r) := by
  intro r
  induction r with
  | zero => exact ⟨fun h => by omega, fun _ => rfl⟩
  | succ r ih =>
    rw [rq_sum_s, rq_sum_s]
    refine ⟨fun h => ?_, fun h => ?_⟩
    · by_cases e : i = r
      · subst e
        rw [ih.2 (Nat.le_refl _), rq_inc_s]
        omega
      · rw [ih.1 (by omega), rq_inc_n (fun q => e q.symm)]
        omega
    · rw [ih.2 (by omega), rq_inc_n (by omega)]
theorem rq_max0 {c : Nat → Nat → Int} {b : Nat → Int} : ∀ (d : Nat) (w : Nat → Int), rq_pot c b w → (rq_sum b 10 - rq_sum w 10).toNat ≤ d → ∃ w, rq_pot c b w ∧ ∀ u, rq_pot c b u → rq_sum u 10 ≤ rq_sum w 10 := by
  intro d
  induction d with
  | zero =>
    intro w hw hd
    refine ⟨w, hw, fun u hu => ?_⟩
    have h1 := rq_sum_le 10 (fun i hi => (hu.1 i hi).2)
    omega
  | succ d ih =>
    intro w hw hd
    by_cases hm : ∀ u, rq_pot c b u → rq_sum u 10 ≤ rq_sum w 10
    · exact ⟨w, hw, hm⟩
    · have hex : ∃ u, rq_pot c b u ∧ ¬ rq_sum u 10 ≤ rq_sum w 10 := Classical.byContradiction (fun q => hm (fun u hu => Classical.byContradiction (fun q2 => q ⟨u, hu, q2⟩)))
      obtain ⟨u, hu, hlt⟩ := hex
      exact ih u hu (by omega)
theorem rq_max {c : Nat → Nat → Int} {b : Nat → Int} (hb : ∀ i, i < 10 → 0 ≤ b i) : ∃ w, rq_pot c b w ∧ ∀ i, i < 10 → w i = b i ∨ ∃ j, j < 10 ∧ 0 < c i j ∧ w i = w j + c i j := by
  obtain ⟨w, hw, hm⟩ := rq_max0 (c := c) (b := b) _ (fun _ => 0) ⟨fun i hi => ⟨Int.le_refl _, hb i hi⟩, fun i j _ _ h => by show (0 : Int) ≤ 0 + c i j; omega⟩ (Nat.le_refl _)
  refine ⟨w, hw, fun i hi => Classical.byContradiction (fun q => ?_)⟩
  have q1 : ¬ w i = b i := fun z => q (Or.inl z)
  have q2 : ∀ j, j < 10 → 0 < c i j → ¬ w i = w j + c i j := fun j hj hc z => q (Or.inr ⟨j, hj, hc, z⟩)
  have hs := hm (rq_inc w i) ⟨fun j hj => ?_, fun a d ha hd hc => ?_⟩
  · rw [(rq_sum_inc 10).1 hi] at hs
    omega
  · have h1 := hw.1 j hj
    by_cases e : j = i
    · subst e
      rw [rq_inc_s]
      omega
    · rw [rq_inc_n e]
      exact h1
  · have h1 := hw.2 a d ha hd hc
    by_cases e : a = i
    · subst e
      have h2 := q2 d hd hc
      rw [rq_inc_s]
      by_cases e2 : d = a
      · subst e2
        rw [rq_inc_s]
        omega
      · rw [rq_inc_n e2]
        omega
    · rw [rq_inc_n e]
      by_cases e2 : d = i
      · subst e2
        rw [rq_inc_s]
        omega
      · rw [rq_inc_n e2]
        exact h1
def rq_rnd (c : Nat → Nat → Int) (w w' : Nat → Int) : Prop := (∀ i, i < 10 → w' i ≤ w i) ∧ (∀ i j, i < 10 → j < 10 → 0 < c i j → w' i ≤ w j + c i j) ∧ ∀ v, rq_pt c v → (∀ i, i < 10 → v i ≤ w i) → ∀ i, i < 10 → v i ≤ w' i
def rq_K (b v : Nat → Int) (r : Nat) (w : Nat → Int) : Prop := (∀ i, i < 10 → v i ≤ w i ∧ w i ≤ b i) ∧ 10 ≤ rq_cnt (fun i => decide (v i = w i)) 10 + r
section RQK2
variable {c : Nat → Nat → Int} {b v w w' : Nat → Int}
theorem rq_find (hv : rq_pot c b v) (hs : ∀ i, i < 10 → v i = b i ∨ ∃ j, j < 10 ∧ 0 < c i j ∧ v i = v j + c i j) (hw : ∀ i, i < 10 → v i ≤ w i ∧ w i ≤ b i) :
    ∀ (N : Nat) (i : Nat), i < 10 → v i ≤ (N : Int) → ¬ v i = w i → ∃ i, i < 10 ∧ ¬ v i = w i ∧ ∃ j, j < 10 ∧ v j = w j ∧ 0 < c i j ∧ v i = v j + c i j := by
  intro N
  induction N with
  | zero =>
    intro i hi hN hne
    have h1 := hw i hi
    rcases hs i hi with e | ⟨j, hj, hc, e⟩
    · omega
    · have h2 := hv.1 j hj
      omega
  | succ N ih =>
    intro i hi hN hne
    have h1 := hw i hi
    rcases hs i hi with e | ⟨j, hj, hc, e⟩
    · omega
    · by_cases ej : v j = w j
      · exact ⟨i, hi, hne, j, hj, ej, hc, e⟩
      · exact ih j hj (by omega) ej
theorem rq_K9 (hv : rq_pot c b v) (hs : ∀ i, i < 10 → v i = b i ∨ ∃ j, j < 10 ∧ 0 < c i j ∧ v i = v j + c i j) : rq_K b v 9 b := by
  have hw : ∀ i, i < 10 → v i ≤ b i ∧ b i ≤ b i := fun i hi => ⟨(hv.1 i hi).2, Int.le_refl _⟩
  refine ⟨hw, ?_⟩
  have hex : ∃ i, i < 10 ∧ v i = b i := by
    by_cases e : v 0 = b 0
    · exact ⟨0, by omega, e⟩
    · obtain ⟨_, _, _, j, hj, ej, _⟩ := rq_find hv hs hw (v 0).toNat 0 (by omega) (by omega) e
      exact ⟨j, hj, ej⟩
  obtain ⟨i, hi, e⟩ := hex
  have h1 := rq_cnt_pos (p := fun i => decide (v i = b i)) hi (decide_eq_true e)
  omega
theorem rq_Ks (hv : rq_pot c b v) (hs : ∀ i, i < 10 → v i = b i ∨ ∃ j, j < 10 ∧ 0 < c i j ∧ v i = v j + c i j) {r : Nat} (hK : rq_K b v (r + 1) w) (hR : rq_rnd c w w') : rq_K b v r w' := by
  obtain ⟨hw, hc⟩ := hK
  have hw' : ∀ i, i < 10 → v i ≤ w' i ∧ w' i ≤ b i := fun i hi => by
    have h1 := hR.1 i hi
    have h2 := hw i hi
    have h3 := hR.2.2 v hv.2 (fun i hi => (hw i hi).1) i hi
    omega
  refine ⟨hw', ?_⟩
  have mono : ∀ i, i < 10 → decide (v i = w i) = true → decide (v i = w' i) = true := fun i hi h => by
    have h := of_decide_eq_true h
    have h1 := hR.1 i hi
    have h2 := hw' i hi
    exact decide_eq_true (by omega)
  by_cases hall : ∃ i, i < 10 ∧ ¬ v i = w i
  · obtain ⟨i, hi, hne⟩ := hall
    obtain ⟨a, ha, hane, j, hj, ej, hcj, e⟩ := rq_find hv hs hw (v i).toNat i hi (by omega) hne
    have h1 := hR.2.1 a j ha hj hcj
    have h2 := hw' a ha
    have hlt := rq_cnt_lt (p := fun i => decide (v i = w i)) (q := fun i => decide (v i = w' i)) 10 mono ⟨a, ha, decide_eq_true (by omega), fun q => hane (of_decide_eq_true q)⟩
    omega
  · have hm := rq_cnt_mono (p := fun _ => true) (q := fun i => decide (v i = w' i)) 10 (fun i hi _ => mono i hi (decide_eq_true (Classical.byContradiction (fun q => hall ⟨i, hi, q⟩))))
    have h10 : rq_cnt (fun _ => true) 10 = 10 := rfl
    omega
theorem rq_K0 (hK : rq_K b v 0 w) : ∀ i, i < 10 → v i = w i := fun i hi => of_decide_eq_true (rq_cnt_full (p := fun i => decide (v i = w i)) 10 hK.2 i hi)
end RQK2

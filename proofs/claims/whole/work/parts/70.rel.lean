/-! the two states stand for one another -/
def rq_h (σ τ : rm_St) (n o : Nat) : Prop := σ (15 + n) o = τ 1 (10 * n + o) ∧ (¬ σ (15 + n) o < 0 ∧ σ (15 + n) o ≤ 100) ∧ σ (45 + n) o = τ 13 (10 * n + o) ∧
  ((σ (45 + n) o = -1 ∧ σ (25 + n) o = -1) ∨ (¬ σ (45 + n) o < 0 ∧ σ (45 + n) o ≤ 10000 ∧ σ (25 + n) o = τ 11 (10 * n + o) ∧ σ (35 + n) o = τ 12 (10 * n + o) ∧ (σ (45 + n) o < 10000 → ¬ σ (25 + n) o = -1)))
def rq_n (σ τ : rm_St) (n : Nat) : Prop := (σ 5 n = τ 2 n ∧ σ 6 n = τ 3 n ∧ σ 7 n = τ 4 n ∧ σ 8 n = τ 5 n ∧ σ 9 n = τ 6 n ∧ σ 11 n = τ 7 n ∧ σ 12 n = τ 9 n ∧ σ 13 n = τ 10 n) ∧ (¬ σ 7 n = -1 → σ 10 n = τ 8 n) ∧
  (¬ σ 9 n < 0 ∧ σ 9 n ≤ 10000) ∧ (σ 9 n < 10000 → ¬ σ 7 n = -1) ∧ (σ 11 n = -1 ∨ isNd (σ 11 n) = true) ∧ (σ 5 n = 0 ∨ (σ 5 n = 1 ∧ σ 7 n = nI n ∧ σ 9 n = 0 ∧ σ 11 n = -1 ∧ σ 10 n = 0))
def rq_f (σ τ : rm_St) : Prop := σ 0 0 = τ 0 0 ∧ σ 0 1 = τ 0 1 ∧ σ 0 2 = τ 0 2 ∧ σ 0 3 = τ 0 3 ∧ σ 0 4 = τ 0 4 ∧ σ 0 5 = τ 0 19
def rq (σ τ : rm_St) : Prop := rq_f σ τ ∧ (∀ n, n < 10 → rq_n σ τ n) ∧ (∀ n o, n < 10 → o < 10 → rq_h σ τ n o) ∧ ∀ n o, n < 10 → o < 10 → σ (15 + n) o = σ (15 + o) n
section RQ
variable {σ τ : rm_St} {n o : Nat}
theorem rq_rankBy (h : rq σ τ) (hn : n < 10) (ho : o < 10) : rm_rankBy σ n o = rn_rankBy τ n o := by
  obtain ⟨h1, h2, h3, -⟩ := h.2.2.1 n o hn ho
  unfold rm_rankBy rn_rankBy
  rw [h1, h3]
theorem rq_candL (h : rq σ τ) (hn : n < 10) (t v : Int32) (ht : ¬ t = -1) (e1 : t = τ 11 (10 * n + o)) (e2 : v = τ 12 (10 * n + o)) : ∀ (r i : Nat) (x : Bool), i + r = 10 → rn_candL τ n o r i x = (x && !rm_outdL σ n t v r i) := by
  intro r
  induction r with
  | zero => intro i x _; simp [rn_candL, rm_outdL]
  | succ r ih =>
    intro i x hi
    have hh := (h.2.2.1 n i hn (by omega)).2.2
    unfold rn_candL rm_outdL
    rw [ih _ _ (by omega)]
    cases x with
    | false => simp
    | true =>
      rw [if_pos rfl]
      rcases hh with ⟨g3, ⟨ga, gb⟩ | ⟨ga, -, gc, gd, -⟩⟩
      · rw [← g3, if_pos ga, gb, if_neg (fun q => ht q.symm)]
      · have gm : ¬ τ 13 (10 * n + i) = -1 := fun q => ga (by rw [g3, q]; decide)
        rw [if_neg gm, gc, gd, e1, e2]
        by_cases c1 : τ 11 (10 * n + i) = τ 11 (10 * n + o)
        · rw [if_pos c1, if_pos c1]
          by_cases c2 : τ 12 (10 * n + i) ≤ τ 12 (10 * n + o)
          · rw [if_pos c2, if_neg (fun q => by rw [Int32.lt_iff_toInt_lt] at q; rw [Int32.le_iff_toInt_le] at c2; omega)]
          · rw [if_neg c2, if_pos (by rw [Int32.lt_iff_toInt_lt]; rw [Int32.le_iff_toInt_le] at c2; omega)]
            simp
        · rw [if_neg c1, if_neg c1]
theorem rq_own (h : rq σ τ) (hn : n < 10) (ho : o < 10) (hr : ¬ σ (45 + n) o = -1) : rm_own σ n o = (decide (τ 11 (10 * n + o) = τ 4 n) && decide (τ 12 (10 * n + o) = τ 5 n)) := by
  obtain ⟨-, -, -, hh⟩ := h.2.2.1 n o hn ho
  obtain ⟨⟨-, -, e7, e8, -⟩, -⟩ := h.2.1 n hn
  rcases hh with ⟨ga, -⟩ | ⟨-, -, gc, gd, -⟩
  · exact absurd ga hr
  · unfold rm_own
    rw [gc, gd, e7, e8]
    by_cases c1 : τ 11 (10 * n + o) = τ 4 n <;> by_cases c2 : τ 12 (10 * n + o) = τ 5 n <;> simp [c1, c2]
theorem rq_cand (h : rq σ τ) (hn : n < 10) (ho : o < 10) : rm_cand σ n o = rn_cand τ n o := by
  have hrb := rq_rankBy h hn ho
  obtain ⟨-, -, g3, hh⟩ := h.2.2.1 n o hn ho
  obtain ⟨⟨-, -, e7, e8, e9, -⟩, elow, hrk, -⟩ := h.2.1 n hn
  have e1 := h.1.2.1
  unfold rm_cand rn_cand
  rcases hh with ⟨ga, gb⟩ | ⟨ga, gle, gc, gd, gt⟩
  · rw [if_pos ga, ← g3, ga]
    rfl
  · have gm : ¬ σ (45 + n) o = -1 := fun q => ga (by rw [q]; decide)
    rw [if_neg gm]
    by_cases c1 : 10000 ≤ σ (45 + n) o
    · rw [if_pos c1, ← g3, if_neg]
      unfold isIn
      rw [if_neg ga, if_pos (by rw [Int32.lt_iff_toInt_lt]; rw [Int32.le_iff_toInt_le] at c1; have a1 : (10000 : Int32).toInt = 10000 := rfl; have a2 : (9999 : Int32).toInt = 9999 := rfl; omega)]
      decide
    · have c1' : σ (45 + n) o < 10000 := by rw [Int32.lt_iff_toInt_lt]; rw [Int32.le_iff_toInt_le] at c1; omega
      have htree := gt c1'
      have hIn : isIn (σ (45 + n) o) 0 9999 = true := by
        unfold isIn
        rw [if_neg ga, if_neg (fun q => by rw [Int32.lt_iff_toInt_lt] at q c1'; have a1 : (10000 : Int32).toInt = 10000 := rfl; have a2 : (9999 : Int32).toInt = 9999 := rfl; omega)]
      rw [if_neg c1, ← g3, if_pos hIn, hrb]
      by_cases c2 : rn_rankBy τ n o < 10000
      · rw [if_pos c2, if_pos c2]
        have hL := rq_candL (o := o) h hn (σ (25 + n) o) (σ (35 + n) o) htree gc gd 10 0
        rw [hL true rfl, hL false rfl, Bool.true_and, Bool.false_and]
        unfold rm_outd rm_deep
        rw [rq_own h hn ho gm, hrb]
        generalize rm_outdL σ n (σ (25 + n) o) (σ (35 + n) o) 10 0 = z
        unfold rn_candT
        rw [gc, gd, e7, e8, e9, g3]
        have hrf : τ 5 n ≤ τ 5 n := by rw [Int32.le_iff_toInt_le]; exact Int.le_refl _
        have hlt : ∀ x y : Int32, x < y ↔ ¬ y ≤ x := fun x y => by rw [Int32.lt_iff_toInt_lt, Int32.le_iff_toInt_le]; omega
        by_cases d1 : τ 11 (10 * n + o) = τ 4 n
        · have elow' : σ 10 n = τ 8 n := elow (by rw [e7, ← d1, ← gc]; exact htree)
          rw [elow', e1]
          by_cases d2 : τ 5 n ≤ τ 12 (10 * n + o)
          · by_cases d3 : τ 12 (10 * n + o) = τ 5 n
            · by_cases d4 : τ 6 n = 10000
              · have d4' : (10000 : Int32) ≤ 10000 := by decide
                cases z <;> simp only [hlt, hrf, d1, d2, d3, d4, d4', decide_true, Bool.and_true, Bool.and_false, Bool.not_true, Bool.not_false, not_true, not_false_eq_true, if_true, if_false, Bool.false_eq_true]
              · have d4' : ¬ 10000 ≤ τ 6 n := fun q => d4 (by
                  have h2 := hrk.2
                  rw [e9] at h2
                  rw [Int32.le_iff_toInt_le] at q h2
                  exact Int32.toInt_inj.mp (by omega))
                by_cases d5 : τ 6 n ≤ τ 13 (10 * n + o)
                · cases z <;> simp only [hlt, hrf, d1, d2, d3, d4, d4', d5, decide_true, Bool.and_true, Bool.and_false, Bool.not_true, Bool.not_false, not_true, not_false_eq_true, if_true, if_false, Bool.false_eq_true]
                · by_cases d6 : rn_rankBy τ n o ≤ τ 8 n + τ 0 1
                  · cases z <;> simp only [hlt, hrf, d1, d2, d3, d4, d4', d5, d6, decide_true, Bool.and_true, Bool.and_false, Bool.not_true, Bool.not_false, not_true, not_false_eq_true, if_true, if_false, Bool.false_eq_true]
                  · cases z <;> simp only [hlt, hrf, d1, d2, d3, d4, d4', d5, d6, decide_true, Bool.and_true, Bool.and_false, Bool.not_true, Bool.not_false, not_true, not_false_eq_true, if_true, if_false, Bool.false_eq_true]
            · cases z <;> simp only [hlt, hrf, d1, d2, d3, decide_true, decide_false, Bool.and_true, Bool.and_false, Bool.not_true, Bool.not_false, not_true, not_false_eq_true, if_true, if_false, Bool.false_eq_true]
          · have d3 : ¬ τ 12 (10 * n + o) = τ 5 n := fun q => d2 (by rw [q, Int32.le_iff_toInt_le]; omega)
            cases z <;> simp only [hlt, hrf, d1, d2, d3, decide_true, decide_false, Bool.and_true, Bool.and_false, Bool.not_true, Bool.not_false, not_true, not_false_eq_true, if_true, if_false, Bool.false_eq_true]
        · have d1' : ¬ τ 4 n = τ 11 (10 * n + o) := fun q => d1 q.symm
          cases z <;> simp only [hlt, hrf, d1, d1', decide_false, Bool.false_and, Bool.not_true, Bool.not_false, not_true, not_false_eq_true, if_true, if_false, Bool.false_eq_true]
      · rw [if_neg c2, if_neg c2]
end RQ

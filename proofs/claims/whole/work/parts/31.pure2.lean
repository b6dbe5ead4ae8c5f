/-! what the model's methods do, as functions of its state -/
def isIn (v f t : Int32) : Bool := if v < f then false else if t < v then false else true
theorem isIn_nd (v : Int32) : isIn v 0 9 = isNd v := by
  unfold isIn isNd
  by_cases h : v < 0
  · rw [if_pos h, decide_eq_false (fun q => q h), Bool.false_and]
  · rw [if_neg h, decide_eq_true h, Bool.true_and]
    by_cases h2 : 9 < v
    · rw [if_pos h2]
      symm
      apply decide_eq_false
      intro q
      rw [Int32.lt_iff_toInt_lt] at h2 q
      have e9 : (9 : Int32).toInt = 9 := rfl
      have e10 : (10 : Int32).toInt = 10 := rfl
      omega
    · rw [if_neg h2]
      symm
      apply decide_eq_true
      rw [Int32.lt_iff_toInt_lt] at h2 ⊢
      have e9 : (9 : Int32).toInt = 9 := rfl
      have e10 : (10 : Int32).toInt = 10 := rfl
      omega
theorem isIn_of {v : Int32} (h : isIn v 1 100 = true) : ∃ T : Nat, 1 ≤ T ∧ T ≤ 100 ∧ v = nI T := by
  unfold isIn at h
  by_cases h1 : v < 1
  · rw [if_pos h1] at h; cases h
  · rw [if_neg h1] at h
    by_cases h2 : 100 < v
    · rw [if_pos h2] at h; cases h
    · rw [Int32.lt_iff_toInt_lt] at h1 h2
      have e1 : (1 : Int32).toInt = 1 := rfl
      have e2 : (100 : Int32).toInt = 100 := rfl
      have h0 : ¬ v < 0 := by
        rw [Int32.lt_iff_toInt_lt, Int32.toInt_zero]; omega
      obtain ⟨j, hj, e⟩ := nI_of h0
      rw [e, nI_toInt hj] at h1 h2
      exact ⟨j, by omega, by omega, e⟩
theorem rn_div {j : Nat} (h : j < 2 ^ 31) : nI j / 10 = nI (j / 10) := pk_div (d := 10) h (by decide) (by decide)
theorem rn_rem {j : Nat} (h : j < 2 ^ 31) : nI j - nI j / 10 * 10 = nI (j % 10) := pk_rem (d := 10) h (by decide) (by decide)
/-- every parent is a node or none -/
def rn_ok (σ : rm_St) : Prop := ∀ n, n < 10 → σ 7 n = -1 ∨ isNd (σ 7 n) = true
theorem rn_ok_up {σ : rm_St} {k j : Nat} {v : Int32} (h : rn_ok σ) (hk : k ≠ 7) : rn_ok (rm_up σ k j v) := fun n hn => by
  rw [rm_up_k (Ne.symm hk)]
  exact h n hn
theorem rn_ok_m1 {σ : rm_St} {j : Nat} (h : rn_ok σ) : rn_ok (rm_up σ 7 j (-1)) := fun n hn => by
  by_cases e : n = j
  · subst e
    exact Or.inl (rm_up_s _ _ _ _)
  · rw [rm_up_j e]
    exact h n hn
theorem rn_ok_nI {σ : rm_St} {j o : Nat} (h : rn_ok σ) (ho : o < 10) : rn_ok (rm_up σ 7 j (nI o)) := fun n hn => by
  by_cases e : n = j
  · subst e
    rw [rm_up_s]
    exact Or.inr (isNd_nI ho)
  · rw [rm_up_j e]
    exact h n hn
def rn_resets (σ : rm_St) (n : Nat) : rm_St := rm_up (rm_up σ 9 n (σ 0 2)) 10 n ((rm_up σ 9 n (σ 0 2)) 0 4 + (rm_up σ 9 n (σ 0 2)) 0 2)
def rn_rankBy (σ : rm_St) (n o : Nat) : Int32 := σ 13 (10 * n + o) + σ 1 (10 * n + o)
def rn_candL (σ : rm_St) (n o : Nat) : Nat → Nat → Bool → Bool
  | 0, _, x => x
  | r + 1, i, x => rn_candL σ n o r (i + 1) (if x = true then (if σ 13 (10 * n + i) = -1 then true else if σ 11 (10 * n + i) = σ 11 (10 * n + o) then (if σ 12 (10 * n + o) < σ 12 (10 * n + i) then false else true) else true) else false)
def rn_candT (σ : rm_St) (n o : Nat) (own x : Bool) : Bool :=
  if own = true then (if σ 12 (10 * n + o) = σ 5 n then (if 10000 ≤ σ 6 n then x else if x = true then (if σ 6 n ≤ σ 13 (10 * n + o) then false else if σ 8 n + σ 0 1 < rn_rankBy σ n o then false else true) else false) else x) else x
def rn_cand (σ : rm_St) (n o : Nat) : Bool :=
  if isIn (σ 13 (10 * n + o)) 0 9999 = true then (if rn_rankBy σ n o < 10000 then
    (if σ 11 (10 * n + o) = σ 4 n then (if σ 12 (10 * n + o) < σ 5 n then rn_candT σ n o true (rn_candL σ n o 10 0 false) else rn_candT σ n o true (rn_candL σ n o 10 0 true)) else rn_candT σ n o false (rn_candL σ n o 10 0 true)) else false) else false
def rn_tk1 (σ : rm_St) (n o : Nat) : rm_St := rm_up σ 7 n (nI o)
def rn_tk2 (σ : rm_St) (n o : Nat) : rm_St := rm_up (rn_tk1 σ n o) 4 n (rn_tk1 σ n o 11 (10 * n + o))
def rn_tk3 (σ : rm_St) (n o : Nat) : rm_St := rm_up (rn_tk2 σ n o) 5 n (rn_tk2 σ n o 12 (10 * n + o))
def rn_tk (σ : rm_St) (n o : Nat) : rm_St := rm_up (rn_tk3 σ n o) 6 n (rn_rankBy (rn_tk3 σ n o) n o)
def rn_takes (σ : rm_St) (n o : Nat) : rm_St :=
  if σ 11 (10 * n + o) = σ 4 n then (if σ 12 (10 * n + o) = σ 5 n then (if rn_tk σ n o 8 n ≤ rn_tk σ n o 6 n then rm_up (rn_tk σ n o) 8 n (rn_tk σ n o 8 n) else rm_up (rn_tk σ n o) 8 n (rn_tk σ n o 6 n)) else rm_up (rn_tk σ n o) 8 n (rn_tk σ n o 6 n)) else rm_up (rn_tk σ n o) 8 n (rn_tk σ n o 6 n)
def rn_bestL (σ : rm_St) (n : Nat) : Nat → Nat → Int32 → Int32
  | 0, _, b => b
  | r + 1, i, b => if rn_cand σ n i = true then (if b = -1 then rn_bestL σ n r (i + 1) (nI i) else if rn_rankBy σ n b.toNatClampNeg ≤ rn_rankBy σ n i then rn_bestL σ n r (i + 1) b else rn_bestL σ n r (i + 1) (nI i)) else rn_bestL σ n r (i + 1) b
def rn_best (σ : rm_St) (n : Nat) : Int32 := rn_bestL σ n 10 0 (-1)
def rn_pick (σ : rm_St) (n : Nat) (b : Int32) : Int32 :=
  if b = -1 then b else if σ 7 n = -1 then b else if rn_cand σ n (σ 7 n).toNatClampNeg = true then
    (if rn_rankBy σ n (σ 7 n).toNatClampNeg - rn_rankBy σ n b.toNatClampNeg < σ 0 0 then σ 7 n else if rn_rankBy σ n (σ 7 n).toNatClampNeg - rn_rankBy σ n b.toNatClampNeg < 1 then σ 7 n else b) else b
theorem rn_pick_ok {σ : rm_St} {n : Nat} {b : Int32} (h1 : b = -1 ∨ isNd b = true) (h2 : σ 7 n = -1 ∨ isNd (σ 7 n) = true) : rn_pick σ n b = -1 ∨ isNd (rn_pick σ n b) = true := by
  unfold rn_pick
  repeat' split
  all_goals first | exact h1 | exact h2
def rn_after (σ : rm_St) (n : Nat) (b : Int32) : rm_St := if b = -1 then rm_up (rm_up σ 7 n (-1)) 6 n 10000 else rn_takes σ n b.toNatClampNeg
def rn_chooseT (σ τ : rm_St) (n : Nat) : rm_St :=
  if τ 4 n = σ 4 n then (if τ 5 n = σ 5 n then (if τ 6 n = σ 6 n then (if τ 7 n = σ 7 n then τ else rn_resets τ n) else rn_resets τ n) else rn_resets τ n) else rn_resets τ n
def rn_chooses (σ : rm_St) (n : Nat) : rm_St :=
  if σ 2 n = 0 then rn_chooseT σ (rn_after σ n (rn_pick σ n (rn_best σ n))) n else σ
theorem rn_best_ok {σ : rm_St} {n : Nat} : ∀ (r i : Nat) (b : Int32), i + r = 10 → (b = -1 ∨ isNd b = true) → rn_bestL σ n r i b = -1 ∨ isNd (rn_bestL σ n r i b) = true := by
  intro r
  induction r with
  | zero => intro i b _ h; exact h
  | succ r ih =>
    intro i b hi h
    have hn : nI i = -1 ∨ isNd (nI i) = true := Or.inr (isNd_nI (by omega))
    unfold rn_bestL
    repeat' split
    all_goals first | exact ih _ _ (by omega) h | exact ih _ _ (by omega) hn
theorem rn_ok_resets {σ : rm_St} {n : Nat} (h : rn_ok σ) : rn_ok (rn_resets σ n) := rn_ok_up (rn_ok_up h (by decide)) (by decide)
theorem rn_ok_takes {σ : rm_St} {n o : Nat} (h : rn_ok σ) (ho : o < 10) : rn_ok (rn_takes σ n o) := by
  have h4 : rn_ok (rn_tk σ n o) := rn_ok_up (rn_ok_up (rn_ok_up (rn_ok_nI h ho) (by decide)) (by decide)) (by decide)
  unfold rn_takes
  repeat' split
  all_goals exact rn_ok_up h4 (by decide)
theorem rn_ok_after {σ : rm_St} {n : Nat} {b : Int32} (h : rn_ok σ) (hb : b = -1 ∨ isNd b = true) : rn_ok (rn_after σ n b) := by
  unfold rn_after
  split
  · exact rn_ok_up (rn_ok_m1 h) (by decide)
  · next hne =>
    obtain ⟨o, ho, rfl⟩ := isNd_of (hb.resolve_left hne)
    rw [rm_cl ho]
    exact rn_ok_takes h ho
theorem rn_ok_ch {σ : rm_St} {n : Nat} (h : rn_ok σ) (hn : n < 10) : rn_ok (rn_chooses σ n) := by
  have h1 : rn_ok (rn_after σ n (rn_pick σ n (rn_best σ n))) := rn_ok_after h (rn_pick_ok (rn_best_ok 10 0 (-1) rfl (Or.inl rfl)) (h n hn))
  unfold rn_chooses rn_chooseT
  repeat' split
  all_goals first | exact h | exact h1 | exact rn_ok_resets h1
def rn_hear (σ : rm_St) (t i : Nat) : rm_St :=
  rm_up (rm_up (rm_up σ 11 (10 * i + t) (σ 4 t)) 12 (10 * i + t) ((rm_up σ 11 (10 * i + t) (σ 4 t)) 5 t)) 13 (10 * i + t) ((rm_up (rm_up σ 11 (10 * i + t) (σ 4 t)) 12 (10 * i + t) ((rm_up σ 11 (10 * i + t) (σ 4 t)) 5 t)) 6 t)
theorem rn_ok_hear {σ : rm_St} {t i : Nat} (h : rn_ok σ) : rn_ok (rn_hear σ t i) := rn_ok_up (rn_ok_up (rn_ok_up h (by decide)) (by decide)) (by decide)
def rn_tellL (t : Nat) : Nat → Nat → rm_St → rm_St
  | 0, _, σ => σ
  | r + 1, i, σ => if σ 1 (10 * t + i) ≤ 0 then rn_tellL t r (i + 1) σ else rn_tellL t r (i + 1) (rn_chooses (rn_hear σ t i) i)
def rn_tells (σ : rm_St) (t : Nat) : rm_St := rn_tellL t 10 0 σ
theorem rn_ok_tellL {t : Nat} : ∀ (r i : Nat) (σ : rm_St), i + r = 10 → rn_ok σ → rn_ok (rn_tellL t r i σ) := by
  intro r
  induction r with
  | zero => intro i σ _ h; exact h
  | succ r ih =>
    intro i σ hi h
    unfold rn_tellL
    split
    · exact ih _ _ (by omega) h
    · exact ih _ _ (by omega) (rn_ok_ch (rn_ok_hear h) (by omega))
theorem rn_ok_tells {σ : rm_St} {t : Nat} (h : rn_ok σ) : rn_ok (rn_tells σ t) := rn_ok_tellL 10 0 σ rfl h
def rn_beg1 (σ : rm_St) (n : Nat) : rm_St := rm_up (rm_up σ 3 n (σ 3 n + 1)) 4 n (nI n)
def rn_begins (σ : rm_St) (n : Nat) : rm_St := rn_resets (rm_up (rm_up (rm_up (rm_up (rn_beg1 σ n) 5 n (rn_beg1 σ n 3 n)) 6 n 0) 7 n (-1)) 8 n 0) n
theorem rn_ok_begins {σ : rm_St} {n : Nat} (h : rn_ok σ) : rn_ok (rn_begins σ n) :=
  rn_ok_resets (rn_ok_up (rn_ok_m1 (rn_ok_up (rn_ok_up (rn_ok_up (rn_ok_up h (by decide)) (by decide)) (by decide)) (by decide))) (by decide))
def rn_g (σ : rm_St) : Int32 := σ 0 2 <<< (σ 0 3 &&& 31)
def rn_len0 (σ : rm_St) (n : Nat) : rm_St := if 2 * σ 9 n ≤ rn_g σ then rm_up σ 9 n (2 * σ 9 n) else rm_up σ 9 n (rn_g σ)
def rn_len2 (σ : rm_St) (n : Nat) : rm_St := rm_up (rn_len0 σ n) 10 n (rn_len0 σ n 0 4 + rn_len0 σ n 9 n)
theorem rn_ok_len {σ : rm_St} {n : Nat} (h : rn_ok σ) : rn_ok (rn_len2 σ n) := by
  refine rn_ok_up ?_ (by decide)
  unfold rn_len0
  split
  all_goals exact rn_ok_up h (by decide)
def rn_tickL : Nat → Nat → Int32 → rm_St → rm_St × Int32
  | 0, _, x, σ => (σ, x)
  | r + 1, i, x, σ => if σ 10 i = σ 0 4 then rn_tickL r (i + 1) (x + 1) (rn_len2 (rn_tells σ i) i) else rn_tickL r (i + 1) x σ
def rn_passL : Nat → Nat → Int32 → rm_St → rm_St × Int32
  | 0, _, x, σ => (σ, x)
  | r + 1, t, x, σ => rn_passL r (t + 1) (rn_tickL 10 0 x (rm_up σ 0 4 (σ 0 4 + 1))).2 (rn_tickL 10 0 x (rm_up σ 0 4 (σ 0 4 + 1))).1
def rn_pass (σ : rm_St) (v : Int32) : rm_St × Int32 :=
  if isIn v 1 100 = true then rn_passL v.toNatClampNeg 0 0 (rm_up σ 0 20 0) else (rm_up σ 0 20 1, 0)
/-! the calls of the face -/
def rn_of (σ : rm_St) (q : Nat) (v : Int32) : Int32 := if isNd v = true then rm_up σ 0 20 0 q v.toNatClampNeg else 0
def rn_t1 (σ : rm_St) (v : Int32) : rm_St := if isNd v = true then rm_up σ 0 20 0 else rm_up σ 0 20 1
def rn_setRules (σ : rm_St) (x y z w : Int32) : rm_St :=
  if isIn x 0 100 = true then (if isIn y 0 10000 = true then (if isIn z 1 8 = true then (if isIn w 0 6 = true then
    rm_up (rm_up (rm_up (rm_up (rm_up σ 0 20 0) 0 0 x) 0 1 y) 0 2 z) 0 3 w else rm_up σ 0 20 1) else rm_up σ 0 20 1) else rm_up σ 0 20 1) else rm_up σ 0 20 1
def rn_lnk (σ : rm_St) (n o : Nat) (v : Int32) : rm_St :=
  if v = 0 then rm_up (rm_up (rm_up (rm_up σ 1 (10 * n + o) v) 1 (10 * o + n) v) 13 (10 * n + o) (-1)) 13 (10 * o + n) (-1) else rm_up (rm_up σ 1 (10 * n + o) v) 1 (10 * o + n) v
def rn_link (σ : rm_St) (x y v : Int32) : rm_St × Int32 :=
  if isNd x = true then (if isNd y = true then (if x = y then (rm_up σ 0 20 2, 0) else if isIn v 0 100 = true then
    (rn_chooses (rn_chooses (rn_lnk (rm_up σ 0 20 0) x.toNatClampNeg y.toNatClampNeg v) x.toNatClampNeg) y.toNatClampNeg, (rm_up σ 0 20 0) 1 (10 * x.toNatClampNeg + y.toNatClampNeg)) else (rm_up σ 0 20 2, 0)) else (rm_up σ 0 20 1, 0)) else (rm_up σ 0 20 1, 0)
def rn_makeRoot (σ : rm_St) (x : Int32) : rm_St × Int32 :=
  if isNd x = true then (if σ 2 x.toNatClampNeg = 0 then (rn_begins (rm_up (rm_up σ 0 20 0) 2 x.toNatClampNeg 1) x.toNatClampNeg, rn_begins (rm_up (rm_up σ 0 20 0) 2 x.toNatClampNeg 1) x.toNatClampNeg 5 x.toNatClampNeg) else (rm_up σ 0 20 2, 0)) else (rm_up σ 0 20 1, 0)
def rn_endS (σ : rm_St) (n : Nat) : rm_St := rn_resets (rm_up (rm_up (rm_up (rm_up σ 2 n 0) 4 n (-1)) 5 n 0) 6 n 10000) n
def rn_endRoot (σ : rm_St) (x : Int32) : rm_St :=
  if isNd x = true then (if σ 2 x.toNatClampNeg = 0 then rm_up σ 0 20 2 else rn_chooses (rn_endS (rm_up σ 0 20 0) x.toNatClampNeg) x.toNatClampNeg) else rm_up σ 0 20 1
def rn_renew (σ : rm_St) (x : Int32) : rm_St × Int32 :=
  if isNd x = true then (if σ 2 x.toNatClampNeg = 0 then (rm_up σ 0 20 2, 0) else (rn_begins (rm_up σ 0 20 0) x.toNatClampNeg, rn_begins (rm_up σ 0 20 0) x.toNatClampNeg 5 x.toNatClampNeg)) else (rm_up σ 0 20 1, 0)
def rn_tree (σ : rm_St) (x : Int32) : Int32 := if isNd x = true then (if rm_up σ 0 20 0 4 x.toNatClampNeg = -1 then -1 else 10 * rm_up σ 0 20 0 5 x.toNatClampNeg + rm_up σ 0 20 0 4 x.toNatClampNeg) else 0
def rn_t2 (σ : rm_St) (x y : Int32) : rm_St := if isNd x = true then (if isNd y = true then rm_up σ 0 20 0 else rm_up σ 0 20 1) else rm_up σ 0 20 1
def rn_heard (σ : rm_St) (x y : Int32) : Int32 := if isNd x = true then (if isNd y = true then rm_up σ 0 20 0 13 (10 * x.toNatClampNeg + y.toNatClampNeg) else 0) else 0
def rn_wayI : Nat → Nat → rm_St → rm_St
  | 0, _, σ => σ
  | r + 1, i, σ => if σ 2 i = 0 then rn_wayI r (i + 1) (rm_up σ 14 i 10000) else rn_wayI r (i + 1) (rm_up σ 14 i 0)
def rn_rel (σ : rm_St) (j : Nat) : rm_St :=
  if σ 1 j ≤ 0 then rm_up σ 14 (j % 10) (σ 14 (j % 10)) else if 10000 ≤ σ 14 (j / 10) then rm_up σ 14 (j % 10) (σ 14 (j % 10)) else if σ 14 (j % 10) ≤ σ 14 (j / 10) + σ 1 j then rm_up σ 14 (j % 10) (σ 14 (j % 10)) else rm_up σ 14 (j % 10) (σ 14 (j / 10) + σ 1 j)
def rn_relL : Nat → Nat → rm_St → rm_St
  | 0, _, σ => σ
  | r + 1, j, σ => rn_relL r (j + 1) (rn_rel σ j)
def rn_lrL : Nat → Nat → rm_St → rm_St
  | 0, _, σ => σ
  | r + 1, i, σ => rn_lrL r (i + 1) (rn_relL 100 0 σ)
def rn_leastRank (σ : rm_St) (x : Int32) : rm_St × Int32 :=
  if isNd x = true then (rn_lrL 10 0 (rn_wayI 10 0 (rm_up σ 0 20 0)), rn_lrL 10 0 (rn_wayI 10 0 (rm_up σ 0 20 0)) 14 x.toNatClampNeg) else (rm_up σ 0 20 1, 0)
def rn_undL (σ : rm_St) : Nat → Nat → Int32 → Int32
  | 0, _, x => x
  | r + 1, i, x => if σ 7 i = -1 then rn_undL σ r (i + 1) (x ||| 0) else if (x >>> (σ 7 i &&& 31)) &&& 1 = 1 then rn_undL σ r (i + 1) (x ||| ((1 : Int32) <<< (nI i &&& 31))) else rn_undL σ r (i + 1) (x ||| 0)
def rn_undO (σ : rm_St) : Nat → Nat → Int32 → Int32
  | 0, _, x => x
  | r + 1, t, x => rn_undO σ r (t + 1) (rn_undL σ 10 0 x)
def rn_under (σ : rm_St) (n : Nat) : Int32 := rn_undO σ 10 0 ((1 : Int32) <<< (nI n &&& 31))
def rn_below (σ : rm_St) (x : Int32) : Int32 := if isNd x = true then rn_under (rm_up σ 0 20 0) x.toNatClampNeg else 0
/-! the model's two static tests -/
set_option maxHeartbeats 4000000 in
set_option maxRecDepth 100000 in
theorem kX1_isIn (l : Launch) (v f t : Int32) : rm_SI l yX1_isIn wsX1_isIn ({ frames := 0, cells := 0, slots := 0, locals := 0 }) [.int v, .int f, .int t] (bI (isIn v f t)) := by
  refine Met.ofW (cc := cX1_isIn) (maxL := 3) (ret := (some .boolean)) (by decide) rfl ?_
  intro p e s m args below meth c s₁ B hml hv
  obtain ⟨rfl, -⟩ := hv
  have hx := B.exec
  have hb := B.bytes
  have hr := B.returns
  have hlocks := B.notSynchronized
  have hl := lv_entry ([.int v, .int f, .int t]) (n := 3) (Nat.le_of_ble_eq_true rfl)
  rw [lg_entry_eq]
  generalize (lg_sl ([.int v, .int f, .int t]) ++ List.replicate (3 - (lg_sl ([.int v, .int f, .int t])).length) Slot.unset).toArray = ls at hl ⊢
  have hl : lv_has ls 3 [(0, .int v), (1, .int f), (2, .int t)] := hl
  have fin : ∀ {t : State}, t.heap = s.heap → va_F (fun _ => False) s t := fun ht => ⟨by rw [ht]; exact Nat.le_refl _, fun q _ _ => by rw [ht]⟩
  refine lv_iload_n hx hb dX1_isIn_0 rfl (lv_at hl 0 rfl) ?_
  refine lv_iload_n hx hb dX1_isIn_1 rfl (lv_at hl 1 rfl) ?_
  refine lv_icmp_lt (tgt := 14) hx hb dX1_isIn_2 (by decide) (fun c1 => ?_) (fun c1 => ?_)
  · refine lv_iconst (v := 0) hx hb dX1_isIn_14 (by decide) ?_
    exact W.zret (v := 0) hx hb hr (by decide) (fun t ht hW => ⟨⟨0, (), rfl, by rw [isIn, if_pos c1]; rfl, trivial⟩, fin ht⟩) (fun q h => nomatch h) dX1_isIn_15 hlocks
  · refine lv_iload_n hx hb dX1_isIn_5 rfl (lv_at hl 0 rfl) ?_
    refine lv_iload_n hx hb dX1_isIn_6 rfl (lv_at hl 2 rfl) ?_
    refine lv_icmp_gt (tgt := 14) hx hb dX1_isIn_7 (by decide) (fun c2 => ?_) (fun c2 => ?_)
    · refine lv_iconst (v := 0) hx hb dX1_isIn_14 (by decide) ?_
      exact W.zret (v := 0) hx hb hr (by decide) (fun t ht hW => ⟨⟨0, (), rfl, by rw [isIn, if_neg c1, if_pos c2]; rfl, trivial⟩, fin ht⟩) (fun q h => nomatch h) dX1_isIn_15 hlocks
    · refine lv_iconst (v := 1) hx hb dX1_isIn_10 (by decide) ?_
      refine lv_goto (tgt := 15) hx hb dX1_isIn_11 (by decide) ?_
      exact W.zret (v := 1) hx hb hr (by decide) (fun t ht hW => ⟨⟨1, (), rfl, by rw [isIn, if_neg c1, if_neg c2]; rfl, trivial⟩, fin ht⟩) (fun q h => nomatch h) dX1_isIn_15 hlocks
set_option maxHeartbeats 4000000 in
set_option maxRecDepth 100000 in
theorem kX1_isNode (l : Launch) (v : Int32) : rm_SI l yX1_isNode wsX1_isNode ({ frames := 1, cells := 0, slots := 0, locals := 22 }) [.int v] (bI (isNd v)) := by
  refine Met.ofW (cc := cX1_isNode) (maxL := 1) (ret := (some .boolean)) (by decide) rfl ?_
  intro p e s m args below meth c s₁ B hml hv
  obtain ⟨rfl, -⟩ := hv
  have hx := B.exec
  have hb := B.bytes
  have hr := B.returns
  have hlocks := B.notSynchronized
  have hts := atoms_spec (ws := wsX1_isNode) B.pre
  have hown : s.vm.findClass RX1 = some m.cls := findClass_of_methodNamed B.named
  have hl := lv_entry ([.int v]) (n := 1) (Nat.le_of_ble_eq_true rfl)
  rw [lg_entry_eq]
  generalize (lg_sl ([.int v]) ++ List.replicate (1 - (lg_sl ([.int v])).length) Slot.unset).toArray = ls at hl ⊢
  have hl : lv_has ls 1 [(0, .int v)] := hl
  have hS : va_S (fun _ => False) s.heap s.heap [] := va_S.rf
  refine lv_iload_n hx hb dX1_isNode_0 rfl (lv_at hl 0 rfl) ?_
  refine lv_iconst (v := 0) hx hb dX1_isNode_1 (by decide) ?_
  refine lv_bipush (v := 9) hx hb dX1_isNode_2 (by decide) ?_
  refine rm_callSI0 (own := RX1) ⟨hx, hb, hml, hown, hts⟩ hS (As := [.int v, .int 0, .int 9]) (rest := []) (kX1_isIn l v 0 9) (va_cwS 3 hts gX1_isNode_X1_isIn rfl rfl rfl (by decide +kernel) ⟨Nat.le_of_ble_eq_true rfl, Nat.le_of_ble_eq_true rfl⟩) rfl hl.1 rfl (lv_room (Nat.le_of_ble_eq_true rfl)) dX1_isNode_4 ⟨Nat.zero_le _, Nat.zero_le _⟩ (fun H locs hk hS => ?_)
  rw [isIn_nd]
  exact W.zret (v := bI (isNd v)) hx hb hr (bI_nar _) (fun t ht hW => ⟨⟨bI (isNd v), (), rfl, rfl, trivial⟩, hS.F ht⟩) hS.2.2 dX1_isNode_7 hlocks

/-! down: here as there; what the loop asks of the model; the two initial states -/
section RQY
variable {σ τ : rm_St} {n : Nat}
theorem rq_dnL (h : rq σ τ) (hn : n < 10) : ∀ (k o : Nat), o < 10 → o ≠ n → rq_R (τ 7) n k o = true → ∀ (r i : Nat), k ≤ r → rm_dnL σ (nI n) r i (nI o) = some (rn_dnL τ (nI n) r o) ∧ rn_dnOK τ (nI n) r o := by
  intro k
  induction k with
  | zero => intro o ho hne hR; exact absurd (of_decide_eq_true hR) hne
  | succ k ih =>
    intro o ho hne hR r i hr
    rcases rq_R_of hR with hR | ⟨p, hp, e, hR⟩
    · exact ih o ho hne hR r i (by omega)
    · obtain ⟨r, rfl⟩ : ∃ r', r = r' + 1 := ⟨r - 1, by omega⟩
      have e' : σ 11 o = nI p := by rw [rq_par h o ho, e]
      by_cases c : p = n
      · rw [c] at e e'
        refine ⟨?_, fun q => absurd e q⟩
        rw [rm_dnL, if_pos (isNd_nI ho), rm_cl ho, if_pos e', rn_dnL, if_pos e]
      · have hne2 : ¬ nI p = nI n := fun q => c ((nI_eq (by omega) (by omega)).mp q)
        obtain ⟨g1, g2⟩ := ih p hp c hR r (i + 1) (by omega)
        refine ⟨?_, fun _ => ⟨by rw [e]; exact isNd_nI hp, by rw [e, rm_cl hp]; exact g2⟩⟩
        rw [rm_dnL, if_pos (isNd_nI ho), rm_cl ho, if_neg (by rw [e']; exact hne2), e', g1, rn_dnL, if_neg (by rw [e]; exact hne2), e, rm_cl hp]
theorem rm_dnL_m {f : Int32} : ∀ (r i : Nat), rm_dnL σ f r i (-1) = none := by
  intro r i
  cases r with
  | zero => rfl
  | succ r => rw [rm_dnL, if_neg (by decide)]
theorem rq_dnN (h : rq σ τ) (hn : n < 10) : ∀ (r i o : Nat), o < 10 → ¬ rm_dnL σ (nI n) r i (nI o) = none → rq_R (τ 7) n r o = true := by
  intro r
  induction r with
  | zero => intro i o _ hq; exact absurd rfl hq
  | succ r ih =>
    intro i o ho hq
    rw [rm_dnL, if_pos (isNd_nI ho), rm_cl ho] at hq
    have e := rq_par h o ho
    by_cases c : σ 11 o = nI n
    · rw [e] at c
      exact rq_R_le (a := 1) (by omega) (rq_R_par (k := 0) hn c (decide_eq_true rfl))
    · rw [if_neg c] at hq
      rcases rq_okn h o ho with hp | hp
      · rw [e, hp, rm_dnL_m] at hq
        exact absurd rfl hq
      · obtain ⟨p, hp, ep⟩ := isNd_of hp
        rw [e, ep] at hq
        exact rq_R_par hp ep (ih (i + 1) p hp hq)
theorem rq_row7 {v : Int32} : rm_up τ 0 20 v 7 = τ 7 := rm_up_row_ne (by decide)
theorem rq_g_down : rw_g_down rq := fun σ τ h p0 p1 => by
  unfold rn_downS rm_tDown
  by_cases c0 : isNd p0 = true
  · rw [if_pos c0, show rm_tN p0 = none from if_pos c0, rm_or_n]
    by_cases c1 : isNd p1 = true
    · rw [if_pos c1, show rm_tN p1 = none from if_pos c1, rm_or_n]
      by_cases c2 : p0 = p1
      · rw [if_pos c2, if_pos c2, rl_c2_S]
        exact rq_no h
      · rw [if_neg c2, if_neg c2]
        obtain ⟨i, hi, rfl⟩ := isNd_of c0
        obtain ⟨j, hj, rfl⟩ := isNd_of c1
        rw [rm_cl hi, rm_cl hj]
        have hij : j ≠ i := fun q => c2 (by rw [q])
        have hb : (rn_under τ i >>> (nI j &&& 31)) &&& 1 = 1 ↔ rq_R (τ 7) i 9 j = true := by rw [qb_t1 hj, rn_under_b (rq_okn h) hi, decide_eq_true hj, Bool.true_and]
        by_cases c3 : rq_R (τ 7) i 9 j = true
        · have ht : rq σ (rm_up τ 0 20 0) := rq_thr h
          obtain ⟨g1, g2⟩ := rq_dnL ht hi 9 j hj hij (by rw [rq_row7]; exact c3) 10 0 (by omega)
          rw [if_pos (hb.mpr c3), g1, if_neg (fun q => by cases q)]
          exact ⟨(show rm_up τ 0 20 0 0 20 = 0 from rm_up_s _ _ _ _), fun _ => rfl, ht⟩
        · have hN : rm_dnL σ (nI i) 10 0 (nI j) = none := by
            by_cases c4 : rm_dnL σ (nI i) 10 0 (nI j) = none
            · exact c4
            · exact absurd (rq_R_9 hi j hj (rq_dnN h hi 10 0 j hj c4)) c3
          rw [if_neg (fun q => c3 (hb.mp q)), hN, if_pos rfl, rl_c2_S]
          exact rq_no h
    · rw [if_neg c1, show rm_tN p1 = some rm_IO from if_neg c1, rm_or_s, rl_c2_1]
      exact rq_no h
  · rw [if_neg c0, show rm_tN p0 = some rm_IO from if_neg c0, rm_or_s, rl_c2_1]
    exact rq_no h
theorem rq_g_0 : rw_g_0 rq := fun σ τ h => ⟨rq_okn h, fun n hn => rq_upOK (rq_thr h) hn, fun n o hn ho hne hb => by
    have ht : rq σ (rm_up τ 0 20 0) := rq_thr h
    rw [qb_t1 ho, rn_under_b (rq_okn h) hn, decide_eq_true ho, Bool.true_and] at hb
    exact (rq_dnL ht hn 9 o ho (fun q => hne (by rw [q])) (by rw [rq_row7]; exact hb) 10 0 (by omega)).2,
  h.1.2.2.2.2.1, h.1.2.2.2.2.2, rq_thr h⟩
end RQY
set_option maxRecDepth 100000 in
theorem rq_ini_f : rq_f rm_ini rn_ini := by
  unfold rq_f
  decide +kernel
set_option maxRecDepth 100000 in
theorem rq_ini_n : ∀ n, n < 10 → rq_n rm_ini rn_ini n := by
  unfold rq_n
  decide +kernel
set_option maxRecDepth 100000 in
theorem rq_ini_h : ∀ n, n < 10 → ∀ o, o < 10 → rq_h rm_ini rn_ini n o := by
  unfold rq_h
  decide +kernel
set_option maxRecDepth 100000 in
theorem rq_ini_s : ∀ n, n < 10 → ∀ o, o < 10 → rm_ini (15 + n) o = rm_ini (15 + o) n := by decide +kernel
theorem rq_ini : rq rm_ini rn_ini := ⟨rq_ini_f, rq_ini_n, fun n o hn ho => rq_ini_h n hn o ho, fun n o hn ho => rq_ini_s n hn o ho⟩

/-! the calls that only answer: here as there -/
section RQG
variable {σ τ : rm_St}
theorem rq_get1 (h : rq σ τ) (x r0 r1 : Int32) (hr : ∀ j, j < 10 → x = nI j → r0 = r1) : rw_op rq σ σ (rm_tN x) (rl_c1 (rm_tN x)) r0 r1 (rn_t1 τ x) := by
  by_cases c : isNd x = true
  · have e : rm_tN x = none := by unfold rm_tN; rw [if_pos c]
    have e1 : rn_t1 τ x = rm_up τ 0 20 0 := by unfold rn_t1; rw [if_pos c]
    rw [e, e1]
    obtain ⟨j, hj, ej⟩ := isNd_of c
    exact ⟨rm_up_s _ _ _ _, fun _ => hr j hj ej, rq_thr h⟩
  · have e : rm_tN x = some rm_IO := by unfold rm_tN; rw [if_neg c]
    have e1 : rn_t1 τ x = rm_up τ 0 20 1 := by unfold rn_t1; rw [if_neg c]
    rw [e, e1]
    exact ⟨rm_up_s _ _ _ _, (fun q => by cases q), rq_thr h⟩
theorem rq_of {q v : Nat} (hq : q ≠ 0) (hv : ∀ j, j < 10 → σ v j = τ q j) (x : Int32) : ∀ j, j < 10 → x = nI j → σ v x.toNatClampNeg = rn_of τ q x := fun j hj e => by
  unfold rn_of
  rw [e, if_pos (isNd_nI hj), rm_cl hj, rm_up_k hq]
  exact hv j hj
theorem rq_g_rank : rw_g_rank rq := fun σ τ h p0 => rq_get1 h p0 _ _ (rq_of (by decide) (fun j hj => (h.2.1 j hj).1.2.2.2.2.1) p0)
theorem rq_g_parent : rw_g_parent rq := fun σ τ h p0 => rq_get1 h p0 _ _ (rq_of (by decide) (fun j hj => (h.2.1 j hj).1.2.2.2.2.2.1) p0)
theorem rq_g_nextTelling : rw_g_nextTelling rq := fun σ τ h p0 => rq_get1 h p0 _ _ (rq_of (by decide) (fun j hj => (h.2.1 j hj).1.2.2.2.2.2.2.2) p0)
theorem rq_g_tree : rw_g_tree rq := fun σ τ h p0 => rq_get1 h p0 _ _ (fun j hj e => by
  obtain ⟨⟨-, -, e7, e8, -⟩, -⟩ := h.2.1 j hj
  unfold rm_tree rn_tree
  rw [e, if_pos (isNd_nI hj), rm_cl hj, rm_up_k (by decide), rm_up_k (by decide), e7, e8])
theorem rq_g_heard : rw_g_heard rq := fun σ τ h p0 p1 => by
  by_cases c0 : isNd p0 = true
  · by_cases c1 : isNd p1 = true
    · have e : rm_t2 p0 p1 = none := by unfold rm_t2 rm_tN; rw [if_pos c0, if_pos c1]; rfl
      have e1 : rn_t2 τ p0 p1 = rm_up τ 0 20 0 := by unfold rn_t2; rw [if_pos c0, if_pos c1]
      rw [e, e1]
      refine ⟨rm_up_s _ _ _ _, fun _ => ?_, rq_thr h⟩
      obtain ⟨i, hi, ei⟩ := isNd_of c0
      obtain ⟨j, hj, ej⟩ := isNd_of c1
      unfold rn_heard
      rw [if_pos c0, if_pos c1, ei, ej, rm_cl hi, rm_cl hj, rm_up_k (by decide)]
      exact (h.2.2.1 i j hi hj).2.2.1
    · have e : rm_t2 p0 p1 = some rm_IO := by unfold rm_t2 rm_tN; rw [if_pos c0, if_neg c1]; rfl
      have e1 : rn_t2 τ p0 p1 = rm_up τ 0 20 1 := by unfold rn_t2; rw [if_pos c0, if_neg c1]
      rw [e, e1]
      exact ⟨rm_up_s _ _ _ _, (fun q => by cases q), rq_thr h⟩
  · have e : rm_t2 p0 p1 = some rm_IO := by unfold rm_t2 rm_tN; rw [if_neg c0]; rfl
    have e1 : rn_t2 τ p0 p1 = rm_up τ 0 20 1 := by unfold rn_t2; rw [if_neg c0]
    rw [e, e1]
    exact ⟨rm_up_s _ _ _ _, (fun q => by cases q), rq_thr h⟩
end RQG

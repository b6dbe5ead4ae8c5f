/-! pass: here as there -/
theorem rq_tR (v f t : Int32) : rm_tR v f t = if isIn v f t = true then none else some rm_IA := by
  unfold rm_tR isIn
  by_cases c1 : v < f
  · rw [if_pos c1, if_pos c1, if_neg (by decide)]
  · rw [if_neg c1, if_neg c1]
    by_cases c2 : v ≤ t
    · rw [if_pos c2, if_neg (fun q => (rq_lt _ _).mp q c2), if_pos rfl]
    · rw [if_neg c2, if_pos ((rq_lt _ _).mpr c2), if_neg (by decide)]
theorem rq_g_pass : rw_g_pass rq := fun σ τ h p0 => by
  by_cases c : isIn p0 1 100 = true
  · have e : rm_tR p0 1 100 = none := by rw [rq_tR, if_pos c]
    have e1 : rn_pass τ p0 = rn_passL p0.toNatClampNeg 0 0 (rm_up τ 0 20 0) := by unfold rn_pass; rw [if_pos c]
    obtain ⟨g1, g2⟩ := rq_passL p0.toNatClampNeg 0 0 σ (rm_up τ 0 20 0) (rq_thr h)
    rw [e, e1]
    refine ⟨?_, fun _ => g2, g1⟩
    rw [rn_k_passL, rm_up_s]
    rfl
  · have e : rm_tR p0 1 100 = some rm_IA := by rw [rq_tR, if_neg c]
    have e1 : rn_pass τ p0 = (rm_up τ 0 20 1, 0) := by unfold rn_pass; rw [if_neg c]
    rw [e, e1]
    exact ⟨(show rm_up τ 0 20 1 0 20 = 1 from rm_up_s _ _ _ _), (fun q => by cases q), rq_thr h⟩

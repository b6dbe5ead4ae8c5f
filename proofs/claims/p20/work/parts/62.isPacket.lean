theorem lz_up0 {θ : rm_St} : rm_up θ 2 2 (θ 2 2 + 0) = θ := by
  funext z m
  rw [Int32.add_zero]
  unfold rm_up
  by_cases h : z = 2 ∧ m = 2
  · rw [if_pos h, h.1, h.2]
  · rw [if_neg h]
theorem lz_I_drop {K B : Nat} {σ θ : rm_St} (h : lz_I K B σ θ) : lz_I K B (rm_drop σ) (rm_up θ 2 2 (θ 2 2 + 1)) := by
  obtain ⟨h1, h2, h3, ⟨h4, h5, h6, h7, h8⟩, h9⟩ := h
  have a0 : ∀ z j, (z ≠ 0 ∨ j ≠ 5) → rm_drop σ z j = σ z j := fun z j h => by
    unfold rm_drop
    rcases h with h | h
    · exact rm_up_k h
    · exact rm_up_j h
  have a5 : rm_drop σ 0 5 = σ 0 5 + 1 := rm_up_s _ _ _ _
  generalize rm_drop σ = ρ at *
  have hf := h1.1
  refine ⟨⟨?_, fun a b ha hb => iv_cg_c (a0 _ _ (by omega)) (a0 _ _ (by omega)) (h1.2.1 a b ha hb), fun a b ha hb => iv_cg_h (a0 _ _ (by omega)) (a0 _ _ (by omega)) (a0 _ _ (by omega)) (a0 _ _ (by omega)) (fun r _ => by rw [a0 6 r (by omega)]; exact Int.le_refl _) (h1.2.2 a b ha hb)⟩,
    fun m hm => iv_cg_p (fun z hz => a0 _ _ (by omega)) (fun p _ => a0 _ _ (by omega)) (fun p _ => a0 _ _ (by omega)) (fun r _ => by rw [a0 6 r (by omega)]; exact Int.le_refl _) (a0 _ _ (by omega)) (h2 m hm), fun j hj => ?_, ⟨fun i j hi hj => ?_, fun n hn => ?_, ?_, ?_, ?_⟩, ?_⟩
  · unfold iv_f at hf ⊢
    rw [a0 0 2 (by omega), a0 0 3 (by omega), a0 0 4 (by omega)]
    exact hf
  · have := h3 j hj
    unfold iv_I at this ⊢
    rw [a0 12 j (by omega), a0 13 j (by omega), a0 0 4 (by omega)]
    exact this
  · rw [a0 _ _ (by omega), ← h4 i j hi hj]
    unfold lz_c
    rw [rm_up_k (by decide)]
  · rw [rm_up_k (by decide), rm_up_k (by decide), a0 5 n (by omega), a0 6 n (by omega)]; exact h5 n hn
  · rw [rm_up_j (by decide), a0 0 4 (by omega)]; exact h6
  · rw [rm_up_j (by decide), a0 0 2 (by omega)]; exact h7
  · rw [rm_up_s, a5, h8]
  · rw [a0 0 4 (by omega)]; exact h9
theorem bI_lt2 (w : Bool) : ¬ (2 : Int32) ≤ bI w := by cases w <;> decide
theorem bI_ne2 (w : Bool) : ¬ bI w = 2 := by cases w <;> decide
set_option maxHeartbeats 4000000 in
set_option maxRecDepth 100000 in
theorem jL_isPacket (l : Launch) (hfl : l.stackTraces = false) (k : rm_K) (a q : Nat → Nat) (hsep : lz_sep a q) (σ θ : rm_St) {n K B : Nat} (hn : n < 10) (hI : lz_I K B σ θ) : lz_M l k a q (fun _ => True) yL_isPacket wsL_isPacket ({ frames := 8, cells := 120, slots := 720, locals := 140 }) [.ref (a 0), .ref (q 1), .ref (q 2), .int (nI n)] σ θ (fun r σ1 θ1 => r = 1 ∧ lz_I K B σ1 θ1) := by
  refine lz_enter (cc := cL_isPacket) (nL := 7) (ret := some .boolean) hsep (by decide) rfl rfl (Nat.le_of_ble_eq_true rfl) ?_
  intro p e s m args below meth c ls CF hr hlocks hTh hN hX hw hl
  have hx := CF.1
  have hb := CF.2.1
  have hts := CF.2.2.2.2
  have hA : ∀ x, s.heap.size ≤ x → lz_A a q s.heap.size x := fun x h => Or.inl (Or.inr h)
  replace hl : lv_has ls 7 [(0, .ref (a 0)), (1, .ref (q 1)), (2, .ref (q 2)), (3, .int (nI n))] := hl
  have hI0 := hI
  obtain ⟨hM, hNn, hT, ⟨hLc, hLt, hL4, hL2, hL5⟩, hB⟩ := hI
  have fin : ∀ (kk i : Nat) (od : Int32) (_ : kk < 10) (_ : (od = 2 ∧ rm_upS σ (nI n) = (rm_drop σ, -2)) ∨ (¬ od = 2 ∧ σ 5 kk = 1 ∧ rm_upS σ (nI n) = (σ, nI i)) ∨ (¬ od = 2 ∧ σ 5 kk = 0 ∧ rm_upS σ (nI n) = (σ, -1))) (H : Heap) (locs : List Loc) (ls : Array Slot) (cells slots : Nat), lz_Wd k a q (lz_A a q s.heap.size) s.heap s σ θ H locs → lv_has ls 7 [(0, .ref (a 0)), (1, .ref (q 1)), (2, .ref (q 2)), (3, .int (nI n)), (4, .int (nI kk)), (5, .int (nI i)), (6, .int od)] → cells ≤ 110 → slots ≤ 6 * (110) → W p l e (headSpec wsL_isPacket ({ frames := 8, cells := 120, slots := 720, locals := 140 })).room s m args below meth c H locs cells slots (MQ below (va_Qi (fun (r : Int32) (u : rm_St × rm_St) => (fun r σ1 θ1 => r = 1 ∧ lz_I K B σ1 θ1) r u.1 u.2) (fun u t => lz_P k a q u.1 u.2 t) (lz_A a q s.heap.size)) args s 120 720 (lz_A a q s.heap.size)) (F0 m 74 ls []) := by
    intro kk i od hkk hex H locs ls cells slots hw hl hc hs
    rcases hex with ⟨rfl, hu⟩ | ⟨hod, h5, hu⟩ | ⟨hod, h5, hu⟩
    · skip
      refine lv_aload_n hx hb dL_isPacket_74 rfl (lv_at hl 2 rfl) ?_
      refine lv_iconst (v := 2) hx hb dL_isPacket_75 (by decide) ?_
      refine lv_dup2_11 hx hb dL_isPacket_76 rfl rfl ?_
      refine lz_iald CF hw 2 (j := 2) (by decide) (by show _ < 3; omega) dL_isPacket_77 ?_
      refine lv_iload hx hb dL_isPacket_78 (lv_at hl 6 rfl) ?_
      refine lv_iconst (v := 2) hx hb dL_isPacket_80 (by decide) ?_
      refine lv_icmp_ne (tgt := 88) hx hb dL_isPacket_81 (by decide) (fun c_81 => absurd (by decide) c_81) (fun c_81 => ?_)
      refine lv_iconst (v := 1) hx hb dL_isPacket_84 (by decide) ?_
      refine lv_goto (tgt := 89) hx hb dL_isPacket_85 (by decide) ?_
      refine lv_iadd hx hb dL_isPacket_89 ?_
      refine lz_iast CF hw 2 (j := 2) (by decide) (by show _ < 3; omega) dL_isPacket_90 (fun H locs hw => ?_)
      refine lv_aload_n hx hb dL_isPacket_91 rfl (lv_at hl 0 rfl) ?_
      refine lv_iload_n hx hb dL_isPacket_92 rfl (lv_at hl 3 rfl) ?_
      refine lz_callI CF hTh hA hw (As := [.int (nI n)]) (rest := []) (lk_up (r0 := (-2)) (σ0 := rm_drop σ) l k a σ hfl hsep.1 hn (by rw [hu]) (by rw [hu])) (cwV 1 hts gL_isPacket_X0_up rfl rfl rfl (by decide +kernel) ⟨Nat.le_of_ble_eq_true rfl, Nat.le_of_ble_eq_true rfl⟩) rfl hl.1 rfl (lv_room (Nat.le_of_ble_eq_true rfl)) dL_isPacket_93 ⟨by show cells + 1 ≤ 120; omega, by show slots + 6 ≤ 720; omega⟩ (fun H locs hw => ?_)
      refine lv_iload hx hb dL_isPacket_96 (lv_at hl 6 rfl) ?_
      refine lv_iconst (v := 2) hx hb dL_isPacket_98 (by decide) ?_
      refine lv_icmp_ne (tgt := 107) hx hb dL_isPacket_99 (by decide) (fun c_99 => absurd (by decide) c_99) (fun c_99 => ?_)
      refine lv_bipush (v := (-2)) hx hb dL_isPacket_102 (by decide) ?_
      refine lv_goto (tgt := 121) hx hb dL_isPacket_104 (by decide) ?_
      refine lv_icmp_ne (tgt := 138) hx hb dL_isPacket_121 (by decide) (fun c_121 => absurd (by decide) c_121) (fun c_121 => ?_)
      refine lv_aload_n hx hb dL_isPacket_124 rfl (lv_at hl 0 rfl) ?_
      refine lz_callG CF hA hw (As := []) (rest := []) (kX0_loops l k a hsep.1 (rm_drop σ)) (cwV 0 hts gL_isPacket_X0_loops rfl rfl rfl (by decide +kernel) ⟨Nat.le_of_ble_eq_true rfl, Nat.le_of_ble_eq_true rfl⟩) rfl hl.1 rfl (lv_room (Nat.le_of_ble_eq_true rfl)) dL_isPacket_125 ⟨by show cells + 1 ≤ 120; omega, by show slots + 6 ≤ 720; omega⟩ (fun H locs hw => ?_)
      refine lv_aload_n hx hb dL_isPacket_128 rfl (lv_at hl 2 rfl) ?_
      refine lv_iconst (v := 2) hx hb dL_isPacket_129 (by decide) ?_
      refine lz_iald CF hw 2 (j := 2) (by decide) (by show _ < 3; omega) dL_isPacket_130 ?_
      refine lv_icmp_ne (tgt := 138) hx hb dL_isPacket_131 (by decide) (fun c_131 => absurd (by rw [rm_up_s, hL5]; exact rm_up_s _ _ _ _) c_131) (fun c_131 => ?_)
      refine lv_iconst (v := 1) hx hb dL_isPacket_134 (by decide) ?_
      refine lv_goto (tgt := 139) hx hb dL_isPacket_135 (by decide) ?_
      exact lz_zret (post := (fun r σ1 θ1 => r = 1 ∧ lz_I K B σ1 θ1)) CF hr hlocks hw (by show cells + 1 ≤ 120; omega) (by show slots + 6 ≤ 720; omega) dL_isPacket_139 ⟨rfl, lz_I_drop hI0⟩
    · skip
      refine lv_aload_n hx hb dL_isPacket_74 rfl (lv_at hl 2 rfl) ?_
      refine lv_iconst (v := 2) hx hb dL_isPacket_75 (by decide) ?_
      refine lv_dup2_11 hx hb dL_isPacket_76 rfl rfl ?_
      refine lz_iald CF hw 2 (j := 2) (by decide) (by show _ < 3; omega) dL_isPacket_77 ?_
      refine lv_iload hx hb dL_isPacket_78 (lv_at hl 6 rfl) ?_
      refine lv_iconst (v := 2) hx hb dL_isPacket_80 (by decide) ?_
      refine lv_icmp_ne (tgt := 88) hx hb dL_isPacket_81 (by decide) (fun c_81 => ?_) (fun c_81 => absurd c_81 hod)
      refine lv_iconst (v := 0) hx hb dL_isPacket_88 (by decide) ?_
      refine lv_iadd hx hb dL_isPacket_89 ?_
      refine lz_iast CF hw 2 (j := 2) (by decide) (by show _ < 3; omega) dL_isPacket_90 (fun H locs hw => ?_)
      refine lv_aload_n hx hb dL_isPacket_91 rfl (lv_at hl 0 rfl) ?_
      refine lv_iload_n hx hb dL_isPacket_92 rfl (lv_at hl 3 rfl) ?_
      refine lz_callI CF hTh hA hw (As := [.int (nI n)]) (rest := []) (lk_up (r0 := nI i) (σ0 := σ) l k a σ hfl hsep.1 hn (by rw [hu]) (by rw [hu])) (cwV 1 hts gL_isPacket_X0_up rfl rfl rfl (by decide +kernel) ⟨Nat.le_of_ble_eq_true rfl, Nat.le_of_ble_eq_true rfl⟩) rfl hl.1 rfl (lv_room (Nat.le_of_ble_eq_true rfl)) dL_isPacket_93 ⟨by show cells + 1 ≤ 120; omega, by show slots + 6 ≤ 720; omega⟩ (fun H locs hw => ?_)
      refine lv_iload hx hb dL_isPacket_96 (lv_at hl 6 rfl) ?_
      refine lv_iconst (v := 2) hx hb dL_isPacket_98 (by decide) ?_
      refine lv_icmp_ne (tgt := 107) hx hb dL_isPacket_99 (by decide) (fun c_99 => ?_) (fun c_99 => absurd c_99 hod)
      refine lv_aload_n hx hb dL_isPacket_107 rfl (lv_at hl 1 rfl) ?_
      refine lv_iload hx hb dL_isPacket_108 (lv_at hl 4 rfl) ?_
      refine lz_iald CF hw 1 (j := kk) (by decide) (by show _ < 20; omega) dL_isPacket_110 ?_
      refine lv_iconst (v := 1) hx hb dL_isPacket_111 (by decide) ?_
      refine lv_icmp_ne (tgt := 120) hx hb dL_isPacket_112 (by decide) (fun c_112 => absurd (by rw [rm_up_k (by decide), (hLt kk hkk).1, h5]) c_112) (fun c_112 => ?_)
      refine lv_iload hx hb dL_isPacket_115 (lv_at hl 5 rfl) ?_
      refine lv_goto (tgt := 121) hx hb dL_isPacket_117 (by decide) ?_
      refine lv_icmp_ne (tgt := 138) hx hb dL_isPacket_121 (by decide) (fun c_121 => absurd rfl c_121) (fun c_121 => ?_)
      refine lv_aload_n hx hb dL_isPacket_124 rfl (lv_at hl 0 rfl) ?_
      refine lz_callG CF hA hw (As := []) (rest := []) (kX0_loops l k a hsep.1 σ) (cwV 0 hts gL_isPacket_X0_loops rfl rfl rfl (by decide +kernel) ⟨Nat.le_of_ble_eq_true rfl, Nat.le_of_ble_eq_true rfl⟩) rfl hl.1 rfl (lv_room (Nat.le_of_ble_eq_true rfl)) dL_isPacket_125 ⟨by show cells + 1 ≤ 120; omega, by show slots + 6 ≤ 720; omega⟩ (fun H locs hw => ?_)
      refine lv_aload_n hx hb dL_isPacket_128 rfl (lv_at hl 2 rfl) ?_
      refine lv_iconst (v := 2) hx hb dL_isPacket_129 (by decide) ?_
      refine lz_iald CF hw 2 (j := 2) (by decide) (by show _ < 3; omega) dL_isPacket_130 ?_
      refine lv_icmp_ne (tgt := 138) hx hb dL_isPacket_131 (by decide) (fun c_131 => absurd (by rw [rm_up_s, Int32.add_zero]; exact hL5.symm) c_131) (fun c_131 => ?_)
      refine lv_iconst (v := 1) hx hb dL_isPacket_134 (by decide) ?_
      refine lv_goto (tgt := 139) hx hb dL_isPacket_135 (by decide) ?_
      exact lz_zret (post := (fun r σ1 θ1 => r = 1 ∧ lz_I K B σ1 θ1)) CF hr hlocks hw (by show cells + 1 ≤ 120; omega) (by show slots + 6 ≤ 720; omega) dL_isPacket_139 ⟨rfl, by rw [lz_up0]; exact hI0⟩
    · skip
      refine lv_aload_n hx hb dL_isPacket_74 rfl (lv_at hl 2 rfl) ?_
      refine lv_iconst (v := 2) hx hb dL_isPacket_75 (by decide) ?_
      refine lv_dup2_11 hx hb dL_isPacket_76 rfl rfl ?_
      refine lz_iald CF hw 2 (j := 2) (by decide) (by show _ < 3; omega) dL_isPacket_77 ?_
      refine lv_iload hx hb dL_isPacket_78 (lv_at hl 6 rfl) ?_
      refine lv_iconst (v := 2) hx hb dL_isPacket_80 (by decide) ?_
      refine lv_icmp_ne (tgt := 88) hx hb dL_isPacket_81 (by decide) (fun c_81 => ?_) (fun c_81 => absurd c_81 hod)
      refine lv_iconst (v := 0) hx hb dL_isPacket_88 (by decide) ?_
      refine lv_iadd hx hb dL_isPacket_89 ?_
      refine lz_iast CF hw 2 (j := 2) (by decide) (by show _ < 3; omega) dL_isPacket_90 (fun H locs hw => ?_)
      refine lv_aload_n hx hb dL_isPacket_91 rfl (lv_at hl 0 rfl) ?_
      refine lv_iload_n hx hb dL_isPacket_92 rfl (lv_at hl 3 rfl) ?_
      refine lz_callI CF hTh hA hw (As := [.int (nI n)]) (rest := []) (lk_up (r0 := (-1)) (σ0 := σ) l k a σ hfl hsep.1 hn (by rw [hu]) (by rw [hu])) (cwV 1 hts gL_isPacket_X0_up rfl rfl rfl (by decide +kernel) ⟨Nat.le_of_ble_eq_true rfl, Nat.le_of_ble_eq_true rfl⟩) rfl hl.1 rfl (lv_room (Nat.le_of_ble_eq_true rfl)) dL_isPacket_93 ⟨by show cells + 1 ≤ 120; omega, by show slots + 6 ≤ 720; omega⟩ (fun H locs hw => ?_)
      refine lv_iload hx hb dL_isPacket_96 (lv_at hl 6 rfl) ?_
      refine lv_iconst (v := 2) hx hb dL_isPacket_98 (by decide) ?_
      refine lv_icmp_ne (tgt := 107) hx hb dL_isPacket_99 (by decide) (fun c_99 => ?_) (fun c_99 => absurd c_99 hod)
      refine lv_aload_n hx hb dL_isPacket_107 rfl (lv_at hl 1 rfl) ?_
      refine lv_iload hx hb dL_isPacket_108 (lv_at hl 4 rfl) ?_
      refine lz_iald CF hw 1 (j := kk) (by decide) (by show _ < 20; omega) dL_isPacket_110 ?_
      refine lv_iconst (v := 1) hx hb dL_isPacket_111 (by decide) ?_
      refine lv_icmp_ne (tgt := 120) hx hb dL_isPacket_112 (by decide) (fun c_112 => ?_) (fun c_112 => absurd c_112 (by rw [rm_up_k (by decide), (hLt kk hkk).1, h5]; decide))
      refine lv_iconst (v := (-1)) hx hb dL_isPacket_120 (by decide) ?_
      refine lv_icmp_ne (tgt := 138) hx hb dL_isPacket_121 (by decide) (fun c_121 => absurd (by decide) c_121) (fun c_121 => ?_)
      refine lv_aload_n hx hb dL_isPacket_124 rfl (lv_at hl 0 rfl) ?_
      refine lz_callG CF hA hw (As := []) (rest := []) (kX0_loops l k a hsep.1 σ) (cwV 0 hts gL_isPacket_X0_loops rfl rfl rfl (by decide +kernel) ⟨Nat.le_of_ble_eq_true rfl, Nat.le_of_ble_eq_true rfl⟩) rfl hl.1 rfl (lv_room (Nat.le_of_ble_eq_true rfl)) dL_isPacket_125 ⟨by show cells + 1 ≤ 120; omega, by show slots + 6 ≤ 720; omega⟩ (fun H locs hw => ?_)
      refine lv_aload_n hx hb dL_isPacket_128 rfl (lv_at hl 2 rfl) ?_
      refine lv_iconst (v := 2) hx hb dL_isPacket_129 (by decide) ?_
      refine lz_iald CF hw 2 (j := 2) (by decide) (by show _ < 3; omega) dL_isPacket_130 ?_
      refine lv_icmp_ne (tgt := 138) hx hb dL_isPacket_131 (by decide) (fun c_131 => absurd (by rw [rm_up_s, Int32.add_zero]; exact hL5.symm) c_131) (fun c_131 => ?_)
      refine lv_iconst (v := 1) hx hb dL_isPacket_134 (by decide) ?_
      refine lv_goto (tgt := 139) hx hb dL_isPacket_135 (by decide) ?_
      exact lz_zret (post := (fun r σ1 θ1 => r = 1 ∧ lz_I K B σ1 θ1)) CF hr hlocks hw (by show cells + 1 ≤ 120; omega) (by show slots + 6 ≤ 720; omega) dL_isPacket_139 ⟨rfl, by rw [lz_up0]; exact hI0⟩
  have two : ∀ (kk i : Nat) (_ : kk < 10) (_ : rm_upS σ (nI n) = (rm_drop σ, -2)) (H : Heap) (locs : List Loc) (ls : Array Slot) (cells slots : Nat), lz_Wd k a q (lz_A a q s.heap.size) s.heap s σ θ H locs → lv_has ls 7 [(0, .ref (a 0)), (1, .ref (q 1)), (2, .ref (q 2)), (3, .int (nI n)), (4, .int (nI kk)), (5, .int (nI i)), (6, .int 2)] → cells ≤ 108 → slots ≤ 6 * (108) → W p l e (headSpec wsL_isPacket ({ frames := 8, cells := 120, slots := 720, locals := 140 })).room s m args below meth c H locs cells slots (MQ below (va_Qi (fun (r : Int32) (u : rm_St × rm_St) => (fun r σ1 θ1 => r = 1 ∧ lz_I K B σ1 θ1) r u.1 u.2) (fun u t => lz_P k a q u.1 u.2 t) (lz_A a q s.heap.size)) args s 120 720 (lz_A a q s.heap.size)) (F0 m 9 ls []) := by
    intro kk i hkk hu H locs ls cells slots hw hl hc hs
    refine lv_aload_n hx hb dL_isPacket_9 rfl (lv_at hl 1 rfl) ?_
    refine lv_iload hx hb dL_isPacket_10 (lv_at hl 4 rfl) ?_
    refine lz_iald CF hw 1 (j := kk) (by decide) (by show _ < 20; omega) dL_isPacket_12 ?_
    refine lv_if_ne (tgt := 74) hx hb dL_isPacket_13 (by decide) (fun c_13 => ?_) (fun c_13 => ?_)
    · skip
      exact fin kk i 2 hkk (Or.inl ⟨rfl, hu⟩) H _ _ _ _ hw (lv_sub hl [0, 1, 2, 3, 4, 5, 6] rfl) (by show cells ≤ _; omega) (by show slots ≤ _; omega)
    · skip
      refine lv_aload_n hx hb dL_isPacket_16 rfl (lv_at hl 0 rfl) ?_
      refine lv_iload hx hb dL_isPacket_17 (lv_at hl 4 rfl) ?_
      refine lz_callI CF hTh hA hw (As := [.int (nI kk)]) (rest := []) (lk_parent l k a σ hfl hsep.1 hkk rfl) (cwV 1 hts gL_isPacket_X0_parent rfl rfl rfl (by decide +kernel) ⟨Nat.le_of_ble_eq_true rfl, Nat.le_of_ble_eq_true rfl⟩) rfl hl.1 rfl (lv_room (Nat.le_of_ble_eq_true rfl)) dL_isPacket_19 ⟨by show cells + 1 ≤ 120; omega, by show slots + 6 ≤ 720; omega⟩ (fun H locs hw => ?_)
      refine lv_if_lt (tgt := 74) hx hb dL_isPacket_22 (by decide) (fun c_22 => ?_) (fun c_22 => ?_)
      · skip
        exact fin kk i 2 hkk (Or.inl ⟨rfl, hu⟩) H _ _ _ _ hw (lv_sub hl [0, 1, 2, 3, 4, 5, 6] rfl) (by show cells + 1 ≤ _; omega) (by show slots + 6 ≤ _; omega)
      · skip
        refine lv_iload hx hb dL_isPacket_25 (lv_at hl 6 rfl) ?_
        refine lv_iconst (v := 2) hx hb dL_isPacket_27 (by decide) ?_
        refine lv_icmp_ge (tgt := 74) hx hb dL_isPacket_28 (by decide) (fun c_28 => ?_) (fun c_28 => absurd (by decide) c_28)
        exact fin kk i 2 hkk (Or.inl ⟨rfl, hu⟩) H _ _ _ _ hw (lv_sub hl [0, 1, 2, 3, 4, 5, 6] rfl) (by show cells + 1 ≤ _; omega) (by show slots + 6 ≤ _; omega)
  have lp : ∀ (r i : Nat), i + r = 21 → ∀ (kk : Nat) (w : Bool) (_ : kk < 10) (_ : iv_uOK σ r kk w) (_ : rm_upL σ r i kk w = rm_upS σ (nI n)) (H : Heap) (locs : List Loc) (ls : Array Slot) (cells slots : Nat), lz_Wd k a q (lz_A a q s.heap.size) s.heap s σ θ H locs → lv_has ls 7 [(0, .ref (a 0)), (1, .ref (q 1)), (2, .ref (q 2)), (3, .int (nI n)), (4, .int (nI kk)), (5, .int (nI i)), (6, .int (bI w))] → cells ≤ 5 * i → slots ≤ 30 * i → W p l e (headSpec wsL_isPacket ({ frames := 8, cells := 120, slots := 720, locals := 140 })).room s m args below meth c H locs cells slots (MQ below (va_Qi (fun (r : Int32) (u : rm_St × rm_St) => (fun r σ1 θ1 => r = 1 ∧ lz_I K B σ1 θ1) r u.1 u.2) (fun u t => lz_P k a q u.1 u.2 t) (lz_A a q s.heap.size)) args s 120 720 (lz_A a q s.heap.size)) (F0 m 9 ls []) := by
    intro r
    induction r with
    | zero =>
      intro i hi kk w hkk hOK
      exact hOK.elim
    | succ r ih =>
      intro i hi kk w hkk hOK hup H locs ls cells slots hw hl hc hs
      rcases hNn kk hkk with ⟨c5, -⟩ | ⟨c5, -, c11⟩ | ⟨c5, p0, hp, c11, -⟩
      · have hu : rm_upS σ (nI n) = (σ, nI i) := by rw [← hup, rm_upL, if_neg (by rw [c5]; decide)]
        refine lv_aload_n hx hb dL_isPacket_9 rfl (lv_at hl 1 rfl) ?_
        refine lv_iload hx hb dL_isPacket_10 (lv_at hl 4 rfl) ?_
        refine lz_iald CF hw 1 (j := kk) (by decide) (by show _ < 20; omega) dL_isPacket_12 ?_
        refine lv_if_ne (tgt := 74) hx hb dL_isPacket_13 (by decide) (fun c_13 => ?_) (fun c_13 => absurd c_13 (by rw [(hLt kk hkk).1, c5]; decide))
        exact fin kk i (bI w) hkk (Or.inr (Or.inl ⟨bI_ne2 w, c5, hu⟩)) H _ _ _ _ hw (lv_sub hl [0, 1, 2, 3, 4, 5, 6] rfl) (by show cells ≤ _; omega) (by show slots ≤ _; omega)
      · have hu : rm_upS σ (nI n) = (σ, -1) := by rw [← hup, rm_upL, if_pos c5, c11, if_neg (by decide)]
        refine lv_aload_n hx hb dL_isPacket_9 rfl (lv_at hl 1 rfl) ?_
        refine lv_iload hx hb dL_isPacket_10 (lv_at hl 4 rfl) ?_
        refine lz_iald CF hw 1 (j := kk) (by decide) (by show _ < 20; omega) dL_isPacket_12 ?_
        refine lv_if_ne (tgt := 74) hx hb dL_isPacket_13 (by decide) (fun c_13 => absurd ((hLt kk hkk).1.trans c5) c_13) (fun c_13 => ?_)
        refine lv_aload_n hx hb dL_isPacket_16 rfl (lv_at hl 0 rfl) ?_
        refine lv_iload hx hb dL_isPacket_17 (lv_at hl 4 rfl) ?_
        refine lz_callI CF hTh hA hw (As := [.int (nI kk)]) (rest := []) (lk_parent l k a σ hfl hsep.1 hkk c11) (cwV 1 hts gL_isPacket_X0_parent rfl rfl rfl (by decide +kernel) ⟨Nat.le_of_ble_eq_true rfl, Nat.le_of_ble_eq_true rfl⟩) rfl hl.1 rfl (lv_room (Nat.le_of_ble_eq_true rfl)) dL_isPacket_19 ⟨by show cells + 1 ≤ 120; omega, by show slots + 6 ≤ 720; omega⟩ (fun H locs hw => ?_)
        refine lv_if_lt (tgt := 74) hx hb dL_isPacket_22 (by decide) (fun c_22 => ?_) (fun c_22 => absurd (by decide) c_22)
        exact fin kk i (bI w) hkk (Or.inr (Or.inr ⟨bI_ne2 w, c5, hu⟩)) H _ _ _ _ hw (lv_sub hl [0, 1, 2, 3, 4, 5, 6] rfl) (by show cells + 1 ≤ _; omega) (by show slots + 6 ≤ _; omega)
      · have hu : rm_upS σ (nI n) = if σ 9 p0 < σ 9 kk then rm_upL σ r (i + 1) p0 w else if w = true then (rm_drop σ, -2) else rm_upL σ r (i + 1) p0 true := by rw [← hup, rm_upL, if_pos c5, c11, if_pos (isNd_nI hp), rm_cl hp]
        have hOK2 := hOK c5 p0 hp c11
        refine lv_aload_n hx hb dL_isPacket_9 rfl (lv_at hl 1 rfl) ?_
        refine lv_iload hx hb dL_isPacket_10 (lv_at hl 4 rfl) ?_
        refine lz_iald CF hw 1 (j := kk) (by decide) (by show _ < 20; omega) dL_isPacket_12 ?_
        refine lv_if_ne (tgt := 74) hx hb dL_isPacket_13 (by decide) (fun c_13 => absurd ((hLt kk hkk).1.trans c5) c_13) (fun c_13 => ?_)
        refine lv_aload_n hx hb dL_isPacket_16 rfl (lv_at hl 0 rfl) ?_
        refine lv_iload hx hb dL_isPacket_17 (lv_at hl 4 rfl) ?_
        refine lz_callI CF hTh hA hw (As := [.int (nI kk)]) (rest := []) (lk_parent l k a σ hfl hsep.1 hkk c11) (cwV 1 hts gL_isPacket_X0_parent rfl rfl rfl (by decide +kernel) ⟨Nat.le_of_ble_eq_true rfl, Nat.le_of_ble_eq_true rfl⟩) rfl hl.1 rfl (lv_room (Nat.le_of_ble_eq_true rfl)) dL_isPacket_19 ⟨by show cells + 1 ≤ 120; omega, by show slots + 6 ≤ 720; omega⟩ (fun H locs hw => ?_)
        refine lv_if_lt (tgt := 74) hx hb dL_isPacket_22 (by decide) (fun c_22 => absurd c_22 (nI_pos (by omega))) (fun c_22 => ?_)
        refine lv_iload hx hb dL_isPacket_25 (lv_at hl 6 rfl) ?_
        refine lv_iconst (v := 2) hx hb dL_isPacket_27 (by decide) ?_
        refine lv_icmp_ge (tgt := 74) hx hb dL_isPacket_28 (by decide) (fun c_28 => absurd c_28 (bI_lt2 w)) (fun c_28 => ?_)
        refine lv_iload hx hb dL_isPacket_31 (lv_at hl 6 rfl) ?_
        refine lv_aload_n hx hb dL_isPacket_33 rfl (lv_at hl 0 rfl) ?_
        refine lv_aload_n hx hb dL_isPacket_34 rfl (lv_at hl 0 rfl) ?_
        refine lv_iload hx hb dL_isPacket_35 (lv_at hl 4 rfl) ?_
        refine lz_callI CF hTh hA hw (As := [.int (nI kk)]) (rest := [.ref (a 0), .int (bI w)]) (lk_parent l k a σ hfl hsep.1 hkk c11) (cwV 1 hts gL_isPacket_X0_parent rfl rfl rfl (by decide +kernel) ⟨Nat.le_of_ble_eq_true rfl, Nat.le_of_ble_eq_true rfl⟩) rfl hl.1 rfl (lv_room (Nat.le_of_ble_eq_true rfl)) dL_isPacket_37 ⟨by show cells + 1 + 1 ≤ 120; omega, by show slots + 6 + 6 ≤ 720; omega⟩ (fun H locs hw => ?_)
        refine lz_callI CF hTh hA hw (As := [.int (nI p0)]) (rest := [.int (bI w)]) (lk_rank l k a σ hfl hsep.1 hp rfl) (cwV 1 hts gL_isPacket_X0_rank rfl rfl rfl (by decide +kernel) ⟨Nat.le_of_ble_eq_true rfl, Nat.le_of_ble_eq_true rfl⟩) rfl hl.1 rfl (lv_room (Nat.le_of_ble_eq_true rfl)) dL_isPacket_40 ⟨by show cells + 1 + 1 + 1 ≤ 120; omega, by show slots + 6 + 6 + 6 ≤ 720; omega⟩ (fun H locs hw => ?_)
        refine lv_aload_n hx hb dL_isPacket_43 rfl (lv_at hl 0 rfl) ?_
        refine lv_iload hx hb dL_isPacket_44 (lv_at hl 4 rfl) ?_
        refine lz_callI CF hTh hA hw (As := [.int (nI kk)]) (rest := [.int (σ 9 p0), .int (bI w)]) (lk_rank l k a σ hfl hsep.1 hkk rfl) (cwV 1 hts gL_isPacket_X0_rank rfl rfl rfl (by decide +kernel) ⟨Nat.le_of_ble_eq_true rfl, Nat.le_of_ble_eq_true rfl⟩) rfl hl.1 rfl (lv_room (Nat.le_of_ble_eq_true rfl)) dL_isPacket_46 ⟨by show cells + 1 + 1 + 1 + 1 ≤ 120; omega, by show slots + 6 + 6 + 6 + 6 ≤ 720; omega⟩ (fun H locs hw => ?_)
        refine lv_icmp_lt (tgt := 56) hx hb dL_isPacket_49 (by decide) (fun c_49 => ?_) (fun c_49 => ?_)
        · skip
          refine lv_iconst (v := 0) hx hb dL_isPacket_56 (by decide) ?_
          refine lv_iadd hx hb dL_isPacket_57 ?_
          rw [Int32.add_zero]
          refine lv_istore (lv' := [(6, .int (bI w)), (0, .ref (a 0)), (1, .ref (q 1)), (2, .ref (q 2)), (3, .int (nI n)), (4, .int (nI kk)), (5, .int (nI i))]) hx hb dL_isPacket_58 hl (by decide) rfl (fun ls hl => ?_)
          refine lv_aload_n hx hb dL_isPacket_60 rfl (lv_at hl 1 rfl) ?_
          refine lv_iload hx hb dL_isPacket_61 (lv_at hl 5 rfl) ?_
          refine lz_callI CF hTh hA hw (As := [.int (nI kk)]) (rest := []) (lk_parent l k a σ hfl hsep.1 hkk c11) (cwV 1 hts gL_isPacket_X0_parent rfl rfl rfl (by decide +kernel) ⟨Nat.le_of_ble_eq_true rfl, Nat.le_of_ble_eq_true rfl⟩) rfl hl.1 rfl (lv_room (Nat.le_of_ble_eq_true rfl)) dL_isPacket_63 ⟨by show cells + 1 + 1 + 1 + 1 + 1 ≤ 120; omega, by show slots + 6 + 6 + 6 + 6 + 6 ≤ 720; omega⟩ (fun H locs hw => ?_)
          refine lv_istore (lv' := [(4, .int (nI p0)), (6, .int (bI w)), (0, .ref (a 0)), (1, .ref (q 1)), (2, .ref (q 2)), (3, .int (nI n)), (5, .int (nI i))]) hx hb dL_isPacket_66 hl (by decide) rfl (fun ls hl => ?_)
          refine lv_iinc (v := nI (i + 1)) (lv' := [(5, .int (nI (i + 1))), (4, .int (nI p0)), (6, .int (bI w)), (0, .ref (a 0)), (1, .ref (q 1)), (2, .ref (q 2)), (3, .int (nI n))]) hx hb dL_isPacket_68 hl (k := 6) rfl (rm_inc i) (by decide) rfl (fun ls hl => ?_)
          refine lv_goto (tgt := 9) hx hb dL_isPacket_71 (by decide) ?_
          exact ih (i + 1) (by omega) p0 w hp (hOK2.1 c_49) (by rw [hu, if_pos c_49]) H _ _ _ _ hw (lv_sub hl [3, 4, 5, 6, 1, 0, 2] rfl) (by show cells + 1 + 1 + 1 + 1 + 1 ≤ _; omega) (by show slots + 6 + 6 + 6 + 6 + 6 ≤ _; omega)
        · skip
          refine lv_iconst (v := 1) hx hb dL_isPacket_52 (by decide) ?_
          refine lv_goto (tgt := 57) hx hb dL_isPacket_53 (by decide) ?_
          refine lv_iadd hx hb dL_isPacket_57 ?_
          by_cases hwt : w = true
          · rw [show bI w + 1 = 2 by rw [hwt]; rfl]
            refine lv_istore (lv' := [(6, .int 2), (0, .ref (a 0)), (1, .ref (q 1)), (2, .ref (q 2)), (3, .int (nI n)), (4, .int (nI kk)), (5, .int (nI i))]) hx hb dL_isPacket_58 hl (by decide) rfl (fun ls hl => ?_)
            refine lv_aload_n hx hb dL_isPacket_60 rfl (lv_at hl 1 rfl) ?_
            refine lv_iload hx hb dL_isPacket_61 (lv_at hl 5 rfl) ?_
            refine lz_callI CF hTh hA hw (As := [.int (nI kk)]) (rest := []) (lk_parent l k a σ hfl hsep.1 hkk c11) (cwV 1 hts gL_isPacket_X0_parent rfl rfl rfl (by decide +kernel) ⟨Nat.le_of_ble_eq_true rfl, Nat.le_of_ble_eq_true rfl⟩) rfl hl.1 rfl (lv_room (Nat.le_of_ble_eq_true rfl)) dL_isPacket_63 ⟨by show cells + 1 + 1 + 1 + 1 + 1 ≤ 120; omega, by show slots + 6 + 6 + 6 + 6 + 6 ≤ 720; omega⟩ (fun H locs hw => ?_)
            refine lv_istore (lv' := [(4, .int (nI p0)), (6, .int 2), (0, .ref (a 0)), (1, .ref (q 1)), (2, .ref (q 2)), (3, .int (nI n)), (5, .int (nI i))]) hx hb dL_isPacket_66 hl (by decide) rfl (fun ls hl => ?_)
            refine lv_iinc (v := nI (i + 1)) (lv' := [(5, .int (nI (i + 1))), (4, .int (nI p0)), (6, .int 2), (0, .ref (a 0)), (1, .ref (q 1)), (2, .ref (q 2)), (3, .int (nI n))]) hx hb dL_isPacket_68 hl (k := 6) rfl (rm_inc i) (by decide) rfl (fun ls hl => ?_)
            refine lv_goto (tgt := 9) hx hb dL_isPacket_71 (by decide) ?_
            exact two p0 (i + 1) hp (by rw [hu, if_neg c_49, if_pos hwt]) H _ _ _ _ hw (lv_sub hl [3, 4, 5, 6, 1, 0, 2] rfl) (by show cells + 1 + 1 + 1 + 1 + 1 ≤ _; omega) (by show slots + 6 + 6 + 6 + 6 + 6 ≤ _; omega)
          · rw [show bI w + 1 = bI true by rw [Bool.eq_false_iff.mpr hwt]; rfl]
            refine lv_istore (lv' := [(6, .int (bI true)), (0, .ref (a 0)), (1, .ref (q 1)), (2, .ref (q 2)), (3, .int (nI n)), (4, .int (nI kk)), (5, .int (nI i))]) hx hb dL_isPacket_58 hl (by decide) rfl (fun ls hl => ?_)
            refine lv_aload_n hx hb dL_isPacket_60 rfl (lv_at hl 1 rfl) ?_
            refine lv_iload hx hb dL_isPacket_61 (lv_at hl 5 rfl) ?_
            refine lz_callI CF hTh hA hw (As := [.int (nI kk)]) (rest := []) (lk_parent l k a σ hfl hsep.1 hkk c11) (cwV 1 hts gL_isPacket_X0_parent rfl rfl rfl (by decide +kernel) ⟨Nat.le_of_ble_eq_true rfl, Nat.le_of_ble_eq_true rfl⟩) rfl hl.1 rfl (lv_room (Nat.le_of_ble_eq_true rfl)) dL_isPacket_63 ⟨by show cells + 1 + 1 + 1 + 1 + 1 ≤ 120; omega, by show slots + 6 + 6 + 6 + 6 + 6 ≤ 720; omega⟩ (fun H locs hw => ?_)
            refine lv_istore (lv' := [(4, .int (nI p0)), (6, .int (bI true)), (0, .ref (a 0)), (1, .ref (q 1)), (2, .ref (q 2)), (3, .int (nI n)), (5, .int (nI i))]) hx hb dL_isPacket_66 hl (by decide) rfl (fun ls hl => ?_)
            refine lv_iinc (v := nI (i + 1)) (lv' := [(5, .int (nI (i + 1))), (4, .int (nI p0)), (6, .int (bI true)), (0, .ref (a 0)), (1, .ref (q 1)), (2, .ref (q 2)), (3, .int (nI n))]) hx hb dL_isPacket_68 hl (k := 6) rfl (rm_inc i) (by decide) rfl (fun ls hl => ?_)
            refine lv_goto (tgt := 9) hx hb dL_isPacket_71 (by decide) ?_
            exact ih (i + 1) (by omega) p0 true hp (hOK2.2 c_49 (Bool.eq_false_iff.mpr hwt)) (by rw [hu, if_neg c_49, if_neg hwt]) H _ _ _ _ hw (lv_sub hl [3, 4, 5, 6, 1, 0, 2] rfl) (by show cells + 1 + 1 + 1 + 1 + 1 ≤ _; omega) (by show slots + 6 + 6 + 6 + 6 + 6 ≤ _; omega)
  refine lv_iload_n hx hb dL_isPacket_0 rfl (lv_at hl 3 rfl) ?_
  refine lv_istore (lv' := [(4, .int (nI n)), (0, .ref (a 0)), (1, .ref (q 1)), (2, .ref (q 2)), (3, .int (nI n))]) hx hb dL_isPacket_1 hl (by decide) rfl (fun ls hl => ?_)
  refine lv_iconst (v := 0) hx hb dL_isPacket_3 (by decide) ?_
  refine lv_istore (lv' := [(5, .int (nI 0)), (4, .int (nI n)), (0, .ref (a 0)), (1, .ref (q 1)), (2, .ref (q 2)), (3, .int (nI n))]) hx hb dL_isPacket_4 hl (by decide) rfl (fun ls hl => ?_)
  refine lv_iconst (v := 0) hx hb dL_isPacket_6 (by decide) ?_
  refine lv_istore (lv' := [(6, .int (bI false)), (5, .int (nI 0)), (4, .int (nI n)), (0, .ref (a 0)), (1, .ref (q 1)), (2, .ref (q 2)), (3, .int (nI n))]) hx hb dL_isPacket_7 hl (by decide) rfl (fun ls hl => ?_)
  exact lp 21 0 rfl n false hn (iv_uOK21 hn) (by unfold rm_upS; rw [rm_cl hn]) _ _ _ _ _ hw (lv_sub hl [3, 4, 5, 6, 2, 1, 0] rfl) (Nat.le_of_ble_eq_true rfl) (Nat.le_of_ble_eq_true rfl)

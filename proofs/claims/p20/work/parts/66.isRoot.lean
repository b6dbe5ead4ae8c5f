theorem lz_tRoot10 {σ : rm_St} : rm_tRoot σ (nI 10) = some rm_IO := by
  unfold rm_tRoot
  rw [show rm_tN (nI 10) = some rm_IO by decide +kernel]
  rfl
theorem lz_tMake10 {σ : rm_St} : rm_tMake σ (nI 10) = some rm_IO := by
  unfold rm_tMake
  rw [show rm_tN (nI 10) = some rm_IO by decide +kernel]
  rfl
theorem lz_tRootn {σ : rm_St} {n : Nat} (hn : n < 10) : rm_tRoot σ (nI n) = if σ 5 n = 0 then some rm_IS else none := by
  unfold rm_tRoot
  rw [lk_tN hn, rm_cl hn]
  rfl
theorem lz_tMaken {σ : rm_St} {n : Nat} (hn : n < 10) : rm_tMake σ (nI n) = if σ 5 n = 0 then none else some rm_IS := by
  unfold rm_tMake
  rw [lk_tN hn, rm_cl hn]
  rfl
set_option maxHeartbeats 4000000 in
set_option maxRecDepth 100000 in
theorem jL_isRoot_3 (l : Launch) (hfl : l.stackTraces = false) (k : rm_K) (a q : Nat → Nat) (hsep : lz_sep a q) (σ θ : rm_St) {n K B : Nat} (hn : n ≤ 10) (hI : lz_I K B σ θ) (hK : K ≤ 100) : lz_M l k a q (fun _ => True) yL_isRoot wsL_isRoot ({ frames := 11, cells := 10, slots := 60, locals := 240 }) [.ref (a 0), .ref (q 1), .ref (q 2), .int 3, .int (nI n)] σ θ (fun r σ1 θ1 => r = 1 ∧ lz_I (K + 1) B σ1 θ1) := by
  refine lz_enter (cc := cL_isRoot) (nL := 8) (ret := some .boolean) hsep (by decide) rfl rfl (Nat.le_of_ble_eq_true rfl) ?_
  intro p e s m args below meth c ls CF hr hlocks hTh hN hX hw hl
  have hx := CF.1
  have hb := CF.2.1
  have hts := CF.2.2.2.2
  have hA : ∀ x, s.heap.size ≤ x → lz_A a q s.heap.size x := fun x h => Or.inl (Or.inr h)
  replace hl : lv_has ls 8 [(0, .ref (a 0)), (1, .ref (q 1)), (2, .ref (q 2)), (3, .int 3), (4, .int (nI n))] := hl
  have hI0 := hI
  obtain ⟨hM, hNn, hT, ⟨hLc, hLt, hL4, hL2, hL5⟩, hB⟩ := hI
  by_cases h10 : n = 10
  · subst h10
    refine lv_iload hx hb dL_isRoot_0 (lv_at hl 4 rfl) ?_
    refine lv_bipush (v := 10) hx hb dL_isRoot_2 (by decide) ?_
    refine lv_icmp_ge (tgt := 11) hx hb dL_isRoot_4 (by decide) (fun c_4 => ?_) (fun c_4 => absurd (nI_le (a := 10) (b := 10) (Nat.le_refl _) (by decide)) c_4)
    refine lv_iconst (v := 0) hx hb dL_isRoot_11 (by decide) ?_
    refine lv_istore (lv' := [(5, .int 0), (0, .ref (a 0)), (1, .ref (q 1)), (2, .ref (q 2)), (3, .int 3), (4, .int (nI 10))]) hx hb dL_isRoot_12 hl (by decide) rfl (fun ls hl => ?_)
    refine lv_iload hx hb dL_isRoot_14 (lv_at hl 0 rfl) ?_
    refine lv_if_eq (tgt := 31) hx hb dL_isRoot_16 (by decide) (fun c_16 => ?_) (fun c_16 => absurd (by decide) c_16)
    refine lv_iconst (v := 0) hx hb dL_isRoot_31 (by decide) ?_
    refine lv_istore (lv' := [(6, .int 0), (5, .int 0), (0, .ref (a 0)), (1, .ref (q 1)), (2, .ref (q 2)), (3, .int 3), (4, .int (nI 10))]) hx hb dL_isRoot_32 hl (by decide) rfl (fun ls hl => ?_)
    refine lv_iload_n hx hb dL_isRoot_34 rfl (lv_at hl 5 rfl) ?_
    refine lv_iconst (v := 3) hx hb dL_isRoot_35 (by decide) ?_
    refine lv_icmp_ne (tgt := 133) hx hb dL_isRoot_36 (by decide) (fun c_36 => absurd (by decide) c_36) (fun c_36 => ?_)
    refine lv_iload hx hb dL_isRoot_39 (lv_at hl 1 rfl) ?_
    refine lv_if_ne (tgt := 49) hx hb dL_isRoot_41 (by decide) (fun c_41 => absurd (by decide) c_41) (fun c_41 => ?_)
    refine lv_bipush (v := (-30)) hx hb dL_isRoot_44 (by decide) ?_
    refine lv_goto (tgt := 68) hx hb dL_isRoot_46 (by decide) ?_
    refine lv_istore (lv' := [(7, .int (-30)), (6, .int 0), (5, .int 0), (0, .ref (a 0)), (1, .ref (q 1)), (2, .ref (q 2)), (3, .int 3), (4, .int (nI 10))]) hx hb dL_isRoot_68 hl (by decide) rfl (fun ls hl => ?_)
    refine lv_iload hx hb dL_isRoot_70 (lv_at hl 0 rfl) ?_
    refine lv_if_le (tgt := 91) hx hb dL_isRoot_72 (by decide) (fun c_72 => ?_) (fun c_72 => absurd (by decide) c_72)
    refine lv_aload_n hx hb dL_isRoot_91 rfl (lv_at hl 3 rfl) ?_
    refine lv_iconst (v := 3) hx hb dL_isRoot_92 (by decide) ?_
    refine lv_iload hx hb dL_isRoot_93 (lv_at hl 7 rfl) ?_
    refine lv_iconst (v := 0) hx hb dL_isRoot_95 (by decide) ?_
    refine lv_iconst (v := 0) hx hb dL_isRoot_96 (by decide) ?_
    refine lv_iconst (v := 0) hx hb dL_isRoot_97 (by decide) ?_
    refine lz_callH CF hTh hN hA hw (As := [.ref (a 0), .int 3, .int (nI 10), .int 0, .int 0, .int 0]) (rest := []) (jL_does_3 l hfl k a q hsep σ θ (nI 10) 0 0 0) (fun _ _ _ _ _ => trivial) (fun _ _ _ => trivial) (vx_cwSW 6 hts gL_isRoot_L_does rfl rfl rfl (by decide +kernel) ⟨Nat.le_of_ble_eq_true rfl, Nat.le_of_ble_eq_true rfl⟩) rfl hl.1 rfl (lv_room (Nat.le_of_ble_eq_true rfl)) dL_isRoot_98 ⟨Nat.le_of_ble_eq_true rfl, Nat.le_of_ble_eq_true rfl⟩ (fun H locs r_98 σ_98 θ_98 hp_98 hw => ?_)
    obtain ⟨h1, h2, h3⟩ := hp_98
    rw [lz_tMake10] at h1 h2
    have h1 : r_98 = (-30) := h1.trans lz_code_IO
    have h2 : σ_98 = σ := h2
    rw [h2, h3] at hw
    rw [h1]
    refine lv_iload hx hb dL_isRoot_101 (lv_at hl 0 rfl) ?_
    refine lv_icmp_ne (tgt := 131) hx hb dL_isRoot_103 (by decide) (fun c_103 => absurd (by decide) c_103) (fun c_103 => ?_)
    refine lv_iload hx hb dL_isRoot_106 (lv_at hl 0 rfl) ?_
    refine lv_if_lt (tgt := 127) hx hb dL_isRoot_108 (by decide) (fun c_108 => ?_) (fun c_108 => absurd (by decide) c_108)
    refine lv_iconst (v := 1) hx hb dL_isRoot_127 (by decide) ?_
    refine lv_goto (tgt := 132) hx hb dL_isRoot_128 (by decide) ?_
    exact lz_zret (post := (fun r σ1 θ1 => r = 1 ∧ lz_I (K + 1) B σ1 θ1)) CF hr hlocks hw (by show 0 + 4 ≤ 10; omega) (by show 0 + 24 ≤ 60; omega) dL_isRoot_132 ⟨rfl, lz_I_up hI0 (by omega) (Nat.le_refl _)⟩
  · have hn9 : n < 10 := by omega
    have hlt4 : ¬ 10 ≤ nI n := nI_ge (a := n) (b := 10) hn9 (by decide)
    have h1n := (hLt n hn9).1
    rcases (show iv_r σ n ∨ σ 5 n = 0 from (hNn n hn9).elim Or.inl (fun g => Or.inr (g.elim (fun g => g.1) (fun g => g.1)))) with ⟨c5, c7, c8, c9, c11, c6⟩ | c5
    · skip
      have htl : rm_tMake σ (nI n) = some rm_IS := by rw [lz_tMaken hn9, if_neg (by rw [c5]; decide)]
      refine lv_iload hx hb dL_isRoot_0 (lv_at hl 4 rfl) ?_
      refine lv_bipush (v := 10) hx hb dL_isRoot_2 (by decide) ?_
      refine lv_icmp_ge (tgt := 11) hx hb dL_isRoot_4 (by decide) (fun c_4 => absurd c_4 hlt4) (fun c_4 => ?_)
      refine lv_iconst (v := 1) hx hb dL_isRoot_7 (by decide) ?_
      refine lv_goto (tgt := 12) hx hb dL_isRoot_8 (by decide) ?_
      refine lv_istore (lv' := [(5, .int 1), (0, .ref (a 0)), (1, .ref (q 1)), (2, .ref (q 2)), (3, .int 3), (4, .int (nI n))]) hx hb dL_isRoot_12 hl (by decide) rfl (fun ls hl => ?_)
      refine lv_iload hx hb dL_isRoot_14 (lv_at hl 0 rfl) ?_
      refine lv_if_eq (tgt := 31) hx hb dL_isRoot_16 (by decide) (fun c_16 => absurd c_16 (by decide)) (fun c_16 => ?_)
      refine lv_aload_n hx hb dL_isRoot_19 rfl (lv_at hl 2 rfl) ?_
      refine lv_iload hx hb dL_isRoot_20 (lv_at hl 5 rfl) ?_
      refine lz_iald CF hw 1 (j := n) (by decide) (by show _ < 20; omega) dL_isRoot_22 ?_
      refine lv_iconst (v := 1) hx hb dL_isRoot_23 (by decide) ?_
      refine lv_icmp_ne (tgt := 31) hx hb dL_isRoot_24 (by decide) (fun c_24 => absurd (h1n.trans c5) c_24) (fun c_24 => ?_)
      refine lv_iconst (v := 1) hx hb dL_isRoot_27 (by decide) ?_
      refine lv_goto (tgt := 32) hx hb dL_isRoot_28 (by decide) ?_
      refine lv_istore (lv' := [(6, .int 1), (5, .int 1), (0, .ref (a 0)), (1, .ref (q 1)), (2, .ref (q 2)), (3, .int 3), (4, .int (nI n))]) hx hb dL_isRoot_32 hl (by decide) rfl (fun ls hl => ?_)
      refine lv_iload_n hx hb dL_isRoot_34 rfl (lv_at hl 5 rfl) ?_
      refine lv_iconst (v := 3) hx hb dL_isRoot_35 (by decide) ?_
      refine lv_icmp_ne (tgt := 133) hx hb dL_isRoot_36 (by decide) (fun c_36 => absurd (by decide) c_36) (fun c_36 => ?_)
      refine lv_iload hx hb dL_isRoot_39 (lv_at hl 1 rfl) ?_
      refine lv_if_ne (tgt := 49) hx hb dL_isRoot_41 (by decide) (fun c_41 => ?_) (fun c_41 => absurd c_41 (by decide))
      refine lv_iload hx hb dL_isRoot_49 (lv_at hl 0 rfl) ?_
      refine lv_if_eq (tgt := 59) hx hb dL_isRoot_51 (by decide) (fun c_51 => absurd c_51 (by decide)) (fun c_51 => ?_)
      refine lv_bipush (v := (-10)) hx hb dL_isRoot_54 (by decide) ?_
      refine lv_goto (tgt := 68) hx hb dL_isRoot_56 (by decide) ?_
      refine lv_istore (lv' := [(7, .int (-10)), (6, .int 1), (5, .int 1), (0, .ref (a 0)), (1, .ref (q 1)), (2, .ref (q 2)), (3, .int 3), (4, .int (nI n))]) hx hb dL_isRoot_68 hl (by decide) rfl (fun ls hl => ?_)
      refine lv_iload hx hb dL_isRoot_70 (lv_at hl 0 rfl) ?_
      refine lv_if_le (tgt := 91) hx hb dL_isRoot_72 (by decide) (fun c_72 => ?_) (fun c_72 => absurd (by decide) c_72)
      refine lv_aload_n hx hb dL_isRoot_91 rfl (lv_at hl 3 rfl) ?_
      refine lv_iconst (v := 3) hx hb dL_isRoot_92 (by decide) ?_
      refine lv_iload hx hb dL_isRoot_93 (lv_at hl 7 rfl) ?_
      refine lv_iconst (v := 0) hx hb dL_isRoot_95 (by decide) ?_
      refine lv_iconst (v := 0) hx hb dL_isRoot_96 (by decide) ?_
      refine lv_iconst (v := 0) hx hb dL_isRoot_97 (by decide) ?_
      refine lz_callH CF hTh hN hA hw (As := [.ref (a 0), .int 3, .int (nI n), .int 0, .int 0, .int 0]) (rest := []) (jL_does_3 l hfl k a q hsep σ θ (nI n) 0 0 0) (fun _ _ _ _ _ => trivial) (fun _ _ _ => trivial) (vx_cwSW 6 hts gL_isRoot_L_does rfl rfl rfl (by decide +kernel) ⟨Nat.le_of_ble_eq_true rfl, Nat.le_of_ble_eq_true rfl⟩) rfl hl.1 rfl (lv_room (Nat.le_of_ble_eq_true rfl)) dL_isRoot_98 ⟨Nat.le_of_ble_eq_true rfl, Nat.le_of_ble_eq_true rfl⟩ (fun H locs r_98 σ_98 θ_98 hp_98 hw => ?_)
      obtain ⟨h1, h2, h3⟩ := hp_98
      rw [htl] at h1 h2
      have h1 : r_98 = (-10) := h1.trans lz_code_IS
      have h2 : σ_98 = σ := h2
      rw [h2, h3] at hw
      rw [h1]
      refine lv_iload hx hb dL_isRoot_101 (lv_at hl 0 rfl) ?_
      refine lv_icmp_ne (tgt := 131) hx hb dL_isRoot_103 (by decide) (fun c_103 => absurd (by decide) c_103) (fun c_103 => ?_)
      refine lv_iload hx hb dL_isRoot_106 (lv_at hl 0 rfl) ?_
      refine lv_if_lt (tgt := 127) hx hb dL_isRoot_108 (by decide) (fun c_108 => ?_) (fun c_108 => absurd (by decide) c_108)
      refine lv_iconst (v := 1) hx hb dL_isRoot_127 (by decide) ?_
      refine lv_goto (tgt := 132) hx hb dL_isRoot_128 (by decide) ?_
      exact lz_zret (post := (fun r σ1 θ1 => r = 1 ∧ lz_I (K + 1) B σ1 θ1)) CF hr hlocks hw (by show 0 + 4 ≤ 10; omega) (by show 0 + 24 ≤ 60; omega) dL_isRoot_132 ⟨rfl, lz_I_up hI0 (by omega) (Nat.le_refl _)⟩
    · skip
      have htl : rm_tMake σ (nI n) = none := by rw [lz_tMaken hn9, if_pos c5]
      obtain ⟨m0, m5, m7, m9, m11⟩ := iv_mk_v (σ := σ) (n := n)
      obtain ⟨hI2, hr8, hr13, hpos⟩ := lz_begin_ hn9 hI0 (by omega) (rm_mk σ n) m0 m5 m7 m9 m11 (rm_up (rm_up θ 1 n 1) 1 (10 + n) ((rm_up θ 1 n 1) 1 (10 + n) + 1)) (fun z j h => h.elim (fun h => by rw [rm_up_k h, rm_up_k h]) (fun h => by rw [rm_up_j h.2, rm_up_j h.1])) (by rw [rm_up_j (by omega), rm_up_s]) (by rw [rm_up_s, rm_up_j (by omega)])
      have hge : ¬ θ 1 (10 + n) + 1 ≤ 0 := by rw [Int32.le_iff_toInt_le, Int32.toInt_zero]; omega
      have hge2 : ¬ θ 1 (10 + n) + 1 < 0 := by rw [Int32.lt_iff_toInt_lt, Int32.toInt_zero]; omega
      refine lv_iload hx hb dL_isRoot_0 (lv_at hl 4 rfl) ?_
      refine lv_bipush (v := 10) hx hb dL_isRoot_2 (by decide) ?_
      refine lv_icmp_ge (tgt := 11) hx hb dL_isRoot_4 (by decide) (fun c_4 => absurd c_4 hlt4) (fun c_4 => ?_)
      refine lv_iconst (v := 1) hx hb dL_isRoot_7 (by decide) ?_
      refine lv_goto (tgt := 12) hx hb dL_isRoot_8 (by decide) ?_
      refine lv_istore (lv' := [(5, .int 1), (0, .ref (a 0)), (1, .ref (q 1)), (2, .ref (q 2)), (3, .int 3), (4, .int (nI n))]) hx hb dL_isRoot_12 hl (by decide) rfl (fun ls hl => ?_)
      refine lv_iload hx hb dL_isRoot_14 (lv_at hl 0 rfl) ?_
      refine lv_if_eq (tgt := 31) hx hb dL_isRoot_16 (by decide) (fun c_16 => absurd c_16 (by decide)) (fun c_16 => ?_)
      refine lv_aload_n hx hb dL_isRoot_19 rfl (lv_at hl 2 rfl) ?_
      refine lv_iload hx hb dL_isRoot_20 (lv_at hl 5 rfl) ?_
      refine lz_iald CF hw 1 (j := n) (by decide) (by show _ < 20; omega) dL_isRoot_22 ?_
      refine lv_iconst (v := 1) hx hb dL_isRoot_23 (by decide) ?_
      refine lv_icmp_ne (tgt := 31) hx hb dL_isRoot_24 (by decide) (fun c_24 => ?_) (fun c_24 => absurd c_24 (by rw [h1n, c5]; decide))
      refine lv_iconst (v := 0) hx hb dL_isRoot_31 (by decide) ?_
      refine lv_istore (lv' := [(6, .int 0), (5, .int 1), (0, .ref (a 0)), (1, .ref (q 1)), (2, .ref (q 2)), (3, .int 3), (4, .int (nI n))]) hx hb dL_isRoot_32 hl (by decide) rfl (fun ls hl => ?_)
      refine lv_iload_n hx hb dL_isRoot_34 rfl (lv_at hl 5 rfl) ?_
      refine lv_iconst (v := 3) hx hb dL_isRoot_35 (by decide) ?_
      refine lv_icmp_ne (tgt := 133) hx hb dL_isRoot_36 (by decide) (fun c_36 => absurd (by decide) c_36) (fun c_36 => ?_)
      refine lv_iload hx hb dL_isRoot_39 (lv_at hl 1 rfl) ?_
      refine lv_if_ne (tgt := 49) hx hb dL_isRoot_41 (by decide) (fun c_41 => ?_) (fun c_41 => absurd c_41 (by decide))
      refine lv_iload hx hb dL_isRoot_49 (lv_at hl 0 rfl) ?_
      refine lv_if_eq (tgt := 59) hx hb dL_isRoot_51 (by decide) (fun c_51 => ?_) (fun c_51 => absurd (by decide) c_51)
      refine lv_aload_n hx hb dL_isRoot_59 rfl (lv_at hl 3 rfl) ?_
      refine lv_bipush (v := 10) hx hb dL_isRoot_60 (by decide) ?_
      refine lv_iload hx hb dL_isRoot_62 (lv_at hl 6 rfl) ?_
      refine lv_iadd hx hb dL_isRoot_64 ?_
      rw [show (10 : Int32) + (nI n) = nI (10 + n) from nI_add 10 n]
      refine lz_iald CF hw 1 (j := (10 + n)) (by decide) (by show _ < 20; omega) dL_isRoot_65 ?_
      refine lv_iconst (v := 1) hx hb dL_isRoot_66 (by decide) ?_
      refine lv_iadd hx hb dL_isRoot_67 ?_
      refine lv_istore (lv' := [(7, .int ((θ 1 (10 + n)) + 1)), (6, .int 0), (5, .int 1), (0, .ref (a 0)), (1, .ref (q 1)), (2, .ref (q 2)), (3, .int 3), (4, .int (nI n))]) hx hb dL_isRoot_68 hl (by decide) rfl (fun ls hl => ?_)
      refine lv_iload hx hb dL_isRoot_70 (lv_at hl 0 rfl) ?_
      refine lv_if_le (tgt := 91) hx hb dL_isRoot_72 (by decide) (fun c_72 => absurd c_72 hge) (fun c_72 => ?_)
      refine lv_aload_n hx hb dL_isRoot_75 rfl (lv_at hl 4 rfl) ?_
      refine lv_iload hx hb dL_isRoot_76 (lv_at hl 7 rfl) ?_
      refine lv_iconst (v := 1) hx hb dL_isRoot_78 (by decide) ?_
      refine lz_iast CF hw 1 (j := n) (by decide) (by show _ < 20; omega) dL_isRoot_79 (fun H locs hw => ?_)
      refine lv_aload_n hx hb dL_isRoot_80 rfl (lv_at hl 4 rfl) ?_
      refine lv_bipush (v := 10) hx hb dL_isRoot_81 (by decide) ?_
      refine lv_iload hx hb dL_isRoot_83 (lv_at hl 7 rfl) ?_
      refine lv_iadd hx hb dL_isRoot_85 ?_
      rw [show (10 : Int32) + (nI n) = nI (10 + n) from nI_add 10 n]
      refine lv_dup2_11 hx hb dL_isRoot_86 rfl rfl ?_
      refine lz_iald CF hw 1 (j := (10 + n)) (by decide) (by show _ < 20; omega) dL_isRoot_87 ?_
      refine lv_iconst (v := 1) hx hb dL_isRoot_88 (by decide) ?_
      refine lv_iadd hx hb dL_isRoot_89 ?_
      refine lz_iast CF hw 1 (j := (10 + n)) (by decide) (by show _ < 20; omega) dL_isRoot_90 (fun H locs hw => ?_)
      refine lv_aload_n hx hb dL_isRoot_91 rfl (lv_at hl 3 rfl) ?_
      refine lv_iconst (v := 3) hx hb dL_isRoot_92 (by decide) ?_
      refine lv_iload hx hb dL_isRoot_93 (lv_at hl 7 rfl) ?_
      refine lv_iconst (v := 0) hx hb dL_isRoot_95 (by decide) ?_
      refine lv_iconst (v := 0) hx hb dL_isRoot_96 (by decide) ?_
      refine lv_iconst (v := 0) hx hb dL_isRoot_97 (by decide) ?_
      refine lz_callH CF hTh hN hA hw (As := [.ref (a 0), .int 3, .int (nI n), .int 0, .int 0, .int 0]) (rest := []) (jL_does_3 l hfl k a q hsep σ (rm_up (rm_up θ 1 n 1) 1 (10 + n) (((rm_up θ 1 n 1) 1 (10 + n)) + 1)) (nI n) 0 0 0) (fun _ _ _ _ _ => trivial) (fun _ _ _ => trivial) (vx_cwSW 6 hts gL_isRoot_L_does rfl rfl rfl (by decide +kernel) ⟨Nat.le_of_ble_eq_true rfl, Nat.le_of_ble_eq_true rfl⟩) rfl hl.1 rfl (lv_room (Nat.le_of_ble_eq_true rfl)) dL_isRoot_98 ⟨Nat.le_of_ble_eq_true rfl, Nat.le_of_ble_eq_true rfl⟩ (fun H locs r_98 σ_98 θ_98 hp_98 hw => ?_)
      obtain ⟨h1, h2, h3⟩ := hp_98
      rw [htl] at h1 h2
      rw [rm_cl hn9] at h1 h2
      have h1 : r_98 = (rm_begin (rm_mk σ n) n) 8 n := h1.trans rfl
      have h2 : σ_98 = (rm_begin (rm_mk σ n) n) := h2
      rw [h2, h3] at hw
      rw [h1]
      refine lv_iload hx hb dL_isRoot_101 (lv_at hl 0 rfl) ?_
      refine lv_icmp_ne (tgt := 131) hx hb dL_isRoot_103 (by decide) (fun c_103 => absurd hr8 c_103) (fun c_103 => ?_)
      refine lv_iload hx hb dL_isRoot_106 (lv_at hl 0 rfl) ?_
      refine lv_if_lt (tgt := 127) hx hb dL_isRoot_108 (by decide) (fun c_108 => absurd c_108 hge2) (fun c_108 => ?_)
      refine lv_aload_n hx hb dL_isRoot_111 rfl (lv_at hl 3 rfl) ?_
      refine lv_iload hx hb dL_isRoot_112 (lv_at hl 7 rfl) ?_
      refine lz_callI CF hTh hA hw (As := [.int (nI n)]) (rest := []) (lk_nextTelling l k a (rm_begin (rm_mk σ n) n) hfl hsep.1 hn9 hr13) (cwV 1 hts gL_isRoot_X0_nextTelling rfl rfl rfl (by decide +kernel) ⟨Nat.le_of_ble_eq_true rfl, Nat.le_of_ble_eq_true rfl⟩) rfl hl.1 rfl (lv_room (Nat.le_of_ble_eq_true rfl)) dL_isRoot_114 ⟨Nat.le_of_ble_eq_true rfl, Nat.le_of_ble_eq_true rfl⟩ (fun H locs hw => ?_)
      refine lv_aload_n hx hb dL_isRoot_117 rfl (lv_at hl 5 rfl) ?_
      refine lv_iconst (v := 0) hx hb dL_isRoot_118 (by decide) ?_
      refine lz_iald CF hw 2 (j := 0) (by decide) (by show _ < 3; omega) dL_isRoot_119 ?_
      refine lv_aload_n hx hb dL_isRoot_120 rfl (lv_at hl 5 rfl) ?_
      refine lv_iconst (v := 1) hx hb dL_isRoot_121 (by decide) ?_
      refine lz_iald CF hw 2 (j := 1) (by decide) (by show _ < 3; omega) dL_isRoot_122 ?_
      refine lv_iadd hx hb dL_isRoot_123 ?_
      refine lv_icmp_ne (tgt := 131) hx hb dL_isRoot_124 (by decide) (fun c_124 => absurd (by first | rfl | rw [rm_up_k (by decide), rm_up_k (by decide), rm_up_k (by decide), rm_up_k (by decide)] | rw [rm_up_k (by decide), rm_up_k (by decide)]) c_124) (fun c_124 => ?_)
      refine lv_iconst (v := 1) hx hb dL_isRoot_127 (by decide) ?_
      refine lv_goto (tgt := 132) hx hb dL_isRoot_128 (by decide) ?_
      exact lz_zret (post := (fun r σ1 θ1 => r = 1 ∧ lz_I (K + 1) B σ1 θ1)) CF hr hlocks hw (by show 0 + 4 + 1 ≤ 10; omega) (by show 0 + 24 + 6 ≤ 60; omega) dL_isRoot_132 ⟨rfl, hI2⟩
set_option maxHeartbeats 4000000 in
set_option maxRecDepth 100000 in
theorem jL_isRoot_4 (l : Launch) (hfl : l.stackTraces = false) (k : rm_K) (a q : Nat → Nat) (hsep : lz_sep a q) (σ θ : rm_St) {n K B : Nat} (hn : n ≤ 10) (hI : lz_I K B σ θ) (hK : K ≤ 100) : lz_M l k a q (fun _ => True) yL_isRoot wsL_isRoot ({ frames := 11, cells := 10, slots := 60, locals := 240 }) [.ref (a 0), .ref (q 1), .ref (q 2), .int 4, .int (nI n)] σ θ (fun r σ1 θ1 => r = 1 ∧ lz_I (K + 1) B σ1 θ1) := by
  refine lz_enter (cc := cL_isRoot) (nL := 8) (ret := some .boolean) hsep (by decide) rfl rfl (Nat.le_of_ble_eq_true rfl) ?_
  intro p e s m args below meth c ls CF hr hlocks hTh hN hX hw hl
  have hx := CF.1
  have hb := CF.2.1
  have hts := CF.2.2.2.2
  have hA : ∀ x, s.heap.size ≤ x → lz_A a q s.heap.size x := fun x h => Or.inl (Or.inr h)
  replace hl : lv_has ls 8 [(0, .ref (a 0)), (1, .ref (q 1)), (2, .ref (q 2)), (3, .int 4), (4, .int (nI n))] := hl
  have hI0 := hI
  obtain ⟨hM, hNn, hT, ⟨hLc, hLt, hL4, hL2, hL5⟩, hB⟩ := hI
  by_cases h10 : n = 10
  · subst h10
    refine lv_iload hx hb dL_isRoot_0 (lv_at hl 4 rfl) ?_
    refine lv_bipush (v := 10) hx hb dL_isRoot_2 (by decide) ?_
    refine lv_icmp_ge (tgt := 11) hx hb dL_isRoot_4 (by decide) (fun c_4 => ?_) (fun c_4 => absurd (nI_le (a := 10) (b := 10) (Nat.le_refl _) (by decide)) c_4)
    refine lv_iconst (v := 0) hx hb dL_isRoot_11 (by decide) ?_
    refine lv_istore (lv' := [(5, .int 0), (0, .ref (a 0)), (1, .ref (q 1)), (2, .ref (q 2)), (3, .int 4), (4, .int (nI 10))]) hx hb dL_isRoot_12 hl (by decide) rfl (fun ls hl => ?_)
    refine lv_iload hx hb dL_isRoot_14 (lv_at hl 0 rfl) ?_
    refine lv_if_eq (tgt := 31) hx hb dL_isRoot_16 (by decide) (fun c_16 => ?_) (fun c_16 => absurd (by decide) c_16)
    refine lv_iconst (v := 0) hx hb dL_isRoot_31 (by decide) ?_
    refine lv_istore (lv' := [(6, .int 0), (5, .int 0), (0, .ref (a 0)), (1, .ref (q 1)), (2, .ref (q 2)), (3, .int 4), (4, .int (nI 10))]) hx hb dL_isRoot_32 hl (by decide) rfl (fun ls hl => ?_)
    refine lv_iload_n hx hb dL_isRoot_34 rfl (lv_at hl 5 rfl) ?_
    refine lv_iconst (v := 3) hx hb dL_isRoot_35 (by decide) ?_
    refine lv_icmp_ne (tgt := 133) hx hb dL_isRoot_36 (by decide) (fun c_36 => ?_) (fun c_36 => absurd c_36 (by decide))
    refine lv_iload_n hx hb dL_isRoot_133 rfl (lv_at hl 5 rfl) ?_
    refine lv_iconst (v := 4) hx hb dL_isRoot_134 (by decide) ?_
    refine lv_icmp_ne (tgt := 227) hx hb dL_isRoot_135 (by decide) (fun c_135 => absurd (by decide) c_135) (fun c_135 => ?_)
    refine lv_iload hx hb dL_isRoot_138 (lv_at hl 1 rfl) ?_
    refine lv_if_ne (tgt := 148) hx hb dL_isRoot_140 (by decide) (fun c_140 => absurd (by decide) c_140) (fun c_140 => ?_)
    refine lv_bipush (v := (-30)) hx hb dL_isRoot_143 (by decide) ?_
    refine lv_goto (tgt := 167) hx hb dL_isRoot_145 (by decide) ?_
    refine lv_istore (lv' := [(7, .int (-30)), (6, .int 0), (5, .int 0), (0, .ref (a 0)), (1, .ref (q 1)), (2, .ref (q 2)), (3, .int 4), (4, .int (nI 10))]) hx hb dL_isRoot_167 hl (by decide) rfl (fun ls hl => ?_)
    refine lv_iload hx hb dL_isRoot_169 (lv_at hl 0 rfl) ?_
    refine lv_if_le (tgt := 185) hx hb dL_isRoot_171 (by decide) (fun c_171 => ?_) (fun c_171 => absurd (by decide) c_171)
    refine lv_aload_n hx hb dL_isRoot_185 rfl (lv_at hl 3 rfl) ?_
    refine lv_iconst (v := 4) hx hb dL_isRoot_186 (by decide) ?_
    refine lv_iload hx hb dL_isRoot_187 (lv_at hl 7 rfl) ?_
    refine lv_iconst (v := 0) hx hb dL_isRoot_189 (by decide) ?_
    refine lv_iconst (v := 0) hx hb dL_isRoot_190 (by decide) ?_
    refine lv_iconst (v := 0) hx hb dL_isRoot_191 (by decide) ?_
    refine lz_callH CF hTh hN hA hw (As := [.ref (a 0), .int 4, .int (nI 10), .int 0, .int 0, .int 0]) (rest := []) (jL_does_4 l hfl k a q hsep σ θ (nI 10) 0 0 0) (fun _ _ _ _ _ => trivial) (fun _ _ _ => trivial) (vx_cwSW 6 hts gL_isRoot_L_does rfl rfl rfl (by decide +kernel) ⟨Nat.le_of_ble_eq_true rfl, Nat.le_of_ble_eq_true rfl⟩) rfl hl.1 rfl (lv_room (Nat.le_of_ble_eq_true rfl)) dL_isRoot_192 ⟨Nat.le_of_ble_eq_true rfl, Nat.le_of_ble_eq_true rfl⟩ (fun H locs r_192 σ_192 θ_192 hp_192 hw => ?_)
    obtain ⟨h1, h2, h3⟩ := hp_192
    rw [lz_tRoot10] at h1 h2
    have h1 : r_192 = (-30) := h1.trans lz_code_IO
    have h2 : σ_192 = σ := h2
    rw [h2, h3] at hw
    rw [h1]
    refine lv_iload hx hb dL_isRoot_195 (lv_at hl 0 rfl) ?_
    refine lv_icmp_ne (tgt := 225) hx hb dL_isRoot_197 (by decide) (fun c_197 => absurd (by decide) c_197) (fun c_197 => ?_)
    refine lv_iload hx hb dL_isRoot_200 (lv_at hl 0 rfl) ?_
    refine lv_if_lt (tgt := 221) hx hb dL_isRoot_202 (by decide) (fun c_202 => ?_) (fun c_202 => absurd (by decide) c_202)
    refine lv_iconst (v := 1) hx hb dL_isRoot_221 (by decide) ?_
    refine lv_goto (tgt := 226) hx hb dL_isRoot_222 (by decide) ?_
    exact lz_zret (post := (fun r σ1 θ1 => r = 1 ∧ lz_I (K + 1) B σ1 θ1)) CF hr hlocks hw (by show 0 + 4 ≤ 10; omega) (by show 0 + 24 ≤ 60; omega) dL_isRoot_226 ⟨rfl, lz_I_up hI0 (by omega) (Nat.le_refl _)⟩
  · have hn9 : n < 10 := by omega
    have hlt4 : ¬ 10 ≤ nI n := nI_ge (a := n) (b := 10) hn9 (by decide)
    have h1n := (hLt n hn9).1
    rcases (show iv_r σ n ∨ σ 5 n = 0 from (hNn n hn9).elim Or.inl (fun g => Or.inr (g.elim (fun g => g.1) (fun g => g.1)))) with ⟨c5, c7, c8, c9, c11, c6⟩ | c5
    · skip
      have htl : rm_tRoot σ (nI n) = none := by rw [lz_tRootn hn9, if_neg (by rw [c5]; decide)]
      obtain ⟨hI2, hr8, hr13, hpos⟩ := lz_begin_ hn9 hI0 (by omega) σ (fun _ _ _ => rfl) c5 c7 c9 c11 (rm_up θ 1 (10 + n) (θ 1 (10 + n) + 1)) (fun z j h => h.elim (fun h => rm_up_k h) (fun h => rm_up_j h.2)) (by rw [rm_up_j (by omega), h1n, c5]) (rm_up_s _ _ _ _)
      have hge : ¬ θ 1 (10 + n) + 1 ≤ 0 := by rw [Int32.le_iff_toInt_le, Int32.toInt_zero]; omega
      have hge2 : ¬ θ 1 (10 + n) + 1 < 0 := by rw [Int32.lt_iff_toInt_lt, Int32.toInt_zero]; omega
      refine lv_iload hx hb dL_isRoot_0 (lv_at hl 4 rfl) ?_
      refine lv_bipush (v := 10) hx hb dL_isRoot_2 (by decide) ?_
      refine lv_icmp_ge (tgt := 11) hx hb dL_isRoot_4 (by decide) (fun c_4 => absurd c_4 hlt4) (fun c_4 => ?_)
      refine lv_iconst (v := 1) hx hb dL_isRoot_7 (by decide) ?_
      refine lv_goto (tgt := 12) hx hb dL_isRoot_8 (by decide) ?_
      refine lv_istore (lv' := [(5, .int 1), (0, .ref (a 0)), (1, .ref (q 1)), (2, .ref (q 2)), (3, .int 4), (4, .int (nI n))]) hx hb dL_isRoot_12 hl (by decide) rfl (fun ls hl => ?_)
      refine lv_iload hx hb dL_isRoot_14 (lv_at hl 0 rfl) ?_
      refine lv_if_eq (tgt := 31) hx hb dL_isRoot_16 (by decide) (fun c_16 => absurd c_16 (by decide)) (fun c_16 => ?_)
      refine lv_aload_n hx hb dL_isRoot_19 rfl (lv_at hl 2 rfl) ?_
      refine lv_iload hx hb dL_isRoot_20 (lv_at hl 5 rfl) ?_
      refine lz_iald CF hw 1 (j := n) (by decide) (by show _ < 20; omega) dL_isRoot_22 ?_
      refine lv_iconst (v := 1) hx hb dL_isRoot_23 (by decide) ?_
      refine lv_icmp_ne (tgt := 31) hx hb dL_isRoot_24 (by decide) (fun c_24 => absurd (h1n.trans c5) c_24) (fun c_24 => ?_)
      refine lv_iconst (v := 1) hx hb dL_isRoot_27 (by decide) ?_
      refine lv_goto (tgt := 32) hx hb dL_isRoot_28 (by decide) ?_
      refine lv_istore (lv' := [(6, .int 1), (5, .int 1), (0, .ref (a 0)), (1, .ref (q 1)), (2, .ref (q 2)), (3, .int 4), (4, .int (nI n))]) hx hb dL_isRoot_32 hl (by decide) rfl (fun ls hl => ?_)
      refine lv_iload_n hx hb dL_isRoot_34 rfl (lv_at hl 5 rfl) ?_
      refine lv_iconst (v := 3) hx hb dL_isRoot_35 (by decide) ?_
      refine lv_icmp_ne (tgt := 133) hx hb dL_isRoot_36 (by decide) (fun c_36 => ?_) (fun c_36 => absurd c_36 (by decide))
      refine lv_iload_n hx hb dL_isRoot_133 rfl (lv_at hl 5 rfl) ?_
      refine lv_iconst (v := 4) hx hb dL_isRoot_134 (by decide) ?_
      refine lv_icmp_ne (tgt := 227) hx hb dL_isRoot_135 (by decide) (fun c_135 => absurd (by decide) c_135) (fun c_135 => ?_)
      refine lv_iload hx hb dL_isRoot_138 (lv_at hl 1 rfl) ?_
      refine lv_if_ne (tgt := 148) hx hb dL_isRoot_140 (by decide) (fun c_140 => ?_) (fun c_140 => absurd c_140 (by decide))
      refine lv_iload hx hb dL_isRoot_148 (lv_at hl 0 rfl) ?_
      refine lv_if_eq (tgt := 165) hx hb dL_isRoot_150 (by decide) (fun c_150 => absurd c_150 (by decide)) (fun c_150 => ?_)
      refine lv_aload_n hx hb dL_isRoot_153 rfl (lv_at hl 3 rfl) ?_
      refine lv_bipush (v := 10) hx hb dL_isRoot_154 (by decide) ?_
      refine lv_iload hx hb dL_isRoot_156 (lv_at hl 6 rfl) ?_
      refine lv_iadd hx hb dL_isRoot_158 ?_
      rw [show (10 : Int32) + (nI n) = nI (10 + n) from nI_add 10 n]
      refine lz_iald CF hw 1 (j := (10 + n)) (by decide) (by show _ < 20; omega) dL_isRoot_159 ?_
      refine lv_iconst (v := 1) hx hb dL_isRoot_160 (by decide) ?_
      refine lv_iadd hx hb dL_isRoot_161 ?_
      refine lv_goto (tgt := 167) hx hb dL_isRoot_162 (by decide) ?_
      refine lv_istore (lv' := [(7, .int ((θ 1 (10 + n)) + 1)), (6, .int 1), (5, .int 1), (0, .ref (a 0)), (1, .ref (q 1)), (2, .ref (q 2)), (3, .int 4), (4, .int (nI n))]) hx hb dL_isRoot_167 hl (by decide) rfl (fun ls hl => ?_)
      refine lv_iload hx hb dL_isRoot_169 (lv_at hl 0 rfl) ?_
      refine lv_if_le (tgt := 185) hx hb dL_isRoot_171 (by decide) (fun c_171 => absurd c_171 hge) (fun c_171 => ?_)
      refine lv_aload_n hx hb dL_isRoot_174 rfl (lv_at hl 4 rfl) ?_
      refine lv_bipush (v := 10) hx hb dL_isRoot_175 (by decide) ?_
      refine lv_iload hx hb dL_isRoot_177 (lv_at hl 7 rfl) ?_
      refine lv_iadd hx hb dL_isRoot_179 ?_
      rw [show (10 : Int32) + (nI n) = nI (10 + n) from nI_add 10 n]
      refine lv_dup2_11 hx hb dL_isRoot_180 rfl rfl ?_
      refine lz_iald CF hw 1 (j := (10 + n)) (by decide) (by show _ < 20; omega) dL_isRoot_181 ?_
      refine lv_iconst (v := 1) hx hb dL_isRoot_182 (by decide) ?_
      refine lv_iadd hx hb dL_isRoot_183 ?_
      refine lz_iast CF hw 1 (j := (10 + n)) (by decide) (by show _ < 20; omega) dL_isRoot_184 (fun H locs hw => ?_)
      refine lv_aload_n hx hb dL_isRoot_185 rfl (lv_at hl 3 rfl) ?_
      refine lv_iconst (v := 4) hx hb dL_isRoot_186 (by decide) ?_
      refine lv_iload hx hb dL_isRoot_187 (lv_at hl 7 rfl) ?_
      refine lv_iconst (v := 0) hx hb dL_isRoot_189 (by decide) ?_
      refine lv_iconst (v := 0) hx hb dL_isRoot_190 (by decide) ?_
      refine lv_iconst (v := 0) hx hb dL_isRoot_191 (by decide) ?_
      refine lz_callH CF hTh hN hA hw (As := [.ref (a 0), .int 4, .int (nI n), .int 0, .int 0, .int 0]) (rest := []) (jL_does_4 l hfl k a q hsep σ (rm_up θ 1 (10 + n) ((θ 1 (10 + n)) + 1)) (nI n) 0 0 0) (fun _ _ _ _ _ => trivial) (fun _ _ _ => trivial) (vx_cwSW 6 hts gL_isRoot_L_does rfl rfl rfl (by decide +kernel) ⟨Nat.le_of_ble_eq_true rfl, Nat.le_of_ble_eq_true rfl⟩) rfl hl.1 rfl (lv_room (Nat.le_of_ble_eq_true rfl)) dL_isRoot_192 ⟨Nat.le_of_ble_eq_true rfl, Nat.le_of_ble_eq_true rfl⟩ (fun H locs r_192 σ_192 θ_192 hp_192 hw => ?_)
      obtain ⟨h1, h2, h3⟩ := hp_192
      rw [htl] at h1 h2
      rw [rm_cl hn9] at h1 h2
      have h1 : r_192 = (rm_begin σ n) 8 n := h1.trans rfl
      have h2 : σ_192 = (rm_begin σ n) := h2
      rw [h2, h3] at hw
      rw [h1]
      refine lv_iload hx hb dL_isRoot_195 (lv_at hl 0 rfl) ?_
      refine lv_icmp_ne (tgt := 225) hx hb dL_isRoot_197 (by decide) (fun c_197 => absurd hr8 c_197) (fun c_197 => ?_)
      refine lv_iload hx hb dL_isRoot_200 (lv_at hl 0 rfl) ?_
      refine lv_if_lt (tgt := 221) hx hb dL_isRoot_202 (by decide) (fun c_202 => absurd c_202 hge2) (fun c_202 => ?_)
      refine lv_aload_n hx hb dL_isRoot_205 rfl (lv_at hl 3 rfl) ?_
      refine lv_iload hx hb dL_isRoot_206 (lv_at hl 7 rfl) ?_
      refine lz_callI CF hTh hA hw (As := [.int (nI n)]) (rest := []) (lk_nextTelling l k a (rm_begin σ n) hfl hsep.1 hn9 hr13) (cwV 1 hts gL_isRoot_X0_nextTelling rfl rfl rfl (by decide +kernel) ⟨Nat.le_of_ble_eq_true rfl, Nat.le_of_ble_eq_true rfl⟩) rfl hl.1 rfl (lv_room (Nat.le_of_ble_eq_true rfl)) dL_isRoot_208 ⟨Nat.le_of_ble_eq_true rfl, Nat.le_of_ble_eq_true rfl⟩ (fun H locs hw => ?_)
      refine lv_aload_n hx hb dL_isRoot_211 rfl (lv_at hl 5 rfl) ?_
      refine lv_iconst (v := 0) hx hb dL_isRoot_212 (by decide) ?_
      refine lz_iald CF hw 2 (j := 0) (by decide) (by show _ < 3; omega) dL_isRoot_213 ?_
      refine lv_aload_n hx hb dL_isRoot_214 rfl (lv_at hl 5 rfl) ?_
      refine lv_iconst (v := 1) hx hb dL_isRoot_215 (by decide) ?_
      refine lz_iald CF hw 2 (j := 1) (by decide) (by show _ < 3; omega) dL_isRoot_216 ?_
      refine lv_iadd hx hb dL_isRoot_217 ?_
      refine lv_icmp_ne (tgt := 225) hx hb dL_isRoot_218 (by decide) (fun c_218 => absurd (by first | rfl | rw [rm_up_k (by decide), rm_up_k (by decide), rm_up_k (by decide), rm_up_k (by decide)] | rw [rm_up_k (by decide), rm_up_k (by decide)]) c_218) (fun c_218 => ?_)
      refine lv_iconst (v := 1) hx hb dL_isRoot_221 (by decide) ?_
      refine lv_goto (tgt := 226) hx hb dL_isRoot_222 (by decide) ?_
      exact lz_zret (post := (fun r σ1 θ1 => r = 1 ∧ lz_I (K + 1) B σ1 θ1)) CF hr hlocks hw (by show 0 + 4 + 1 ≤ 10; omega) (by show 0 + 24 + 6 ≤ 60; omega) dL_isRoot_226 ⟨rfl, hI2⟩
    · skip
      have htl : rm_tRoot σ (nI n) = some rm_IS := by rw [lz_tRootn hn9, if_pos c5]
      refine lv_iload hx hb dL_isRoot_0 (lv_at hl 4 rfl) ?_
      refine lv_bipush (v := 10) hx hb dL_isRoot_2 (by decide) ?_
      refine lv_icmp_ge (tgt := 11) hx hb dL_isRoot_4 (by decide) (fun c_4 => absurd c_4 hlt4) (fun c_4 => ?_)
      refine lv_iconst (v := 1) hx hb dL_isRoot_7 (by decide) ?_
      refine lv_goto (tgt := 12) hx hb dL_isRoot_8 (by decide) ?_
      refine lv_istore (lv' := [(5, .int 1), (0, .ref (a 0)), (1, .ref (q 1)), (2, .ref (q 2)), (3, .int 4), (4, .int (nI n))]) hx hb dL_isRoot_12 hl (by decide) rfl (fun ls hl => ?_)
      refine lv_iload hx hb dL_isRoot_14 (lv_at hl 0 rfl) ?_
      refine lv_if_eq (tgt := 31) hx hb dL_isRoot_16 (by decide) (fun c_16 => absurd c_16 (by decide)) (fun c_16 => ?_)
      refine lv_aload_n hx hb dL_isRoot_19 rfl (lv_at hl 2 rfl) ?_
      refine lv_iload hx hb dL_isRoot_20 (lv_at hl 5 rfl) ?_
      refine lz_iald CF hw 1 (j := n) (by decide) (by show _ < 20; omega) dL_isRoot_22 ?_
      refine lv_iconst (v := 1) hx hb dL_isRoot_23 (by decide) ?_
      refine lv_icmp_ne (tgt := 31) hx hb dL_isRoot_24 (by decide) (fun c_24 => ?_) (fun c_24 => absurd c_24 (by rw [h1n, c5]; decide))
      refine lv_iconst (v := 0) hx hb dL_isRoot_31 (by decide) ?_
      refine lv_istore (lv' := [(6, .int 0), (5, .int 1), (0, .ref (a 0)), (1, .ref (q 1)), (2, .ref (q 2)), (3, .int 4), (4, .int (nI n))]) hx hb dL_isRoot_32 hl (by decide) rfl (fun ls hl => ?_)
      refine lv_iload_n hx hb dL_isRoot_34 rfl (lv_at hl 5 rfl) ?_
      refine lv_iconst (v := 3) hx hb dL_isRoot_35 (by decide) ?_
      refine lv_icmp_ne (tgt := 133) hx hb dL_isRoot_36 (by decide) (fun c_36 => ?_) (fun c_36 => absurd c_36 (by decide))
      refine lv_iload_n hx hb dL_isRoot_133 rfl (lv_at hl 5 rfl) ?_
      refine lv_iconst (v := 4) hx hb dL_isRoot_134 (by decide) ?_
      refine lv_icmp_ne (tgt := 227) hx hb dL_isRoot_135 (by decide) (fun c_135 => absurd (by decide) c_135) (fun c_135 => ?_)
      refine lv_iload hx hb dL_isRoot_138 (lv_at hl 1 rfl) ?_
      refine lv_if_ne (tgt := 148) hx hb dL_isRoot_140 (by decide) (fun c_140 => ?_) (fun c_140 => absurd c_140 (by decide))
      refine lv_iload hx hb dL_isRoot_148 (lv_at hl 0 rfl) ?_
      refine lv_if_eq (tgt := 165) hx hb dL_isRoot_150 (by decide) (fun c_150 => ?_) (fun c_150 => absurd (by decide) c_150)
      refine lv_bipush (v := (-10)) hx hb dL_isRoot_165 (by decide) ?_
      refine lv_istore (lv' := [(7, .int (-10)), (6, .int 0), (5, .int 1), (0, .ref (a 0)), (1, .ref (q 1)), (2, .ref (q 2)), (3, .int 4), (4, .int (nI n))]) hx hb dL_isRoot_167 hl (by decide) rfl (fun ls hl => ?_)
      refine lv_iload hx hb dL_isRoot_169 (lv_at hl 0 rfl) ?_
      refine lv_if_le (tgt := 185) hx hb dL_isRoot_171 (by decide) (fun c_171 => ?_) (fun c_171 => absurd (by decide) c_171)
      refine lv_aload_n hx hb dL_isRoot_185 rfl (lv_at hl 3 rfl) ?_
      refine lv_iconst (v := 4) hx hb dL_isRoot_186 (by decide) ?_
      refine lv_iload hx hb dL_isRoot_187 (lv_at hl 7 rfl) ?_
      refine lv_iconst (v := 0) hx hb dL_isRoot_189 (by decide) ?_
      refine lv_iconst (v := 0) hx hb dL_isRoot_190 (by decide) ?_
      refine lv_iconst (v := 0) hx hb dL_isRoot_191 (by decide) ?_
      refine lz_callH CF hTh hN hA hw (As := [.ref (a 0), .int 4, .int (nI n), .int 0, .int 0, .int 0]) (rest := []) (jL_does_4 l hfl k a q hsep σ θ (nI n) 0 0 0) (fun _ _ _ _ _ => trivial) (fun _ _ _ => trivial) (vx_cwSW 6 hts gL_isRoot_L_does rfl rfl rfl (by decide +kernel) ⟨Nat.le_of_ble_eq_true rfl, Nat.le_of_ble_eq_true rfl⟩) rfl hl.1 rfl (lv_room (Nat.le_of_ble_eq_true rfl)) dL_isRoot_192 ⟨Nat.le_of_ble_eq_true rfl, Nat.le_of_ble_eq_true rfl⟩ (fun H locs r_192 σ_192 θ_192 hp_192 hw => ?_)
      obtain ⟨h1, h2, h3⟩ := hp_192
      rw [htl] at h1 h2
      have h1 : r_192 = (-10) := h1.trans lz_code_IS
      have h2 : σ_192 = σ := h2
      rw [h2, h3] at hw
      rw [h1]
      refine lv_iload hx hb dL_isRoot_195 (lv_at hl 0 rfl) ?_
      refine lv_icmp_ne (tgt := 225) hx hb dL_isRoot_197 (by decide) (fun c_197 => absurd (by decide) c_197) (fun c_197 => ?_)
      refine lv_iload hx hb dL_isRoot_200 (lv_at hl 0 rfl) ?_
      refine lv_if_lt (tgt := 221) hx hb dL_isRoot_202 (by decide) (fun c_202 => ?_) (fun c_202 => absurd (by decide) c_202)
      refine lv_iconst (v := 1) hx hb dL_isRoot_221 (by decide) ?_
      refine lv_goto (tgt := 226) hx hb dL_isRoot_222 (by decide) ?_
      exact lz_zret (post := (fun r σ1 θ1 => r = 1 ∧ lz_I (K + 1) B σ1 θ1)) CF hr hlocks hw (by show 0 + 4 ≤ 10; omega) (by show 0 + 24 ≤ 60; omega) dL_isRoot_226 ⟨rfl, lz_I_up hI0 (by omega) (Nat.le_refl _)⟩
set_option maxHeartbeats 4000000 in
set_option maxRecDepth 100000 in
theorem jL_isRoot_1 (l : Launch) (hfl : l.stackTraces = false) (k : rm_K) (a q : Nat → Nat) (hsep : lz_sep a q) (σ θ : rm_St) {n K B : Nat} (hn : n ≤ 10) (hI : lz_I K B σ θ) (hK : K ≤ 100) : lz_M l k a q (fun _ => True) yL_isRoot wsL_isRoot ({ frames := 11, cells := 10, slots := 60, locals := 240 }) [.ref (a 0), .ref (q 1), .ref (q 2), .int 1, .int (nI n)] σ θ (fun r σ1 θ1 => r = 1 ∧ lz_I (K + 1) B σ1 θ1) := by
  refine lz_enter (cc := cL_isRoot) (nL := 8) (ret := some .boolean) hsep (by decide) rfl rfl (Nat.le_of_ble_eq_true rfl) ?_
  intro p e s m args below meth c ls CF hr hlocks hTh hN hX hw hl
  have hx := CF.1
  have hb := CF.2.1
  have hts := CF.2.2.2.2
  have hA : ∀ x, s.heap.size ≤ x → lz_A a q s.heap.size x := fun x h => Or.inl (Or.inr h)
  replace hl : lv_has ls 8 [(0, .ref (a 0)), (1, .ref (q 1)), (2, .ref (q 2)), (3, .int 1), (4, .int (nI n))] := hl
  have hI0 := hI
  obtain ⟨hM, hNn, hT, ⟨hLc, hLt, hL4, hL2, hL5⟩, hB⟩ := hI
  by_cases h10 : n = 10
  · subst h10
    refine lv_iload hx hb dL_isRoot_0 (lv_at hl 4 rfl) ?_
    refine lv_bipush (v := 10) hx hb dL_isRoot_2 (by decide) ?_
    refine lv_icmp_ge (tgt := 11) hx hb dL_isRoot_4 (by decide) (fun c_4 => ?_) (fun c_4 => absurd (nI_le (a := 10) (b := 10) (Nat.le_refl _) (by decide)) c_4)
    refine lv_iconst (v := 0) hx hb dL_isRoot_11 (by decide) ?_
    refine lv_istore (lv' := [(5, .int 0), (0, .ref (a 0)), (1, .ref (q 1)), (2, .ref (q 2)), (3, .int 1), (4, .int (nI 10))]) hx hb dL_isRoot_12 hl (by decide) rfl (fun ls hl => ?_)
    refine lv_iload hx hb dL_isRoot_14 (lv_at hl 0 rfl) ?_
    refine lv_if_eq (tgt := 31) hx hb dL_isRoot_16 (by decide) (fun c_16 => ?_) (fun c_16 => absurd (by decide) c_16)
    refine lv_iconst (v := 0) hx hb dL_isRoot_31 (by decide) ?_
    refine lv_istore (lv' := [(6, .int 0), (5, .int 0), (0, .ref (a 0)), (1, .ref (q 1)), (2, .ref (q 2)), (3, .int 1), (4, .int (nI 10))]) hx hb dL_isRoot_32 hl (by decide) rfl (fun ls hl => ?_)
    refine lv_iload_n hx hb dL_isRoot_34 rfl (lv_at hl 5 rfl) ?_
    refine lv_iconst (v := 3) hx hb dL_isRoot_35 (by decide) ?_
    refine lv_icmp_ne (tgt := 133) hx hb dL_isRoot_36 (by decide) (fun c_36 => ?_) (fun c_36 => absurd c_36 (by decide))
    refine lv_iload_n hx hb dL_isRoot_133 rfl (lv_at hl 5 rfl) ?_
    refine lv_iconst (v := 4) hx hb dL_isRoot_134 (by decide) ?_
    refine lv_icmp_ne (tgt := 227) hx hb dL_isRoot_135 (by decide) (fun c_135 => ?_) (fun c_135 => absurd c_135 (by decide))
    refine lv_iload hx hb dL_isRoot_227 (lv_at hl 0 rfl) ?_
    refine lv_if_eq (tgt := 237) hx hb dL_isRoot_229 (by decide) (fun c_229 => ?_) (fun c_229 => absurd (by decide) c_229)
    refine lv_aload_n hx hb dL_isRoot_237 rfl (lv_at hl 2 rfl) ?_
    refine lv_iconst (v := 1) hx hb dL_isRoot_238 (by decide) ?_
    refine lv_iload hx hb dL_isRoot_239 (lv_at hl 6 rfl) ?_
    refine lv_iconst (v := 0) hx hb dL_isRoot_241 (by decide) ?_
    refine lv_iconst (v := 0) hx hb dL_isRoot_242 (by decide) ?_
    refine lv_iconst (v := 0) hx hb dL_isRoot_243 (by decide) ?_
    refine lz_callH CF hTh hN hA hw (As := [.ref (a 0), .int 1, .int (nI 10), .int 0, .int 0, .int 0]) (rest := []) (jL_does_1 l hfl k a q hsep σ θ (nI 10) 0 0 0) (fun _ _ _ _ _ => trivial) (fun _ _ _ => trivial) (vx_cwSW 6 hts gL_isRoot_L_does rfl rfl rfl (by decide +kernel) ⟨Nat.le_of_ble_eq_true rfl, Nat.le_of_ble_eq_true rfl⟩) rfl hl.1 rfl (lv_room (Nat.le_of_ble_eq_true rfl)) dL_isRoot_244 ⟨Nat.le_of_ble_eq_true rfl, Nat.le_of_ble_eq_true rfl⟩ (fun H locs r_244 σ_244 θ_244 hp_244 hw => ?_)
    obtain ⟨h1, h2, h3⟩ := hp_244
    rw [lz_tRoot10] at h1 h2
    have h1 : r_244 = (-30) := h1.trans lz_code_IO
    have h2 : σ_244 = σ := h2
    rw [h2, h3] at hw
    rw [h1]
    refine lv_iload hx hb dL_isRoot_247 (lv_at hl 1 rfl) ?_
    refine lv_if_ne (tgt := 257) hx hb dL_isRoot_249 (by decide) (fun c_249 => absurd (by decide) c_249) (fun c_249 => ?_)
    refine lv_bipush (v := (-30)) hx hb dL_isRoot_252 (by decide) ?_
    refine lv_goto (tgt := 268) hx hb dL_isRoot_254 (by decide) ?_
    refine lv_icmp_ne (tgt := 296) hx hb dL_isRoot_268 (by decide) (fun c_268 => absurd (by decide) c_268) (fun c_268 => ?_)
    refine lv_iload hx hb dL_isRoot_271 (lv_at hl 0 rfl) ?_
    refine lv_if_eq (tgt := 292) hx hb dL_isRoot_273 (by decide) (fun c_273 => ?_) (fun c_273 => absurd (by decide) c_273)
    refine lv_iconst (v := 1) hx hb dL_isRoot_292 (by decide) ?_
    refine lv_goto (tgt := 297) hx hb dL_isRoot_293 (by decide) ?_
    exact lz_zret (post := (fun r σ1 θ1 => r = 1 ∧ lz_I (K + 1) B σ1 θ1)) CF hr hlocks hw (by show 0 + 4 ≤ 10; omega) (by show 0 + 24 ≤ 60; omega) dL_isRoot_297 ⟨rfl, lz_I_up hI0 (by omega) (Nat.le_refl _)⟩
  · have hn9 : n < 10 := by omega
    have hlt4 : ¬ 10 ≤ nI n := nI_ge (a := n) (b := 10) hn9 (by decide)
    have h1n := (hLt n hn9).1
    rcases (show iv_r σ n ∨ σ 5 n = 0 from (hNn n hn9).elim Or.inl (fun g => Or.inr (g.elim (fun g => g.1) (fun g => g.1)))) with ⟨c5, c7, c8, c9, c11, c6⟩ | c5
    · skip
      have htl : rm_tRoot σ (nI n) = none := by rw [lz_tRootn hn9, if_neg (by rw [c5]; decide)]
      obtain ⟨hI2, hr13⟩ := lz_end_ hn9 hI0
      refine lv_iload hx hb dL_isRoot_0 (lv_at hl 4 rfl) ?_
      refine lv_bipush (v := 10) hx hb dL_isRoot_2 (by decide) ?_
      refine lv_icmp_ge (tgt := 11) hx hb dL_isRoot_4 (by decide) (fun c_4 => absurd c_4 hlt4) (fun c_4 => ?_)
      refine lv_iconst (v := 1) hx hb dL_isRoot_7 (by decide) ?_
      refine lv_goto (tgt := 12) hx hb dL_isRoot_8 (by decide) ?_
      refine lv_istore (lv' := [(5, .int 1), (0, .ref (a 0)), (1, .ref (q 1)), (2, .ref (q 2)), (3, .int 1), (4, .int (nI n))]) hx hb dL_isRoot_12 hl (by decide) rfl (fun ls hl => ?_)
      refine lv_iload hx hb dL_isRoot_14 (lv_at hl 0 rfl) ?_
      refine lv_if_eq (tgt := 31) hx hb dL_isRoot_16 (by decide) (fun c_16 => absurd c_16 (by decide)) (fun c_16 => ?_)
      refine lv_aload_n hx hb dL_isRoot_19 rfl (lv_at hl 2 rfl) ?_
      refine lv_iload hx hb dL_isRoot_20 (lv_at hl 5 rfl) ?_
      refine lz_iald CF hw 1 (j := n) (by decide) (by show _ < 20; omega) dL_isRoot_22 ?_
      refine lv_iconst (v := 1) hx hb dL_isRoot_23 (by decide) ?_
      refine lv_icmp_ne (tgt := 31) hx hb dL_isRoot_24 (by decide) (fun c_24 => absurd (h1n.trans c5) c_24) (fun c_24 => ?_)
      refine lv_iconst (v := 1) hx hb dL_isRoot_27 (by decide) ?_
      refine lv_goto (tgt := 32) hx hb dL_isRoot_28 (by decide) ?_
      refine lv_istore (lv' := [(6, .int 1), (5, .int 1), (0, .ref (a 0)), (1, .ref (q 1)), (2, .ref (q 2)), (3, .int 1), (4, .int (nI n))]) hx hb dL_isRoot_32 hl (by decide) rfl (fun ls hl => ?_)
      refine lv_iload_n hx hb dL_isRoot_34 rfl (lv_at hl 5 rfl) ?_
      refine lv_iconst (v := 3) hx hb dL_isRoot_35 (by decide) ?_
      refine lv_icmp_ne (tgt := 133) hx hb dL_isRoot_36 (by decide) (fun c_36 => ?_) (fun c_36 => absurd c_36 (by decide))
      refine lv_iload_n hx hb dL_isRoot_133 rfl (lv_at hl 5 rfl) ?_
      refine lv_iconst (v := 4) hx hb dL_isRoot_134 (by decide) ?_
      refine lv_icmp_ne (tgt := 227) hx hb dL_isRoot_135 (by decide) (fun c_135 => ?_) (fun c_135 => absurd c_135 (by decide))
      refine lv_iload hx hb dL_isRoot_227 (lv_at hl 0 rfl) ?_
      refine lv_if_eq (tgt := 237) hx hb dL_isRoot_229 (by decide) (fun c_229 => absurd c_229 (by decide)) (fun c_229 => ?_)
      refine lv_aload_n hx hb dL_isRoot_232 rfl (lv_at hl 3 rfl) ?_
      refine lv_iload hx hb dL_isRoot_233 (lv_at hl 6 rfl) ?_
      refine lv_iconst (v := 0) hx hb dL_isRoot_235 (by decide) ?_
      refine lz_iast CF hw 1 (j := n) (by decide) (by show _ < 20; omega) dL_isRoot_236 (fun H locs hw => ?_)
      refine lv_aload_n hx hb dL_isRoot_237 rfl (lv_at hl 2 rfl) ?_
      refine lv_iconst (v := 1) hx hb dL_isRoot_238 (by decide) ?_
      refine lv_iload hx hb dL_isRoot_239 (lv_at hl 6 rfl) ?_
      refine lv_iconst (v := 0) hx hb dL_isRoot_241 (by decide) ?_
      refine lv_iconst (v := 0) hx hb dL_isRoot_242 (by decide) ?_
      refine lv_iconst (v := 0) hx hb dL_isRoot_243 (by decide) ?_
      refine lz_callH CF hTh hN hA hw (As := [.ref (a 0), .int 1, .int (nI n), .int 0, .int 0, .int 0]) (rest := []) (jL_does_1 l hfl k a q hsep σ (rm_up θ 1 n 0) (nI n) 0 0 0) (fun _ _ _ _ _ => trivial) (fun _ _ _ => trivial) (vx_cwSW 6 hts gL_isRoot_L_does rfl rfl rfl (by decide +kernel) ⟨Nat.le_of_ble_eq_true rfl, Nat.le_of_ble_eq_true rfl⟩) rfl hl.1 rfl (lv_room (Nat.le_of_ble_eq_true rfl)) dL_isRoot_244 ⟨Nat.le_of_ble_eq_true rfl, Nat.le_of_ble_eq_true rfl⟩ (fun H locs r_244 σ_244 θ_244 hp_244 hw => ?_)
      obtain ⟨h1, h2, h3⟩ := hp_244
      rw [htl] at h1 h2
      rw [rm_cl hn9] at h2
      have h1 : r_244 = 0 := h1.trans rfl
      have h2 : σ_244 = (rm_choose (rm_reset (rm_clear (rm_up σ 5 n 0) n) n) n) := h2
      rw [h2, h3] at hw
      rw [h1]
      refine lv_iload hx hb dL_isRoot_247 (lv_at hl 1 rfl) ?_
      refine lv_if_ne (tgt := 257) hx hb dL_isRoot_249 (by decide) (fun c_249 => ?_) (fun c_249 => absurd c_249 (by decide))
      refine lv_iload hx hb dL_isRoot_257 (lv_at hl 0 rfl) ?_
      refine lv_if_eq (tgt := 266) hx hb dL_isRoot_259 (by decide) (fun c_259 => absurd c_259 (by decide)) (fun c_259 => ?_)
      refine lv_iconst (v := 0) hx hb dL_isRoot_262 (by decide) ?_
      refine lv_goto (tgt := 268) hx hb dL_isRoot_263 (by decide) ?_
      refine lv_icmp_ne (tgt := 296) hx hb dL_isRoot_268 (by decide) (fun c_268 => absurd (by decide) c_268) (fun c_268 => ?_)
      refine lv_iload hx hb dL_isRoot_271 (lv_at hl 0 rfl) ?_
      refine lv_if_eq (tgt := 292) hx hb dL_isRoot_273 (by decide) (fun c_273 => absurd c_273 (by decide)) (fun c_273 => ?_)
      refine lv_aload_n hx hb dL_isRoot_276 rfl (lv_at hl 2 rfl) ?_
      refine lv_iload hx hb dL_isRoot_277 (lv_at hl 6 rfl) ?_
      refine lz_callI CF hTh hA hw (As := [.int (nI n)]) (rest := []) (lk_nextTelling l k a (rm_choose (rm_reset (rm_clear (rm_up σ 5 n 0) n) n) n) hfl hsep.1 hn9 hr13) (cwV 1 hts gL_isRoot_X0_nextTelling rfl rfl rfl (by decide +kernel) ⟨Nat.le_of_ble_eq_true rfl, Nat.le_of_ble_eq_true rfl⟩) rfl hl.1 rfl (lv_room (Nat.le_of_ble_eq_true rfl)) dL_isRoot_279 ⟨Nat.le_of_ble_eq_true rfl, Nat.le_of_ble_eq_true rfl⟩ (fun H locs hw => ?_)
      refine lv_aload_n hx hb dL_isRoot_282 rfl (lv_at hl 4 rfl) ?_
      refine lv_iconst (v := 0) hx hb dL_isRoot_283 (by decide) ?_
      refine lz_iald CF hw 2 (j := 0) (by decide) (by show _ < 3; omega) dL_isRoot_284 ?_
      refine lv_aload_n hx hb dL_isRoot_285 rfl (lv_at hl 4 rfl) ?_
      refine lv_iconst (v := 1) hx hb dL_isRoot_286 (by decide) ?_
      refine lz_iald CF hw 2 (j := 1) (by decide) (by show _ < 3; omega) dL_isRoot_287 ?_
      refine lv_iadd hx hb dL_isRoot_288 ?_
      refine lv_icmp_ne (tgt := 296) hx hb dL_isRoot_289 (by decide) (fun c_289 => absurd (by first | rfl | rw [rm_up_k (by decide), rm_up_k (by decide), rm_up_k (by decide), rm_up_k (by decide)] | rw [rm_up_k (by decide), rm_up_k (by decide)]) c_289) (fun c_289 => ?_)
      refine lv_iconst (v := 1) hx hb dL_isRoot_292 (by decide) ?_
      refine lv_goto (tgt := 297) hx hb dL_isRoot_293 (by decide) ?_
      exact lz_zret (post := (fun r σ1 θ1 => r = 1 ∧ lz_I (K + 1) B σ1 θ1)) CF hr hlocks hw (by show 0 + 4 + 1 ≤ 10; omega) (by show 0 + 24 + 6 ≤ 60; omega) dL_isRoot_297 ⟨rfl, lz_I_up hI2 (by omega) (Nat.le_refl _)⟩
    · skip
      have htl : rm_tRoot σ (nI n) = some rm_IS := by rw [lz_tRootn hn9, if_pos c5]
      refine lv_iload hx hb dL_isRoot_0 (lv_at hl 4 rfl) ?_
      refine lv_bipush (v := 10) hx hb dL_isRoot_2 (by decide) ?_
      refine lv_icmp_ge (tgt := 11) hx hb dL_isRoot_4 (by decide) (fun c_4 => absurd c_4 hlt4) (fun c_4 => ?_)
      refine lv_iconst (v := 1) hx hb dL_isRoot_7 (by decide) ?_
      refine lv_goto (tgt := 12) hx hb dL_isRoot_8 (by decide) ?_
      refine lv_istore (lv' := [(5, .int 1), (0, .ref (a 0)), (1, .ref (q 1)), (2, .ref (q 2)), (3, .int 1), (4, .int (nI n))]) hx hb dL_isRoot_12 hl (by decide) rfl (fun ls hl => ?_)
      refine lv_iload hx hb dL_isRoot_14 (lv_at hl 0 rfl) ?_
      refine lv_if_eq (tgt := 31) hx hb dL_isRoot_16 (by decide) (fun c_16 => absurd c_16 (by decide)) (fun c_16 => ?_)
      refine lv_aload_n hx hb dL_isRoot_19 rfl (lv_at hl 2 rfl) ?_
      refine lv_iload hx hb dL_isRoot_20 (lv_at hl 5 rfl) ?_
      refine lz_iald CF hw 1 (j := n) (by decide) (by show _ < 20; omega) dL_isRoot_22 ?_
      refine lv_iconst (v := 1) hx hb dL_isRoot_23 (by decide) ?_
      refine lv_icmp_ne (tgt := 31) hx hb dL_isRoot_24 (by decide) (fun c_24 => ?_) (fun c_24 => absurd c_24 (by rw [h1n, c5]; decide))
      refine lv_iconst (v := 0) hx hb dL_isRoot_31 (by decide) ?_
      refine lv_istore (lv' := [(6, .int 0), (5, .int 1), (0, .ref (a 0)), (1, .ref (q 1)), (2, .ref (q 2)), (3, .int 1), (4, .int (nI n))]) hx hb dL_isRoot_32 hl (by decide) rfl (fun ls hl => ?_)
      refine lv_iload_n hx hb dL_isRoot_34 rfl (lv_at hl 5 rfl) ?_
      refine lv_iconst (v := 3) hx hb dL_isRoot_35 (by decide) ?_
      refine lv_icmp_ne (tgt := 133) hx hb dL_isRoot_36 (by decide) (fun c_36 => ?_) (fun c_36 => absurd c_36 (by decide))
      refine lv_iload_n hx hb dL_isRoot_133 rfl (lv_at hl 5 rfl) ?_
      refine lv_iconst (v := 4) hx hb dL_isRoot_134 (by decide) ?_
      refine lv_icmp_ne (tgt := 227) hx hb dL_isRoot_135 (by decide) (fun c_135 => ?_) (fun c_135 => absurd c_135 (by decide))
      refine lv_iload hx hb dL_isRoot_227 (lv_at hl 0 rfl) ?_
      refine lv_if_eq (tgt := 237) hx hb dL_isRoot_229 (by decide) (fun c_229 => ?_) (fun c_229 => absurd (by decide) c_229)
      refine lv_aload_n hx hb dL_isRoot_237 rfl (lv_at hl 2 rfl) ?_
      refine lv_iconst (v := 1) hx hb dL_isRoot_238 (by decide) ?_
      refine lv_iload hx hb dL_isRoot_239 (lv_at hl 6 rfl) ?_
      refine lv_iconst (v := 0) hx hb dL_isRoot_241 (by decide) ?_
      refine lv_iconst (v := 0) hx hb dL_isRoot_242 (by decide) ?_
      refine lv_iconst (v := 0) hx hb dL_isRoot_243 (by decide) ?_
      refine lz_callH CF hTh hN hA hw (As := [.ref (a 0), .int 1, .int (nI n), .int 0, .int 0, .int 0]) (rest := []) (jL_does_1 l hfl k a q hsep σ θ (nI n) 0 0 0) (fun _ _ _ _ _ => trivial) (fun _ _ _ => trivial) (vx_cwSW 6 hts gL_isRoot_L_does rfl rfl rfl (by decide +kernel) ⟨Nat.le_of_ble_eq_true rfl, Nat.le_of_ble_eq_true rfl⟩) rfl hl.1 rfl (lv_room (Nat.le_of_ble_eq_true rfl)) dL_isRoot_244 ⟨Nat.le_of_ble_eq_true rfl, Nat.le_of_ble_eq_true rfl⟩ (fun H locs r_244 σ_244 θ_244 hp_244 hw => ?_)
      obtain ⟨h1, h2, h3⟩ := hp_244
      rw [htl] at h1 h2
      have h1 : r_244 = (-10) := h1.trans lz_code_IS
      have h2 : σ_244 = σ := h2
      rw [h2, h3] at hw
      rw [h1]
      refine lv_iload hx hb dL_isRoot_247 (lv_at hl 1 rfl) ?_
      refine lv_if_ne (tgt := 257) hx hb dL_isRoot_249 (by decide) (fun c_249 => ?_) (fun c_249 => absurd c_249 (by decide))
      refine lv_iload hx hb dL_isRoot_257 (lv_at hl 0 rfl) ?_
      refine lv_if_eq (tgt := 266) hx hb dL_isRoot_259 (by decide) (fun c_259 => ?_) (fun c_259 => absurd (by decide) c_259)
      refine lv_bipush (v := (-10)) hx hb dL_isRoot_266 (by decide) ?_
      refine lv_icmp_ne (tgt := 296) hx hb dL_isRoot_268 (by decide) (fun c_268 => absurd (by decide) c_268) (fun c_268 => ?_)
      refine lv_iload hx hb dL_isRoot_271 (lv_at hl 0 rfl) ?_
      refine lv_if_eq (tgt := 292) hx hb dL_isRoot_273 (by decide) (fun c_273 => ?_) (fun c_273 => absurd (by decide) c_273)
      refine lv_iconst (v := 1) hx hb dL_isRoot_292 (by decide) ?_
      refine lv_goto (tgt := 297) hx hb dL_isRoot_293 (by decide) ?_
      exact lz_zret (post := (fun r σ1 θ1 => r = 1 ∧ lz_I (K + 1) B σ1 θ1)) CF hr hlocks hw (by show 0 + 4 ≤ 10; omega) (by show 0 + 24 ≤ 60; omega) dL_isRoot_297 ⟨rfl, lz_I_up hI0 (by omega) (Nat.le_refl _)⟩

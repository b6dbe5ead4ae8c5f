set_option maxHeartbeats 4000000 in
set_option maxRecDepth 100000 in
theorem jL_isBelow (l : Launch) (hfl : l.stackTraces = false) (k : rm_K) (a q : Nat → Nat) (hsep : lz_sep a q) (σ θ : rm_St) {n o K B : Nat} (hn : n < 10) (ho : o < 10) (hI : lz_I K B σ θ) : lz_M l k a q (fun _ => True) yL_isBelow wsL_isBelow ({ frames := 11, cells := 20, slots := 120, locals := 220 }) [.ref (a 0), .int (nI n), .int (nI o)] σ θ (fun r σ1 θ1 => r = 1 ∧ σ1 = σ ∧ θ1 = θ) := by
  refine lz_enter (cc := cL_isBelow) (nL := 7) (ret := some .boolean) hsep (by decide) rfl rfl (Nat.le_of_ble_eq_true rfl) ?_
  intro p e s m args below meth c ls CF hr hlocks hTh hN hX hw hl
  have hx := CF.1
  have hb := CF.2.1
  have hts := CF.2.2.2.2
  have hA : ∀ x, s.heap.size ≤ x → lz_A a q s.heap.size x := fun x h => Or.inl (Or.inr h)
  replace hl : lv_has ls 7 [(0, .ref (a 0)), (1, .int (nI n)), (2, .int (nI o))] := hl
  obtain ⟨hM, hNn, hT, ⟨hLc, hLt, hL4, hL2, hL5⟩, hB⟩ := hI
  obtain ⟨z, hz0, hz1, ez⟩ := iv_below_nat (σ := σ) hn
  have hself : rq_R (σ 11) n 9 n = true := rq_R_le (a := 0) (by omega) (decide_eq_true rfl)
  have lp : ∀ (r i : Nat), i + r = 10 → ∀ (H : Heap) (locs : List Loc) (ls : Array Slot) (cells slots : Nat), lz_Wd k a q (lz_A a q s.heap.size) s.heap s σ θ H locs → lv_has ls 7 [(0, .ref (a 0)), (1, .int (nI n)), (2, .int (nI o)), (3, .int (rm_below σ (nI n))), (4, .int 1), (5, .int (nI i))] → cells ≤ 1 + 1 * i → slots ≤ 6 + 6 * i → W p l e (headSpec wsL_isBelow ({ frames := 11, cells := 20, slots := 120, locals := 220 })).room s m args below meth c H locs cells slots (MQ below (va_Qi (fun (r : Int32) (u : rm_St × rm_St) => (fun r σ1 θ1 => r = 1 ∧ σ1 = σ ∧ θ1 = θ) r u.1 u.2) (fun u t => lz_P k a q u.1 u.2 t) (lz_A a q s.heap.size)) args s 20 120 (lz_A a q s.heap.size)) (F0 m 36 ls []) := by
    intro r
    induction r with
    | zero =>
      intro i hi H locs ls cells slots hw hl hc hs
      obtain rfl : i = 10 := by omega
      obtain ⟨dn1, dn2⟩ := iv_down hNn hn ho
      by_cases eon : o = n
      · have hdn := dn1 (Or.inl eon)
        refine lv_iload hx hb dL_isBelow_36 (lv_at hl 5 rfl) ?_
        refine lv_bipush (v := 10) hx hb dL_isBelow_38 (by decide) ?_
        refine lv_icmp_ge (tgt := 113) hx hb dL_isBelow_40 (by decide) (fun c_40 => ?_) (fun c_40 => absurd (nI_le (a := 10) (b := 10) (Nat.le_refl _) (by decide)) c_40)
        refine lv_aload_n hx hb dL_isBelow_113 rfl (lv_at hl 0 rfl) ?_
        refine lv_bipush (v := 6) hx hb dL_isBelow_114 (by decide) ?_
        refine lv_iload_n hx hb dL_isBelow_116 rfl (lv_at hl 1 rfl) ?_
        refine lv_iload_n hx hb dL_isBelow_117 rfl (lv_at hl 2 rfl) ?_
        refine lv_iconst (v := 0) hx hb dL_isBelow_118 (by decide) ?_
        refine lv_iconst (v := 0) hx hb dL_isBelow_119 (by decide) ?_
        refine lz_callH CF hTh hN hA hw (As := [.ref (a 0), .int 6, .int (nI n), .int (nI o), .int 0, .int 0]) (rest := []) (jL_does_6 l hfl k a q hsep σ θ (nI n) (nI o) 0 0) (fun _ _ _ _ _ => trivial) (fun _ _ _ => trivial) (vx_cwSW 6 hts gL_isBelow_L_does rfl rfl rfl (by decide +kernel) ⟨Nat.le_of_ble_eq_true rfl, Nat.le_of_ble_eq_true rfl⟩) rfl hl.1 rfl (lv_room (Nat.le_of_ble_eq_true rfl)) dL_isBelow_120 ⟨by show cells + 4 ≤ 20; omega, by show slots + 24 ≤ 120; omega⟩ (fun H locs r_120 σ_120 θ_120 hp_120 hw => ?_)
        obtain ⟨h1, h2, h3⟩ := hp_120
        rw [hdn] at h1 h2
        have h1 : r_120 = (-10) := h1.trans lz_code_IS
        have h2 : σ_120 = σ := h2
        rw [h2, h3] at hw
        rw [h1]
        refine lv_istore (lv' := [(5, .int (-10)), (0, .ref (a 0)), (1, .int (nI n)), (2, .int (nI o)), (3, .int (rm_below σ (nI n))), (4, .int 1)]) hx hb dL_isBelow_123 hl (by decide) rfl (fun ls hl => ?_)
        refine lv_iload_n hx hb dL_isBelow_125 rfl (lv_at hl 3 rfl) ?_
        refine lv_iload_n hx hb dL_isBelow_126 rfl (lv_at hl 2 rfl) ?_
        refine lv_icmp_eq (tgt := 138) hx hb dL_isBelow_127 (by decide) (fun c_127 => ?_) (fun c_127 => absurd (by rw [eon]) c_127)
        refine lv_iload hx hb dL_isBelow_138 (lv_at hl 5 rfl) ?_
        refine lv_if_eq (tgt := 154) hx hb dL_isBelow_140 (by decide) (fun c_140 => absurd c_140 (by decide)) (fun c_140 => ?_)
        refine lv_iload hx hb dL_isBelow_143 (lv_at hl 0 rfl) ?_
        refine lv_bipush (v := (-10)) hx hb dL_isBelow_145 (by decide) ?_
        refine lv_icmp_ne (tgt := 154) hx hb dL_isBelow_147 (by decide) (fun c_147 => absurd (by decide) c_147) (fun c_147 => ?_)
        refine lv_iconst (v := 1) hx hb dL_isBelow_150 (by decide) ?_
        refine lv_goto (tgt := 155) hx hb dL_isBelow_151 (by decide) ?_
        exact lz_zret (post := (fun r σ1 θ1 => r = 1 ∧ σ1 = σ ∧ θ1 = θ)) CF hr hlocks hw (by show cells + 4 ≤ 20; omega) (by show slots + 24 ≤ 120; omega) dL_isBelow_155 ⟨rfl, rfl, rfl⟩
      · have hne : ¬ nI o = nI n := fun h => eon ((nI_eq (by omega) (by omega)).mp h)
        by_cases hR : rq_R (σ 11) n 9 o = true
        · obtain ⟨hdn, d, hd, ed, hd1, hd2⟩ := dn2 eon hR
          refine lv_iload hx hb dL_isBelow_36 (lv_at hl 5 rfl) ?_
          refine lv_bipush (v := 10) hx hb dL_isBelow_38 (by decide) ?_
          refine lv_icmp_ge (tgt := 113) hx hb dL_isBelow_40 (by decide) (fun c_40 => ?_) (fun c_40 => absurd (nI_le (a := 10) (b := 10) (Nat.le_refl _) (by decide)) c_40)
          refine lv_aload_n hx hb dL_isBelow_113 rfl (lv_at hl 0 rfl) ?_
          refine lv_bipush (v := 6) hx hb dL_isBelow_114 (by decide) ?_
          refine lv_iload_n hx hb dL_isBelow_116 rfl (lv_at hl 1 rfl) ?_
          refine lv_iload_n hx hb dL_isBelow_117 rfl (lv_at hl 2 rfl) ?_
          refine lv_iconst (v := 0) hx hb dL_isBelow_118 (by decide) ?_
          refine lv_iconst (v := 0) hx hb dL_isBelow_119 (by decide) ?_
          refine lz_callH CF hTh hN hA hw (As := [.ref (a 0), .int 6, .int (nI n), .int (nI o), .int 0, .int 0]) (rest := []) (jL_does_6 l hfl k a q hsep σ θ (nI n) (nI o) 0 0) (fun _ _ _ _ _ => trivial) (fun _ _ _ => trivial) (vx_cwSW 6 hts gL_isBelow_L_does rfl rfl rfl (by decide +kernel) ⟨Nat.le_of_ble_eq_true rfl, Nat.le_of_ble_eq_true rfl⟩) rfl hl.1 rfl (lv_room (Nat.le_of_ble_eq_true rfl)) dL_isBelow_120 ⟨by show cells + 4 ≤ 20; omega, by show slots + 24 ≤ 120; omega⟩ (fun H locs r_120 σ_120 θ_120 hp_120 hw => ?_)
          obtain ⟨h1, h2, h3⟩ := hp_120
          rw [hdn] at h1 h2
          have h1 : r_120 = nI d := h1.trans ed
          have h2 : σ_120 = σ := h2
          rw [h2, h3] at hw
          rw [h1]
          refine lv_istore (lv' := [(5, .int (nI d)), (0, .ref (a 0)), (1, .int (nI n)), (2, .int (nI o)), (3, .int (rm_below σ (nI n))), (4, .int 1)]) hx hb dL_isBelow_123 hl (by decide) rfl (fun ls hl => ?_)
          refine lv_iload_n hx hb dL_isBelow_125 rfl (lv_at hl 3 rfl) ?_
          refine lv_iload_n hx hb dL_isBelow_126 rfl (lv_at hl 2 rfl) ?_
          refine lv_icmp_eq (tgt := 138) hx hb dL_isBelow_127 (by decide) (fun c_127 => absurd c_127 hne) (fun c_127 => ?_)
          refine lv_iload_n hx hb dL_isBelow_130 rfl (lv_at hl 4 rfl) ?_
          refine lv_iload_n hx hb dL_isBelow_131 rfl (lv_at hl 3 rfl) ?_
          refine lv_ishr hx hb dL_isBelow_132 ?_
          refine lv_iconst (v := 1) hx hb dL_isBelow_133 (by decide) ?_
          refine lv_iand hx hb dL_isBelow_134 ?_
          refine lv_if_ne (tgt := 156) hx hb dL_isBelow_135 (by decide) (fun c_135 => ?_) (fun c_135 => absurd c_135 (by rw [iv_bit hn ho, if_pos hR]; decide))
          refine lv_iload hx hb dL_isBelow_156 (lv_at hl 5 rfl) ?_
          refine lv_if_eq (tgt := 194) hx hb dL_isBelow_158 (by decide) (fun c_158 => absurd c_158 (by decide)) (fun c_158 => ?_)
          refine lv_iload hx hb dL_isBelow_161 (lv_at hl 0 rfl) ?_
          refine lv_if_lt (tgt := 194) hx hb dL_isBelow_163 (by decide) (fun c_163 => absurd c_163 (nI_pos (by omega))) (fun c_163 => ?_)
          refine lv_aload_n hx hb dL_isBelow_166 rfl (lv_at hl 1 rfl) ?_
          refine lv_iload hx hb dL_isBelow_167 (lv_at hl 0 rfl) ?_
          refine lz_callI CF hTh hA hw (As := [.int (nI d)]) (rest := []) (lk_parent l k a σ hfl hsep.1 hd hd1) (cwV 1 hts gL_isBelow_X0_parent rfl rfl rfl (by decide +kernel) ⟨Nat.le_of_ble_eq_true rfl, Nat.le_of_ble_eq_true rfl⟩) rfl hl.1 rfl (lv_room (Nat.le_of_ble_eq_true rfl)) dL_isBelow_169 ⟨by show cells + 4 + 1 ≤ 20; omega, by show slots + 24 + 6 ≤ 120; omega⟩ (fun H locs hw => ?_)
          refine lv_iload_n hx hb dL_isBelow_172 rfl (lv_at hl 2 rfl) ?_
          refine lv_icmp_ne (tgt := 194) hx hb dL_isBelow_173 (by decide) (fun c_173 => absurd rfl c_173) (fun c_173 => ?_)
          refine lv_aload_n hx hb dL_isBelow_176 rfl (lv_at hl 1 rfl) ?_
          refine lv_iload hx hb dL_isBelow_177 (lv_at hl 0 rfl) ?_
          refine lz_callI CF hTh hA hw (As := [.int (nI d)]) (rest := []) (lk_below l k a σ hfl hsep.1 hd rfl) (cwV 1 hts gL_isBelow_X0_below rfl rfl rfl (by decide +kernel) ⟨Nat.le_of_ble_eq_true rfl, Nat.le_of_ble_eq_true rfl⟩) rfl hl.1 rfl (lv_room (Nat.le_of_ble_eq_true rfl)) dL_isBelow_179 ⟨by show cells + 4 + 1 + 1 ≤ 20; omega, by show slots + 24 + 6 + 6 ≤ 120; omega⟩ (fun H locs hw => ?_)
          refine lv_iload_n hx hb dL_isBelow_182 rfl (lv_at hl 3 rfl) ?_
          refine lv_ishr hx hb dL_isBelow_183 ?_
          refine lv_iconst (v := 1) hx hb dL_isBelow_184 (by decide) ?_
          refine lv_iand hx hb dL_isBelow_185 ?_
          refine lv_iconst (v := 1) hx hb dL_isBelow_186 (by decide) ?_
          refine lv_icmp_ne (tgt := 194) hx hb dL_isBelow_187 (by decide) (fun c_187 => absurd (by rw [iv_bit hd ho, if_pos hd2]) c_187) (fun c_187 => ?_)
          refine lv_iconst (v := 1) hx hb dL_isBelow_190 (by decide) ?_
          refine lv_goto (tgt := 195) hx hb dL_isBelow_191 (by decide) ?_
          exact lz_zret (post := (fun r σ1 θ1 => r = 1 ∧ σ1 = σ ∧ θ1 = θ)) CF hr hlocks hw (by show cells + 4 + 1 + 1 ≤ 20; omega) (by show slots + 24 + 6 + 6 ≤ 120; omega) dL_isBelow_195 ⟨rfl, rfl, rfl⟩
        · have hdn := dn1 (Or.inr hR)
          refine lv_iload hx hb dL_isBelow_36 (lv_at hl 5 rfl) ?_
          refine lv_bipush (v := 10) hx hb dL_isBelow_38 (by decide) ?_
          refine lv_icmp_ge (tgt := 113) hx hb dL_isBelow_40 (by decide) (fun c_40 => ?_) (fun c_40 => absurd (nI_le (a := 10) (b := 10) (Nat.le_refl _) (by decide)) c_40)
          refine lv_aload_n hx hb dL_isBelow_113 rfl (lv_at hl 0 rfl) ?_
          refine lv_bipush (v := 6) hx hb dL_isBelow_114 (by decide) ?_
          refine lv_iload_n hx hb dL_isBelow_116 rfl (lv_at hl 1 rfl) ?_
          refine lv_iload_n hx hb dL_isBelow_117 rfl (lv_at hl 2 rfl) ?_
          refine lv_iconst (v := 0) hx hb dL_isBelow_118 (by decide) ?_
          refine lv_iconst (v := 0) hx hb dL_isBelow_119 (by decide) ?_
          refine lz_callH CF hTh hN hA hw (As := [.ref (a 0), .int 6, .int (nI n), .int (nI o), .int 0, .int 0]) (rest := []) (jL_does_6 l hfl k a q hsep σ θ (nI n) (nI o) 0 0) (fun _ _ _ _ _ => trivial) (fun _ _ _ => trivial) (vx_cwSW 6 hts gL_isBelow_L_does rfl rfl rfl (by decide +kernel) ⟨Nat.le_of_ble_eq_true rfl, Nat.le_of_ble_eq_true rfl⟩) rfl hl.1 rfl (lv_room (Nat.le_of_ble_eq_true rfl)) dL_isBelow_120 ⟨by show cells + 4 ≤ 20; omega, by show slots + 24 ≤ 120; omega⟩ (fun H locs r_120 σ_120 θ_120 hp_120 hw => ?_)
          obtain ⟨h1, h2, h3⟩ := hp_120
          rw [hdn] at h1 h2
          have h1 : r_120 = (-10) := h1.trans lz_code_IS
          have h2 : σ_120 = σ := h2
          rw [h2, h3] at hw
          rw [h1]
          refine lv_istore (lv' := [(5, .int (-10)), (0, .ref (a 0)), (1, .int (nI n)), (2, .int (nI o)), (3, .int (rm_below σ (nI n))), (4, .int 1)]) hx hb dL_isBelow_123 hl (by decide) rfl (fun ls hl => ?_)
          refine lv_iload_n hx hb dL_isBelow_125 rfl (lv_at hl 3 rfl) ?_
          refine lv_iload_n hx hb dL_isBelow_126 rfl (lv_at hl 2 rfl) ?_
          refine lv_icmp_eq (tgt := 138) hx hb dL_isBelow_127 (by decide) (fun c_127 => absurd c_127 hne) (fun c_127 => ?_)
          refine lv_iload_n hx hb dL_isBelow_130 rfl (lv_at hl 4 rfl) ?_
          refine lv_iload_n hx hb dL_isBelow_131 rfl (lv_at hl 3 rfl) ?_
          refine lv_ishr hx hb dL_isBelow_132 ?_
          refine lv_iconst (v := 1) hx hb dL_isBelow_133 (by decide) ?_
          refine lv_iand hx hb dL_isBelow_134 ?_
          refine lv_if_ne (tgt := 156) hx hb dL_isBelow_135 (by decide) (fun c_135 => absurd (by rw [iv_bit hn ho, if_neg hR]) c_135) (fun c_135 => ?_)
          refine lv_iload hx hb dL_isBelow_138 (lv_at hl 5 rfl) ?_
          refine lv_if_eq (tgt := 154) hx hb dL_isBelow_140 (by decide) (fun c_140 => absurd c_140 (by decide)) (fun c_140 => ?_)
          refine lv_iload hx hb dL_isBelow_143 (lv_at hl 0 rfl) ?_
          refine lv_bipush (v := (-10)) hx hb dL_isBelow_145 (by decide) ?_
          refine lv_icmp_ne (tgt := 154) hx hb dL_isBelow_147 (by decide) (fun c_147 => absurd (by decide) c_147) (fun c_147 => ?_)
          refine lv_iconst (v := 1) hx hb dL_isBelow_150 (by decide) ?_
          refine lv_goto (tgt := 155) hx hb dL_isBelow_151 (by decide) ?_
          exact lz_zret (post := (fun r σ1 θ1 => r = 1 ∧ σ1 = σ ∧ θ1 = θ)) CF hr hlocks hw (by show cells + 4 ≤ 20; omega) (by show slots + 24 ≤ 120; omega) dL_isBelow_155 ⟨rfl, rfl, rfl⟩
    | succ r ih =>
      intro i hi H locs ls cells slots hw hl hc hs
      have hi10 : i < 10 := by omega
      by_cases hin : i = n
      · skip
        refine lv_iload hx hb dL_isBelow_36 (lv_at hl 5 rfl) ?_
        refine lv_bipush (v := 10) hx hb dL_isBelow_38 (by decide) ?_
        refine lv_icmp_ge (tgt := 113) hx hb dL_isBelow_40 (by decide) (fun c_40 => absurd c_40 (nI_ge (a := i) (b := 10) hi10 (by decide))) (fun c_40 => ?_)
        refine lv_iload hx hb dL_isBelow_43 (lv_at hl 4 rfl) ?_
        refine lv_if_eq (tgt := 113) hx hb dL_isBelow_45 (by decide) (fun c_45 => absurd c_45 (by decide)) (fun c_45 => ?_)
        refine lv_aload_n hx hb dL_isBelow_48 rfl (lv_at hl 0 rfl) ?_
        refine lv_iload hx hb dL_isBelow_49 (lv_at hl 5 rfl) ?_
        refine lz_callI CF hTh hA hw (As := [.int (nI i)]) (rest := []) (lk_parent l k a σ hfl hsep.1 hi10 rfl) (cwV 1 hts gL_isBelow_X0_parent rfl rfl rfl (by decide +kernel) ⟨Nat.le_of_ble_eq_true rfl, Nat.le_of_ble_eq_true rfl⟩) rfl hl.1 rfl (lv_room (Nat.le_of_ble_eq_true rfl)) dL_isBelow_51 ⟨by show cells + 1 ≤ 20; omega, by show slots + 6 ≤ 120; omega⟩ (fun H locs hw => ?_)
        refine lv_istore (lv' := [(6, .int (σ 11 i)), (0, .ref (a 0)), (1, .int (nI n)), (2, .int (nI o)), (3, .int (rm_below σ (nI n))), (4, .int 1), (5, .int (nI i))]) hx hb dL_isBelow_54 hl (by decide) rfl (fun ls hl => ?_)
        refine lv_iload hx hb dL_isBelow_56 (lv_at hl 6 rfl) ?_
        refine lv_iload_n hx hb dL_isBelow_58 rfl (lv_at hl 2 rfl) ?_
        refine lv_icmp_eq (tgt := 100) hx hb dL_isBelow_59 (by decide) (fun c_59 => ?_) (fun c_59 => absurd (by rw [hin]) c_59)
        refine lv_iconst (v := 1) hx hb dL_isBelow_100 (by decide) ?_
        refine lv_goto (tgt := 105) hx hb dL_isBelow_101 (by decide) ?_
        refine lv_istore (lv' := [(4, .int 1), (6, .int (σ 11 i)), (0, .ref (a 0)), (1, .int (nI n)), (2, .int (nI o)), (3, .int (rm_below σ (nI n))), (5, .int (nI i))]) hx hb dL_isBelow_105 hl (by decide) rfl (fun ls hl => ?_)
        refine lv_iinc (v := nI (i + 1)) (lv' := [(5, .int (nI (i + 1))), (4, .int 1), (6, .int (σ 11 i)), (0, .ref (a 0)), (1, .int (nI n)), (2, .int (nI o)), (3, .int (rm_below σ (nI n)))]) hx hb dL_isBelow_107 hl (k := 6) rfl (rm_inc i) (by decide) rfl (fun ls hl => ?_)
        refine lv_goto (tgt := 36) hx hb dL_isBelow_110 (by decide) ?_
        exact ih (i + 1) (by omega) H _ _ _ _ hw (lv_sub hl [3, 4, 5, 6, 1, 0] rfl) (by show cells + 1 ≤ _; omega) (by show slots + 6 ≤ _; omega)
      · have hne : ¬ nI i = nI n := fun h => hin ((nI_eq (by omega) (by omega)).mp h)
        have hstep := iv_R_step (f := σ 11) hn hi10 hin
        by_cases hRi : rq_R (σ 11) n 9 i = true
        · obtain ⟨p0, hp, ep, hRp⟩ := hstep.mp hRi
          refine lv_iload hx hb dL_isBelow_36 (lv_at hl 5 rfl) ?_
          refine lv_bipush (v := 10) hx hb dL_isBelow_38 (by decide) ?_
          refine lv_icmp_ge (tgt := 113) hx hb dL_isBelow_40 (by decide) (fun c_40 => absurd c_40 (nI_ge (a := i) (b := 10) hi10 (by decide))) (fun c_40 => ?_)
          refine lv_iload hx hb dL_isBelow_43 (lv_at hl 4 rfl) ?_
          refine lv_if_eq (tgt := 113) hx hb dL_isBelow_45 (by decide) (fun c_45 => absurd c_45 (by decide)) (fun c_45 => ?_)
          refine lv_aload_n hx hb dL_isBelow_48 rfl (lv_at hl 0 rfl) ?_
          refine lv_iload hx hb dL_isBelow_49 (lv_at hl 5 rfl) ?_
          refine lz_callI CF hTh hA hw (As := [.int (nI i)]) (rest := []) (lk_parent l k a σ hfl hsep.1 hi10 ep) (cwV 1 hts gL_isBelow_X0_parent rfl rfl rfl (by decide +kernel) ⟨Nat.le_of_ble_eq_true rfl, Nat.le_of_ble_eq_true rfl⟩) rfl hl.1 rfl (lv_room (Nat.le_of_ble_eq_true rfl)) dL_isBelow_51 ⟨by show cells + 1 ≤ 20; omega, by show slots + 6 ≤ 120; omega⟩ (fun H locs hw => ?_)
          refine lv_istore (lv' := [(6, .int (nI p0)), (0, .ref (a 0)), (1, .int (nI n)), (2, .int (nI o)), (3, .int (rm_below σ (nI n))), (4, .int 1), (5, .int (nI i))]) hx hb dL_isBelow_54 hl (by decide) rfl (fun ls hl => ?_)
          refine lv_iload hx hb dL_isBelow_56 (lv_at hl 6 rfl) ?_
          refine lv_iload_n hx hb dL_isBelow_58 rfl (lv_at hl 2 rfl) ?_
          refine lv_icmp_eq (tgt := 100) hx hb dL_isBelow_59 (by decide) (fun c_59 => absurd c_59 hne) (fun c_59 => ?_)
          refine lv_iload_n hx hb dL_isBelow_62 rfl (lv_at hl 4 rfl) ?_
          refine lv_iload hx hb dL_isBelow_63 (lv_at hl 6 rfl) ?_
          refine lv_ishr hx hb dL_isBelow_65 ?_
          refine lv_iconst (v := 1) hx hb dL_isBelow_66 (by decide) ?_
          refine lv_iand hx hb dL_isBelow_67 ?_
          refine lv_iconst (v := 1) hx hb dL_isBelow_68 (by decide) ?_
          refine lv_icmp_ne (tgt := 76) hx hb dL_isBelow_69 (by decide) (fun c_69 => absurd (by rw [iv_bit hn hi10, if_pos hRi]) c_69) (fun c_69 => ?_)
          refine lv_iconst (v := 1) hx hb dL_isBelow_72 (by decide) ?_
          refine lv_goto (tgt := 77) hx hb dL_isBelow_73 (by decide) ?_
          refine lv_iload hx hb dL_isBelow_77 (lv_at hl 0 rfl) ?_
          refine lv_if_lt (tgt := 96) hx hb dL_isBelow_79 (by decide) (fun c_79 => absurd c_79 (nI_pos (by omega))) (fun c_79 => ?_)
          refine lv_iload_n hx hb dL_isBelow_82 rfl (lv_at hl 4 rfl) ?_
          refine lv_iload hx hb dL_isBelow_83 (lv_at hl 0 rfl) ?_
          refine lv_ishr hx hb dL_isBelow_85 ?_
          refine lv_iconst (v := 1) hx hb dL_isBelow_86 (by decide) ?_
          refine lv_iand hx hb dL_isBelow_87 ?_
          refine lv_iconst (v := 1) hx hb dL_isBelow_88 (by decide) ?_
          refine lv_icmp_ne (tgt := 96) hx hb dL_isBelow_89 (by decide) (fun c_89 => absurd (by rw [iv_bit hn hp, if_pos hRp]) c_89) (fun c_89 => ?_)
          refine lv_iconst (v := 1) hx hb dL_isBelow_92 (by decide) ?_
          refine lv_goto (tgt := 97) hx hb dL_isBelow_93 (by decide) ?_
          refine lv_icmp_ne (tgt := 104) hx hb dL_isBelow_97 (by decide) (fun c_97 => absurd (by decide) c_97) (fun c_97 => ?_)
          refine lv_iconst (v := 1) hx hb dL_isBelow_100 (by decide) ?_
          refine lv_goto (tgt := 105) hx hb dL_isBelow_101 (by decide) ?_
          refine lv_istore (lv' := [(4, .int 1), (6, .int (nI p0)), (0, .ref (a 0)), (1, .int (nI n)), (2, .int (nI o)), (3, .int (rm_below σ (nI n))), (5, .int (nI i))]) hx hb dL_isBelow_105 hl (by decide) rfl (fun ls hl => ?_)
          refine lv_iinc (v := nI (i + 1)) (lv' := [(5, .int (nI (i + 1))), (4, .int 1), (6, .int (nI p0)), (0, .ref (a 0)), (1, .int (nI n)), (2, .int (nI o)), (3, .int (rm_below σ (nI n)))]) hx hb dL_isBelow_107 hl (k := 6) rfl (rm_inc i) (by decide) rfl (fun ls hl => ?_)
          refine lv_goto (tgt := 36) hx hb dL_isBelow_110 (by decide) ?_
          exact ih (i + 1) (by omega) H _ _ _ _ hw (lv_sub hl [3, 4, 5, 6, 1, 0] rfl) (by show cells + 1 ≤ _; omega) (by show slots + 6 ≤ _; omega)
        · have hpar : σ 11 i = -1 ∨ ∃ p0, p0 < 10 ∧ σ 11 i = nI p0 := by
            rcases hNn i hi10 with g | g | ⟨-, p0, hp, ep, -⟩
            · exact Or.inl g.2.2.2.2.1
            · exact Or.inl g.2.2
            · exact Or.inr ⟨p0, hp, ep⟩
          rcases hpar with ep | ⟨p0, hp, ep⟩
          · skip
            refine lv_iload hx hb dL_isBelow_36 (lv_at hl 5 rfl) ?_
            refine lv_bipush (v := 10) hx hb dL_isBelow_38 (by decide) ?_
            refine lv_icmp_ge (tgt := 113) hx hb dL_isBelow_40 (by decide) (fun c_40 => absurd c_40 (nI_ge (a := i) (b := 10) hi10 (by decide))) (fun c_40 => ?_)
            refine lv_iload hx hb dL_isBelow_43 (lv_at hl 4 rfl) ?_
            refine lv_if_eq (tgt := 113) hx hb dL_isBelow_45 (by decide) (fun c_45 => absurd c_45 (by decide)) (fun c_45 => ?_)
            refine lv_aload_n hx hb dL_isBelow_48 rfl (lv_at hl 0 rfl) ?_
            refine lv_iload hx hb dL_isBelow_49 (lv_at hl 5 rfl) ?_
            refine lz_callI CF hTh hA hw (As := [.int (nI i)]) (rest := []) (lk_parent l k a σ hfl hsep.1 hi10 ep) (cwV 1 hts gL_isBelow_X0_parent rfl rfl rfl (by decide +kernel) ⟨Nat.le_of_ble_eq_true rfl, Nat.le_of_ble_eq_true rfl⟩) rfl hl.1 rfl (lv_room (Nat.le_of_ble_eq_true rfl)) dL_isBelow_51 ⟨by show cells + 1 ≤ 20; omega, by show slots + 6 ≤ 120; omega⟩ (fun H locs hw => ?_)
            refine lv_istore (lv' := [(6, .int (-1)), (0, .ref (a 0)), (1, .int (nI n)), (2, .int (nI o)), (3, .int (rm_below σ (nI n))), (4, .int 1), (5, .int (nI i))]) hx hb dL_isBelow_54 hl (by decide) rfl (fun ls hl => ?_)
            refine lv_iload hx hb dL_isBelow_56 (lv_at hl 6 rfl) ?_
            refine lv_iload_n hx hb dL_isBelow_58 rfl (lv_at hl 2 rfl) ?_
            refine lv_icmp_eq (tgt := 100) hx hb dL_isBelow_59 (by decide) (fun c_59 => absurd c_59 hne) (fun c_59 => ?_)
            refine lv_iload_n hx hb dL_isBelow_62 rfl (lv_at hl 4 rfl) ?_
            refine lv_iload hx hb dL_isBelow_63 (lv_at hl 6 rfl) ?_
            refine lv_ishr hx hb dL_isBelow_65 ?_
            refine lv_iconst (v := 1) hx hb dL_isBelow_66 (by decide) ?_
            refine lv_iand hx hb dL_isBelow_67 ?_
            refine lv_iconst (v := 1) hx hb dL_isBelow_68 (by decide) ?_
            refine lv_icmp_ne (tgt := 76) hx hb dL_isBelow_69 (by decide) (fun c_69 => ?_) (fun c_69 => absurd c_69 (by rw [iv_bit hn hi10, if_neg hRi]; decide))
            refine lv_iconst (v := 0) hx hb dL_isBelow_76 (by decide) ?_
            refine lv_iload hx hb dL_isBelow_77 (lv_at hl 0 rfl) ?_
            refine lv_if_lt (tgt := 96) hx hb dL_isBelow_79 (by decide) (fun c_79 => ?_) (fun c_79 => absurd (by decide) c_79)
            refine lv_iconst (v := 0) hx hb dL_isBelow_96 (by decide) ?_
            refine lv_icmp_ne (tgt := 104) hx hb dL_isBelow_97 (by decide) (fun c_97 => absurd (by decide) c_97) (fun c_97 => ?_)
            refine lv_iconst (v := 1) hx hb dL_isBelow_100 (by decide) ?_
            refine lv_goto (tgt := 105) hx hb dL_isBelow_101 (by decide) ?_
            refine lv_istore (lv' := [(4, .int 1), (6, .int (-1)), (0, .ref (a 0)), (1, .int (nI n)), (2, .int (nI o)), (3, .int (rm_below σ (nI n))), (5, .int (nI i))]) hx hb dL_isBelow_105 hl (by decide) rfl (fun ls hl => ?_)
            refine lv_iinc (v := nI (i + 1)) (lv' := [(5, .int (nI (i + 1))), (4, .int 1), (6, .int (-1)), (0, .ref (a 0)), (1, .int (nI n)), (2, .int (nI o)), (3, .int (rm_below σ (nI n)))]) hx hb dL_isBelow_107 hl (k := 6) rfl (rm_inc i) (by decide) rfl (fun ls hl => ?_)
            refine lv_goto (tgt := 36) hx hb dL_isBelow_110 (by decide) ?_
            exact ih (i + 1) (by omega) H _ _ _ _ hw (lv_sub hl [3, 4, 5, 6, 1, 0] rfl) (by show cells + 1 ≤ _; omega) (by show slots + 6 ≤ _; omega)
          · have hRp : ¬ rq_R (σ 11) n 9 p0 = true := fun h => hRi (hstep.mpr ⟨p0, hp, ep, h⟩)
            refine lv_iload hx hb dL_isBelow_36 (lv_at hl 5 rfl) ?_
            refine lv_bipush (v := 10) hx hb dL_isBelow_38 (by decide) ?_
            refine lv_icmp_ge (tgt := 113) hx hb dL_isBelow_40 (by decide) (fun c_40 => absurd c_40 (nI_ge (a := i) (b := 10) hi10 (by decide))) (fun c_40 => ?_)
            refine lv_iload hx hb dL_isBelow_43 (lv_at hl 4 rfl) ?_
            refine lv_if_eq (tgt := 113) hx hb dL_isBelow_45 (by decide) (fun c_45 => absurd c_45 (by decide)) (fun c_45 => ?_)
            refine lv_aload_n hx hb dL_isBelow_48 rfl (lv_at hl 0 rfl) ?_
            refine lv_iload hx hb dL_isBelow_49 (lv_at hl 5 rfl) ?_
            refine lz_callI CF hTh hA hw (As := [.int (nI i)]) (rest := []) (lk_parent l k a σ hfl hsep.1 hi10 ep) (cwV 1 hts gL_isBelow_X0_parent rfl rfl rfl (by decide +kernel) ⟨Nat.le_of_ble_eq_true rfl, Nat.le_of_ble_eq_true rfl⟩) rfl hl.1 rfl (lv_room (Nat.le_of_ble_eq_true rfl)) dL_isBelow_51 ⟨by show cells + 1 ≤ 20; omega, by show slots + 6 ≤ 120; omega⟩ (fun H locs hw => ?_)
            refine lv_istore (lv' := [(6, .int (nI p0)), (0, .ref (a 0)), (1, .int (nI n)), (2, .int (nI o)), (3, .int (rm_below σ (nI n))), (4, .int 1), (5, .int (nI i))]) hx hb dL_isBelow_54 hl (by decide) rfl (fun ls hl => ?_)
            refine lv_iload hx hb dL_isBelow_56 (lv_at hl 6 rfl) ?_
            refine lv_iload_n hx hb dL_isBelow_58 rfl (lv_at hl 2 rfl) ?_
            refine lv_icmp_eq (tgt := 100) hx hb dL_isBelow_59 (by decide) (fun c_59 => absurd c_59 hne) (fun c_59 => ?_)
            refine lv_iload_n hx hb dL_isBelow_62 rfl (lv_at hl 4 rfl) ?_
            refine lv_iload hx hb dL_isBelow_63 (lv_at hl 6 rfl) ?_
            refine lv_ishr hx hb dL_isBelow_65 ?_
            refine lv_iconst (v := 1) hx hb dL_isBelow_66 (by decide) ?_
            refine lv_iand hx hb dL_isBelow_67 ?_
            refine lv_iconst (v := 1) hx hb dL_isBelow_68 (by decide) ?_
            refine lv_icmp_ne (tgt := 76) hx hb dL_isBelow_69 (by decide) (fun c_69 => ?_) (fun c_69 => absurd c_69 (by rw [iv_bit hn hi10, if_neg hRi]; decide))
            refine lv_iconst (v := 0) hx hb dL_isBelow_76 (by decide) ?_
            refine lv_iload hx hb dL_isBelow_77 (lv_at hl 0 rfl) ?_
            refine lv_if_lt (tgt := 96) hx hb dL_isBelow_79 (by decide) (fun c_79 => absurd c_79 (nI_pos (by omega))) (fun c_79 => ?_)
            refine lv_iload_n hx hb dL_isBelow_82 rfl (lv_at hl 4 rfl) ?_
            refine lv_iload hx hb dL_isBelow_83 (lv_at hl 0 rfl) ?_
            refine lv_ishr hx hb dL_isBelow_85 ?_
            refine lv_iconst (v := 1) hx hb dL_isBelow_86 (by decide) ?_
            refine lv_iand hx hb dL_isBelow_87 ?_
            refine lv_iconst (v := 1) hx hb dL_isBelow_88 (by decide) ?_
            refine lv_icmp_ne (tgt := 96) hx hb dL_isBelow_89 (by decide) (fun c_89 => ?_) (fun c_89 => absurd c_89 (by rw [iv_bit hn hp, if_neg hRp]; decide))
            refine lv_iconst (v := 0) hx hb dL_isBelow_96 (by decide) ?_
            refine lv_icmp_ne (tgt := 104) hx hb dL_isBelow_97 (by decide) (fun c_97 => absurd (by decide) c_97) (fun c_97 => ?_)
            refine lv_iconst (v := 1) hx hb dL_isBelow_100 (by decide) ?_
            refine lv_goto (tgt := 105) hx hb dL_isBelow_101 (by decide) ?_
            refine lv_istore (lv' := [(4, .int 1), (6, .int (nI p0)), (0, .ref (a 0)), (1, .int (nI n)), (2, .int (nI o)), (3, .int (rm_below σ (nI n))), (5, .int (nI i))]) hx hb dL_isBelow_105 hl (by decide) rfl (fun ls hl => ?_)
            refine lv_iinc (v := nI (i + 1)) (lv' := [(5, .int (nI (i + 1))), (4, .int 1), (6, .int (nI p0)), (0, .ref (a 0)), (1, .int (nI n)), (2, .int (nI o)), (3, .int (rm_below σ (nI n)))]) hx hb dL_isBelow_107 hl (k := 6) rfl (rm_inc i) (by decide) rfl (fun ls hl => ?_)
            refine lv_goto (tgt := 36) hx hb dL_isBelow_110 (by decide) ?_
            exact ih (i + 1) (by omega) H _ _ _ _ hw (lv_sub hl [3, 4, 5, 6, 1, 0] rfl) (by show cells + 1 ≤ _; omega) (by show slots + 6 ≤ _; omega)
  refine lv_aload_n hx hb dL_isBelow_0 rfl (lv_at hl 0 rfl) ?_
  refine lv_iload_n hx hb dL_isBelow_1 rfl (lv_at hl 1 rfl) ?_
  refine lz_callI CF hTh hA hw (As := [.int (nI n)]) (rest := []) (lk_below l k a σ hfl hsep.1 hn rfl) (cwV 1 hts gL_isBelow_X0_below rfl rfl rfl (by decide +kernel) ⟨Nat.le_of_ble_eq_true rfl, Nat.le_of_ble_eq_true rfl⟩) rfl hl.1 rfl (lv_room (Nat.le_of_ble_eq_true rfl)) dL_isBelow_2 ⟨Nat.le_of_ble_eq_true rfl, Nat.le_of_ble_eq_true rfl⟩ (fun H locs hw => ?_)
  refine lv_istore_n (lv' := [(3, .int (rm_below σ (nI n))), (0, .ref (a 0)), (1, .int (nI n)), (2, .int (nI o))]) hx hb dL_isBelow_5 rfl hl (by decide) rfl (fun ls hl => ?_)
  refine lv_iload_n hx hb dL_isBelow_6 rfl (lv_at hl 0 rfl) ?_
  refine lv_iload_n hx hb dL_isBelow_7 rfl (lv_at hl 2 rfl) ?_
  refine lv_ishr hx hb dL_isBelow_8 ?_
  refine lv_iconst (v := 1) hx hb dL_isBelow_9 (by decide) ?_
  refine lv_iand hx hb dL_isBelow_10 ?_
  refine lv_iconst (v := 1) hx hb dL_isBelow_11 (by decide) ?_
  refine lv_icmp_ne (tgt := 30) hx hb dL_isBelow_12 (by decide) (fun c_12 => absurd (by rw [iv_bit hn hn, if_pos hself]) c_12) (fun c_12 => ?_)
  refine lv_iload_n hx hb dL_isBelow_15 rfl (lv_at hl 0 rfl) ?_
  refine lv_sipush (v := 1024) hx hb dL_isBelow_16 (by decide) ?_
  refine lv_icmp_ge (tgt := 30) hx hb dL_isBelow_19 (by decide) (fun c_19 => absurd c_19 (by rw [ez]; exact nI_ge (a := z) (b := 1024) hz1 (by decide))) (fun c_19 => ?_)
  refine lv_iload_n hx hb dL_isBelow_22 rfl (lv_at hl 0 rfl) ?_
  refine lv_if_le (tgt := 30) hx hb dL_isBelow_23 (by decide) (fun c_23 => absurd c_23 (by rw [ez]; exact nI_nle hz0 (by omega))) (fun c_23 => ?_)
  refine lv_iconst (v := 1) hx hb dL_isBelow_26 (by decide) ?_
  refine lv_goto (tgt := 31) hx hb dL_isBelow_27 (by decide) ?_
  refine lv_istore (lv' := [(4, .int 1), (3, .int (rm_below σ (nI n))), (0, .ref (a 0)), (1, .int (nI n)), (2, .int (nI o))]) hx hb dL_isBelow_31 hl (by decide) rfl (fun ls hl => ?_)
  refine lv_iconst (v := 0) hx hb dL_isBelow_33 (by decide) ?_
  refine lv_istore (lv' := [(5, .int (nI 0)), (4, .int 1), (3, .int (rm_below σ (nI n))), (0, .ref (a 0)), (1, .int (nI n)), (2, .int (nI o))]) hx hb dL_isBelow_34 hl (by decide) rfl (fun ls hl => ?_)
  exact lp 10 0 rfl _ _ _ _ _ hw (lv_sub hl [3, 4, 5, 2, 1, 0] rfl) (Nat.le_of_ble_eq_true rfl) (Nat.le_of_ble_eq_true rfl)

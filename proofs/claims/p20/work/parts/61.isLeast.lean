set_option maxHeartbeats 4000000 in
set_option maxRecDepth 100000 in
theorem jL_isLeast (l : Launch) (hfl : l.stackTraces = false) (k : rm_K) (a q : Nat → Nat) (hsep : lz_sep a q) (σ θ : rm_St) {K B : Nat} (hI : lz_I K B σ θ) : lz_M l k a q (fun _ => True) yL_isLeast wsL_isLeast ({ frames := 8, cells := 90, slots := 540, locals := 140 }) [.ref (a 0), .ref (q 0), .ref (q 1)] σ θ (fun r σ1 θ1 => r = 1 ∧ (∀ z m, z ≠ 14 → σ1 z m = σ z m) ∧ θ1 = θ) := by
  refine lz_enter (cc := cL_isLeast) (nL := 8) (ret := some .boolean) hsep (by decide) rfl rfl (Nat.le_of_ble_eq_true rfl) ?_
  intro p e s m args below meth c ls CF hr hlocks hTh hN hX hw hl
  have hx := CF.1
  have hb := CF.2.1
  have hts := CF.2.2.2.2
  have hA : ∀ x, s.heap.size ≤ x → lz_A a q s.heap.size x := fun x h => Or.inl (Or.inr h)
  replace hl : lv_has ls 8 [(0, .ref (a 0)), (1, .ref (q 0)), (2, .ref (q 1))] := hl
  obtain ⟨hM, hNn, hT, ⟨hLc, hLt, hL4, hL2, hL5⟩, hB⟩ := hI
  obtain ⟨v, hv0, hv1, hv2, hv3⟩ := iv_least hM
  have lp : ∀ (r i : Nat), i + r = 10 → ∀ (τ : rm_St) (_ : ∀ z m, z ≠ 14 → τ z m = σ z m) (H : Heap) (locs : List Loc) (ls : Array Slot) (cells slots : Nat), lz_Wd k a q (lz_A a q s.heap.size) s.heap s τ θ H locs → lv_has ls 8 [(0, .ref (a 0)), (1, .ref (q 0)), (2, .ref (q 1)), (3, .int 1), (4, .int (nI i))] → cells ≤ 0 + 9 * i → slots ≤ 0 + 54 * i → W p l e (headSpec wsL_isLeast ({ frames := 8, cells := 90, slots := 540, locals := 140 })).room s m args below meth c H locs cells slots (MQ below (va_Qi (fun (r : Int32) (u : rm_St × rm_St) => (fun r σ1 θ1 => r = 1 ∧ (∀ z m, z ≠ 14 → σ1 z m = σ z m) ∧ θ1 = θ) r u.1 u.2) (fun u t => lz_P k a q u.1 u.2 t) (lz_A a q s.heap.size)) args s 90 540 (lz_A a q s.heap.size)) (F0 m 5 ls []) := by
    intro r
    induction r with
    | zero =>
      intro i hi τ hτ H locs ls cells slots hw hl hc hs
      obtain rfl : i = 10 := by omega
      refine lv_iload hx hb dL_isLeast_5 (lv_at hl 4 rfl) ?_
      refine lv_bipush (v := 10) hx hb dL_isLeast_7 (by decide) ?_
      refine lv_icmp_ge (tgt := 122) hx hb dL_isLeast_9 (by decide) (fun c_9 => ?_) (fun c_9 => absurd (nI_le (a := 10) (b := 10) (Nat.le_refl _) (by decide)) c_9)
      refine lv_iload_n hx hb dL_isLeast_122 rfl (lv_at hl 3 rfl) ?_
      exact lz_zret (post := (fun r σ1 θ1 => r = 1 ∧ (∀ z m, z ≠ 14 → σ1 z m = σ z m) ∧ θ1 = θ)) CF hr hlocks hw (by show cells ≤ 90; omega) (by show slots ≤ 540; omega) dL_isLeast_123 ⟨rfl, hτ, rfl⟩
    | succ r ih =>
      intro i hi τ hτ H locs ls cells slots hw hl hc hs
      have hi10 : i < 10 := by omega
      have k31 : ∀ b0 : Int32, b0.toInt = iv_bf σ i → W p l e (headSpec wsL_isLeast ({ frames := 8, cells := 90, slots := 540, locals := 140 })).room s m args below meth c H locs cells slots (MQ below (va_Qi (fun (r : Int32) (u : rm_St × rm_St) => (fun r σ1 θ1 => r = 1 ∧ (∀ z m, z ≠ 14 → σ1 z m = σ z m) ∧ θ1 = θ) r u.1 u.2) (fun u t => lz_P k a q u.1 u.2 t) (lz_A a q s.heap.size)) args s 90 540 (lz_A a q s.heap.size)) (F0 m 31 ls [.int b0]) := by
        intro b0 hb0
        have lp2 : ∀ (r2 j : Nat), j + r2 = 8 → ∀ (τ1 : rm_St) (_ : ∀ z m, z ≠ 14 → τ1 z m = σ z m) (x : Int32) (_ : v i ≤ x.toInt ∧ x.toInt ≤ iv_bf σ i) (_ : ∀ j2, j2 < j → 0 < (σ (15 + i) j2).toInt → x.toInt ≤ v j2 + (σ (15 + i) j2).toInt) (H : Heap) (locs : List Loc) (ls : Array Slot) (cells slots : Nat), lz_Wd k a q (lz_A a q s.heap.size) s.heap s τ1 θ H locs → lv_has ls 8 [(0, .ref (a 0)), (1, .ref (q 0)), (2, .ref (q 1)), (3, .int 1), (4, .int (nI i)), (5, .int x), (6, .int (nI j))] → cells ≤ 9 * i + j → slots ≤ 54 * i + 6 * j → W p l e (headSpec wsL_isLeast ({ frames := 8, cells := 90, slots := 540, locals := 140 })).room s m args below meth c H locs cells slots (MQ below (va_Qi (fun (r : Int32) (u : rm_St × rm_St) => (fun r σ1 θ1 => r = 1 ∧ (∀ z m, z ≠ 14 → σ1 z m = σ z m) ∧ θ1 = θ) r u.1 u.2) (fun u t => lz_P k a q u.1 u.2 t) (lz_A a q s.heap.size)) args s 90 540 (lz_A a q s.heap.size)) (F0 m 36 ls []) := by
          intro r2
          induction r2 with
          | zero =>
            intro j hj τ1 hτ1 x hx1 hx2 H locs ls cells slots hw hl hc hs
            obtain rfl : j = 8 := by omega
            have hxe : rm_least τ1 14 i = x := by
              apply Int32.toInt_inj.mp
              rw [(hv3 τ1 hτ1).2 i hi10]
              rcases hv2 i hi10 with g | ⟨j2, hj2, g1, g2⟩
              · omega
              · have hj8 : j2 < 8 := Classical.byContradiction (fun z => by
                  have h := hLc i j2 hi10 hj2
                  unfold lz_c at h
                  by_cases z1 : i < 8
                  · rw [if_pos z1, if_neg z] at h
                    rw [← h] at g1
                    exact absurd g1 (by decide)
                  · rw [if_neg z1] at h
                    rw [← h] at g1
                    exact absurd g1 (by decide))
                have := hx2 j2 hj8 g1
                omega
            refine lv_iload hx hb dL_isLeast_36 (lv_at hl 6 rfl) ?_
            refine lv_bipush (v := 8) hx hb dL_isLeast_38 (by decide) ?_
            refine lv_icmp_ge (tgt := 99) hx hb dL_isLeast_40 (by decide) (fun c_40 => ?_) (fun c_40 => absurd (nI_le (a := 8) (b := 8) (Nat.le_refl _) (by decide)) c_40)
            refine lv_aload_n hx hb dL_isLeast_99 rfl (lv_at hl 0 rfl) ?_
            refine lv_iload hx hb dL_isLeast_100 (lv_at hl 4 rfl) ?_
            refine lz_callI CF hTh hA hw (As := [.int (nI i)]) (rest := []) (lk_leastRank l k a τ1 hfl hsep.1 hi10 rfl) (cwV 1 hts gL_isLeast_X0_leastRank rfl rfl rfl (by decide +kernel) ⟨Nat.le_of_ble_eq_true rfl, Nat.le_of_ble_eq_true rfl⟩) rfl hl.1 rfl (lv_room (Nat.le_of_ble_eq_true rfl)) dL_isLeast_102 ⟨by show cells + 1 ≤ 90; omega, by show slots + 6 ≤ 540; omega⟩ (fun H locs hw => ?_)
            refine lv_iload hx hb dL_isLeast_105 (lv_at hl 5 rfl) ?_
            refine lv_icmp_ne (tgt := 114) hx hb dL_isLeast_107 (by decide) (fun c_107 => absurd hxe c_107) (fun c_107 => ?_)
            refine lv_iconst (v := 1) hx hb dL_isLeast_110 (by decide) ?_
            refine lv_goto (tgt := 115) hx hb dL_isLeast_111 (by decide) ?_
            refine lv_istore_n (lv' := [(3, .int 1), (0, .ref (a 0)), (1, .ref (q 0)), (2, .ref (q 1)), (4, .int (nI i)), (5, .int x), (6, .int (nI 8))]) hx hb dL_isLeast_115 rfl hl (by decide) rfl (fun ls hl => ?_)
            refine lv_iinc (v := nI (i + 1)) (lv' := [(4, .int (nI (i + 1))), (3, .int 1), (0, .ref (a 0)), (1, .ref (q 0)), (2, .ref (q 1)), (5, .int x), (6, .int (nI 8))]) hx hb dL_isLeast_116 hl (k := 4) rfl (rm_inc i) (by decide) rfl (fun ls hl => ?_)
            refine lv_goto (tgt := 5) hx hb dL_isLeast_119 (by decide) ?_
            exact ih (i + 1) (by omega) (rm_least τ1) (hv3 τ1 hτ1).1 H _ _ _ _ hw (lv_sub hl [2, 3, 4, 1, 0] rfl) (by show cells + 1 ≤ _; omega) (by show slots + 6 ≤ _; omega)
          | succ r2 ih2 =>
            intro j hj τ1 hτ1 x hx1 hx2 H locs ls cells slots hw hl hc hs
            have hj8 : j < 8 := by omega
            have hci := (hM.2.1 i j hi10 (by omega)).1
            have hvj := hv0 j (show j < 10 by omega)
            have hbf : ∀ z, iv_bf σ z ≤ 10000 := fun z => by unfold iv_bf; split <;> decide
            have hbj := hbf j
            have hbi := hbf i
            have k75 : ∀ (τ2 : rm_St) (_ : ∀ z m, z ≠ 14 → τ2 z m = σ z m) (y : Int32) (_ : v i ≤ y.toInt) (_ : 0 < (σ (15 + i) j).toInt → y.toInt = v j + (σ (15 + i) j).toInt) (H : Heap) (locs : List Loc) (cells slots : Nat), lz_Wd k a q (lz_A a q s.heap.size) s.heap s τ2 θ H locs → cells ≤ 9 * i + j + 1 → slots ≤ 54 * i + 6 * j + 6 → W p l e (headSpec wsL_isLeast ({ frames := 8, cells := 90, slots := 540, locals := 140 })).room s m args below meth c H locs cells slots (MQ below (va_Qi (fun (r : Int32) (u : rm_St × rm_St) => (fun r σ1 θ1 => r = 1 ∧ (∀ z m, z ≠ 14 → σ1 z m = σ z m) ∧ θ1 = θ) r u.1 u.2) (fun u t => lz_P k a q u.1 u.2 t) (lz_A a q s.heap.size)) args s 90 540 (lz_A a q s.heap.size)) (F0 m 75 ls [.int y]) := by
              intro τ2 hτ2 y hy1 hy2 H locs cells slots hw hc hs
              refine lv_istore (lv' := [(7, .int y), (0, .ref (a 0)), (1, .ref (q 0)), (2, .ref (q 1)), (3, .int 1), (4, .int (nI i)), (5, .int x), (6, .int (nI j))]) hx hb dL_isLeast_75 hl (by decide) rfl (fun ls hl => ?_)
              refine lv_iload hx hb dL_isLeast_77 (lv_at hl 0 rfl) ?_
              refine lv_iload hx hb dL_isLeast_79 (lv_at hl 6 rfl) ?_
              refine lv_icmp_ge (tgt := 89) hx hb dL_isLeast_81 (by decide) (fun c_81 => ?_) (fun c_81 => ?_)
              · skip
                refine lv_iload hx hb dL_isLeast_89 (lv_at hl 6 rfl) ?_
                refine lv_istore (lv' := [(5, .int x), (7, .int y), (0, .ref (a 0)), (1, .ref (q 0)), (2, .ref (q 1)), (3, .int 1), (4, .int (nI i)), (6, .int (nI j))]) hx hb dL_isLeast_91 hl (by decide) rfl (fun ls hl => ?_)
                refine lv_iinc (v := nI (j + 1)) (lv' := [(6, .int (nI (j + 1))), (5, .int x), (7, .int y), (0, .ref (a 0)), (1, .ref (q 0)), (2, .ref (q 1)), (3, .int 1), (4, .int (nI i))]) hx hb dL_isLeast_93 hl (k := 7) rfl (rm_inc j) (by decide) rfl (fun ls hl => ?_)
                refine lv_goto (tgt := 36) hx hb dL_isLeast_96 (by decide) ?_
                have hle := c_81
                rw [Int32.le_iff_toInt_le] at hle
                exact ih2 (j + 1) (by omega) τ2 hτ2 x (by omega) (fun j2 h1 h2 => by
                  by_cases ej : j2 = j
                  · subst ej
                    have := hy2 h2
                    omega
                  · have := hx2 j2 (by omega) h2
                    omega) H _ _ _ _ hw (lv_sub hl [3, 4, 5, 6, 7, 1, 0] rfl) (by omega) (by omega)
              · skip
                refine lv_iload hx hb dL_isLeast_84 (lv_at hl 0 rfl) ?_
                refine lv_goto (tgt := 91) hx hb dL_isLeast_86 (by decide) ?_
                refine lv_istore (lv' := [(5, .int y), (7, .int y), (0, .ref (a 0)), (1, .ref (q 0)), (2, .ref (q 1)), (3, .int 1), (4, .int (nI i)), (6, .int (nI j))]) hx hb dL_isLeast_91 hl (by decide) rfl (fun ls hl => ?_)
                refine lv_iinc (v := nI (j + 1)) (lv' := [(6, .int (nI (j + 1))), (5, .int y), (7, .int y), (0, .ref (a 0)), (1, .ref (q 0)), (2, .ref (q 1)), (3, .int 1), (4, .int (nI i))]) hx hb dL_isLeast_93 hl (k := 7) rfl (rm_inc j) (by decide) rfl (fun ls hl => ?_)
                refine lv_goto (tgt := 36) hx hb dL_isLeast_96 (by decide) ?_
                have hle := c_81
                rw [Int32.le_iff_toInt_le] at hle
                exact ih2 (j + 1) (by omega) τ2 hτ2 y (by omega) (fun j2 h1 h2 => by
                  by_cases ej : j2 = j
                  · subst ej
                    have := hy2 h2
                    omega
                  · have := hx2 j2 (by omega) h2
                    omega) H _ _ _ _ hw (lv_sub hl [3, 4, 5, 6, 7, 1, 0] rfl) (by omega) (by omega)
            refine lv_iload hx hb dL_isLeast_36 (lv_at hl 6 rfl) ?_
            refine lv_bipush (v := 8) hx hb dL_isLeast_38 (by decide) ?_
            refine lv_icmp_ge (tgt := 99) hx hb dL_isLeast_40 (by decide) (fun c_40 => absurd c_40 (nI_ge (a := j) (b := 8) hj8 (by decide))) (fun c_40 => ?_)
            refine lv_aload_n hx hb dL_isLeast_43 rfl (lv_at hl 1 rfl) ?_
            refine lv_iload hx hb dL_isLeast_44 (lv_at hl 4 rfl) ?_
            refine lv_iload hx hb dL_isLeast_46 (lv_at hl 6 rfl) ?_
            refine lz_callC CF hw (As := [.ref (q 0), .int (nI i), .int (nI j)]) (rest := []) (jL_cost l k q θ i j (by omega) (by omega) _ (hLc i j hi10 (show j < 10 by omega))) (va_cwS 3 hts gL_isLeast_L_cost rfl rfl rfl (by decide +kernel) ⟨Nat.le_of_ble_eq_true rfl, Nat.le_of_ble_eq_true rfl⟩) rfl hl.1 rfl (lv_room (Nat.le_of_ble_eq_true rfl)) dL_isLeast_48 ⟨by show cells ≤ 90; omega, by show slots ≤ 540; omega⟩ (fun H locs hw => ?_)
            refine lv_if_le (tgt := 72) hx hb dL_isLeast_51 (by decide) (fun c_51 => ?_) (fun c_51 => ?_)
            · skip
              refine lv_sipush (v := 10000) hx hb dL_isLeast_72 (by decide) ?_
              exact k75 τ1 hτ1 (10000) (by rw [iv_10000]; omega) (fun h => absurd h (by rw [Int32.le_iff_toInt_le, Int32.toInt_zero] at c_51; omega)) H _ _ _ hw (by show cells ≤ _; omega) (by show slots ≤ _; omega)
            · skip
              refine lv_aload_n hx hb dL_isLeast_54 rfl (lv_at hl 0 rfl) ?_
              refine lv_iload hx hb dL_isLeast_55 (lv_at hl 6 rfl) ?_
              refine lz_callI CF hTh hA hw (As := [.int (nI j)]) (rest := []) (lk_leastRank l k a τ1 hfl hsep.1 (show j < 10 by omega) rfl) (cwV 1 hts gL_isLeast_X0_leastRank rfl rfl rfl (by decide +kernel) ⟨Nat.le_of_ble_eq_true rfl, Nat.le_of_ble_eq_true rfl⟩) rfl hl.1 rfl (lv_room (Nat.le_of_ble_eq_true rfl)) dL_isLeast_57 ⟨by show cells + 1 ≤ 90; omega, by show slots + 6 ≤ 540; omega⟩ (fun H locs hw => ?_)
              refine lv_aload_n hx hb dL_isLeast_60 rfl (lv_at hl 1 rfl) ?_
              refine lv_iload hx hb dL_isLeast_61 (lv_at hl 4 rfl) ?_
              refine lv_iload hx hb dL_isLeast_63 (lv_at hl 6 rfl) ?_
              refine lz_callC CF hw (As := [.ref (q 0), .int (nI i), .int (nI j)]) (rest := [.int (rm_least τ1 14 j)]) (jL_cost l k q θ i j (by omega) (by omega) _ (hLc i j hi10 (show j < 10 by omega))) (va_cwS 3 hts gL_isLeast_L_cost rfl rfl rfl (by decide +kernel) ⟨Nat.le_of_ble_eq_true rfl, Nat.le_of_ble_eq_true rfl⟩) rfl hl.1 rfl (lv_room (Nat.le_of_ble_eq_true rfl)) dL_isLeast_65 ⟨by show cells + 1 ≤ 90; omega, by show slots + 6 ≤ 540; omega⟩ (fun H locs hw => ?_)
              refine lv_iadd hx hb dL_isLeast_68 ?_
              refine lv_goto (tgt := 75) hx hb dL_isLeast_69 (by decide) ?_
              have hpos : 0 < (σ (15 + i) j).toInt := by rw [Int32.le_iff_toInt_le, Int32.toInt_zero] at c_51; omega
              have hlj := (hv3 τ1 hτ1).2 j (by omega)
              have hadd : ((rm_least τ1 14 j) + (σ (15 + i) j)).toInt = v j + (σ (15 + i) j).toInt := by rw [iv_add (by omega) (by omega), hlj]
              exact k75 (rm_least τ1) (hv3 τ1 hτ1).1 ((rm_least τ1 14 j) + (σ (15 + i) j)) (by rw [hadd]; exact hv1 i j hi10 (by omega) hpos) (fun _ => hadd) H _ _ _ hw (by show cells + 1 ≤ _; omega) (by show slots + 6 ≤ _; omega)
        refine lv_istore (lv' := [(5, .int b0), (0, .ref (a 0)), (1, .ref (q 0)), (2, .ref (q 1)), (3, .int 1), (4, .int (nI i))]) hx hb dL_isLeast_31 hl (by decide) rfl (fun ls hl => ?_)
        refine lv_iconst (v := 0) hx hb dL_isLeast_33 (by decide) ?_
        refine lv_istore (lv' := [(6, .int (nI 0)), (5, .int b0), (0, .ref (a 0)), (1, .ref (q 0)), (2, .ref (q 1)), (3, .int 1), (4, .int (nI i))]) hx hb dL_isLeast_34 hl (by decide) rfl (fun ls hl => ?_)
        exact lp2 8 0 rfl τ hτ b0 (by have := hv0 i hi10; omega) (fun j2 h => absurd h (Nat.not_lt_zero _)) H _ _ _ _ hw (lv_sub hl [2, 3, 4, 5, 6, 1, 0] rfl) (by omega) (by omega)
      refine lv_iload hx hb dL_isLeast_5 (lv_at hl 4 rfl) ?_
      refine lv_bipush (v := 10) hx hb dL_isLeast_7 (by decide) ?_
      refine lv_icmp_ge (tgt := 122) hx hb dL_isLeast_9 (by decide) (fun c_9 => absurd c_9 (nI_ge (a := i) (b := 10) hi10 (by decide))) (fun c_9 => ?_)
      refine lv_iload_n hx hb dL_isLeast_12 rfl (lv_at hl 3 rfl) ?_
      refine lv_if_eq (tgt := 122) hx hb dL_isLeast_13 (by decide) (fun c_13 => absurd c_13 (by decide)) (fun c_13 => ?_)
      refine lv_aload_n hx hb dL_isLeast_16 rfl (lv_at hl 2 rfl) ?_
      refine lv_iload hx hb dL_isLeast_17 (lv_at hl 4 rfl) ?_
      refine lz_iald CF hw 1 (j := i) (by decide) (by show _ < 20; omega) dL_isLeast_19 ?_
      refine lv_iconst (v := 1) hx hb dL_isLeast_20 (by decide) ?_
      refine lv_icmp_ne (tgt := 28) hx hb dL_isLeast_21 (by decide) (fun c_21 => ?_) (fun c_21 => ?_)
      · skip
        refine lv_sipush (v := 10000) hx hb dL_isLeast_28 (by decide) ?_
        exact k31 10000 (by unfold iv_bf; rw [if_pos (((hNn i hi10).elim (fun g => absurd ((hLt i hi10).1.trans g.1) c_21) (fun g => g.elim (fun g => g.1) (fun g => g.1))))]; rfl)
      · skip
        refine lv_iconst (v := 0) hx hb dL_isLeast_24 (by decide) ?_
        refine lv_goto (tgt := 31) hx hb dL_isLeast_25 (by decide) ?_
        exact k31 0 (by unfold iv_bf; rw [if_neg (by rw [← (hLt i hi10).1, c_21]; decide)]; rfl)
  refine lv_iconst (v := 1) hx hb dL_isLeast_0 (by decide) ?_
  refine lv_istore_n (lv' := [(3, .int 1), (0, .ref (a 0)), (1, .ref (q 0)), (2, .ref (q 1))]) hx hb dL_isLeast_1 rfl hl (by decide) rfl (fun ls hl => ?_)
  refine lv_iconst (v := 0) hx hb dL_isLeast_2 (by decide) ?_
  refine lv_istore (lv' := [(4, .int (nI 0)), (3, .int 1), (0, .ref (a 0)), (1, .ref (q 0)), (2, .ref (q 1))]) hx hb dL_isLeast_3 hl (by decide) rfl (fun ls hl => ?_)
  exact lp 10 0 rfl σ (fun _ _ _ => rfl) _ _ _ _ _ hw (lv_sub hl [2, 3, 4, 1, 0] rfl) (Nat.le_of_ble_eq_true rfl) (Nat.le_of_ble_eq_true rfl)

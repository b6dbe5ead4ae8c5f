set_option maxHeartbeats 4000000 in
set_option maxRecDepth 100000 in
theorem kX1_pass (l : Launch) (k : rm_K) (a : Nat → Nat) (ha : rn_inj a) (σ : rm_St) (pv : Int32)  (hok : rn_ok σ) : rn_MI l k a yX1_pass wsX1_pass ({ frames := 4, cells := 0, slots := 0, locals := 98 }) [.int pv] σ ((rn_pass σ pv).2) ((rn_pass σ pv).1) := by
  refine rn_enterI (cc := cX1_pass) (nL := 6) (ret := (some .int)) ha (by decide) rfl rfl (by decide +kernel) (Nat.le_of_ble_eq_true rfl) ?_
  intro p e s m args below meth c ls C hr hlocks hw hl
  have hx := C.1.1
  have hb := C.1.2.1
  have hts := C.1.2.2.2.2
  have hA : ∀ q, s.heap.size ≤ q → rn_A a s.heap.size q := fun q h => Or.inr h
  replace hl : lv_has ls 6 [(0, .ref (a 0)), (1, .int pv)] := hl
  refine lv_aload_n hx hb dX1_pass_0 rfl (lv_at hl 0 rfl) ?_
  refine lv_iload_n hx hb dX1_pass_1 rfl (lv_at hl 1 rfl) ?_
  refine lv_iconst (v := 1) hx hb dX1_pass_2 (by decide) ?_
  refine lv_bipush (v := 100) hx hb dX1_pass_3 (by decide) ?_
  refine rn_callSI C hw (As := [.int pv, .int 1, .int 100]) (rest := [.ref (a 0)]) (kX1_isIn l (pv) (1) (100)) (va_cwS 3 hts gX1_pass_X1_isIn rfl rfl rfl (by decide +kernel) ⟨Nat.le_of_ble_eq_true rfl, Nat.le_of_ble_eq_true rfl⟩) rfl hl.1 rfl (lv_room (Nat.le_of_ble_eq_true rfl)) dX1_pass_5 ⟨Nat.zero_le _, Nat.zero_le _⟩ (fun H locs hw => ?_)
  refine rm_ifeq (tgt := 15) hx hb dX1_pass_8 (by decide) (fun c_8 => ?_) (fun c_8 => ?_)
  · skip
    refine lv_iconst (v := 1) hx hb dX1_pass_15 (by decide) ?_
    refine rn_callI C hw hA (As := [.int 1]) (rest := []) (kX1_fails l k a ha σ 1 1 (by decide)) (cwV 1 hts gX1_pass_X1_fails rfl rfl rfl (by decide +kernel) ⟨Nat.le_of_ble_eq_true rfl, Nat.le_of_ble_eq_true rfl⟩) rfl hl.1 rfl (lv_room (Nat.le_of_ble_eq_true rfl)) dX1_pass_16 ⟨Nat.zero_le _, Nat.zero_le _⟩ (fun H locs hw => ?_)
    refine lv_if_eq (tgt := 24) hx hb dX1_pass_19 (by decide) (fun c_19 => ?_) (fun c_19 => ?_)
    · exact absurd c_19 (by decide)
    · skip
      refine lv_iconst (v := 0) hx hb dX1_pass_22 (by decide) ?_
      exact rn_iret C hr hlocks hw dX1_pass_23 ⟨by first | with_reducible rfl | (simp only [rn_pass, c_8, ↓reduceIte, Bool.false_eq_true]; done) | (simp only [rn_pass, c_8, ↓reduceIte, Bool.false_eq_true]; rfl) | rfl, by first | with_reducible rfl | (simp only [rn_pass, c_8, ↓reduceIte, Bool.false_eq_true]; done) | (simp only [rn_pass, c_8, ↓reduceIte, Bool.false_eq_true]; rfl) | rfl⟩
  · skip
    obtain ⟨T, hT1, hT2, rfl⟩ := isIn_of c_8
    have hTc : (nI T).toNatClampNeg = T := nI_clamp (by omega)
    refine lv_iconst (v := 0) hx hb dX1_pass_11 (by decide) ?_
    refine lv_goto (tgt := 16) hx hb dX1_pass_12 (by decide) ?_
    refine rn_callI C hw hA (As := [.int 0]) (rest := []) (kX1_fails l k a ha σ 0 0 (by decide)) (cwV 1 hts gX1_pass_X1_fails rfl rfl rfl (by decide +kernel) ⟨Nat.le_of_ble_eq_true rfl, Nat.le_of_ble_eq_true rfl⟩) rfl hl.1 rfl (lv_room (Nat.le_of_ble_eq_true rfl)) dX1_pass_16 ⟨Nat.zero_le _, Nat.zero_le _⟩ (fun H locs hw => ?_)
    refine lv_if_eq (tgt := 24) hx hb dX1_pass_19 (by decide) (fun c_19 => ?_) (fun c_19 => ?_)
    · skip
      refine lv_iconst (v := 0) hx hb dX1_pass_24 (by decide) ?_
      refine lv_istore_n (lv' := [(2, .int 0), (0, .ref (a 0)), (1, .int (nI T))]) hx hb dX1_pass_25 rfl hl (by decide) rfl (fun ls hl => ?_)
      refine lv_iconst (v := 0) hx hb dX1_pass_26 (by decide) ?_
      refine lv_istore_n (lv' := [(3, .int 0), (2, .int 0), (0, .ref (a 0)), (1, .int (nI T))]) hx hb dX1_pass_27 rfl hl (by decide) rfl (fun ls hl => ?_)
      have lp_28 : ∀ (r t : Nat), t + r = T → ∀ (x2 : Int32) (τ28 : rm_St), rn_passL r t x2 τ28 = rn_pass σ (nI T) → rn_ok τ28 → ∀ (H : Heap) (locs : List Loc), rn_Wd k a (rn_A a s.heap.size) s.heap s τ28 H locs → ∀ (ls : Array Slot), lv_has ls 6 [(0, .ref (a 0)), (1, .int (nI T)), (2, .int x2), (3, .int (nI t))] → W p l e (headSpec wsX1_pass ({ frames := 4, cells := 0, slots := 0, locals := 98 })).room s m args below meth c H locs 0 0 (MQ below (va_Qi (fun (r : Int32) (τ : rm_St) => r = ((rn_pass σ (nI T)).2) ∧ τ = ((rn_pass σ (nI T)).1)) (fun τ t => rn_P k a τ t) (rn_A a s.heap.size)) args s 0 0 (rn_A a s.heap.size)) (F0 m 28 ls []) := by
        intro r
        induction r with
        | zero =>
          intro t hi28 x2 τ28 ht28 hv28 H locs hw ls hl
          obtain rfl : T = t := by omega
          have hz28 : (τ28, x2) = rn_pass σ (nI T) := ht28
          refine lv_iload_n hx hb dX1_pass_28 rfl (lv_at hl 3 rfl) ?_
          refine lv_iload_n hx hb dX1_pass_29 rfl (lv_at hl 1 rfl) ?_
          refine lv_icmp_ge (tgt := 153) hx hb dX1_pass_30 (by decide) (fun c_30 => ?_) (fun c_30 => ?_)
          · skip
            refine lv_iload_n hx hb dX1_pass_153 rfl (lv_at hl 2 rfl) ?_
            exact rn_iret C hr hlocks hw dX1_pass_154 ⟨by first | with_reducible rfl | exact hz28 | (rw [← hz28]; done) | (rw [← hz28]; exact bI_f.symm) | (simp only [rn_pass, c_8, hTc, ↓reduceIte, Bool.false_eq_true]; rw [← hz28]; done) | (rw [← hz28]; simp only [rn_passL, ↓reduceIte, Bool.false_eq_true]; done) | (rw [← hz28]; simp only [rn_passL, ↓reduceIte, Bool.false_eq_true]; with_reducible rfl) | (rw [← hz28]; simp only [rn_passL, ↓reduceIte, Bool.false_eq_true]; rfl) | (simp only [rn_pass, c_8, hTc, ↓reduceIte, Bool.false_eq_true]; done) | (simp only [rn_pass, c_8, hTc, ↓reduceIte, Bool.false_eq_true]; with_reducible rfl), by first | with_reducible rfl | exact hz28 | (rw [← hz28]; done) | (rw [← hz28]; exact bI_f.symm) | (simp only [rn_pass, c_8, hTc, ↓reduceIte, Bool.false_eq_true]; rw [← hz28]; done) | (rw [← hz28]; simp only [rn_passL, ↓reduceIte, Bool.false_eq_true]; done) | (rw [← hz28]; simp only [rn_passL, ↓reduceIte, Bool.false_eq_true]; with_reducible rfl) | (rw [← hz28]; simp only [rn_passL, ↓reduceIte, Bool.false_eq_true]; rfl) | (simp only [rn_pass, c_8, hTc, ↓reduceIte, Bool.false_eq_true]; done) | (simp only [rn_pass, c_8, hTc, ↓reduceIte, Bool.false_eq_true]; with_reducible rfl)⟩
          · exact absurd (nI_le (a := T) (b := T) (Nat.le_refl _) (by omega)) c_30
        | succ r ih28 =>
          intro t hi28 x2 τ28 ht28 hv28 H locs hw ls hl
          have hlt28 : t < T := by omega
          refine lv_iload_n hx hb dX1_pass_28 rfl (lv_at hl 3 rfl) ?_
          refine lv_iload_n hx hb dX1_pass_29 rfl (lv_at hl 1 rfl) ?_
          refine lv_icmp_ge (tgt := 153) hx hb dX1_pass_30 (by decide) (fun c_30 => ?_) (fun c_30 => ?_)
          · exact absurd c_30 (nI_ge (a := t) (b := T) (by omega) (by omega))
          · skip
            refine lv_aload_n hx hb dX1_pass_33 rfl (lv_at hl 0 rfl) ?_
            refine lv_dup hx hb dX1_pass_34 rfl ?_
            refine rn_geti C hw 4 (by decide) (hts _ (by decide +kernel)) rfl dX1_pass_35 ?_
            refine lv_iconst (v := 1) hx hb dX1_pass_38 (by decide) ?_
            refine lv_iadd hx hb dX1_pass_39 ?_
            refine rn_puti C hw 4 (by decide) (hts _ (by decide +kernel)) rfl rfl rfl dX1_pass_40 (fun H locs hw => ?_)
            refine lv_iconst (v := 0) hx hb dX1_pass_43 (by decide) ?_
            refine lv_istore (lv' := [(4, .int 0), (0, .ref (a 0)), (1, .int (nI T)), (2, .int x2), (3, .int (nI t))]) hx hb dX1_pass_44 hl (by decide) rfl (fun ls hl => ?_)
            have lp_46 : ∀ (r i : Nat), i + r = 10 → ∀ (y2 : Int32) (τ46 : rm_St), rn_tickL r i y2 τ46 = rn_tickL 10 0 x2 (rm_up τ28 0 4 (τ28 0 4 + 1)) → rn_ok τ46 → ∀ (H : Heap) (locs : List Loc), rn_Wd k a (rn_A a s.heap.size) s.heap s τ46 H locs → ∀ (ls : Array Slot), lv_has ls 6 [(0, .ref (a 0)), (1, .int (nI T)), (2, .int y2), (3, .int (nI t)), (4, .int (nI i))] → W p l e (headSpec wsX1_pass ({ frames := 4, cells := 0, slots := 0, locals := 98 })).room s m args below meth c H locs 0 0 (MQ below (va_Qi (fun (r : Int32) (τ : rm_St) => r = ((rn_pass σ (nI T)).2) ∧ τ = ((rn_pass σ (nI T)).1)) (fun τ t => rn_P k a τ t) (rn_A a s.heap.size)) args s 0 0 (rn_A a s.heap.size)) (F0 m 46 ls []) := by
              intro r
              induction r with
              | zero =>
                intro i hi46 y2 τ46 ht46 hv46 H locs hw ls hl
                obtain rfl : 10 = i := by omega
                have hz46 : (τ46, y2) = rn_tickL 10 0 x2 (rm_up τ28 0 4 (τ28 0 4 + 1)) := ht46
                refine lv_iload hx hb dX1_pass_46 (lv_at hl 4 rfl) ?_
                refine lv_bipush (v := 10) hx hb dX1_pass_48 (by decide) ?_
                refine lv_icmp_ge (tgt := 147) hx hb dX1_pass_50 (by decide) (fun c_50 => ?_) (fun c_50 => ?_)
                · skip
                  refine lv_iinc (v := nI (t + 1)) (lv' := [(3, .int (nI (t + 1))), (0, .ref (a 0)), (1, .int (nI T)), (2, .int y2), (4, .int (nI 10))]) hx hb dX1_pass_147 hl (k := 3) rfl (rm_inc t) (by decide) rfl (fun ls hl => ?_)
                  refine lv_goto (tgt := 28) hx hb dX1_pass_150 (by decide) ?_
                  exact ih28 (t + 1) (by omega) (y2) (τ46) (by refine Eq.trans ?_ ht28; first | with_reducible rfl | (simp only [rn_passL, ↓reduceIte, Bool.false_eq_true]; done) | (simp only [rn_passL, ↓reduceIte, Bool.false_eq_true]; rw [← hz46]) | (simp only [rn_passL, ↓reduceIte, Bool.false_eq_true]; with_reducible rfl)) (by repeat (first | assumption | with_reducible apply rn_ok_m1 | with_reducible apply rn_ok_up | with_reducible apply rn_ok_ch | with_reducible apply rn_ok_hear | with_reducible apply rn_ok_resets | with_reducible apply rn_ok_tells | with_reducible apply rn_ok_len | with_reducible apply rn_ok_begins | decide)) _ _ hw _ (lv_sub hl [1, 2, 3, 0] rfl)
                · exact absurd (show (10 : Int32) ≤ nI 10 from nI_le (a := 10) (b := 10) (Nat.le_refl _) (by decide)) c_50
              | succ r ih46 =>
                intro i hi46 y2 τ46 ht46 hv46 H locs hw ls hl
                have hlt46 : i < 10 := by omega
                refine lv_iload hx hb dX1_pass_46 (lv_at hl 4 rfl) ?_
                refine lv_bipush (v := 10) hx hb dX1_pass_48 (by decide) ?_
                refine lv_icmp_ge (tgt := 147) hx hb dX1_pass_50 (by decide) (fun c_50 => ?_) (fun c_50 => ?_)
                · exact absurd c_50 (nI_ge (a := i) (b := 10) hlt46 (by decide))
                · skip
                  refine lv_aload_n hx hb dX1_pass_53 rfl (lv_at hl 0 rfl) ?_
                  refine rn_geta C hw 14 10 (by decide) rfl (hts _ (by decide +kernel)) rfl dX1_pass_54 ?_
                  refine lv_iload hx hb dX1_pass_57 (lv_at hl 4 rfl) ?_
                  refine rn_iald C hw (N := 10) (by decide) hlt46 (by decide) dX1_pass_59 ?_
                  refine lv_aload_n hx hb dX1_pass_60 rfl (lv_at hl 0 rfl) ?_
                  refine rn_geti C hw 4 (by decide) (hts _ (by decide +kernel)) rfl dX1_pass_61 ?_
                  refine lv_icmp_ne (tgt := 141) hx hb dX1_pass_64 (by decide) (fun c_64 => ?_) (fun c_64 => ?_)
                  · skip
                    refine lv_iinc (v := nI (i + 1)) (lv' := [(4, .int (nI (i + 1))), (0, .ref (a 0)), (1, .int (nI T)), (2, .int y2), (3, .int (nI t))]) hx hb dX1_pass_141 hl (k := 4) rfl (rm_inc i) (by decide) rfl (fun ls hl => ?_)
                    refine lv_goto (tgt := 46) hx hb dX1_pass_144 (by decide) ?_
                    exact ih46 (i + 1) (by omega) (y2) (τ46) (by refine Eq.trans ?_ ht46; first | with_reducible rfl | (simp only [rn_tickL, rn_len2, rn_len0, if_neg c_64, ↓reduceIte, Bool.false_eq_true]; done) | (simp only [rn_tickL, rn_len2, rn_len0, if_neg c_64, ↓reduceIte, Bool.false_eq_true]; rfl)) (by repeat (first | assumption | with_reducible apply rn_ok_m1 | with_reducible apply rn_ok_up | with_reducible apply rn_ok_ch | with_reducible apply rn_ok_hear | with_reducible apply rn_ok_resets | with_reducible apply rn_ok_tells | with_reducible apply rn_ok_len | with_reducible apply rn_ok_begins | decide)) _ _ hw _ (lv_sub hl [1, 2, 3, 4, 0] rfl)
                  · skip
                    refine lv_aload_n hx hb dX1_pass_67 rfl (lv_at hl 0 rfl) ?_
                    refine lv_iload hx hb dX1_pass_68 (lv_at hl 4 rfl) ?_
                    refine rn_callV C hw hA (As := [.int (nI i)]) (rest := []) (kX1_tells l k a ha τ46 i hlt46 (by repeat (first | assumption | with_reducible apply rn_ok_m1 | with_reducible apply rn_ok_up | with_reducible apply rn_ok_ch | with_reducible apply rn_ok_hear | with_reducible apply rn_ok_resets | with_reducible apply rn_ok_tells | with_reducible apply rn_ok_len | with_reducible apply rn_ok_begins | decide))) (cwV 1 hts gX1_pass_X1_tells rfl rfl rfl (by decide +kernel) ⟨Nat.le_of_ble_eq_true rfl, Nat.le_of_ble_eq_true rfl⟩) rfl hl.1 rfl (lv_room (Nat.le_of_ble_eq_true rfl)) dX1_pass_70 ⟨Nat.zero_le _, Nat.zero_le _⟩ (fun H locs hw => ?_)
                    refine lv_aload_n hx hb dX1_pass_73 rfl (lv_at hl 0 rfl) ?_
                    refine rn_geti C hw 2 (by decide) (hts _ (by decide +kernel)) rfl dX1_pass_74 ?_
                    refine lv_aload_n hx hb dX1_pass_77 rfl (lv_at hl 0 rfl) ?_
                    refine rn_geti C hw 3 (by decide) (hts _ (by decide +kernel)) rfl dX1_pass_78 ?_
                    refine lv_ishl hx hb dX1_pass_81 ?_
                    refine lv_istore (lv' := [(5, .int (((rn_tells τ46 i) 0 2) <<< (((rn_tells τ46 i) 0 3) &&& 31))), (0, .ref (a 0)), (1, .int (nI T)), (2, .int y2), (3, .int (nI t)), (4, .int (nI i))]) hx hb dX1_pass_82 hl (by decide) rfl (fun ls hl => ?_)
                    refine lv_aload_n hx hb dX1_pass_84 rfl (lv_at hl 1 rfl) ?_
                    refine rn_geta C hw 13 9 (by decide) rfl (hts _ (by decide +kernel)) rfl dX1_pass_85 ?_
                    refine lv_iload hx hb dX1_pass_88 (lv_at hl 5 rfl) ?_
                    refine lv_iconst (v := 2) hx hb dX1_pass_90 (by decide) ?_
                    refine lv_aload_n hx hb dX1_pass_91 rfl (lv_at hl 1 rfl) ?_
                    refine rn_geta C hw 13 9 (by decide) rfl (hts _ (by decide +kernel)) rfl dX1_pass_92 ?_
                    refine lv_iload hx hb dX1_pass_95 (lv_at hl 5 rfl) ?_
                    refine rn_iald C hw (N := 10) (by decide) hlt46 (by decide) dX1_pass_97 ?_
                    refine lv_imul hx hb dX1_pass_98 ?_
                    refine lv_iload hx hb dX1_pass_99 (lv_at hl 0 rfl) ?_
                    refine lv_icmp_le (tgt := 109) hx hb dX1_pass_101 (by decide) (fun c_101 => ?_) (fun c_101 => ?_)
                    · skip
                      refine lv_iconst (v := 2) hx hb dX1_pass_109 (by decide) ?_
                      refine lv_aload_n hx hb dX1_pass_110 rfl (lv_at hl 1 rfl) ?_
                      refine rn_geta C hw 13 9 (by decide) rfl (hts _ (by decide +kernel)) rfl dX1_pass_111 ?_
                      refine lv_iload hx hb dX1_pass_114 (lv_at hl 5 rfl) ?_
                      refine rn_iald C hw (N := 10) (by decide) hlt46 (by decide) dX1_pass_116 ?_
                      refine lv_imul hx hb dX1_pass_117 ?_
                      refine rn_iast C hw (N := 10) (by decide) hlt46 (by decide) dX1_pass_118 (fun H locs hw => ?_)
                      refine lv_aload_n hx hb dX1_pass_119 rfl (lv_at hl 1 rfl) ?_
                      refine rn_geta C hw 14 10 (by decide) rfl (hts _ (by decide +kernel)) rfl dX1_pass_120 ?_
                      refine lv_iload hx hb dX1_pass_123 (lv_at hl 5 rfl) ?_
                      refine lv_aload_n hx hb dX1_pass_125 rfl (lv_at hl 1 rfl) ?_
                      refine rn_geti C hw 4 (by decide) (hts _ (by decide +kernel)) rfl dX1_pass_126 ?_
                      refine lv_aload_n hx hb dX1_pass_129 rfl (lv_at hl 1 rfl) ?_
                      refine rn_geta C hw 13 9 (by decide) rfl (hts _ (by decide +kernel)) rfl dX1_pass_130 ?_
                      refine lv_iload hx hb dX1_pass_133 (lv_at hl 5 rfl) ?_
                      refine rn_iald C hw (N := 10) (by decide) hlt46 (by decide) dX1_pass_135 ?_
                      refine lv_iadd hx hb dX1_pass_136 ?_
                      refine rn_iast C hw (N := 10) (by decide) hlt46 (by decide) dX1_pass_137 (fun H locs hw => ?_)
                      refine lv_iinc (v := (y2) + 1) (lv' := [(2, .int ((y2) + 1)), (5, .int (((rn_tells τ46 i) 0 2) <<< (((rn_tells τ46 i) 0 3) &&& 31))), (0, .ref (a 0)), (1, .int (nI T)), (3, .int (nI t)), (4, .int (nI i))]) hx hb dX1_pass_138 hl (k := 3) rfl rfl (by decide) rfl (fun ls hl => ?_)
                      refine lv_iinc (v := nI (i + 1)) (lv' := [(4, .int (nI (i + 1))), (2, .int ((y2) + 1)), (5, .int (((rn_tells τ46 i) 0 2) <<< (((rn_tells τ46 i) 0 3) &&& 31))), (0, .ref (a 0)), (1, .int (nI T)), (3, .int (nI t))]) hx hb dX1_pass_141 hl (k := 5) rfl (rm_inc i) (by decide) rfl (fun ls hl => ?_)
                      refine lv_goto (tgt := 46) hx hb dX1_pass_144 (by decide) ?_
                      exact ih46 (i + 1) (by omega) ((y2) + 1) (rm_up (rm_up (rn_tells τ46 i) 9 i ((2) * ((rn_tells τ46 i) 9 i))) 10 i (((rm_up (rn_tells τ46 i) 9 i ((2) * ((rn_tells τ46 i) 9 i))) 0 4) + ((rm_up (rn_tells τ46 i) 9 i ((2) * ((rn_tells τ46 i) 9 i))) 9 i))) (by refine Eq.trans ?_ ht46; first | with_reducible rfl | (simp only [rn_tickL, rn_len2, rn_len0, if_pos c_64, if_pos (show 2 * rn_tells τ46 i 9 i ≤ rn_g (rn_tells τ46 i) from c_101), ↓reduceIte, Bool.false_eq_true]; done) | (simp only [rn_tickL, rn_len2, rn_len0, if_pos c_64, if_pos (show 2 * rn_tells τ46 i 9 i ≤ rn_g (rn_tells τ46 i) from c_101), ↓reduceIte, Bool.false_eq_true]; rfl)) (by repeat (first | assumption | with_reducible apply rn_ok_m1 | with_reducible apply rn_ok_up | with_reducible apply rn_ok_ch | with_reducible apply rn_ok_hear | with_reducible apply rn_ok_resets | with_reducible apply rn_ok_tells | with_reducible apply rn_ok_len | with_reducible apply rn_ok_begins | decide)) _ _ hw _ (lv_sub hl [3, 4, 1, 5, 0] rfl)
                    · skip
                      refine lv_iload hx hb dX1_pass_104 (lv_at hl 0 rfl) ?_
                      refine lv_goto (tgt := 118) hx hb dX1_pass_106 (by decide) ?_
                      refine rn_iast C hw (N := 10) (by decide) hlt46 (by decide) dX1_pass_118 (fun H locs hw => ?_)
                      refine lv_aload_n hx hb dX1_pass_119 rfl (lv_at hl 1 rfl) ?_
                      refine rn_geta C hw 14 10 (by decide) rfl (hts _ (by decide +kernel)) rfl dX1_pass_120 ?_
                      refine lv_iload hx hb dX1_pass_123 (lv_at hl 5 rfl) ?_
                      refine lv_aload_n hx hb dX1_pass_125 rfl (lv_at hl 1 rfl) ?_
                      refine rn_geti C hw 4 (by decide) (hts _ (by decide +kernel)) rfl dX1_pass_126 ?_
                      refine lv_aload_n hx hb dX1_pass_129 rfl (lv_at hl 1 rfl) ?_
                      refine rn_geta C hw 13 9 (by decide) rfl (hts _ (by decide +kernel)) rfl dX1_pass_130 ?_
                      refine lv_iload hx hb dX1_pass_133 (lv_at hl 5 rfl) ?_
                      refine rn_iald C hw (N := 10) (by decide) hlt46 (by decide) dX1_pass_135 ?_
                      refine lv_iadd hx hb dX1_pass_136 ?_
                      refine rn_iast C hw (N := 10) (by decide) hlt46 (by decide) dX1_pass_137 (fun H locs hw => ?_)
                      refine lv_iinc (v := (y2) + 1) (lv' := [(2, .int ((y2) + 1)), (5, .int (((rn_tells τ46 i) 0 2) <<< (((rn_tells τ46 i) 0 3) &&& 31))), (0, .ref (a 0)), (1, .int (nI T)), (3, .int (nI t)), (4, .int (nI i))]) hx hb dX1_pass_138 hl (k := 3) rfl rfl (by decide) rfl (fun ls hl => ?_)
                      refine lv_iinc (v := nI (i + 1)) (lv' := [(4, .int (nI (i + 1))), (2, .int ((y2) + 1)), (5, .int (((rn_tells τ46 i) 0 2) <<< (((rn_tells τ46 i) 0 3) &&& 31))), (0, .ref (a 0)), (1, .int (nI T)), (3, .int (nI t))]) hx hb dX1_pass_141 hl (k := 5) rfl (rm_inc i) (by decide) rfl (fun ls hl => ?_)
                      refine lv_goto (tgt := 46) hx hb dX1_pass_144 (by decide) ?_
                      exact ih46 (i + 1) (by omega) ((y2) + 1) (rm_up (rm_up (rn_tells τ46 i) 9 i (((rn_tells τ46 i) 0 2) <<< (((rn_tells τ46 i) 0 3) &&& 31))) 10 i (((rm_up (rn_tells τ46 i) 9 i (((rn_tells τ46 i) 0 2) <<< (((rn_tells τ46 i) 0 3) &&& 31))) 0 4) + ((rm_up (rn_tells τ46 i) 9 i (((rn_tells τ46 i) 0 2) <<< (((rn_tells τ46 i) 0 3) &&& 31))) 9 i))) (by refine Eq.trans ?_ ht46; first | with_reducible rfl | (simp only [rn_tickL, rn_len2, rn_len0, if_pos c_64, if_neg (show ¬ 2 * rn_tells τ46 i 9 i ≤ rn_g (rn_tells τ46 i) from c_101), ↓reduceIte, Bool.false_eq_true]; done) | (simp only [rn_tickL, rn_len2, rn_len0, if_pos c_64, if_neg (show ¬ 2 * rn_tells τ46 i 9 i ≤ rn_g (rn_tells τ46 i) from c_101), ↓reduceIte, Bool.false_eq_true]; rfl)) (by repeat (first | assumption | with_reducible apply rn_ok_m1 | with_reducible apply rn_ok_up | with_reducible apply rn_ok_ch | with_reducible apply rn_ok_hear | with_reducible apply rn_ok_resets | with_reducible apply rn_ok_tells | with_reducible apply rn_ok_len | with_reducible apply rn_ok_begins | decide)) _ _ hw _ (lv_sub hl [3, 4, 1, 5, 0] rfl)
            exact lp_46 10 0 (by omega) (x2) (rm_up τ28 0 4 ((τ28 0 4) + (1))) (by first | with_reducible rfl | (unfold rn_pass; with_reducible rfl) | (simp only [rn_pass, c_8, hTc, ↓reduceIte, Bool.false_eq_true]; done) | (simp only [rn_pass, c_8, hTc, ↓reduceIte, Bool.false_eq_true]; with_reducible rfl)) (by repeat (first | assumption | with_reducible apply rn_ok_m1 | with_reducible apply rn_ok_up | with_reducible apply rn_ok_ch | with_reducible apply rn_ok_hear | with_reducible apply rn_ok_resets | with_reducible apply rn_ok_tells | with_reducible apply rn_ok_len | with_reducible apply rn_ok_begins | decide)) _ _ hw _ (lv_sub hl [1, 2, 3, 4, 0] rfl)
      exact lp_28 T 0 (by omega) (0) (rm_up σ 0 20 0) (by first | with_reducible rfl | (unfold rn_pass; with_reducible rfl) | (simp only [rn_pass, c_8, hTc, ↓reduceIte, Bool.false_eq_true]; done) | (simp only [rn_pass, c_8, hTc, ↓reduceIte, Bool.false_eq_true]; with_reducible rfl)) (by repeat (first | assumption | with_reducible apply rn_ok_m1 | with_reducible apply rn_ok_up | with_reducible apply rn_ok_ch | with_reducible apply rn_ok_hear | with_reducible apply rn_ok_resets | with_reducible apply rn_ok_tells | with_reducible apply rn_ok_len | with_reducible apply rn_ok_begins | decide)) _ _ hw _ (lv_sub hl [2, 3, 1, 0] rfl)
    · exact absurd rfl c_19

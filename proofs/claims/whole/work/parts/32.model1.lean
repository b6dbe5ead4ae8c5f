set_option maxHeartbeats 4000000 in
set_option maxRecDepth 100000 in
theorem kX1_fails (l : Launch) (k : rm_K) (a : Nat → Nat) (ha : rn_inj a) (σ : rm_St) (v r0 : Int32) (h : (if v ≤ 0 then 0 else 1) = r0) : rn_MI l k a yX1_fails wsX1_fails ({ frames := 0, cells := 0, slots := 0, locals := 0 }) [.int v] σ r0 (rm_up σ 0 20 v) := by
  refine rn_enterI (cc := cX1_fails) (nL := 2) (ret := (some .boolean)) ha (by decide) rfl rfl (by decide +kernel) (Nat.le_of_ble_eq_true rfl) ?_
  intro p e s m args below meth c ls C hr hlocks hw hl
  have hx := C.1.1
  have hb := C.1.2.1
  have hts := C.1.2.2.2.2
  replace hl : lv_has ls 2 [(0, .ref (a 0)), (1, .int v)] := hl
  refine lv_aload_n hx hb dX1_fails_0 rfl (lv_at hl 0 rfl) ?_
  refine lv_iload_n hx hb dX1_fails_1 rfl (lv_at hl 1 rfl) ?_
  refine rn_puti C hw 20 (by decide) (hts _ (by decide +kernel)) rfl rfl rfl dX1_fails_2 (fun H locs hw => ?_)
  refine lv_iload_n hx hb dX1_fails_5 rfl (lv_at hl 1 rfl) ?_
  refine lv_if_le (tgt := 13) hx hb dX1_fails_6 (by decide) (fun c_6 => ?_) (fun c_6 => ?_)
  · refine lv_iconst (v := 0) hx hb dX1_fails_13 (by decide) ?_
    exact rn_zret C hr hlocks hw (by decide) dX1_fails_14 ⟨by rw [← h, if_pos c_6], rfl⟩
  · refine lv_iconst (v := 1) hx hb dX1_fails_9 (by decide) ?_
    refine lv_goto (tgt := 14) hx hb dX1_fails_10 (by decide) ?_
    exact rn_zret C hr hlocks hw (by decide) dX1_fails_14 ⟨by rw [← h, if_neg c_6], rfl⟩
set_option maxHeartbeats 4000000 in
set_option maxRecDepth 100000 in
theorem kX1_thrown (l : Launch) (k : rm_K) (a : Nat → Nat) (ha : rn_inj a) (σ : rm_St)   : rn_MI l k a yX1_thrown wsX1_thrown ({ frames := 0, cells := 0, slots := 0, locals := 0 }) [] σ (σ 0 20) σ := by
  refine rn_enterI (cc := cX1_thrown) (nL := 1) (ret := (some .int)) ha (by decide) rfl rfl (by decide +kernel) (Nat.le_of_ble_eq_true rfl) ?_
  intro p e s m args below meth c ls C hr hlocks hw hl
  have hx := C.1.1
  have hb := C.1.2.1
  have hts := C.1.2.2.2.2
  have hA : ∀ q, s.heap.size ≤ q → rn_A a s.heap.size q := fun q h => Or.inr h
  replace hl : lv_has ls 1 [(0, .ref (a 0))] := hl
  refine lv_aload_n hx hb dX1_thrown_0 rfl (lv_at hl 0 rfl) ?_
  refine rn_geti C hw 20 (by decide) (hts _ (by decide +kernel)) rfl dX1_thrown_1 ?_
  exact rn_iret C hr hlocks hw dX1_thrown_4 ⟨by first | with_reducible rfl | (simp only [↓reduceIte, Bool.false_eq_true]; done) | (simp only [↓reduceIte, Bool.false_eq_true]; rfl) | rfl, by first | with_reducible rfl | (simp only [↓reduceIte, Bool.false_eq_true]; done) | (simp only [↓reduceIte, Bool.false_eq_true]; rfl) | rfl⟩
set_option maxHeartbeats 4000000 in
set_option maxRecDepth 100000 in
theorem kX1_resets (l : Launch) (k : rm_K) (a : Nat → Nat) (ha : rn_inj a) (σ : rm_St) (n : Nat) (hn : n < 10) : rn_MV l k a yX1_resets wsX1_resets ({ frames := 0, cells := 0, slots := 0, locals := 0 }) [.int (nI n)] σ  (rn_resets σ n) := by
  refine rn_enterV (cc := cX1_resets) (nL := 2) (ret := none) ha (by decide) rfl rfl (by decide +kernel) (Nat.le_of_ble_eq_true rfl) ?_
  intro p e s m args below meth c ls C hr hlocks hw hl
  have hx := C.1.1
  have hb := C.1.2.1
  have hts := C.1.2.2.2.2
  have hA : ∀ q, s.heap.size ≤ q → rn_A a s.heap.size q := fun q h => Or.inr h
  replace hl : lv_has ls 2 [(0, .ref (a 0)), (1, .int (nI n))] := hl
  refine lv_aload_n hx hb dX1_resets_0 rfl (lv_at hl 0 rfl) ?_
  refine rn_geta C hw 13 9 (by decide) rfl (hts _ (by decide +kernel)) rfl dX1_resets_1 ?_
  refine lv_iload_n hx hb dX1_resets_4 rfl (lv_at hl 1 rfl) ?_
  refine lv_aload_n hx hb dX1_resets_5 rfl (lv_at hl 0 rfl) ?_
  refine rn_geti C hw 2 (by decide) (hts _ (by decide +kernel)) rfl dX1_resets_6 ?_
  refine rn_iast C hw (N := 10) (by decide) hn (by decide) dX1_resets_9 (fun H locs hw => ?_)
  refine lv_aload_n hx hb dX1_resets_10 rfl (lv_at hl 0 rfl) ?_
  refine rn_geta C hw 14 10 (by decide) rfl (hts _ (by decide +kernel)) rfl dX1_resets_11 ?_
  refine lv_iload_n hx hb dX1_resets_14 rfl (lv_at hl 1 rfl) ?_
  refine lv_aload_n hx hb dX1_resets_15 rfl (lv_at hl 0 rfl) ?_
  refine rn_geti C hw 4 (by decide) (hts _ (by decide +kernel)) rfl dX1_resets_16 ?_
  refine lv_aload_n hx hb dX1_resets_19 rfl (lv_at hl 0 rfl) ?_
  refine rn_geti C hw 2 (by decide) (hts _ (by decide +kernel)) rfl dX1_resets_20 ?_
  refine lv_iadd hx hb dX1_resets_23 ?_
  refine rn_iast C hw (N := 10) (by decide) hn (by decide) dX1_resets_24 (fun H locs hw => ?_)
  exact rn_vret C hr hlocks hw dX1_resets_25 (by first | with_reducible rfl | (simp only [↓reduceIte, Bool.false_eq_true]; done) | (simp only [↓reduceIte, Bool.false_eq_true]; rfl) | rfl)
set_option maxHeartbeats 4000000 in
set_option maxRecDepth 100000 in
theorem kX1_rankBy (l : Launch) (k : rm_K) (a : Nat → Nat) (ha : rn_inj a) (σ : rm_St) (n : Nat) (o : Nat) (hn : n < 10) (ho : o < 10) : rn_MI l k a yX1_rankBy wsX1_rankBy ({ frames := 0, cells := 0, slots := 0, locals := 0 }) [.int (nI n), .int (nI o)] σ (rn_rankBy σ n o) σ := by
  refine rn_enterI (cc := cX1_rankBy) (nL := 3) (ret := (some .int)) ha (by decide) rfl rfl (by decide +kernel) (Nat.le_of_ble_eq_true rfl) ?_
  intro p e s m args below meth c ls C hr hlocks hw hl
  have hx := C.1.1
  have hb := C.1.2.1
  have hts := C.1.2.2.2.2
  have hA : ∀ q, s.heap.size ≤ q → rn_A a s.heap.size q := fun q h => Or.inr h
  replace hl : lv_has ls 3 [(0, .ref (a 0)), (1, .int (nI n)), (2, .int (nI o))] := hl
  refine lv_aload_n hx hb dX1_rankBy_0 rfl (lv_at hl 0 rfl) ?_
  refine rn_geta C hw 17 13 (by decide) rfl (hts _ (by decide +kernel)) rfl dX1_rankBy_1 ?_
  refine lv_bipush (v := 10) hx hb dX1_rankBy_4 (by decide) ?_
  refine lv_iload_n hx hb dX1_rankBy_6 rfl (lv_at hl 1 rfl) ?_
  refine lv_imul hx hb dX1_rankBy_7 ?_
  rw [rn_mul]
  refine lv_iload_n hx hb dX1_rankBy_8 rfl (lv_at hl 2 rfl) ?_
  refine lv_iadd hx hb dX1_rankBy_9 ?_
  rw [nI_add]
  refine rn_iald C hw (N := 100) (by decide) (by omega) (by decide) dX1_rankBy_10 ?_
  refine lv_aload_n hx hb dX1_rankBy_11 rfl (lv_at hl 0 rfl) ?_
  refine rn_geta C hw 5 1 (by decide) rfl (hts _ (by decide +kernel)) rfl dX1_rankBy_12 ?_
  refine lv_bipush (v := 10) hx hb dX1_rankBy_15 (by decide) ?_
  refine lv_iload_n hx hb dX1_rankBy_17 rfl (lv_at hl 1 rfl) ?_
  refine lv_imul hx hb dX1_rankBy_18 ?_
  rw [rn_mul]
  refine lv_iload_n hx hb dX1_rankBy_19 rfl (lv_at hl 2 rfl) ?_
  refine lv_iadd hx hb dX1_rankBy_20 ?_
  rw [nI_add]
  refine rn_iald C hw (N := 100) (by decide) (by omega) (by decide) dX1_rankBy_21 ?_
  refine lv_iadd hx hb dX1_rankBy_22 ?_
  exact rn_iret C hr hlocks hw dX1_rankBy_23 ⟨by first | with_reducible rfl | (simp only [↓reduceIte, Bool.false_eq_true]; done) | (simp only [↓reduceIte, Bool.false_eq_true]; rfl) | rfl, by first | with_reducible rfl | (simp only [↓reduceIte, Bool.false_eq_true]; done) | (simp only [↓reduceIte, Bool.false_eq_true]; rfl) | rfl⟩
set_option maxHeartbeats 4000000 in
set_option maxRecDepth 100000 in
theorem kX1_isCandidate (l : Launch) (k : rm_K) (a : Nat → Nat) (ha : rn_inj a) (σ : rm_St) (n : Nat) (o : Nat) (hn : n < 10) (ho : o < 10) : rn_MI l k a yX1_isCandidate wsX1_isCandidate ({ frames := 1, cells := 0, slots := 0, locals := 22 }) [.int (nI n), .int (nI o)] σ (bI (rn_cand σ n o)) σ := by
  refine rn_enterI (cc := cX1_isCandidate) (nL := 8) (ret := (some .boolean)) ha (by decide) rfl rfl (by decide +kernel) (Nat.le_of_ble_eq_true rfl) ?_
  intro p e s m args below meth c ls C hr hlocks hw hl
  have hx := C.1.1
  have hb := C.1.2.1
  have hts := C.1.2.2.2.2
  have hA : ∀ q, s.heap.size ≤ q → rn_A a s.heap.size q := fun q h => Or.inr h
  replace hl : lv_has ls 8 [(0, .ref (a 0)), (1, .int (nI n)), (2, .int (nI o))] := hl
  refine lv_bipush (v := 10) hx hb dX1_isCandidate_0 (by decide) ?_
  refine lv_iload_n hx hb dX1_isCandidate_2 rfl (lv_at hl 1 rfl) ?_
  refine lv_imul hx hb dX1_isCandidate_3 ?_
  rw [rn_mul]
  refine lv_iload_n hx hb dX1_isCandidate_4 rfl (lv_at hl 2 rfl) ?_
  refine lv_iadd hx hb dX1_isCandidate_5 ?_
  rw [nI_add]
  refine lv_istore_n (lv' := [(3, .int (nI (10 * n + o))), (0, .ref (a 0)), (1, .int (nI n)), (2, .int (nI o))]) hx hb dX1_isCandidate_6 rfl hl (by decide) rfl (fun ls hl => ?_)
  refine lv_aload_n hx hb dX1_isCandidate_7 rfl (lv_at hl 1 rfl) ?_
  refine rn_geta C hw 17 13 (by decide) rfl (hts _ (by decide +kernel)) rfl dX1_isCandidate_8 ?_
  refine lv_iload_n hx hb dX1_isCandidate_11 rfl (lv_at hl 0 rfl) ?_
  refine rn_iald C hw (N := 100) (by decide) (by omega) (by decide) dX1_isCandidate_12 ?_
  refine lv_iconst (v := 0) hx hb dX1_isCandidate_13 (by decide) ?_
  refine lv_sipush (v := 9999) hx hb dX1_isCandidate_14 (by decide) ?_
  refine rn_callSI C hw (As := [.int (σ 13 (10 * n + o)), .int 0, .int 9999]) (rest := []) (kX1_isIn l (σ 13 (10 * n + o)) (0) (9999)) (va_cwS 3 hts gX1_isCandidate_X1_isIn rfl rfl rfl (by decide +kernel) ⟨Nat.le_of_ble_eq_true rfl, Nat.le_of_ble_eq_true rfl⟩) rfl hl.1 rfl (lv_room (Nat.le_of_ble_eq_true rfl)) dX1_isCandidate_17 ⟨Nat.zero_le _, Nat.zero_le _⟩ (fun H locs hw => ?_)
  refine rm_ifeq (tgt := 35) hx hb dX1_isCandidate_20 (by decide) (fun c_20 => ?_) (fun c_20 => ?_)
  · skip
    refine lv_iconst (v := 0) hx hb dX1_isCandidate_35 (by decide) ?_
    exact rn_zret C hr hlocks hw (by decide) dX1_isCandidate_36 ⟨by first | with_reducible rfl | (simp only [rn_cand, c_20, ↓reduceIte, Bool.false_eq_true]; done) | (simp only [rn_cand, c_20, ↓reduceIte, Bool.false_eq_true]; rfl) | rfl, by first | with_reducible rfl | (simp only [rn_cand, c_20, ↓reduceIte, Bool.false_eq_true]; done) | (simp only [rn_cand, c_20, ↓reduceIte, Bool.false_eq_true]; rfl) | rfl⟩
  · skip
    refine lv_aload_n hx hb dX1_isCandidate_23 rfl (lv_at hl 1 rfl) ?_
    refine lv_iload_n hx hb dX1_isCandidate_24 rfl (lv_at hl 2 rfl) ?_
    refine lv_iload_n hx hb dX1_isCandidate_25 rfl (lv_at hl 3 rfl) ?_
    refine rn_callI C hw hA (As := [.int (nI n), .int (nI o)]) (rest := []) (kX1_rankBy l k a ha σ n o hn ho) (cwV 2 hts gX1_isCandidate_X1_rankBy rfl rfl rfl (by decide +kernel) ⟨Nat.le_of_ble_eq_true rfl, Nat.le_of_ble_eq_true rfl⟩) rfl hl.1 rfl (lv_room (Nat.le_of_ble_eq_true rfl)) dX1_isCandidate_26 ⟨Nat.zero_le _, Nat.zero_le _⟩ (fun H locs hw => ?_)
    refine lv_sipush (v := 10000) hx hb dX1_isCandidate_29 (by decide) ?_
    refine lv_icmp_lt (tgt := 37) hx hb dX1_isCandidate_32 (by decide) (fun c_32 => ?_) (fun c_32 => ?_)
    · skip
      refine lv_aload_n hx hb dX1_isCandidate_37 rfl (lv_at hl 1 rfl) ?_
      refine rn_geta C hw 15 11 (by decide) rfl (hts _ (by decide +kernel)) rfl dX1_isCandidate_38 ?_
      refine lv_iload_n hx hb dX1_isCandidate_41 rfl (lv_at hl 0 rfl) ?_
      refine rn_iald C hw (N := 100) (by decide) (by omega) (by decide) dX1_isCandidate_42 ?_
      refine lv_aload_n hx hb dX1_isCandidate_43 rfl (lv_at hl 1 rfl) ?_
      refine rn_geta C hw 8 4 (by decide) rfl (hts _ (by decide +kernel)) rfl dX1_isCandidate_44 ?_
      refine lv_iload_n hx hb dX1_isCandidate_47 rfl (lv_at hl 2 rfl) ?_
      refine rn_iald C hw (N := 10) (by decide) hn (by decide) dX1_isCandidate_48 ?_
      refine lv_icmp_ne (tgt := 56) hx hb dX1_isCandidate_49 (by decide) (fun c_49 => ?_) (fun c_49 => ?_)
      · skip
        refine lv_iconst (v := 0) hx hb dX1_isCandidate_56 (by decide) ?_
        refine lv_istore (lv' := [(4, .int 0), (3, .int (nI (10 * n + o))), (0, .ref (a 0)), (1, .int (nI n)), (2, .int (nI o))]) hx hb dX1_isCandidate_57 hl (by decide) rfl (fun ls hl => ?_)
        refine lv_iload hx hb dX1_isCandidate_59 (lv_at hl 0 rfl) ?_
        refine lv_if_eq (tgt := 79) hx hb dX1_isCandidate_61 (by decide) (fun c_61 => ?_) (fun c_61 => ?_)
        · skip
          refine lv_iconst (v := 1) hx hb dX1_isCandidate_79 (by decide) ?_
          refine lv_goto (tgt := 84) hx hb dX1_isCandidate_80 (by decide) ?_
          refine lv_istore (lv' := [(5, .int 1), (4, .int 0), (3, .int (nI (10 * n + o))), (0, .ref (a 0)), (1, .int (nI n)), (2, .int (nI o))]) hx hb dX1_isCandidate_84 hl (by decide) rfl (fun ls hl => ?_)
          refine lv_bipush (v := 10) hx hb dX1_isCandidate_86 (by decide) ?_
          refine lv_iload_n hx hb dX1_isCandidate_88 rfl (lv_at hl 4 rfl) ?_
          refine lv_imul hx hb dX1_isCandidate_89 ?_
          rw [rn_mul]
          refine lv_istore (lv' := [(6, .int (nI (10 * n))), (5, .int 1), (4, .int 0), (3, .int (nI (10 * n + o))), (0, .ref (a 0)), (1, .int (nI n)), (2, .int (nI o))]) hx hb dX1_isCandidate_90 hl (by decide) rfl (fun ls hl => ?_)
          have lp_92 : ∀ (r i : Nat), i + r = 10 → ∀ (x5 : Bool), rn_candT σ n o false (rn_candL σ n o r i x5) = rn_cand σ n o → ∀ (H : Heap) (locs : List Loc), rn_Wd k a (rn_A a s.heap.size) s.heap s σ H locs → ∀ (ls : Array Slot), lv_has ls 8 [(0, .ref (a 0)), (1, .int (nI n)), (2, .int (nI o)), (3, .int (nI (10 * n + o))), (4, .int 0), (5, .int (bI (x5))), (6, .int (nI (10 * n + i)))] → W p l e (headSpec wsX1_isCandidate ({ frames := 1, cells := 0, slots := 0, locals := 22 })).room s m args below meth c H locs 0 0 (MQ below (va_Qi (fun (r : Int32) (τ : rm_St) => r = (bI (rn_cand σ n o)) ∧ τ = σ) (fun τ t => rn_P k a τ t) (rn_A a s.heap.size)) args s 0 0 (rn_A a s.heap.size)) (F0 m 92 ls []) := by
            intro r
            induction r with
            | zero =>
              intro i hi92 x5 ht92 H locs hw ls hl
              obtain rfl : 10 = i := by omega
              have hz92 : rn_candT σ n o false x5 = rn_cand σ n o := ht92
              refine lv_iload hx hb dX1_isCandidate_92 (lv_at hl 6 rfl) ?_
              refine lv_bipush (v := 10) hx hb dX1_isCandidate_94 (by decide) ?_
              refine lv_iload_n hx hb dX1_isCandidate_96 rfl (lv_at hl 1 rfl) ?_
              refine lv_imul hx hb dX1_isCandidate_97 ?_
              rw [rn_mul]
              refine lv_bipush (v := 10) hx hb dX1_isCandidate_98 (by decide) ?_
              refine lv_iadd hx hb dX1_isCandidate_100 ?_
              rw [rn_add10]
              refine lv_icmp_ge (tgt := 177) hx hb dX1_isCandidate_101 (by decide) (fun c_101 => ?_) (fun c_101 => ?_)
              · skip
                refine lv_iload hx hb dX1_isCandidate_177 (lv_at hl 4 rfl) ?_
                refine lv_if_eq (tgt := 256) hx hb dX1_isCandidate_179 (by decide) (fun c_179 => ?_) (fun c_179 => ?_)
                · skip
                  refine lv_iload hx hb dX1_isCandidate_256 (lv_at hl 5 rfl) ?_
                  exact rn_zret C hr hlocks hw (bI_nar _) dX1_isCandidate_258 ⟨by first | with_reducible rfl | exact hz92 | (rw [← hz92]; done) | (rw [← hz92]; exact bI_f.symm) | (simp only [rn_cand, c_20, if_pos c_32, if_neg c_49, ↓reduceIte, Bool.false_eq_true]; rw [← hz92]; done) | (rw [← hz92]; simp only [rn_candL, rn_candT, ↓reduceIte, Bool.false_eq_true]; done) | (rw [← hz92]; simp only [rn_candL, rn_candT, ↓reduceIte, Bool.false_eq_true]; with_reducible rfl) | (rw [← hz92]; simp only [rn_candL, rn_candT, ↓reduceIte, Bool.false_eq_true]; rfl) | (simp only [rn_cand, c_20, if_pos c_32, if_neg c_49, ↓reduceIte, Bool.false_eq_true]; done) | (simp only [rn_cand, c_20, if_pos c_32, if_neg c_49, ↓reduceIte, Bool.false_eq_true]; with_reducible rfl), by first | with_reducible rfl | exact hz92 | (rw [← hz92]; done) | (rw [← hz92]; exact bI_f.symm) | (simp only [rn_cand, c_20, if_pos c_32, if_neg c_49, ↓reduceIte, Bool.false_eq_true]; rw [← hz92]; done) | (rw [← hz92]; simp only [rn_candL, rn_candT, ↓reduceIte, Bool.false_eq_true]; done) | (rw [← hz92]; simp only [rn_candL, rn_candT, ↓reduceIte, Bool.false_eq_true]; with_reducible rfl) | (rw [← hz92]; simp only [rn_candL, rn_candT, ↓reduceIte, Bool.false_eq_true]; rfl) | (simp only [rn_cand, c_20, if_pos c_32, if_neg c_49, ↓reduceIte, Bool.false_eq_true]; done) | (simp only [rn_cand, c_20, if_pos c_32, if_neg c_49, ↓reduceIte, Bool.false_eq_true]; with_reducible rfl)⟩
                · exact absurd rfl c_179
              · exact absurd (nI_le (a := 10 * n + 10) (b := 10 * n + 10) (Nat.le_refl _) (by omega)) c_101
            | succ r ih92 =>
              intro i hi92 x5 ht92 H locs hw ls hl
              have hlt92 : i < 10 := by omega
              refine lv_iload hx hb dX1_isCandidate_92 (lv_at hl 6 rfl) ?_
              refine lv_bipush (v := 10) hx hb dX1_isCandidate_94 (by decide) ?_
              refine lv_iload_n hx hb dX1_isCandidate_96 rfl (lv_at hl 1 rfl) ?_
              refine lv_imul hx hb dX1_isCandidate_97 ?_
              rw [rn_mul]
              refine lv_bipush (v := 10) hx hb dX1_isCandidate_98 (by decide) ?_
              refine lv_iadd hx hb dX1_isCandidate_100 ?_
              rw [rn_add10]
              refine lv_icmp_ge (tgt := 177) hx hb dX1_isCandidate_101 (by decide) (fun c_101 => ?_) (fun c_101 => ?_)
              · exact absurd c_101 (nI_ge (a := 10 * n + i) (b := 10 * n + 10) (by omega) (by omega))
              · skip
                refine lv_aload_n hx hb dX1_isCandidate_104 rfl (lv_at hl 0 rfl) ?_
                refine rn_geta C hw 17 13 (by decide) rfl (hts _ (by decide +kernel)) rfl dX1_isCandidate_105 ?_
                refine lv_iload hx hb dX1_isCandidate_108 (lv_at hl 6 rfl) ?_
                refine rn_iald C hw (N := 100) (by decide) (by omega) (by decide) dX1_isCandidate_110 ?_
                refine lv_iconst (v := (-1)) hx hb dX1_isCandidate_111 (by decide) ?_
                refine lv_icmp_eq (tgt := 135) hx hb dX1_isCandidate_112 (by decide) (fun c_112 => ?_) (fun c_112 => ?_)
                · skip
                  refine lv_iconst (v := 0) hx hb dX1_isCandidate_135 (by decide) ?_
                  refine lv_istore (lv' := [(7, .int 0), (0, .ref (a 0)), (1, .int (nI n)), (2, .int (nI o)), (3, .int (nI (10 * n + o))), (4, .int 0), (5, .int (bI (x5))), (6, .int (nI (10 * n + i)))]) hx hb dX1_isCandidate_136 hl (by decide) rfl (fun ls hl => ?_)
                  refine lv_iload hx hb dX1_isCandidate_138 (lv_at hl 6 rfl) ?_
                  refine rm_ifeq (tgt := 168) hx hb dX1_isCandidate_140 (by decide) (fun c_140 => ?_) (fun c_140 => ?_)
                  · skip
                    refine lv_iconst (v := 0) hx hb dX1_isCandidate_168 (by decide) ?_
                    refine lv_istore (lv' := [(5, .int 0), (7, .int 0), (0, .ref (a 0)), (1, .int (nI n)), (2, .int (nI o)), (3, .int (nI (10 * n + o))), (4, .int 0), (6, .int (nI (10 * n + i)))]) hx hb dX1_isCandidate_169 hl (by decide) rfl (fun ls hl => ?_)
                    refine lv_iinc (v := nI (10 * n + (i + 1))) (lv' := [(6, .int (nI (10 * n + (i + 1)))), (5, .int 0), (7, .int 0), (0, .ref (a 0)), (1, .int (nI n)), (2, .int (nI o)), (3, .int (nI (10 * n + o))), (4, .int 0)]) hx hb dX1_isCandidate_171 hl (k := 7) rfl (rn_inc (10 * n) i) (by decide) rfl (fun ls hl => ?_)
                    refine lv_goto (tgt := 92) hx hb dX1_isCandidate_174 (by decide) ?_
                    exact ih92 (i + 1) (by omega) (false) (by refine Eq.trans ?_ ht92; first | with_reducible rfl | (simp only [rn_candL, rn_candT, if_pos c_112, c_140, ↓reduceIte, Bool.false_eq_true]; done) | (simp only [rn_candL, rn_candT, if_pos c_112, c_140, ↓reduceIte, Bool.false_eq_true]; with_reducible rfl)) _ _ hw _ (lv_sub hl [3, 4, 5, 6, 7, 1, 0] rfl)
                  · skip
                    refine lv_iload hx hb dX1_isCandidate_143 (lv_at hl 0 rfl) ?_
                    refine lv_if_eq (tgt := 164) hx hb dX1_isCandidate_145 (by decide) (fun c_145 => ?_) (fun c_145 => ?_)
                    · skip
                      refine lv_iconst (v := 1) hx hb dX1_isCandidate_164 (by decide) ?_
                      refine lv_goto (tgt := 169) hx hb dX1_isCandidate_165 (by decide) ?_
                      refine lv_istore (lv' := [(5, .int 1), (7, .int 0), (0, .ref (a 0)), (1, .int (nI n)), (2, .int (nI o)), (3, .int (nI (10 * n + o))), (4, .int 0), (6, .int (nI (10 * n + i)))]) hx hb dX1_isCandidate_169 hl (by decide) rfl (fun ls hl => ?_)
                      refine lv_iinc (v := nI (10 * n + (i + 1))) (lv' := [(6, .int (nI (10 * n + (i + 1)))), (5, .int 1), (7, .int 0), (0, .ref (a 0)), (1, .int (nI n)), (2, .int (nI o)), (3, .int (nI (10 * n + o))), (4, .int 0)]) hx hb dX1_isCandidate_171 hl (k := 7) rfl (rn_inc (10 * n) i) (by decide) rfl (fun ls hl => ?_)
                      refine lv_goto (tgt := 92) hx hb dX1_isCandidate_174 (by decide) ?_
                      exact ih92 (i + 1) (by omega) (true) (by refine Eq.trans ?_ ht92; first | with_reducible rfl | (simp only [rn_candL, rn_candT, if_pos c_112, c_140, ↓reduceIte, Bool.false_eq_true]; done) | (simp only [rn_candL, rn_candT, if_pos c_112, c_140, ↓reduceIte, Bool.false_eq_true]; with_reducible rfl)) _ _ hw _ (lv_sub hl [3, 4, 5, 6, 7, 1, 0] rfl)
                    · exact absurd rfl c_145
                · skip
                  refine lv_aload_n hx hb dX1_isCandidate_115 rfl (lv_at hl 0 rfl) ?_
                  refine rn_geta C hw 15 11 (by decide) rfl (hts _ (by decide +kernel)) rfl dX1_isCandidate_116 ?_
                  refine lv_iload hx hb dX1_isCandidate_119 (lv_at hl 6 rfl) ?_
                  refine rn_iald C hw (N := 100) (by decide) (by omega) (by decide) dX1_isCandidate_121 ?_
                  refine lv_aload_n hx hb dX1_isCandidate_122 rfl (lv_at hl 0 rfl) ?_
                  refine rn_geta C hw 15 11 (by decide) rfl (hts _ (by decide +kernel)) rfl dX1_isCandidate_123 ?_
                  refine lv_iload_n hx hb dX1_isCandidate_126 rfl (lv_at hl 3 rfl) ?_
                  refine rn_iald C hw (N := 100) (by decide) (by omega) (by decide) dX1_isCandidate_127 ?_
                  refine lv_icmp_ne (tgt := 135) hx hb dX1_isCandidate_128 (by decide) (fun c_128 => ?_) (fun c_128 => ?_)
                  · skip
                    refine lv_iconst (v := 0) hx hb dX1_isCandidate_135 (by decide) ?_
                    refine lv_istore (lv' := [(7, .int 0), (0, .ref (a 0)), (1, .int (nI n)), (2, .int (nI o)), (3, .int (nI (10 * n + o))), (4, .int 0), (5, .int (bI (x5))), (6, .int (nI (10 * n + i)))]) hx hb dX1_isCandidate_136 hl (by decide) rfl (fun ls hl => ?_)
                    refine lv_iload hx hb dX1_isCandidate_138 (lv_at hl 6 rfl) ?_
                    refine rm_ifeq (tgt := 168) hx hb dX1_isCandidate_140 (by decide) (fun c_140 => ?_) (fun c_140 => ?_)
                    · skip
                      refine lv_iconst (v := 0) hx hb dX1_isCandidate_168 (by decide) ?_
                      refine lv_istore (lv' := [(5, .int 0), (7, .int 0), (0, .ref (a 0)), (1, .int (nI n)), (2, .int (nI o)), (3, .int (nI (10 * n + o))), (4, .int 0), (6, .int (nI (10 * n + i)))]) hx hb dX1_isCandidate_169 hl (by decide) rfl (fun ls hl => ?_)
                      refine lv_iinc (v := nI (10 * n + (i + 1))) (lv' := [(6, .int (nI (10 * n + (i + 1)))), (5, .int 0), (7, .int 0), (0, .ref (a 0)), (1, .int (nI n)), (2, .int (nI o)), (3, .int (nI (10 * n + o))), (4, .int 0)]) hx hb dX1_isCandidate_171 hl (k := 7) rfl (rn_inc (10 * n) i) (by decide) rfl (fun ls hl => ?_)
                      refine lv_goto (tgt := 92) hx hb dX1_isCandidate_174 (by decide) ?_
                      exact ih92 (i + 1) (by omega) (false) (by refine Eq.trans ?_ ht92; first | with_reducible rfl | (simp only [rn_candL, rn_candT, if_neg c_112, if_neg c_128, c_140, ↓reduceIte, Bool.false_eq_true]; done) | (simp only [rn_candL, rn_candT, if_neg c_112, if_neg c_128, c_140, ↓reduceIte, Bool.false_eq_true]; with_reducible rfl)) _ _ hw _ (lv_sub hl [3, 4, 5, 6, 7, 1, 0] rfl)
                    · skip
                      refine lv_iload hx hb dX1_isCandidate_143 (lv_at hl 0 rfl) ?_
                      refine lv_if_eq (tgt := 164) hx hb dX1_isCandidate_145 (by decide) (fun c_145 => ?_) (fun c_145 => ?_)
                      · skip
                        refine lv_iconst (v := 1) hx hb dX1_isCandidate_164 (by decide) ?_
                        refine lv_goto (tgt := 169) hx hb dX1_isCandidate_165 (by decide) ?_
                        refine lv_istore (lv' := [(5, .int 1), (7, .int 0), (0, .ref (a 0)), (1, .int (nI n)), (2, .int (nI o)), (3, .int (nI (10 * n + o))), (4, .int 0), (6, .int (nI (10 * n + i)))]) hx hb dX1_isCandidate_169 hl (by decide) rfl (fun ls hl => ?_)
                        refine lv_iinc (v := nI (10 * n + (i + 1))) (lv' := [(6, .int (nI (10 * n + (i + 1)))), (5, .int 1), (7, .int 0), (0, .ref (a 0)), (1, .int (nI n)), (2, .int (nI o)), (3, .int (nI (10 * n + o))), (4, .int 0)]) hx hb dX1_isCandidate_171 hl (k := 7) rfl (rn_inc (10 * n) i) (by decide) rfl (fun ls hl => ?_)
                        refine lv_goto (tgt := 92) hx hb dX1_isCandidate_174 (by decide) ?_
                        exact ih92 (i + 1) (by omega) (true) (by refine Eq.trans ?_ ht92; first | with_reducible rfl | (simp only [rn_candL, rn_candT, if_neg c_112, if_neg c_128, c_140, ↓reduceIte, Bool.false_eq_true]; done) | (simp only [rn_candL, rn_candT, if_neg c_112, if_neg c_128, c_140, ↓reduceIte, Bool.false_eq_true]; with_reducible rfl)) _ _ hw _ (lv_sub hl [3, 4, 5, 6, 7, 1, 0] rfl)
                      · exact absurd rfl c_145
                  · skip
                    refine lv_iconst (v := 1) hx hb dX1_isCandidate_131 (by decide) ?_
                    refine lv_goto (tgt := 136) hx hb dX1_isCandidate_132 (by decide) ?_
                    refine lv_istore (lv' := [(7, .int 1), (0, .ref (a 0)), (1, .int (nI n)), (2, .int (nI o)), (3, .int (nI (10 * n + o))), (4, .int 0), (5, .int (bI (x5))), (6, .int (nI (10 * n + i)))]) hx hb dX1_isCandidate_136 hl (by decide) rfl (fun ls hl => ?_)
                    refine lv_iload hx hb dX1_isCandidate_138 (lv_at hl 6 rfl) ?_
                    refine rm_ifeq (tgt := 168) hx hb dX1_isCandidate_140 (by decide) (fun c_140 => ?_) (fun c_140 => ?_)
                    · skip
                      refine lv_iconst (v := 0) hx hb dX1_isCandidate_168 (by decide) ?_
                      refine lv_istore (lv' := [(5, .int 0), (7, .int 1), (0, .ref (a 0)), (1, .int (nI n)), (2, .int (nI o)), (3, .int (nI (10 * n + o))), (4, .int 0), (6, .int (nI (10 * n + i)))]) hx hb dX1_isCandidate_169 hl (by decide) rfl (fun ls hl => ?_)
                      refine lv_iinc (v := nI (10 * n + (i + 1))) (lv' := [(6, .int (nI (10 * n + (i + 1)))), (5, .int 0), (7, .int 1), (0, .ref (a 0)), (1, .int (nI n)), (2, .int (nI o)), (3, .int (nI (10 * n + o))), (4, .int 0)]) hx hb dX1_isCandidate_171 hl (k := 7) rfl (rn_inc (10 * n) i) (by decide) rfl (fun ls hl => ?_)
                      refine lv_goto (tgt := 92) hx hb dX1_isCandidate_174 (by decide) ?_
                      exact ih92 (i + 1) (by omega) (false) (by refine Eq.trans ?_ ht92; first | with_reducible rfl | (simp only [rn_candL, rn_candT, if_neg c_112, if_pos c_128, c_140, ↓reduceIte, Bool.false_eq_true]; done) | (simp only [rn_candL, rn_candT, if_neg c_112, if_pos c_128, c_140, ↓reduceIte, Bool.false_eq_true]; with_reducible rfl)) _ _ hw _ (lv_sub hl [3, 4, 5, 6, 7, 1, 0] rfl)
                    · skip
                      refine lv_iload hx hb dX1_isCandidate_143 (lv_at hl 0 rfl) ?_
                      refine lv_if_eq (tgt := 164) hx hb dX1_isCandidate_145 (by decide) (fun c_145 => ?_) (fun c_145 => ?_)
                      · exact absurd c_145 (by decide)
                      · skip
                        refine lv_aload_n hx hb dX1_isCandidate_148 rfl (lv_at hl 1 rfl) ?_
                        refine rn_geta C hw 16 12 (by decide) rfl (hts _ (by decide +kernel)) rfl dX1_isCandidate_149 ?_
                        refine lv_iload hx hb dX1_isCandidate_152 (lv_at hl 7 rfl) ?_
                        refine rn_iald C hw (N := 100) (by decide) (by omega) (by decide) dX1_isCandidate_154 ?_
                        refine lv_aload_n hx hb dX1_isCandidate_155 rfl (lv_at hl 1 rfl) ?_
                        refine rn_geta C hw 16 12 (by decide) rfl (hts _ (by decide +kernel)) rfl dX1_isCandidate_156 ?_
                        refine lv_iload_n hx hb dX1_isCandidate_159 rfl (lv_at hl 4 rfl) ?_
                        refine rn_iald C hw (N := 100) (by decide) (by omega) (by decide) dX1_isCandidate_160 ?_
                        refine lv_icmp_gt (tgt := 168) hx hb dX1_isCandidate_161 (by decide) (fun c_161 => ?_) (fun c_161 => ?_)
                        · skip
                          refine lv_iconst (v := 0) hx hb dX1_isCandidate_168 (by decide) ?_
                          refine lv_istore (lv' := [(5, .int 0), (7, .int 1), (0, .ref (a 0)), (1, .int (nI n)), (2, .int (nI o)), (3, .int (nI (10 * n + o))), (4, .int 0), (6, .int (nI (10 * n + i)))]) hx hb dX1_isCandidate_169 hl (by decide) rfl (fun ls hl => ?_)
                          refine lv_iinc (v := nI (10 * n + (i + 1))) (lv' := [(6, .int (nI (10 * n + (i + 1)))), (5, .int 0), (7, .int 1), (0, .ref (a 0)), (1, .int (nI n)), (2, .int (nI o)), (3, .int (nI (10 * n + o))), (4, .int 0)]) hx hb dX1_isCandidate_171 hl (k := 7) rfl (rn_inc (10 * n) i) (by decide) rfl (fun ls hl => ?_)
                          refine lv_goto (tgt := 92) hx hb dX1_isCandidate_174 (by decide) ?_
                          exact ih92 (i + 1) (by omega) (false) (by refine Eq.trans ?_ ht92; first | with_reducible rfl | (simp only [rn_candL, rn_candT, if_neg c_112, if_pos c_128, c_140, if_pos c_161, ↓reduceIte, Bool.false_eq_true]; done) | (simp only [rn_candL, rn_candT, if_neg c_112, if_pos c_128, c_140, if_pos c_161, ↓reduceIte, Bool.false_eq_true]; with_reducible rfl)) _ _ hw _ (lv_sub hl [3, 4, 5, 6, 7, 1, 0] rfl)
                        · skip
                          refine lv_iconst (v := 1) hx hb dX1_isCandidate_164 (by decide) ?_
                          refine lv_goto (tgt := 169) hx hb dX1_isCandidate_165 (by decide) ?_
                          refine lv_istore (lv' := [(5, .int 1), (7, .int 1), (0, .ref (a 0)), (1, .int (nI n)), (2, .int (nI o)), (3, .int (nI (10 * n + o))), (4, .int 0), (6, .int (nI (10 * n + i)))]) hx hb dX1_isCandidate_169 hl (by decide) rfl (fun ls hl => ?_)
                          refine lv_iinc (v := nI (10 * n + (i + 1))) (lv' := [(6, .int (nI (10 * n + (i + 1)))), (5, .int 1), (7, .int 1), (0, .ref (a 0)), (1, .int (nI n)), (2, .int (nI o)), (3, .int (nI (10 * n + o))), (4, .int 0)]) hx hb dX1_isCandidate_171 hl (k := 7) rfl (rn_inc (10 * n) i) (by decide) rfl (fun ls hl => ?_)
                          refine lv_goto (tgt := 92) hx hb dX1_isCandidate_174 (by decide) ?_
                          exact ih92 (i + 1) (by omega) (true) (by refine Eq.trans ?_ ht92; first | with_reducible rfl | (simp only [rn_candL, rn_candT, if_neg c_112, if_pos c_128, c_140, if_neg c_161, ↓reduceIte, Bool.false_eq_true]; done) | (simp only [rn_candL, rn_candT, if_neg c_112, if_pos c_128, c_140, if_neg c_161, ↓reduceIte, Bool.false_eq_true]; with_reducible rfl)) _ _ hw _ (lv_sub hl [3, 4, 5, 6, 7, 1, 0] rfl)
          exact lp_92 10 0 (by omega) (true) (by first | with_reducible rfl | (unfold rn_cand; with_reducible rfl) | (simp only [rn_cand, c_20, if_pos c_32, if_neg c_49, ↓reduceIte, Bool.false_eq_true]; done) | (simp only [rn_cand, c_20, if_pos c_32, if_neg c_49, ↓reduceIte, Bool.false_eq_true]; with_reducible rfl)) _ _ hw _ (lv_sub hl [4, 5, 6, 3, 2, 1, 0] rfl)
        · exact absurd rfl c_61
      · skip
        refine lv_iconst (v := 1) hx hb dX1_isCandidate_52 (by decide) ?_
        refine lv_goto (tgt := 57) hx hb dX1_isCandidate_53 (by decide) ?_
        refine lv_istore (lv' := [(4, .int 1), (3, .int (nI (10 * n + o))), (0, .ref (a 0)), (1, .int (nI n)), (2, .int (nI o))]) hx hb dX1_isCandidate_57 hl (by decide) rfl (fun ls hl => ?_)
        refine lv_iload hx hb dX1_isCandidate_59 (lv_at hl 0 rfl) ?_
        refine lv_if_eq (tgt := 79) hx hb dX1_isCandidate_61 (by decide) (fun c_61 => ?_) (fun c_61 => ?_)
        · exact absurd c_61 (by decide)
        · skip
          refine lv_aload_n hx hb dX1_isCandidate_64 rfl (lv_at hl 2 rfl) ?_
          refine rn_geta C hw 16 12 (by decide) rfl (hts _ (by decide +kernel)) rfl dX1_isCandidate_65 ?_
          refine lv_iload_n hx hb dX1_isCandidate_68 rfl (lv_at hl 1 rfl) ?_
          refine rn_iald C hw (N := 100) (by decide) (by omega) (by decide) dX1_isCandidate_69 ?_
          refine lv_aload_n hx hb dX1_isCandidate_70 rfl (lv_at hl 2 rfl) ?_
          refine rn_geta C hw 9 5 (by decide) rfl (hts _ (by decide +kernel)) rfl dX1_isCandidate_71 ?_
          refine lv_iload_n hx hb dX1_isCandidate_74 rfl (lv_at hl 3 rfl) ?_
          refine rn_iald C hw (N := 10) (by decide) hn (by decide) dX1_isCandidate_75 ?_
          refine lv_icmp_lt (tgt := 83) hx hb dX1_isCandidate_76 (by decide) (fun c_76 => ?_) (fun c_76 => ?_)
          · skip
            refine lv_iconst (v := 0) hx hb dX1_isCandidate_83 (by decide) ?_
            refine lv_istore (lv' := [(5, .int 0), (4, .int 1), (3, .int (nI (10 * n + o))), (0, .ref (a 0)), (1, .int (nI n)), (2, .int (nI o))]) hx hb dX1_isCandidate_84 hl (by decide) rfl (fun ls hl => ?_)
            refine lv_bipush (v := 10) hx hb dX1_isCandidate_86 (by decide) ?_
            refine lv_iload_n hx hb dX1_isCandidate_88 rfl (lv_at hl 4 rfl) ?_
            refine lv_imul hx hb dX1_isCandidate_89 ?_
            rw [rn_mul]
            refine lv_istore (lv' := [(6, .int (nI (10 * n))), (5, .int 0), (4, .int 1), (3, .int (nI (10 * n + o))), (0, .ref (a 0)), (1, .int (nI n)), (2, .int (nI o))]) hx hb dX1_isCandidate_90 hl (by decide) rfl (fun ls hl => ?_)
            have lp_92 : ∀ (r i : Nat), i + r = 10 → ∀ (x5 : Bool), rn_candT σ n o true (rn_candL σ n o r i x5) = rn_cand σ n o → ∀ (H : Heap) (locs : List Loc), rn_Wd k a (rn_A a s.heap.size) s.heap s σ H locs → ∀ (ls : Array Slot), lv_has ls 8 [(0, .ref (a 0)), (1, .int (nI n)), (2, .int (nI o)), (3, .int (nI (10 * n + o))), (4, .int 1), (5, .int (bI (x5))), (6, .int (nI (10 * n + i)))] → W p l e (headSpec wsX1_isCandidate ({ frames := 1, cells := 0, slots := 0, locals := 22 })).room s m args below meth c H locs 0 0 (MQ below (va_Qi (fun (r : Int32) (τ : rm_St) => r = (bI (rn_cand σ n o)) ∧ τ = σ) (fun τ t => rn_P k a τ t) (rn_A a s.heap.size)) args s 0 0 (rn_A a s.heap.size)) (F0 m 92 ls []) := by
              intro r
              induction r with
              | zero =>
                intro i hi92 x5 ht92 H locs hw ls hl
                obtain rfl : 10 = i := by omega
                have hz92 : rn_candT σ n o true x5 = rn_cand σ n o := ht92
                refine lv_iload hx hb dX1_isCandidate_92 (lv_at hl 6 rfl) ?_
                refine lv_bipush (v := 10) hx hb dX1_isCandidate_94 (by decide) ?_
                refine lv_iload_n hx hb dX1_isCandidate_96 rfl (lv_at hl 1 rfl) ?_
                refine lv_imul hx hb dX1_isCandidate_97 ?_
                rw [rn_mul]
                refine lv_bipush (v := 10) hx hb dX1_isCandidate_98 (by decide) ?_
                refine lv_iadd hx hb dX1_isCandidate_100 ?_
                rw [rn_add10]
                refine lv_icmp_ge (tgt := 177) hx hb dX1_isCandidate_101 (by decide) (fun c_101 => ?_) (fun c_101 => ?_)
                · skip
                  refine lv_iload hx hb dX1_isCandidate_177 (lv_at hl 4 rfl) ?_
                  refine lv_if_eq (tgt := 256) hx hb dX1_isCandidate_179 (by decide) (fun c_179 => ?_) (fun c_179 => ?_)
                  · exact absurd c_179 (by decide)
                  · skip
                    refine lv_aload_n hx hb dX1_isCandidate_182 rfl (lv_at hl 0 rfl) ?_
                    refine rn_geta C hw 16 12 (by decide) rfl (hts _ (by decide +kernel)) rfl dX1_isCandidate_183 ?_
                    refine lv_iload_n hx hb dX1_isCandidate_186 rfl (lv_at hl 3 rfl) ?_
                    refine rn_iald C hw (N := 100) (by decide) (by omega) (by decide) dX1_isCandidate_187 ?_
                    refine lv_aload_n hx hb dX1_isCandidate_188 rfl (lv_at hl 0 rfl) ?_
                    refine rn_geta C hw 9 5 (by decide) rfl (hts _ (by decide +kernel)) rfl dX1_isCandidate_189 ?_
                    refine lv_iload_n hx hb dX1_isCandidate_192 rfl (lv_at hl 1 rfl) ?_
                    refine rn_iald C hw (N := 10) (by decide) hn (by decide) dX1_isCandidate_193 ?_
                    refine lv_icmp_ne (tgt := 256) hx hb dX1_isCandidate_194 (by decide) (fun c_194 => ?_) (fun c_194 => ?_)
                    · skip
                      refine lv_iload hx hb dX1_isCandidate_256 (lv_at hl 5 rfl) ?_
                      exact rn_zret C hr hlocks hw (bI_nar _) dX1_isCandidate_258 ⟨by first | with_reducible rfl | exact hz92 | (rw [← hz92]; done) | (rw [← hz92]; exact bI_f.symm) | (simp only [rn_cand, c_20, if_pos c_32, if_pos c_49, if_pos c_76, if_neg c_194, ↓reduceIte, Bool.false_eq_true]; rw [← hz92]; done) | (rw [← hz92]; simp only [rn_candL, rn_candT, if_neg c_194, ↓reduceIte, Bool.false_eq_true]; done) | (rw [← hz92]; simp only [rn_candL, rn_candT, if_neg c_194, ↓reduceIte, Bool.false_eq_true]; with_reducible rfl) | (rw [← hz92]; simp only [rn_candL, rn_candT, if_neg c_194, ↓reduceIte, Bool.false_eq_true]; rfl) | (simp only [rn_cand, c_20, if_pos c_32, if_pos c_49, if_pos c_76, if_neg c_194, ↓reduceIte, Bool.false_eq_true]; done) | (simp only [rn_cand, c_20, if_pos c_32, if_pos c_49, if_pos c_76, if_neg c_194, ↓reduceIte, Bool.false_eq_true]; with_reducible rfl), by first | with_reducible rfl | exact hz92 | (rw [← hz92]; done) | (rw [← hz92]; exact bI_f.symm) | (simp only [rn_cand, c_20, if_pos c_32, if_pos c_49, if_pos c_76, if_neg c_194, ↓reduceIte, Bool.false_eq_true]; rw [← hz92]; done) | (rw [← hz92]; simp only [rn_candL, rn_candT, if_neg c_194, ↓reduceIte, Bool.false_eq_true]; done) | (rw [← hz92]; simp only [rn_candL, rn_candT, if_neg c_194, ↓reduceIte, Bool.false_eq_true]; with_reducible rfl) | (rw [← hz92]; simp only [rn_candL, rn_candT, if_neg c_194, ↓reduceIte, Bool.false_eq_true]; rfl) | (simp only [rn_cand, c_20, if_pos c_32, if_pos c_49, if_pos c_76, if_neg c_194, ↓reduceIte, Bool.false_eq_true]; done) | (simp only [rn_cand, c_20, if_pos c_32, if_pos c_49, if_pos c_76, if_neg c_194, ↓reduceIte, Bool.false_eq_true]; with_reducible rfl)⟩
                    · skip
                      refine lv_aload_n hx hb dX1_isCandidate_197 rfl (lv_at hl 0 rfl) ?_
                      refine rn_geta C hw 10 6 (by decide) rfl (hts _ (by decide +kernel)) rfl dX1_isCandidate_198 ?_
                      refine lv_iload_n hx hb dX1_isCandidate_201 rfl (lv_at hl 1 rfl) ?_
                      refine rn_iald C hw (N := 10) (by decide) hn (by decide) dX1_isCandidate_202 ?_
                      refine lv_sipush (v := 10000) hx hb dX1_isCandidate_203 (by decide) ?_
                      refine lv_icmp_ge (tgt := 256) hx hb dX1_isCandidate_206 (by decide) (fun c_206 => ?_) (fun c_206 => ?_)
                      · skip
                        refine lv_iload hx hb dX1_isCandidate_256 (lv_at hl 5 rfl) ?_
                        exact rn_zret C hr hlocks hw (bI_nar _) dX1_isCandidate_258 ⟨by first | with_reducible rfl | exact hz92 | (rw [← hz92]; done) | (rw [← hz92]; exact bI_f.symm) | (simp only [rn_cand, c_20, if_pos c_32, if_pos c_49, if_pos c_76, if_pos c_194, if_pos c_206, ↓reduceIte, Bool.false_eq_true]; rw [← hz92]; done) | (rw [← hz92]; simp only [rn_candL, rn_candT, if_pos c_194, if_pos c_206, ↓reduceIte, Bool.false_eq_true]; done) | (rw [← hz92]; simp only [rn_candL, rn_candT, if_pos c_194, if_pos c_206, ↓reduceIte, Bool.false_eq_true]; with_reducible rfl) | (rw [← hz92]; simp only [rn_candL, rn_candT, if_pos c_194, if_pos c_206, ↓reduceIte, Bool.false_eq_true]; rfl) | (simp only [rn_cand, c_20, if_pos c_32, if_pos c_49, if_pos c_76, if_pos c_194, if_pos c_206, ↓reduceIte, Bool.false_eq_true]; done) | (simp only [rn_cand, c_20, if_pos c_32, if_pos c_49, if_pos c_76, if_pos c_194, if_pos c_206, ↓reduceIte, Bool.false_eq_true]; with_reducible rfl), by first | with_reducible rfl | exact hz92 | (rw [← hz92]; done) | (rw [← hz92]; exact bI_f.symm) | (simp only [rn_cand, c_20, if_pos c_32, if_pos c_49, if_pos c_76, if_pos c_194, if_pos c_206, ↓reduceIte, Bool.false_eq_true]; rw [← hz92]; done) | (rw [← hz92]; simp only [rn_candL, rn_candT, if_pos c_194, if_pos c_206, ↓reduceIte, Bool.false_eq_true]; done) | (rw [← hz92]; simp only [rn_candL, rn_candT, if_pos c_194, if_pos c_206, ↓reduceIte, Bool.false_eq_true]; with_reducible rfl) | (rw [← hz92]; simp only [rn_candL, rn_candT, if_pos c_194, if_pos c_206, ↓reduceIte, Bool.false_eq_true]; rfl) | (simp only [rn_cand, c_20, if_pos c_32, if_pos c_49, if_pos c_76, if_pos c_194, if_pos c_206, ↓reduceIte, Bool.false_eq_true]; done) | (simp only [rn_cand, c_20, if_pos c_32, if_pos c_49, if_pos c_76, if_pos c_194, if_pos c_206, ↓reduceIte, Bool.false_eq_true]; with_reducible rfl)⟩
                      · skip
                        refine lv_iload hx hb dX1_isCandidate_209 (lv_at hl 5 rfl) ?_
                        refine rm_ifeq (tgt := 253) hx hb dX1_isCandidate_211 (by decide) (fun c_211 => ?_) (fun c_211 => ?_)
                        · skip
                          refine lv_iconst (v := 0) hx hb dX1_isCandidate_253 (by decide) ?_
                          refine lv_istore (lv' := [(5, .int 0), (0, .ref (a 0)), (1, .int (nI n)), (2, .int (nI o)), (3, .int (nI (10 * n + o))), (4, .int 1), (6, .int (nI (10 * n + 10)))]) hx hb dX1_isCandidate_254 hl (by decide) rfl (fun ls hl => ?_)
                          refine lv_iload hx hb dX1_isCandidate_256 (lv_at hl 0 rfl) ?_
                          exact rn_zret C hr hlocks hw (by decide) dX1_isCandidate_258 ⟨by first | with_reducible rfl | exact hz92 | (rw [← hz92]; done) | (rw [← hz92]; exact bI_f.symm) | (simp only [rn_cand, c_20, if_pos c_32, if_pos c_49, if_pos c_76, if_pos c_194, if_neg c_206, c_211, ↓reduceIte, Bool.false_eq_true]; rw [← hz92]; done) | (rw [← hz92]; simp only [rn_candL, rn_candT, if_pos c_194, if_neg c_206, c_211, ↓reduceIte, Bool.false_eq_true]; done) | (rw [← hz92]; simp only [rn_candL, rn_candT, if_pos c_194, if_neg c_206, c_211, ↓reduceIte, Bool.false_eq_true]; with_reducible rfl) | (rw [← hz92]; simp only [rn_candL, rn_candT, if_pos c_194, if_neg c_206, c_211, ↓reduceIte, Bool.false_eq_true]; rfl) | (simp only [rn_cand, c_20, if_pos c_32, if_pos c_49, if_pos c_76, if_pos c_194, if_neg c_206, c_211, ↓reduceIte, Bool.false_eq_true]; done) | (simp only [rn_cand, c_20, if_pos c_32, if_pos c_49, if_pos c_76, if_pos c_194, if_neg c_206, c_211, ↓reduceIte, Bool.false_eq_true]; with_reducible rfl), by first | with_reducible rfl | exact hz92 | (rw [← hz92]; done) | (rw [← hz92]; exact bI_f.symm) | (simp only [rn_cand, c_20, if_pos c_32, if_pos c_49, if_pos c_76, if_pos c_194, if_neg c_206, c_211, ↓reduceIte, Bool.false_eq_true]; rw [← hz92]; done) | (rw [← hz92]; simp only [rn_candL, rn_candT, if_pos c_194, if_neg c_206, c_211, ↓reduceIte, Bool.false_eq_true]; done) | (rw [← hz92]; simp only [rn_candL, rn_candT, if_pos c_194, if_neg c_206, c_211, ↓reduceIte, Bool.false_eq_true]; with_reducible rfl) | (rw [← hz92]; simp only [rn_candL, rn_candT, if_pos c_194, if_neg c_206, c_211, ↓reduceIte, Bool.false_eq_true]; rfl) | (simp only [rn_cand, c_20, if_pos c_32, if_pos c_49, if_pos c_76, if_pos c_194, if_neg c_206, c_211, ↓reduceIte, Bool.false_eq_true]; done) | (simp only [rn_cand, c_20, if_pos c_32, if_pos c_49, if_pos c_76, if_pos c_194, if_neg c_206, c_211, ↓reduceIte, Bool.false_eq_true]; with_reducible rfl)⟩
                        · skip
                          refine lv_aload_n hx hb dX1_isCandidate_214 rfl (lv_at hl 0 rfl) ?_
                          refine rn_geta C hw 17 13 (by decide) rfl (hts _ (by decide +kernel)) rfl dX1_isCandidate_215 ?_
                          refine lv_iload_n hx hb dX1_isCandidate_218 rfl (lv_at hl 3 rfl) ?_
                          refine rn_iald C hw (N := 100) (by decide) (by omega) (by decide) dX1_isCandidate_219 ?_
                          refine lv_aload_n hx hb dX1_isCandidate_220 rfl (lv_at hl 0 rfl) ?_
                          refine rn_geta C hw 10 6 (by decide) rfl (hts _ (by decide +kernel)) rfl dX1_isCandidate_221 ?_
                          refine lv_iload_n hx hb dX1_isCandidate_224 rfl (lv_at hl 1 rfl) ?_
                          refine rn_iald C hw (N := 10) (by decide) hn (by decide) dX1_isCandidate_225 ?_
                          refine lv_icmp_ge (tgt := 253) hx hb dX1_isCandidate_226 (by decide) (fun c_226 => ?_) (fun c_226 => ?_)
                          · skip
                            refine lv_iconst (v := 0) hx hb dX1_isCandidate_253 (by decide) ?_
                            refine lv_istore (lv' := [(5, .int 0), (0, .ref (a 0)), (1, .int (nI n)), (2, .int (nI o)), (3, .int (nI (10 * n + o))), (4, .int 1), (6, .int (nI (10 * n + 10)))]) hx hb dX1_isCandidate_254 hl (by decide) rfl (fun ls hl => ?_)
                            refine lv_iload hx hb dX1_isCandidate_256 (lv_at hl 0 rfl) ?_
                            exact rn_zret C hr hlocks hw (by decide) dX1_isCandidate_258 ⟨by first | with_reducible rfl | exact hz92 | (rw [← hz92]; done) | (rw [← hz92]; exact bI_f.symm) | (simp only [rn_cand, c_20, if_pos c_32, if_pos c_49, if_pos c_76, if_pos c_194, if_neg c_206, c_211, if_pos c_226, ↓reduceIte, Bool.false_eq_true]; rw [← hz92]; done) | (rw [← hz92]; simp only [rn_candL, rn_candT, if_pos c_194, if_neg c_206, c_211, if_pos c_226, ↓reduceIte, Bool.false_eq_true]; done) | (rw [← hz92]; simp only [rn_candL, rn_candT, if_pos c_194, if_neg c_206, c_211, if_pos c_226, ↓reduceIte, Bool.false_eq_true]; with_reducible rfl) | (rw [← hz92]; simp only [rn_candL, rn_candT, if_pos c_194, if_neg c_206, c_211, if_pos c_226, ↓reduceIte, Bool.false_eq_true]; rfl) | (simp only [rn_cand, c_20, if_pos c_32, if_pos c_49, if_pos c_76, if_pos c_194, if_neg c_206, c_211, if_pos c_226, ↓reduceIte, Bool.false_eq_true]; done) | (simp only [rn_cand, c_20, if_pos c_32, if_pos c_49, if_pos c_76, if_pos c_194, if_neg c_206, c_211, if_pos c_226, ↓reduceIte, Bool.false_eq_true]; with_reducible rfl), by first | with_reducible rfl | exact hz92 | (rw [← hz92]; done) | (rw [← hz92]; exact bI_f.symm) | (simp only [rn_cand, c_20, if_pos c_32, if_pos c_49, if_pos c_76, if_pos c_194, if_neg c_206, c_211, if_pos c_226, ↓reduceIte, Bool.false_eq_true]; rw [← hz92]; done) | (rw [← hz92]; simp only [rn_candL, rn_candT, if_pos c_194, if_neg c_206, c_211, if_pos c_226, ↓reduceIte, Bool.false_eq_true]; done) | (rw [← hz92]; simp only [rn_candL, rn_candT, if_pos c_194, if_neg c_206, c_211, if_pos c_226, ↓reduceIte, Bool.false_eq_true]; with_reducible rfl) | (rw [← hz92]; simp only [rn_candL, rn_candT, if_pos c_194, if_neg c_206, c_211, if_pos c_226, ↓reduceIte, Bool.false_eq_true]; rfl) | (simp only [rn_cand, c_20, if_pos c_32, if_pos c_49, if_pos c_76, if_pos c_194, if_neg c_206, c_211, if_pos c_226, ↓reduceIte, Bool.false_eq_true]; done) | (simp only [rn_cand, c_20, if_pos c_32, if_pos c_49, if_pos c_76, if_pos c_194, if_neg c_206, c_211, if_pos c_226, ↓reduceIte, Bool.false_eq_true]; with_reducible rfl)⟩
                          · skip
                            refine lv_aload_n hx hb dX1_isCandidate_229 rfl (lv_at hl 0 rfl) ?_
                            refine lv_iload_n hx hb dX1_isCandidate_230 rfl (lv_at hl 1 rfl) ?_
                            refine lv_iload_n hx hb dX1_isCandidate_231 rfl (lv_at hl 2 rfl) ?_
                            refine rn_callI C hw hA (As := [.int (nI n), .int (nI o)]) (rest := []) (kX1_rankBy l k a ha σ n o hn ho) (cwV 2 hts gX1_isCandidate_X1_rankBy rfl rfl rfl (by decide +kernel) ⟨Nat.le_of_ble_eq_true rfl, Nat.le_of_ble_eq_true rfl⟩) rfl hl.1 rfl (lv_room (Nat.le_of_ble_eq_true rfl)) dX1_isCandidate_232 ⟨Nat.zero_le _, Nat.zero_le _⟩ (fun H locs hw => ?_)
                            refine lv_aload_n hx hb dX1_isCandidate_235 rfl (lv_at hl 0 rfl) ?_
                            refine rn_geta C hw 12 8 (by decide) rfl (hts _ (by decide +kernel)) rfl dX1_isCandidate_236 ?_
                            refine lv_iload_n hx hb dX1_isCandidate_239 rfl (lv_at hl 1 rfl) ?_
                            refine rn_iald C hw (N := 10) (by decide) hn (by decide) dX1_isCandidate_240 ?_
                            refine lv_aload_n hx hb dX1_isCandidate_241 rfl (lv_at hl 0 rfl) ?_
                            refine rn_geti C hw 1 (by decide) (hts _ (by decide +kernel)) rfl dX1_isCandidate_242 ?_
                            refine lv_iadd hx hb dX1_isCandidate_245 ?_
                            refine lv_icmp_gt (tgt := 253) hx hb dX1_isCandidate_246 (by decide) (fun c_246 => ?_) (fun c_246 => ?_)
                            · skip
                              refine lv_iconst (v := 0) hx hb dX1_isCandidate_253 (by decide) ?_
                              refine lv_istore (lv' := [(5, .int 0), (0, .ref (a 0)), (1, .int (nI n)), (2, .int (nI o)), (3, .int (nI (10 * n + o))), (4, .int 1), (6, .int (nI (10 * n + 10)))]) hx hb dX1_isCandidate_254 hl (by decide) rfl (fun ls hl => ?_)
                              refine lv_iload hx hb dX1_isCandidate_256 (lv_at hl 0 rfl) ?_
                              exact rn_zret C hr hlocks hw (by decide) dX1_isCandidate_258 ⟨by first | with_reducible rfl | exact hz92 | (rw [← hz92]; done) | (rw [← hz92]; exact bI_f.symm) | (simp only [rn_cand, c_20, if_pos c_32, if_pos c_49, if_pos c_76, if_pos c_194, if_neg c_206, c_211, if_neg c_226, if_pos c_246, ↓reduceIte, Bool.false_eq_true]; rw [← hz92]; done) | (rw [← hz92]; simp only [rn_candL, rn_candT, if_pos c_194, if_neg c_206, c_211, if_neg c_226, if_pos c_246, ↓reduceIte, Bool.false_eq_true]; done) | (rw [← hz92]; simp only [rn_candL, rn_candT, if_pos c_194, if_neg c_206, c_211, if_neg c_226, if_pos c_246, ↓reduceIte, Bool.false_eq_true]; with_reducible rfl) | (rw [← hz92]; simp only [rn_candL, rn_candT, if_pos c_194, if_neg c_206, c_211, if_neg c_226, if_pos c_246, ↓reduceIte, Bool.false_eq_true]; rfl) | (simp only [rn_cand, c_20, if_pos c_32, if_pos c_49, if_pos c_76, if_pos c_194, if_neg c_206, c_211, if_neg c_226, if_pos c_246, ↓reduceIte, Bool.false_eq_true]; done) | (simp only [rn_cand, c_20, if_pos c_32, if_pos c_49, if_pos c_76, if_pos c_194, if_neg c_206, c_211, if_neg c_226, if_pos c_246, ↓reduceIte, Bool.false_eq_true]; with_reducible rfl), by first | with_reducible rfl | exact hz92 | (rw [← hz92]; done) | (rw [← hz92]; exact bI_f.symm) | (simp only [rn_cand, c_20, if_pos c_32, if_pos c_49, if_pos c_76, if_pos c_194, if_neg c_206, c_211, if_neg c_226, if_pos c_246, ↓reduceIte, Bool.false_eq_true]; rw [← hz92]; done) | (rw [← hz92]; simp only [rn_candL, rn_candT, if_pos c_194, if_neg c_206, c_211, if_neg c_226, if_pos c_246, ↓reduceIte, Bool.false_eq_true]; done) | (rw [← hz92]; simp only [rn_candL, rn_candT, if_pos c_194, if_neg c_206, c_211, if_neg c_226, if_pos c_246, ↓reduceIte, Bool.false_eq_true]; with_reducible rfl) | (rw [← hz92]; simp only [rn_candL, rn_candT, if_pos c_194, if_neg c_206, c_211, if_neg c_226, if_pos c_246, ↓reduceIte, Bool.false_eq_true]; rfl) | (simp only [rn_cand, c_20, if_pos c_32, if_pos c_49, if_pos c_76, if_pos c_194, if_neg c_206, c_211, if_neg c_226, if_pos c_246, ↓reduceIte, Bool.false_eq_true]; done) | (simp only [rn_cand, c_20, if_pos c_32, if_pos c_49, if_pos c_76, if_pos c_194, if_neg c_206, c_211, if_neg c_226, if_pos c_246, ↓reduceIte, Bool.false_eq_true]; with_reducible rfl)⟩
                            · skip
                              refine lv_iconst (v := 1) hx hb dX1_isCandidate_249 (by decide) ?_
                              refine lv_goto (tgt := 254) hx hb dX1_isCandidate_250 (by decide) ?_
                              refine lv_istore (lv' := [(5, .int 1), (0, .ref (a 0)), (1, .int (nI n)), (2, .int (nI o)), (3, .int (nI (10 * n + o))), (4, .int 1), (6, .int (nI (10 * n + 10)))]) hx hb dX1_isCandidate_254 hl (by decide) rfl (fun ls hl => ?_)
                              refine lv_iload hx hb dX1_isCandidate_256 (lv_at hl 0 rfl) ?_
                              exact rn_zret C hr hlocks hw (by decide) dX1_isCandidate_258 ⟨by first | with_reducible rfl | exact hz92 | (rw [← hz92]; done) | (rw [← hz92]; exact bI_f.symm) | (simp only [rn_cand, c_20, if_pos c_32, if_pos c_49, if_pos c_76, if_pos c_194, if_neg c_206, c_211, if_neg c_226, if_neg c_246, ↓reduceIte, Bool.false_eq_true]; rw [← hz92]; done) | (rw [← hz92]; simp only [rn_candL, rn_candT, if_pos c_194, if_neg c_206, c_211, if_neg c_226, if_neg c_246, ↓reduceIte, Bool.false_eq_true]; done) | (rw [← hz92]; simp only [rn_candL, rn_candT, if_pos c_194, if_neg c_206, c_211, if_neg c_226, if_neg c_246, ↓reduceIte, Bool.false_eq_true]; with_reducible rfl) | (rw [← hz92]; simp only [rn_candL, rn_candT, if_pos c_194, if_neg c_206, c_211, if_neg c_226, if_neg c_246, ↓reduceIte, Bool.false_eq_true]; rfl) | (simp only [rn_cand, c_20, if_pos c_32, if_pos c_49, if_pos c_76, if_pos c_194, if_neg c_206, c_211, if_neg c_226, if_neg c_246, ↓reduceIte, Bool.false_eq_true]; done) | (simp only [rn_cand, c_20, if_pos c_32, if_pos c_49, if_pos c_76, if_pos c_194, if_neg c_206, c_211, if_neg c_226, if_neg c_246, ↓reduceIte, Bool.false_eq_true]; with_reducible rfl), by first | with_reducible rfl | exact hz92 | (rw [← hz92]; done) | (rw [← hz92]; exact bI_f.symm) | (simp only [rn_cand, c_20, if_pos c_32, if_pos c_49, if_pos c_76, if_pos c_194, if_neg c_206, c_211, if_neg c_226, if_neg c_246, ↓reduceIte, Bool.false_eq_true]; rw [← hz92]; done) | (rw [← hz92]; simp only [rn_candL, rn_candT, if_pos c_194, if_neg c_206, c_211, if_neg c_226, if_neg c_246, ↓reduceIte, Bool.false_eq_true]; done) | (rw [← hz92]; simp only [rn_candL, rn_candT, if_pos c_194, if_neg c_206, c_211, if_neg c_226, if_neg c_246, ↓reduceIte, Bool.false_eq_true]; with_reducible rfl) | (rw [← hz92]; simp only [rn_candL, rn_candT, if_pos c_194, if_neg c_206, c_211, if_neg c_226, if_neg c_246, ↓reduceIte, Bool.false_eq_true]; rfl) | (simp only [rn_cand, c_20, if_pos c_32, if_pos c_49, if_pos c_76, if_pos c_194, if_neg c_206, c_211, if_neg c_226, if_neg c_246, ↓reduceIte, Bool.false_eq_true]; done) | (simp only [rn_cand, c_20, if_pos c_32, if_pos c_49, if_pos c_76, if_pos c_194, if_neg c_206, c_211, if_neg c_226, if_neg c_246, ↓reduceIte, Bool.false_eq_true]; with_reducible rfl)⟩
                · exact absurd (nI_le (a := 10 * n + 10) (b := 10 * n + 10) (Nat.le_refl _) (by omega)) c_101
              | succ r ih92 =>
                intro i hi92 x5 ht92 H locs hw ls hl
                have hlt92 : i < 10 := by omega
                refine lv_iload hx hb dX1_isCandidate_92 (lv_at hl 6 rfl) ?_
                refine lv_bipush (v := 10) hx hb dX1_isCandidate_94 (by decide) ?_
                refine lv_iload_n hx hb dX1_isCandidate_96 rfl (lv_at hl 1 rfl) ?_
                refine lv_imul hx hb dX1_isCandidate_97 ?_
                rw [rn_mul]
                refine lv_bipush (v := 10) hx hb dX1_isCandidate_98 (by decide) ?_
                refine lv_iadd hx hb dX1_isCandidate_100 ?_
                rw [rn_add10]
                refine lv_icmp_ge (tgt := 177) hx hb dX1_isCandidate_101 (by decide) (fun c_101 => ?_) (fun c_101 => ?_)
                · exact absurd c_101 (nI_ge (a := 10 * n + i) (b := 10 * n + 10) (by omega) (by omega))
                · skip
                  refine lv_aload_n hx hb dX1_isCandidate_104 rfl (lv_at hl 0 rfl) ?_
                  refine rn_geta C hw 17 13 (by decide) rfl (hts _ (by decide +kernel)) rfl dX1_isCandidate_105 ?_
                  refine lv_iload hx hb dX1_isCandidate_108 (lv_at hl 6 rfl) ?_
                  refine rn_iald C hw (N := 100) (by decide) (by omega) (by decide) dX1_isCandidate_110 ?_
                  refine lv_iconst (v := (-1)) hx hb dX1_isCandidate_111 (by decide) ?_
                  refine lv_icmp_eq (tgt := 135) hx hb dX1_isCandidate_112 (by decide) (fun c_112 => ?_) (fun c_112 => ?_)
                  · skip
                    refine lv_iconst (v := 0) hx hb dX1_isCandidate_135 (by decide) ?_
                    refine lv_istore (lv' := [(7, .int 0), (0, .ref (a 0)), (1, .int (nI n)), (2, .int (nI o)), (3, .int (nI (10 * n + o))), (4, .int 1), (5, .int (bI (x5))), (6, .int (nI (10 * n + i)))]) hx hb dX1_isCandidate_136 hl (by decide) rfl (fun ls hl => ?_)
                    refine lv_iload hx hb dX1_isCandidate_138 (lv_at hl 6 rfl) ?_
                    refine rm_ifeq (tgt := 168) hx hb dX1_isCandidate_140 (by decide) (fun c_140 => ?_) (fun c_140 => ?_)
                    · skip
                      refine lv_iconst (v := 0) hx hb dX1_isCandidate_168 (by decide) ?_
                      refine lv_istore (lv' := [(5, .int 0), (7, .int 0), (0, .ref (a 0)), (1, .int (nI n)), (2, .int (nI o)), (3, .int (nI (10 * n + o))), (4, .int 1), (6, .int (nI (10 * n + i)))]) hx hb dX1_isCandidate_169 hl (by decide) rfl (fun ls hl => ?_)
                      refine lv_iinc (v := nI (10 * n + (i + 1))) (lv' := [(6, .int (nI (10 * n + (i + 1)))), (5, .int 0), (7, .int 0), (0, .ref (a 0)), (1, .int (nI n)), (2, .int (nI o)), (3, .int (nI (10 * n + o))), (4, .int 1)]) hx hb dX1_isCandidate_171 hl (k := 7) rfl (rn_inc (10 * n) i) (by decide) rfl (fun ls hl => ?_)
                      refine lv_goto (tgt := 92) hx hb dX1_isCandidate_174 (by decide) ?_
                      exact ih92 (i + 1) (by omega) (false) (by refine Eq.trans ?_ ht92; first | with_reducible rfl | (simp only [rn_candL, rn_candT, if_pos c_112, c_140, ↓reduceIte, Bool.false_eq_true]; done) | (simp only [rn_candL, rn_candT, if_pos c_112, c_140, ↓reduceIte, Bool.false_eq_true]; with_reducible rfl)) _ _ hw _ (lv_sub hl [3, 4, 5, 6, 7, 1, 0] rfl)
                    · skip
                      refine lv_iload hx hb dX1_isCandidate_143 (lv_at hl 0 rfl) ?_
                      refine lv_if_eq (tgt := 164) hx hb dX1_isCandidate_145 (by decide) (fun c_145 => ?_) (fun c_145 => ?_)
                      · skip
                        refine lv_iconst (v := 1) hx hb dX1_isCandidate_164 (by decide) ?_
                        refine lv_goto (tgt := 169) hx hb dX1_isCandidate_165 (by decide) ?_
                        refine lv_istore (lv' := [(5, .int 1), (7, .int 0), (0, .ref (a 0)), (1, .int (nI n)), (2, .int (nI o)), (3, .int (nI (10 * n + o))), (4, .int 1), (6, .int (nI (10 * n + i)))]) hx hb dX1_isCandidate_169 hl (by decide) rfl (fun ls hl => ?_)
                        refine lv_iinc (v := nI (10 * n + (i + 1))) (lv' := [(6, .int (nI (10 * n + (i + 1)))), (5, .int 1), (7, .int 0), (0, .ref (a 0)), (1, .int (nI n)), (2, .int (nI o)), (3, .int (nI (10 * n + o))), (4, .int 1)]) hx hb dX1_isCandidate_171 hl (k := 7) rfl (rn_inc (10 * n) i) (by decide) rfl (fun ls hl => ?_)
                        refine lv_goto (tgt := 92) hx hb dX1_isCandidate_174 (by decide) ?_
                        exact ih92 (i + 1) (by omega) (true) (by refine Eq.trans ?_ ht92; first | with_reducible rfl | (simp only [rn_candL, rn_candT, if_pos c_112, c_140, ↓reduceIte, Bool.false_eq_true]; done) | (simp only [rn_candL, rn_candT, if_pos c_112, c_140, ↓reduceIte, Bool.false_eq_true]; with_reducible rfl)) _ _ hw _ (lv_sub hl [3, 4, 5, 6, 7, 1, 0] rfl)
                      · exact absurd rfl c_145
                  · skip
                    refine lv_aload_n hx hb dX1_isCandidate_115 rfl (lv_at hl 0 rfl) ?_
                    refine rn_geta C hw 15 11 (by decide) rfl (hts _ (by decide +kernel)) rfl dX1_isCandidate_116 ?_
                    refine lv_iload hx hb dX1_isCandidate_119 (lv_at hl 6 rfl) ?_
                    refine rn_iald C hw (N := 100) (by decide) (by omega) (by decide) dX1_isCandidate_121 ?_
                    refine lv_aload_n hx hb dX1_isCandidate_122 rfl (lv_at hl 0 rfl) ?_
                    refine rn_geta C hw 15 11 (by decide) rfl (hts _ (by decide +kernel)) rfl dX1_isCandidate_123 ?_
                    refine lv_iload_n hx hb dX1_isCandidate_126 rfl (lv_at hl 3 rfl) ?_
                    refine rn_iald C hw (N := 100) (by decide) (by omega) (by decide) dX1_isCandidate_127 ?_
                    refine lv_icmp_ne (tgt := 135) hx hb dX1_isCandidate_128 (by decide) (fun c_128 => ?_) (fun c_128 => ?_)
                    · skip
                      refine lv_iconst (v := 0) hx hb dX1_isCandidate_135 (by decide) ?_
                      refine lv_istore (lv' := [(7, .int 0), (0, .ref (a 0)), (1, .int (nI n)), (2, .int (nI o)), (3, .int (nI (10 * n + o))), (4, .int 1), (5, .int (bI (x5))), (6, .int (nI (10 * n + i)))]) hx hb dX1_isCandidate_136 hl (by decide) rfl (fun ls hl => ?_)
                      refine lv_iload hx hb dX1_isCandidate_138 (lv_at hl 6 rfl) ?_
                      refine rm_ifeq (tgt := 168) hx hb dX1_isCandidate_140 (by decide) (fun c_140 => ?_) (fun c_140 => ?_)
                      · skip
                        refine lv_iconst (v := 0) hx hb dX1_isCandidate_168 (by decide) ?_
                        refine lv_istore (lv' := [(5, .int 0), (7, .int 0), (0, .ref (a 0)), (1, .int (nI n)), (2, .int (nI o)), (3, .int (nI (10 * n + o))), (4, .int 1), (6, .int (nI (10 * n + i)))]) hx hb dX1_isCandidate_169 hl (by decide) rfl (fun ls hl => ?_)
                        refine lv_iinc (v := nI (10 * n + (i + 1))) (lv' := [(6, .int (nI (10 * n + (i + 1)))), (5, .int 0), (7, .int 0), (0, .ref (a 0)), (1, .int (nI n)), (2, .int (nI o)), (3, .int (nI (10 * n + o))), (4, .int 1)]) hx hb dX1_isCandidate_171 hl (k := 7) rfl (rn_inc (10 * n) i) (by decide) rfl (fun ls hl => ?_)
                        refine lv_goto (tgt := 92) hx hb dX1_isCandidate_174 (by decide) ?_
                        exact ih92 (i + 1) (by omega) (false) (by refine Eq.trans ?_ ht92; first | with_reducible rfl | (simp only [rn_candL, rn_candT, if_neg c_112, if_neg c_128, c_140, ↓reduceIte, Bool.false_eq_true]; done) | (simp only [rn_candL, rn_candT, if_neg c_112, if_neg c_128, c_140, ↓reduceIte, Bool.false_eq_true]; with_reducible rfl)) _ _ hw _ (lv_sub hl [3, 4, 5, 6, 7, 1, 0] rfl)
                      · skip
                        refine lv_iload hx hb dX1_isCandidate_143 (lv_at hl 0 rfl) ?_
                        refine lv_if_eq (tgt := 164) hx hb dX1_isCandidate_145 (by decide) (fun c_145 => ?_) (fun c_145 => ?_)
                        · skip
                          refine lv_iconst (v := 1) hx hb dX1_isCandidate_164 (by decide) ?_
                          refine lv_goto (tgt := 169) hx hb dX1_isCandidate_165 (by decide) ?_
                          refine lv_istore (lv' := [(5, .int 1), (7, .int 0), (0, .ref (a 0)), (1, .int (nI n)), (2, .int (nI o)), (3, .int (nI (10 * n + o))), (4, .int 1), (6, .int (nI (10 * n + i)))]) hx hb dX1_isCandidate_169 hl (by decide) rfl (fun ls hl => ?_)
                          refine lv_iinc (v := nI (10 * n + (i + 1))) (lv' := [(6, .int (nI (10 * n + (i + 1)))), (5, .int 1), (7, .int 0), (0, .ref (a 0)), (1, .int (nI n)), (2, .int (nI o)), (3, .int (nI (10 * n + o))), (4, .int 1)]) hx hb dX1_isCandidate_171 hl (k := 7) rfl (rn_inc (10 * n) i) (by decide) rfl (fun ls hl => ?_)
                          refine lv_goto (tgt := 92) hx hb dX1_isCandidate_174 (by decide) ?_
                          exact ih92 (i + 1) (by omega) (true) (by refine Eq.trans ?_ ht92; first | with_reducible rfl | (simp only [rn_candL, rn_candT, if_neg c_112, if_neg c_128, c_140, ↓reduceIte, Bool.false_eq_true]; done) | (simp only [rn_candL, rn_candT, if_neg c_112, if_neg c_128, c_140, ↓reduceIte, Bool.false_eq_true]; with_reducible rfl)) _ _ hw _ (lv_sub hl [3, 4, 5, 6, 7, 1, 0] rfl)
                        · exact absurd rfl c_145
                    · skip
                      refine lv_iconst (v := 1) hx hb dX1_isCandidate_131 (by decide) ?_
                      refine lv_goto (tgt := 136) hx hb dX1_isCandidate_132 (by decide) ?_
                      refine lv_istore (lv' := [(7, .int 1), (0, .ref (a 0)), (1, .int (nI n)), (2, .int (nI o)), (3, .int (nI (10 * n + o))), (4, .int 1), (5, .int (bI (x5))), (6, .int (nI (10 * n + i)))]) hx hb dX1_isCandidate_136 hl (by decide) rfl (fun ls hl => ?_)
                      refine lv_iload hx hb dX1_isCandidate_138 (lv_at hl 6 rfl) ?_
                      refine rm_ifeq (tgt := 168) hx hb dX1_isCandidate_140 (by decide) (fun c_140 => ?_) (fun c_140 => ?_)
                      · skip
                        refine lv_iconst (v := 0) hx hb dX1_isCandidate_168 (by decide) ?_
                        refine lv_istore (lv' := [(5, .int 0), (7, .int 1), (0, .ref (a 0)), (1, .int (nI n)), (2, .int (nI o)), (3, .int (nI (10 * n + o))), (4, .int 1), (6, .int (nI (10 * n + i)))]) hx hb dX1_isCandidate_169 hl (by decide) rfl (fun ls hl => ?_)
                        refine lv_iinc (v := nI (10 * n + (i + 1))) (lv' := [(6, .int (nI (10 * n + (i + 1)))), (5, .int 0), (7, .int 1), (0, .ref (a 0)), (1, .int (nI n)), (2, .int (nI o)), (3, .int (nI (10 * n + o))), (4, .int 1)]) hx hb dX1_isCandidate_171 hl (k := 7) rfl (rn_inc (10 * n) i) (by decide) rfl (fun ls hl => ?_)
                        refine lv_goto (tgt := 92) hx hb dX1_isCandidate_174 (by decide) ?_
                        exact ih92 (i + 1) (by omega) (false) (by refine Eq.trans ?_ ht92; first | with_reducible rfl | (simp only [rn_candL, rn_candT, if_neg c_112, if_pos c_128, c_140, ↓reduceIte, Bool.false_eq_true]; done) | (simp only [rn_candL, rn_candT, if_neg c_112, if_pos c_128, c_140, ↓reduceIte, Bool.false_eq_true]; with_reducible rfl)) _ _ hw _ (lv_sub hl [3, 4, 5, 6, 7, 1, 0] rfl)
                      · skip
                        refine lv_iload hx hb dX1_isCandidate_143 (lv_at hl 0 rfl) ?_
                        refine lv_if_eq (tgt := 164) hx hb dX1_isCandidate_145 (by decide) (fun c_145 => ?_) (fun c_145 => ?_)
                        · exact absurd c_145 (by decide)
                        · skip
                          refine lv_aload_n hx hb dX1_isCandidate_148 rfl (lv_at hl 1 rfl) ?_
                          refine rn_geta C hw 16 12 (by decide) rfl (hts _ (by decide +kernel)) rfl dX1_isCandidate_149 ?_
                          refine lv_iload hx hb dX1_isCandidate_152 (lv_at hl 7 rfl) ?_
                          refine rn_iald C hw (N := 100) (by decide) (by omega) (by decide) dX1_isCandidate_154 ?_
                          refine lv_aload_n hx hb dX1_isCandidate_155 rfl (lv_at hl 1 rfl) ?_
                          refine rn_geta C hw 16 12 (by decide) rfl (hts _ (by decide +kernel)) rfl dX1_isCandidate_156 ?_
                          refine lv_iload_n hx hb dX1_isCandidate_159 rfl (lv_at hl 4 rfl) ?_
                          refine rn_iald C hw (N := 100) (by decide) (by omega) (by decide) dX1_isCandidate_160 ?_
                          refine lv_icmp_gt (tgt := 168) hx hb dX1_isCandidate_161 (by decide) (fun c_161 => ?_) (fun c_161 => ?_)
                          · skip
                            refine lv_iconst (v := 0) hx hb dX1_isCandidate_168 (by decide) ?_
                            refine lv_istore (lv' := [(5, .int 0), (7, .int 1), (0, .ref (a 0)), (1, .int (nI n)), (2, .int (nI o)), (3, .int (nI (10 * n + o))), (4, .int 1), (6, .int (nI (10 * n + i)))]) hx hb dX1_isCandidate_169 hl (by decide) rfl (fun ls hl => ?_)
                            refine lv_iinc (v := nI (10 * n + (i + 1))) (lv' := [(6, .int (nI (10 * n + (i + 1)))), (5, .int 0), (7, .int 1), (0, .ref (a 0)), (1, .int (nI n)), (2, .int (nI o)), (3, .int (nI (10 * n + o))), (4, .int 1)]) hx hb dX1_isCandidate_171 hl (k := 7) rfl (rn_inc (10 * n) i) (by decide) rfl (fun ls hl => ?_)
                            refine lv_goto (tgt := 92) hx hb dX1_isCandidate_174 (by decide) ?_
                            exact ih92 (i + 1) (by omega) (false) (by refine Eq.trans ?_ ht92; first | with_reducible rfl | (simp only [rn_candL, rn_candT, if_neg c_112, if_pos c_128, c_140, if_pos c_161, ↓reduceIte, Bool.false_eq_true]; done) | (simp only [rn_candL, rn_candT, if_neg c_112, if_pos c_128, c_140, if_pos c_161, ↓reduceIte, Bool.false_eq_true]; with_reducible rfl)) _ _ hw _ (lv_sub hl [3, 4, 5, 6, 7, 1, 0] rfl)
                          · skip
                            refine lv_iconst (v := 1) hx hb dX1_isCandidate_164 (by decide) ?_
                            refine lv_goto (tgt := 169) hx hb dX1_isCandidate_165 (by decide) ?_
                            refine lv_istore (lv' := [(5, .int 1), (7, .int 1), (0, .ref (a 0)), (1, .int (nI n)), (2, .int (nI o)), (3, .int (nI (10 * n + o))), (4, .int 1), (6, .int (nI (10 * n + i)))]) hx hb dX1_isCandidate_169 hl (by decide) rfl (fun ls hl => ?_)
                            refine lv_iinc (v := nI (10 * n + (i + 1))) (lv' := [(6, .int (nI (10 * n + (i + 1)))), (5, .int 1), (7, .int 1), (0, .ref (a 0)), (1, .int (nI n)), (2, .int (nI o)), (3, .int (nI (10 * n + o))), (4, .int 1)]) hx hb dX1_isCandidate_171 hl (k := 7) rfl (rn_inc (10 * n) i) (by decide) rfl (fun ls hl => ?_)
                            refine lv_goto (tgt := 92) hx hb dX1_isCandidate_174 (by decide) ?_
                            exact ih92 (i + 1) (by omega) (true) (by refine Eq.trans ?_ ht92; first | with_reducible rfl | (simp only [rn_candL, rn_candT, if_neg c_112, if_pos c_128, c_140, if_neg c_161, ↓reduceIte, Bool.false_eq_true]; done) | (simp only [rn_candL, rn_candT, if_neg c_112, if_pos c_128, c_140, if_neg c_161, ↓reduceIte, Bool.false_eq_true]; with_reducible rfl)) _ _ hw _ (lv_sub hl [3, 4, 5, 6, 7, 1, 0] rfl)
            exact lp_92 10 0 (by omega) (false) (by first | with_reducible rfl | (unfold rn_cand; with_reducible rfl) | (simp only [rn_cand, c_20, if_pos c_32, if_pos c_49, if_pos c_76, ↓reduceIte, Bool.false_eq_true]; done) | (simp only [rn_cand, c_20, if_pos c_32, if_pos c_49, if_pos c_76, ↓reduceIte, Bool.false_eq_true]; with_reducible rfl)) _ _ hw _ (lv_sub hl [4, 5, 6, 3, 2, 1, 0] rfl)
          · skip
            refine lv_iconst (v := 1) hx hb dX1_isCandidate_79 (by decide) ?_
            refine lv_goto (tgt := 84) hx hb dX1_isCandidate_80 (by decide) ?_
            refine lv_istore (lv' := [(5, .int 1), (4, .int 1), (3, .int (nI (10 * n + o))), (0, .ref (a 0)), (1, .int (nI n)), (2, .int (nI o))]) hx hb dX1_isCandidate_84 hl (by decide) rfl (fun ls hl => ?_)
            refine lv_bipush (v := 10) hx hb dX1_isCandidate_86 (by decide) ?_
            refine lv_iload_n hx hb dX1_isCandidate_88 rfl (lv_at hl 4 rfl) ?_
            refine lv_imul hx hb dX1_isCandidate_89 ?_
            rw [rn_mul]
            refine lv_istore (lv' := [(6, .int (nI (10 * n))), (5, .int 1), (4, .int 1), (3, .int (nI (10 * n + o))), (0, .ref (a 0)), (1, .int (nI n)), (2, .int (nI o))]) hx hb dX1_isCandidate_90 hl (by decide) rfl (fun ls hl => ?_)
            have lp_92 : ∀ (r i : Nat), i + r = 10 → ∀ (x5 : Bool), rn_candT σ n o true (rn_candL σ n o r i x5) = rn_cand σ n o → ∀ (H : Heap) (locs : List Loc), rn_Wd k a (rn_A a s.heap.size) s.heap s σ H locs → ∀ (ls : Array Slot), lv_has ls 8 [(0, .ref (a 0)), (1, .int (nI n)), (2, .int (nI o)), (3, .int (nI (10 * n + o))), (4, .int 1), (5, .int (bI (x5))), (6, .int (nI (10 * n + i)))] → W p l e (headSpec wsX1_isCandidate ({ frames := 1, cells := 0, slots := 0, locals := 22 })).room s m args below meth c H locs 0 0 (MQ below (va_Qi (fun (r : Int32) (τ : rm_St) => r = (bI (rn_cand σ n o)) ∧ τ = σ) (fun τ t => rn_P k a τ t) (rn_A a s.heap.size)) args s 0 0 (rn_A a s.heap.size)) (F0 m 92 ls []) := by
              intro r
              induction r with
              | zero =>
                intro i hi92 x5 ht92 H locs hw ls hl
                obtain rfl : 10 = i := by omega
                have hz92 : rn_candT σ n o true x5 = rn_cand σ n o := ht92
                refine lv_iload hx hb dX1_isCandidate_92 (lv_at hl 6 rfl) ?_
                refine lv_bipush (v := 10) hx hb dX1_isCandidate_94 (by decide) ?_
                refine lv_iload_n hx hb dX1_isCandidate_96 rfl (lv_at hl 1 rfl) ?_
                refine lv_imul hx hb dX1_isCandidate_97 ?_
                rw [rn_mul]
                refine lv_bipush (v := 10) hx hb dX1_isCandidate_98 (by decide) ?_
                refine lv_iadd hx hb dX1_isCandidate_100 ?_
                rw [rn_add10]
                refine lv_icmp_ge (tgt := 177) hx hb dX1_isCandidate_101 (by decide) (fun c_101 => ?_) (fun c_101 => ?_)
                · skip
                  refine lv_iload hx hb dX1_isCandidate_177 (lv_at hl 4 rfl) ?_
                  refine lv_if_eq (tgt := 256) hx hb dX1_isCandidate_179 (by decide) (fun c_179 => ?_) (fun c_179 => ?_)
                  · exact absurd c_179 (by decide)
                  · skip
                    refine lv_aload_n hx hb dX1_isCandidate_182 rfl (lv_at hl 0 rfl) ?_
                    refine rn_geta C hw 16 12 (by decide) rfl (hts _ (by decide +kernel)) rfl dX1_isCandidate_183 ?_
                    refine lv_iload_n hx hb dX1_isCandidate_186 rfl (lv_at hl 3 rfl) ?_
                    refine rn_iald C hw (N := 100) (by decide) (by omega) (by decide) dX1_isCandidate_187 ?_
                    refine lv_aload_n hx hb dX1_isCandidate_188 rfl (lv_at hl 0 rfl) ?_
                    refine rn_geta C hw 9 5 (by decide) rfl (hts _ (by decide +kernel)) rfl dX1_isCandidate_189 ?_
                    refine lv_iload_n hx hb dX1_isCandidate_192 rfl (lv_at hl 1 rfl) ?_
                    refine rn_iald C hw (N := 10) (by decide) hn (by decide) dX1_isCandidate_193 ?_
                    refine lv_icmp_ne (tgt := 256) hx hb dX1_isCandidate_194 (by decide) (fun c_194 => ?_) (fun c_194 => ?_)
                    · skip
                      refine lv_iload hx hb dX1_isCandidate_256 (lv_at hl 5 rfl) ?_
                      exact rn_zret C hr hlocks hw (bI_nar _) dX1_isCandidate_258 ⟨by first | with_reducible rfl | exact hz92 | (rw [← hz92]; done) | (rw [← hz92]; exact bI_f.symm) | (simp only [rn_cand, c_20, if_pos c_32, if_pos c_49, if_neg c_76, if_neg c_194, ↓reduceIte, Bool.false_eq_true]; rw [← hz92]; done) | (rw [← hz92]; simp only [rn_candL, rn_candT, if_neg c_194, ↓reduceIte, Bool.false_eq_true]; done) | (rw [← hz92]; simp only [rn_candL, rn_candT, if_neg c_194, ↓reduceIte, Bool.false_eq_true]; with_reducible rfl) | (rw [← hz92]; simp only [rn_candL, rn_candT, if_neg c_194, ↓reduceIte, Bool.false_eq_true]; rfl) | (simp only [rn_cand, c_20, if_pos c_32, if_pos c_49, if_neg c_76, if_neg c_194, ↓reduceIte, Bool.false_eq_true]; done) | (simp only [rn_cand, c_20, if_pos c_32, if_pos c_49, if_neg c_76, if_neg c_194, ↓reduceIte, Bool.false_eq_true]; with_reducible rfl), by first | with_reducible rfl | exact hz92 | (rw [← hz92]; done) | (rw [← hz92]; exact bI_f.symm) | (simp only [rn_cand, c_20, if_pos c_32, if_pos c_49, if_neg c_76, if_neg c_194, ↓reduceIte, Bool.false_eq_true]; rw [← hz92]; done) | (rw [← hz92]; simp only [rn_candL, rn_candT, if_neg c_194, ↓reduceIte, Bool.false_eq_true]; done) | (rw [← hz92]; simp only [rn_candL, rn_candT, if_neg c_194, ↓reduceIte, Bool.false_eq_true]; with_reducible rfl) | (rw [← hz92]; simp only [rn_candL, rn_candT, if_neg c_194, ↓reduceIte, Bool.false_eq_true]; rfl) | (simp only [rn_cand, c_20, if_pos c_32, if_pos c_49, if_neg c_76, if_neg c_194, ↓reduceIte, Bool.false_eq_true]; done) | (simp only [rn_cand, c_20, if_pos c_32, if_pos c_49, if_neg c_76, if_neg c_194, ↓reduceIte, Bool.false_eq_true]; with_reducible rfl)⟩
                    · skip
                      refine lv_aload_n hx hb dX1_isCandidate_197 rfl (lv_at hl 0 rfl) ?_
                      refine rn_geta C hw 10 6 (by decide) rfl (hts _ (by decide +kernel)) rfl dX1_isCandidate_198 ?_
                      refine lv_iload_n hx hb dX1_isCandidate_201 rfl (lv_at hl 1 rfl) ?_
                      refine rn_iald C hw (N := 10) (by decide) hn (by decide) dX1_isCandidate_202 ?_
                      refine lv_sipush (v := 10000) hx hb dX1_isCandidate_203 (by decide) ?_
                      refine lv_icmp_ge (tgt := 256) hx hb dX1_isCandidate_206 (by decide) (fun c_206 => ?_) (fun c_206 => ?_)
                      · skip
                        refine lv_iload hx hb dX1_isCandidate_256 (lv_at hl 5 rfl) ?_
                        exact rn_zret C hr hlocks hw (bI_nar _) dX1_isCandidate_258 ⟨by first | with_reducible rfl | exact hz92 | (rw [← hz92]; done) | (rw [← hz92]; exact bI_f.symm) | (simp only [rn_cand, c_20, if_pos c_32, if_pos c_49, if_neg c_76, if_pos c_194, if_pos c_206, ↓reduceIte, Bool.false_eq_true]; rw [← hz92]; done) | (rw [← hz92]; simp only [rn_candL, rn_candT, if_pos c_194, if_pos c_206, ↓reduceIte, Bool.false_eq_true]; done) | (rw [← hz92]; simp only [rn_candL, rn_candT, if_pos c_194, if_pos c_206, ↓reduceIte, Bool.false_eq_true]; with_reducible rfl) | (rw [← hz92]; simp only [rn_candL, rn_candT, if_pos c_194, if_pos c_206, ↓reduceIte, Bool.false_eq_true]; rfl) | (simp only [rn_cand, c_20, if_pos c_32, if_pos c_49, if_neg c_76, if_pos c_194, if_pos c_206, ↓reduceIte, Bool.false_eq_true]; done) | (simp only [rn_cand, c_20, if_pos c_32, if_pos c_49, if_neg c_76, if_pos c_194, if_pos c_206, ↓reduceIte, Bool.false_eq_true]; with_reducible rfl), by first | with_reducible rfl | exact hz92 | (rw [← hz92]; done) | (rw [← hz92]; exact bI_f.symm) | (simp only [rn_cand, c_20, if_pos c_32, if_pos c_49, if_neg c_76, if_pos c_194, if_pos c_206, ↓reduceIte, Bool.false_eq_true]; rw [← hz92]; done) | (rw [← hz92]; simp only [rn_candL, rn_candT, if_pos c_194, if_pos c_206, ↓reduceIte, Bool.false_eq_true]; done) | (rw [← hz92]; simp only [rn_candL, rn_candT, if_pos c_194, if_pos c_206, ↓reduceIte, Bool.false_eq_true]; with_reducible rfl) | (rw [← hz92]; simp only [rn_candL, rn_candT, if_pos c_194, if_pos c_206, ↓reduceIte, Bool.false_eq_true]; rfl) | (simp only [rn_cand, c_20, if_pos c_32, if_pos c_49, if_neg c_76, if_pos c_194, if_pos c_206, ↓reduceIte, Bool.false_eq_true]; done) | (simp only [rn_cand, c_20, if_pos c_32, if_pos c_49, if_neg c_76, if_pos c_194, if_pos c_206, ↓reduceIte, Bool.false_eq_true]; with_reducible rfl)⟩
                      · skip
                        refine lv_iload hx hb dX1_isCandidate_209 (lv_at hl 5 rfl) ?_
                        refine rm_ifeq (tgt := 253) hx hb dX1_isCandidate_211 (by decide) (fun c_211 => ?_) (fun c_211 => ?_)
                        · skip
                          refine lv_iconst (v := 0) hx hb dX1_isCandidate_253 (by decide) ?_
                          refine lv_istore (lv' := [(5, .int 0), (0, .ref (a 0)), (1, .int (nI n)), (2, .int (nI o)), (3, .int (nI (10 * n + o))), (4, .int 1), (6, .int (nI (10 * n + 10)))]) hx hb dX1_isCandidate_254 hl (by decide) rfl (fun ls hl => ?_)
                          refine lv_iload hx hb dX1_isCandidate_256 (lv_at hl 0 rfl) ?_
                          exact rn_zret C hr hlocks hw (by decide) dX1_isCandidate_258 ⟨by first | with_reducible rfl | exact hz92 | (rw [← hz92]; done) | (rw [← hz92]; exact bI_f.symm) | (simp only [rn_cand, c_20, if_pos c_32, if_pos c_49, if_neg c_76, if_pos c_194, if_neg c_206, c_211, ↓reduceIte, Bool.false_eq_true]; rw [← hz92]; done) | (rw [← hz92]; simp only [rn_candL, rn_candT, if_pos c_194, if_neg c_206, c_211, ↓reduceIte, Bool.false_eq_true]; done) | (rw [← hz92]; simp only [rn_candL, rn_candT, if_pos c_194, if_neg c_206, c_211, ↓reduceIte, Bool.false_eq_true]; with_reducible rfl) | (rw [← hz92]; simp only [rn_candL, rn_candT, if_pos c_194, if_neg c_206, c_211, ↓reduceIte, Bool.false_eq_true]; rfl) | (simp only [rn_cand, c_20, if_pos c_32, if_pos c_49, if_neg c_76, if_pos c_194, if_neg c_206, c_211, ↓reduceIte, Bool.false_eq_true]; done) | (simp only [rn_cand, c_20, if_pos c_32, if_pos c_49, if_neg c_76, if_pos c_194, if_neg c_206, c_211, ↓reduceIte, Bool.false_eq_true]; with_reducible rfl), by first | with_reducible rfl | exact hz92 | (rw [← hz92]; done) | (rw [← hz92]; exact bI_f.symm) | (simp only [rn_cand, c_20, if_pos c_32, if_pos c_49, if_neg c_76, if_pos c_194, if_neg c_206, c_211, ↓reduceIte, Bool.false_eq_true]; rw [← hz92]; done) | (rw [← hz92]; simp only [rn_candL, rn_candT, if_pos c_194, if_neg c_206, c_211, ↓reduceIte, Bool.false_eq_true]; done) | (rw [← hz92]; simp only [rn_candL, rn_candT, if_pos c_194, if_neg c_206, c_211, ↓reduceIte, Bool.false_eq_true]; with_reducible rfl) | (rw [← hz92]; simp only [rn_candL, rn_candT, if_pos c_194, if_neg c_206, c_211, ↓reduceIte, Bool.false_eq_true]; rfl) | (simp only [rn_cand, c_20, if_pos c_32, if_pos c_49, if_neg c_76, if_pos c_194, if_neg c_206, c_211, ↓reduceIte, Bool.false_eq_true]; done) | (simp only [rn_cand, c_20, if_pos c_32, if_pos c_49, if_neg c_76, if_pos c_194, if_neg c_206, c_211, ↓reduceIte, Bool.false_eq_true]; with_reducible rfl)⟩
                        · skip
                          refine lv_aload_n hx hb dX1_isCandidate_214 rfl (lv_at hl 0 rfl) ?_
                          refine rn_geta C hw 17 13 (by decide) rfl (hts _ (by decide +kernel)) rfl dX1_isCandidate_215 ?_
                          refine lv_iload_n hx hb dX1_isCandidate_218 rfl (lv_at hl 3 rfl) ?_
                          refine rn_iald C hw (N := 100) (by decide) (by omega) (by decide) dX1_isCandidate_219 ?_
                          refine lv_aload_n hx hb dX1_isCandidate_220 rfl (lv_at hl 0 rfl) ?_
                          refine rn_geta C hw 10 6 (by decide) rfl (hts _ (by decide +kernel)) rfl dX1_isCandidate_221 ?_
                          refine lv_iload_n hx hb dX1_isCandidate_224 rfl (lv_at hl 1 rfl) ?_
                          refine rn_iald C hw (N := 10) (by decide) hn (by decide) dX1_isCandidate_225 ?_
                          refine lv_icmp_ge (tgt := 253) hx hb dX1_isCandidate_226 (by decide) (fun c_226 => ?_) (fun c_226 => ?_)
                          · skip
                            refine lv_iconst (v := 0) hx hb dX1_isCandidate_253 (by decide) ?_
                            refine lv_istore (lv' := [(5, .int 0), (0, .ref (a 0)), (1, .int (nI n)), (2, .int (nI o)), (3, .int (nI (10 * n + o))), (4, .int 1), (6, .int (nI (10 * n + 10)))]) hx hb dX1_isCandidate_254 hl (by decide) rfl (fun ls hl => ?_)
                            refine lv_iload hx hb dX1_isCandidate_256 (lv_at hl 0 rfl) ?_
                            exact rn_zret C hr hlocks hw (by decide) dX1_isCandidate_258 ⟨by first | with_reducible rfl | exact hz92 | (rw [← hz92]; done) | (rw [← hz92]; exact bI_f.symm) | (simp only [rn_cand, c_20, if_pos c_32, if_pos c_49, if_neg c_76, if_pos c_194, if_neg c_206, c_211, if_pos c_226, ↓reduceIte, Bool.false_eq_true]; rw [← hz92]; done) | (rw [← hz92]; simp only [rn_candL, rn_candT, if_pos c_194, if_neg c_206, c_211, if_pos c_226, ↓reduceIte, Bool.false_eq_true]; done) | (rw [← hz92]; simp only [rn_candL, rn_candT, if_pos c_194, if_neg c_206, c_211, if_pos c_226, ↓reduceIte, Bool.false_eq_true]; with_reducible rfl) | (rw [← hz92]; simp only [rn_candL, rn_candT, if_pos c_194, if_neg c_206, c_211, if_pos c_226, ↓reduceIte, Bool.false_eq_true]; rfl) | (simp only [rn_cand, c_20, if_pos c_32, if_pos c_49, if_neg c_76, if_pos c_194, if_neg c_206, c_211, if_pos c_226, ↓reduceIte, Bool.false_eq_true]; done) | (simp only [rn_cand, c_20, if_pos c_32, if_pos c_49, if_neg c_76, if_pos c_194, if_neg c_206, c_211, if_pos c_226, ↓reduceIte, Bool.false_eq_true]; with_reducible rfl), by first | with_reducible rfl | exact hz92 | (rw [← hz92]; done) | (rw [← hz92]; exact bI_f.symm) | (simp only [rn_cand, c_20, if_pos c_32, if_pos c_49, if_neg c_76, if_pos c_194, if_neg c_206, c_211, if_pos c_226, ↓reduceIte, Bool.false_eq_true]; rw [← hz92]; done) | (rw [← hz92]; simp only [rn_candL, rn_candT, if_pos c_194, if_neg c_206, c_211, if_pos c_226, ↓reduceIte, Bool.false_eq_true]; done) | (rw [← hz92]; simp only [rn_candL, rn_candT, if_pos c_194, if_neg c_206, c_211, if_pos c_226, ↓reduceIte, Bool.false_eq_true]; with_reducible rfl) | (rw [← hz92]; simp only [rn_candL, rn_candT, if_pos c_194, if_neg c_206, c_211, if_pos c_226, ↓reduceIte, Bool.false_eq_true]; rfl) | (simp only [rn_cand, c_20, if_pos c_32, if_pos c_49, if_neg c_76, if_pos c_194, if_neg c_206, c_211, if_pos c_226, ↓reduceIte, Bool.false_eq_true]; done) | (simp only [rn_cand, c_20, if_pos c_32, if_pos c_49, if_neg c_76, if_pos c_194, if_neg c_206, c_211, if_pos c_226, ↓reduceIte, Bool.false_eq_true]; with_reducible rfl)⟩
                          · skip
                            refine lv_aload_n hx hb dX1_isCandidate_229 rfl (lv_at hl 0 rfl) ?_
                            refine lv_iload_n hx hb dX1_isCandidate_230 rfl (lv_at hl 1 rfl) ?_
                            refine lv_iload_n hx hb dX1_isCandidate_231 rfl (lv_at hl 2 rfl) ?_
                            refine rn_callI C hw hA (As := [.int (nI n), .int (nI o)]) (rest := []) (kX1_rankBy l k a ha σ n o hn ho) (cwV 2 hts gX1_isCandidate_X1_rankBy rfl rfl rfl (by decide +kernel) ⟨Nat.le_of_ble_eq_true rfl, Nat.le_of_ble_eq_true rfl⟩) rfl hl.1 rfl (lv_room (Nat.le_of_ble_eq_true rfl)) dX1_isCandidate_232 ⟨Nat.zero_le _, Nat.zero_le _⟩ (fun H locs hw => ?_)
                            refine lv_aload_n hx hb dX1_isCandidate_235 rfl (lv_at hl 0 rfl) ?_
                            refine rn_geta C hw 12 8 (by decide) rfl (hts _ (by decide +kernel)) rfl dX1_isCandidate_236 ?_
                            refine lv_iload_n hx hb dX1_isCandidate_239 rfl (lv_at hl 1 rfl) ?_
                            refine rn_iald C hw (N := 10) (by decide) hn (by decide) dX1_isCandidate_240 ?_
                            refine lv_aload_n hx hb dX1_isCandidate_241 rfl (lv_at hl 0 rfl) ?_
                            refine rn_geti C hw 1 (by decide) (hts _ (by decide +kernel)) rfl dX1_isCandidate_242 ?_
                            refine lv_iadd hx hb dX1_isCandidate_245 ?_
                            refine lv_icmp_gt (tgt := 253) hx hb dX1_isCandidate_246 (by decide) (fun c_246 => ?_) (fun c_246 => ?_)
                            · skip
                              refine lv_iconst (v := 0) hx hb dX1_isCandidate_253 (by decide) ?_
                              refine lv_istore (lv' := [(5, .int 0), (0, .ref (a 0)), (1, .int (nI n)), (2, .int (nI o)), (3, .int (nI (10 * n + o))), (4, .int 1), (6, .int (nI (10 * n + 10)))]) hx hb dX1_isCandidate_254 hl (by decide) rfl (fun ls hl => ?_)
                              refine lv_iload hx hb dX1_isCandidate_256 (lv_at hl 0 rfl) ?_
                              exact rn_zret C hr hlocks hw (by decide) dX1_isCandidate_258 ⟨by first | with_reducible rfl | exact hz92 | (rw [← hz92]; done) | (rw [← hz92]; exact bI_f.symm) | (simp only [rn_cand, c_20, if_pos c_32, if_pos c_49, if_neg c_76, if_pos c_194, if_neg c_206, c_211, if_neg c_226, if_pos c_246, ↓reduceIte, Bool.false_eq_true]; rw [← hz92]; done) | (rw [← hz92]; simp only [rn_candL, rn_candT, if_pos c_194, if_neg c_206, c_211, if_neg c_226, if_pos c_246, ↓reduceIte, Bool.false_eq_true]; done) | (rw [← hz92]; simp only [rn_candL, rn_candT, if_pos c_194, if_neg c_206, c_211, if_neg c_226, if_pos c_246, ↓reduceIte, Bool.false_eq_true]; with_reducible rfl) | (rw [← hz92]; simp only [rn_candL, rn_candT, if_pos c_194, if_neg c_206, c_211, if_neg c_226, if_pos c_246, ↓reduceIte, Bool.false_eq_true]; rfl) | (simp only [rn_cand, c_20, if_pos c_32, if_pos c_49, if_neg c_76, if_pos c_194, if_neg c_206, c_211, if_neg c_226, if_pos c_246, ↓reduceIte, Bool.false_eq_true]; done) | (simp only [rn_cand, c_20, if_pos c_32, if_pos c_49, if_neg c_76, if_pos c_194, if_neg c_206, c_211, if_neg c_226, if_pos c_246, ↓reduceIte, Bool.false_eq_true]; with_reducible rfl), by first | with_reducible rfl | exact hz92 | (rw [← hz92]; done) | (rw [← hz92]; exact bI_f.symm) | (simp only [rn_cand, c_20, if_pos c_32, if_pos c_49, if_neg c_76, if_pos c_194, if_neg c_206, c_211, if_neg c_226, if_pos c_246, ↓reduceIte, Bool.false_eq_true]; rw [← hz92]; done) | (rw [← hz92]; simp only [rn_candL, rn_candT, if_pos c_194, if_neg c_206, c_211, if_neg c_226, if_pos c_246, ↓reduceIte, Bool.false_eq_true]; done) | (rw [← hz92]; simp only [rn_candL, rn_candT, if_pos c_194, if_neg c_206, c_211, if_neg c_226, if_pos c_246, ↓reduceIte, Bool.false_eq_true]; with_reducible rfl) | (rw [← hz92]; simp only [rn_candL, rn_candT, if_pos c_194, if_neg c_206, c_211, if_neg c_226, if_pos c_246, ↓reduceIte, Bool.false_eq_true]; rfl) | (simp only [rn_cand, c_20, if_pos c_32, if_pos c_49, if_neg c_76, if_pos c_194, if_neg c_206, c_211, if_neg c_226, if_pos c_246, ↓reduceIte, Bool.false_eq_true]; done) | (simp only [rn_cand, c_20, if_pos c_32, if_pos c_49, if_neg c_76, if_pos c_194, if_neg c_206, c_211, if_neg c_226, if_pos c_246, ↓reduceIte, Bool.false_eq_true]; with_reducible rfl)⟩
                            · skip
                              refine lv_iconst (v := 1) hx hb dX1_isCandidate_249 (by decide) ?_
                              refine lv_goto (tgt := 254) hx hb dX1_isCandidate_250 (by decide) ?_
                              refine lv_istore (lv' := [(5, .int 1), (0, .ref (a 0)), (1, .int (nI n)), (2, .int (nI o)), (3, .int (nI (10 * n + o))), (4, .int 1), (6, .int (nI (10 * n + 10)))]) hx hb dX1_isCandidate_254 hl (by decide) rfl (fun ls hl => ?_)
                              refine lv_iload hx hb dX1_isCandidate_256 (lv_at hl 0 rfl) ?_
                              exact rn_zret C hr hlocks hw (by decide) dX1_isCandidate_258 ⟨by first | with_reducible rfl | exact hz92 | (rw [← hz92]; done) | (rw [← hz92]; exact bI_f.symm) | (simp only [rn_cand, c_20, if_pos c_32, if_pos c_49, if_neg c_76, if_pos c_194, if_neg c_206, c_211, if_neg c_226, if_neg c_246, ↓reduceIte, Bool.false_eq_true]; rw [← hz92]; done) | (rw [← hz92]; simp only [rn_candL, rn_candT, if_pos c_194, if_neg c_206, c_211, if_neg c_226, if_neg c_246, ↓reduceIte, Bool.false_eq_true]; done) | (rw [← hz92]; simp only [rn_candL, rn_candT, if_pos c_194, if_neg c_206, c_211, if_neg c_226, if_neg c_246, ↓reduceIte, Bool.false_eq_true]; with_reducible rfl) | (rw [← hz92]; simp only [rn_candL, rn_candT, if_pos c_194, if_neg c_206, c_211, if_neg c_226, if_neg c_246, ↓reduceIte, Bool.false_eq_true]; rfl) | (simp only [rn_cand, c_20, if_pos c_32, if_pos c_49, if_neg c_76, if_pos c_194, if_neg c_206, c_211, if_neg c_226, if_neg c_246, ↓reduceIte, Bool.false_eq_true]; done) | (simp only [rn_cand, c_20, if_pos c_32, if_pos c_49, if_neg c_76, if_pos c_194, if_neg c_206, c_211, if_neg c_226, if_neg c_246, ↓reduceIte, Bool.false_eq_true]; with_reducible rfl), by first | with_reducible rfl | exact hz92 | (rw [← hz92]; done) | (rw [← hz92]; exact bI_f.symm) | (simp only [rn_cand, c_20, if_pos c_32, if_pos c_49, if_neg c_76, if_pos c_194, if_neg c_206, c_211, if_neg c_226, if_neg c_246, ↓reduceIte, Bool.false_eq_true]; rw [← hz92]; done) | (rw [← hz92]; simp only [rn_candL, rn_candT, if_pos c_194, if_neg c_206, c_211, if_neg c_226, if_neg c_246, ↓reduceIte, Bool.false_eq_true]; done) | (rw [← hz92]; simp only [rn_candL, rn_candT, if_pos c_194, if_neg c_206, c_211, if_neg c_226, if_neg c_246, ↓reduceIte, Bool.false_eq_true]; with_reducible rfl) | (rw [← hz92]; simp only [rn_candL, rn_candT, if_pos c_194, if_neg c_206, c_211, if_neg c_226, if_neg c_246, ↓reduceIte, Bool.false_eq_true]; rfl) | (simp only [rn_cand, c_20, if_pos c_32, if_pos c_49, if_neg c_76, if_pos c_194, if_neg c_206, c_211, if_neg c_226, if_neg c_246, ↓reduceIte, Bool.false_eq_true]; done) | (simp only [rn_cand, c_20, if_pos c_32, if_pos c_49, if_neg c_76, if_pos c_194, if_neg c_206, c_211, if_neg c_226, if_neg c_246, ↓reduceIte, Bool.false_eq_true]; with_reducible rfl)⟩
                · exact absurd (nI_le (a := 10 * n + 10) (b := 10 * n + 10) (Nat.le_refl _) (by omega)) c_101
              | succ r ih92 =>
                intro i hi92 x5 ht92 H locs hw ls hl
                have hlt92 : i < 10 := by omega
                refine lv_iload hx hb dX1_isCandidate_92 (lv_at hl 6 rfl) ?_
                refine lv_bipush (v := 10) hx hb dX1_isCandidate_94 (by decide) ?_
                refine lv_iload_n hx hb dX1_isCandidate_96 rfl (lv_at hl 1 rfl) ?_
                refine lv_imul hx hb dX1_isCandidate_97 ?_
                rw [rn_mul]
                refine lv_bipush (v := 10) hx hb dX1_isCandidate_98 (by decide) ?_
                refine lv_iadd hx hb dX1_isCandidate_100 ?_
                rw [rn_add10]
                refine lv_icmp_ge (tgt := 177) hx hb dX1_isCandidate_101 (by decide) (fun c_101 => ?_) (fun c_101 => ?_)
                · exact absurd c_101 (nI_ge (a := 10 * n + i) (b := 10 * n + 10) (by omega) (by omega))
                · skip
                  refine lv_aload_n hx hb dX1_isCandidate_104 rfl (lv_at hl 0 rfl) ?_
                  refine rn_geta C hw 17 13 (by decide) rfl (hts _ (by decide +kernel)) rfl dX1_isCandidate_105 ?_
                  refine lv_iload hx hb dX1_isCandidate_108 (lv_at hl 6 rfl) ?_
                  refine rn_iald C hw (N := 100) (by decide) (by omega) (by decide) dX1_isCandidate_110 ?_
                  refine lv_iconst (v := (-1)) hx hb dX1_isCandidate_111 (by decide) ?_
                  refine lv_icmp_eq (tgt := 135) hx hb dX1_isCandidate_112 (by decide) (fun c_112 => ?_) (fun c_112 => ?_)
                  · skip
                    refine lv_iconst (v := 0) hx hb dX1_isCandidate_135 (by decide) ?_
                    refine lv_istore (lv' := [(7, .int 0), (0, .ref (a 0)), (1, .int (nI n)), (2, .int (nI o)), (3, .int (nI (10 * n + o))), (4, .int 1), (5, .int (bI (x5))), (6, .int (nI (10 * n + i)))]) hx hb dX1_isCandidate_136 hl (by decide) rfl (fun ls hl => ?_)
                    refine lv_iload hx hb dX1_isCandidate_138 (lv_at hl 6 rfl) ?_
                    refine rm_ifeq (tgt := 168) hx hb dX1_isCandidate_140 (by decide) (fun c_140 => ?_) (fun c_140 => ?_)
                    · skip
                      refine lv_iconst (v := 0) hx hb dX1_isCandidate_168 (by decide) ?_
                      refine lv_istore (lv' := [(5, .int 0), (7, .int 0), (0, .ref (a 0)), (1, .int (nI n)), (2, .int (nI o)), (3, .int (nI (10 * n + o))), (4, .int 1), (6, .int (nI (10 * n + i)))]) hx hb dX1_isCandidate_169 hl (by decide) rfl (fun ls hl => ?_)
                      refine lv_iinc (v := nI (10 * n + (i + 1))) (lv' := [(6, .int (nI (10 * n + (i + 1)))), (5, .int 0), (7, .int 0), (0, .ref (a 0)), (1, .int (nI n)), (2, .int (nI o)), (3, .int (nI (10 * n + o))), (4, .int 1)]) hx hb dX1_isCandidate_171 hl (k := 7) rfl (rn_inc (10 * n) i) (by decide) rfl (fun ls hl => ?_)
                      refine lv_goto (tgt := 92) hx hb dX1_isCandidate_174 (by decide) ?_
                      exact ih92 (i + 1) (by omega) (false) (by refine Eq.trans ?_ ht92; first | with_reducible rfl | (simp only [rn_candL, rn_candT, if_pos c_112, c_140, ↓reduceIte, Bool.false_eq_true]; done) | (simp only [rn_candL, rn_candT, if_pos c_112, c_140, ↓reduceIte, Bool.false_eq_true]; with_reducible rfl)) _ _ hw _ (lv_sub hl [3, 4, 5, 6, 7, 1, 0] rfl)
                    · skip
                      refine lv_iload hx hb dX1_isCandidate_143 (lv_at hl 0 rfl) ?_
                      refine lv_if_eq (tgt := 164) hx hb dX1_isCandidate_145 (by decide) (fun c_145 => ?_) (fun c_145 => ?_)
                      · skip
                        refine lv_iconst (v := 1) hx hb dX1_isCandidate_164 (by decide) ?_
                        refine lv_goto (tgt := 169) hx hb dX1_isCandidate_165 (by decide) ?_
                        refine lv_istore (lv' := [(5, .int 1), (7, .int 0), (0, .ref (a 0)), (1, .int (nI n)), (2, .int (nI o)), (3, .int (nI (10 * n + o))), (4, .int 1), (6, .int (nI (10 * n + i)))]) hx hb dX1_isCandidate_169 hl (by decide) rfl (fun ls hl => ?_)
                        refine lv_iinc (v := nI (10 * n + (i + 1))) (lv' := [(6, .int (nI (10 * n + (i + 1)))), (5, .int 1), (7, .int 0), (0, .ref (a 0)), (1, .int (nI n)), (2, .int (nI o)), (3, .int (nI (10 * n + o))), (4, .int 1)]) hx hb dX1_isCandidate_171 hl (k := 7) rfl (rn_inc (10 * n) i) (by decide) rfl (fun ls hl => ?_)
                        refine lv_goto (tgt := 92) hx hb dX1_isCandidate_174 (by decide) ?_
                        exact ih92 (i + 1) (by omega) (true) (by refine Eq.trans ?_ ht92; first | with_reducible rfl | (simp only [rn_candL, rn_candT, if_pos c_112, c_140, ↓reduceIte, Bool.false_eq_true]; done) | (simp only [rn_candL, rn_candT, if_pos c_112, c_140, ↓reduceIte, Bool.false_eq_true]; with_reducible rfl)) _ _ hw _ (lv_sub hl [3, 4, 5, 6, 7, 1, 0] rfl)
                      · exact absurd rfl c_145
                  · skip
                    refine lv_aload_n hx hb dX1_isCandidate_115 rfl (lv_at hl 0 rfl) ?_
                    refine rn_geta C hw 15 11 (by decide) rfl (hts _ (by decide +kernel)) rfl dX1_isCandidate_116 ?_
                    refine lv_iload hx hb dX1_isCandidate_119 (lv_at hl 6 rfl) ?_
                    refine rn_iald C hw (N := 100) (by decide) (by omega) (by decide) dX1_isCandidate_121 ?_
                    refine lv_aload_n hx hb dX1_isCandidate_122 rfl (lv_at hl 0 rfl) ?_
                    refine rn_geta C hw 15 11 (by decide) rfl (hts _ (by decide +kernel)) rfl dX1_isCandidate_123 ?_
                    refine lv_iload_n hx hb dX1_isCandidate_126 rfl (lv_at hl 3 rfl) ?_
                    refine rn_iald C hw (N := 100) (by decide) (by omega) (by decide) dX1_isCandidate_127 ?_
                    refine lv_icmp_ne (tgt := 135) hx hb dX1_isCandidate_128 (by decide) (fun c_128 => ?_) (fun c_128 => ?_)
                    · skip
                      refine lv_iconst (v := 0) hx hb dX1_isCandidate_135 (by decide) ?_
                      refine lv_istore (lv' := [(7, .int 0), (0, .ref (a 0)), (1, .int (nI n)), (2, .int (nI o)), (3, .int (nI (10 * n + o))), (4, .int 1), (5, .int (bI (x5))), (6, .int (nI (10 * n + i)))]) hx hb dX1_isCandidate_136 hl (by decide) rfl (fun ls hl => ?_)
                      refine lv_iload hx hb dX1_isCandidate_138 (lv_at hl 6 rfl) ?_
                      refine rm_ifeq (tgt := 168) hx hb dX1_isCandidate_140 (by decide) (fun c_140 => ?_) (fun c_140 => ?_)
                      · skip
                        refine lv_iconst (v := 0) hx hb dX1_isCandidate_168 (by decide) ?_
                        refine lv_istore (lv' := [(5, .int 0), (7, .int 0), (0, .ref (a 0)), (1, .int (nI n)), (2, .int (nI o)), (3, .int (nI (10 * n + o))), (4, .int 1), (6, .int (nI (10 * n + i)))]) hx hb dX1_isCandidate_169 hl (by decide) rfl (fun ls hl => ?_)
                        refine lv_iinc (v := nI (10 * n + (i + 1))) (lv' := [(6, .int (nI (10 * n + (i + 1)))), (5, .int 0), (7, .int 0), (0, .ref (a 0)), (1, .int (nI n)), (2, .int (nI o)), (3, .int (nI (10 * n + o))), (4, .int 1)]) hx hb dX1_isCandidate_171 hl (k := 7) rfl (rn_inc (10 * n) i) (by decide) rfl (fun ls hl => ?_)
                        refine lv_goto (tgt := 92) hx hb dX1_isCandidate_174 (by decide) ?_
                        exact ih92 (i + 1) (by omega) (false) (by refine Eq.trans ?_ ht92; first | with_reducible rfl | (simp only [rn_candL, rn_candT, if_neg c_112, if_neg c_128, c_140, ↓reduceIte, Bool.false_eq_true]; done) | (simp only [rn_candL, rn_candT, if_neg c_112, if_neg c_128, c_140, ↓reduceIte, Bool.false_eq_true]; with_reducible rfl)) _ _ hw _ (lv_sub hl [3, 4, 5, 6, 7, 1, 0] rfl)
                      · skip
                        refine lv_iload hx hb dX1_isCandidate_143 (lv_at hl 0 rfl) ?_
                        refine lv_if_eq (tgt := 164) hx hb dX1_isCandidate_145 (by decide) (fun c_145 => ?_) (fun c_145 => ?_)
                        · skip
                          refine lv_iconst (v := 1) hx hb dX1_isCandidate_164 (by decide) ?_
                          refine lv_goto (tgt := 169) hx hb dX1_isCandidate_165 (by decide) ?_
                          refine lv_istore (lv' := [(5, .int 1), (7, .int 0), (0, .ref (a 0)), (1, .int (nI n)), (2, .int (nI o)), (3, .int (nI (10 * n + o))), (4, .int 1), (6, .int (nI (10 * n + i)))]) hx hb dX1_isCandidate_169 hl (by decide) rfl (fun ls hl => ?_)
                          refine lv_iinc (v := nI (10 * n + (i + 1))) (lv' := [(6, .int (nI (10 * n + (i + 1)))), (5, .int 1), (7, .int 0), (0, .ref (a 0)), (1, .int (nI n)), (2, .int (nI o)), (3, .int (nI (10 * n + o))), (4, .int 1)]) hx hb dX1_isCandidate_171 hl (k := 7) rfl (rn_inc (10 * n) i) (by decide) rfl (fun ls hl => ?_)
                          refine lv_goto (tgt := 92) hx hb dX1_isCandidate_174 (by decide) ?_
                          exact ih92 (i + 1) (by omega) (true) (by refine Eq.trans ?_ ht92; first | with_reducible rfl | (simp only [rn_candL, rn_candT, if_neg c_112, if_neg c_128, c_140, ↓reduceIte, Bool.false_eq_true]; done) | (simp only [rn_candL, rn_candT, if_neg c_112, if_neg c_128, c_140, ↓reduceIte, Bool.false_eq_true]; with_reducible rfl)) _ _ hw _ (lv_sub hl [3, 4, 5, 6, 7, 1, 0] rfl)
                        · exact absurd rfl c_145
                    · skip
                      refine lv_iconst (v := 1) hx hb dX1_isCandidate_131 (by decide) ?_
                      refine lv_goto (tgt := 136) hx hb dX1_isCandidate_132 (by decide) ?_
                      refine lv_istore (lv' := [(7, .int 1), (0, .ref (a 0)), (1, .int (nI n)), (2, .int (nI o)), (3, .int (nI (10 * n + o))), (4, .int 1), (5, .int (bI (x5))), (6, .int (nI (10 * n + i)))]) hx hb dX1_isCandidate_136 hl (by decide) rfl (fun ls hl => ?_)
                      refine lv_iload hx hb dX1_isCandidate_138 (lv_at hl 6 rfl) ?_
                      refine rm_ifeq (tgt := 168) hx hb dX1_isCandidate_140 (by decide) (fun c_140 => ?_) (fun c_140 => ?_)
                      · skip
                        refine lv_iconst (v := 0) hx hb dX1_isCandidate_168 (by decide) ?_
                        refine lv_istore (lv' := [(5, .int 0), (7, .int 1), (0, .ref (a 0)), (1, .int (nI n)), (2, .int (nI o)), (3, .int (nI (10 * n + o))), (4, .int 1), (6, .int (nI (10 * n + i)))]) hx hb dX1_isCandidate_169 hl (by decide) rfl (fun ls hl => ?_)
                        refine lv_iinc (v := nI (10 * n + (i + 1))) (lv' := [(6, .int (nI (10 * n + (i + 1)))), (5, .int 0), (7, .int 1), (0, .ref (a 0)), (1, .int (nI n)), (2, .int (nI o)), (3, .int (nI (10 * n + o))), (4, .int 1)]) hx hb dX1_isCandidate_171 hl (k := 7) rfl (rn_inc (10 * n) i) (by decide) rfl (fun ls hl => ?_)
                        refine lv_goto (tgt := 92) hx hb dX1_isCandidate_174 (by decide) ?_
                        exact ih92 (i + 1) (by omega) (false) (by refine Eq.trans ?_ ht92; first | with_reducible rfl | (simp only [rn_candL, rn_candT, if_neg c_112, if_pos c_128, c_140, ↓reduceIte, Bool.false_eq_true]; done) | (simp only [rn_candL, rn_candT, if_neg c_112, if_pos c_128, c_140, ↓reduceIte, Bool.false_eq_true]; with_reducible rfl)) _ _ hw _ (lv_sub hl [3, 4, 5, 6, 7, 1, 0] rfl)
                      · skip
                        refine lv_iload hx hb dX1_isCandidate_143 (lv_at hl 0 rfl) ?_
                        refine lv_if_eq (tgt := 164) hx hb dX1_isCandidate_145 (by decide) (fun c_145 => ?_) (fun c_145 => ?_)
                        · exact absurd c_145 (by decide)
                        · skip
                          refine lv_aload_n hx hb dX1_isCandidate_148 rfl (lv_at hl 1 rfl) ?_
                          refine rn_geta C hw 16 12 (by decide) rfl (hts _ (by decide +kernel)) rfl dX1_isCandidate_149 ?_
                          refine lv_iload hx hb dX1_isCandidate_152 (lv_at hl 7 rfl) ?_
                          refine rn_iald C hw (N := 100) (by decide) (by omega) (by decide) dX1_isCandidate_154 ?_
                          refine lv_aload_n hx hb dX1_isCandidate_155 rfl (lv_at hl 1 rfl) ?_
                          refine rn_geta C hw 16 12 (by decide) rfl (hts _ (by decide +kernel)) rfl dX1_isCandidate_156 ?_
                          refine lv_iload_n hx hb dX1_isCandidate_159 rfl (lv_at hl 4 rfl) ?_
                          refine rn_iald C hw (N := 100) (by decide) (by omega) (by decide) dX1_isCandidate_160 ?_
                          refine lv_icmp_gt (tgt := 168) hx hb dX1_isCandidate_161 (by decide) (fun c_161 => ?_) (fun c_161 => ?_)
                          · skip
                            refine lv_iconst (v := 0) hx hb dX1_isCandidate_168 (by decide) ?_
                            refine lv_istore (lv' := [(5, .int 0), (7, .int 1), (0, .ref (a 0)), (1, .int (nI n)), (2, .int (nI o)), (3, .int (nI (10 * n + o))), (4, .int 1), (6, .int (nI (10 * n + i)))]) hx hb dX1_isCandidate_169 hl (by decide) rfl (fun ls hl => ?_)
                            refine lv_iinc (v := nI (10 * n + (i + 1))) (lv' := [(6, .int (nI (10 * n + (i + 1)))), (5, .int 0), (7, .int 1), (0, .ref (a 0)), (1, .int (nI n)), (2, .int (nI o)), (3, .int (nI (10 * n + o))), (4, .int 1)]) hx hb dX1_isCandidate_171 hl (k := 7) rfl (rn_inc (10 * n) i) (by decide) rfl (fun ls hl => ?_)
                            refine lv_goto (tgt := 92) hx hb dX1_isCandidate_174 (by decide) ?_
                            exact ih92 (i + 1) (by omega) (false) (by refine Eq.trans ?_ ht92; first | with_reducible rfl | (simp only [rn_candL, rn_candT, if_neg c_112, if_pos c_128, c_140, if_pos c_161, ↓reduceIte, Bool.false_eq_true]; done) | (simp only [rn_candL, rn_candT, if_neg c_112, if_pos c_128, c_140, if_pos c_161, ↓reduceIte, Bool.false_eq_true]; with_reducible rfl)) _ _ hw _ (lv_sub hl [3, 4, 5, 6, 7, 1, 0] rfl)
                          · skip
                            refine lv_iconst (v := 1) hx hb dX1_isCandidate_164 (by decide) ?_
                            refine lv_goto (tgt := 169) hx hb dX1_isCandidate_165 (by decide) ?_
                            refine lv_istore (lv' := [(5, .int 1), (7, .int 1), (0, .ref (a 0)), (1, .int (nI n)), (2, .int (nI o)), (3, .int (nI (10 * n + o))), (4, .int 1), (6, .int (nI (10 * n + i)))]) hx hb dX1_isCandidate_169 hl (by decide) rfl (fun ls hl => ?_)
                            refine lv_iinc (v := nI (10 * n + (i + 1))) (lv' := [(6, .int (nI (10 * n + (i + 1)))), (5, .int 1), (7, .int 1), (0, .ref (a 0)), (1, .int (nI n)), (2, .int (nI o)), (3, .int (nI (10 * n + o))), (4, .int 1)]) hx hb dX1_isCandidate_171 hl (k := 7) rfl (rn_inc (10 * n) i) (by decide) rfl (fun ls hl => ?_)
                            refine lv_goto (tgt := 92) hx hb dX1_isCandidate_174 (by decide) ?_
                            exact ih92 (i + 1) (by omega) (true) (by refine Eq.trans ?_ ht92; first | with_reducible rfl | (simp only [rn_candL, rn_candT, if_neg c_112, if_pos c_128, c_140, if_neg c_161, ↓reduceIte, Bool.false_eq_true]; done) | (simp only [rn_candL, rn_candT, if_neg c_112, if_pos c_128, c_140, if_neg c_161, ↓reduceIte, Bool.false_eq_true]; with_reducible rfl)) _ _ hw _ (lv_sub hl [3, 4, 5, 6, 7, 1, 0] rfl)
            exact lp_92 10 0 (by omega) (true) (by first | with_reducible rfl | (unfold rn_cand; with_reducible rfl) | (simp only [rn_cand, c_20, if_pos c_32, if_pos c_49, if_neg c_76, ↓reduceIte, Bool.false_eq_true]; done) | (simp only [rn_cand, c_20, if_pos c_32, if_pos c_49, if_neg c_76, ↓reduceIte, Bool.false_eq_true]; with_reducible rfl)) _ _ hw _ (lv_sub hl [4, 5, 6, 3, 2, 1, 0] rfl)
    · skip
      refine lv_iconst (v := 0) hx hb dX1_isCandidate_35 (by decide) ?_
      exact rn_zret C hr hlocks hw (by decide) dX1_isCandidate_36 ⟨by first | with_reducible rfl | (simp only [rn_cand, c_20, if_neg c_32, ↓reduceIte, Bool.false_eq_true]; done) | (simp only [rn_cand, c_20, if_neg c_32, ↓reduceIte, Bool.false_eq_true]; rfl) | rfl, by first | with_reducible rfl | (simp only [rn_cand, c_20, if_neg c_32, ↓reduceIte, Bool.false_eq_true]; done) | (simp only [rn_cand, c_20, if_neg c_32, ↓reduceIte, Bool.false_eq_true]; rfl) | rfl⟩
set_option maxHeartbeats 4000000 in
set_option maxRecDepth 100000 in
theorem kX1_takes (l : Launch) (k : rm_K) (a : Nat → Nat) (ha : rn_inj a) (σ : rm_St) (n : Nat) (o : Nat) (hn : n < 10) (ho : o < 10) : rn_MV l k a yX1_takes wsX1_takes ({ frames := 1, cells := 0, slots := 0, locals := 22 }) [.int (nI n), .int (nI o)] σ  (rn_takes σ n o) := by
  refine rn_enterV (cc := cX1_takes) (nL := 5) (ret := none) ha (by decide) rfl rfl (by decide +kernel) (Nat.le_of_ble_eq_true rfl) ?_
  intro p e s m args below meth c ls C hr hlocks hw hl
  have hx := C.1.1
  have hb := C.1.2.1
  have hts := C.1.2.2.2.2
  have hA : ∀ q, s.heap.size ≤ q → rn_A a s.heap.size q := fun q h => Or.inr h
  replace hl : lv_has ls 5 [(0, .ref (a 0)), (1, .int (nI n)), (2, .int (nI o))] := hl
  refine lv_bipush (v := 10) hx hb dX1_takes_0 (by decide) ?_
  refine lv_iload_n hx hb dX1_takes_2 rfl (lv_at hl 1 rfl) ?_
  refine lv_imul hx hb dX1_takes_3 ?_
  rw [rn_mul]
  refine lv_iload_n hx hb dX1_takes_4 rfl (lv_at hl 2 rfl) ?_
  refine lv_iadd hx hb dX1_takes_5 ?_
  rw [nI_add]
  refine lv_istore_n (lv' := [(3, .int (nI (10 * n + o))), (0, .ref (a 0)), (1, .int (nI n)), (2, .int (nI o))]) hx hb dX1_takes_6 rfl hl (by decide) rfl (fun ls hl => ?_)
  refine lv_aload_n hx hb dX1_takes_7 rfl (lv_at hl 1 rfl) ?_
  refine rn_geta C hw 15 11 (by decide) rfl (hts _ (by decide +kernel)) rfl dX1_takes_8 ?_
  refine lv_iload_n hx hb dX1_takes_11 rfl (lv_at hl 0 rfl) ?_
  refine rn_iald C hw (N := 100) (by decide) (by omega) (by decide) dX1_takes_12 ?_
  refine lv_aload_n hx hb dX1_takes_13 rfl (lv_at hl 1 rfl) ?_
  refine rn_geta C hw 8 4 (by decide) rfl (hts _ (by decide +kernel)) rfl dX1_takes_14 ?_
  refine lv_iload_n hx hb dX1_takes_17 rfl (lv_at hl 2 rfl) ?_
  refine rn_iald C hw (N := 10) (by decide) hn (by decide) dX1_takes_18 ?_
  refine lv_icmp_ne (tgt := 37) hx hb dX1_takes_19 (by decide) (fun c_19 => ?_) (fun c_19 => ?_)
  · skip
    refine lv_iconst (v := 1) hx hb dX1_takes_37 (by decide) ?_
    refine lv_goto (tgt := 42) hx hb dX1_takes_38 (by decide) ?_
    refine lv_istore (lv' := [(4, .int 1), (3, .int (nI (10 * n + o))), (0, .ref (a 0)), (1, .int (nI n)), (2, .int (nI o))]) hx hb dX1_takes_42 hl (by decide) rfl (fun ls hl => ?_)
    refine lv_aload_n hx hb dX1_takes_44 rfl (lv_at hl 2 rfl) ?_
    refine rn_geta C hw 11 7 (by decide) rfl (hts _ (by decide +kernel)) rfl dX1_takes_45 ?_
    refine lv_iload_n hx hb dX1_takes_48 rfl (lv_at hl 3 rfl) ?_
    refine lv_iload_n hx hb dX1_takes_49 rfl (lv_at hl 4 rfl) ?_
    refine rn_iast C hw (N := 10) (by decide) hn (by decide) dX1_takes_50 (fun H locs hw => ?_)
    refine lv_aload_n hx hb dX1_takes_51 rfl (lv_at hl 2 rfl) ?_
    refine rn_geta C hw 8 4 (by decide) rfl (hts _ (by decide +kernel)) rfl dX1_takes_52 ?_
    refine lv_iload_n hx hb dX1_takes_55 rfl (lv_at hl 3 rfl) ?_
    refine lv_aload_n hx hb dX1_takes_56 rfl (lv_at hl 2 rfl) ?_
    refine rn_geta C hw 15 11 (by decide) rfl (hts _ (by decide +kernel)) rfl dX1_takes_57 ?_
    refine lv_iload_n hx hb dX1_takes_60 rfl (lv_at hl 1 rfl) ?_
    refine rn_iald C hw (N := 100) (by decide) (by omega) (by decide) dX1_takes_61 ?_
    refine rn_iast C hw (N := 10) (by decide) hn (by decide) dX1_takes_62 (fun H locs hw => ?_)
    refine lv_aload_n hx hb dX1_takes_63 rfl (lv_at hl 2 rfl) ?_
    refine rn_geta C hw 9 5 (by decide) rfl (hts _ (by decide +kernel)) rfl dX1_takes_64 ?_
    refine lv_iload_n hx hb dX1_takes_67 rfl (lv_at hl 3 rfl) ?_
    refine lv_aload_n hx hb dX1_takes_68 rfl (lv_at hl 2 rfl) ?_
    refine rn_geta C hw 16 12 (by decide) rfl (hts _ (by decide +kernel)) rfl dX1_takes_69 ?_
    refine lv_iload_n hx hb dX1_takes_72 rfl (lv_at hl 1 rfl) ?_
    refine rn_iald C hw (N := 100) (by decide) (by omega) (by decide) dX1_takes_73 ?_
    refine rn_iast C hw (N := 10) (by decide) hn (by decide) dX1_takes_74 (fun H locs hw => ?_)
    refine lv_aload_n hx hb dX1_takes_75 rfl (lv_at hl 2 rfl) ?_
    refine rn_geta C hw 10 6 (by decide) rfl (hts _ (by decide +kernel)) rfl dX1_takes_76 ?_
    refine lv_iload_n hx hb dX1_takes_79 rfl (lv_at hl 3 rfl) ?_
    refine lv_aload_n hx hb dX1_takes_80 rfl (lv_at hl 2 rfl) ?_
    refine lv_iload_n hx hb dX1_takes_81 rfl (lv_at hl 3 rfl) ?_
    refine lv_iload_n hx hb dX1_takes_82 rfl (lv_at hl 4 rfl) ?_
    refine rn_callI C hw hA (As := [.int (nI n), .int (nI o)]) (rest := [.int (nI n), .ref (a 6)]) (kX1_rankBy l k a ha (rm_up (rm_up (rm_up σ 7 n (nI o)) 4 n ((rm_up σ 7 n (nI o)) 11 (10 * n + o))) 5 n ((rm_up (rm_up σ 7 n (nI o)) 4 n ((rm_up σ 7 n (nI o)) 11 (10 * n + o))) 12 (10 * n + o))) n o hn ho) (cwV 2 hts gX1_takes_X1_rankBy rfl rfl rfl (by decide +kernel) ⟨Nat.le_of_ble_eq_true rfl, Nat.le_of_ble_eq_true rfl⟩) rfl hl.1 rfl (lv_room (Nat.le_of_ble_eq_true rfl)) dX1_takes_83 ⟨Nat.zero_le _, Nat.zero_le _⟩ (fun H locs hw => ?_)
    refine rn_iast C hw (N := 10) (by decide) hn (by decide) dX1_takes_86 (fun H locs hw => ?_)
    refine lv_aload_n hx hb dX1_takes_87 rfl (lv_at hl 2 rfl) ?_
    refine rn_geta C hw 12 8 (by decide) rfl (hts _ (by decide +kernel)) rfl dX1_takes_88 ?_
    refine lv_iload_n hx hb dX1_takes_91 rfl (lv_at hl 3 rfl) ?_
    refine lv_iload hx hb dX1_takes_92 (lv_at hl 0 rfl) ?_
    refine lv_if_ne (tgt := 112) hx hb dX1_takes_94 (by decide) (fun c_94 => ?_) (fun c_94 => ?_)
    · skip
      refine lv_aload_n hx hb dX1_takes_112 rfl (lv_at hl 2 rfl) ?_
      refine rn_geta C hw 10 6 (by decide) rfl (hts _ (by decide +kernel)) rfl dX1_takes_113 ?_
      refine lv_iload_n hx hb dX1_takes_116 rfl (lv_at hl 3 rfl) ?_
      refine rn_iald C hw (N := 10) (by decide) hn (by decide) dX1_takes_117 ?_
      refine lv_goto (tgt := 127) hx hb dX1_takes_118 (by decide) ?_
      refine rn_iast C hw (N := 10) (by decide) hn (by decide) dX1_takes_127 (fun H locs hw => ?_)
      exact rn_vret C hr hlocks hw dX1_takes_128 (by first | with_reducible rfl | (rw [rn_takes]; exact (if_neg c_19).symm) | (first | with_reducible rfl | (simp only [rn_takes, rn_tk, rn_tk1, rn_tk2, rn_tk3, if_neg c_19, ↓reduceIte, Bool.false_eq_true]; done) | (simp only [rn_takes, rn_tk, rn_tk1, rn_tk2, rn_tk3, if_neg c_19, ↓reduceIte, Bool.false_eq_true]; rfl) | rfl))
    · exact absurd c_94 (by decide)
  · skip
    refine lv_aload_n hx hb dX1_takes_22 rfl (lv_at hl 1 rfl) ?_
    refine rn_geta C hw 16 12 (by decide) rfl (hts _ (by decide +kernel)) rfl dX1_takes_23 ?_
    refine lv_iload_n hx hb dX1_takes_26 rfl (lv_at hl 0 rfl) ?_
    refine rn_iald C hw (N := 100) (by decide) (by omega) (by decide) dX1_takes_27 ?_
    refine lv_aload_n hx hb dX1_takes_28 rfl (lv_at hl 1 rfl) ?_
    refine rn_geta C hw 9 5 (by decide) rfl (hts _ (by decide +kernel)) rfl dX1_takes_29 ?_
    refine lv_iload_n hx hb dX1_takes_32 rfl (lv_at hl 2 rfl) ?_
    refine rn_iald C hw (N := 10) (by decide) hn (by decide) dX1_takes_33 ?_
    refine lv_icmp_eq (tgt := 41) hx hb dX1_takes_34 (by decide) (fun c_34 => ?_) (fun c_34 => ?_)
    · skip
      refine lv_iconst (v := 0) hx hb dX1_takes_41 (by decide) ?_
      refine lv_istore (lv' := [(4, .int 0), (3, .int (nI (10 * n + o))), (0, .ref (a 0)), (1, .int (nI n)), (2, .int (nI o))]) hx hb dX1_takes_42 hl (by decide) rfl (fun ls hl => ?_)
      refine lv_aload_n hx hb dX1_takes_44 rfl (lv_at hl 2 rfl) ?_
      refine rn_geta C hw 11 7 (by decide) rfl (hts _ (by decide +kernel)) rfl dX1_takes_45 ?_
      refine lv_iload_n hx hb dX1_takes_48 rfl (lv_at hl 3 rfl) ?_
      refine lv_iload_n hx hb dX1_takes_49 rfl (lv_at hl 4 rfl) ?_
      refine rn_iast C hw (N := 10) (by decide) hn (by decide) dX1_takes_50 (fun H locs hw => ?_)
      refine lv_aload_n hx hb dX1_takes_51 rfl (lv_at hl 2 rfl) ?_
      refine rn_geta C hw 8 4 (by decide) rfl (hts _ (by decide +kernel)) rfl dX1_takes_52 ?_
      refine lv_iload_n hx hb dX1_takes_55 rfl (lv_at hl 3 rfl) ?_
      refine lv_aload_n hx hb dX1_takes_56 rfl (lv_at hl 2 rfl) ?_
      refine rn_geta C hw 15 11 (by decide) rfl (hts _ (by decide +kernel)) rfl dX1_takes_57 ?_
      refine lv_iload_n hx hb dX1_takes_60 rfl (lv_at hl 1 rfl) ?_
      refine rn_iald C hw (N := 100) (by decide) (by omega) (by decide) dX1_takes_61 ?_
      refine rn_iast C hw (N := 10) (by decide) hn (by decide) dX1_takes_62 (fun H locs hw => ?_)
      refine lv_aload_n hx hb dX1_takes_63 rfl (lv_at hl 2 rfl) ?_
      refine rn_geta C hw 9 5 (by decide) rfl (hts _ (by decide +kernel)) rfl dX1_takes_64 ?_
      refine lv_iload_n hx hb dX1_takes_67 rfl (lv_at hl 3 rfl) ?_
      refine lv_aload_n hx hb dX1_takes_68 rfl (lv_at hl 2 rfl) ?_
      refine rn_geta C hw 16 12 (by decide) rfl (hts _ (by decide +kernel)) rfl dX1_takes_69 ?_
      refine lv_iload_n hx hb dX1_takes_72 rfl (lv_at hl 1 rfl) ?_
      refine rn_iald C hw (N := 100) (by decide) (by omega) (by decide) dX1_takes_73 ?_
      refine rn_iast C hw (N := 10) (by decide) hn (by decide) dX1_takes_74 (fun H locs hw => ?_)
      refine lv_aload_n hx hb dX1_takes_75 rfl (lv_at hl 2 rfl) ?_
      refine rn_geta C hw 10 6 (by decide) rfl (hts _ (by decide +kernel)) rfl dX1_takes_76 ?_
      refine lv_iload_n hx hb dX1_takes_79 rfl (lv_at hl 3 rfl) ?_
      refine lv_aload_n hx hb dX1_takes_80 rfl (lv_at hl 2 rfl) ?_
      refine lv_iload_n hx hb dX1_takes_81 rfl (lv_at hl 3 rfl) ?_
      refine lv_iload_n hx hb dX1_takes_82 rfl (lv_at hl 4 rfl) ?_
      refine rn_callI C hw hA (As := [.int (nI n), .int (nI o)]) (rest := [.int (nI n), .ref (a 6)]) (kX1_rankBy l k a ha (rm_up (rm_up (rm_up σ 7 n (nI o)) 4 n ((rm_up σ 7 n (nI o)) 11 (10 * n + o))) 5 n ((rm_up (rm_up σ 7 n (nI o)) 4 n ((rm_up σ 7 n (nI o)) 11 (10 * n + o))) 12 (10 * n + o))) n o hn ho) (cwV 2 hts gX1_takes_X1_rankBy rfl rfl rfl (by decide +kernel) ⟨Nat.le_of_ble_eq_true rfl, Nat.le_of_ble_eq_true rfl⟩) rfl hl.1 rfl (lv_room (Nat.le_of_ble_eq_true rfl)) dX1_takes_83 ⟨Nat.zero_le _, Nat.zero_le _⟩ (fun H locs hw => ?_)
      refine rn_iast C hw (N := 10) (by decide) hn (by decide) dX1_takes_86 (fun H locs hw => ?_)
      refine lv_aload_n hx hb dX1_takes_87 rfl (lv_at hl 2 rfl) ?_
      refine rn_geta C hw 12 8 (by decide) rfl (hts _ (by decide +kernel)) rfl dX1_takes_88 ?_
      refine lv_iload_n hx hb dX1_takes_91 rfl (lv_at hl 3 rfl) ?_
      refine lv_iload hx hb dX1_takes_92 (lv_at hl 0 rfl) ?_
      refine lv_if_ne (tgt := 112) hx hb dX1_takes_94 (by decide) (fun c_94 => ?_) (fun c_94 => ?_)
      · exact absurd rfl c_94
      · skip
        refine lv_aload_n hx hb dX1_takes_97 rfl (lv_at hl 2 rfl) ?_
        refine rn_geta C hw 10 6 (by decide) rfl (hts _ (by decide +kernel)) rfl dX1_takes_98 ?_
        refine lv_iload_n hx hb dX1_takes_101 rfl (lv_at hl 3 rfl) ?_
        refine rn_iald C hw (N := 10) (by decide) hn (by decide) dX1_takes_102 ?_
        refine lv_aload_n hx hb dX1_takes_103 rfl (lv_at hl 2 rfl) ?_
        refine rn_geta C hw 12 8 (by decide) rfl (hts _ (by decide +kernel)) rfl dX1_takes_104 ?_
        refine lv_iload_n hx hb dX1_takes_107 rfl (lv_at hl 3 rfl) ?_
        refine rn_iald C hw (N := 10) (by decide) hn (by decide) dX1_takes_108 ?_
        refine lv_icmp_ge (tgt := 121) hx hb dX1_takes_109 (by decide) (fun c_109 => ?_) (fun c_109 => ?_)
        · skip
          refine lv_aload_n hx hb dX1_takes_121 rfl (lv_at hl 2 rfl) ?_
          refine rn_geta C hw 12 8 (by decide) rfl (hts _ (by decide +kernel)) rfl dX1_takes_122 ?_
          refine lv_iload_n hx hb dX1_takes_125 rfl (lv_at hl 3 rfl) ?_
          refine rn_iald C hw (N := 10) (by decide) hn (by decide) dX1_takes_126 ?_
          refine rn_iast C hw (N := 10) (by decide) hn (by decide) dX1_takes_127 (fun H locs hw => ?_)
          exact rn_vret C hr hlocks hw dX1_takes_128 (by first | with_reducible rfl | (rw [rn_takes, if_pos c_19, if_pos c_34]; exact (if_pos c_109).symm) | (first | with_reducible rfl | (simp only [rn_takes, rn_tk, rn_tk1, rn_tk2, rn_tk3, if_pos c_19, if_pos c_34, if_pos c_109, ↓reduceIte, Bool.false_eq_true]; done) | (simp only [rn_takes, rn_tk, rn_tk1, rn_tk2, rn_tk3, if_pos c_19, if_pos c_34, if_pos c_109, ↓reduceIte, Bool.false_eq_true]; rfl) | rfl))
        · skip
          refine lv_aload_n hx hb dX1_takes_112 rfl (lv_at hl 2 rfl) ?_
          refine rn_geta C hw 10 6 (by decide) rfl (hts _ (by decide +kernel)) rfl dX1_takes_113 ?_
          refine lv_iload_n hx hb dX1_takes_116 rfl (lv_at hl 3 rfl) ?_
          refine rn_iald C hw (N := 10) (by decide) hn (by decide) dX1_takes_117 ?_
          refine lv_goto (tgt := 127) hx hb dX1_takes_118 (by decide) ?_
          refine rn_iast C hw (N := 10) (by decide) hn (by decide) dX1_takes_127 (fun H locs hw => ?_)
          exact rn_vret C hr hlocks hw dX1_takes_128 (by first | with_reducible rfl | (rw [rn_takes, if_pos c_19, if_pos c_34]; exact (if_neg c_109).symm) | (first | with_reducible rfl | (simp only [rn_takes, rn_tk, rn_tk1, rn_tk2, rn_tk3, if_pos c_19, if_pos c_34, if_neg c_109, ↓reduceIte, Bool.false_eq_true]; done) | (simp only [rn_takes, rn_tk, rn_tk1, rn_tk2, rn_tk3, if_pos c_19, if_pos c_34, if_neg c_109, ↓reduceIte, Bool.false_eq_true]; rfl) | rfl))
    · skip
      refine lv_iconst (v := 1) hx hb dX1_takes_37 (by decide) ?_
      refine lv_goto (tgt := 42) hx hb dX1_takes_38 (by decide) ?_
      refine lv_istore (lv' := [(4, .int 1), (3, .int (nI (10 * n + o))), (0, .ref (a 0)), (1, .int (nI n)), (2, .int (nI o))]) hx hb dX1_takes_42 hl (by decide) rfl (fun ls hl => ?_)
      refine lv_aload_n hx hb dX1_takes_44 rfl (lv_at hl 2 rfl) ?_
      refine rn_geta C hw 11 7 (by decide) rfl (hts _ (by decide +kernel)) rfl dX1_takes_45 ?_
      refine lv_iload_n hx hb dX1_takes_48 rfl (lv_at hl 3 rfl) ?_
      refine lv_iload_n hx hb dX1_takes_49 rfl (lv_at hl 4 rfl) ?_
      refine rn_iast C hw (N := 10) (by decide) hn (by decide) dX1_takes_50 (fun H locs hw => ?_)
      refine lv_aload_n hx hb dX1_takes_51 rfl (lv_at hl 2 rfl) ?_
      refine rn_geta C hw 8 4 (by decide) rfl (hts _ (by decide +kernel)) rfl dX1_takes_52 ?_
      refine lv_iload_n hx hb dX1_takes_55 rfl (lv_at hl 3 rfl) ?_
      refine lv_aload_n hx hb dX1_takes_56 rfl (lv_at hl 2 rfl) ?_
      refine rn_geta C hw 15 11 (by decide) rfl (hts _ (by decide +kernel)) rfl dX1_takes_57 ?_
      refine lv_iload_n hx hb dX1_takes_60 rfl (lv_at hl 1 rfl) ?_
      refine rn_iald C hw (N := 100) (by decide) (by omega) (by decide) dX1_takes_61 ?_
      refine rn_iast C hw (N := 10) (by decide) hn (by decide) dX1_takes_62 (fun H locs hw => ?_)
      refine lv_aload_n hx hb dX1_takes_63 rfl (lv_at hl 2 rfl) ?_
      refine rn_geta C hw 9 5 (by decide) rfl (hts _ (by decide +kernel)) rfl dX1_takes_64 ?_
      refine lv_iload_n hx hb dX1_takes_67 rfl (lv_at hl 3 rfl) ?_
      refine lv_aload_n hx hb dX1_takes_68 rfl (lv_at hl 2 rfl) ?_
      refine rn_geta C hw 16 12 (by decide) rfl (hts _ (by decide +kernel)) rfl dX1_takes_69 ?_
      refine lv_iload_n hx hb dX1_takes_72 rfl (lv_at hl 1 rfl) ?_
      refine rn_iald C hw (N := 100) (by decide) (by omega) (by decide) dX1_takes_73 ?_
      refine rn_iast C hw (N := 10) (by decide) hn (by decide) dX1_takes_74 (fun H locs hw => ?_)
      refine lv_aload_n hx hb dX1_takes_75 rfl (lv_at hl 2 rfl) ?_
      refine rn_geta C hw 10 6 (by decide) rfl (hts _ (by decide +kernel)) rfl dX1_takes_76 ?_
      refine lv_iload_n hx hb dX1_takes_79 rfl (lv_at hl 3 rfl) ?_
      refine lv_aload_n hx hb dX1_takes_80 rfl (lv_at hl 2 rfl) ?_
      refine lv_iload_n hx hb dX1_takes_81 rfl (lv_at hl 3 rfl) ?_
      refine lv_iload_n hx hb dX1_takes_82 rfl (lv_at hl 4 rfl) ?_
      refine rn_callI C hw hA (As := [.int (nI n), .int (nI o)]) (rest := [.int (nI n), .ref (a 6)]) (kX1_rankBy l k a ha (rm_up (rm_up (rm_up σ 7 n (nI o)) 4 n ((rm_up σ 7 n (nI o)) 11 (10 * n + o))) 5 n ((rm_up (rm_up σ 7 n (nI o)) 4 n ((rm_up σ 7 n (nI o)) 11 (10 * n + o))) 12 (10 * n + o))) n o hn ho) (cwV 2 hts gX1_takes_X1_rankBy rfl rfl rfl (by decide +kernel) ⟨Nat.le_of_ble_eq_true rfl, Nat.le_of_ble_eq_true rfl⟩) rfl hl.1 rfl (lv_room (Nat.le_of_ble_eq_true rfl)) dX1_takes_83 ⟨Nat.zero_le _, Nat.zero_le _⟩ (fun H locs hw => ?_)
      refine rn_iast C hw (N := 10) (by decide) hn (by decide) dX1_takes_86 (fun H locs hw => ?_)
      refine lv_aload_n hx hb dX1_takes_87 rfl (lv_at hl 2 rfl) ?_
      refine rn_geta C hw 12 8 (by decide) rfl (hts _ (by decide +kernel)) rfl dX1_takes_88 ?_
      refine lv_iload_n hx hb dX1_takes_91 rfl (lv_at hl 3 rfl) ?_
      refine lv_iload hx hb dX1_takes_92 (lv_at hl 0 rfl) ?_
      refine lv_if_ne (tgt := 112) hx hb dX1_takes_94 (by decide) (fun c_94 => ?_) (fun c_94 => ?_)
      · skip
        refine lv_aload_n hx hb dX1_takes_112 rfl (lv_at hl 2 rfl) ?_
        refine rn_geta C hw 10 6 (by decide) rfl (hts _ (by decide +kernel)) rfl dX1_takes_113 ?_
        refine lv_iload_n hx hb dX1_takes_116 rfl (lv_at hl 3 rfl) ?_
        refine rn_iald C hw (N := 10) (by decide) hn (by decide) dX1_takes_117 ?_
        refine lv_goto (tgt := 127) hx hb dX1_takes_118 (by decide) ?_
        refine rn_iast C hw (N := 10) (by decide) hn (by decide) dX1_takes_127 (fun H locs hw => ?_)
        exact rn_vret C hr hlocks hw dX1_takes_128 (by first | with_reducible rfl | (rw [rn_takes, if_pos c_19]; exact (if_neg c_34).symm) | (first | with_reducible rfl | (simp only [rn_takes, rn_tk, rn_tk1, rn_tk2, rn_tk3, if_pos c_19, if_neg c_34, ↓reduceIte, Bool.false_eq_true]; done) | (simp only [rn_takes, rn_tk, rn_tk1, rn_tk2, rn_tk3, if_pos c_19, if_neg c_34, ↓reduceIte, Bool.false_eq_true]; rfl) | rfl))
      · exact absurd c_94 (by decide)
set_option maxHeartbeats 4000000 in
set_option maxRecDepth 100000 in
theorem kX1_chooses (l : Launch) (k : rm_K) (a : Nat → Nat) (ha : rn_inj a) (σ : rm_St) (n : Nat) (hn : n < 10) (hok : rn_ok σ) : rn_MV l k a yX1_chooses wsX1_chooses ({ frames := 2, cells := 0, slots := 0, locals := 49 }) [.int (nI n)] σ  (rn_chooses σ n) := by
  refine rn_enterV (cc := cX1_chooses) (nL := 7) (ret := none) ha (by decide) rfl rfl (by decide +kernel) (Nat.le_of_ble_eq_true rfl) ?_
  intro p e s m args below meth c ls C hr hlocks hw hl
  have hx := C.1.1
  have hb := C.1.2.1
  have hts := C.1.2.2.2.2
  have hA : ∀ q, s.heap.size ≤ q → rn_A a s.heap.size q := fun q h => Or.inr h
  replace hl : lv_has ls 7 [(0, .ref (a 0)), (1, .int (nI n))] := hl
  refine lv_aload_n hx hb dX1_chooses_0 rfl (lv_at hl 0 rfl) ?_
  refine rn_geta C hw 6 2 (by decide) rfl (hts _ (by decide +kernel)) rfl dX1_chooses_1 ?_
  refine lv_iload_n hx hb dX1_chooses_4 rfl (lv_at hl 1 rfl) ?_
  refine rn_zald C hw hn dX1_chooses_5 ?_
  refine lv_if_eq (tgt := 10) hx hb dX1_chooses_6 (by decide) (fun c_6 => ?_) (fun c_6 => ?_)
  · skip
    refine lv_iconst (v := (-1)) hx hb dX1_chooses_10 (by decide) ?_
    refine lv_istore_n (lv' := [(2, .int ((-1))), (0, .ref (a 0)), (1, .int (nI n))]) hx hb dX1_chooses_11 rfl hl (by decide) rfl (fun ls hl => ?_)
    refine lv_iconst (v := 0) hx hb dX1_chooses_12 (by decide) ?_
    refine lv_istore_n (lv' := [(3, .int 0), (2, .int ((-1))), (0, .ref (a 0)), (1, .int (nI n))]) hx hb dX1_chooses_13 rfl hl (by decide) rfl (fun ls hl => ?_)
    have lp_14 : ∀ (r i : Nat), i + r = 10 → ∀ (x2 : Int32), rn_bestL σ n r i x2 = rn_best σ n → (x2 = -1 ∨ isNd x2 = true) → ∀ (H : Heap) (locs : List Loc), rn_Wd k a (rn_A a s.heap.size) s.heap s σ H locs → ∀ (ls : Array Slot), lv_has ls 7 [(0, .ref (a 0)), (1, .int (nI n)), (2, .int x2), (3, .int (nI i))] → W p l e (headSpec wsX1_chooses ({ frames := 2, cells := 0, slots := 0, locals := 49 })).room s m args below meth c H locs 0 0 (MQ below (va_Qv (fun (τ : rm_St) => τ = (rn_chooses σ n)) (fun τ t => rn_P k a τ t) (rn_A a s.heap.size)) args s 0 0 (rn_A a s.heap.size)) (F0 m 14 ls []) := by
      intro r
      induction r with
      | zero =>
        intro i hi14 x2 ht14 hv14 H locs hw ls hl
        obtain rfl : 10 = i := by omega
        have hz14 : x2 = rn_best σ n := ht14
        refine lv_iload_n hx hb dX1_chooses_14 rfl (lv_at hl 3 rfl) ?_
        refine lv_bipush (v := 10) hx hb dX1_chooses_15 (by decide) ?_
        refine lv_icmp_ge (tgt := 61) hx hb dX1_chooses_17 (by decide) (fun c_17 => ?_) (fun c_17 => ?_)
        · skip
          have j177 : ∀ (τ : rm_St), τ = rn_after σ n (rn_pick σ n (rn_best σ n)) → ∀ (H : Heap) (locs : List Loc), rn_Wd k a (rn_A a s.heap.size) s.heap s τ H locs → ∀ (ls : Array Slot), lv_has ls 7 [(0, .ref (a 0)), (1, .int (nI n)), (3, .int (σ 7 n)), (4, .int (σ 4 n)), (5, .int (σ 5 n)), (6, .int (σ 6 n))] → W p l e (headSpec wsX1_chooses ({ frames := 2, cells := 0, slots := 0, locals := 49 })).room s m args below meth c H locs 0 0 (MQ below (va_Qv (fun (τ : rm_St) => τ = (rn_chooses σ n)) (fun τ t => rn_P k a τ t) (rn_A a s.heap.size)) args s 0 0 (rn_A a s.heap.size)) (F0 m 177 ls []) := by
            intro τ hτ H locs hw ls hl
            refine lv_aload_n hx hb dX1_chooses_177 rfl (lv_at hl 0 rfl) ?_
            refine rn_geta C hw 8 4 (by decide) rfl (hts _ (by decide +kernel)) rfl dX1_chooses_178 ?_
            refine lv_iload_n hx hb dX1_chooses_181 rfl (lv_at hl 1 rfl) ?_
            refine rn_iald C hw (N := 10) (by decide) hn (by decide) dX1_chooses_182 ?_
            refine lv_iload hx hb dX1_chooses_183 (lv_at hl 3 rfl) ?_
            refine lv_icmp_ne (tgt := 220) hx hb dX1_chooses_185 (by decide) (fun c_185 => ?_) (fun c_185 => ?_)
            · skip
              refine lv_aload_n hx hb dX1_chooses_220 rfl (lv_at hl 0 rfl) ?_
              refine lv_iload_n hx hb dX1_chooses_221 rfl (lv_at hl 1 rfl) ?_
              refine rn_callV C hw hA (As := [.int (nI n)]) (rest := []) (kX1_resets l k a ha τ n hn) (cwV 1 hts gX1_chooses_X1_resets rfl rfl rfl (by decide +kernel) ⟨Nat.le_of_ble_eq_true rfl, Nat.le_of_ble_eq_true rfl⟩) rfl hl.1 rfl (lv_room (Nat.le_of_ble_eq_true rfl)) dX1_chooses_222 ⟨Nat.zero_le _, Nat.zero_le _⟩ (fun H locs hw => ?_)
              exact rn_vret C hr hlocks hw dX1_chooses_225 (by first | with_reducible rfl | exact hz14 | (rw [← hz14]; done) | (rw [← hz14]; exact bI_f.symm) | (simp only [rn_chooses, rn_chooseT, if_pos c_6, ← hτ, if_neg c_185, ↓reduceIte, Bool.false_eq_true]; rw [← hz14]; done) | (rw [← hz14]; simp only [rn_bestL, ← hτ, if_neg c_185, ↓reduceIte, Bool.false_eq_true]; done) | (rw [← hz14]; simp only [rn_bestL, ← hτ, if_neg c_185, ↓reduceIte, Bool.false_eq_true]; with_reducible rfl) | (rw [← hz14]; simp only [rn_bestL, ← hτ, if_neg c_185, ↓reduceIte, Bool.false_eq_true]; rfl) | (simp only [rn_chooses, rn_chooseT, if_pos c_6, ← hτ, if_neg c_185, ↓reduceIte, Bool.false_eq_true]; done) | (simp only [rn_chooses, rn_chooseT, if_pos c_6, ← hτ, if_neg c_185, ↓reduceIte, Bool.false_eq_true]; with_reducible rfl))
            · skip
              refine lv_aload_n hx hb dX1_chooses_188 rfl (lv_at hl 0 rfl) ?_
              refine rn_geta C hw 9 5 (by decide) rfl (hts _ (by decide +kernel)) rfl dX1_chooses_189 ?_
              refine lv_iload_n hx hb dX1_chooses_192 rfl (lv_at hl 1 rfl) ?_
              refine rn_iald C hw (N := 10) (by decide) hn (by decide) dX1_chooses_193 ?_
              refine lv_iload hx hb dX1_chooses_194 (lv_at hl 4 rfl) ?_
              refine lv_icmp_ne (tgt := 220) hx hb dX1_chooses_196 (by decide) (fun c_196 => ?_) (fun c_196 => ?_)
              · skip
                refine lv_aload_n hx hb dX1_chooses_220 rfl (lv_at hl 0 rfl) ?_
                refine lv_iload_n hx hb dX1_chooses_221 rfl (lv_at hl 1 rfl) ?_
                refine rn_callV C hw hA (As := [.int (nI n)]) (rest := []) (kX1_resets l k a ha τ n hn) (cwV 1 hts gX1_chooses_X1_resets rfl rfl rfl (by decide +kernel) ⟨Nat.le_of_ble_eq_true rfl, Nat.le_of_ble_eq_true rfl⟩) rfl hl.1 rfl (lv_room (Nat.le_of_ble_eq_true rfl)) dX1_chooses_222 ⟨Nat.zero_le _, Nat.zero_le _⟩ (fun H locs hw => ?_)
                exact rn_vret C hr hlocks hw dX1_chooses_225 (by first | with_reducible rfl | exact hz14 | (rw [← hz14]; done) | (rw [← hz14]; exact bI_f.symm) | (simp only [rn_chooses, rn_chooseT, if_pos c_6, ← hτ, if_pos c_185, if_neg c_196, ↓reduceIte, Bool.false_eq_true]; rw [← hz14]; done) | (rw [← hz14]; simp only [rn_bestL, ← hτ, if_pos c_185, if_neg c_196, ↓reduceIte, Bool.false_eq_true]; done) | (rw [← hz14]; simp only [rn_bestL, ← hτ, if_pos c_185, if_neg c_196, ↓reduceIte, Bool.false_eq_true]; with_reducible rfl) | (rw [← hz14]; simp only [rn_bestL, ← hτ, if_pos c_185, if_neg c_196, ↓reduceIte, Bool.false_eq_true]; rfl) | (simp only [rn_chooses, rn_chooseT, if_pos c_6, ← hτ, if_pos c_185, if_neg c_196, ↓reduceIte, Bool.false_eq_true]; done) | (simp only [rn_chooses, rn_chooseT, if_pos c_6, ← hτ, if_pos c_185, if_neg c_196, ↓reduceIte, Bool.false_eq_true]; with_reducible rfl))
              · skip
                refine lv_aload_n hx hb dX1_chooses_199 rfl (lv_at hl 0 rfl) ?_
                refine rn_geta C hw 10 6 (by decide) rfl (hts _ (by decide +kernel)) rfl dX1_chooses_200 ?_
                refine lv_iload_n hx hb dX1_chooses_203 rfl (lv_at hl 1 rfl) ?_
                refine rn_iald C hw (N := 10) (by decide) hn (by decide) dX1_chooses_204 ?_
                refine lv_iload hx hb dX1_chooses_205 (lv_at hl 5 rfl) ?_
                refine lv_icmp_ne (tgt := 220) hx hb dX1_chooses_207 (by decide) (fun c_207 => ?_) (fun c_207 => ?_)
                · skip
                  refine lv_aload_n hx hb dX1_chooses_220 rfl (lv_at hl 0 rfl) ?_
                  refine lv_iload_n hx hb dX1_chooses_221 rfl (lv_at hl 1 rfl) ?_
                  refine rn_callV C hw hA (As := [.int (nI n)]) (rest := []) (kX1_resets l k a ha τ n hn) (cwV 1 hts gX1_chooses_X1_resets rfl rfl rfl (by decide +kernel) ⟨Nat.le_of_ble_eq_true rfl, Nat.le_of_ble_eq_true rfl⟩) rfl hl.1 rfl (lv_room (Nat.le_of_ble_eq_true rfl)) dX1_chooses_222 ⟨Nat.zero_le _, Nat.zero_le _⟩ (fun H locs hw => ?_)
                  exact rn_vret C hr hlocks hw dX1_chooses_225 (by first | with_reducible rfl | exact hz14 | (rw [← hz14]; done) | (rw [← hz14]; exact bI_f.symm) | (simp only [rn_chooses, rn_chooseT, if_pos c_6, ← hτ, if_pos c_185, if_pos c_196, if_neg c_207, ↓reduceIte, Bool.false_eq_true]; rw [← hz14]; done) | (rw [← hz14]; simp only [rn_bestL, ← hτ, if_pos c_185, if_pos c_196, if_neg c_207, ↓reduceIte, Bool.false_eq_true]; done) | (rw [← hz14]; simp only [rn_bestL, ← hτ, if_pos c_185, if_pos c_196, if_neg c_207, ↓reduceIte, Bool.false_eq_true]; with_reducible rfl) | (rw [← hz14]; simp only [rn_bestL, ← hτ, if_pos c_185, if_pos c_196, if_neg c_207, ↓reduceIte, Bool.false_eq_true]; rfl) | (simp only [rn_chooses, rn_chooseT, if_pos c_6, ← hτ, if_pos c_185, if_pos c_196, if_neg c_207, ↓reduceIte, Bool.false_eq_true]; done) | (simp only [rn_chooses, rn_chooseT, if_pos c_6, ← hτ, if_pos c_185, if_pos c_196, if_neg c_207, ↓reduceIte, Bool.false_eq_true]; with_reducible rfl))
                · skip
                  refine lv_aload_n hx hb dX1_chooses_210 rfl (lv_at hl 0 rfl) ?_
                  refine rn_geta C hw 11 7 (by decide) rfl (hts _ (by decide +kernel)) rfl dX1_chooses_211 ?_
                  refine lv_iload_n hx hb dX1_chooses_214 rfl (lv_at hl 1 rfl) ?_
                  refine rn_iald C hw (N := 10) (by decide) hn (by decide) dX1_chooses_215 ?_
                  refine lv_iload_n hx hb dX1_chooses_216 rfl (lv_at hl 2 rfl) ?_
                  refine lv_icmp_eq (tgt := 225) hx hb dX1_chooses_217 (by decide) (fun c_217 => ?_) (fun c_217 => ?_)
                  · skip
                    exact rn_vret C hr hlocks hw dX1_chooses_225 (by first | with_reducible rfl | exact hz14 | (rw [← hz14]; done) | (rw [← hz14]; exact bI_f.symm) | (simp only [rn_chooses, rn_chooseT, if_pos c_6, ← hτ, if_pos c_185, if_pos c_196, if_pos c_207, if_pos c_217, ↓reduceIte, Bool.false_eq_true]; rw [← hz14]; done) | (rw [← hz14]; simp only [rn_bestL, ← hτ, if_pos c_185, if_pos c_196, if_pos c_207, if_pos c_217, ↓reduceIte, Bool.false_eq_true]; done) | (rw [← hz14]; simp only [rn_bestL, ← hτ, if_pos c_185, if_pos c_196, if_pos c_207, if_pos c_217, ↓reduceIte, Bool.false_eq_true]; with_reducible rfl) | (rw [← hz14]; simp only [rn_bestL, ← hτ, if_pos c_185, if_pos c_196, if_pos c_207, if_pos c_217, ↓reduceIte, Bool.false_eq_true]; rfl) | (simp only [rn_chooses, rn_chooseT, if_pos c_6, ← hτ, if_pos c_185, if_pos c_196, if_pos c_207, if_pos c_217, ↓reduceIte, Bool.false_eq_true]; done) | (simp only [rn_chooses, rn_chooseT, if_pos c_6, ← hτ, if_pos c_185, if_pos c_196, if_pos c_207, if_pos c_217, ↓reduceIte, Bool.false_eq_true]; with_reducible rfl))
                  · skip
                    refine lv_aload_n hx hb dX1_chooses_220 rfl (lv_at hl 0 rfl) ?_
                    refine lv_iload_n hx hb dX1_chooses_221 rfl (lv_at hl 1 rfl) ?_
                    refine rn_callV C hw hA (As := [.int (nI n)]) (rest := []) (kX1_resets l k a ha τ n hn) (cwV 1 hts gX1_chooses_X1_resets rfl rfl rfl (by decide +kernel) ⟨Nat.le_of_ble_eq_true rfl, Nat.le_of_ble_eq_true rfl⟩) rfl hl.1 rfl (lv_room (Nat.le_of_ble_eq_true rfl)) dX1_chooses_222 ⟨Nat.zero_le _, Nat.zero_le _⟩ (fun H locs hw => ?_)
                    exact rn_vret C hr hlocks hw dX1_chooses_225 (by first | with_reducible rfl | exact hz14 | (rw [← hz14]; done) | (rw [← hz14]; exact bI_f.symm) | (simp only [rn_chooses, rn_chooseT, if_pos c_6, ← hτ, if_pos c_185, if_pos c_196, if_pos c_207, if_neg c_217, ↓reduceIte, Bool.false_eq_true]; rw [← hz14]; done) | (rw [← hz14]; simp only [rn_bestL, ← hτ, if_pos c_185, if_pos c_196, if_pos c_207, if_neg c_217, ↓reduceIte, Bool.false_eq_true]; done) | (rw [← hz14]; simp only [rn_bestL, ← hτ, if_pos c_185, if_pos c_196, if_pos c_207, if_neg c_217, ↓reduceIte, Bool.false_eq_true]; with_reducible rfl) | (rw [← hz14]; simp only [rn_bestL, ← hτ, if_pos c_185, if_pos c_196, if_pos c_207, if_neg c_217, ↓reduceIte, Bool.false_eq_true]; rfl) | (simp only [rn_chooses, rn_chooseT, if_pos c_6, ← hτ, if_pos c_185, if_pos c_196, if_pos c_207, if_neg c_217, ↓reduceIte, Bool.false_eq_true]; done) | (simp only [rn_chooses, rn_chooseT, if_pos c_6, ← hτ, if_pos c_185, if_pos c_196, if_pos c_207, if_neg c_217, ↓reduceIte, Bool.false_eq_true]; with_reducible rfl))
          have j123 : ∀ (y2 : Int32), y2 = rn_pick σ n (rn_best σ n) → ∀ (H : Heap) (locs : List Loc), rn_Wd k a (rn_A a s.heap.size) s.heap s σ H locs → ∀ (ls : Array Slot), lv_has ls 7 [(0, .ref (a 0)), (1, .int (nI n)), (2, .int y2), (3, .int (σ 7 n))] → W p l e (headSpec wsX1_chooses ({ frames := 2, cells := 0, slots := 0, locals := 49 })).room s m args below meth c H locs 0 0 (MQ below (va_Qv (fun (τ : rm_St) => τ = (rn_chooses σ n)) (fun τ t => rn_P k a τ t) (rn_A a s.heap.size)) args s 0 0 (rn_A a s.heap.size)) (F0 m 123 ls []) := by
            intro y2 hy H locs hw ls hl
            have hvy : y2 = -1 ∨ isNd y2 = true := by rw [hy]; exact rn_pick_ok (rn_best_ok 10 0 (-1) rfl (Or.inl rfl)) (hok n hn)
            refine lv_aload_n hx hb dX1_chooses_123 rfl (lv_at hl 0 rfl) ?_
            refine rn_geta C hw 8 4 (by decide) rfl (hts _ (by decide +kernel)) rfl dX1_chooses_124 ?_
            refine lv_iload_n hx hb dX1_chooses_127 rfl (lv_at hl 1 rfl) ?_
            refine rn_iald C hw (N := 10) (by decide) hn (by decide) dX1_chooses_128 ?_
            refine lv_istore (lv' := [(4, .int (σ 4 n)), (0, .ref (a 0)), (1, .int (nI n)), (2, .int y2), (3, .int (σ 7 n))]) hx hb dX1_chooses_129 hl (by decide) rfl (fun ls hl => ?_)
            refine lv_aload_n hx hb dX1_chooses_131 rfl (lv_at hl 1 rfl) ?_
            refine rn_geta C hw 9 5 (by decide) rfl (hts _ (by decide +kernel)) rfl dX1_chooses_132 ?_
            refine lv_iload_n hx hb dX1_chooses_135 rfl (lv_at hl 2 rfl) ?_
            refine rn_iald C hw (N := 10) (by decide) hn (by decide) dX1_chooses_136 ?_
            refine lv_istore (lv' := [(5, .int (σ 5 n)), (4, .int (σ 4 n)), (0, .ref (a 0)), (1, .int (nI n)), (2, .int y2), (3, .int (σ 7 n))]) hx hb dX1_chooses_137 hl (by decide) rfl (fun ls hl => ?_)
            refine lv_aload_n hx hb dX1_chooses_139 rfl (lv_at hl 2 rfl) ?_
            refine rn_geta C hw 10 6 (by decide) rfl (hts _ (by decide +kernel)) rfl dX1_chooses_140 ?_
            refine lv_iload_n hx hb dX1_chooses_143 rfl (lv_at hl 3 rfl) ?_
            refine rn_iald C hw (N := 10) (by decide) hn (by decide) dX1_chooses_144 ?_
            refine lv_istore (lv' := [(6, .int (σ 6 n)), (5, .int (σ 5 n)), (4, .int (σ 4 n)), (0, .ref (a 0)), (1, .int (nI n)), (2, .int y2), (3, .int (σ 7 n))]) hx hb dX1_chooses_145 hl (by decide) rfl (fun ls hl => ?_)
            refine lv_iload_n hx hb dX1_chooses_147 rfl (lv_at hl 5 rfl) ?_
            refine lv_iconst (v := (-1)) hx hb dX1_chooses_148 (by decide) ?_
            refine lv_icmp_ne (tgt := 171) hx hb dX1_chooses_149 (by decide) (fun c_149 => ?_) (fun c_149 => ?_)
            · skip
              obtain ⟨b2, hb2n, eb2⟩ := isNd_of (hvy.resolve_left c_149)
              rw [eb2] at hl
              refine lv_aload_n hx hb dX1_chooses_171 rfl (lv_at hl 3 rfl) ?_
              refine lv_iload_n hx hb dX1_chooses_172 rfl (lv_at hl 4 rfl) ?_
              refine lv_iload_n hx hb dX1_chooses_173 rfl (lv_at hl 5 rfl) ?_
              refine rn_callV C hw hA (As := [.int (nI n), .int (nI b2)]) (rest := []) (kX1_takes l k a ha σ n b2 hn hb2n) (cwV 2 hts gX1_chooses_X1_takes rfl rfl rfl (by decide +kernel) ⟨Nat.le_of_ble_eq_true rfl, Nat.le_of_ble_eq_true rfl⟩) rfl hl.1 rfl (lv_room (Nat.le_of_ble_eq_true rfl)) dX1_chooses_174 ⟨Nat.zero_le _, Nat.zero_le _⟩ (fun H locs hw => ?_)
              exact j177 _ (by rw [← hy, rn_after, if_neg c_149, eb2, rm_cl hb2n]) _ _ hw _ (lv_sub hl [3, 4, 6, 2, 1, 0] rfl)
            · skip
              refine lv_aload_n hx hb dX1_chooses_152 rfl (lv_at hl 3 rfl) ?_
              refine rn_geta C hw 11 7 (by decide) rfl (hts _ (by decide +kernel)) rfl dX1_chooses_153 ?_
              refine lv_iload_n hx hb dX1_chooses_156 rfl (lv_at hl 4 rfl) ?_
              refine lv_iconst (v := (-1)) hx hb dX1_chooses_157 (by decide) ?_
              refine rn_iast C hw (N := 10) (by decide) hn (by decide) dX1_chooses_158 (fun H locs hw => ?_)
              refine lv_aload_n hx hb dX1_chooses_159 rfl (lv_at hl 3 rfl) ?_
              refine rn_geta C hw 10 6 (by decide) rfl (hts _ (by decide +kernel)) rfl dX1_chooses_160 ?_
              refine lv_iload_n hx hb dX1_chooses_163 rfl (lv_at hl 4 rfl) ?_
              refine lv_sipush (v := 10000) hx hb dX1_chooses_164 (by decide) ?_
              refine rn_iast C hw (N := 10) (by decide) hn (by decide) dX1_chooses_167 (fun H locs hw => ?_)
              refine lv_goto (tgt := 177) hx hb dX1_chooses_168 (by decide) ?_
              exact j177 _ (by rw [← hy, rn_after, if_pos c_149]) _ _ hw _ (lv_sub hl [3, 4, 6, 2, 1, 0] rfl)
          have hb2 : x2 = rn_best σ n := hz14
          refine lv_aload_n hx hb dX1_chooses_61 rfl (lv_at hl 0 rfl) ?_
          refine rn_geta C hw 11 7 (by decide) rfl (hts _ (by decide +kernel)) rfl dX1_chooses_62 ?_
          refine lv_iload_n hx hb dX1_chooses_65 rfl (lv_at hl 1 rfl) ?_
          refine rn_iald C hw (N := 10) (by decide) hn (by decide) dX1_chooses_66 ?_
          refine lv_istore_n (lv' := [(3, .int (σ 7 n)), (0, .ref (a 0)), (1, .int (nI n)), (2, .int x2)]) hx hb dX1_chooses_67 rfl hl (by decide) rfl (fun ls hl => ?_)
          refine lv_iload_n hx hb dX1_chooses_68 rfl (lv_at hl 3 rfl) ?_
          refine lv_iconst (v := (-1)) hx hb dX1_chooses_69 (by decide) ?_
          refine lv_icmp_eq (tgt := 123) hx hb dX1_chooses_70 (by decide) (fun c_70 => ?_) (fun c_70 => ?_)
          · skip
            exact j123 _ (by rw [← hb2]; simp only [rn_pick, if_pos c_6, if_pos c_70, ↓reduceIte, Bool.false_eq_true]) _ _ hw _ (lv_sub hl [1, 2, 3, 0] rfl)
          · skip
            obtain ⟨ob, hob, rfl⟩ := isNd_of (hv14.resolve_left c_70)
            refine lv_iload_n hx hb dX1_chooses_73 rfl (lv_at hl 0 rfl) ?_
            refine lv_iconst (v := (-1)) hx hb dX1_chooses_74 (by decide) ?_
            refine lv_icmp_eq (tgt := 123) hx hb dX1_chooses_75 (by decide) (fun c_75 => ?_) (fun c_75 => ?_)
            · skip
              exact j123 _ (by rw [← hb2]; simp only [rn_pick, if_pos c_6, if_neg c_70, rm_cl hob, if_pos c_75, ↓reduceIte, Bool.false_eq_true]) _ _ hw _ (lv_sub hl [1, 2, 3, 0] rfl)
            · skip
              obtain ⟨oo, hoo, eoo⟩ := isNd_of ((hok n hn).resolve_left c_75)
              rw [eoo] at hl
              have eo1 : (σ 7 n).toNatClampNeg = oo := by rw [eoo, rm_cl hoo]
              refine lv_aload_n hx hb dX1_chooses_78 rfl (lv_at hl 1 rfl) ?_
              refine lv_iload_n hx hb dX1_chooses_79 rfl (lv_at hl 2 rfl) ?_
              refine lv_iload_n hx hb dX1_chooses_80 rfl (lv_at hl 0 rfl) ?_
              refine rn_callI C hw hA (As := [.int (nI n), .int (nI oo)]) (rest := []) (kX1_isCandidate l k a ha σ n oo hn hoo) (cwV 2 hts gX1_chooses_X1_isCandidate rfl rfl rfl (by decide +kernel) ⟨Nat.le_of_ble_eq_true rfl, Nat.le_of_ble_eq_true rfl⟩) rfl hl.1 rfl (lv_room (Nat.le_of_ble_eq_true rfl)) dX1_chooses_81 ⟨Nat.zero_le _, Nat.zero_le _⟩ (fun H locs hw => ?_)
              refine rm_ifeq (tgt := 123) hx hb dX1_chooses_84 (by decide) (fun c_84 => ?_) (fun c_84 => ?_)
              · skip
                rw [← eoo] at hl; exact j123 _ (by rw [← hb2]; simp only [rn_pick, if_pos c_6, if_neg c_70, rm_cl hob, if_neg c_75, eo1, c_84, ↓reduceIte, Bool.false_eq_true]) _ _ hw _ (lv_sub hl [1, 2, 3, 0] rfl)
              · skip
                refine lv_aload_n hx hb dX1_chooses_87 rfl (lv_at hl 1 rfl) ?_
                refine lv_iload_n hx hb dX1_chooses_88 rfl (lv_at hl 2 rfl) ?_
                refine lv_iload_n hx hb dX1_chooses_89 rfl (lv_at hl 0 rfl) ?_
                refine rn_callI C hw hA (As := [.int (nI n), .int (nI oo)]) (rest := []) (kX1_rankBy l k a ha σ n oo hn hoo) (cwV 2 hts gX1_chooses_X1_rankBy rfl rfl rfl (by decide +kernel) ⟨Nat.le_of_ble_eq_true rfl, Nat.le_of_ble_eq_true rfl⟩) rfl hl.1 rfl (lv_room (Nat.le_of_ble_eq_true rfl)) dX1_chooses_90 ⟨Nat.zero_le _, Nat.zero_le _⟩ (fun H locs hw => ?_)
                refine lv_aload_n hx hb dX1_chooses_93 rfl (lv_at hl 1 rfl) ?_
                refine lv_iload_n hx hb dX1_chooses_94 rfl (lv_at hl 2 rfl) ?_
                refine lv_iload_n hx hb dX1_chooses_95 rfl (lv_at hl 3 rfl) ?_
                refine rn_callI C hw hA (As := [.int (nI n), .int (nI ob)]) (rest := [.int (rn_rankBy σ n oo)]) (kX1_rankBy l k a ha σ n ob hn hob) (cwV 2 hts gX1_chooses_X1_rankBy rfl rfl rfl (by decide +kernel) ⟨Nat.le_of_ble_eq_true rfl, Nat.le_of_ble_eq_true rfl⟩) rfl hl.1 rfl (lv_room (Nat.le_of_ble_eq_true rfl)) dX1_chooses_96 ⟨Nat.zero_le _, Nat.zero_le _⟩ (fun H locs hw => ?_)
                refine lv_isub hx hb dX1_chooses_99 ?_
                refine lv_istore (lv' := [(4, .int ((rn_rankBy σ n oo) - (rn_rankBy σ n ob))), (3, .int (nI oo)), (0, .ref (a 0)), (1, .int (nI n)), (2, .int (nI ob))]) hx hb dX1_chooses_100 hl (by decide) rfl (fun ls hl => ?_)
                refine lv_iload hx hb dX1_chooses_102 (lv_at hl 0 rfl) ?_
                refine lv_aload_n hx hb dX1_chooses_104 rfl (lv_at hl 2 rfl) ?_
                refine rn_geti C hw 0 (by decide) (hts _ (by decide +kernel)) rfl dX1_chooses_105 ?_
                refine lv_icmp_lt (tgt := 121) hx hb dX1_chooses_108 (by decide) (fun c_108 => ?_) (fun c_108 => ?_)
                · skip
                  refine lv_iload_n hx hb dX1_chooses_121 rfl (lv_at hl 1 rfl) ?_
                  refine lv_istore_n (lv' := [(2, .int (nI oo)), (4, .int ((rn_rankBy σ n oo) - (rn_rankBy σ n ob))), (3, .int (nI oo)), (0, .ref (a 0)), (1, .int (nI n))]) hx hb dX1_chooses_122 rfl hl (by decide) rfl (fun ls hl => ?_)
                  rw [← eoo] at hl; exact j123 _ (by rw [← hb2]; simp only [rn_pick, if_pos c_6, if_neg c_70, rm_cl hob, if_neg c_75, eo1, c_84, if_pos c_108, ↓reduceIte, Bool.false_eq_true]) _ _ hw _ (lv_sub hl [3, 4, 0, 2] rfl)
                · skip
                  refine lv_iload hx hb dX1_chooses_111 (lv_at hl 0 rfl) ?_
                  refine lv_iconst (v := 1) hx hb dX1_chooses_113 (by decide) ?_
                  refine lv_icmp_lt (tgt := 121) hx hb dX1_chooses_114 (by decide) (fun c_114 => ?_) (fun c_114 => ?_)
                  · skip
                    refine lv_iload_n hx hb dX1_chooses_121 rfl (lv_at hl 1 rfl) ?_
                    refine lv_istore_n (lv' := [(2, .int (nI oo)), (4, .int ((rn_rankBy σ n oo) - (rn_rankBy σ n ob))), (3, .int (nI oo)), (0, .ref (a 0)), (1, .int (nI n))]) hx hb dX1_chooses_122 rfl hl (by decide) rfl (fun ls hl => ?_)
                    rw [← eoo] at hl; exact j123 _ (by rw [← hb2]; simp only [rn_pick, if_pos c_6, if_neg c_70, rm_cl hob, if_neg c_75, eo1, c_84, if_neg c_108, if_pos c_114, ↓reduceIte, Bool.false_eq_true]) _ _ hw _ (lv_sub hl [3, 4, 0, 2] rfl)
                  · skip
                    refine lv_iload_n hx hb dX1_chooses_117 rfl (lv_at hl 4 rfl) ?_
                    refine lv_goto (tgt := 122) hx hb dX1_chooses_118 (by decide) ?_
                    refine lv_istore_n (lv' := [(2, .int (nI ob)), (4, .int ((rn_rankBy σ n oo) - (rn_rankBy σ n ob))), (3, .int (nI oo)), (0, .ref (a 0)), (1, .int (nI n))]) hx hb dX1_chooses_122 rfl hl (by decide) rfl (fun ls hl => ?_)
                    rw [← eoo] at hl; exact j123 _ (by rw [← hb2]; simp only [rn_pick, if_pos c_6, if_neg c_70, rm_cl hob, if_neg c_75, eo1, c_84, if_neg c_108, if_neg c_114, ↓reduceIte, Bool.false_eq_true]) _ _ hw _ (lv_sub hl [3, 4, 0, 2] rfl)
        · exact absurd (show (10 : Int32) ≤ nI 10 from nI_le (a := 10) (b := 10) (Nat.le_refl _) (by decide)) c_17
      | succ r ih14 =>
        intro i hi14 x2 ht14 hv14 H locs hw ls hl
        have hlt14 : i < 10 := by omega
        refine lv_iload_n hx hb dX1_chooses_14 rfl (lv_at hl 3 rfl) ?_
        refine lv_bipush (v := 10) hx hb dX1_chooses_15 (by decide) ?_
        refine lv_icmp_ge (tgt := 61) hx hb dX1_chooses_17 (by decide) (fun c_17 => ?_) (fun c_17 => ?_)
        · exact absurd c_17 (nI_ge (a := i) (b := 10) hlt14 (by decide))
        · skip
          refine lv_aload_n hx hb dX1_chooses_20 rfl (lv_at hl 0 rfl) ?_
          refine lv_iload_n hx hb dX1_chooses_21 rfl (lv_at hl 1 rfl) ?_
          refine lv_iload_n hx hb dX1_chooses_22 rfl (lv_at hl 3 rfl) ?_
          refine rn_callI C hw hA (As := [.int (nI n), .int (nI i)]) (rest := []) (kX1_isCandidate l k a ha σ n i hn hlt14) (cwV 2 hts gX1_chooses_X1_isCandidate rfl rfl rfl (by decide +kernel) ⟨Nat.le_of_ble_eq_true rfl, Nat.le_of_ble_eq_true rfl⟩) rfl hl.1 rfl (lv_room (Nat.le_of_ble_eq_true rfl)) dX1_chooses_23 ⟨Nat.zero_le _, Nat.zero_le _⟩ (fun H locs hw => ?_)
          refine rm_ifeq (tgt := 53) hx hb dX1_chooses_26 (by decide) (fun c_26 => ?_) (fun c_26 => ?_)
          · skip
            refine lv_iload_n hx hb dX1_chooses_53 rfl (lv_at hl 2 rfl) ?_
            refine lv_istore_n (lv' := [(2, .int x2), (0, .ref (a 0)), (1, .int (nI n)), (3, .int (nI i))]) hx hb dX1_chooses_54 rfl hl (by decide) rfl (fun ls hl => ?_)
            refine lv_iinc (v := nI (i + 1)) (lv' := [(3, .int (nI (i + 1))), (2, .int x2), (0, .ref (a 0)), (1, .int (nI n))]) hx hb dX1_chooses_55 hl (k := 3) rfl (rm_inc i) (by decide) rfl (fun ls hl => ?_)
            refine lv_goto (tgt := 14) hx hb dX1_chooses_58 (by decide) ?_
            exact ih14 (i + 1) (by omega) (x2) (by refine Eq.trans ?_ ht14; first | with_reducible rfl | (simp only [rn_bestL, c_26, ↓reduceIte, Bool.false_eq_true]; done) | (simp only [rn_bestL, c_26, ↓reduceIte, Bool.false_eq_true]; with_reducible rfl)) (hv14) _ _ hw _ (lv_sub hl [2, 3, 1, 0] rfl)
          · skip
            refine lv_iload_n hx hb dX1_chooses_29 rfl (lv_at hl 2 rfl) ?_
            refine lv_iconst (v := (-1)) hx hb dX1_chooses_30 (by decide) ?_
            refine lv_icmp_eq (tgt := 49) hx hb dX1_chooses_31 (by decide) (fun c_31 => ?_) (fun c_31 => ?_)
            · skip
              refine lv_iload_n hx hb dX1_chooses_49 rfl (lv_at hl 3 rfl) ?_
              refine lv_goto (tgt := 54) hx hb dX1_chooses_50 (by decide) ?_
              refine lv_istore_n (lv' := [(2, .int (nI i)), (0, .ref (a 0)), (1, .int (nI n)), (3, .int (nI i))]) hx hb dX1_chooses_54 rfl hl (by decide) rfl (fun ls hl => ?_)
              refine lv_iinc (v := nI (i + 1)) (lv' := [(3, .int (nI (i + 1))), (2, .int (nI i)), (0, .ref (a 0)), (1, .int (nI n))]) hx hb dX1_chooses_55 hl (k := 3) rfl (rm_inc i) (by decide) rfl (fun ls hl => ?_)
              refine lv_goto (tgt := 14) hx hb dX1_chooses_58 (by decide) ?_
              exact ih14 (i + 1) (by omega) (nI i) (by refine Eq.trans ?_ ht14; first | with_reducible rfl | (simp only [rn_bestL, c_26, if_pos c_31, ↓reduceIte, Bool.false_eq_true]; done) | (simp only [rn_bestL, c_26, if_pos c_31, ↓reduceIte, Bool.false_eq_true]; with_reducible rfl)) (Or.inr (isNd_nI hlt14)) _ _ hw _ (lv_sub hl [2, 3, 1, 0] rfl)
            · skip
              obtain ⟨o1, ho1, rfl⟩ := isNd_of (hv14.resolve_left c_31)
              refine lv_aload_n hx hb dX1_chooses_34 rfl (lv_at hl 0 rfl) ?_
              refine lv_iload_n hx hb dX1_chooses_35 rfl (lv_at hl 1 rfl) ?_
              refine lv_iload_n hx hb dX1_chooses_36 rfl (lv_at hl 3 rfl) ?_
              refine rn_callI C hw hA (As := [.int (nI n), .int (nI i)]) (rest := []) (kX1_rankBy l k a ha σ n i hn hlt14) (cwV 2 hts gX1_chooses_X1_rankBy rfl rfl rfl (by decide +kernel) ⟨Nat.le_of_ble_eq_true rfl, Nat.le_of_ble_eq_true rfl⟩) rfl hl.1 rfl (lv_room (Nat.le_of_ble_eq_true rfl)) dX1_chooses_37 ⟨Nat.zero_le _, Nat.zero_le _⟩ (fun H locs hw => ?_)
              refine lv_aload_n hx hb dX1_chooses_40 rfl (lv_at hl 0 rfl) ?_
              refine lv_iload_n hx hb dX1_chooses_41 rfl (lv_at hl 1 rfl) ?_
              refine lv_iload_n hx hb dX1_chooses_42 rfl (lv_at hl 2 rfl) ?_
              refine rn_callI C hw hA (As := [.int (nI n), .int (nI o1)]) (rest := [.int (rn_rankBy σ n i)]) (kX1_rankBy l k a ha σ n o1 hn ho1) (cwV 2 hts gX1_chooses_X1_rankBy rfl rfl rfl (by decide +kernel) ⟨Nat.le_of_ble_eq_true rfl, Nat.le_of_ble_eq_true rfl⟩) rfl hl.1 rfl (lv_room (Nat.le_of_ble_eq_true rfl)) dX1_chooses_43 ⟨Nat.zero_le _, Nat.zero_le _⟩ (fun H locs hw => ?_)
              refine lv_icmp_ge (tgt := 53) hx hb dX1_chooses_46 (by decide) (fun c_46 => ?_) (fun c_46 => ?_)
              · skip
                refine lv_iload_n hx hb dX1_chooses_53 rfl (lv_at hl 2 rfl) ?_
                refine lv_istore_n (lv' := [(2, .int (nI o1)), (0, .ref (a 0)), (1, .int (nI n)), (3, .int (nI i))]) hx hb dX1_chooses_54 rfl hl (by decide) rfl (fun ls hl => ?_)
                refine lv_iinc (v := nI (i + 1)) (lv' := [(3, .int (nI (i + 1))), (2, .int (nI o1)), (0, .ref (a 0)), (1, .int (nI n))]) hx hb dX1_chooses_55 hl (k := 3) rfl (rm_inc i) (by decide) rfl (fun ls hl => ?_)
                refine lv_goto (tgt := 14) hx hb dX1_chooses_58 (by decide) ?_
                exact ih14 (i + 1) (by omega) (nI o1) (by refine Eq.trans ?_ ht14; first | with_reducible rfl | (simp only [rn_bestL, c_26, if_neg c_31, rm_cl ho1, if_pos c_46, ↓reduceIte, Bool.false_eq_true]; done) | (simp only [rn_bestL, c_26, if_neg c_31, rm_cl ho1, if_pos c_46, ↓reduceIte, Bool.false_eq_true]; with_reducible rfl)) (Or.inr (isNd_nI ho1)) _ _ hw _ (lv_sub hl [2, 3, 1, 0] rfl)
              · skip
                refine lv_iload_n hx hb dX1_chooses_49 rfl (lv_at hl 3 rfl) ?_
                refine lv_goto (tgt := 54) hx hb dX1_chooses_50 (by decide) ?_
                refine lv_istore_n (lv' := [(2, .int (nI i)), (0, .ref (a 0)), (1, .int (nI n)), (3, .int (nI i))]) hx hb dX1_chooses_54 rfl hl (by decide) rfl (fun ls hl => ?_)
                refine lv_iinc (v := nI (i + 1)) (lv' := [(3, .int (nI (i + 1))), (2, .int (nI i)), (0, .ref (a 0)), (1, .int (nI n))]) hx hb dX1_chooses_55 hl (k := 3) rfl (rm_inc i) (by decide) rfl (fun ls hl => ?_)
                refine lv_goto (tgt := 14) hx hb dX1_chooses_58 (by decide) ?_
                exact ih14 (i + 1) (by omega) (nI i) (by refine Eq.trans ?_ ht14; first | with_reducible rfl | (simp only [rn_bestL, c_26, if_neg c_31, rm_cl ho1, if_neg c_46, ↓reduceIte, Bool.false_eq_true]; done) | (simp only [rn_bestL, c_26, if_neg c_31, rm_cl ho1, if_neg c_46, ↓reduceIte, Bool.false_eq_true]; with_reducible rfl)) (Or.inr (isNd_nI hlt14)) _ _ hw _ (lv_sub hl [2, 3, 1, 0] rfl)
    exact lp_14 10 0 (by omega) ((-1)) (by first | with_reducible rfl | (unfold rn_best; with_reducible rfl) | (simp only [rn_chooses, rn_chooseT, if_pos c_6, ↓reduceIte, Bool.false_eq_true]; done) | (simp only [rn_chooses, rn_chooseT, if_pos c_6, ↓reduceIte, Bool.false_eq_true]; with_reducible rfl)) (Or.inl rfl) _ _ hw _ (lv_sub hl [2, 3, 1, 0] rfl)
  · skip
    exact rn_vret C hr hlocks hw dX1_chooses_9 (by first | with_reducible rfl | (simp only [rn_chooses, rn_chooseT, if_neg c_6, ↓reduceIte, Bool.false_eq_true]; done) | (simp only [rn_chooses, rn_chooseT, if_neg c_6, ↓reduceIte, Bool.false_eq_true]; rfl) | rfl)

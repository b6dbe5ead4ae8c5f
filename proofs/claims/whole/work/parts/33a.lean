set_option maxHeartbeats 4000000 in
set_option maxRecDepth 100000 in
theorem kX1_tells (l : Launch) (k : rm_K) (a : Nat → Nat) (ha : rn_inj a) (σ : rm_St) (t : Nat) (ht : t < 10) (hok : rn_ok σ) : rn_MV l k a yX1_tells wsX1_tells ({ frames := 3, cells := 0, slots := 0, locals := 75 }) [.int (nI t)] σ  (rn_tells σ t) := by
  refine rn_enterV (cc := cX1_tells) (nL := 4) (ret := none) ha (by decide) rfl rfl (by decide +kernel) (Nat.le_of_ble_eq_true rfl) ?_
  intro p e s m args below meth c ls C hr hlocks hw hl
  have hx := C.1.1
  have hb := C.1.2.1
  have hts := C.1.2.2.2.2
  have hA : ∀ q, s.heap.size ≤ q → rn_A a s.heap.size q := fun q h => Or.inr h
  replace hl : lv_has ls 4 [(0, .ref (a 0)), (1, .int (nI t))] := hl
  refine lv_iconst (v := 0) hx hb dX1_tells_0 (by decide) ?_
  refine lv_istore_n (lv' := [(2, .int 0), (0, .ref (a 0)), (1, .int (nI t))]) hx hb dX1_tells_1 rfl hl (by decide) rfl (fun ls hl => ?_)
  have lp_2 : ∀ (r i : Nat), i + r = 10 → ∀ (τ2 : rm_St), rn_tellL t r i τ2 = rn_tells σ t → rn_ok τ2 → ∀ (H : Heap) (locs : List Loc), rn_Wd k a (rn_A a s.heap.size) s.heap s τ2 H locs → ∀ (ls : Array Slot), lv_has ls 4 [(0, .ref (a 0)), (1, .int (nI t)), (2, .int (nI i))] → W p l e (headSpec wsX1_tells ({ frames := 3, cells := 0, slots := 0, locals := 75 })).room s m args below meth c H locs 0 0 (MQ below (va_Qv (fun (τ : rm_St) => τ = (rn_tells σ t)) (fun τ t => rn_P k a τ t) (rn_A a s.heap.size)) args s 0 0 (rn_A a s.heap.size)) (F0 m 2 ls []) := by
    intro r
    induction r with
    | zero =>
      intro i hi2 τ2 ht2 hv2 H locs hw ls hl
      obtain rfl : 10 = i := by omega
      have hz2 : τ2 = rn_tells σ t := ht2
      refine lv_iload_n hx hb dX1_tells_2 rfl (lv_at hl 2 rfl) ?_
      refine lv_bipush (v := 10) hx hb dX1_tells_3 (by decide) ?_
      refine lv_icmp_ge (tgt := 76) hx hb dX1_tells_5 (by decide) (fun c_5 => ?_) (fun c_5 => ?_)
      · skip
        exact rn_vret C hr hlocks hw dX1_tells_76 (by first | with_reducible rfl | exact hz2 | (rw [← hz2]; done) | (rw [← hz2]; exact bI_f.symm) | (simp only [rn_tells, ↓reduceIte, Bool.false_eq_true]; rw [← hz2]; done) | (rw [← hz2]; simp only [rn_tellL, rn_hear, ↓reduceIte, Bool.false_eq_true]; done) | (rw [← hz2]; simp only [rn_tellL, rn_hear, ↓reduceIte, Bool.false_eq_true]; with_reducible rfl) | (rw [← hz2]; simp only [rn_tellL, rn_hear, ↓reduceIte, Bool.false_eq_true]; rfl) | (simp only [rn_tells, ↓reduceIte, Bool.false_eq_true]; done) | (simp only [rn_tells, ↓reduceIte, Bool.false_eq_true]; with_reducible rfl))
      · exact absurd (show (10 : Int32) ≤ nI 10 from nI_le (a := 10) (b := 10) (Nat.le_refl _) (by decide)) c_5
    | succ r ih2 =>
      intro i hi2 τ2 ht2 hv2 H locs hw ls hl
      have hlt2 : i < 10 := by omega
      refine lv_iload_n hx hb dX1_tells_2 rfl (lv_at hl 2 rfl) ?_
      refine lv_bipush (v := 10) hx hb dX1_tells_3 (by decide) ?_
      refine lv_icmp_ge (tgt := 76) hx hb dX1_tells_5 (by decide) (fun c_5 => ?_) (fun c_5 => ?_)
      · exact absurd c_5 (nI_ge (a := i) (b := 10) hlt2 (by decide))
      · skip
        refine lv_aload_n hx hb dX1_tells_8 rfl (lv_at hl 0 rfl) ?_
        refine rn_geta C hw 5 1 (by decide) rfl (hts _ (by decide +kernel)) rfl dX1_tells_9 ?_
        refine lv_bipush (v := 10) hx hb dX1_tells_12 (by decide) ?_
        refine lv_iload_n hx hb dX1_tells_14 rfl (lv_at hl 1 rfl) ?_
        refine lv_imul hx hb dX1_tells_15 ?_
        rw [rn_mul]
        refine lv_iload_n hx hb dX1_tells_16 rfl (lv_at hl 2 rfl) ?_
        refine lv_iadd hx hb dX1_tells_17 ?_
        rw [nI_add]
        refine rn_iald C hw (N := 100) (by decide) (by omega) (by decide) dX1_tells_18 ?_
        refine lv_if_le (tgt := 70) hx hb dX1_tells_19 (by decide) (fun c_19 => ?_) (fun c_19 => ?_)
        · skip
          refine lv_iinc (v := nI (i + 1)) (lv' := [(2, .int (nI (i + 1))), (0, .ref (a 0)), (1, .int (nI t))]) hx hb dX1_tells_70 hl (k := 2) rfl (rm_inc i) (by decide) rfl (fun ls hl => ?_)
          refine lv_goto (tgt := 2) hx hb dX1_tells_73 (by decide) ?_
          exact ih2 (i + 1) (by omega) (τ2) (by refine Eq.trans ?_ ht2; first | with_reducible rfl | (simp only [rn_tellL, rn_hear, if_pos c_19, ↓reduceIte, Bool.false_eq_true]; done) | (simp only [rn_tellL, rn_hear, if_pos c_19, ↓reduceIte, Bool.false_eq_true]; with_reducible rfl)) (by repeat (first | assumption | with_reducible apply rn_ok_m1 | with_reducible apply rn_ok_up | with_reducible apply rn_ok_ch | with_reducible apply rn_ok_hear | with_reducible apply rn_ok_resets | with_reducible apply rn_ok_tells | with_reducible apply rn_ok_len | with_reducible apply rn_ok_begins | decide)) _ _ hw _ (lv_sub hl [1, 2, 0] rfl)
        · skip
          refine lv_bipush (v := 10) hx hb dX1_tells_22 (by decide) ?_
          refine lv_iload_n hx hb dX1_tells_24 rfl (lv_at hl 2 rfl) ?_
          refine lv_imul hx hb dX1_tells_25 ?_
          rw [rn_mul]
          refine lv_iload_n hx hb dX1_tells_26 rfl (lv_at hl 1 rfl) ?_
          refine lv_iadd hx hb dX1_tells_27 ?_
          rw [nI_add]
          refine lv_istore_n (lv' := [(3, .int (nI (10 * i + t))), (0, .ref (a 0)), (1, .int (nI t)), (2, .int (nI i))]) hx hb dX1_tells_28 rfl hl (by decide) rfl (fun ls hl => ?_)
          refine lv_aload_n hx hb dX1_tells_29 rfl (lv_at hl 1 rfl) ?_
          refine rn_geta C hw 15 11 (by decide) rfl (hts _ (by decide +kernel)) rfl dX1_tells_30 ?_
          refine lv_iload_n hx hb dX1_tells_33 rfl (lv_at hl 0 rfl) ?_
          refine lv_aload_n hx hb dX1_tells_34 rfl (lv_at hl 1 rfl) ?_
          refine rn_geta C hw 8 4 (by decide) rfl (hts _ (by decide +kernel)) rfl dX1_tells_35 ?_
          refine lv_iload_n hx hb dX1_tells_38 rfl (lv_at hl 2 rfl) ?_
          refine rn_iald C hw (N := 10) (by decide) ht (by decide) dX1_tells_39 ?_
          refine rn_iast C hw (N := 100) (by decide) (by omega) (by decide) dX1_tells_40 (fun H locs hw => ?_)
          refine lv_aload_n hx hb dX1_tells_41 rfl (lv_at hl 1 rfl) ?_
          refine rn_geta C hw 16 12 (by decide) rfl (hts _ (by decide +kernel)) rfl dX1_tells_42 ?_
          refine lv_iload_n hx hb dX1_tells_45 rfl (lv_at hl 0 rfl) ?_
          refine lv_aload_n hx hb dX1_tells_46 rfl (lv_at hl 1 rfl) ?_
          refine rn_geta C hw 9 5 (by decide) rfl (hts _ (by decide +kernel)) rfl dX1_tells_47 ?_
          refine lv_iload_n hx hb dX1_tells_50 rfl (lv_at hl 2 rfl) ?_
          refine rn_iald C hw (N := 10) (by decide) ht (by decide) dX1_tells_51 ?_
          refine rn_iast C hw (N := 100) (by decide) (by omega) (by decide) dX1_tells_52 (fun H locs hw => ?_)
          refine lv_aload_n hx hb dX1_tells_53 rfl (lv_at hl 1 rfl) ?_
          refine rn_geta C hw 17 13 (by decide) rfl (hts _ (by decide +kernel)) rfl dX1_tells_54 ?_
          refine lv_iload_n hx hb dX1_tells_57 rfl (lv_at hl 0 rfl) ?_
          refine lv_aload_n hx hb dX1_tells_58 rfl (lv_at hl 1 rfl) ?_
          refine rn_geta C hw 10 6 (by decide) rfl (hts _ (by decide +kernel)) rfl dX1_tells_59 ?_
          refine lv_iload_n hx hb dX1_tells_62 rfl (lv_at hl 2 rfl) ?_
          refine rn_iald C hw (N := 10) (by decide) ht (by decide) dX1_tells_63 ?_
          refine rn_iast C hw (N := 100) (by decide) (by omega) (by decide) dX1_tells_64 (fun H locs hw => ?_)
          refine lv_aload_n hx hb dX1_tells_65 rfl (lv_at hl 1 rfl) ?_
          refine lv_iload_n hx hb dX1_tells_66 rfl (lv_at hl 3 rfl) ?_
          refine rn_callV C hw hA (As := [.int (nI i)]) (rest := []) (kX1_chooses l k a ha (rm_up (rm_up (rm_up τ2 11 (10 * i + t) (τ2 4 t)) 12 (10 * i + t) ((rm_up τ2 11 (10 * i + t) (τ2 4 t)) 5 t)) 13 (10 * i + t) ((rm_up (rm_up τ2 11 (10 * i + t) (τ2 4 t)) 12 (10 * i + t) ((rm_up τ2 11 (10 * i + t) (τ2 4 t)) 5 t)) 6 t)) i hlt2 (by repeat (first | assumption | with_reducible apply rn_ok_m1 | with_reducible apply rn_ok_up | with_reducible apply rn_ok_ch | with_reducible apply rn_ok_hear | with_reducible apply rn_ok_resets | with_reducible apply rn_ok_tells | with_reducible apply rn_ok_len | with_reducible apply rn_ok_begins | decide))) (cwV 1 hts gX1_tells_X1_chooses rfl rfl rfl (by decide +kernel) ⟨Nat.le_of_ble_eq_true rfl, Nat.le_of_ble_eq_true rfl⟩) rfl hl.1 rfl (lv_room (Nat.le_of_ble_eq_true rfl)) dX1_tells_67 ⟨Nat.zero_le _, Nat.zero_le _⟩ (fun H locs hw => ?_)
          refine lv_iinc (v := nI (i + 1)) (lv' := [(2, .int (nI (i + 1))), (3, .int (nI (10 * i + t))), (0, .ref (a 0)), (1, .int (nI t))]) hx hb dX1_tells_70 hl (k := 3) rfl (rm_inc i) (by decide) rfl (fun ls hl => ?_)
          refine lv_goto (tgt := 2) hx hb dX1_tells_73 (by decide) ?_
          exact ih2 (i + 1) (by omega) (rn_chooses (rm_up (rm_up (rm_up τ2 11 (10 * i + t) (τ2 4 t)) 12 (10 * i + t) ((rm_up τ2 11 (10 * i + t) (τ2 4 t)) 5 t)) 13 (10 * i + t) ((rm_up (rm_up τ2 11 (10 * i + t) (τ2 4 t)) 12 (10 * i + t) ((rm_up τ2 11 (10 * i + t) (τ2 4 t)) 5 t)) 6 t)) i) (by refine Eq.trans ?_ ht2; first | with_reducible rfl | (simp only [rn_tellL, rn_hear, if_neg c_19, ↓reduceIte, Bool.false_eq_true]; done) | (simp only [rn_tellL, rn_hear, if_neg c_19, ↓reduceIte, Bool.false_eq_true]; with_reducible rfl)) (by repeat (first | assumption | with_reducible apply rn_ok_m1 | with_reducible apply rn_ok_up | with_reducible apply rn_ok_ch | with_reducible apply rn_ok_hear | with_reducible apply rn_ok_resets | with_reducible apply rn_ok_tells | with_reducible apply rn_ok_len | with_reducible apply rn_ok_begins | decide)) _ _ hw _ (lv_sub hl [2, 3, 0] rfl)
  exact lp_2 10 0 (by omega) (σ) (by first | with_reducible rfl | (unfold rn_tells; with_reducible rfl) | (simp only [rn_tells, ↓reduceIte, Bool.false_eq_true]; done) | (simp only [rn_tells, ↓reduceIte, Bool.false_eq_true]; with_reducible rfl)) (hok) _ _ hw _ (lv_sub hl [1, 2, 0] rfl)
set_option maxHeartbeats 4000000 in
set_option maxRecDepth 100000 in
theorem kX1_begins (l : Launch) (k : rm_K) (a : Nat → Nat) (ha : rn_inj a) (σ : rm_St) (n : Nat) (hn : n < 10) : rn_MV l k a yX1_begins wsX1_begins ({ frames := 1, cells := 0, slots := 0, locals := 21 }) [.int (nI n)] σ  (rn_begins σ n) := by
  refine rn_enterV (cc := cX1_begins) (nL := 2) (ret := none) ha (by decide) rfl rfl (by decide +kernel) (Nat.le_of_ble_eq_true rfl) ?_
  intro p e s m args below meth c ls C hr hlocks hw hl
  have hx := C.1.1
  have hb := C.1.2.1
  have hts := C.1.2.2.2.2
  have hA : ∀ q, s.heap.size ≤ q → rn_A a s.heap.size q := fun q h => Or.inr h
  replace hl : lv_has ls 2 [(0, .ref (a 0)), (1, .int (nI n))] := hl
  refine lv_aload_n hx hb dX1_begins_0 rfl (lv_at hl 0 rfl) ?_
  refine rn_geta C hw 7 3 (by decide) rfl (hts _ (by decide +kernel)) rfl dX1_begins_1 ?_
  refine lv_iload_n hx hb dX1_begins_4 rfl (lv_at hl 1 rfl) ?_
  refine lv_dup2_11 hx hb dX1_begins_5 rfl rfl ?_
  refine rn_iald C hw (N := 10) (by decide) hn (by decide) dX1_begins_6 ?_
  refine lv_iconst (v := 1) hx hb dX1_begins_7 (by decide) ?_
  refine lv_iadd hx hb dX1_begins_8 ?_
  refine rn_iast C hw (N := 10) (by decide) hn (by decide) dX1_begins_9 (fun H locs hw => ?_)
  refine lv_aload_n hx hb dX1_begins_10 rfl (lv_at hl 0 rfl) ?_
  refine rn_geta C hw 8 4 (by decide) rfl (hts _ (by decide +kernel)) rfl dX1_begins_11 ?_
  refine lv_iload_n hx hb dX1_begins_14 rfl (lv_at hl 1 rfl) ?_
  refine lv_iload_n hx hb dX1_begins_15 rfl (lv_at hl 1 rfl) ?_
  refine rn_iast C hw (N := 10) (by decide) hn (by decide) dX1_begins_16 (fun H locs hw => ?_)
  refine lv_aload_n hx hb dX1_begins_17 rfl (lv_at hl 0 rfl) ?_
  refine rn_geta C hw 9 5 (by decide) rfl (hts _ (by decide +kernel)) rfl dX1_begins_18 ?_
  refine lv_iload_n hx hb dX1_begins_21 rfl (lv_at hl 1 rfl) ?_
  refine lv_aload_n hx hb dX1_begins_22 rfl (lv_at hl 0 rfl) ?_
  refine rn_geta C hw 7 3 (by decide) rfl (hts _ (by decide +kernel)) rfl dX1_begins_23 ?_
  refine lv_iload_n hx hb dX1_begins_26 rfl (lv_at hl 1 rfl) ?_
  refine rn_iald C hw (N := 10) (by decide) hn (by decide) dX1_begins_27 ?_
  refine rn_iast C hw (N := 10) (by decide) hn (by decide) dX1_begins_28 (fun H locs hw => ?_)
  refine lv_aload_n hx hb dX1_begins_29 rfl (lv_at hl 0 rfl) ?_
  refine rn_geta C hw 10 6 (by decide) rfl (hts _ (by decide +kernel)) rfl dX1_begins_30 ?_
  refine lv_iload_n hx hb dX1_begins_33 rfl (lv_at hl 1 rfl) ?_
  refine lv_iconst (v := 0) hx hb dX1_begins_34 (by decide) ?_
  refine rn_iast C hw (N := 10) (by decide) hn (by decide) dX1_begins_35 (fun H locs hw => ?_)
  refine lv_aload_n hx hb dX1_begins_36 rfl (lv_at hl 0 rfl) ?_
  refine rn_geta C hw 11 7 (by decide) rfl (hts _ (by decide +kernel)) rfl dX1_begins_37 ?_
  refine lv_iload_n hx hb dX1_begins_40 rfl (lv_at hl 1 rfl) ?_
  refine lv_iconst (v := (-1)) hx hb dX1_begins_41 (by decide) ?_
  refine rn_iast C hw (N := 10) (by decide) hn (by decide) dX1_begins_42 (fun H locs hw => ?_)
  refine lv_aload_n hx hb dX1_begins_43 rfl (lv_at hl 0 rfl) ?_
  refine rn_geta C hw 12 8 (by decide) rfl (hts _ (by decide +kernel)) rfl dX1_begins_44 ?_
  refine lv_iload_n hx hb dX1_begins_47 rfl (lv_at hl 1 rfl) ?_
  refine lv_iconst (v := 0) hx hb dX1_begins_48 (by decide) ?_
  refine rn_iast C hw (N := 10) (by decide) hn (by decide) dX1_begins_49 (fun H locs hw => ?_)
  refine lv_aload_n hx hb dX1_begins_50 rfl (lv_at hl 0 rfl) ?_
  refine lv_iload_n hx hb dX1_begins_51 rfl (lv_at hl 1 rfl) ?_
  refine rn_callV C hw hA (As := [.int (nI n)]) (rest := []) (kX1_resets l k a ha (rm_up (rm_up (rm_up (rm_up (rm_up (rm_up σ 3 n ((σ 3 n) + (1))) 4 n (nI n)) 5 n ((rm_up (rm_up σ 3 n ((σ 3 n) + (1))) 4 n (nI n)) 3 n)) 6 n (0)) 7 n ((-1))) 8 n (0)) n hn) (cwV 1 hts gX1_begins_X1_resets rfl rfl rfl (by decide +kernel) ⟨Nat.le_of_ble_eq_true rfl, Nat.le_of_ble_eq_true rfl⟩) rfl hl.1 rfl (lv_room (Nat.le_of_ble_eq_true rfl)) dX1_begins_52 ⟨Nat.zero_le _, Nat.zero_le _⟩ (fun H locs hw => ?_)
  exact rn_vret C hr hlocks hw dX1_begins_55 (by first | with_reducible rfl | (simp only [rn_begins, rn_beg1, ↓reduceIte, Bool.false_eq_true]; done) | (simp only [rn_begins, rn_beg1, ↓reduceIte, Bool.false_eq_true]; rfl) | rfl)

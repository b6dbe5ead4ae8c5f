set_option maxHeartbeats 4000000 in
set_option maxRecDepth 100000 in
theorem kX1_under (l : Launch) (k : rm_K) (a : Nat → Nat) (ha : rn_inj a) (σ : rm_St) (n : Nat) (hn : n < 10) : rn_MI l k a yX1_under wsX1_under ({ frames := 0, cells := 0, slots := 0, locals := 0 }) [.int (nI n)] σ (rn_under σ n) σ := by
  refine rn_enterI (cc := cX1_under) (nL := 5) (ret := (some .int)) ha (by decide) rfl rfl (by decide +kernel) (Nat.le_of_ble_eq_true rfl) ?_
  intro p e s m args below meth c ls C hr hlocks hw hl
  have hx := C.1.1
  have hb := C.1.2.1
  have hts := C.1.2.2.2.2
  have hA : ∀ q, s.heap.size ≤ q → rn_A a s.heap.size q := fun q h => Or.inr h
  replace hl : lv_has ls 5 [(0, .ref (a 0)), (1, .int (nI n))] := hl
  refine lv_iconst (v := 1) hx hb dX1_under_0 (by decide) ?_
  refine lv_iload_n hx hb dX1_under_1 rfl (lv_at hl 1 rfl) ?_
  refine lv_ishl hx hb dX1_under_2 ?_
  refine lv_istore_n (lv' := [(2, .int ((1) <<< ((nI n) &&& 31))), (0, .ref (a 0)), (1, .int (nI n))]) hx hb dX1_under_3 rfl hl (by decide) rfl (fun ls hl => ?_)
  refine lv_iconst (v := 0) hx hb dX1_under_4 (by decide) ?_
  refine lv_istore_n (lv' := [(3, .int 0), (2, .int ((1) <<< ((nI n) &&& 31))), (0, .ref (a 0)), (1, .int (nI n))]) hx hb dX1_under_5 rfl hl (by decide) rfl (fun ls hl => ?_)
  have lp_6 : ∀ (r t : Nat), t + r = 10 → ∀ (x2 : Int32), rn_undO σ r t x2 = rn_under σ n → ∀ (H : Heap) (locs : List Loc), rn_Wd k a (rn_A a s.heap.size) s.heap s σ H locs → ∀ (ls : Array Slot), lv_has ls 5 [(0, .ref (a 0)), (1, .int (nI n)), (2, .int x2), (3, .int (nI t))] → W p l e (headSpec wsX1_under ({ frames := 0, cells := 0, slots := 0, locals := 0 })).room s m args below meth c H locs 0 0 (MQ below (va_Qi (fun (r : Int32) (τ : rm_St) => r = (rn_under σ n) ∧ τ = σ) (fun τ t => rn_P k a τ t) (rn_A a s.heap.size)) args s 0 0 (rn_A a s.heap.size)) (F0 m 6 ls []) := by
    intro r
    induction r with
    | zero =>
      intro t hi6 x2 ht6 H locs hw ls hl
      obtain rfl : 10 = t := by omega
      have hz6 : x2 = rn_under σ n := ht6
      refine lv_iload_n hx hb dX1_under_6 rfl (lv_at hl 3 rfl) ?_
      refine lv_bipush (v := 10) hx hb dX1_under_7 (by decide) ?_
      refine lv_icmp_ge (tgt := 71) hx hb dX1_under_9 (by decide) (fun c_9 => ?_) (fun c_9 => ?_)
      · skip
        refine lv_iload_n hx hb dX1_under_71 rfl (lv_at hl 2 rfl) ?_
        exact rn_iret C hr hlocks hw dX1_under_72 ⟨by first | with_reducible rfl | exact hz6 | (rw [← hz6]; done) | (rw [← hz6]; exact bI_f.symm) | (simp only [rn_under, ↓reduceIte, Bool.false_eq_true]; rw [← hz6]; done) | (rw [← hz6]; simp only [rn_undO, ↓reduceIte, Bool.false_eq_true]; done) | (rw [← hz6]; simp only [rn_undO, ↓reduceIte, Bool.false_eq_true]; with_reducible rfl) | (rw [← hz6]; simp only [rn_undO, ↓reduceIte, Bool.false_eq_true]; rfl) | (simp only [rn_under, ↓reduceIte, Bool.false_eq_true]; done) | (simp only [rn_under, ↓reduceIte, Bool.false_eq_true]; with_reducible rfl), by first | with_reducible rfl | exact hz6 | (rw [← hz6]; done) | (rw [← hz6]; exact bI_f.symm) | (simp only [rn_under, ↓reduceIte, Bool.false_eq_true]; rw [← hz6]; done) | (rw [← hz6]; simp only [rn_undO, ↓reduceIte, Bool.false_eq_true]; done) | (rw [← hz6]; simp only [rn_undO, ↓reduceIte, Bool.false_eq_true]; with_reducible rfl) | (rw [← hz6]; simp only [rn_undO, ↓reduceIte, Bool.false_eq_true]; rfl) | (simp only [rn_under, ↓reduceIte, Bool.false_eq_true]; done) | (simp only [rn_under, ↓reduceIte, Bool.false_eq_true]; with_reducible rfl)⟩
      · exact absurd (show (10 : Int32) ≤ nI 10 from nI_le (a := 10) (b := 10) (Nat.le_refl _) (by decide)) c_9
    | succ r ih6 =>
      intro t hi6 x2 ht6 H locs hw ls hl
      have hlt6 : t < 10 := by omega
      refine lv_iload_n hx hb dX1_under_6 rfl (lv_at hl 3 rfl) ?_
      refine lv_bipush (v := 10) hx hb dX1_under_7 (by decide) ?_
      refine lv_icmp_ge (tgt := 71) hx hb dX1_under_9 (by decide) (fun c_9 => ?_) (fun c_9 => ?_)
      · exact absurd c_9 (nI_ge (a := t) (b := 10) hlt6 (by decide))
      · skip
        refine lv_iconst (v := 0) hx hb dX1_under_12 (by decide) ?_
        refine lv_istore (lv' := [(4, .int 0), (0, .ref (a 0)), (1, .int (nI n)), (2, .int x2), (3, .int (nI t))]) hx hb dX1_under_13 hl (by decide) rfl (fun ls hl => ?_)
        have lp_15 : ∀ (r i : Nat), i + r = 10 → ∀ (y2 : Int32), rn_undL σ r i y2 = rn_undL σ 10 0 x2 → ∀ (H : Heap) (locs : List Loc), rn_Wd k a (rn_A a s.heap.size) s.heap s σ H locs → ∀ (ls : Array Slot), lv_has ls 5 [(0, .ref (a 0)), (1, .int (nI n)), (2, .int y2), (3, .int (nI t)), (4, .int (nI i))] → W p l e (headSpec wsX1_under ({ frames := 0, cells := 0, slots := 0, locals := 0 })).room s m args below meth c H locs 0 0 (MQ below (va_Qi (fun (r : Int32) (τ : rm_St) => r = (rn_under σ n) ∧ τ = σ) (fun τ t => rn_P k a τ t) (rn_A a s.heap.size)) args s 0 0 (rn_A a s.heap.size)) (F0 m 15 ls []) := by
          intro r
          induction r with
          | zero =>
            intro i hi15 y2 ht15 H locs hw ls hl
            obtain rfl : 10 = i := by omega
            have hz15 : y2 = rn_undL σ 10 0 x2 := ht15
            refine lv_iload hx hb dX1_under_15 (lv_at hl 4 rfl) ?_
            refine lv_bipush (v := 10) hx hb dX1_under_17 (by decide) ?_
            refine lv_icmp_ge (tgt := 65) hx hb dX1_under_19 (by decide) (fun c_19 => ?_) (fun c_19 => ?_)
            · skip
              refine lv_iinc (v := nI (t + 1)) (lv' := [(3, .int (nI (t + 1))), (0, .ref (a 0)), (1, .int (nI n)), (2, .int y2), (4, .int (nI 10))]) hx hb dX1_under_65 hl (k := 3) rfl (rm_inc t) (by decide) rfl (fun ls hl => ?_)
              refine lv_goto (tgt := 6) hx hb dX1_under_68 (by decide) ?_
              exact ih6 (t + 1) (by omega) (y2) (by refine Eq.trans ?_ ht6; first | with_reducible rfl | (simp only [rn_undO, ↓reduceIte, Bool.false_eq_true]; done) | (simp only [rn_undO, ↓reduceIte, Bool.false_eq_true]; rw [← hz15]) | (simp only [rn_undO, ↓reduceIte, Bool.false_eq_true]; with_reducible rfl)) _ _ hw _ (lv_sub hl [1, 2, 3, 0] rfl)
            · exact absurd (show (10 : Int32) ≤ nI 10 from nI_le (a := 10) (b := 10) (Nat.le_refl _) (by decide)) c_19
          | succ r ih15 =>
            intro i hi15 y2 ht15 H locs hw ls hl
            have hlt15 : i < 10 := by omega
            refine lv_iload hx hb dX1_under_15 (lv_at hl 4 rfl) ?_
            refine lv_bipush (v := 10) hx hb dX1_under_17 (by decide) ?_
            refine lv_icmp_ge (tgt := 65) hx hb dX1_under_19 (by decide) (fun c_19 => ?_) (fun c_19 => ?_)
            · exact absurd c_19 (nI_ge (a := i) (b := 10) hlt15 (by decide))
            · skip
              refine lv_iload_n hx hb dX1_under_22 rfl (lv_at hl 2 rfl) ?_
              refine lv_aload_n hx hb dX1_under_23 rfl (lv_at hl 0 rfl) ?_
              refine rn_geta C hw 11 7 (by decide) rfl (hts _ (by decide +kernel)) rfl dX1_under_24 ?_
              refine lv_iload hx hb dX1_under_27 (lv_at hl 4 rfl) ?_
              refine rn_iald C hw (N := 10) (by decide) hlt15 (by decide) dX1_under_29 ?_
              refine lv_iconst (v := (-1)) hx hb dX1_under_30 (by decide) ?_
              refine lv_icmp_eq (tgt := 56) hx hb dX1_under_31 (by decide) (fun c_31 => ?_) (fun c_31 => ?_)
              · skip
                refine lv_iconst (v := 0) hx hb dX1_under_56 (by decide) ?_
                refine lv_ior hx hb dX1_under_57 ?_
                refine lv_istore_n (lv' := [(2, .int ((y2) ||| (0))), (0, .ref (a 0)), (1, .int (nI n)), (3, .int (nI t)), (4, .int (nI i))]) hx hb dX1_under_58 rfl hl (by decide) rfl (fun ls hl => ?_)
                refine lv_iinc (v := nI (i + 1)) (lv' := [(4, .int (nI (i + 1))), (2, .int ((y2) ||| (0))), (0, .ref (a 0)), (1, .int (nI n)), (3, .int (nI t))]) hx hb dX1_under_59 hl (k := 4) rfl (rm_inc i) (by decide) rfl (fun ls hl => ?_)
                refine lv_goto (tgt := 15) hx hb dX1_under_62 (by decide) ?_
                exact ih15 (i + 1) (by omega) ((y2) ||| (0)) (by refine Eq.trans ?_ ht15; first | with_reducible rfl | (simp only [rn_undL, if_pos c_31, ↓reduceIte, Bool.false_eq_true]; done) | (simp only [rn_undL, if_pos c_31, ↓reduceIte, Bool.false_eq_true]; with_reducible rfl)) _ _ hw _ (lv_sub hl [2, 3, 1, 4, 0] rfl)
              · skip
                refine lv_iload_n hx hb dX1_under_34 rfl (lv_at hl 2 rfl) ?_
                refine lv_aload_n hx hb dX1_under_35 rfl (lv_at hl 0 rfl) ?_
                refine rn_geta C hw 11 7 (by decide) rfl (hts _ (by decide +kernel)) rfl dX1_under_36 ?_
                refine lv_iload hx hb dX1_under_39 (lv_at hl 4 rfl) ?_
                refine rn_iald C hw (N := 10) (by decide) hlt15 (by decide) dX1_under_41 ?_
                refine lv_ishr hx hb dX1_under_42 ?_
                refine lv_iconst (v := 1) hx hb dX1_under_43 (by decide) ?_
                refine lv_iand hx hb dX1_under_44 ?_
                refine lv_iconst (v := 1) hx hb dX1_under_45 (by decide) ?_
                refine lv_icmp_ne (tgt := 56) hx hb dX1_under_46 (by decide) (fun c_46 => ?_) (fun c_46 => ?_)
                · skip
                  refine lv_iconst (v := 0) hx hb dX1_under_56 (by decide) ?_
                  refine lv_ior hx hb dX1_under_57 ?_
                  refine lv_istore_n (lv' := [(2, .int ((y2) ||| (0))), (0, .ref (a 0)), (1, .int (nI n)), (3, .int (nI t)), (4, .int (nI i))]) hx hb dX1_under_58 rfl hl (by decide) rfl (fun ls hl => ?_)
                  refine lv_iinc (v := nI (i + 1)) (lv' := [(4, .int (nI (i + 1))), (2, .int ((y2) ||| (0))), (0, .ref (a 0)), (1, .int (nI n)), (3, .int (nI t))]) hx hb dX1_under_59 hl (k := 4) rfl (rm_inc i) (by decide) rfl (fun ls hl => ?_)
                  refine lv_goto (tgt := 15) hx hb dX1_under_62 (by decide) ?_
                  exact ih15 (i + 1) (by omega) ((y2) ||| (0)) (by refine Eq.trans ?_ ht15; first | with_reducible rfl | (simp only [rn_undL, if_neg c_31, if_neg c_46, ↓reduceIte, Bool.false_eq_true]; done) | (simp only [rn_undL, if_neg c_31, if_neg c_46, ↓reduceIte, Bool.false_eq_true]; with_reducible rfl)) _ _ hw _ (lv_sub hl [2, 3, 1, 4, 0] rfl)
                · skip
                  refine lv_iconst (v := 1) hx hb dX1_under_49 (by decide) ?_
                  refine lv_iload hx hb dX1_under_50 (lv_at hl 4 rfl) ?_
                  refine lv_ishl hx hb dX1_under_52 ?_
                  refine lv_goto (tgt := 57) hx hb dX1_under_53 (by decide) ?_
                  refine lv_ior hx hb dX1_under_57 ?_
                  refine lv_istore_n (lv' := [(2, .int ((y2) ||| ((1) <<< ((nI i) &&& 31)))), (0, .ref (a 0)), (1, .int (nI n)), (3, .int (nI t)), (4, .int (nI i))]) hx hb dX1_under_58 rfl hl (by decide) rfl (fun ls hl => ?_)
                  refine lv_iinc (v := nI (i + 1)) (lv' := [(4, .int (nI (i + 1))), (2, .int ((y2) ||| ((1) <<< ((nI i) &&& 31)))), (0, .ref (a 0)), (1, .int (nI n)), (3, .int (nI t))]) hx hb dX1_under_59 hl (k := 4) rfl (rm_inc i) (by decide) rfl (fun ls hl => ?_)
                  refine lv_goto (tgt := 15) hx hb dX1_under_62 (by decide) ?_
                  exact ih15 (i + 1) (by omega) ((y2) ||| ((1) <<< ((nI i) &&& 31))) (by refine Eq.trans ?_ ht15; first | with_reducible rfl | (simp only [rn_undL, if_neg c_31, if_pos c_46, ↓reduceIte, Bool.false_eq_true]; done) | (simp only [rn_undL, if_neg c_31, if_pos c_46, ↓reduceIte, Bool.false_eq_true]; with_reducible rfl)) _ _ hw _ (lv_sub hl [2, 3, 1, 4, 0] rfl)
        exact lp_15 10 0 (by omega) (x2) (by first | with_reducible rfl | (unfold rn_under; with_reducible rfl) | (simp only [rn_under, ↓reduceIte, Bool.false_eq_true]; done) | (simp only [rn_under, ↓reduceIte, Bool.false_eq_true]; with_reducible rfl)) _ _ hw _ (lv_sub hl [1, 2, 3, 4, 0] rfl)
  exact lp_6 10 0 (by omega) ((1) <<< ((nI n) &&& 31)) (by first | with_reducible rfl | (unfold rn_under; with_reducible rfl) | (simp only [rn_under, ↓reduceIte, Bool.false_eq_true]; done) | (simp only [rn_under, ↓reduceIte, Bool.false_eq_true]; with_reducible rfl)) _ _ hw _ (lv_sub hl [2, 3, 1, 0] rfl)
set_option maxHeartbeats 4000000 in
set_option maxRecDepth 100000 in
theorem kX1_below (l : Launch) (k : rm_K) (a : Nat → Nat) (ha : rn_inj a) (σ : rm_St) (x : Int32)  : rn_MI l k a yX1_below wsX1_below ({ frames := 2, cells := 0, slots := 0, locals := 42 }) [.int x] σ (rn_below σ x) (rn_t1 σ x) := by
  refine rn_enterI (cc := cX1_below) (nL := 2) (ret := (some .int)) ha (by decide) rfl rfl (by decide +kernel) (Nat.le_of_ble_eq_true rfl) ?_
  intro p e s m args below meth c ls C hr hlocks hw hl
  have hx := C.1.1
  have hb := C.1.2.1
  have hts := C.1.2.2.2.2
  have hA : ∀ q, s.heap.size ≤ q → rn_A a s.heap.size q := fun q h => Or.inr h
  replace hl : lv_has ls 2 [(0, .ref (a 0)), (1, .int x)] := hl
  refine lv_aload_n hx hb dX1_below_0 rfl (lv_at hl 0 rfl) ?_
  refine lv_iload_n hx hb dX1_below_1 rfl (lv_at hl 1 rfl) ?_
  refine rn_callSI C hw (As := [.int x]) (rest := [.ref (a 0)]) (kX1_isNode l (x)) (va_cwS 1 hts gX1_below_X1_isNode rfl rfl rfl (by decide +kernel) ⟨Nat.le_of_ble_eq_true rfl, Nat.le_of_ble_eq_true rfl⟩) rfl hl.1 rfl (lv_room (Nat.le_of_ble_eq_true rfl)) dX1_below_2 ⟨Nat.zero_le _, Nat.zero_le _⟩ (fun H locs hw => ?_)
  refine rm_ifeq (tgt := 12) hx hb dX1_below_5 (by decide) (fun c_5 => ?_) (fun c_5 => ?_)
  · skip
    refine lv_iconst (v := 1) hx hb dX1_below_12 (by decide) ?_
    refine rn_callI C hw hA (As := [.int 1]) (rest := []) (kX1_fails l k a ha σ 1 1 (by decide)) (cwV 1 hts gX1_below_X1_fails rfl rfl rfl (by decide +kernel) ⟨Nat.le_of_ble_eq_true rfl, Nat.le_of_ble_eq_true rfl⟩) rfl hl.1 rfl (lv_room (Nat.le_of_ble_eq_true rfl)) dX1_below_13 ⟨Nat.zero_le _, Nat.zero_le _⟩ (fun H locs hw => ?_)
    refine lv_if_eq (tgt := 23) hx hb dX1_below_16 (by decide) (fun c_16 => ?_) (fun c_16 => ?_)
    · exact absurd c_16 (by decide)
    · skip
      refine lv_iconst (v := 0) hx hb dX1_below_19 (by decide) ?_
      refine lv_goto (tgt := 28) hx hb dX1_below_20 (by decide) ?_
      exact rn_iret C hr hlocks hw dX1_below_28 ⟨by first | with_reducible rfl | (simp only [rn_below, rn_t1, c_5, ↓reduceIte, Bool.false_eq_true]; done) | (simp only [rn_below, rn_t1, c_5, ↓reduceIte, Bool.false_eq_true]; rfl) | rfl, by first | with_reducible rfl | (simp only [rn_below, rn_t1, c_5, ↓reduceIte, Bool.false_eq_true]; done) | (simp only [rn_below, rn_t1, c_5, ↓reduceIte, Bool.false_eq_true]; rfl) | rfl⟩
  · skip
    obtain ⟨xn, hxn, rfl⟩ := isNd_of c_5
    refine lv_iconst (v := 0) hx hb dX1_below_8 (by decide) ?_
    refine lv_goto (tgt := 13) hx hb dX1_below_9 (by decide) ?_
    refine rn_callI C hw hA (As := [.int 0]) (rest := []) (kX1_fails l k a ha σ 0 0 (by decide)) (cwV 1 hts gX1_below_X1_fails rfl rfl rfl (by decide +kernel) ⟨Nat.le_of_ble_eq_true rfl, Nat.le_of_ble_eq_true rfl⟩) rfl hl.1 rfl (lv_room (Nat.le_of_ble_eq_true rfl)) dX1_below_13 ⟨Nat.zero_le _, Nat.zero_le _⟩ (fun H locs hw => ?_)
    refine lv_if_eq (tgt := 23) hx hb dX1_below_16 (by decide) (fun c_16 => ?_) (fun c_16 => ?_)
    · skip
      refine lv_aload_n hx hb dX1_below_23 rfl (lv_at hl 0 rfl) ?_
      refine lv_iload_n hx hb dX1_below_24 rfl (lv_at hl 1 rfl) ?_
      refine rn_callI C hw hA (As := [.int (nI xn)]) (rest := []) (kX1_under l k a ha (rm_up σ 0 20 0) xn hxn) (cwV 1 hts gX1_below_X1_under rfl rfl rfl (by decide +kernel) ⟨Nat.le_of_ble_eq_true rfl, Nat.le_of_ble_eq_true rfl⟩) rfl hl.1 rfl (lv_room (Nat.le_of_ble_eq_true rfl)) dX1_below_25 ⟨Nat.zero_le _, Nat.zero_le _⟩ (fun H locs hw => ?_)
      exact rn_iret C hr hlocks hw dX1_below_28 ⟨by first | with_reducible rfl | (simp only [rn_below, rn_t1, c_5, rm_cl hxn, isNd_nI hxn, ↓reduceIte, Bool.false_eq_true]; done) | (simp only [rn_below, rn_t1, c_5, rm_cl hxn, isNd_nI hxn, ↓reduceIte, Bool.false_eq_true]; rfl) | rfl, by first | with_reducible rfl | (simp only [rn_below, rn_t1, c_5, rm_cl hxn, isNd_nI hxn, ↓reduceIte, Bool.false_eq_true]; done) | (simp only [rn_below, rn_t1, c_5, rm_cl hxn, isNd_nI hxn, ↓reduceIte, Bool.false_eq_true]; rfl) | rfl⟩
    · exact absurd rfl c_16

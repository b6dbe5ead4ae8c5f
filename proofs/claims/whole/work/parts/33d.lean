set_option maxHeartbeats 4000000 in
set_option maxRecDepth 100000 in
theorem kX1_time (l : Launch) (k : rm_K) (a : Nat → Nat) (ha : rn_inj a) (σ : rm_St)   : rn_MI l k a yX1_time wsX1_time ({ frames := 0, cells := 0, slots := 0, locals := 0 }) [] σ (σ 0 4) (rm_up σ 0 20 0) := by
  refine rn_enterI (cc := cX1_time) (nL := 1) (ret := (some .int)) ha (by decide) rfl rfl (by decide +kernel) (Nat.le_of_ble_eq_true rfl) ?_
  intro p e s m args below meth c ls C hr hlocks hw hl
  have hx := C.1.1
  have hb := C.1.2.1
  have hts := C.1.2.2.2.2
  have hA : ∀ q, s.heap.size ≤ q → rn_A a s.heap.size q := fun q h => Or.inr h
  replace hl : lv_has ls 1 [(0, .ref (a 0))] := hl
  refine lv_aload_n hx hb dX1_time_0 rfl (lv_at hl 0 rfl) ?_
  refine lv_iconst (v := 0) hx hb dX1_time_1 (by decide) ?_
  refine rn_puti C hw 20 (by decide) (hts _ (by decide +kernel)) rfl rfl rfl dX1_time_2 (fun H locs hw => ?_)
  refine lv_aload_n hx hb dX1_time_5 rfl (lv_at hl 0 rfl) ?_
  refine rn_geti C hw 4 (by decide) (hts _ (by decide +kernel)) rfl dX1_time_6 ?_
  exact rn_iret C hr hlocks hw dX1_time_9 ⟨by first | with_reducible rfl | (simp only [↓reduceIte, Bool.false_eq_true]; done) | (simp only [↓reduceIte, Bool.false_eq_true]; rfl) | rfl, by first | with_reducible rfl | (simp only [↓reduceIte, Bool.false_eq_true]; done) | (simp only [↓reduceIte, Bool.false_eq_true]; rfl) | rfl⟩
set_option maxHeartbeats 4000000 in
set_option maxRecDepth 100000 in
theorem kX1_loops (l : Launch) (k : rm_K) (a : Nat → Nat) (ha : rn_inj a) (σ : rm_St)   : rn_MI l k a yX1_loops wsX1_loops ({ frames := 0, cells := 0, slots := 0, locals := 0 }) [] σ (σ 0 19) (rm_up σ 0 20 0) := by
  refine rn_enterI (cc := cX1_loops) (nL := 1) (ret := (some .int)) ha (by decide) rfl rfl (by decide +kernel) (Nat.le_of_ble_eq_true rfl) ?_
  intro p e s m args below meth c ls C hr hlocks hw hl
  have hx := C.1.1
  have hb := C.1.2.1
  have hts := C.1.2.2.2.2
  have hA : ∀ q, s.heap.size ≤ q → rn_A a s.heap.size q := fun q h => Or.inr h
  replace hl : lv_has ls 1 [(0, .ref (a 0))] := hl
  refine lv_aload_n hx hb dX1_loops_0 rfl (lv_at hl 0 rfl) ?_
  refine lv_iconst (v := 0) hx hb dX1_loops_1 (by decide) ?_
  refine rn_puti C hw 20 (by decide) (hts _ (by decide +kernel)) rfl rfl rfl dX1_loops_2 (fun H locs hw => ?_)
  refine lv_aload_n hx hb dX1_loops_5 rfl (lv_at hl 0 rfl) ?_
  refine rn_geti C hw 19 (by decide) (hts _ (by decide +kernel)) rfl dX1_loops_6 ?_
  exact rn_iret C hr hlocks hw dX1_loops_9 ⟨by first | with_reducible rfl | (simp only [↓reduceIte, Bool.false_eq_true]; done) | (simp only [↓reduceIte, Bool.false_eq_true]; rfl) | rfl, by first | with_reducible rfl | (simp only [↓reduceIte, Bool.false_eq_true]; done) | (simp only [↓reduceIte, Bool.false_eq_true]; rfl) | rfl⟩
set_option maxHeartbeats 4000000 in
set_option maxRecDepth 100000 in
theorem kX1_of (l : Launch) (k : rm_K) (a : Nat → Nat) (ha : rn_inj a) (σ : rm_St) (q : Nat) (pv : Int32)  (hq : q ≠ 0 ∧ q ≠ 2 ∧ q < 15 ∧ rn_len q = 10) : rn_MI l k a yX1_of wsX1_of ({ frames := 2, cells := 0, slots := 0, locals := 42 }) [.ref (a q), .int pv] σ (rn_of σ q pv) (rn_t1 σ pv) := by
  refine rn_enterI (cc := cX1_of) (nL := 3) (ret := (some .int)) ha (by decide) rfl rfl (by decide +kernel) (Nat.le_of_ble_eq_true rfl) ?_
  intro p e s m args below meth c ls C hr hlocks hw hl
  have hx := C.1.1
  have hb := C.1.2.1
  have hts := C.1.2.2.2.2
  have hA : ∀ q, s.heap.size ≤ q → rn_A a s.heap.size q := fun q h => Or.inr h
  replace hl : lv_has ls 3 [(0, .ref (a 0)), (1, .ref (a q)), (2, .int pv)] := hl
  refine lv_aload_n hx hb dX1_of_0 rfl (lv_at hl 0 rfl) ?_
  refine lv_iload_n hx hb dX1_of_1 rfl (lv_at hl 2 rfl) ?_
  refine rn_callSI C hw (As := [.int pv]) (rest := [.ref (a 0)]) (kX1_isNode l (pv)) (va_cwS 1 hts gX1_of_X1_isNode rfl rfl rfl (by decide +kernel) ⟨Nat.le_of_ble_eq_true rfl, Nat.le_of_ble_eq_true rfl⟩) rfl hl.1 rfl (lv_room (Nat.le_of_ble_eq_true rfl)) dX1_of_2 ⟨Nat.zero_le _, Nat.zero_le _⟩ (fun H locs hw => ?_)
  refine rm_ifeq (tgt := 12) hx hb dX1_of_5 (by decide) (fun c_5 => ?_) (fun c_5 => ?_)
  · skip
    refine lv_iconst (v := 1) hx hb dX1_of_12 (by decide) ?_
    refine rn_callI C hw hA (As := [.int 1]) (rest := []) (kX1_fails l k a ha σ 1 1 (by decide)) (cwV 1 hts gX1_of_X1_fails rfl rfl rfl (by decide +kernel) ⟨Nat.le_of_ble_eq_true rfl, Nat.le_of_ble_eq_true rfl⟩) rfl hl.1 rfl (lv_room (Nat.le_of_ble_eq_true rfl)) dX1_of_13 ⟨Nat.zero_le _, Nat.zero_le _⟩ (fun H locs hw => ?_)
    refine lv_if_eq (tgt := 23) hx hb dX1_of_16 (by decide) (fun c_16 => ?_) (fun c_16 => ?_)
    · exact absurd c_16 (by decide)
    · skip
      refine lv_iconst (v := 0) hx hb dX1_of_19 (by decide) ?_
      refine lv_goto (tgt := 26) hx hb dX1_of_20 (by decide) ?_
      exact rn_iret C hr hlocks hw dX1_of_26 ⟨by first | with_reducible rfl | (simp only [rn_of, rn_t1, c_5, ↓reduceIte, Bool.false_eq_true]; done) | (simp only [rn_of, rn_t1, c_5, ↓reduceIte, Bool.false_eq_true]; rfl) | rfl, by first | with_reducible rfl | (simp only [rn_of, rn_t1, c_5, ↓reduceIte, Bool.false_eq_true]; done) | (simp only [rn_of, rn_t1, c_5, ↓reduceIte, Bool.false_eq_true]; rfl) | rfl⟩
  · skip
    obtain ⟨pvn, hpvn, rfl⟩ := isNd_of c_5
    refine lv_iconst (v := 0) hx hb dX1_of_8 (by decide) ?_
    refine lv_goto (tgt := 13) hx hb dX1_of_9 (by decide) ?_
    refine rn_callI C hw hA (As := [.int 0]) (rest := []) (kX1_fails l k a ha σ 0 0 (by decide)) (cwV 1 hts gX1_of_X1_fails rfl rfl rfl (by decide +kernel) ⟨Nat.le_of_ble_eq_true rfl, Nat.le_of_ble_eq_true rfl⟩) rfl hl.1 rfl (lv_room (Nat.le_of_ble_eq_true rfl)) dX1_of_13 ⟨Nat.zero_le _, Nat.zero_le _⟩ (fun H locs hw => ?_)
    refine lv_if_eq (tgt := 23) hx hb dX1_of_16 (by decide) (fun c_16 => ?_) (fun c_16 => ?_)
    · skip
      refine lv_aload_n hx hb dX1_of_23 rfl (lv_at hl 1 rfl) ?_
      refine lv_iload_n hx hb dX1_of_24 rfl (lv_at hl 2 rfl) ?_
      refine rn_iald C hw (N := 10) hq hpvn (by decide) dX1_of_25 ?_
      exact rn_iret C hr hlocks hw dX1_of_26 ⟨by first | with_reducible rfl | (simp only [rn_of, rn_t1, c_5, rm_cl hpvn, isNd_nI hpvn, ↓reduceIte, Bool.false_eq_true]; done) | (simp only [rn_of, rn_t1, c_5, rm_cl hpvn, isNd_nI hpvn, ↓reduceIte, Bool.false_eq_true]; rfl) | rfl, by first | with_reducible rfl | (simp only [rn_of, rn_t1, c_5, rm_cl hpvn, isNd_nI hpvn, ↓reduceIte, Bool.false_eq_true]; done) | (simp only [rn_of, rn_t1, c_5, rm_cl hpvn, isNd_nI hpvn, ↓reduceIte, Bool.false_eq_true]; rfl) | rfl⟩
    · exact absurd rfl c_16
set_option maxHeartbeats 4000000 in
set_option maxRecDepth 100000 in
theorem kX1_rank (l : Launch) (k : rm_K) (a : Nat → Nat) (ha : rn_inj a) (σ : rm_St) (pv : Int32)  : rn_MI l k a yX1_rank wsX1_rank ({ frames := 3, cells := 0, slots := 0, locals := 64 }) [.int pv] σ (rn_of σ 6 pv) (rn_t1 σ pv) := by
  refine rn_enterI (cc := cX1_rank) (nL := 2) (ret := (some .int)) ha (by decide) rfl rfl (by decide +kernel) (Nat.le_of_ble_eq_true rfl) ?_
  intro p e s m args below meth c ls C hr hlocks hw hl
  have hx := C.1.1
  have hb := C.1.2.1
  have hts := C.1.2.2.2.2
  have hA : ∀ q, s.heap.size ≤ q → rn_A a s.heap.size q := fun q h => Or.inr h
  replace hl : lv_has ls 2 [(0, .ref (a 0)), (1, .int pv)] := hl
  refine lv_aload_n hx hb dX1_rank_0 rfl (lv_at hl 0 rfl) ?_
  refine lv_aload_n hx hb dX1_rank_1 rfl (lv_at hl 0 rfl) ?_
  refine rn_geta C hw 10 6 (by decide) rfl (hts _ (by decide +kernel)) rfl dX1_rank_2 ?_
  refine lv_iload_n hx hb dX1_rank_5 rfl (lv_at hl 1 rfl) ?_
  refine rn_callI C hw hA (As := [.ref (a 6), .int pv]) (rest := []) (kX1_of l k a ha σ 6 (pv) (by decide)) (cwV 2 hts gX1_rank_X1_of rfl rfl rfl (by decide +kernel) ⟨Nat.le_of_ble_eq_true rfl, Nat.le_of_ble_eq_true rfl⟩) rfl hl.1 rfl (lv_room (Nat.le_of_ble_eq_true rfl)) dX1_rank_6 ⟨Nat.zero_le _, Nat.zero_le _⟩ (fun H locs hw => ?_)
  exact rn_iret C hr hlocks hw dX1_rank_9 ⟨by first | with_reducible rfl | (simp only [rn_of, ↓reduceIte, Bool.false_eq_true]; done) | (simp only [rn_of, ↓reduceIte, Bool.false_eq_true]; rfl) | rfl, by first | with_reducible rfl | (simp only [rn_of, ↓reduceIte, Bool.false_eq_true]; done) | (simp only [rn_of, ↓reduceIte, Bool.false_eq_true]; rfl) | rfl⟩
set_option maxHeartbeats 4000000 in
set_option maxRecDepth 100000 in
theorem kX1_parent (l : Launch) (k : rm_K) (a : Nat → Nat) (ha : rn_inj a) (σ : rm_St) (pv : Int32)  : rn_MI l k a yX1_parent wsX1_parent ({ frames := 3, cells := 0, slots := 0, locals := 64 }) [.int pv] σ (rn_of σ 7 pv) (rn_t1 σ pv) := by
  refine rn_enterI (cc := cX1_parent) (nL := 2) (ret := (some .int)) ha (by decide) rfl rfl (by decide +kernel) (Nat.le_of_ble_eq_true rfl) ?_
  intro p e s m args below meth c ls C hr hlocks hw hl
  have hx := C.1.1
  have hb := C.1.2.1
  have hts := C.1.2.2.2.2
  have hA : ∀ q, s.heap.size ≤ q → rn_A a s.heap.size q := fun q h => Or.inr h
  replace hl : lv_has ls 2 [(0, .ref (a 0)), (1, .int pv)] := hl
  refine lv_aload_n hx hb dX1_parent_0 rfl (lv_at hl 0 rfl) ?_
  refine lv_aload_n hx hb dX1_parent_1 rfl (lv_at hl 0 rfl) ?_
  refine rn_geta C hw 11 7 (by decide) rfl (hts _ (by decide +kernel)) rfl dX1_parent_2 ?_
  refine lv_iload_n hx hb dX1_parent_5 rfl (lv_at hl 1 rfl) ?_
  refine rn_callI C hw hA (As := [.ref (a 7), .int pv]) (rest := []) (kX1_of l k a ha σ 7 (pv) (by decide)) (cwV 2 hts gX1_parent_X1_of rfl rfl rfl (by decide +kernel) ⟨Nat.le_of_ble_eq_true rfl, Nat.le_of_ble_eq_true rfl⟩) rfl hl.1 rfl (lv_room (Nat.le_of_ble_eq_true rfl)) dX1_parent_6 ⟨Nat.zero_le _, Nat.zero_le _⟩ (fun H locs hw => ?_)
  exact rn_iret C hr hlocks hw dX1_parent_9 ⟨by first | with_reducible rfl | (simp only [rn_of, ↓reduceIte, Bool.false_eq_true]; done) | (simp only [rn_of, ↓reduceIte, Bool.false_eq_true]; rfl) | rfl, by first | with_reducible rfl | (simp only [rn_of, ↓reduceIte, Bool.false_eq_true]; done) | (simp only [rn_of, ↓reduceIte, Bool.false_eq_true]; rfl) | rfl⟩
set_option maxHeartbeats 4000000 in
set_option maxRecDepth 100000 in
theorem kX1_nextTelling (l : Launch) (k : rm_K) (a : Nat → Nat) (ha : rn_inj a) (σ : rm_St) (pv : Int32)  : rn_MI l k a yX1_nextTelling wsX1_nextTelling ({ frames := 3, cells := 0, slots := 0, locals := 64 }) [.int pv] σ (rn_of σ 10 pv) (rn_t1 σ pv) := by
  refine rn_enterI (cc := cX1_nextTelling) (nL := 2) (ret := (some .int)) ha (by decide) rfl rfl (by decide +kernel) (Nat.le_of_ble_eq_true rfl) ?_
  intro p e s m args below meth c ls C hr hlocks hw hl
  have hx := C.1.1
  have hb := C.1.2.1
  have hts := C.1.2.2.2.2
  have hA : ∀ q, s.heap.size ≤ q → rn_A a s.heap.size q := fun q h => Or.inr h
  replace hl : lv_has ls 2 [(0, .ref (a 0)), (1, .int pv)] := hl
  refine lv_aload_n hx hb dX1_nextTelling_0 rfl (lv_at hl 0 rfl) ?_
  refine lv_aload_n hx hb dX1_nextTelling_1 rfl (lv_at hl 0 rfl) ?_
  refine rn_geta C hw 14 10 (by decide) rfl (hts _ (by decide +kernel)) rfl dX1_nextTelling_2 ?_
  refine lv_iload_n hx hb dX1_nextTelling_5 rfl (lv_at hl 1 rfl) ?_
  refine rn_callI C hw hA (As := [.ref (a 10), .int pv]) (rest := []) (kX1_of l k a ha σ 10 (pv) (by decide)) (cwV 2 hts gX1_nextTelling_X1_of rfl rfl rfl (by decide +kernel) ⟨Nat.le_of_ble_eq_true rfl, Nat.le_of_ble_eq_true rfl⟩) rfl hl.1 rfl (lv_room (Nat.le_of_ble_eq_true rfl)) dX1_nextTelling_6 ⟨Nat.zero_le _, Nat.zero_le _⟩ (fun H locs hw => ?_)
  exact rn_iret C hr hlocks hw dX1_nextTelling_9 ⟨by first | with_reducible rfl | (simp only [rn_of, ↓reduceIte, Bool.false_eq_true]; done) | (simp only [rn_of, ↓reduceIte, Bool.false_eq_true]; rfl) | rfl, by first | with_reducible rfl | (simp only [rn_of, ↓reduceIte, Bool.false_eq_true]; done) | (simp only [rn_of, ↓reduceIte, Bool.false_eq_true]; rfl) | rfl⟩
set_option maxHeartbeats 4000000 in
set_option maxRecDepth 100000 in
theorem kX1_tree (l : Launch) (k : rm_K) (a : Nat → Nat) (ha : rn_inj a) (σ : rm_St) (pv : Int32)  : rn_MI l k a yX1_tree wsX1_tree ({ frames := 2, cells := 0, slots := 0, locals := 42 }) [.int pv] σ (rn_tree σ pv) (rn_t1 σ pv) := by
  refine rn_enterI (cc := cX1_tree) (nL := 2) (ret := (some .int)) ha (by decide) rfl rfl (by decide +kernel) (Nat.le_of_ble_eq_true rfl) ?_
  intro p e s m args below meth c ls C hr hlocks hw hl
  have hx := C.1.1
  have hb := C.1.2.1
  have hts := C.1.2.2.2.2
  have hA : ∀ q, s.heap.size ≤ q → rn_A a s.heap.size q := fun q h => Or.inr h
  replace hl : lv_has ls 2 [(0, .ref (a 0)), (1, .int pv)] := hl
  refine lv_aload_n hx hb dX1_tree_0 rfl (lv_at hl 0 rfl) ?_
  refine lv_iload_n hx hb dX1_tree_1 rfl (lv_at hl 1 rfl) ?_
  refine rn_callSI C hw (As := [.int pv]) (rest := [.ref (a 0)]) (kX1_isNode l (pv)) (va_cwS 1 hts gX1_tree_X1_isNode rfl rfl rfl (by decide +kernel) ⟨Nat.le_of_ble_eq_true rfl, Nat.le_of_ble_eq_true rfl⟩) rfl hl.1 rfl (lv_room (Nat.le_of_ble_eq_true rfl)) dX1_tree_2 ⟨Nat.zero_le _, Nat.zero_le _⟩ (fun H locs hw => ?_)
  refine rm_ifeq (tgt := 12) hx hb dX1_tree_5 (by decide) (fun c_5 => ?_) (fun c_5 => ?_)
  · skip
    refine lv_iconst (v := 1) hx hb dX1_tree_12 (by decide) ?_
    refine rn_callI C hw hA (As := [.int 1]) (rest := []) (kX1_fails l k a ha σ 1 1 (by decide)) (cwV 1 hts gX1_tree_X1_fails rfl rfl rfl (by decide +kernel) ⟨Nat.le_of_ble_eq_true rfl, Nat.le_of_ble_eq_true rfl⟩) rfl hl.1 rfl (lv_room (Nat.le_of_ble_eq_true rfl)) dX1_tree_13 ⟨Nat.zero_le _, Nat.zero_le _⟩ (fun H locs hw => ?_)
    refine lv_if_eq (tgt := 23) hx hb dX1_tree_16 (by decide) (fun c_16 => ?_) (fun c_16 => ?_)
    · exact absurd c_16 (by decide)
    · skip
      refine lv_iconst (v := 0) hx hb dX1_tree_19 (by decide) ?_
      refine lv_goto (tgt := 53) hx hb dX1_tree_20 (by decide) ?_
      exact rn_iret C hr hlocks hw dX1_tree_53 ⟨by first | with_reducible rfl | (simp only [rn_tree, rn_t1, c_5, ↓reduceIte, Bool.false_eq_true]; done) | (simp only [rn_tree, rn_t1, c_5, ↓reduceIte, Bool.false_eq_true]; rfl) | rfl, by first | with_reducible rfl | (simp only [rn_tree, rn_t1, c_5, ↓reduceIte, Bool.false_eq_true]; done) | (simp only [rn_tree, rn_t1, c_5, ↓reduceIte, Bool.false_eq_true]; rfl) | rfl⟩
  · skip
    obtain ⟨pvn, hpvn, rfl⟩ := isNd_of c_5
    refine lv_iconst (v := 0) hx hb dX1_tree_8 (by decide) ?_
    refine lv_goto (tgt := 13) hx hb dX1_tree_9 (by decide) ?_
    refine rn_callI C hw hA (As := [.int 0]) (rest := []) (kX1_fails l k a ha σ 0 0 (by decide)) (cwV 1 hts gX1_tree_X1_fails rfl rfl rfl (by decide +kernel) ⟨Nat.le_of_ble_eq_true rfl, Nat.le_of_ble_eq_true rfl⟩) rfl hl.1 rfl (lv_room (Nat.le_of_ble_eq_true rfl)) dX1_tree_13 ⟨Nat.zero_le _, Nat.zero_le _⟩ (fun H locs hw => ?_)
    refine lv_if_eq (tgt := 23) hx hb dX1_tree_16 (by decide) (fun c_16 => ?_) (fun c_16 => ?_)
    · skip
      refine lv_aload_n hx hb dX1_tree_23 rfl (lv_at hl 0 rfl) ?_
      refine rn_geta C hw 8 4 (by decide) rfl (hts _ (by decide +kernel)) rfl dX1_tree_24 ?_
      refine lv_iload_n hx hb dX1_tree_27 rfl (lv_at hl 1 rfl) ?_
      refine rn_iald C hw (N := 10) (by decide) hpvn (by decide) dX1_tree_28 ?_
      refine lv_iconst (v := (-1)) hx hb dX1_tree_29 (by decide) ?_
      refine lv_icmp_ne (tgt := 37) hx hb dX1_tree_30 (by decide) (fun c_30 => ?_) (fun c_30 => ?_)
      · skip
        refine lv_bipush (v := 10) hx hb dX1_tree_37 (by decide) ?_
        refine lv_aload_n hx hb dX1_tree_39 rfl (lv_at hl 0 rfl) ?_
        refine rn_geta C hw 9 5 (by decide) rfl (hts _ (by decide +kernel)) rfl dX1_tree_40 ?_
        refine lv_iload_n hx hb dX1_tree_43 rfl (lv_at hl 1 rfl) ?_
        refine rn_iald C hw (N := 10) (by decide) hpvn (by decide) dX1_tree_44 ?_
        refine lv_imul hx hb dX1_tree_45 ?_
        refine lv_aload_n hx hb dX1_tree_46 rfl (lv_at hl 0 rfl) ?_
        refine rn_geta C hw 8 4 (by decide) rfl (hts _ (by decide +kernel)) rfl dX1_tree_47 ?_
        refine lv_iload_n hx hb dX1_tree_50 rfl (lv_at hl 1 rfl) ?_
        refine rn_iald C hw (N := 10) (by decide) hpvn (by decide) dX1_tree_51 ?_
        refine lv_iadd hx hb dX1_tree_52 ?_
        exact rn_iret C hr hlocks hw dX1_tree_53 ⟨by first | with_reducible rfl | (simp only [rn_tree, rn_t1, c_5, rm_cl hpvn, isNd_nI hpvn, if_neg c_30, ↓reduceIte, Bool.false_eq_true]; done) | (simp only [rn_tree, rn_t1, c_5, rm_cl hpvn, isNd_nI hpvn, if_neg c_30, ↓reduceIte, Bool.false_eq_true]; rfl) | rfl, by first | with_reducible rfl | (simp only [rn_tree, rn_t1, c_5, rm_cl hpvn, isNd_nI hpvn, if_neg c_30, ↓reduceIte, Bool.false_eq_true]; done) | (simp only [rn_tree, rn_t1, c_5, rm_cl hpvn, isNd_nI hpvn, if_neg c_30, ↓reduceIte, Bool.false_eq_true]; rfl) | rfl⟩
      · skip
        refine lv_iconst (v := (-1)) hx hb dX1_tree_33 (by decide) ?_
        refine lv_goto (tgt := 53) hx hb dX1_tree_34 (by decide) ?_
        exact rn_iret C hr hlocks hw dX1_tree_53 ⟨by first | with_reducible rfl | (simp only [rn_tree, rn_t1, c_5, rm_cl hpvn, isNd_nI hpvn, if_pos c_30, ↓reduceIte, Bool.false_eq_true]; done) | (simp only [rn_tree, rn_t1, c_5, rm_cl hpvn, isNd_nI hpvn, if_pos c_30, ↓reduceIte, Bool.false_eq_true]; rfl) | rfl, by first | with_reducible rfl | (simp only [rn_tree, rn_t1, c_5, rm_cl hpvn, isNd_nI hpvn, if_pos c_30, ↓reduceIte, Bool.false_eq_true]; done) | (simp only [rn_tree, rn_t1, c_5, rm_cl hpvn, isNd_nI hpvn, if_pos c_30, ↓reduceIte, Bool.false_eq_true]; rfl) | rfl⟩
    · exact absurd rfl c_16
set_option maxHeartbeats 4000000 in
set_option maxRecDepth 100000 in
theorem kX1_heard (l : Launch) (k : rm_K) (a : Nat → Nat) (ha : rn_inj a) (σ : rm_St) (x : Int32) (y : Int32)  : rn_MI l k a yX1_heard wsX1_heard ({ frames := 2, cells := 0, slots := 0, locals := 42 }) [.int x, .int y] σ (rn_heard σ x y) (rn_t2 σ x y) := by
  refine rn_enterI (cc := cX1_heard) (nL := 3) (ret := (some .int)) ha (by decide) rfl rfl (by decide +kernel) (Nat.le_of_ble_eq_true rfl) ?_
  intro p e s m args below meth c ls C hr hlocks hw hl
  have hx := C.1.1
  have hb := C.1.2.1
  have hts := C.1.2.2.2.2
  have hA : ∀ q, s.heap.size ≤ q → rn_A a s.heap.size q := fun q h => Or.inr h
  replace hl : lv_has ls 3 [(0, .ref (a 0)), (1, .int x), (2, .int y)] := hl
  refine lv_aload_n hx hb dX1_heard_0 rfl (lv_at hl 0 rfl) ?_
  refine lv_iload_n hx hb dX1_heard_1 rfl (lv_at hl 1 rfl) ?_
  refine rn_callSI C hw (As := [.int x]) (rest := [.ref (a 0)]) (kX1_isNode l (x)) (va_cwS 1 hts gX1_heard_X1_isNode rfl rfl rfl (by decide +kernel) ⟨Nat.le_of_ble_eq_true rfl, Nat.le_of_ble_eq_true rfl⟩) rfl hl.1 rfl (lv_room (Nat.le_of_ble_eq_true rfl)) dX1_heard_2 ⟨Nat.zero_le _, Nat.zero_le _⟩ (fun H locs hw => ?_)
  refine rm_ifeq (tgt := 19) hx hb dX1_heard_5 (by decide) (fun c_5 => ?_) (fun c_5 => ?_)
  · skip
    refine lv_iconst (v := 1) hx hb dX1_heard_19 (by decide) ?_
    refine rn_callI C hw hA (As := [.int 1]) (rest := []) (kX1_fails l k a ha σ 1 1 (by decide)) (cwV 1 hts gX1_heard_X1_fails rfl rfl rfl (by decide +kernel) ⟨Nat.le_of_ble_eq_true rfl, Nat.le_of_ble_eq_true rfl⟩) rfl hl.1 rfl (lv_room (Nat.le_of_ble_eq_true rfl)) dX1_heard_20 ⟨Nat.zero_le _, Nat.zero_le _⟩ (fun H locs hw => ?_)
    refine lv_if_eq (tgt := 30) hx hb dX1_heard_23 (by decide) (fun c_23 => ?_) (fun c_23 => ?_)
    · exact absurd c_23 (by decide)
    · skip
      refine lv_iconst (v := 0) hx hb dX1_heard_26 (by decide) ?_
      refine lv_goto (tgt := 41) hx hb dX1_heard_27 (by decide) ?_
      exact rn_iret C hr hlocks hw dX1_heard_41 ⟨by first | with_reducible rfl | (simp only [rn_heard, rn_t2, c_5, ↓reduceIte, Bool.false_eq_true]; done) | (simp only [rn_heard, rn_t2, c_5, ↓reduceIte, Bool.false_eq_true]; rfl) | rfl, by first | with_reducible rfl | (simp only [rn_heard, rn_t2, c_5, ↓reduceIte, Bool.false_eq_true]; done) | (simp only [rn_heard, rn_t2, c_5, ↓reduceIte, Bool.false_eq_true]; rfl) | rfl⟩
  · skip
    obtain ⟨xn, hxn, rfl⟩ := isNd_of c_5
    refine lv_iload_n hx hb dX1_heard_8 rfl (lv_at hl 2 rfl) ?_
    refine rn_callSI C hw (As := [.int y]) (rest := [.ref (a 0)]) (kX1_isNode l (y)) (va_cwS 1 hts gX1_heard_X1_isNode rfl rfl rfl (by decide +kernel) ⟨Nat.le_of_ble_eq_true rfl, Nat.le_of_ble_eq_true rfl⟩) rfl hl.1 rfl (lv_room (Nat.le_of_ble_eq_true rfl)) dX1_heard_9 ⟨Nat.zero_le _, Nat.zero_le _⟩ (fun H locs hw => ?_)
    refine rm_ifeq (tgt := 19) hx hb dX1_heard_12 (by decide) (fun c_12 => ?_) (fun c_12 => ?_)
    · skip
      refine lv_iconst (v := 1) hx hb dX1_heard_19 (by decide) ?_
      refine rn_callI C hw hA (As := [.int 1]) (rest := []) (kX1_fails l k a ha σ 1 1 (by decide)) (cwV 1 hts gX1_heard_X1_fails rfl rfl rfl (by decide +kernel) ⟨Nat.le_of_ble_eq_true rfl, Nat.le_of_ble_eq_true rfl⟩) rfl hl.1 rfl (lv_room (Nat.le_of_ble_eq_true rfl)) dX1_heard_20 ⟨Nat.zero_le _, Nat.zero_le _⟩ (fun H locs hw => ?_)
      refine lv_if_eq (tgt := 30) hx hb dX1_heard_23 (by decide) (fun c_23 => ?_) (fun c_23 => ?_)
      · exact absurd c_23 (by decide)
      · skip
        refine lv_iconst (v := 0) hx hb dX1_heard_26 (by decide) ?_
        refine lv_goto (tgt := 41) hx hb dX1_heard_27 (by decide) ?_
        exact rn_iret C hr hlocks hw dX1_heard_41 ⟨by first | with_reducible rfl | (simp only [rn_heard, rn_t2, c_5, rm_cl hxn, isNd_nI hxn, c_12, ↓reduceIte, Bool.false_eq_true]; done) | (simp only [rn_heard, rn_t2, c_5, rm_cl hxn, isNd_nI hxn, c_12, ↓reduceIte, Bool.false_eq_true]; rfl) | rfl, by first | with_reducible rfl | (simp only [rn_heard, rn_t2, c_5, rm_cl hxn, isNd_nI hxn, c_12, ↓reduceIte, Bool.false_eq_true]; done) | (simp only [rn_heard, rn_t2, c_5, rm_cl hxn, isNd_nI hxn, c_12, ↓reduceIte, Bool.false_eq_true]; rfl) | rfl⟩
    · skip
      obtain ⟨yn, hyn, rfl⟩ := isNd_of c_12
      refine lv_iconst (v := 0) hx hb dX1_heard_15 (by decide) ?_
      refine lv_goto (tgt := 20) hx hb dX1_heard_16 (by decide) ?_
      refine rn_callI C hw hA (As := [.int 0]) (rest := []) (kX1_fails l k a ha σ 0 0 (by decide)) (cwV 1 hts gX1_heard_X1_fails rfl rfl rfl (by decide +kernel) ⟨Nat.le_of_ble_eq_true rfl, Nat.le_of_ble_eq_true rfl⟩) rfl hl.1 rfl (lv_room (Nat.le_of_ble_eq_true rfl)) dX1_heard_20 ⟨Nat.zero_le _, Nat.zero_le _⟩ (fun H locs hw => ?_)
      refine lv_if_eq (tgt := 30) hx hb dX1_heard_23 (by decide) (fun c_23 => ?_) (fun c_23 => ?_)
      · skip
        refine lv_aload_n hx hb dX1_heard_30 rfl (lv_at hl 0 rfl) ?_
        refine rn_geta C hw 17 13 (by decide) rfl (hts _ (by decide +kernel)) rfl dX1_heard_31 ?_
        refine lv_bipush (v := 10) hx hb dX1_heard_34 (by decide) ?_
        refine lv_iload_n hx hb dX1_heard_36 rfl (lv_at hl 1 rfl) ?_
        refine lv_imul hx hb dX1_heard_37 ?_
        rw [rn_mul]
        refine lv_iload_n hx hb dX1_heard_38 rfl (lv_at hl 2 rfl) ?_
        refine lv_iadd hx hb dX1_heard_39 ?_
        rw [nI_add]
        refine rn_iald C hw (N := 100) (by decide) (by omega) (by decide) dX1_heard_40 ?_
        exact rn_iret C hr hlocks hw dX1_heard_41 ⟨by first | with_reducible rfl | (simp only [rn_heard, rn_t2, c_5, rm_cl hxn, isNd_nI hxn, c_12, rm_cl hyn, isNd_nI hyn, ↓reduceIte, Bool.false_eq_true]; done) | (simp only [rn_heard, rn_t2, c_5, rm_cl hxn, isNd_nI hxn, c_12, rm_cl hyn, isNd_nI hyn, ↓reduceIte, Bool.false_eq_true]; rfl) | rfl, by first | with_reducible rfl | (simp only [rn_heard, rn_t2, c_5, rm_cl hxn, isNd_nI hxn, c_12, rm_cl hyn, isNd_nI hyn, ↓reduceIte, Bool.false_eq_true]; done) | (simp only [rn_heard, rn_t2, c_5, rm_cl hxn, isNd_nI hxn, c_12, rm_cl hyn, isNd_nI hyn, ↓reduceIte, Bool.false_eq_true]; rfl) | rfl⟩
      · exact absurd rfl c_23

set_option maxHeartbeats 4000000 in
set_option maxRecDepth 100000 in
theorem kX0_time (l : Launch) (k : rm_K) (a : Nat → Nat) (ha : rm_inj a) (σ : rm_St)   : rm_MI l k a yX0_time wsX0_time ({ frames := 0, cells := 0, slots := 0, locals := 0 }) [] σ (σ 0 4) σ := by
  refine rm_enterI (cc := cX0_time) (nL := 1) (ret := (some .int)) ha (by decide) rfl rfl (by decide +kernel) (Nat.le_of_ble_eq_true rfl) ?_
  intro p e s m args below meth c ls C hr hlocks hw hl
  have hx := C.1.1
  have hb := C.1.2.1
  have hts := C.1.2.2.2.2
  have hA : ∀ q, s.heap.size ≤ q → rm_A a s.heap.size q := fun q h => Or.inr h
  replace hl : lv_has ls 1 [(0, .ref (a 0))] := hl
  refine lv_aload_n hx hb dX0_time_0 rfl (lv_at hl 0 rfl) ?_
  refine rm_geti C hw 4 (by decide) (hts _ (by decide +kernel)) rfl dX0_time_1 ?_
  exact rm_iret C hr hlocks hw dX0_time_4 ⟨by first | with_reducible rfl | (simp only [↓reduceIte, Bool.false_eq_true]; done) | (simp only [↓reduceIte, Bool.false_eq_true]; rfl) | rfl, by first | with_reducible rfl | (simp only [↓reduceIte, Bool.false_eq_true]; done) | (simp only [↓reduceIte, Bool.false_eq_true]; rfl) | rfl⟩
set_option maxHeartbeats 4000000 in
set_option maxRecDepth 100000 in
theorem kX0_loops (l : Launch) (k : rm_K) (a : Nat → Nat) (ha : rm_inj a) (σ : rm_St)   : rm_MI l k a yX0_loops wsX0_loops ({ frames := 0, cells := 0, slots := 0, locals := 0 }) [] σ (σ 0 5) σ := by
  refine rm_enterI (cc := cX0_loops) (nL := 1) (ret := (some .int)) ha (by decide) rfl rfl (by decide +kernel) (Nat.le_of_ble_eq_true rfl) ?_
  intro p e s m args below meth c ls C hr hlocks hw hl
  have hx := C.1.1
  have hb := C.1.2.1
  have hts := C.1.2.2.2.2
  have hA : ∀ q, s.heap.size ≤ q → rm_A a s.heap.size q := fun q h => Or.inr h
  replace hl : lv_has ls 1 [(0, .ref (a 0))] := hl
  refine lv_aload_n hx hb dX0_loops_0 rfl (lv_at hl 0 rfl) ?_
  refine rm_geti C hw 5 (by decide) (hts _ (by decide +kernel)) rfl dX0_loops_1 ?_
  exact rm_iret C hr hlocks hw dX0_loops_4 ⟨by first | with_reducible rfl | (simp only [↓reduceIte, Bool.false_eq_true]; done) | (simp only [↓reduceIte, Bool.false_eq_true]; rfl) | rfl, by first | with_reducible rfl | (simp only [↓reduceIte, Bool.false_eq_true]; done) | (simp only [↓reduceIte, Bool.false_eq_true]; rfl) | rfl⟩
set_option maxHeartbeats 4000000 in
set_option maxRecDepth 100000 in
theorem kX0_resetTimer (l : Launch) (k : rm_K) (a : Nat → Nat) (ha : rm_inj a) (σ : rm_St) (n : Nat) (hn : n < 10) : rm_MV l k a yX0_resetTimer wsX0_resetTimer ({ frames := 0, cells := 0, slots := 0, locals := 0 }) [.int (nI n)] σ  (rm_reset σ n) := by
  refine rm_enterV (cc := cX0_resetTimer) (nL := 2) (ret := none) ha (by decide) rfl rfl (by decide +kernel) (Nat.le_of_ble_eq_true rfl) ?_
  intro p e s m args below meth c ls C hr hlocks hw hl
  have hx := C.1.1
  have hb := C.1.2.1
  have hts := C.1.2.2.2.2
  have hA : ∀ q, s.heap.size ≤ q → rm_A a s.heap.size q := fun q h => Or.inr h
  replace hl : lv_has ls 2 [(0, .ref (a 0)), (1, .int (nI n))] := hl
  refine lv_aload_n hx hb dX0_resetTimer_0 rfl (lv_at hl 0 rfl) ?_
  refine rm_geta C hw 17 12 (by decide) rfl (hts _ (by decide +kernel)) rfl dX0_resetTimer_1 ?_
  refine lv_iload_n hx hb dX0_resetTimer_4 rfl (lv_at hl 1 rfl) ?_
  refine lv_aload_n hx hb dX0_resetTimer_5 rfl (lv_at hl 0 rfl) ?_
  refine rm_geti C hw 2 (by decide) (hts _ (by decide +kernel)) rfl dX0_resetTimer_6 ?_
  refine rm_iast C hw (by decide) hn dX0_resetTimer_9 (fun H locs hw => ?_)
  refine lv_aload_n hx hb dX0_resetTimer_10 rfl (lv_at hl 0 rfl) ?_
  refine rm_geta C hw 18 13 (by decide) rfl (hts _ (by decide +kernel)) rfl dX0_resetTimer_11 ?_
  refine lv_iload_n hx hb dX0_resetTimer_14 rfl (lv_at hl 1 rfl) ?_
  refine lv_aload_n hx hb dX0_resetTimer_15 rfl (lv_at hl 0 rfl) ?_
  refine rm_geti C hw 4 (by decide) (hts _ (by decide +kernel)) rfl dX0_resetTimer_16 ?_
  refine lv_aload_n hx hb dX0_resetTimer_19 rfl (lv_at hl 0 rfl) ?_
  refine rm_geti C hw 2 (by decide) (hts _ (by decide +kernel)) rfl dX0_resetTimer_20 ?_
  refine lv_iadd hx hb dX0_resetTimer_23 ?_
  refine rm_iast C hw (by decide) hn dX0_resetTimer_24 (fun H locs hw => ?_)
  exact rm_vret C hr hlocks hw dX0_resetTimer_25 (by first | with_reducible rfl | (simp only [↓reduceIte, Bool.false_eq_true]; done) | (simp only [↓reduceIte, Bool.false_eq_true]; rfl) | rfl)
set_option maxHeartbeats 4000000 in
set_option maxRecDepth 100000 in
theorem kX0_clearNode (l : Launch) (k : rm_K) (a : Nat → Nat) (ha : rm_inj a) (σ : rm_St) (n : Nat) (hn : n < 10) : rm_MV l k a yX0_clearNode wsX0_clearNode ({ frames := 0, cells := 0, slots := 0, locals := 0 }) [.int (nI n)] σ  (rm_clear σ n) := by
  refine rm_enterV (cc := cX0_clearNode) (nL := 2) (ret := none) ha (by decide) rfl rfl (by decide +kernel) (Nat.le_of_ble_eq_true rfl) ?_
  intro p e s m args below meth c ls C hr hlocks hw hl
  have hx := C.1.1
  have hb := C.1.2.1
  have hts := C.1.2.2.2.2
  have hA : ∀ q, s.heap.size ≤ q → rm_A a s.heap.size q := fun q h => Or.inr h
  replace hl : lv_has ls 2 [(0, .ref (a 0)), (1, .int (nI n))] := hl
  refine lv_aload_n hx hb dX0_clearNode_0 rfl (lv_at hl 0 rfl) ?_
  refine rm_geta C hw 12 7 (by decide) rfl (hts _ (by decide +kernel)) rfl dX0_clearNode_1 ?_
  refine lv_iload_n hx hb dX0_clearNode_4 rfl (lv_at hl 1 rfl) ?_
  refine lv_iconst (v := (-1)) hx hb dX0_clearNode_5 (by decide) ?_
  refine rm_iast C hw (by decide) hn dX0_clearNode_6 (fun H locs hw => ?_)
  refine lv_aload_n hx hb dX0_clearNode_7 rfl (lv_at hl 0 rfl) ?_
  refine rm_geta C hw 13 8 (by decide) rfl (hts _ (by decide +kernel)) rfl dX0_clearNode_8 ?_
  refine lv_iload_n hx hb dX0_clearNode_11 rfl (lv_at hl 1 rfl) ?_
  refine lv_iconst (v := 0) hx hb dX0_clearNode_12 (by decide) ?_
  refine rm_iast C hw (by decide) hn dX0_clearNode_13 (fun H locs hw => ?_)
  refine lv_aload_n hx hb dX0_clearNode_14 rfl (lv_at hl 0 rfl) ?_
  refine rm_geta C hw 14 9 (by decide) rfl (hts _ (by decide +kernel)) rfl dX0_clearNode_15 ?_
  refine lv_iload_n hx hb dX0_clearNode_18 rfl (lv_at hl 1 rfl) ?_
  refine lv_sipush (v := 10000) hx hb dX0_clearNode_19 (by decide) ?_
  refine rm_iast C hw (by decide) hn dX0_clearNode_22 (fun H locs hw => ?_)
  refine lv_aload_n hx hb dX0_clearNode_23 rfl (lv_at hl 0 rfl) ?_
  refine rm_geta C hw 15 10 (by decide) rfl (hts _ (by decide +kernel)) rfl dX0_clearNode_24 ?_
  refine lv_iload_n hx hb dX0_clearNode_27 rfl (lv_at hl 1 rfl) ?_
  refine lv_sipush (v := 10000) hx hb dX0_clearNode_28 (by decide) ?_
  refine rm_iast C hw (by decide) hn dX0_clearNode_31 (fun H locs hw => ?_)
  refine lv_aload_n hx hb dX0_clearNode_32 rfl (lv_at hl 0 rfl) ?_
  refine rm_geta C hw 16 11 (by decide) rfl (hts _ (by decide +kernel)) rfl dX0_clearNode_33 ?_
  refine lv_iload_n hx hb dX0_clearNode_36 rfl (lv_at hl 1 rfl) ?_
  refine lv_iconst (v := (-1)) hx hb dX0_clearNode_37 (by decide) ?_
  refine rm_iast C hw (by decide) hn dX0_clearNode_38 (fun H locs hw => ?_)
  exact rm_vret C hr hlocks hw dX0_clearNode_39 (by first | with_reducible rfl | (simp only [↓reduceIte, Bool.false_eq_true]; done) | (simp only [↓reduceIte, Bool.false_eq_true]; rfl) | rfl)
set_option maxHeartbeats 4000000 in
set_option maxRecDepth 100000 in
theorem kX0_forget (l : Launch) (k : rm_K) (a : Nat → Nat) (ha : rm_inj a) (σ : rm_St) (n : Nat) (o : Nat) (hn : n < 10) (ho : o < 10) : rm_MV l k a yX0_forget wsX0_forget ({ frames := 0, cells := 0, slots := 0, locals := 0 }) [.int (nI n), .int (nI o)] σ  (rm_forget σ n o) := by
  refine rm_enterV (cc := cX0_forget) (nL := 3) (ret := none) ha (by decide) rfl rfl (by decide +kernel) (Nat.le_of_ble_eq_true rfl) ?_
  intro p e s m args below meth c ls C hr hlocks hw hl
  have hx := C.1.1
  have hb := C.1.2.1
  have hts := C.1.2.2.2.2
  have hA : ∀ q, s.heap.size ≤ q → rm_A a s.heap.size q := fun q h => Or.inr h
  replace hl : lv_has ls 3 [(0, .ref (a 0)), (1, .int (nI n)), (2, .int (nI o))] := hl
  refine lv_aload_n hx hb dX0_forget_0 rfl (lv_at hl 0 rfl) ?_
  refine rm_geta C hw 7 2 (by decide) rfl (hts _ (by decide +kernel)) rfl dX0_forget_1 ?_
  refine lv_iload_n hx hb dX0_forget_4 rfl (lv_at hl 1 rfl) ?_
  refine rm_aald C hw 25 (by decide) hn dX0_forget_5 ?_
  refine lv_iload_n hx hb dX0_forget_6 rfl (lv_at hl 2 rfl) ?_
  refine lv_iconst (v := (-1)) hx hb dX0_forget_7 (by decide) ?_
  refine rm_iast C hw ⟨by omega, by omega⟩ ho dX0_forget_8 (fun H locs hw => ?_)
  refine lv_aload_n hx hb dX0_forget_9 rfl (lv_at hl 0 rfl) ?_
  refine rm_geta C hw 8 3 (by decide) rfl (hts _ (by decide +kernel)) rfl dX0_forget_10 ?_
  refine lv_iload_n hx hb dX0_forget_13 rfl (lv_at hl 1 rfl) ?_
  refine rm_aald C hw 35 (by decide) hn dX0_forget_14 ?_
  refine lv_iload_n hx hb dX0_forget_15 rfl (lv_at hl 2 rfl) ?_
  refine lv_iconst (v := 0) hx hb dX0_forget_16 (by decide) ?_
  refine rm_iast C hw ⟨by omega, by omega⟩ ho dX0_forget_17 (fun H locs hw => ?_)
  refine lv_aload_n hx hb dX0_forget_18 rfl (lv_at hl 0 rfl) ?_
  refine rm_geta C hw 9 4 (by decide) rfl (hts _ (by decide +kernel)) rfl dX0_forget_19 ?_
  refine lv_iload_n hx hb dX0_forget_22 rfl (lv_at hl 1 rfl) ?_
  refine rm_aald C hw 45 (by decide) hn dX0_forget_23 ?_
  refine lv_iload_n hx hb dX0_forget_24 rfl (lv_at hl 2 rfl) ?_
  refine lv_iconst (v := (-1)) hx hb dX0_forget_25 (by decide) ?_
  refine rm_iast C hw ⟨by omega, by omega⟩ ho dX0_forget_26 (fun H locs hw => ?_)
  exact rm_vret C hr hlocks hw dX0_forget_27 (by first | with_reducible rfl | (simp only [↓reduceIte, Bool.false_eq_true]; done) | (simp only [↓reduceIte, Bool.false_eq_true]; rfl) | rfl)
set_option maxHeartbeats 4000000 in
set_option maxRecDepth 100000 in
theorem kX0_beginVersion (l : Launch) (k : rm_K) (a : Nat → Nat) (ha : rm_inj a) (σ : rm_St) (n : Nat) (hn : n < 10) : rm_MI l k a yX0_beginVersion wsX0_beginVersion ({ frames := 1, cells := 0, slots := 0, locals := 21 }) [.int (nI n)] σ (rm_begin σ n 8 n) (rm_begin σ n) := by
  refine rm_enterI (cc := cX0_beginVersion) (nL := 2) (ret := (some .int)) ha (by decide) rfl rfl (by decide +kernel) (Nat.le_of_ble_eq_true rfl) ?_
  intro p e s m args below meth c ls C hr hlocks hw hl
  have hx := C.1.1
  have hb := C.1.2.1
  have hts := C.1.2.2.2.2
  have hA : ∀ q, s.heap.size ≤ q → rm_A a s.heap.size q := fun q h => Or.inr h
  replace hl : lv_has ls 2 [(0, .ref (a 0)), (1, .int (nI n))] := hl
  refine lv_aload_n hx hb dX0_beginVersion_0 rfl (lv_at hl 0 rfl) ?_
  refine rm_geta C hw 11 6 (by decide) rfl (hts _ (by decide +kernel)) rfl dX0_beginVersion_1 ?_
  refine lv_iload_n hx hb dX0_beginVersion_4 rfl (lv_at hl 1 rfl) ?_
  refine lv_dup2_11 hx hb dX0_beginVersion_5 rfl rfl ?_
  refine rm_iald C hw (by decide) hn dX0_beginVersion_6 ?_
  refine lv_iconst (v := 1) hx hb dX0_beginVersion_7 (by decide) ?_
  refine lv_iadd hx hb dX0_beginVersion_8 ?_
  refine rm_iast C hw (by decide) hn dX0_beginVersion_9 (fun H locs hw => ?_)
  refine lv_aload_n hx hb dX0_beginVersion_10 rfl (lv_at hl 0 rfl) ?_
  refine rm_geta C hw 13 8 (by decide) rfl (hts _ (by decide +kernel)) rfl dX0_beginVersion_11 ?_
  refine lv_iload_n hx hb dX0_beginVersion_14 rfl (lv_at hl 1 rfl) ?_
  refine lv_aload_n hx hb dX0_beginVersion_15 rfl (lv_at hl 0 rfl) ?_
  refine rm_geta C hw 11 6 (by decide) rfl (hts _ (by decide +kernel)) rfl dX0_beginVersion_16 ?_
  refine lv_iload_n hx hb dX0_beginVersion_19 rfl (lv_at hl 1 rfl) ?_
  refine rm_iald C hw (by decide) hn dX0_beginVersion_20 ?_
  refine rm_iast C hw (by decide) hn dX0_beginVersion_21 (fun H locs hw => ?_)
  refine lv_aload_n hx hb dX0_beginVersion_22 rfl (lv_at hl 0 rfl) ?_
  refine lv_iload_n hx hb dX0_beginVersion_23 rfl (lv_at hl 1 rfl) ?_
  refine rm_callV C hw hA (As := [.int (nI n)]) (rest := []) (kX0_resetTimer l k a ha (rm_up (rm_up σ 6 n ((σ 6 n) + (1))) 8 n ((rm_up σ 6 n ((σ 6 n) + (1))) 6 n)) n hn) (cwV 1 hts gX0_beginVersion_X0_resetTimer rfl rfl rfl (by decide +kernel) ⟨Nat.le_of_ble_eq_true rfl, Nat.le_of_ble_eq_true rfl⟩) rfl hl.1 rfl (lv_room (Nat.le_of_ble_eq_true rfl)) dX0_beginVersion_24 ⟨Nat.zero_le _, Nat.zero_le _⟩ (fun H locs hw => ?_)
  refine lv_aload_n hx hb dX0_beginVersion_27 rfl (lv_at hl 0 rfl) ?_
  refine rm_geta C hw 13 8 (by decide) rfl (hts _ (by decide +kernel)) rfl dX0_beginVersion_28 ?_
  refine lv_iload_n hx hb dX0_beginVersion_31 rfl (lv_at hl 1 rfl) ?_
  refine rm_iald C hw (by decide) hn dX0_beginVersion_32 ?_
  exact rm_iret C hr hlocks hw dX0_beginVersion_33 ⟨by first | with_reducible rfl | (simp only [↓reduceIte, Bool.false_eq_true]; done) | (simp only [↓reduceIte, Bool.false_eq_true]; rfl) | rfl, by first | with_reducible rfl | (simp only [↓reduceIte, Bool.false_eq_true]; done) | (simp only [↓reduceIte, Bool.false_eq_true]; rfl) | rfl⟩
set_option maxHeartbeats 4000000 in
set_option maxRecDepth 100000 in
theorem kX0_lengthenTimer (l : Launch) (k : rm_K) (a : Nat → Nat) (ha : rm_inj a) (σ : rm_St) (n : Nat) (hn : n < 10) : rm_MV l k a yX0_lengthenTimer wsX0_lengthenTimer ({ frames := 1, cells := 0, slots := 0, locals := 30 }) [.int (nI n)] σ  (rm_len σ n) := by
  refine rm_enterV (cc := cX0_lengthenTimer) (nL := 2) (ret := none) ha (by decide) rfl rfl (by decide +kernel) (Nat.le_of_ble_eq_true rfl) ?_
  intro p e s m args below meth c ls C hr hlocks hw hl
  have hx := C.1.1
  have hb := C.1.2.1
  have hts := C.1.2.2.2.2
  have hA : ∀ q, s.heap.size ≤ q → rm_A a s.heap.size q := fun q h => Or.inr h
  replace hl : lv_has ls 2 [(0, .ref (a 0)), (1, .int (nI n))] := hl
  refine lv_aload_n hx hb dX0_lengthenTimer_0 rfl (lv_at hl 0 rfl) ?_
  refine rm_geta C hw 17 12 (by decide) rfl (hts _ (by decide +kernel)) rfl dX0_lengthenTimer_1 ?_
  refine lv_iload_n hx hb dX0_lengthenTimer_4 rfl (lv_at hl 1 rfl) ?_
  refine lv_iconst (v := 2) hx hb dX0_lengthenTimer_5 (by decide) ?_
  refine lv_aload_n hx hb dX0_lengthenTimer_6 rfl (lv_at hl 0 rfl) ?_
  refine rm_geta C hw 17 12 (by decide) rfl (hts _ (by decide +kernel)) rfl dX0_lengthenTimer_7 ?_
  refine lv_iload_n hx hb dX0_lengthenTimer_10 rfl (lv_at hl 1 rfl) ?_
  refine rm_iald C hw (by decide) hn dX0_lengthenTimer_11 ?_
  refine lv_imul hx hb dX0_lengthenTimer_12 ?_
  refine lv_aload_n hx hb dX0_lengthenTimer_13 rfl (lv_at hl 0 rfl) ?_
  refine rm_geti C hw 2 (by decide) (hts _ (by decide +kernel)) rfl dX0_lengthenTimer_14 ?_
  refine lv_aload_n hx hb dX0_lengthenTimer_17 rfl (lv_at hl 0 rfl) ?_
  refine rm_geti C hw 3 (by decide) (hts _ (by decide +kernel)) rfl dX0_lengthenTimer_18 ?_
  refine lv_ishl hx hb dX0_lengthenTimer_21 ?_
  refine va_mmin hx hb (C.1.2.2.1.trans hl.1.symm) C.1.2.2.2.1 (hts (.methodLink RX0 141 Lib.Math.min.name) (by decide +kernel)) (hts (.static Lib.Math.min.name) (by decide +kernel)) (hts (.initialized "java/lang/Math") (by decide +kernel)) (hts (.code Lib.Math.min.name Lib.Math.min.code 2 (some .int)) (by decide +kernel)) (Nat.le_of_ble_eq_true rfl) (Nat.le_of_ble_eq_true rfl) (Nat.le_of_ble_eq_true rfl) (Nat.le_of_ble_eq_true rfl) dX0_lengthenTimer_22 ?_
  refine rm_iast C hw (by decide) hn dX0_lengthenTimer_25 (fun H locs hw => ?_)
  refine lv_aload_n hx hb dX0_lengthenTimer_26 rfl (lv_at hl 0 rfl) ?_
  refine rm_geta C hw 18 13 (by decide) rfl (hts _ (by decide +kernel)) rfl dX0_lengthenTimer_27 ?_
  refine lv_iload_n hx hb dX0_lengthenTimer_30 rfl (lv_at hl 1 rfl) ?_
  refine lv_aload_n hx hb dX0_lengthenTimer_31 rfl (lv_at hl 0 rfl) ?_
  refine rm_geti C hw 4 (by decide) (hts _ (by decide +kernel)) rfl dX0_lengthenTimer_32 ?_
  refine lv_aload_n hx hb dX0_lengthenTimer_35 rfl (lv_at hl 0 rfl) ?_
  refine rm_geta C hw 17 12 (by decide) rfl (hts _ (by decide +kernel)) rfl dX0_lengthenTimer_36 ?_
  refine lv_iload_n hx hb dX0_lengthenTimer_39 rfl (lv_at hl 1 rfl) ?_
  refine rm_iald C hw (by decide) hn dX0_lengthenTimer_40 ?_
  refine lv_iadd hx hb dX0_lengthenTimer_41 ?_
  refine rm_iast C hw (by decide) hn dX0_lengthenTimer_42 (fun H locs hw => ?_)
  exact rm_vret C hr hlocks hw dX0_lengthenTimer_43 (by first | with_reducible rfl | (simp only [↓reduceIte, Bool.false_eq_true]; done) | (simp only [↓reduceIte, Bool.false_eq_true]; rfl) | rfl)
set_option maxHeartbeats 4000000 in
set_option maxRecDepth 100000 in
theorem kX0_rankBy (l : Launch) (k : rm_K) (a : Nat → Nat) (ha : rm_inj a) (σ : rm_St) (n : Nat) (o : Nat) (hn : n < 10) (ho : o < 10) : rm_MI l k a yX0_rankBy wsX0_rankBy ({ frames := 0, cells := 0, slots := 0, locals := 0 }) [.int (nI n), .int (nI o)] σ (rm_rankBy σ n o) σ := by
  refine rm_enterI (cc := cX0_rankBy) (nL := 3) (ret := (some .int)) ha (by decide) rfl rfl (by decide +kernel) (Nat.le_of_ble_eq_true rfl) ?_
  intro p e s m args below meth c ls C hr hlocks hw hl
  have hx := C.1.1
  have hb := C.1.2.1
  have hts := C.1.2.2.2.2
  have hA : ∀ q, s.heap.size ≤ q → rm_A a s.heap.size q := fun q h => Or.inr h
  replace hl : lv_has ls 3 [(0, .ref (a 0)), (1, .int (nI n)), (2, .int (nI o))] := hl
  refine lv_aload_n hx hb dX0_rankBy_0 rfl (lv_at hl 0 rfl) ?_
  refine rm_geta C hw 9 4 (by decide) rfl (hts _ (by decide +kernel)) rfl dX0_rankBy_1 ?_
  refine lv_iload_n hx hb dX0_rankBy_4 rfl (lv_at hl 1 rfl) ?_
  refine rm_aald C hw 45 (by decide) hn dX0_rankBy_5 ?_
  refine lv_iload_n hx hb dX0_rankBy_6 rfl (lv_at hl 2 rfl) ?_
  refine rm_iald C hw ⟨by omega, by omega⟩ ho dX0_rankBy_7 ?_
  refine lv_aload_n hx hb dX0_rankBy_8 rfl (lv_at hl 0 rfl) ?_
  refine rm_geta C hw 6 1 (by decide) rfl (hts _ (by decide +kernel)) rfl dX0_rankBy_9 ?_
  refine lv_iload_n hx hb dX0_rankBy_12 rfl (lv_at hl 1 rfl) ?_
  refine rm_aald C hw 15 (by decide) hn dX0_rankBy_13 ?_
  refine lv_iload_n hx hb dX0_rankBy_14 rfl (lv_at hl 2 rfl) ?_
  refine rm_iald C hw ⟨by omega, by omega⟩ ho dX0_rankBy_15 ?_
  refine lv_iadd hx hb dX0_rankBy_16 ?_
  exact rm_iret C hr hlocks hw dX0_rankBy_17 ⟨by first | with_reducible rfl | (simp only [↓reduceIte, Bool.false_eq_true]; done) | (simp only [↓reduceIte, Bool.false_eq_true]; rfl) | rfl, by first | with_reducible rfl | (simp only [↓reduceIte, Bool.false_eq_true]; done) | (simp only [↓reduceIte, Bool.false_eq_true]; rfl) | rfl⟩
set_option maxHeartbeats 4000000 in
set_option maxRecDepth 100000 in
theorem kX0_heardOwnVersion (l : Launch) (k : rm_K) (a : Nat → Nat) (ha : rm_inj a) (σ : rm_St) (n : Nat) (o : Nat) (hn : n < 10) (ho : o < 10) : rm_MI l k a yX0_heardOwnVersion wsX0_heardOwnVersion ({ frames := 0, cells := 0, slots := 0, locals := 0 }) [.int (nI n), .int (nI o)] σ (bI (rm_own σ n o)) σ := by
  refine rm_enterI (cc := cX0_heardOwnVersion) (nL := 3) (ret := (some .boolean)) ha (by decide) rfl rfl (by decide +kernel) (Nat.le_of_ble_eq_true rfl) ?_
  intro p e s m args below meth c ls C hr hlocks hw hl
  have hx := C.1.1
  have hb := C.1.2.1
  have hts := C.1.2.2.2.2
  have hA : ∀ q, s.heap.size ≤ q → rm_A a s.heap.size q := fun q h => Or.inr h
  replace hl : lv_has ls 3 [(0, .ref (a 0)), (1, .int (nI n)), (2, .int (nI o))] := hl
  refine lv_aload_n hx hb dX0_heardOwnVersion_0 rfl (lv_at hl 0 rfl) ?_
  refine rm_geta C hw 7 2 (by decide) rfl (hts _ (by decide +kernel)) rfl dX0_heardOwnVersion_1 ?_
  refine lv_iload_n hx hb dX0_heardOwnVersion_4 rfl (lv_at hl 1 rfl) ?_
  refine rm_aald C hw 25 (by decide) hn dX0_heardOwnVersion_5 ?_
  refine lv_iload_n hx hb dX0_heardOwnVersion_6 rfl (lv_at hl 2 rfl) ?_
  refine rm_iald C hw ⟨by omega, by omega⟩ ho dX0_heardOwnVersion_7 ?_
  refine lv_aload_n hx hb dX0_heardOwnVersion_8 rfl (lv_at hl 0 rfl) ?_
  refine rm_geta C hw 12 7 (by decide) rfl (hts _ (by decide +kernel)) rfl dX0_heardOwnVersion_9 ?_
  refine lv_iload_n hx hb dX0_heardOwnVersion_12 rfl (lv_at hl 1 rfl) ?_
  refine rm_iald C hw (by decide) hn dX0_heardOwnVersion_13 ?_
  refine lv_icmp_ne (tgt := 38) hx hb dX0_heardOwnVersion_14 (by decide) (fun c_14 => ?_) (fun c_14 => ?_)
  · skip
    refine lv_iconst (v := 0) hx hb dX0_heardOwnVersion_38 (by decide) ?_
    exact rm_zret C hr hlocks hw (by decide) dX0_heardOwnVersion_39 ⟨by first | with_reducible rfl | (simp only [rm_own, if_neg c_14, ↓reduceIte, Bool.false_eq_true]; done) | (simp only [rm_own, if_neg c_14, ↓reduceIte, Bool.false_eq_true]; rfl) | rfl, by first | with_reducible rfl | (simp only [rm_own, if_neg c_14, ↓reduceIte, Bool.false_eq_true]; done) | (simp only [rm_own, if_neg c_14, ↓reduceIte, Bool.false_eq_true]; rfl) | rfl⟩
  · skip
    refine lv_aload_n hx hb dX0_heardOwnVersion_17 rfl (lv_at hl 0 rfl) ?_
    refine rm_geta C hw 8 3 (by decide) rfl (hts _ (by decide +kernel)) rfl dX0_heardOwnVersion_18 ?_
    refine lv_iload_n hx hb dX0_heardOwnVersion_21 rfl (lv_at hl 1 rfl) ?_
    refine rm_aald C hw 35 (by decide) hn dX0_heardOwnVersion_22 ?_
    refine lv_iload_n hx hb dX0_heardOwnVersion_23 rfl (lv_at hl 2 rfl) ?_
    refine rm_iald C hw ⟨by omega, by omega⟩ ho dX0_heardOwnVersion_24 ?_
    refine lv_aload_n hx hb dX0_heardOwnVersion_25 rfl (lv_at hl 0 rfl) ?_
    refine rm_geta C hw 13 8 (by decide) rfl (hts _ (by decide +kernel)) rfl dX0_heardOwnVersion_26 ?_
    refine lv_iload_n hx hb dX0_heardOwnVersion_29 rfl (lv_at hl 1 rfl) ?_
    refine rm_iald C hw (by decide) hn dX0_heardOwnVersion_30 ?_
    refine lv_icmp_ne (tgt := 38) hx hb dX0_heardOwnVersion_31 (by decide) (fun c_31 => ?_) (fun c_31 => ?_)
    · skip
      refine lv_iconst (v := 0) hx hb dX0_heardOwnVersion_38 (by decide) ?_
      exact rm_zret C hr hlocks hw (by decide) dX0_heardOwnVersion_39 ⟨by first | with_reducible rfl | (simp only [rm_own, if_pos c_14, if_neg c_31, ↓reduceIte, Bool.false_eq_true]; done) | (simp only [rm_own, if_pos c_14, if_neg c_31, ↓reduceIte, Bool.false_eq_true]; rfl) | rfl, by first | with_reducible rfl | (simp only [rm_own, if_pos c_14, if_neg c_31, ↓reduceIte, Bool.false_eq_true]; done) | (simp only [rm_own, if_pos c_14, if_neg c_31, ↓reduceIte, Bool.false_eq_true]; rfl) | rfl⟩
    · skip
      refine lv_iconst (v := 1) hx hb dX0_heardOwnVersion_34 (by decide) ?_
      refine lv_goto (tgt := 39) hx hb dX0_heardOwnVersion_35 (by decide) ?_
      exact rm_zret C hr hlocks hw (by decide) dX0_heardOwnVersion_39 ⟨by first | with_reducible rfl | (simp only [rm_own, if_pos c_14, if_pos c_31, ↓reduceIte, Bool.false_eq_true]; done) | (simp only [rm_own, if_pos c_14, if_pos c_31, ↓reduceIte, Bool.false_eq_true]; rfl) | rfl, by first | with_reducible rfl | (simp only [rm_own, if_pos c_14, if_pos c_31, ↓reduceIte, Bool.false_eq_true]; done) | (simp only [rm_own, if_pos c_14, if_pos c_31, ↓reduceIte, Bool.false_eq_true]; rfl) | rfl⟩
set_option maxHeartbeats 4000000 in
set_option maxRecDepth 100000 in
theorem kX0_isTooDeep (l : Launch) (k : rm_K) (a : Nat → Nat) (ha : rm_inj a) (σ : rm_St) (n : Nat) (o : Nat) (hn : n < 10) (ho : o < 10) : rm_MI l k a yX0_isTooDeep wsX0_isTooDeep ({ frames := 1, cells := 0, slots := 0, locals := 22 }) [.int (nI n), .int (nI o)] σ (bI (rm_deep σ n o)) σ := by
  refine rm_enterI (cc := cX0_isTooDeep) (nL := 3) (ret := (some .boolean)) ha (by decide) rfl rfl (by decide +kernel) (Nat.le_of_ble_eq_true rfl) ?_
  intro p e s m args below meth c ls C hr hlocks hw hl
  have hx := C.1.1
  have hb := C.1.2.1
  have hts := C.1.2.2.2.2
  have hA : ∀ q, s.heap.size ≤ q → rm_A a s.heap.size q := fun q h => Or.inr h
  replace hl : lv_has ls 3 [(0, .ref (a 0)), (1, .int (nI n)), (2, .int (nI o))] := hl
  refine lv_aload_n hx hb dX0_isTooDeep_0 rfl (lv_at hl 0 rfl) ?_
  refine lv_iload_n hx hb dX0_isTooDeep_1 rfl (lv_at hl 1 rfl) ?_
  refine lv_iload_n hx hb dX0_isTooDeep_2 rfl (lv_at hl 2 rfl) ?_
  refine rm_callI C hw hA (As := [.int (nI n), .int (nI o)]) (rest := []) (kX0_heardOwnVersion l k a ha σ n o hn ho) (cwV 2 hts gX0_isTooDeep_X0_heardOwnVersion rfl rfl rfl (by decide +kernel) ⟨Nat.le_of_ble_eq_true rfl, Nat.le_of_ble_eq_true rfl⟩) rfl hl.1 rfl (lv_room (Nat.le_of_ble_eq_true rfl)) dX0_isTooDeep_3 ⟨Nat.zero_le _, Nat.zero_le _⟩ (fun H locs hw => ?_)
  refine rm_ifeq (tgt := 21) hx hb dX0_isTooDeep_6 (by decide) (fun c_6 => ?_) (fun c_6 => ?_)
  · skip
    refine lv_iconst (v := 0) hx hb dX0_isTooDeep_21 (by decide) ?_
    exact rm_zret C hr hlocks hw (by decide) dX0_isTooDeep_22 ⟨by first | with_reducible rfl | (simp only [rm_deep, c_6, ↓reduceIte, Bool.false_eq_true]; done) | (simp only [rm_deep, c_6, ↓reduceIte, Bool.false_eq_true]; rfl) | rfl, by first | with_reducible rfl | (simp only [rm_deep, c_6, ↓reduceIte, Bool.false_eq_true]; done) | (simp only [rm_deep, c_6, ↓reduceIte, Bool.false_eq_true]; rfl) | rfl⟩
  · skip
    refine lv_aload_n hx hb dX0_isTooDeep_9 rfl (lv_at hl 0 rfl) ?_
    refine rm_geta C hw 14 9 (by decide) rfl (hts _ (by decide +kernel)) rfl dX0_isTooDeep_10 ?_
    refine lv_iload_n hx hb dX0_isTooDeep_13 rfl (lv_at hl 1 rfl) ?_
    refine rm_iald C hw (by decide) hn dX0_isTooDeep_14 ?_
    refine lv_sipush (v := 10000) hx hb dX0_isTooDeep_15 (by decide) ?_
    refine lv_icmp_ne (tgt := 23) hx hb dX0_isTooDeep_18 (by decide) (fun c_18 => ?_) (fun c_18 => ?_)
    · skip
      refine lv_aload_n hx hb dX0_isTooDeep_23 rfl (lv_at hl 0 rfl) ?_
      refine rm_geta C hw 9 4 (by decide) rfl (hts _ (by decide +kernel)) rfl dX0_isTooDeep_24 ?_
      refine lv_iload_n hx hb dX0_isTooDeep_27 rfl (lv_at hl 1 rfl) ?_
      refine rm_aald C hw 45 (by decide) hn dX0_isTooDeep_28 ?_
      refine lv_iload_n hx hb dX0_isTooDeep_29 rfl (lv_at hl 2 rfl) ?_
      refine rm_iald C hw ⟨by omega, by omega⟩ ho dX0_isTooDeep_30 ?_
      refine lv_aload_n hx hb dX0_isTooDeep_31 rfl (lv_at hl 0 rfl) ?_
      refine rm_geta C hw 14 9 (by decide) rfl (hts _ (by decide +kernel)) rfl dX0_isTooDeep_32 ?_
      refine lv_iload_n hx hb dX0_isTooDeep_35 rfl (lv_at hl 1 rfl) ?_
      refine rm_iald C hw (by decide) hn dX0_isTooDeep_36 ?_
      refine lv_icmp_ge (tgt := 60) hx hb dX0_isTooDeep_37 (by decide) (fun c_37 => ?_) (fun c_37 => ?_)
      · skip
        refine lv_iconst (v := 1) hx hb dX0_isTooDeep_60 (by decide) ?_
        refine lv_goto (tgt := 65) hx hb dX0_isTooDeep_61 (by decide) ?_
        exact rm_zret C hr hlocks hw (by decide) dX0_isTooDeep_65 ⟨by first | with_reducible rfl | (simp only [rm_deep, c_6, if_neg c_18, if_pos c_37, ↓reduceIte, Bool.false_eq_true]; done) | (simp only [rm_deep, c_6, if_neg c_18, if_pos c_37, ↓reduceIte, Bool.false_eq_true]; rfl) | rfl, by first | with_reducible rfl | (simp only [rm_deep, c_6, if_neg c_18, if_pos c_37, ↓reduceIte, Bool.false_eq_true]; done) | (simp only [rm_deep, c_6, if_neg c_18, if_pos c_37, ↓reduceIte, Bool.false_eq_true]; rfl) | rfl⟩
      · skip
        refine lv_aload_n hx hb dX0_isTooDeep_40 rfl (lv_at hl 0 rfl) ?_
        refine lv_iload_n hx hb dX0_isTooDeep_41 rfl (lv_at hl 1 rfl) ?_
        refine lv_iload_n hx hb dX0_isTooDeep_42 rfl (lv_at hl 2 rfl) ?_
        refine rm_callI C hw hA (As := [.int (nI n), .int (nI o)]) (rest := []) (kX0_rankBy l k a ha σ n o hn ho) (cwV 2 hts gX0_isTooDeep_X0_rankBy rfl rfl rfl (by decide +kernel) ⟨Nat.le_of_ble_eq_true rfl, Nat.le_of_ble_eq_true rfl⟩) rfl hl.1 rfl (lv_room (Nat.le_of_ble_eq_true rfl)) dX0_isTooDeep_43 ⟨Nat.zero_le _, Nat.zero_le _⟩ (fun H locs hw => ?_)
        refine lv_aload_n hx hb dX0_isTooDeep_46 rfl (lv_at hl 0 rfl) ?_
        refine rm_geta C hw 15 10 (by decide) rfl (hts _ (by decide +kernel)) rfl dX0_isTooDeep_47 ?_
        refine lv_iload_n hx hb dX0_isTooDeep_50 rfl (lv_at hl 1 rfl) ?_
        refine rm_iald C hw (by decide) hn dX0_isTooDeep_51 ?_
        refine lv_aload_n hx hb dX0_isTooDeep_52 rfl (lv_at hl 0 rfl) ?_
        refine rm_geti C hw 1 (by decide) (hts _ (by decide +kernel)) rfl dX0_isTooDeep_53 ?_
        refine lv_iadd hx hb dX0_isTooDeep_56 ?_
        refine lv_icmp_le (tgt := 64) hx hb dX0_isTooDeep_57 (by decide) (fun c_57 => ?_) (fun c_57 => ?_)
        · skip
          refine lv_iconst (v := 0) hx hb dX0_isTooDeep_64 (by decide) ?_
          exact rm_zret C hr hlocks hw (by decide) dX0_isTooDeep_65 ⟨by first | with_reducible rfl | (simp only [rm_deep, c_6, if_neg c_18, if_neg c_37, if_pos c_57, ↓reduceIte, Bool.false_eq_true]; done) | (simp only [rm_deep, c_6, if_neg c_18, if_neg c_37, if_pos c_57, ↓reduceIte, Bool.false_eq_true]; rfl) | rfl, by first | with_reducible rfl | (simp only [rm_deep, c_6, if_neg c_18, if_neg c_37, if_pos c_57, ↓reduceIte, Bool.false_eq_true]; done) | (simp only [rm_deep, c_6, if_neg c_18, if_neg c_37, if_pos c_57, ↓reduceIte, Bool.false_eq_true]; rfl) | rfl⟩
        · skip
          refine lv_iconst (v := 1) hx hb dX0_isTooDeep_60 (by decide) ?_
          refine lv_goto (tgt := 65) hx hb dX0_isTooDeep_61 (by decide) ?_
          exact rm_zret C hr hlocks hw (by decide) dX0_isTooDeep_65 ⟨by first | with_reducible rfl | (simp only [rm_deep, c_6, if_neg c_18, if_neg c_37, if_neg c_57, ↓reduceIte, Bool.false_eq_true]; done) | (simp only [rm_deep, c_6, if_neg c_18, if_neg c_37, if_neg c_57, ↓reduceIte, Bool.false_eq_true]; rfl) | rfl, by first | with_reducible rfl | (simp only [rm_deep, c_6, if_neg c_18, if_neg c_37, if_neg c_57, ↓reduceIte, Bool.false_eq_true]; done) | (simp only [rm_deep, c_6, if_neg c_18, if_neg c_37, if_neg c_57, ↓reduceIte, Bool.false_eq_true]; rfl) | rfl⟩
    · skip
      refine lv_iconst (v := 0) hx hb dX0_isTooDeep_21 (by decide) ?_
      exact rm_zret C hr hlocks hw (by decide) dX0_isTooDeep_22 ⟨by first | with_reducible rfl | (simp only [rm_deep, c_6, if_pos c_18, ↓reduceIte, Bool.false_eq_true]; done) | (simp only [rm_deep, c_6, if_pos c_18, ↓reduceIte, Bool.false_eq_true]; rfl) | rfl, by first | with_reducible rfl | (simp only [rm_deep, c_6, if_pos c_18, ↓reduceIte, Bool.false_eq_true]; done) | (simp only [rm_deep, c_6, if_pos c_18, ↓reduceIte, Bool.false_eq_true]; rfl) | rfl⟩
set_option maxHeartbeats 4000000 in
set_option maxRecDepth 100000 in
theorem kX0_isOutdated (l : Launch) (k : rm_K) (a : Nat → Nat) (ha : rm_inj a) (σ : rm_St) (n : Nat) (o : Nat) (hn : n < 10) (ho : o < 10) : rm_MI l k a yX0_isOutdated wsX0_isOutdated ({ frames := 0, cells := 0, slots := 0, locals := 0 }) [.int (nI n), .int (nI o)] σ (bI (rm_outd σ n o)) σ := by
  refine rm_enterI (cc := cX0_isOutdated) (nL := 6) (ret := (some .boolean)) ha (by decide) rfl rfl (by decide +kernel) (Nat.le_of_ble_eq_true rfl) ?_
  intro p e s m args below meth c ls C hr hlocks hw hl
  have hx := C.1.1
  have hb := C.1.2.1
  have hts := C.1.2.2.2.2
  have hA : ∀ q, s.heap.size ≤ q → rm_A a s.heap.size q := fun q h => Or.inr h
  replace hl : lv_has ls 6 [(0, .ref (a 0)), (1, .int (nI n)), (2, .int (nI o))] := hl
  refine lv_aload_n hx hb dX0_isOutdated_0 rfl (lv_at hl 0 rfl) ?_
  refine rm_geta C hw 7 2 (by decide) rfl (hts _ (by decide +kernel)) rfl dX0_isOutdated_1 ?_
  refine lv_iload_n hx hb dX0_isOutdated_4 rfl (lv_at hl 1 rfl) ?_
  refine rm_aald C hw 25 (by decide) hn dX0_isOutdated_5 ?_
  refine lv_iload_n hx hb dX0_isOutdated_6 rfl (lv_at hl 2 rfl) ?_
  refine rm_iald C hw ⟨by omega, by omega⟩ ho dX0_isOutdated_7 ?_
  refine lv_istore_n (lv' := [(3, .int (σ (25 + n) o)), (0, .ref (a 0)), (1, .int (nI n)), (2, .int (nI o))]) hx hb dX0_isOutdated_8 rfl hl (by decide) rfl (fun ls hl => ?_)
  refine lv_aload_n hx hb dX0_isOutdated_9 rfl (lv_at hl 1 rfl) ?_
  refine rm_geta C hw 8 3 (by decide) rfl (hts _ (by decide +kernel)) rfl dX0_isOutdated_10 ?_
  refine lv_iload_n hx hb dX0_isOutdated_13 rfl (lv_at hl 2 rfl) ?_
  refine rm_aald C hw 35 (by decide) hn dX0_isOutdated_14 ?_
  refine lv_iload_n hx hb dX0_isOutdated_15 rfl (lv_at hl 3 rfl) ?_
  refine rm_iald C hw ⟨by omega, by omega⟩ ho dX0_isOutdated_16 ?_
  refine lv_istore (lv' := [(4, .int (σ (35 + n) o)), (3, .int (σ (25 + n) o)), (0, .ref (a 0)), (1, .int (nI n)), (2, .int (nI o))]) hx hb dX0_isOutdated_17 hl (by decide) rfl (fun ls hl => ?_)
  refine lv_aload_n hx hb dX0_isOutdated_19 rfl (lv_at hl 2 rfl) ?_
  refine rm_geta C hw 12 7 (by decide) rfl (hts _ (by decide +kernel)) rfl dX0_isOutdated_20 ?_
  refine lv_iload_n hx hb dX0_isOutdated_23 rfl (lv_at hl 3 rfl) ?_
  refine rm_iald C hw (by decide) hn dX0_isOutdated_24 ?_
  refine lv_iload_n hx hb dX0_isOutdated_25 rfl (lv_at hl 1 rfl) ?_
  refine lv_icmp_ne (tgt := 42) hx hb dX0_isOutdated_26 (by decide) (fun c_26 => ?_) (fun c_26 => ?_)
  · skip
    refine lv_iconst (v := 0) hx hb dX0_isOutdated_42 (by decide) ?_
    refine lv_istore (lv' := [(5, .int 0), (4, .int (σ (35 + n) o)), (3, .int (σ (25 + n) o)), (0, .ref (a 0)), (1, .int (nI n)), (2, .int (nI o))]) hx hb dX0_isOutdated_43 hl (by decide) rfl (fun ls hl => ?_)
    have lp_45 : ∀ (r i : Nat), i + r = 10 → ∀ (_ : Unit), rm_outdL σ n (σ (25 + n) o) (σ (35 + n) o) r i = rm_outd σ n o → ∀ (H : Heap) (locs : List Loc), rm_Wd k a (rm_A a s.heap.size) s.heap s σ H locs → ∀ (ls : Array Slot), lv_has ls 6 [(0, .ref (a 0)), (1, .int (nI n)), (3, .int (σ (25 + n) o)), (4, .int (σ (35 + n) o)), (5, .int (nI i))] → W p l e (headSpec wsX0_isOutdated ({ frames := 0, cells := 0, slots := 0, locals := 0 })).room s m args below meth c H locs 0 0 (MQ below (va_Qi (fun (r : Int32) (τ : rm_St) => r = (bI (rm_outd σ n o)) ∧ τ = σ) (fun τ t => rm_P k a τ t) (rm_A a s.heap.size)) args s 0 0 (rm_A a s.heap.size)) (F0 m 45 ls []) := by
      intro r
      induction r with
      | zero =>
        intro i hi45 _ ht45 H locs hw ls hl
        obtain rfl : 10 = i := by omega
        have hz45 : false = rm_outd σ n o := ht45
        refine lv_iload hx hb dX0_isOutdated_45 (lv_at hl 4 rfl) ?_
        refine lv_bipush (v := 10) hx hb dX0_isOutdated_47 (by decide) ?_
        refine lv_icmp_ge (tgt := 87) hx hb dX0_isOutdated_49 (by decide) (fun c_49 => ?_) (fun c_49 => ?_)
        · skip
          refine lv_iconst (v := 0) hx hb dX0_isOutdated_87 (by decide) ?_
          exact rm_zret C hr hlocks hw (by decide) dX0_isOutdated_88 ⟨by first | with_reducible rfl | with_reducible exact hz45 | (rw [← hz45]; done) | (rw [← hz45]; exact bI_f.symm) | (simp only [rm_outd, if_neg c_26, ↓reduceIte, Bool.false_eq_true]; rw [← hz45]; done) | (rw [← hz45]; simp only [rm_outdL, ↓reduceIte, Bool.false_eq_true]; done) | (rw [← hz45]; simp only [rm_outdL, ↓reduceIte, Bool.false_eq_true]; with_reducible rfl) | (rw [← hz45]; simp only [rm_outdL, ↓reduceIte, Bool.false_eq_true]; rfl) | (simp only [rm_outd, if_neg c_26, ↓reduceIte, Bool.false_eq_true]; done) | (simp only [rm_outd, if_neg c_26, ↓reduceIte, Bool.false_eq_true]; with_reducible rfl), by first | with_reducible rfl | with_reducible exact hz45 | (rw [← hz45]; done) | (rw [← hz45]; exact bI_f.symm) | (simp only [rm_outd, if_neg c_26, ↓reduceIte, Bool.false_eq_true]; rw [← hz45]; done) | (rw [← hz45]; simp only [rm_outdL, ↓reduceIte, Bool.false_eq_true]; done) | (rw [← hz45]; simp only [rm_outdL, ↓reduceIte, Bool.false_eq_true]; with_reducible rfl) | (rw [← hz45]; simp only [rm_outdL, ↓reduceIte, Bool.false_eq_true]; rfl) | (simp only [rm_outd, if_neg c_26, ↓reduceIte, Bool.false_eq_true]; done) | (simp only [rm_outd, if_neg c_26, ↓reduceIte, Bool.false_eq_true]; with_reducible rfl)⟩
        · exact absurd (show (10 : Int32) ≤ nI 10 from nI_le (a := 10) (b := 10) (Nat.le_refl _) (by decide)) c_49
      | succ r ih45 =>
        intro i hi45 _ ht45 H locs hw ls hl
        have hlt45 : i < 10 := by omega
        refine lv_iload hx hb dX0_isOutdated_45 (lv_at hl 4 rfl) ?_
        refine lv_bipush (v := 10) hx hb dX0_isOutdated_47 (by decide) ?_
        refine lv_icmp_ge (tgt := 87) hx hb dX0_isOutdated_49 (by decide) (fun c_49 => ?_) (fun c_49 => ?_)
        · exact absurd c_49 (nI_ge (a := i) (b := 10) hlt45 (by decide))
        · skip
          refine lv_aload_n hx hb dX0_isOutdated_52 rfl (lv_at hl 0 rfl) ?_
          refine rm_geta C hw 7 2 (by decide) rfl (hts _ (by decide +kernel)) rfl dX0_isOutdated_53 ?_
          refine lv_iload_n hx hb dX0_isOutdated_56 rfl (lv_at hl 1 rfl) ?_
          refine rm_aald C hw 25 (by decide) hn dX0_isOutdated_57 ?_
          refine lv_iload hx hb dX0_isOutdated_58 (lv_at hl 4 rfl) ?_
          refine rm_iald C hw ⟨by omega, by omega⟩ hlt45 dX0_isOutdated_60 ?_
          refine lv_iload_n hx hb dX0_isOutdated_61 rfl (lv_at hl 2 rfl) ?_
          refine lv_icmp_ne (tgt := 81) hx hb dX0_isOutdated_62 (by decide) (fun c_62 => ?_) (fun c_62 => ?_)
          · skip
            refine lv_iinc (v := nI (i + 1)) (lv' := [(5, .int (nI (i + 1))), (0, .ref (a 0)), (1, .int (nI n)), (3, .int (σ (25 + n) o)), (4, .int (σ (35 + n) o))]) hx hb dX0_isOutdated_81 hl (k := 4) rfl (rm_inc i) (by decide) rfl (fun ls hl => ?_)
            refine lv_goto (tgt := 45) hx hb dX0_isOutdated_84 (by decide) ?_
            exact ih45 (i + 1) (by omega) () (by refine Eq.trans ?_ ht45; first | with_reducible rfl | (simp only [rm_outdL, if_neg c_62, ↓reduceIte, Bool.false_eq_true]; done) | (simp only [rm_outdL, if_neg c_62, ↓reduceIte, Bool.false_eq_true]; with_reducible rfl)) _ _ hw _ (lv_sub hl [1, 2, 3, 4, 0] rfl)
          · skip
            refine lv_aload_n hx hb dX0_isOutdated_65 rfl (lv_at hl 0 rfl) ?_
            refine rm_geta C hw 8 3 (by decide) rfl (hts _ (by decide +kernel)) rfl dX0_isOutdated_66 ?_
            refine lv_iload_n hx hb dX0_isOutdated_69 rfl (lv_at hl 1 rfl) ?_
            refine rm_aald C hw 35 (by decide) hn dX0_isOutdated_70 ?_
            refine lv_iload hx hb dX0_isOutdated_71 (lv_at hl 4 rfl) ?_
            refine rm_iald C hw ⟨by omega, by omega⟩ hlt45 dX0_isOutdated_73 ?_
            refine lv_iload hx hb dX0_isOutdated_74 (lv_at hl 3 rfl) ?_
            refine lv_icmp_le (tgt := 81) hx hb dX0_isOutdated_76 (by decide) (fun c_76 => ?_) (fun c_76 => ?_)
            · skip
              refine lv_iinc (v := nI (i + 1)) (lv' := [(5, .int (nI (i + 1))), (0, .ref (a 0)), (1, .int (nI n)), (3, .int (σ (25 + n) o)), (4, .int (σ (35 + n) o))]) hx hb dX0_isOutdated_81 hl (k := 4) rfl (rm_inc i) (by decide) rfl (fun ls hl => ?_)
              refine lv_goto (tgt := 45) hx hb dX0_isOutdated_84 (by decide) ?_
              exact ih45 (i + 1) (by omega) () (by refine Eq.trans ?_ ht45; first | with_reducible rfl | (simp only [rm_outdL, if_pos c_62, if_pos c_76, ↓reduceIte, Bool.false_eq_true]; done) | (simp only [rm_outdL, if_pos c_62, if_pos c_76, ↓reduceIte, Bool.false_eq_true]; with_reducible rfl)) _ _ hw _ (lv_sub hl [1, 2, 3, 4, 0] rfl)
            · skip
              refine lv_iconst (v := 1) hx hb dX0_isOutdated_79 (by decide) ?_
              exact rm_zret C hr hlocks hw (by decide) dX0_isOutdated_80 ⟨by first | with_reducible rfl | (rw [← ht45]; simp only [rm_outdL, if_pos c_62, if_neg c_76, ↓reduceIte, Bool.false_eq_true]; done) | (rw [← ht45]; simp only [rm_outdL, if_pos c_62, if_neg c_76, ↓reduceIte, Bool.false_eq_true]; with_reducible rfl) | (rw [← ht45]; simp only [rm_outdL, if_pos c_62, if_neg c_76, ↓reduceIte, Bool.false_eq_true]; rfl) | (simp only [rm_outd, if_neg c_26, if_pos c_62, if_neg c_76, ↓reduceIte, Bool.false_eq_true]; rw [← ht45]; simp only [rm_outdL, if_pos c_62, if_neg c_76, ↓reduceIte, Bool.false_eq_true]; done) | (simp only [rm_outd, if_neg c_26, if_pos c_62, if_neg c_76, ↓reduceIte, Bool.false_eq_true]; done) | (simp only [rm_outd, if_neg c_26, if_pos c_62, if_neg c_76, ↓reduceIte, Bool.false_eq_true]; with_reducible rfl), by first | with_reducible rfl | (rw [← ht45]; simp only [rm_outdL, if_pos c_62, if_neg c_76, ↓reduceIte, Bool.false_eq_true]; done) | (rw [← ht45]; simp only [rm_outdL, if_pos c_62, if_neg c_76, ↓reduceIte, Bool.false_eq_true]; with_reducible rfl) | (rw [← ht45]; simp only [rm_outdL, if_pos c_62, if_neg c_76, ↓reduceIte, Bool.false_eq_true]; rfl) | (simp only [rm_outd, if_neg c_26, if_pos c_62, if_neg c_76, ↓reduceIte, Bool.false_eq_true]; rw [← ht45]; simp only [rm_outdL, if_pos c_62, if_neg c_76, ↓reduceIte, Bool.false_eq_true]; done) | (simp only [rm_outd, if_neg c_26, if_pos c_62, if_neg c_76, ↓reduceIte, Bool.false_eq_true]; done) | (simp only [rm_outd, if_neg c_26, if_pos c_62, if_neg c_76, ↓reduceIte, Bool.false_eq_true]; with_reducible rfl)⟩
    exact lp_45 10 0 (by omega) () (by first | with_reducible rfl | (unfold rm_outd; with_reducible rfl) | (simp only [rm_outd, if_neg c_26, ↓reduceIte, Bool.false_eq_true]; done) | (simp only [rm_outd, if_neg c_26, ↓reduceIte, Bool.false_eq_true]; with_reducible rfl)) _ _ hw _ (lv_sub hl [3, 4, 2, 1, 0] rfl)
  · skip
    refine lv_aload_n hx hb dX0_isOutdated_29 rfl (lv_at hl 2 rfl) ?_
    refine rm_geta C hw 13 8 (by decide) rfl (hts _ (by decide +kernel)) rfl dX0_isOutdated_30 ?_
    refine lv_iload_n hx hb dX0_isOutdated_33 rfl (lv_at hl 3 rfl) ?_
    refine rm_iald C hw (by decide) hn dX0_isOutdated_34 ?_
    refine lv_iload hx hb dX0_isOutdated_35 (lv_at hl 0 rfl) ?_
    refine lv_icmp_le (tgt := 42) hx hb dX0_isOutdated_37 (by decide) (fun c_37 => ?_) (fun c_37 => ?_)
    · skip
      refine lv_iconst (v := 0) hx hb dX0_isOutdated_42 (by decide) ?_
      refine lv_istore (lv' := [(5, .int 0), (4, .int (σ (35 + n) o)), (3, .int (σ (25 + n) o)), (0, .ref (a 0)), (1, .int (nI n)), (2, .int (nI o))]) hx hb dX0_isOutdated_43 hl (by decide) rfl (fun ls hl => ?_)
      have lp_45 : ∀ (r i : Nat), i + r = 10 → ∀ (_ : Unit), rm_outdL σ n (σ (25 + n) o) (σ (35 + n) o) r i = rm_outd σ n o → ∀ (H : Heap) (locs : List Loc), rm_Wd k a (rm_A a s.heap.size) s.heap s σ H locs → ∀ (ls : Array Slot), lv_has ls 6 [(0, .ref (a 0)), (1, .int (nI n)), (3, .int (σ (25 + n) o)), (4, .int (σ (35 + n) o)), (5, .int (nI i))] → W p l e (headSpec wsX0_isOutdated ({ frames := 0, cells := 0, slots := 0, locals := 0 })).room s m args below meth c H locs 0 0 (MQ below (va_Qi (fun (r : Int32) (τ : rm_St) => r = (bI (rm_outd σ n o)) ∧ τ = σ) (fun τ t => rm_P k a τ t) (rm_A a s.heap.size)) args s 0 0 (rm_A a s.heap.size)) (F0 m 45 ls []) := by
        intro r
        induction r with
        | zero =>
          intro i hi45 _ ht45 H locs hw ls hl
          obtain rfl : 10 = i := by omega
          have hz45 : false = rm_outd σ n o := ht45
          refine lv_iload hx hb dX0_isOutdated_45 (lv_at hl 4 rfl) ?_
          refine lv_bipush (v := 10) hx hb dX0_isOutdated_47 (by decide) ?_
          refine lv_icmp_ge (tgt := 87) hx hb dX0_isOutdated_49 (by decide) (fun c_49 => ?_) (fun c_49 => ?_)
          · skip
            refine lv_iconst (v := 0) hx hb dX0_isOutdated_87 (by decide) ?_
            exact rm_zret C hr hlocks hw (by decide) dX0_isOutdated_88 ⟨by first | with_reducible rfl | with_reducible exact hz45 | (rw [← hz45]; done) | (rw [← hz45]; exact bI_f.symm) | (simp only [rm_outd, if_pos c_26, if_pos c_37, ↓reduceIte, Bool.false_eq_true]; rw [← hz45]; done) | (rw [← hz45]; simp only [rm_outdL, ↓reduceIte, Bool.false_eq_true]; done) | (rw [← hz45]; simp only [rm_outdL, ↓reduceIte, Bool.false_eq_true]; with_reducible rfl) | (rw [← hz45]; simp only [rm_outdL, ↓reduceIte, Bool.false_eq_true]; rfl) | (simp only [rm_outd, if_pos c_26, if_pos c_37, ↓reduceIte, Bool.false_eq_true]; done) | (simp only [rm_outd, if_pos c_26, if_pos c_37, ↓reduceIte, Bool.false_eq_true]; with_reducible rfl), by first | with_reducible rfl | with_reducible exact hz45 | (rw [← hz45]; done) | (rw [← hz45]; exact bI_f.symm) | (simp only [rm_outd, if_pos c_26, if_pos c_37, ↓reduceIte, Bool.false_eq_true]; rw [← hz45]; done) | (rw [← hz45]; simp only [rm_outdL, ↓reduceIte, Bool.false_eq_true]; done) | (rw [← hz45]; simp only [rm_outdL, ↓reduceIte, Bool.false_eq_true]; with_reducible rfl) | (rw [← hz45]; simp only [rm_outdL, ↓reduceIte, Bool.false_eq_true]; rfl) | (simp only [rm_outd, if_pos c_26, if_pos c_37, ↓reduceIte, Bool.false_eq_true]; done) | (simp only [rm_outd, if_pos c_26, if_pos c_37, ↓reduceIte, Bool.false_eq_true]; with_reducible rfl)⟩
          · exact absurd (show (10 : Int32) ≤ nI 10 from nI_le (a := 10) (b := 10) (Nat.le_refl _) (by decide)) c_49
        | succ r ih45 =>
          intro i hi45 _ ht45 H locs hw ls hl
          have hlt45 : i < 10 := by omega
          refine lv_iload hx hb dX0_isOutdated_45 (lv_at hl 4 rfl) ?_
          refine lv_bipush (v := 10) hx hb dX0_isOutdated_47 (by decide) ?_
          refine lv_icmp_ge (tgt := 87) hx hb dX0_isOutdated_49 (by decide) (fun c_49 => ?_) (fun c_49 => ?_)
          · exact absurd c_49 (nI_ge (a := i) (b := 10) hlt45 (by decide))
          · skip
            refine lv_aload_n hx hb dX0_isOutdated_52 rfl (lv_at hl 0 rfl) ?_
            refine rm_geta C hw 7 2 (by decide) rfl (hts _ (by decide +kernel)) rfl dX0_isOutdated_53 ?_
            refine lv_iload_n hx hb dX0_isOutdated_56 rfl (lv_at hl 1 rfl) ?_
            refine rm_aald C hw 25 (by decide) hn dX0_isOutdated_57 ?_
            refine lv_iload hx hb dX0_isOutdated_58 (lv_at hl 4 rfl) ?_
            refine rm_iald C hw ⟨by omega, by omega⟩ hlt45 dX0_isOutdated_60 ?_
            refine lv_iload_n hx hb dX0_isOutdated_61 rfl (lv_at hl 2 rfl) ?_
            refine lv_icmp_ne (tgt := 81) hx hb dX0_isOutdated_62 (by decide) (fun c_62 => ?_) (fun c_62 => ?_)
            · skip
              refine lv_iinc (v := nI (i + 1)) (lv' := [(5, .int (nI (i + 1))), (0, .ref (a 0)), (1, .int (nI n)), (3, .int (σ (25 + n) o)), (4, .int (σ (35 + n) o))]) hx hb dX0_isOutdated_81 hl (k := 4) rfl (rm_inc i) (by decide) rfl (fun ls hl => ?_)
              refine lv_goto (tgt := 45) hx hb dX0_isOutdated_84 (by decide) ?_
              exact ih45 (i + 1) (by omega) () (by refine Eq.trans ?_ ht45; first | with_reducible rfl | (simp only [rm_outdL, if_neg c_62, ↓reduceIte, Bool.false_eq_true]; done) | (simp only [rm_outdL, if_neg c_62, ↓reduceIte, Bool.false_eq_true]; with_reducible rfl)) _ _ hw _ (lv_sub hl [1, 2, 3, 4, 0] rfl)
            · skip
              refine lv_aload_n hx hb dX0_isOutdated_65 rfl (lv_at hl 0 rfl) ?_
              refine rm_geta C hw 8 3 (by decide) rfl (hts _ (by decide +kernel)) rfl dX0_isOutdated_66 ?_
              refine lv_iload_n hx hb dX0_isOutdated_69 rfl (lv_at hl 1 rfl) ?_
              refine rm_aald C hw 35 (by decide) hn dX0_isOutdated_70 ?_
              refine lv_iload hx hb dX0_isOutdated_71 (lv_at hl 4 rfl) ?_
              refine rm_iald C hw ⟨by omega, by omega⟩ hlt45 dX0_isOutdated_73 ?_
              refine lv_iload hx hb dX0_isOutdated_74 (lv_at hl 3 rfl) ?_
              refine lv_icmp_le (tgt := 81) hx hb dX0_isOutdated_76 (by decide) (fun c_76 => ?_) (fun c_76 => ?_)
              · skip
                refine lv_iinc (v := nI (i + 1)) (lv' := [(5, .int (nI (i + 1))), (0, .ref (a 0)), (1, .int (nI n)), (3, .int (σ (25 + n) o)), (4, .int (σ (35 + n) o))]) hx hb dX0_isOutdated_81 hl (k := 4) rfl (rm_inc i) (by decide) rfl (fun ls hl => ?_)
                refine lv_goto (tgt := 45) hx hb dX0_isOutdated_84 (by decide) ?_
                exact ih45 (i + 1) (by omega) () (by refine Eq.trans ?_ ht45; first | with_reducible rfl | (simp only [rm_outdL, if_pos c_62, if_pos c_76, ↓reduceIte, Bool.false_eq_true]; done) | (simp only [rm_outdL, if_pos c_62, if_pos c_76, ↓reduceIte, Bool.false_eq_true]; with_reducible rfl)) _ _ hw _ (lv_sub hl [1, 2, 3, 4, 0] rfl)
              · skip
                refine lv_iconst (v := 1) hx hb dX0_isOutdated_79 (by decide) ?_
                exact rm_zret C hr hlocks hw (by decide) dX0_isOutdated_80 ⟨by first | with_reducible rfl | (rw [← ht45]; simp only [rm_outdL, if_pos c_62, if_neg c_76, ↓reduceIte, Bool.false_eq_true]; done) | (rw [← ht45]; simp only [rm_outdL, if_pos c_62, if_neg c_76, ↓reduceIte, Bool.false_eq_true]; with_reducible rfl) | (rw [← ht45]; simp only [rm_outdL, if_pos c_62, if_neg c_76, ↓reduceIte, Bool.false_eq_true]; rfl) | (simp only [rm_outd, if_pos c_26, if_pos c_37, if_pos c_62, if_neg c_76, ↓reduceIte, Bool.false_eq_true]; rw [← ht45]; simp only [rm_outdL, if_pos c_62, if_neg c_76, ↓reduceIte, Bool.false_eq_true]; done) | (simp only [rm_outd, if_pos c_26, if_pos c_37, if_pos c_62, if_neg c_76, ↓reduceIte, Bool.false_eq_true]; done) | (simp only [rm_outd, if_pos c_26, if_pos c_37, if_pos c_62, if_neg c_76, ↓reduceIte, Bool.false_eq_true]; with_reducible rfl), by first | with_reducible rfl | (rw [← ht45]; simp only [rm_outdL, if_pos c_62, if_neg c_76, ↓reduceIte, Bool.false_eq_true]; done) | (rw [← ht45]; simp only [rm_outdL, if_pos c_62, if_neg c_76, ↓reduceIte, Bool.false_eq_true]; with_reducible rfl) | (rw [← ht45]; simp only [rm_outdL, if_pos c_62, if_neg c_76, ↓reduceIte, Bool.false_eq_true]; rfl) | (simp only [rm_outd, if_pos c_26, if_pos c_37, if_pos c_62, if_neg c_76, ↓reduceIte, Bool.false_eq_true]; rw [← ht45]; simp only [rm_outdL, if_pos c_62, if_neg c_76, ↓reduceIte, Bool.false_eq_true]; done) | (simp only [rm_outd, if_pos c_26, if_pos c_37, if_pos c_62, if_neg c_76, ↓reduceIte, Bool.false_eq_true]; done) | (simp only [rm_outd, if_pos c_26, if_pos c_37, if_pos c_62, if_neg c_76, ↓reduceIte, Bool.false_eq_true]; with_reducible rfl)⟩
      exact lp_45 10 0 (by omega) () (by first | with_reducible rfl | (unfold rm_outd; with_reducible rfl) | (simp only [rm_outd, if_pos c_26, if_pos c_37, ↓reduceIte, Bool.false_eq_true]; done) | (simp only [rm_outd, if_pos c_26, if_pos c_37, ↓reduceIte, Bool.false_eq_true]; with_reducible rfl)) _ _ hw _ (lv_sub hl [3, 4, 2, 1, 0] rfl)
    · skip
      refine lv_iconst (v := 1) hx hb dX0_isOutdated_40 (by decide) ?_
      exact rm_zret C hr hlocks hw (by decide) dX0_isOutdated_41 ⟨by first | with_reducible rfl | (simp only [rm_outd, if_pos c_26, if_neg c_37, ↓reduceIte, Bool.false_eq_true]; done) | (simp only [rm_outd, if_pos c_26, if_neg c_37, ↓reduceIte, Bool.false_eq_true]; rfl) | rfl, by first | with_reducible rfl | (simp only [rm_outd, if_pos c_26, if_neg c_37, ↓reduceIte, Bool.false_eq_true]; done) | (simp only [rm_outd, if_pos c_26, if_neg c_37, ↓reduceIte, Bool.false_eq_true]; rfl) | rfl⟩
set_option maxHeartbeats 4000000 in
set_option maxRecDepth 100000 in
theorem kX0_isCandidate (l : Launch) (k : rm_K) (a : Nat → Nat) (ha : rm_inj a) (σ : rm_St) (n : Nat) (o : Nat) (hn : n < 10) (ho : o < 10) : rm_MI l k a yX0_isCandidate wsX0_isCandidate ({ frames := 2, cells := 0, slots := 0, locals := 44 }) [.int (nI n), .int (nI o)] σ (bI (rm_cand σ n o)) σ := by
  refine rm_enterI (cc := cX0_isCandidate) (nL := 4) (ret := (some .boolean)) ha (by decide) rfl rfl (by decide +kernel) (Nat.le_of_ble_eq_true rfl) ?_
  intro p e s m args below meth c ls C hr hlocks hw hl
  have hx := C.1.1
  have hb := C.1.2.1
  have hts := C.1.2.2.2.2
  have hA : ∀ q, s.heap.size ≤ q → rm_A a s.heap.size q := fun q h => Or.inr h
  replace hl : lv_has ls 4 [(0, .ref (a 0)), (1, .int (nI n)), (2, .int (nI o))] := hl
  refine lv_aload_n hx hb dX0_isCandidate_0 rfl (lv_at hl 0 rfl) ?_
  refine rm_geta C hw 9 4 (by decide) rfl (hts _ (by decide +kernel)) rfl dX0_isCandidate_1 ?_
  refine lv_iload_n hx hb dX0_isCandidate_4 rfl (lv_at hl 1 rfl) ?_
  refine rm_aald C hw 45 (by decide) hn dX0_isCandidate_5 ?_
  refine lv_iload_n hx hb dX0_isCandidate_6 rfl (lv_at hl 2 rfl) ?_
  refine rm_iald C hw ⟨by omega, by omega⟩ ho dX0_isCandidate_7 ?_
  refine lv_istore_n (lv' := [(3, .int (σ (45 + n) o)), (0, .ref (a 0)), (1, .int (nI n)), (2, .int (nI o))]) hx hb dX0_isCandidate_8 rfl hl (by decide) rfl (fun ls hl => ?_)
  refine lv_iload_n hx hb dX0_isCandidate_9 rfl (lv_at hl 0 rfl) ?_
  refine lv_iconst (v := (-1)) hx hb dX0_isCandidate_10 (by decide) ?_
  refine lv_icmp_eq (tgt := 33) hx hb dX0_isCandidate_11 (by decide) (fun c_11 => ?_) (fun c_11 => ?_)
  · skip
    refine lv_iconst (v := 0) hx hb dX0_isCandidate_33 (by decide) ?_
    exact rm_zret C hr hlocks hw (by decide) dX0_isCandidate_34 ⟨by first | with_reducible rfl | (simp only [rm_cand, if_pos c_11, ↓reduceIte, Bool.false_eq_true]; done) | (simp only [rm_cand, if_pos c_11, ↓reduceIte, Bool.false_eq_true]; rfl) | rfl, by first | with_reducible rfl | (simp only [rm_cand, if_pos c_11, ↓reduceIte, Bool.false_eq_true]; done) | (simp only [rm_cand, if_pos c_11, ↓reduceIte, Bool.false_eq_true]; rfl) | rfl⟩
  · skip
    refine lv_iload_n hx hb dX0_isCandidate_14 rfl (lv_at hl 0 rfl) ?_
    refine lv_sipush (v := 10000) hx hb dX0_isCandidate_15 (by decide) ?_
    refine lv_icmp_ge (tgt := 33) hx hb dX0_isCandidate_18 (by decide) (fun c_18 => ?_) (fun c_18 => ?_)
    · skip
      refine lv_iconst (v := 0) hx hb dX0_isCandidate_33 (by decide) ?_
      exact rm_zret C hr hlocks hw (by decide) dX0_isCandidate_34 ⟨by first | with_reducible rfl | (simp only [rm_cand, if_neg c_11, if_pos c_18, ↓reduceIte, Bool.false_eq_true]; done) | (simp only [rm_cand, if_neg c_11, if_pos c_18, ↓reduceIte, Bool.false_eq_true]; rfl) | rfl, by first | with_reducible rfl | (simp only [rm_cand, if_neg c_11, if_pos c_18, ↓reduceIte, Bool.false_eq_true]; done) | (simp only [rm_cand, if_neg c_11, if_pos c_18, ↓reduceIte, Bool.false_eq_true]; rfl) | rfl⟩
    · skip
      refine lv_aload_n hx hb dX0_isCandidate_21 rfl (lv_at hl 1 rfl) ?_
      refine lv_iload_n hx hb dX0_isCandidate_22 rfl (lv_at hl 2 rfl) ?_
      refine lv_iload_n hx hb dX0_isCandidate_23 rfl (lv_at hl 3 rfl) ?_
      refine rm_callI C hw hA (As := [.int (nI n), .int (nI o)]) (rest := []) (kX0_rankBy l k a ha σ n o hn ho) (cwV 2 hts gX0_isCandidate_X0_rankBy rfl rfl rfl (by decide +kernel) ⟨Nat.le_of_ble_eq_true rfl, Nat.le_of_ble_eq_true rfl⟩) rfl hl.1 rfl (lv_room (Nat.le_of_ble_eq_true rfl)) dX0_isCandidate_24 ⟨Nat.zero_le _, Nat.zero_le _⟩ (fun H locs hw => ?_)
      refine lv_sipush (v := 10000) hx hb dX0_isCandidate_27 (by decide) ?_
      refine lv_icmp_lt (tgt := 35) hx hb dX0_isCandidate_30 (by decide) (fun c_30 => ?_) (fun c_30 => ?_)
      · skip
        refine lv_aload_n hx hb dX0_isCandidate_35 rfl (lv_at hl 1 rfl) ?_
        refine lv_iload_n hx hb dX0_isCandidate_36 rfl (lv_at hl 2 rfl) ?_
        refine lv_iload_n hx hb dX0_isCandidate_37 rfl (lv_at hl 3 rfl) ?_
        refine rm_callI C hw hA (As := [.int (nI n), .int (nI o)]) (rest := []) (kX0_isOutdated l k a ha σ n o hn ho) (cwV 2 hts gX0_isCandidate_X0_isOutdated rfl rfl rfl (by decide +kernel) ⟨Nat.le_of_ble_eq_true rfl, Nat.le_of_ble_eq_true rfl⟩) rfl hl.1 rfl (lv_room (Nat.le_of_ble_eq_true rfl)) dX0_isCandidate_38 ⟨Nat.zero_le _, Nat.zero_le _⟩ (fun H locs hw => ?_)
        refine rm_ifne (tgt := 57) hx hb dX0_isCandidate_41 (by decide) (fun c_41 => ?_) (fun c_41 => ?_)
        · skip
          refine lv_iconst (v := 0) hx hb dX0_isCandidate_57 (by decide) ?_
          exact rm_zret C hr hlocks hw (by decide) dX0_isCandidate_58 ⟨by first | with_reducible rfl | (simp only [rm_cand, if_neg c_11, if_neg c_18, if_pos c_30, c_41, ↓reduceIte, Bool.false_eq_true]; done) | (simp only [rm_cand, if_neg c_11, if_neg c_18, if_pos c_30, c_41, ↓reduceIte, Bool.false_eq_true]; rfl) | rfl, by first | with_reducible rfl | (simp only [rm_cand, if_neg c_11, if_neg c_18, if_pos c_30, c_41, ↓reduceIte, Bool.false_eq_true]; done) | (simp only [rm_cand, if_neg c_11, if_neg c_18, if_pos c_30, c_41, ↓reduceIte, Bool.false_eq_true]; rfl) | rfl⟩
        · skip
          refine lv_aload_n hx hb dX0_isCandidate_44 rfl (lv_at hl 1 rfl) ?_
          refine lv_iload_n hx hb dX0_isCandidate_45 rfl (lv_at hl 2 rfl) ?_
          refine lv_iload_n hx hb dX0_isCandidate_46 rfl (lv_at hl 3 rfl) ?_
          refine rm_callI C hw hA (As := [.int (nI n), .int (nI o)]) (rest := []) (kX0_isTooDeep l k a ha σ n o hn ho) (cwV 2 hts gX0_isCandidate_X0_isTooDeep rfl rfl rfl (by decide +kernel) ⟨Nat.le_of_ble_eq_true rfl, Nat.le_of_ble_eq_true rfl⟩) rfl hl.1 rfl (lv_room (Nat.le_of_ble_eq_true rfl)) dX0_isCandidate_47 ⟨Nat.zero_le _, Nat.zero_le _⟩ (fun H locs hw => ?_)
          refine rm_ifne (tgt := 57) hx hb dX0_isCandidate_50 (by decide) (fun c_50 => ?_) (fun c_50 => ?_)
          · skip
            refine lv_iconst (v := 0) hx hb dX0_isCandidate_57 (by decide) ?_
            exact rm_zret C hr hlocks hw (by decide) dX0_isCandidate_58 ⟨by first | with_reducible rfl | (simp only [rm_cand, if_neg c_11, if_neg c_18, if_pos c_30, c_41, c_50, ↓reduceIte, Bool.false_eq_true]; done) | (simp only [rm_cand, if_neg c_11, if_neg c_18, if_pos c_30, c_41, c_50, ↓reduceIte, Bool.false_eq_true]; rfl) | rfl, by first | with_reducible rfl | (simp only [rm_cand, if_neg c_11, if_neg c_18, if_pos c_30, c_41, c_50, ↓reduceIte, Bool.false_eq_true]; done) | (simp only [rm_cand, if_neg c_11, if_neg c_18, if_pos c_30, c_41, c_50, ↓reduceIte, Bool.false_eq_true]; rfl) | rfl⟩
          · skip
            refine lv_iconst (v := 1) hx hb dX0_isCandidate_53 (by decide) ?_
            refine lv_goto (tgt := 58) hx hb dX0_isCandidate_54 (by decide) ?_
            exact rm_zret C hr hlocks hw (by decide) dX0_isCandidate_58 ⟨by first | with_reducible rfl | (simp only [rm_cand, if_neg c_11, if_neg c_18, if_pos c_30, c_41, c_50, ↓reduceIte, Bool.false_eq_true]; done) | (simp only [rm_cand, if_neg c_11, if_neg c_18, if_pos c_30, c_41, c_50, ↓reduceIte, Bool.false_eq_true]; rfl) | rfl, by first | with_reducible rfl | (simp only [rm_cand, if_neg c_11, if_neg c_18, if_pos c_30, c_41, c_50, ↓reduceIte, Bool.false_eq_true]; done) | (simp only [rm_cand, if_neg c_11, if_neg c_18, if_pos c_30, c_41, c_50, ↓reduceIte, Bool.false_eq_true]; rfl) | rfl⟩
      · skip
        refine lv_iconst (v := 0) hx hb dX0_isCandidate_33 (by decide) ?_
        exact rm_zret C hr hlocks hw (by decide) dX0_isCandidate_34 ⟨by first | with_reducible rfl | (simp only [rm_cand, if_neg c_11, if_neg c_18, if_neg c_30, ↓reduceIte, Bool.false_eq_true]; done) | (simp only [rm_cand, if_neg c_11, if_neg c_18, if_neg c_30, ↓reduceIte, Bool.false_eq_true]; rfl) | rfl, by first | with_reducible rfl | (simp only [rm_cand, if_neg c_11, if_neg c_18, if_neg c_30, ↓reduceIte, Bool.false_eq_true]; done) | (simp only [rm_cand, if_neg c_11, if_neg c_18, if_neg c_30, ↓reduceIte, Bool.false_eq_true]; rfl) | rfl⟩
set_option maxHeartbeats 4000000 in
set_option maxRecDepth 100000 in
theorem kX0_bestCandidate (l : Launch) (k : rm_K) (a : Nat → Nat) (ha : rm_inj a) (σ : rm_St) (n : Nat) (hn : n < 10) : rm_MI l k a yX0_bestCandidate wsX0_bestCandidate ({ frames := 3, cells := 0, slots := 0, locals := 67 }) [.int (nI n)] σ (rm_best σ n) σ := by
  refine rm_enterI (cc := cX0_bestCandidate) (nL := 6) (ret := (some .int)) ha (by decide) rfl rfl (by decide +kernel) (Nat.le_of_ble_eq_true rfl) ?_
  intro p e s m args below meth c ls C hr hlocks hw hl
  have hx := C.1.1
  have hb := C.1.2.1
  have hts := C.1.2.2.2.2
  have hA : ∀ q, s.heap.size ≤ q → rm_A a s.heap.size q := fun q h => Or.inr h
  replace hl : lv_has ls 6 [(0, .ref (a 0)), (1, .int (nI n))] := hl
  refine lv_iconst (v := (-1)) hx hb dX0_bestCandidate_0 (by decide) ?_
  refine lv_istore_n (lv' := [(2, .int ((-1))), (0, .ref (a 0)), (1, .int (nI n))]) hx hb dX0_bestCandidate_1 rfl hl (by decide) rfl (fun ls hl => ?_)
  refine lv_sipush (v := 10000) hx hb dX0_bestCandidate_2 (by decide) ?_
  refine lv_istore_n (lv' := [(3, .int 10000), (2, .int ((-1))), (0, .ref (a 0)), (1, .int (nI n))]) hx hb dX0_bestCandidate_5 rfl hl (by decide) rfl (fun ls hl => ?_)
  refine lv_iconst (v := 0) hx hb dX0_bestCandidate_6 (by decide) ?_
  refine lv_istore (lv' := [(4, .int 0), (3, .int 10000), (2, .int ((-1))), (0, .ref (a 0)), (1, .int (nI n))]) hx hb dX0_bestCandidate_7 hl (by decide) rfl (fun ls hl => ?_)
  have lp_9 : ∀ (r i : Nat), i + r = 10 → ∀ (x2 : Int32) (x3 : Int32), rm_bestL σ n r i x2 x3 = rm_best σ n → ∀ (H : Heap) (locs : List Loc), rm_Wd k a (rm_A a s.heap.size) s.heap s σ H locs → ∀ (ls : Array Slot), lv_has ls 6 [(0, .ref (a 0)), (1, .int (nI n)), (2, .int x2), (3, .int x3), (4, .int (nI i))] → W p l e (headSpec wsX0_bestCandidate ({ frames := 3, cells := 0, slots := 0, locals := 67 })).room s m args below meth c H locs 0 0 (MQ below (va_Qi (fun (r : Int32) (τ : rm_St) => r = (rm_best σ n) ∧ τ = σ) (fun τ t => rm_P k a τ t) (rm_A a s.heap.size)) args s 0 0 (rm_A a s.heap.size)) (F0 m 9 ls []) := by
    intro r
    induction r with
    | zero =>
      intro i hi9 x2 x3 ht9 H locs hw ls hl
      obtain rfl : 10 = i := by omega
      have hz9 : x2 = rm_best σ n := ht9
      refine lv_iload hx hb dX0_bestCandidate_9 (lv_at hl 4 rfl) ?_
      refine lv_bipush (v := 10) hx hb dX0_bestCandidate_11 (by decide) ?_
      refine lv_icmp_ge (tgt := 53) hx hb dX0_bestCandidate_13 (by decide) (fun c_13 => ?_) (fun c_13 => ?_)
      · skip
        refine lv_iload_n hx hb dX0_bestCandidate_53 rfl (lv_at hl 2 rfl) ?_
        exact rm_iret C hr hlocks hw dX0_bestCandidate_54 ⟨by first | with_reducible rfl | with_reducible exact hz9 | (rw [← hz9]; done) | (rw [← hz9]; exact bI_f.symm) | (simp only [rm_best, ↓reduceIte, Bool.false_eq_true]; rw [← hz9]; done) | (rw [← hz9]; simp only [rm_bestL, ↓reduceIte, Bool.false_eq_true]; done) | (rw [← hz9]; simp only [rm_bestL, ↓reduceIte, Bool.false_eq_true]; with_reducible rfl) | (rw [← hz9]; simp only [rm_bestL, ↓reduceIte, Bool.false_eq_true]; rfl) | (simp only [rm_best, ↓reduceIte, Bool.false_eq_true]; done) | (simp only [rm_best, ↓reduceIte, Bool.false_eq_true]; with_reducible rfl), by first | with_reducible rfl | with_reducible exact hz9 | (rw [← hz9]; done) | (rw [← hz9]; exact bI_f.symm) | (simp only [rm_best, ↓reduceIte, Bool.false_eq_true]; rw [← hz9]; done) | (rw [← hz9]; simp only [rm_bestL, ↓reduceIte, Bool.false_eq_true]; done) | (rw [← hz9]; simp only [rm_bestL, ↓reduceIte, Bool.false_eq_true]; with_reducible rfl) | (rw [← hz9]; simp only [rm_bestL, ↓reduceIte, Bool.false_eq_true]; rfl) | (simp only [rm_best, ↓reduceIte, Bool.false_eq_true]; done) | (simp only [rm_best, ↓reduceIte, Bool.false_eq_true]; with_reducible rfl)⟩
      · exact absurd (show (10 : Int32) ≤ nI 10 from nI_le (a := 10) (b := 10) (Nat.le_refl _) (by decide)) c_13
    | succ r ih9 =>
      intro i hi9 x2 x3 ht9 H locs hw ls hl
      have hlt9 : i < 10 := by omega
      refine lv_iload hx hb dX0_bestCandidate_9 (lv_at hl 4 rfl) ?_
      refine lv_bipush (v := 10) hx hb dX0_bestCandidate_11 (by decide) ?_
      refine lv_icmp_ge (tgt := 53) hx hb dX0_bestCandidate_13 (by decide) (fun c_13 => ?_) (fun c_13 => ?_)
      · exact absurd c_13 (nI_ge (a := i) (b := 10) hlt9 (by decide))
      · skip
        refine lv_aload_n hx hb dX0_bestCandidate_16 rfl (lv_at hl 0 rfl) ?_
        refine lv_iload_n hx hb dX0_bestCandidate_17 rfl (lv_at hl 1 rfl) ?_
        refine lv_iload hx hb dX0_bestCandidate_18 (lv_at hl 4 rfl) ?_
        refine rm_callI C hw hA (As := [.int (nI n), .int (nI i)]) (rest := []) (kX0_rankBy l k a ha σ n i hn hlt9) (cwV 2 hts gX0_bestCandidate_X0_rankBy rfl rfl rfl (by decide +kernel) ⟨Nat.le_of_ble_eq_true rfl, Nat.le_of_ble_eq_true rfl⟩) rfl hl.1 rfl (lv_room (Nat.le_of_ble_eq_true rfl)) dX0_bestCandidate_20 ⟨Nat.zero_le _, Nat.zero_le _⟩ (fun H locs hw => ?_)
        refine lv_istore (lv' := [(5, .int (rm_rankBy σ n i)), (0, .ref (a 0)), (1, .int (nI n)), (2, .int x2), (3, .int x3), (4, .int (nI i))]) hx hb dX0_bestCandidate_23 hl (by decide) rfl (fun ls hl => ?_)
        refine lv_iload hx hb dX0_bestCandidate_25 (lv_at hl 0 rfl) ?_
        refine lv_iload_n hx hb dX0_bestCandidate_27 rfl (lv_at hl 4 rfl) ?_
        refine lv_icmp_ge (tgt := 47) hx hb dX0_bestCandidate_28 (by decide) (fun c_28 => ?_) (fun c_28 => ?_)
        · skip
          refine lv_iinc (v := nI (i + 1)) (lv' := [(4, .int (nI (i + 1))), (5, .int (rm_rankBy σ n i)), (0, .ref (a 0)), (1, .int (nI n)), (2, .int x2), (3, .int x3)]) hx hb dX0_bestCandidate_47 hl (k := 5) rfl (rm_inc i) (by decide) rfl (fun ls hl => ?_)
          refine lv_goto (tgt := 9) hx hb dX0_bestCandidate_50 (by decide) ?_
          exact ih9 (i + 1) (by omega) (x2) (x3) (by refine Eq.trans ?_ ht9; first | with_reducible rfl | (simp only [rm_bestL, if_pos c_28, ↓reduceIte, Bool.false_eq_true]; done) | (simp only [rm_bestL, if_pos c_28, ↓reduceIte, Bool.false_eq_true]; with_reducible rfl)) _ _ hw _ (lv_sub hl [2, 3, 4, 5, 0] rfl)
        · skip
          refine lv_aload_n hx hb dX0_bestCandidate_31 rfl (lv_at hl 1 rfl) ?_
          refine lv_iload_n hx hb dX0_bestCandidate_32 rfl (lv_at hl 2 rfl) ?_
          refine lv_iload hx hb dX0_bestCandidate_33 (lv_at hl 5 rfl) ?_
          refine rm_callI C hw hA (As := [.int (nI n), .int (nI i)]) (rest := []) (kX0_isCandidate l k a ha σ n i hn hlt9) (cwV 2 hts gX0_bestCandidate_X0_isCandidate rfl rfl rfl (by decide +kernel) ⟨Nat.le_of_ble_eq_true rfl, Nat.le_of_ble_eq_true rfl⟩) rfl hl.1 rfl (lv_room (Nat.le_of_ble_eq_true rfl)) dX0_bestCandidate_35 ⟨Nat.zero_le _, Nat.zero_le _⟩ (fun H locs hw => ?_)
          refine rm_ifeq (tgt := 47) hx hb dX0_bestCandidate_38 (by decide) (fun c_38 => ?_) (fun c_38 => ?_)
          · skip
            refine lv_iinc (v := nI (i + 1)) (lv' := [(4, .int (nI (i + 1))), (5, .int (rm_rankBy σ n i)), (0, .ref (a 0)), (1, .int (nI n)), (2, .int x2), (3, .int x3)]) hx hb dX0_bestCandidate_47 hl (k := 5) rfl (rm_inc i) (by decide) rfl (fun ls hl => ?_)
            refine lv_goto (tgt := 9) hx hb dX0_bestCandidate_50 (by decide) ?_
            exact ih9 (i + 1) (by omega) (x2) (x3) (by refine Eq.trans ?_ ht9; first | with_reducible rfl | (simp only [rm_bestL, if_neg c_28, c_38, ↓reduceIte, Bool.false_eq_true]; done) | (simp only [rm_bestL, if_neg c_28, c_38, ↓reduceIte, Bool.false_eq_true]; with_reducible rfl)) _ _ hw _ (lv_sub hl [2, 3, 4, 5, 0] rfl)
          · skip
            refine lv_iload hx hb dX0_bestCandidate_41 (lv_at hl 5 rfl) ?_
            refine lv_istore_n (lv' := [(2, .int (nI i)), (5, .int (rm_rankBy σ n i)), (0, .ref (a 0)), (1, .int (nI n)), (3, .int x3), (4, .int (nI i))]) hx hb dX0_bestCandidate_43 rfl hl (by decide) rfl (fun ls hl => ?_)
            refine lv_iload hx hb dX0_bestCandidate_44 (lv_at hl 1 rfl) ?_
            refine lv_istore_n (lv' := [(3, .int (rm_rankBy σ n i)), (2, .int (nI i)), (5, .int (rm_rankBy σ n i)), (0, .ref (a 0)), (1, .int (nI n)), (4, .int (nI i))]) hx hb dX0_bestCandidate_46 rfl hl (by decide) rfl (fun ls hl => ?_)
            refine lv_iinc (v := nI (i + 1)) (lv' := [(4, .int (nI (i + 1))), (3, .int (rm_rankBy σ n i)), (2, .int (nI i)), (5, .int (rm_rankBy σ n i)), (0, .ref (a 0)), (1, .int (nI n))]) hx hb dX0_bestCandidate_47 hl (k := 5) rfl (rm_inc i) (by decide) rfl (fun ls hl => ?_)
            refine lv_goto (tgt := 9) hx hb dX0_bestCandidate_50 (by decide) ?_
            exact ih9 (i + 1) (by omega) (nI i) (rm_rankBy σ n i) (by refine Eq.trans ?_ ht9; first | with_reducible rfl | (simp only [rm_bestL, if_neg c_28, c_38, ↓reduceIte, Bool.false_eq_true]; done) | (simp only [rm_bestL, if_neg c_28, c_38, ↓reduceIte, Bool.false_eq_true]; with_reducible rfl)) _ _ hw _ (lv_sub hl [4, 5, 2, 1, 0] rfl)
  exact lp_9 10 0 (by omega) ((-1)) (10000) (by first | with_reducible rfl | (unfold rm_best; with_reducible rfl) | (simp only [rm_best, ↓reduceIte, Bool.false_eq_true]; done) | (simp only [rm_best, ↓reduceIte, Bool.false_eq_true]; with_reducible rfl)) _ _ hw _ (lv_sub hl [3, 4, 2, 1, 0] rfl)
set_option maxHeartbeats 4000000 in
set_option maxRecDepth 100000 in
theorem kX0_keepsParent (l : Launch) (k : rm_K) (a : Nat → Nat) (ha : rm_inj a) (σ : rm_St) (n : Nat) (o : Nat) (hn : n < 10) (ho : o < 10) : rm_MI l k a yX0_keepsParent wsX0_keepsParent ({ frames := 3, cells := 0, slots := 0, locals := 67 }) [.int (nI n), .int (nI o)] σ (bI (rm_keeps σ n o)) σ := by
  refine rm_enterI (cc := cX0_keepsParent) (nL := 5) (ret := (some .boolean)) ha (by decide) rfl rfl (by decide +kernel) (Nat.le_of_ble_eq_true rfl) ?_
  intro p e s m args below meth c ls C hr hlocks hw hl
  have hx := C.1.1
  have hb := C.1.2.1
  have hts := C.1.2.2.2.2
  have hA : ∀ q, s.heap.size ≤ q → rm_A a s.heap.size q := fun q h => Or.inr h
  replace hl : lv_has ls 5 [(0, .ref (a 0)), (1, .int (nI n)), (2, .int (nI o))] := hl
  refine lv_aload_n hx hb dX0_keepsParent_0 rfl (lv_at hl 0 rfl) ?_
  refine rm_geta C hw 16 11 (by decide) rfl (hts _ (by decide +kernel)) rfl dX0_keepsParent_1 ?_
  refine lv_iload_n hx hb dX0_keepsParent_4 rfl (lv_at hl 1 rfl) ?_
  refine rm_iald C hw (by decide) hn dX0_keepsParent_5 ?_
  refine lv_istore_n (lv' := [(3, .int (σ 11 n)), (0, .ref (a 0)), (1, .int (nI n)), (2, .int (nI o))]) hx hb dX0_keepsParent_6 rfl hl (by decide) rfl (fun ls hl => ?_)
  refine lv_iload_n hx hb dX0_keepsParent_7 rfl (lv_at hl 0 rfl) ?_
  refine rm_callSI C hw (As := [.int (σ 11 n)]) (rest := []) (kX0_isNode l (σ 11 n)) (va_cwS 1 hts gX0_keepsParent_X0_isNode rfl rfl rfl (by decide +kernel) ⟨Nat.le_of_ble_eq_true rfl, Nat.le_of_ble_eq_true rfl⟩) rfl hl.1 rfl (lv_room (Nat.le_of_ble_eq_true rfl)) dX0_keepsParent_8 ⟨Nat.zero_le _, Nat.zero_le _⟩ (fun H locs hw => ?_)
  refine rm_ifeq (tgt := 23) hx hb dX0_keepsParent_11 (by decide) (fun c_11 => ?_) (fun c_11 => ?_)
  · skip
    refine lv_iconst (v := 0) hx hb dX0_keepsParent_23 (by decide) ?_
    exact rm_zret C hr hlocks hw (by decide) dX0_keepsParent_24 ⟨by first | with_reducible rfl | (simp only [rm_keeps, c_11, ↓reduceIte, Bool.false_eq_true]; done) | (simp only [rm_keeps, c_11, ↓reduceIte, Bool.false_eq_true]; rfl) | rfl, by first | with_reducible rfl | (simp only [rm_keeps, c_11, ↓reduceIte, Bool.false_eq_true]; done) | (simp only [rm_keeps, c_11, ↓reduceIte, Bool.false_eq_true]; rfl) | rfl⟩
  · skip
    obtain ⟨o1, ho1, eo1⟩ := isNd_of c_11
    rw [eo1] at hl
    refine lv_aload_n hx hb dX0_keepsParent_14 rfl (lv_at hl 1 rfl) ?_
    refine lv_iload_n hx hb dX0_keepsParent_15 rfl (lv_at hl 2 rfl) ?_
    refine lv_iload_n hx hb dX0_keepsParent_16 rfl (lv_at hl 0 rfl) ?_
    refine rm_callI C hw hA (As := [.int (nI n), .int (nI o1)]) (rest := []) (kX0_isCandidate l k a ha σ n o1 hn ho1) (cwV 2 hts gX0_keepsParent_X0_isCandidate rfl rfl rfl (by decide +kernel) ⟨Nat.le_of_ble_eq_true rfl, Nat.le_of_ble_eq_true rfl⟩) rfl hl.1 rfl (lv_room (Nat.le_of_ble_eq_true rfl)) dX0_keepsParent_17 ⟨Nat.zero_le _, Nat.zero_le _⟩ (fun H locs hw => ?_)
    refine rm_ifne (tgt := 25) hx hb dX0_keepsParent_20 (by decide) (fun c_20 => ?_) (fun c_20 => ?_)
    · skip
      refine lv_aload_n hx hb dX0_keepsParent_25 rfl (lv_at hl 1 rfl) ?_
      refine lv_iload_n hx hb dX0_keepsParent_26 rfl (lv_at hl 2 rfl) ?_
      refine lv_iload_n hx hb dX0_keepsParent_27 rfl (lv_at hl 0 rfl) ?_
      refine rm_callI C hw hA (As := [.int (nI n), .int (nI o1)]) (rest := []) (kX0_rankBy l k a ha σ n o1 hn ho1) (cwV 2 hts gX0_keepsParent_X0_rankBy rfl rfl rfl (by decide +kernel) ⟨Nat.le_of_ble_eq_true rfl, Nat.le_of_ble_eq_true rfl⟩) rfl hl.1 rfl (lv_room (Nat.le_of_ble_eq_true rfl)) dX0_keepsParent_28 ⟨Nat.zero_le _, Nat.zero_le _⟩ (fun H locs hw => ?_)
      refine lv_aload_n hx hb dX0_keepsParent_31 rfl (lv_at hl 1 rfl) ?_
      refine lv_iload_n hx hb dX0_keepsParent_32 rfl (lv_at hl 2 rfl) ?_
      refine lv_iload_n hx hb dX0_keepsParent_33 rfl (lv_at hl 3 rfl) ?_
      refine rm_callI C hw hA (As := [.int (nI n), .int (nI o)]) (rest := [.int (rm_rankBy σ n o1)]) (kX0_rankBy l k a ha σ n o hn ho) (cwV 2 hts gX0_keepsParent_X0_rankBy rfl rfl rfl (by decide +kernel) ⟨Nat.le_of_ble_eq_true rfl, Nat.le_of_ble_eq_true rfl⟩) rfl hl.1 rfl (lv_room (Nat.le_of_ble_eq_true rfl)) dX0_keepsParent_34 ⟨Nat.zero_le _, Nat.zero_le _⟩ (fun H locs hw => ?_)
      refine lv_isub hx hb dX0_keepsParent_37 ?_
      refine lv_istore (lv' := [(4, .int ((rm_rankBy σ n o1) - (rm_rankBy σ n o))), (3, .int (nI o1)), (0, .ref (a 0)), (1, .int (nI n)), (2, .int (nI o))]) hx hb dX0_keepsParent_38 hl (by decide) rfl (fun ls hl => ?_)
      refine lv_iload hx hb dX0_keepsParent_40 (lv_at hl 0 rfl) ?_
      refine lv_aload_n hx hb dX0_keepsParent_42 rfl (lv_at hl 2 rfl) ?_
      refine rm_geti C hw 0 (by decide) (hts _ (by decide +kernel)) rfl dX0_keepsParent_43 ?_
      refine lv_icmp_lt (tgt := 55) hx hb dX0_keepsParent_46 (by decide) (fun c_46 => ?_) (fun c_46 => ?_)
      · skip
        refine lv_iconst (v := 1) hx hb dX0_keepsParent_55 (by decide) ?_
        refine lv_goto (tgt := 60) hx hb dX0_keepsParent_56 (by decide) ?_
        exact rm_zret C hr hlocks hw (by decide) dX0_keepsParent_60 ⟨by first | with_reducible rfl | (simp only [rm_keeps, eo1, rm_cl ho1, isNd_nI ho1, c_20, if_pos c_46, ↓reduceIte, Bool.false_eq_true]; done) | (simp only [rm_keeps, eo1, rm_cl ho1, isNd_nI ho1, c_20, if_pos c_46, ↓reduceIte, Bool.false_eq_true]; rfl) | rfl, by first | with_reducible rfl | (simp only [rm_keeps, eo1, rm_cl ho1, isNd_nI ho1, c_20, if_pos c_46, ↓reduceIte, Bool.false_eq_true]; done) | (simp only [rm_keeps, eo1, rm_cl ho1, isNd_nI ho1, c_20, if_pos c_46, ↓reduceIte, Bool.false_eq_true]; rfl) | rfl⟩
      · skip
        refine lv_iload hx hb dX0_keepsParent_49 (lv_at hl 0 rfl) ?_
        refine lv_iconst (v := 1) hx hb dX0_keepsParent_51 (by decide) ?_
        refine lv_icmp_ge (tgt := 59) hx hb dX0_keepsParent_52 (by decide) (fun c_52 => ?_) (fun c_52 => ?_)
        · skip
          refine lv_iconst (v := 0) hx hb dX0_keepsParent_59 (by decide) ?_
          exact rm_zret C hr hlocks hw (by decide) dX0_keepsParent_60 ⟨by first | with_reducible rfl | (simp only [rm_keeps, eo1, rm_cl ho1, isNd_nI ho1, c_20, if_neg c_46, if_pos c_52, ↓reduceIte, Bool.false_eq_true]; done) | (simp only [rm_keeps, eo1, rm_cl ho1, isNd_nI ho1, c_20, if_neg c_46, if_pos c_52, ↓reduceIte, Bool.false_eq_true]; rfl) | rfl, by first | with_reducible rfl | (simp only [rm_keeps, eo1, rm_cl ho1, isNd_nI ho1, c_20, if_neg c_46, if_pos c_52, ↓reduceIte, Bool.false_eq_true]; done) | (simp only [rm_keeps, eo1, rm_cl ho1, isNd_nI ho1, c_20, if_neg c_46, if_pos c_52, ↓reduceIte, Bool.false_eq_true]; rfl) | rfl⟩
        · skip
          refine lv_iconst (v := 1) hx hb dX0_keepsParent_55 (by decide) ?_
          refine lv_goto (tgt := 60) hx hb dX0_keepsParent_56 (by decide) ?_
          exact rm_zret C hr hlocks hw (by decide) dX0_keepsParent_60 ⟨by first | with_reducible rfl | (simp only [rm_keeps, eo1, rm_cl ho1, isNd_nI ho1, c_20, if_neg c_46, if_neg c_52, ↓reduceIte, Bool.false_eq_true]; done) | (simp only [rm_keeps, eo1, rm_cl ho1, isNd_nI ho1, c_20, if_neg c_46, if_neg c_52, ↓reduceIte, Bool.false_eq_true]; rfl) | rfl, by first | with_reducible rfl | (simp only [rm_keeps, eo1, rm_cl ho1, isNd_nI ho1, c_20, if_neg c_46, if_neg c_52, ↓reduceIte, Bool.false_eq_true]; done) | (simp only [rm_keeps, eo1, rm_cl ho1, isNd_nI ho1, c_20, if_neg c_46, if_neg c_52, ↓reduceIte, Bool.false_eq_true]; rfl) | rfl⟩
    · skip
      refine lv_iconst (v := 0) hx hb dX0_keepsParent_23 (by decide) ?_
      exact rm_zret C hr hlocks hw (by decide) dX0_keepsParent_24 ⟨by first | with_reducible rfl | (simp only [rm_keeps, eo1, rm_cl ho1, isNd_nI ho1, c_20, ↓reduceIte, Bool.false_eq_true]; done) | (simp only [rm_keeps, eo1, rm_cl ho1, isNd_nI ho1, c_20, ↓reduceIte, Bool.false_eq_true]; rfl) | rfl, by first | with_reducible rfl | (simp only [rm_keeps, eo1, rm_cl ho1, isNd_nI ho1, c_20, ↓reduceIte, Bool.false_eq_true]; done) | (simp only [rm_keeps, eo1, rm_cl ho1, isNd_nI ho1, c_20, ↓reduceIte, Bool.false_eq_true]; rfl) | rfl⟩
set_option maxHeartbeats 4000000 in
set_option maxRecDepth 100000 in
theorem kX0_follow (l : Launch) (k : rm_K) (a : Nat → Nat) (ha : rm_inj a) (σ : rm_St) (n : Nat) (o : Nat) (hn : n < 10) (ho : o < 10) : rm_MV l k a yX0_follow wsX0_follow ({ frames := 1, cells := 0, slots := 0, locals := 30 }) [.int (nI n), .int (nI o)] σ  (rm_follow σ n o) := by
  refine rm_enterV (cc := cX0_follow) (nL := 6) (ret := none) ha (by decide) rfl rfl (by decide +kernel) (Nat.le_of_ble_eq_true rfl) ?_
  intro p e s m args below meth c ls C hr hlocks hw hl
  have hx := C.1.1
  have hb := C.1.2.1
  have hts := C.1.2.2.2.2
  have hA : ∀ q, s.heap.size ≤ q → rm_A a s.heap.size q := fun q h => Or.inr h
  replace hl : lv_has ls 6 [(0, .ref (a 0)), (1, .int (nI n)), (2, .int (nI o))] := hl
  refine lv_aload_n hx hb dX0_follow_0 rfl (lv_at hl 0 rfl) ?_
  refine lv_iload_n hx hb dX0_follow_1 rfl (lv_at hl 1 rfl) ?_
  refine lv_iload_n hx hb dX0_follow_2 rfl (lv_at hl 2 rfl) ?_
  refine rm_callI C hw hA (As := [.int (nI n), .int (nI o)]) (rest := []) (kX0_rankBy l k a ha σ n o hn ho) (cwV 2 hts gX0_follow_X0_rankBy rfl rfl rfl (by decide +kernel) ⟨Nat.le_of_ble_eq_true rfl, Nat.le_of_ble_eq_true rfl⟩) rfl hl.1 rfl (lv_room (Nat.le_of_ble_eq_true rfl)) dX0_follow_3 ⟨Nat.zero_le _, Nat.zero_le _⟩ (fun H locs hw => ?_)
  refine lv_istore_n (lv' := [(3, .int (rm_rankBy σ n o)), (0, .ref (a 0)), (1, .int (nI n)), (2, .int (nI o))]) hx hb dX0_follow_6 rfl hl (by decide) rfl (fun ls hl => ?_)
  refine lv_aload_n hx hb dX0_follow_7 rfl (lv_at hl 1 rfl) ?_
  refine lv_iload_n hx hb dX0_follow_8 rfl (lv_at hl 2 rfl) ?_
  refine lv_iload_n hx hb dX0_follow_9 rfl (lv_at hl 3 rfl) ?_
  refine rm_callI C hw hA (As := [.int (nI n), .int (nI o)]) (rest := []) (kX0_heardOwnVersion l k a ha σ n o hn ho) (cwV 2 hts gX0_follow_X0_heardOwnVersion rfl rfl rfl (by decide +kernel) ⟨Nat.le_of_ble_eq_true rfl, Nat.le_of_ble_eq_true rfl⟩) rfl hl.1 rfl (lv_room (Nat.le_of_ble_eq_true rfl)) dX0_follow_10 ⟨Nat.zero_le _, Nat.zero_le _⟩ (fun H locs hw => ?_)
  refine lv_istore (lv' := [(4, .int (bI (rm_own σ n o))), (3, .int (rm_rankBy σ n o)), (0, .ref (a 0)), (1, .int (nI n)), (2, .int (nI o))]) hx hb dX0_follow_13 hl (by decide) rfl (fun ls hl => ?_)
  refine lv_iload hx hb dX0_follow_15 (lv_at hl 0 rfl) ?_
  refine rm_ifeq (tgt := 44) hx hb dX0_follow_17 (by decide) (fun c_17 => ?_) (fun c_17 => ?_)
  · skip
    refine lv_iconst (v := 0) hx hb dX0_follow_44 (by decide) ?_
    refine lv_istore (lv' := [(5, .int 0), (4, .int (bI (rm_own σ n o))), (3, .int (rm_rankBy σ n o)), (0, .ref (a 0)), (1, .int (nI n)), (2, .int (nI o))]) hx hb dX0_follow_45 hl (by decide) rfl (fun ls hl => ?_)
    refine lv_aload_n hx hb dX0_follow_47 rfl (lv_at hl 3 rfl) ?_
    refine rm_geta C hw 15 10 (by decide) rfl (hts _ (by decide +kernel)) rfl dX0_follow_48 ?_
    refine lv_iload_n hx hb dX0_follow_51 rfl (lv_at hl 4 rfl) ?_
    refine lv_iload hx hb dX0_follow_52 (lv_at hl 1 rfl) ?_
    refine rm_ifeq (tgt := 70) hx hb dX0_follow_54 (by decide) (fun c_54x => ?_) (fun c_54x => ?_)
    · skip
      refine lv_iload_n hx hb dX0_follow_70 rfl (lv_at hl 2 rfl) ?_
      refine rm_iast C hw (by decide) hn dX0_follow_71 (fun H locs hw => ?_)
      refine lv_aload_n hx hb dX0_follow_72 rfl (lv_at hl 3 rfl) ?_
      refine rm_geta C hw 12 7 (by decide) rfl (hts _ (by decide +kernel)) rfl dX0_follow_73 ?_
      refine lv_iload_n hx hb dX0_follow_76 rfl (lv_at hl 4 rfl) ?_
      refine lv_aload_n hx hb dX0_follow_77 rfl (lv_at hl 3 rfl) ?_
      refine rm_geta C hw 7 2 (by decide) rfl (hts _ (by decide +kernel)) rfl dX0_follow_78 ?_
      refine lv_iload_n hx hb dX0_follow_81 rfl (lv_at hl 4 rfl) ?_
      refine rm_aald C hw 25 (by decide) hn dX0_follow_82 ?_
      refine lv_iload_n hx hb dX0_follow_83 rfl (lv_at hl 5 rfl) ?_
      refine rm_iald C hw ⟨by omega, by omega⟩ ho dX0_follow_84 ?_
      refine rm_iast C hw (by decide) hn dX0_follow_85 (fun H locs hw => ?_)
      refine lv_aload_n hx hb dX0_follow_86 rfl (lv_at hl 3 rfl) ?_
      refine rm_geta C hw 13 8 (by decide) rfl (hts _ (by decide +kernel)) rfl dX0_follow_87 ?_
      refine lv_iload_n hx hb dX0_follow_90 rfl (lv_at hl 4 rfl) ?_
      refine lv_aload_n hx hb dX0_follow_91 rfl (lv_at hl 3 rfl) ?_
      refine rm_geta C hw 8 3 (by decide) rfl (hts _ (by decide +kernel)) rfl dX0_follow_92 ?_
      refine lv_iload_n hx hb dX0_follow_95 rfl (lv_at hl 4 rfl) ?_
      refine rm_aald C hw 35 (by decide) hn dX0_follow_96 ?_
      refine lv_iload_n hx hb dX0_follow_97 rfl (lv_at hl 5 rfl) ?_
      refine rm_iald C hw ⟨by omega, by omega⟩ ho dX0_follow_98 ?_
      refine rm_iast C hw (by decide) hn dX0_follow_99 (fun H locs hw => ?_)
      refine lv_aload_n hx hb dX0_follow_100 rfl (lv_at hl 3 rfl) ?_
      refine rm_geta C hw 14 9 (by decide) rfl (hts _ (by decide +kernel)) rfl dX0_follow_101 ?_
      refine lv_iload_n hx hb dX0_follow_104 rfl (lv_at hl 4 rfl) ?_
      refine lv_iload_n hx hb dX0_follow_105 rfl (lv_at hl 2 rfl) ?_
      refine rm_iast C hw (by decide) hn dX0_follow_106 (fun H locs hw => ?_)
      refine lv_aload_n hx hb dX0_follow_107 rfl (lv_at hl 3 rfl) ?_
      refine rm_geta C hw 16 11 (by decide) rfl (hts _ (by decide +kernel)) rfl dX0_follow_108 ?_
      refine lv_iload_n hx hb dX0_follow_111 rfl (lv_at hl 4 rfl) ?_
      refine lv_iload_n hx hb dX0_follow_112 rfl (lv_at hl 5 rfl) ?_
      refine rm_iast C hw (by decide) hn dX0_follow_113 (fun H locs hw => ?_)
      refine lv_iload hx hb dX0_follow_114 (lv_at hl 0 rfl) ?_
      refine lv_if_ne (tgt := 124) hx hb dX0_follow_116 (by decide) (fun c_116 => ?_) (fun c_116 => ?_)
      · exact absurd rfl c_116
      · skip
        refine lv_aload_n hx hb dX0_follow_119 rfl (lv_at hl 3 rfl) ?_
        refine lv_iload_n hx hb dX0_follow_120 rfl (lv_at hl 4 rfl) ?_
        refine rm_callV C hw hA (As := [.int (nI n)]) (rest := []) (kX0_resetTimer l k a ha (rm_up (rm_up (rm_up (rm_up (rm_up σ 10 n (rm_rankBy σ n o)) 7 n ((rm_up σ 10 n (rm_rankBy σ n o)) (25 + n) o)) 8 n ((rm_up (rm_up σ 10 n (rm_rankBy σ n o)) 7 n ((rm_up σ 10 n (rm_rankBy σ n o)) (25 + n) o)) (35 + n) o)) 9 n (rm_rankBy σ n o)) 11 n (nI o)) n hn) (cwV 1 hts gX0_follow_X0_resetTimer rfl rfl rfl (by decide +kernel) ⟨Nat.le_of_ble_eq_true rfl, Nat.le_of_ble_eq_true rfl⟩) rfl hl.1 rfl (lv_room (Nat.le_of_ble_eq_true rfl)) dX0_follow_121 ⟨Nat.zero_le _, Nat.zero_le _⟩ (fun H locs hw => ?_)
        exact rm_vret C hr hlocks hw dX0_follow_124 (by first | with_reducible rfl | (simp only [rm_follow, rm_fol, c_17, ↓reduceIte, Bool.false_eq_true]; done) | (simp only [rm_follow, rm_fol, c_17, ↓reduceIte, Bool.false_eq_true]; rfl) | rfl)
    · exact Bool.noConfusion (c_17.symm.trans c_54x)
  · skip
    refine lv_iload_n hx hb dX0_follow_20 rfl (lv_at hl 1 rfl) ?_
    refine lv_aload_n hx hb dX0_follow_21 rfl (lv_at hl 2 rfl) ?_
    refine rm_geta C hw 14 9 (by decide) rfl (hts _ (by decide +kernel)) rfl dX0_follow_22 ?_
    refine lv_iload_n hx hb dX0_follow_25 rfl (lv_at hl 3 rfl) ?_
    refine rm_iald C hw (by decide) hn dX0_follow_26 ?_
    refine lv_icmp_ne (tgt := 44) hx hb dX0_follow_27 (by decide) (fun c_27 => ?_) (fun c_27 => ?_)
    · skip
      refine lv_iconst (v := 0) hx hb dX0_follow_44 (by decide) ?_
      refine lv_istore (lv' := [(5, .int 0), (4, .int (bI (rm_own σ n o))), (3, .int (rm_rankBy σ n o)), (0, .ref (a 0)), (1, .int (nI n)), (2, .int (nI o))]) hx hb dX0_follow_45 hl (by decide) rfl (fun ls hl => ?_)
      refine lv_aload_n hx hb dX0_follow_47 rfl (lv_at hl 3 rfl) ?_
      refine rm_geta C hw 15 10 (by decide) rfl (hts _ (by decide +kernel)) rfl dX0_follow_48 ?_
      refine lv_iload_n hx hb dX0_follow_51 rfl (lv_at hl 4 rfl) ?_
      refine lv_iload hx hb dX0_follow_52 (lv_at hl 1 rfl) ?_
      refine rm_ifeq (tgt := 70) hx hb dX0_follow_54 (by decide) (fun c_54x => ?_) (fun c_54x => ?_)
      · exact Bool.noConfusion (c_17.symm.trans c_54x)
      · skip
        refine lv_iload_n hx hb dX0_follow_57 rfl (lv_at hl 2 rfl) ?_
        refine lv_aload_n hx hb dX0_follow_58 rfl (lv_at hl 3 rfl) ?_
        refine rm_geta C hw 15 10 (by decide) rfl (hts _ (by decide +kernel)) rfl dX0_follow_59 ?_
        refine lv_iload_n hx hb dX0_follow_62 rfl (lv_at hl 4 rfl) ?_
        refine rm_iald C hw (by decide) hn dX0_follow_63 ?_
        refine va_mmin hx hb (C.1.2.2.1.trans hl.1.symm) C.1.2.2.2.1 (hts (.methodLink RX0 141 Lib.Math.min.name) (by decide +kernel)) (hts (.static Lib.Math.min.name) (by decide +kernel)) (hts (.initialized "java/lang/Math") (by decide +kernel)) (hts (.code Lib.Math.min.name Lib.Math.min.code 2 (some .int)) (by decide +kernel)) (Nat.le_of_ble_eq_true rfl) (Nat.le_of_ble_eq_true rfl) (Nat.le_of_ble_eq_true rfl) (Nat.le_of_ble_eq_true rfl) dX0_follow_64 ?_
        refine lv_goto (tgt := 71) hx hb dX0_follow_67 (by decide) ?_
        refine rm_iast C hw (by decide) hn dX0_follow_71 (fun H locs hw => ?_)
        refine lv_aload_n hx hb dX0_follow_72 rfl (lv_at hl 3 rfl) ?_
        refine rm_geta C hw 12 7 (by decide) rfl (hts _ (by decide +kernel)) rfl dX0_follow_73 ?_
        refine lv_iload_n hx hb dX0_follow_76 rfl (lv_at hl 4 rfl) ?_
        refine lv_aload_n hx hb dX0_follow_77 rfl (lv_at hl 3 rfl) ?_
        refine rm_geta C hw 7 2 (by decide) rfl (hts _ (by decide +kernel)) rfl dX0_follow_78 ?_
        refine lv_iload_n hx hb dX0_follow_81 rfl (lv_at hl 4 rfl) ?_
        refine rm_aald C hw 25 (by decide) hn dX0_follow_82 ?_
        refine lv_iload_n hx hb dX0_follow_83 rfl (lv_at hl 5 rfl) ?_
        refine rm_iald C hw ⟨by omega, by omega⟩ ho dX0_follow_84 ?_
        refine rm_iast C hw (by decide) hn dX0_follow_85 (fun H locs hw => ?_)
        refine lv_aload_n hx hb dX0_follow_86 rfl (lv_at hl 3 rfl) ?_
        refine rm_geta C hw 13 8 (by decide) rfl (hts _ (by decide +kernel)) rfl dX0_follow_87 ?_
        refine lv_iload_n hx hb dX0_follow_90 rfl (lv_at hl 4 rfl) ?_
        refine lv_aload_n hx hb dX0_follow_91 rfl (lv_at hl 3 rfl) ?_
        refine rm_geta C hw 8 3 (by decide) rfl (hts _ (by decide +kernel)) rfl dX0_follow_92 ?_
        refine lv_iload_n hx hb dX0_follow_95 rfl (lv_at hl 4 rfl) ?_
        refine rm_aald C hw 35 (by decide) hn dX0_follow_96 ?_
        refine lv_iload_n hx hb dX0_follow_97 rfl (lv_at hl 5 rfl) ?_
        refine rm_iald C hw ⟨by omega, by omega⟩ ho dX0_follow_98 ?_
        refine rm_iast C hw (by decide) hn dX0_follow_99 (fun H locs hw => ?_)
        refine lv_aload_n hx hb dX0_follow_100 rfl (lv_at hl 3 rfl) ?_
        refine rm_geta C hw 14 9 (by decide) rfl (hts _ (by decide +kernel)) rfl dX0_follow_101 ?_
        refine lv_iload_n hx hb dX0_follow_104 rfl (lv_at hl 4 rfl) ?_
        refine lv_iload_n hx hb dX0_follow_105 rfl (lv_at hl 2 rfl) ?_
        refine rm_iast C hw (by decide) hn dX0_follow_106 (fun H locs hw => ?_)
        refine lv_aload_n hx hb dX0_follow_107 rfl (lv_at hl 3 rfl) ?_
        refine rm_geta C hw 16 11 (by decide) rfl (hts _ (by decide +kernel)) rfl dX0_follow_108 ?_
        refine lv_iload_n hx hb dX0_follow_111 rfl (lv_at hl 4 rfl) ?_
        refine lv_iload_n hx hb dX0_follow_112 rfl (lv_at hl 5 rfl) ?_
        refine rm_iast C hw (by decide) hn dX0_follow_113 (fun H locs hw => ?_)
        refine lv_iload hx hb dX0_follow_114 (lv_at hl 0 rfl) ?_
        refine lv_if_ne (tgt := 124) hx hb dX0_follow_116 (by decide) (fun c_116 => ?_) (fun c_116 => ?_)
        · exact absurd rfl c_116
        · skip
          refine lv_aload_n hx hb dX0_follow_119 rfl (lv_at hl 3 rfl) ?_
          refine lv_iload_n hx hb dX0_follow_120 rfl (lv_at hl 4 rfl) ?_
          refine rm_callV C hw hA (As := [.int (nI n)]) (rest := []) (kX0_resetTimer l k a ha (rm_up (rm_up (rm_up (rm_up (rm_up σ 10 n (rm_mn (rm_rankBy σ n o) (σ 10 n))) 7 n ((rm_up σ 10 n (rm_mn (rm_rankBy σ n o) (σ 10 n))) (25 + n) o)) 8 n ((rm_up (rm_up σ 10 n (rm_mn (rm_rankBy σ n o) (σ 10 n))) 7 n ((rm_up σ 10 n (rm_mn (rm_rankBy σ n o) (σ 10 n))) (25 + n) o)) (35 + n) o)) 9 n (rm_rankBy σ n o)) 11 n (nI o)) n hn) (cwV 1 hts gX0_follow_X0_resetTimer rfl rfl rfl (by decide +kernel) ⟨Nat.le_of_ble_eq_true rfl, Nat.le_of_ble_eq_true rfl⟩) rfl hl.1 rfl (lv_room (Nat.le_of_ble_eq_true rfl)) dX0_follow_121 ⟨Nat.zero_le _, Nat.zero_le _⟩ (fun H locs hw => ?_)
          exact rm_vret C hr hlocks hw dX0_follow_124 (by first | with_reducible rfl | (simp only [rm_follow, rm_fol, c_17, if_neg c_27, ↓reduceIte, Bool.false_eq_true]; done) | (simp only [rm_follow, rm_fol, c_17, if_neg c_27, ↓reduceIte, Bool.false_eq_true]; rfl) | rfl)
    · skip
      refine lv_iload_n hx hb dX0_follow_30 rfl (lv_at hl 4 rfl) ?_
      refine lv_aload_n hx hb dX0_follow_31 rfl (lv_at hl 2 rfl) ?_
      refine rm_geta C hw 16 11 (by decide) rfl (hts _ (by decide +kernel)) rfl dX0_follow_32 ?_
      refine lv_iload_n hx hb dX0_follow_35 rfl (lv_at hl 3 rfl) ?_
      refine rm_iald C hw (by decide) hn dX0_follow_36 ?_
      refine lv_icmp_ne (tgt := 44) hx hb dX0_follow_37 (by decide) (fun c_37 => ?_) (fun c_37 => ?_)
      · skip
        refine lv_iconst (v := 0) hx hb dX0_follow_44 (by decide) ?_
        refine lv_istore (lv' := [(5, .int 0), (4, .int (bI (rm_own σ n o))), (3, .int (rm_rankBy σ n o)), (0, .ref (a 0)), (1, .int (nI n)), (2, .int (nI o))]) hx hb dX0_follow_45 hl (by decide) rfl (fun ls hl => ?_)
        refine lv_aload_n hx hb dX0_follow_47 rfl (lv_at hl 3 rfl) ?_
        refine rm_geta C hw 15 10 (by decide) rfl (hts _ (by decide +kernel)) rfl dX0_follow_48 ?_
        refine lv_iload_n hx hb dX0_follow_51 rfl (lv_at hl 4 rfl) ?_
        refine lv_iload hx hb dX0_follow_52 (lv_at hl 1 rfl) ?_
        refine rm_ifeq (tgt := 70) hx hb dX0_follow_54 (by decide) (fun c_54x => ?_) (fun c_54x => ?_)
        · exact Bool.noConfusion (c_17.symm.trans c_54x)
        · skip
          refine lv_iload_n hx hb dX0_follow_57 rfl (lv_at hl 2 rfl) ?_
          refine lv_aload_n hx hb dX0_follow_58 rfl (lv_at hl 3 rfl) ?_
          refine rm_geta C hw 15 10 (by decide) rfl (hts _ (by decide +kernel)) rfl dX0_follow_59 ?_
          refine lv_iload_n hx hb dX0_follow_62 rfl (lv_at hl 4 rfl) ?_
          refine rm_iald C hw (by decide) hn dX0_follow_63 ?_
          refine va_mmin hx hb (C.1.2.2.1.trans hl.1.symm) C.1.2.2.2.1 (hts (.methodLink RX0 141 Lib.Math.min.name) (by decide +kernel)) (hts (.static Lib.Math.min.name) (by decide +kernel)) (hts (.initialized "java/lang/Math") (by decide +kernel)) (hts (.code Lib.Math.min.name Lib.Math.min.code 2 (some .int)) (by decide +kernel)) (Nat.le_of_ble_eq_true rfl) (Nat.le_of_ble_eq_true rfl) (Nat.le_of_ble_eq_true rfl) (Nat.le_of_ble_eq_true rfl) dX0_follow_64 ?_
          refine lv_goto (tgt := 71) hx hb dX0_follow_67 (by decide) ?_
          refine rm_iast C hw (by decide) hn dX0_follow_71 (fun H locs hw => ?_)
          refine lv_aload_n hx hb dX0_follow_72 rfl (lv_at hl 3 rfl) ?_
          refine rm_geta C hw 12 7 (by decide) rfl (hts _ (by decide +kernel)) rfl dX0_follow_73 ?_
          refine lv_iload_n hx hb dX0_follow_76 rfl (lv_at hl 4 rfl) ?_
          refine lv_aload_n hx hb dX0_follow_77 rfl (lv_at hl 3 rfl) ?_
          refine rm_geta C hw 7 2 (by decide) rfl (hts _ (by decide +kernel)) rfl dX0_follow_78 ?_
          refine lv_iload_n hx hb dX0_follow_81 rfl (lv_at hl 4 rfl) ?_
          refine rm_aald C hw 25 (by decide) hn dX0_follow_82 ?_
          refine lv_iload_n hx hb dX0_follow_83 rfl (lv_at hl 5 rfl) ?_
          refine rm_iald C hw ⟨by omega, by omega⟩ ho dX0_follow_84 ?_
          refine rm_iast C hw (by decide) hn dX0_follow_85 (fun H locs hw => ?_)
          refine lv_aload_n hx hb dX0_follow_86 rfl (lv_at hl 3 rfl) ?_
          refine rm_geta C hw 13 8 (by decide) rfl (hts _ (by decide +kernel)) rfl dX0_follow_87 ?_
          refine lv_iload_n hx hb dX0_follow_90 rfl (lv_at hl 4 rfl) ?_
          refine lv_aload_n hx hb dX0_follow_91 rfl (lv_at hl 3 rfl) ?_
          refine rm_geta C hw 8 3 (by decide) rfl (hts _ (by decide +kernel)) rfl dX0_follow_92 ?_
          refine lv_iload_n hx hb dX0_follow_95 rfl (lv_at hl 4 rfl) ?_
          refine rm_aald C hw 35 (by decide) hn dX0_follow_96 ?_
          refine lv_iload_n hx hb dX0_follow_97 rfl (lv_at hl 5 rfl) ?_
          refine rm_iald C hw ⟨by omega, by omega⟩ ho dX0_follow_98 ?_
          refine rm_iast C hw (by decide) hn dX0_follow_99 (fun H locs hw => ?_)
          refine lv_aload_n hx hb dX0_follow_100 rfl (lv_at hl 3 rfl) ?_
          refine rm_geta C hw 14 9 (by decide) rfl (hts _ (by decide +kernel)) rfl dX0_follow_101 ?_
          refine lv_iload_n hx hb dX0_follow_104 rfl (lv_at hl 4 rfl) ?_
          refine lv_iload_n hx hb dX0_follow_105 rfl (lv_at hl 2 rfl) ?_
          refine rm_iast C hw (by decide) hn dX0_follow_106 (fun H locs hw => ?_)
          refine lv_aload_n hx hb dX0_follow_107 rfl (lv_at hl 3 rfl) ?_
          refine rm_geta C hw 16 11 (by decide) rfl (hts _ (by decide +kernel)) rfl dX0_follow_108 ?_
          refine lv_iload_n hx hb dX0_follow_111 rfl (lv_at hl 4 rfl) ?_
          refine lv_iload_n hx hb dX0_follow_112 rfl (lv_at hl 5 rfl) ?_
          refine rm_iast C hw (by decide) hn dX0_follow_113 (fun H locs hw => ?_)
          refine lv_iload hx hb dX0_follow_114 (lv_at hl 0 rfl) ?_
          refine lv_if_ne (tgt := 124) hx hb dX0_follow_116 (by decide) (fun c_116 => ?_) (fun c_116 => ?_)
          · exact absurd rfl c_116
          · skip
            refine lv_aload_n hx hb dX0_follow_119 rfl (lv_at hl 3 rfl) ?_
            refine lv_iload_n hx hb dX0_follow_120 rfl (lv_at hl 4 rfl) ?_
            refine rm_callV C hw hA (As := [.int (nI n)]) (rest := []) (kX0_resetTimer l k a ha (rm_up (rm_up (rm_up (rm_up (rm_up σ 10 n (rm_mn (rm_rankBy σ n o) (σ 10 n))) 7 n ((rm_up σ 10 n (rm_mn (rm_rankBy σ n o) (σ 10 n))) (25 + n) o)) 8 n ((rm_up (rm_up σ 10 n (rm_mn (rm_rankBy σ n o) (σ 10 n))) 7 n ((rm_up σ 10 n (rm_mn (rm_rankBy σ n o) (σ 10 n))) (25 + n) o)) (35 + n) o)) 9 n (rm_rankBy σ n o)) 11 n (nI o)) n hn) (cwV 1 hts gX0_follow_X0_resetTimer rfl rfl rfl (by decide +kernel) ⟨Nat.le_of_ble_eq_true rfl, Nat.le_of_ble_eq_true rfl⟩) rfl hl.1 rfl (lv_room (Nat.le_of_ble_eq_true rfl)) dX0_follow_121 ⟨Nat.zero_le _, Nat.zero_le _⟩ (fun H locs hw => ?_)
            exact rm_vret C hr hlocks hw dX0_follow_124 (by first | with_reducible rfl | (simp only [rm_follow, rm_fol, c_17, if_pos c_27, if_neg c_37, ↓reduceIte, Bool.false_eq_true]; done) | (simp only [rm_follow, rm_fol, c_17, if_pos c_27, if_neg c_37, ↓reduceIte, Bool.false_eq_true]; rfl) | rfl)
      · skip
        refine lv_iconst (v := 1) hx hb dX0_follow_40 (by decide) ?_
        refine lv_goto (tgt := 45) hx hb dX0_follow_41 (by decide) ?_
        refine lv_istore (lv' := [(5, .int 1), (4, .int (bI (rm_own σ n o))), (3, .int (rm_rankBy σ n o)), (0, .ref (a 0)), (1, .int (nI n)), (2, .int (nI o))]) hx hb dX0_follow_45 hl (by decide) rfl (fun ls hl => ?_)
        refine lv_aload_n hx hb dX0_follow_47 rfl (lv_at hl 3 rfl) ?_
        refine rm_geta C hw 15 10 (by decide) rfl (hts _ (by decide +kernel)) rfl dX0_follow_48 ?_
        refine lv_iload_n hx hb dX0_follow_51 rfl (lv_at hl 4 rfl) ?_
        refine lv_iload hx hb dX0_follow_52 (lv_at hl 1 rfl) ?_
        refine rm_ifeq (tgt := 70) hx hb dX0_follow_54 (by decide) (fun c_54x => ?_) (fun c_54x => ?_)
        · exact Bool.noConfusion (c_17.symm.trans c_54x)
        · skip
          refine lv_iload_n hx hb dX0_follow_57 rfl (lv_at hl 2 rfl) ?_
          refine lv_aload_n hx hb dX0_follow_58 rfl (lv_at hl 3 rfl) ?_
          refine rm_geta C hw 15 10 (by decide) rfl (hts _ (by decide +kernel)) rfl dX0_follow_59 ?_
          refine lv_iload_n hx hb dX0_follow_62 rfl (lv_at hl 4 rfl) ?_
          refine rm_iald C hw (by decide) hn dX0_follow_63 ?_
          refine va_mmin hx hb (C.1.2.2.1.trans hl.1.symm) C.1.2.2.2.1 (hts (.methodLink RX0 141 Lib.Math.min.name) (by decide +kernel)) (hts (.static Lib.Math.min.name) (by decide +kernel)) (hts (.initialized "java/lang/Math") (by decide +kernel)) (hts (.code Lib.Math.min.name Lib.Math.min.code 2 (some .int)) (by decide +kernel)) (Nat.le_of_ble_eq_true rfl) (Nat.le_of_ble_eq_true rfl) (Nat.le_of_ble_eq_true rfl) (Nat.le_of_ble_eq_true rfl) dX0_follow_64 ?_
          refine lv_goto (tgt := 71) hx hb dX0_follow_67 (by decide) ?_
          refine rm_iast C hw (by decide) hn dX0_follow_71 (fun H locs hw => ?_)
          refine lv_aload_n hx hb dX0_follow_72 rfl (lv_at hl 3 rfl) ?_
          refine rm_geta C hw 12 7 (by decide) rfl (hts _ (by decide +kernel)) rfl dX0_follow_73 ?_
          refine lv_iload_n hx hb dX0_follow_76 rfl (lv_at hl 4 rfl) ?_
          refine lv_aload_n hx hb dX0_follow_77 rfl (lv_at hl 3 rfl) ?_
          refine rm_geta C hw 7 2 (by decide) rfl (hts _ (by decide +kernel)) rfl dX0_follow_78 ?_
          refine lv_iload_n hx hb dX0_follow_81 rfl (lv_at hl 4 rfl) ?_
          refine rm_aald C hw 25 (by decide) hn dX0_follow_82 ?_
          refine lv_iload_n hx hb dX0_follow_83 rfl (lv_at hl 5 rfl) ?_
          refine rm_iald C hw ⟨by omega, by omega⟩ ho dX0_follow_84 ?_
          refine rm_iast C hw (by decide) hn dX0_follow_85 (fun H locs hw => ?_)
          refine lv_aload_n hx hb dX0_follow_86 rfl (lv_at hl 3 rfl) ?_
          refine rm_geta C hw 13 8 (by decide) rfl (hts _ (by decide +kernel)) rfl dX0_follow_87 ?_
          refine lv_iload_n hx hb dX0_follow_90 rfl (lv_at hl 4 rfl) ?_
          refine lv_aload_n hx hb dX0_follow_91 rfl (lv_at hl 3 rfl) ?_
          refine rm_geta C hw 8 3 (by decide) rfl (hts _ (by decide +kernel)) rfl dX0_follow_92 ?_
          refine lv_iload_n hx hb dX0_follow_95 rfl (lv_at hl 4 rfl) ?_
          refine rm_aald C hw 35 (by decide) hn dX0_follow_96 ?_
          refine lv_iload_n hx hb dX0_follow_97 rfl (lv_at hl 5 rfl) ?_
          refine rm_iald C hw ⟨by omega, by omega⟩ ho dX0_follow_98 ?_
          refine rm_iast C hw (by decide) hn dX0_follow_99 (fun H locs hw => ?_)
          refine lv_aload_n hx hb dX0_follow_100 rfl (lv_at hl 3 rfl) ?_
          refine rm_geta C hw 14 9 (by decide) rfl (hts _ (by decide +kernel)) rfl dX0_follow_101 ?_
          refine lv_iload_n hx hb dX0_follow_104 rfl (lv_at hl 4 rfl) ?_
          refine lv_iload_n hx hb dX0_follow_105 rfl (lv_at hl 2 rfl) ?_
          refine rm_iast C hw (by decide) hn dX0_follow_106 (fun H locs hw => ?_)
          refine lv_aload_n hx hb dX0_follow_107 rfl (lv_at hl 3 rfl) ?_
          refine rm_geta C hw 16 11 (by decide) rfl (hts _ (by decide +kernel)) rfl dX0_follow_108 ?_
          refine lv_iload_n hx hb dX0_follow_111 rfl (lv_at hl 4 rfl) ?_
          refine lv_iload_n hx hb dX0_follow_112 rfl (lv_at hl 5 rfl) ?_
          refine rm_iast C hw (by decide) hn dX0_follow_113 (fun H locs hw => ?_)
          refine lv_iload hx hb dX0_follow_114 (lv_at hl 0 rfl) ?_
          refine lv_if_ne (tgt := 124) hx hb dX0_follow_116 (by decide) (fun c_116 => ?_) (fun c_116 => ?_)
          · skip
            exact rm_vret C hr hlocks hw dX0_follow_124 (by first | with_reducible rfl | (simp only [rm_follow, rm_fol, c_17, if_pos c_27, if_pos c_37, ↓reduceIte, Bool.false_eq_true]; done) | (simp only [rm_follow, rm_fol, c_17, if_pos c_27, if_pos c_37, ↓reduceIte, Bool.false_eq_true]; rfl) | rfl)
          · exact absurd c_116 (by decide)
set_option maxHeartbeats 4000000 in
set_option maxRecDepth 100000 in
theorem kX0_loseParent (l : Launch) (k : rm_K) (a : Nat → Nat) (ha : rm_inj a) (σ : rm_St) (n : Nat) (hn : n < 10) : rm_MV l k a yX0_loseParent wsX0_loseParent ({ frames := 1, cells := 0, slots := 0, locals := 21 }) [.int (nI n)] σ  (rm_lose σ n) := by
  refine rm_enterV (cc := cX0_loseParent) (nL := 3) (ret := none) ha (by decide) rfl rfl (by decide +kernel) (Nat.le_of_ble_eq_true rfl) ?_
  intro p e s m args below meth c ls C hr hlocks hw hl
  have hx := C.1.1
  have hb := C.1.2.1
  have hts := C.1.2.2.2.2
  have hA : ∀ q, s.heap.size ≤ q → rm_A a s.heap.size q := fun q h => Or.inr h
  replace hl : lv_has ls 3 [(0, .ref (a 0)), (1, .int (nI n))] := hl
  refine lv_aload_n hx hb dX0_loseParent_0 rfl (lv_at hl 0 rfl) ?_
  refine rm_geta C hw 14 9 (by decide) rfl (hts _ (by decide +kernel)) rfl dX0_loseParent_1 ?_
  refine lv_iload_n hx hb dX0_loseParent_4 rfl (lv_at hl 1 rfl) ?_
  refine rm_iald C hw (by decide) hn dX0_loseParent_5 ?_
  refine lv_sipush (v := 10000) hx hb dX0_loseParent_6 (by decide) ?_
  refine lv_icmp_ne (tgt := 26) hx hb dX0_loseParent_9 (by decide) (fun c_9 => ?_) (fun c_9 => ?_)
  · skip
    refine lv_iconst (v := 0) hx hb dX0_loseParent_26 (by decide) ?_
    refine lv_istore_n (lv' := [(2, .int 0), (0, .ref (a 0)), (1, .int (nI n))]) hx hb dX0_loseParent_27 rfl hl (by decide) rfl (fun ls hl => ?_)
    refine lv_aload_n hx hb dX0_loseParent_28 rfl (lv_at hl 1 rfl) ?_
    refine rm_geta C hw 14 9 (by decide) rfl (hts _ (by decide +kernel)) rfl dX0_loseParent_29 ?_
    refine lv_iload_n hx hb dX0_loseParent_32 rfl (lv_at hl 2 rfl) ?_
    refine lv_sipush (v := 10000) hx hb dX0_loseParent_33 (by decide) ?_
    refine rm_iast C hw (by decide) hn dX0_loseParent_36 (fun H locs hw => ?_)
    refine lv_aload_n hx hb dX0_loseParent_37 rfl (lv_at hl 1 rfl) ?_
    refine rm_geta C hw 16 11 (by decide) rfl (hts _ (by decide +kernel)) rfl dX0_loseParent_38 ?_
    refine lv_iload_n hx hb dX0_loseParent_41 rfl (lv_at hl 2 rfl) ?_
    refine lv_iconst (v := (-1)) hx hb dX0_loseParent_42 (by decide) ?_
    refine rm_iast C hw (by decide) hn dX0_loseParent_43 (fun H locs hw => ?_)
    refine lv_iload_n hx hb dX0_loseParent_44 rfl (lv_at hl 0 rfl) ?_
    refine lv_if_ne (tgt := 53) hx hb dX0_loseParent_45 (by decide) (fun c_45 => ?_) (fun c_45 => ?_)
    · exact absurd rfl c_45
    · skip
      refine lv_aload_n hx hb dX0_loseParent_48 rfl (lv_at hl 1 rfl) ?_
      refine lv_iload_n hx hb dX0_loseParent_49 rfl (lv_at hl 2 rfl) ?_
      refine rm_callV C hw hA (As := [.int (nI n)]) (rest := []) (kX0_resetTimer l k a ha (rm_up (rm_up σ 9 n (10000)) 11 n ((-1))) n hn) (cwV 1 hts gX0_loseParent_X0_resetTimer rfl rfl rfl (by decide +kernel) ⟨Nat.le_of_ble_eq_true rfl, Nat.le_of_ble_eq_true rfl⟩) rfl hl.1 rfl (lv_room (Nat.le_of_ble_eq_true rfl)) dX0_loseParent_50 ⟨Nat.zero_le _, Nat.zero_le _⟩ (fun H locs hw => ?_)
      exact rm_vret C hr hlocks hw dX0_loseParent_53 (by first | with_reducible rfl | (simp only [rm_lose, if_neg c_9, ↓reduceIte, Bool.false_eq_true]; done) | (simp only [rm_lose, if_neg c_9, ↓reduceIte, Bool.false_eq_true]; rfl) | rfl)
  · skip
    refine lv_aload_n hx hb dX0_loseParent_12 rfl (lv_at hl 0 rfl) ?_
    refine rm_geta C hw 16 11 (by decide) rfl (hts _ (by decide +kernel)) rfl dX0_loseParent_13 ?_
    refine lv_iload_n hx hb dX0_loseParent_16 rfl (lv_at hl 1 rfl) ?_
    refine rm_iald C hw (by decide) hn dX0_loseParent_17 ?_
    refine lv_iconst (v := (-1)) hx hb dX0_loseParent_18 (by decide) ?_
    refine lv_icmp_ne (tgt := 26) hx hb dX0_loseParent_19 (by decide) (fun c_19 => ?_) (fun c_19 => ?_)
    · skip
      refine lv_iconst (v := 0) hx hb dX0_loseParent_26 (by decide) ?_
      refine lv_istore_n (lv' := [(2, .int 0), (0, .ref (a 0)), (1, .int (nI n))]) hx hb dX0_loseParent_27 rfl hl (by decide) rfl (fun ls hl => ?_)
      refine lv_aload_n hx hb dX0_loseParent_28 rfl (lv_at hl 1 rfl) ?_
      refine rm_geta C hw 14 9 (by decide) rfl (hts _ (by decide +kernel)) rfl dX0_loseParent_29 ?_
      refine lv_iload_n hx hb dX0_loseParent_32 rfl (lv_at hl 2 rfl) ?_
      refine lv_sipush (v := 10000) hx hb dX0_loseParent_33 (by decide) ?_
      refine rm_iast C hw (by decide) hn dX0_loseParent_36 (fun H locs hw => ?_)
      refine lv_aload_n hx hb dX0_loseParent_37 rfl (lv_at hl 1 rfl) ?_
      refine rm_geta C hw 16 11 (by decide) rfl (hts _ (by decide +kernel)) rfl dX0_loseParent_38 ?_
      refine lv_iload_n hx hb dX0_loseParent_41 rfl (lv_at hl 2 rfl) ?_
      refine lv_iconst (v := (-1)) hx hb dX0_loseParent_42 (by decide) ?_
      refine rm_iast C hw (by decide) hn dX0_loseParent_43 (fun H locs hw => ?_)
      refine lv_iload_n hx hb dX0_loseParent_44 rfl (lv_at hl 0 rfl) ?_
      refine lv_if_ne (tgt := 53) hx hb dX0_loseParent_45 (by decide) (fun c_45 => ?_) (fun c_45 => ?_)
      · exact absurd rfl c_45
      · skip
        refine lv_aload_n hx hb dX0_loseParent_48 rfl (lv_at hl 1 rfl) ?_
        refine lv_iload_n hx hb dX0_loseParent_49 rfl (lv_at hl 2 rfl) ?_
        refine rm_callV C hw hA (As := [.int (nI n)]) (rest := []) (kX0_resetTimer l k a ha (rm_up (rm_up σ 9 n (10000)) 11 n ((-1))) n hn) (cwV 1 hts gX0_loseParent_X0_resetTimer rfl rfl rfl (by decide +kernel) ⟨Nat.le_of_ble_eq_true rfl, Nat.le_of_ble_eq_true rfl⟩) rfl hl.1 rfl (lv_room (Nat.le_of_ble_eq_true rfl)) dX0_loseParent_50 ⟨Nat.zero_le _, Nat.zero_le _⟩ (fun H locs hw => ?_)
        exact rm_vret C hr hlocks hw dX0_loseParent_53 (by first | with_reducible rfl | (simp only [rm_lose, if_pos c_9, if_neg c_19, ↓reduceIte, Bool.false_eq_true]; done) | (simp only [rm_lose, if_pos c_9, if_neg c_19, ↓reduceIte, Bool.false_eq_true]; rfl) | rfl)
    · skip
      refine lv_iconst (v := 1) hx hb dX0_loseParent_22 (by decide) ?_
      refine lv_goto (tgt := 27) hx hb dX0_loseParent_23 (by decide) ?_
      refine lv_istore_n (lv' := [(2, .int 1), (0, .ref (a 0)), (1, .int (nI n))]) hx hb dX0_loseParent_27 rfl hl (by decide) rfl (fun ls hl => ?_)
      refine lv_aload_n hx hb dX0_loseParent_28 rfl (lv_at hl 1 rfl) ?_
      refine rm_geta C hw 14 9 (by decide) rfl (hts _ (by decide +kernel)) rfl dX0_loseParent_29 ?_
      refine lv_iload_n hx hb dX0_loseParent_32 rfl (lv_at hl 2 rfl) ?_
      refine lv_sipush (v := 10000) hx hb dX0_loseParent_33 (by decide) ?_
      refine rm_iast C hw (by decide) hn dX0_loseParent_36 (fun H locs hw => ?_)
      refine lv_aload_n hx hb dX0_loseParent_37 rfl (lv_at hl 1 rfl) ?_
      refine rm_geta C hw 16 11 (by decide) rfl (hts _ (by decide +kernel)) rfl dX0_loseParent_38 ?_
      refine lv_iload_n hx hb dX0_loseParent_41 rfl (lv_at hl 2 rfl) ?_
      refine lv_iconst (v := (-1)) hx hb dX0_loseParent_42 (by decide) ?_
      refine rm_iast C hw (by decide) hn dX0_loseParent_43 (fun H locs hw => ?_)
      refine lv_iload_n hx hb dX0_loseParent_44 rfl (lv_at hl 0 rfl) ?_
      refine lv_if_ne (tgt := 53) hx hb dX0_loseParent_45 (by decide) (fun c_45 => ?_) (fun c_45 => ?_)
      · skip
        exact rm_vret C hr hlocks hw dX0_loseParent_53 (by first | with_reducible rfl | (simp only [rm_lose, if_pos c_9, if_pos c_19, ↓reduceIte, Bool.false_eq_true]; done) | (simp only [rm_lose, if_pos c_9, if_pos c_19, ↓reduceIte, Bool.false_eq_true]; rfl) | rfl)
      · exact absurd c_45 (by decide)
set_option maxHeartbeats 4000000 in
set_option maxRecDepth 100000 in
theorem kX0_choose (l : Launch) (k : rm_K) (a : Nat → Nat) (ha : rm_inj a) (σ : rm_St) (n : Nat) (hn : n < 10) : rm_MV l k a yX0_choose wsX0_choose ({ frames := 4, cells := 0, slots := 0, locals := 92 }) [.int (nI n)] σ  (rm_choose σ n) := by
  refine rm_enterV (cc := cX0_choose) (nL := 3) (ret := none) ha (by decide) rfl rfl (by decide +kernel) (Nat.le_of_ble_eq_true rfl) ?_
  intro p e s m args below meth c ls C hr hlocks hw hl
  have hx := C.1.1
  have hb := C.1.2.1
  have hts := C.1.2.2.2.2
  have hA : ∀ q, s.heap.size ≤ q → rm_A a s.heap.size q := fun q h => Or.inr h
  replace hl : lv_has ls 3 [(0, .ref (a 0)), (1, .int (nI n))] := hl
  refine lv_aload_n hx hb dX0_choose_0 rfl (lv_at hl 0 rfl) ?_
  refine rm_geta C hw 10 5 (by decide) rfl (hts _ (by decide +kernel)) rfl dX0_choose_1 ?_
  refine lv_iload_n hx hb dX0_choose_4 rfl (lv_at hl 1 rfl) ?_
  refine rm_zald C hw hn dX0_choose_5 ?_
  refine lv_if_eq (tgt := 10) hx hb dX0_choose_6 (by decide) (fun c_6 => ?_) (fun c_6 => ?_)
  · skip
    refine lv_aload_n hx hb dX0_choose_10 rfl (lv_at hl 0 rfl) ?_
    refine lv_iload_n hx hb dX0_choose_11 rfl (lv_at hl 1 rfl) ?_
    refine rm_callI C hw hA (As := [.int (nI n)]) (rest := []) (kX0_bestCandidate l k a ha σ n hn) (cwV 1 hts gX0_choose_X0_bestCandidate rfl rfl rfl (by decide +kernel) ⟨Nat.le_of_ble_eq_true rfl, Nat.le_of_ble_eq_true rfl⟩) rfl hl.1 rfl (lv_room (Nat.le_of_ble_eq_true rfl)) dX0_choose_12 ⟨Nat.zero_le _, Nat.zero_le _⟩ (fun H locs hw => ?_)
    refine lv_istore_n (lv' := [(2, .int (rm_best σ n)), (0, .ref (a 0)), (1, .int (nI n))]) hx hb dX0_choose_15 rfl hl (by decide) rfl (fun ls hl => ?_)
    refine lv_iload_n hx hb dX0_choose_16 rfl (lv_at hl 0 rfl) ?_
    refine rm_callSI C hw (As := [.int (rm_best σ n)]) (rest := []) (kX0_isNode l (rm_best σ n)) (va_cwS 1 hts gX0_choose_X0_isNode rfl rfl rfl (by decide +kernel) ⟨Nat.le_of_ble_eq_true rfl, Nat.le_of_ble_eq_true rfl⟩) rfl hl.1 rfl (lv_room (Nat.le_of_ble_eq_true rfl)) dX0_choose_17 ⟨Nat.zero_le _, Nat.zero_le _⟩ (fun H locs hw => ?_)
    refine rm_ifne (tgt := 31) hx hb dX0_choose_20 (by decide) (fun c_20 => ?_) (fun c_20 => ?_)
    · skip
      obtain ⟨o1, ho1, eo1⟩ := isNd_of c_20
      rw [eo1] at hl
      refine lv_aload_n hx hb dX0_choose_31 rfl (lv_at hl 1 rfl) ?_
      refine lv_iload_n hx hb dX0_choose_32 rfl (lv_at hl 2 rfl) ?_
      refine lv_iload_n hx hb dX0_choose_33 rfl (lv_at hl 0 rfl) ?_
      refine rm_callI C hw hA (As := [.int (nI n), .int (nI o1)]) (rest := []) (kX0_keepsParent l k a ha σ n o1 hn ho1) (cwV 2 hts gX0_choose_X0_keepsParent rfl rfl rfl (by decide +kernel) ⟨Nat.le_of_ble_eq_true rfl, Nat.le_of_ble_eq_true rfl⟩) rfl hl.1 rfl (lv_room (Nat.le_of_ble_eq_true rfl)) dX0_choose_34 ⟨Nat.zero_le _, Nat.zero_le _⟩ (fun H locs hw => ?_)
      refine rm_ifeq (tgt := 54) hx hb dX0_choose_37 (by decide) (fun c_37 => ?_) (fun c_37 => ?_)
      · skip
        refine lv_aload_n hx hb dX0_choose_54 rfl (lv_at hl 1 rfl) ?_
        refine lv_iload_n hx hb dX0_choose_55 rfl (lv_at hl 2 rfl) ?_
        refine lv_iload_n hx hb dX0_choose_56 rfl (lv_at hl 0 rfl) ?_
        refine rm_callV C hw hA (As := [.int (nI n), .int (nI o1)]) (rest := []) (kX0_follow l k a ha σ n o1 hn ho1) (cwV 2 hts gX0_choose_X0_follow rfl rfl rfl (by decide +kernel) ⟨Nat.le_of_ble_eq_true rfl, Nat.le_of_ble_eq_true rfl⟩) rfl hl.1 rfl (lv_room (Nat.le_of_ble_eq_true rfl)) dX0_choose_57 ⟨Nat.zero_le _, Nat.zero_le _⟩ (fun H locs hw => ?_)
        exact rm_vret C hr hlocks hw dX0_choose_60 (by first | with_reducible rfl | (simp only [rm_choose, if_pos c_6, eo1, rm_cl ho1, isNd_nI ho1, c_37, ↓reduceIte, Bool.false_eq_true]; done) | (simp only [rm_choose, if_pos c_6, eo1, rm_cl ho1, isNd_nI ho1, c_37, ↓reduceIte, Bool.false_eq_true]; rfl) | rfl)
      · skip
        obtain ⟨o2, ho2, eo2⟩ := isNd_of (rm_keeps_nd c_37)
        refine lv_aload_n hx hb dX0_choose_40 rfl (lv_at hl 1 rfl) ?_
        refine lv_iload_n hx hb dX0_choose_41 rfl (lv_at hl 2 rfl) ?_
        refine lv_aload_n hx hb dX0_choose_42 rfl (lv_at hl 1 rfl) ?_
        refine rm_geta C hw 16 11 (by decide) rfl (hts _ (by decide +kernel)) rfl dX0_choose_43 ?_
        refine lv_iload_n hx hb dX0_choose_46 rfl (lv_at hl 2 rfl) ?_
        refine rm_iald C hw (by decide) hn dX0_choose_47 ?_
        rw [eo2]
        refine rm_callV C hw hA (As := [.int (nI n), .int (nI o2)]) (rest := []) (kX0_follow l k a ha σ n o2 hn ho2) (cwV 2 hts gX0_choose_X0_follow rfl rfl rfl (by decide +kernel) ⟨Nat.le_of_ble_eq_true rfl, Nat.le_of_ble_eq_true rfl⟩) rfl hl.1 rfl (lv_room (Nat.le_of_ble_eq_true rfl)) dX0_choose_48 ⟨Nat.zero_le _, Nat.zero_le _⟩ (fun H locs hw => ?_)
        refine lv_goto (tgt := 60) hx hb dX0_choose_51 (by decide) ?_
        exact rm_vret C hr hlocks hw dX0_choose_60 (by first | with_reducible rfl | (simp only [rm_choose, if_pos c_6, eo1, rm_cl ho1, isNd_nI ho1, c_37, eo2, rm_cl ho2, ↓reduceIte, Bool.false_eq_true]; done) | (simp only [rm_choose, if_pos c_6, eo1, rm_cl ho1, isNd_nI ho1, c_37, eo2, rm_cl ho2, ↓reduceIte, Bool.false_eq_true]; rfl) | rfl)
    · skip
      refine lv_aload_n hx hb dX0_choose_23 rfl (lv_at hl 1 rfl) ?_
      refine lv_iload_n hx hb dX0_choose_24 rfl (lv_at hl 2 rfl) ?_
      refine rm_callV C hw hA (As := [.int (nI n)]) (rest := []) (kX0_loseParent l k a ha σ n hn) (cwV 1 hts gX0_choose_X0_loseParent rfl rfl rfl (by decide +kernel) ⟨Nat.le_of_ble_eq_true rfl, Nat.le_of_ble_eq_true rfl⟩) rfl hl.1 rfl (lv_room (Nat.le_of_ble_eq_true rfl)) dX0_choose_25 ⟨Nat.zero_le _, Nat.zero_le _⟩ (fun H locs hw => ?_)
      refine lv_goto (tgt := 60) hx hb dX0_choose_28 (by decide) ?_
      exact rm_vret C hr hlocks hw dX0_choose_60 (by first | with_reducible rfl | (simp only [rm_choose, if_pos c_6, c_20, ↓reduceIte, Bool.false_eq_true]; done) | (simp only [rm_choose, if_pos c_6, c_20, ↓reduceIte, Bool.false_eq_true]; rfl) | rfl)
  · skip
    exact rm_vret C hr hlocks hw dX0_choose_9 (by first | with_reducible rfl | (simp only [rm_choose, if_neg c_6, ↓reduceIte, Bool.false_eq_true]; done) | (simp only [rm_choose, if_neg c_6, ↓reduceIte, Bool.false_eq_true]; rfl) | rfl)
set_option maxHeartbeats 4000000 in
set_option maxRecDepth 100000 in
theorem kX0_tell (l : Launch) (k : rm_K) (a : Nat → Nat) (ha : rm_inj a) (σ : rm_St) (t : Nat) (ht : t < 10) : rm_MV l k a yX0_tell wsX0_tell ({ frames := 5, cells := 0, slots := 0, locals := 114 }) [.int (nI t)] σ  (rm_tell σ t) := by
  refine rm_enterV (cc := cX0_tell) (nL := 3) (ret := none) ha (by decide) rfl rfl (by decide +kernel) (Nat.le_of_ble_eq_true rfl) ?_
  intro p e s m args below meth c ls C hr hlocks hw hl
  have hx := C.1.1
  have hb := C.1.2.1
  have hts := C.1.2.2.2.2
  have hA : ∀ q, s.heap.size ≤ q → rm_A a s.heap.size q := fun q h => Or.inr h
  replace hl : lv_has ls 3 [(0, .ref (a 0)), (1, .int (nI t))] := hl
  refine lv_iconst (v := 0) hx hb dX0_tell_0 (by decide) ?_
  refine lv_istore_n (lv' := [(2, .int 0), (0, .ref (a 0)), (1, .int (nI t))]) hx hb dX0_tell_1 rfl hl (by decide) rfl (fun ls hl => ?_)
  have lp_2 : ∀ (r i : Nat), i + r = 10 → ∀ (τ2 : rm_St), rm_tellL t r i τ2 = rm_tell σ t → ∀ (H : Heap) (locs : List Loc), rm_Wd k a (rm_A a s.heap.size) s.heap s τ2 H locs → ∀ (ls : Array Slot), lv_has ls 3 [(0, .ref (a 0)), (1, .int (nI t)), (2, .int (nI i))] → W p l e (headSpec wsX0_tell ({ frames := 5, cells := 0, slots := 0, locals := 114 })).room s m args below meth c H locs 0 0 (MQ below (va_Qv (fun (τ : rm_St) => τ = (rm_tell σ t)) (fun τ t => rm_P k a τ t) (rm_A a s.heap.size)) args s 0 0 (rm_A a s.heap.size)) (F0 m 2 ls []) := by
    intro r
    induction r with
    | zero =>
      intro i hi2 τ2 ht2 H locs hw ls hl
      obtain rfl : 10 = i := by omega
      have hz2 : τ2 = rm_tell σ t := ht2
      refine lv_iload_n hx hb dX0_tell_2 rfl (lv_at hl 2 rfl) ?_
      refine lv_bipush (v := 10) hx hb dX0_tell_3 (by decide) ?_
      refine lv_icmp_ge (tgt := 72) hx hb dX0_tell_5 (by decide) (fun c_5 => ?_) (fun c_5 => ?_)
      · skip
        exact rm_vret C hr hlocks hw dX0_tell_72 (by first | with_reducible rfl | with_reducible exact hz2 | (rw [← hz2]; done) | (rw [← hz2]; exact bI_f.symm) | (simp only [rm_tell, ↓reduceIte, Bool.false_eq_true]; rw [← hz2]; done) | (rw [← hz2]; simp only [rm_tellL, rm_hear, ↓reduceIte, Bool.false_eq_true]; done) | (rw [← hz2]; simp only [rm_tellL, rm_hear, ↓reduceIte, Bool.false_eq_true]; with_reducible rfl) | (rw [← hz2]; simp only [rm_tellL, rm_hear, ↓reduceIte, Bool.false_eq_true]; rfl) | (simp only [rm_tell, ↓reduceIte, Bool.false_eq_true]; done) | (simp only [rm_tell, ↓reduceIte, Bool.false_eq_true]; with_reducible rfl))
      · exact absurd (show (10 : Int32) ≤ nI 10 from nI_le (a := 10) (b := 10) (Nat.le_refl _) (by decide)) c_5
    | succ r ih2 =>
      intro i hi2 τ2 ht2 H locs hw ls hl
      have hlt2 : i < 10 := by omega
      refine lv_iload_n hx hb dX0_tell_2 rfl (lv_at hl 2 rfl) ?_
      refine lv_bipush (v := 10) hx hb dX0_tell_3 (by decide) ?_
      refine lv_icmp_ge (tgt := 72) hx hb dX0_tell_5 (by decide) (fun c_5 => ?_) (fun c_5 => ?_)
      · exact absurd c_5 (nI_ge (a := i) (b := 10) hlt2 (by decide))
      · skip
        refine lv_aload_n hx hb dX0_tell_8 rfl (lv_at hl 0 rfl) ?_
        refine rm_geta C hw 6 1 (by decide) rfl (hts _ (by decide +kernel)) rfl dX0_tell_9 ?_
        refine lv_iload_n hx hb dX0_tell_12 rfl (lv_at hl 1 rfl) ?_
        refine rm_aald C hw 15 (by decide) ht dX0_tell_13 ?_
        refine lv_iload_n hx hb dX0_tell_14 rfl (lv_at hl 2 rfl) ?_
        refine rm_iald C hw ⟨by omega, by omega⟩ hlt2 dX0_tell_15 ?_
        refine lv_if_le (tgt := 66) hx hb dX0_tell_16 (by decide) (fun c_16 => ?_) (fun c_16 => ?_)
        · skip
          refine lv_iinc (v := nI (i + 1)) (lv' := [(2, .int (nI (i + 1))), (0, .ref (a 0)), (1, .int (nI t))]) hx hb dX0_tell_66 hl (k := 2) rfl (rm_inc i) (by decide) rfl (fun ls hl => ?_)
          refine lv_goto (tgt := 2) hx hb dX0_tell_69 (by decide) ?_
          exact ih2 (i + 1) (by omega) (τ2) (by refine Eq.trans ?_ ht2; first | with_reducible rfl | (simp only [rm_tellL, rm_hear, if_pos c_16, ↓reduceIte, Bool.false_eq_true]; done) | (simp only [rm_tellL, rm_hear, if_pos c_16, ↓reduceIte, Bool.false_eq_true]; with_reducible rfl)) _ _ hw _ (lv_sub hl [1, 2, 0] rfl)
        · skip
          refine lv_aload_n hx hb dX0_tell_19 rfl (lv_at hl 0 rfl) ?_
          refine rm_geta C hw 7 2 (by decide) rfl (hts _ (by decide +kernel)) rfl dX0_tell_20 ?_
          refine lv_iload_n hx hb dX0_tell_23 rfl (lv_at hl 2 rfl) ?_
          refine rm_aald C hw 25 (by decide) hlt2 dX0_tell_24 ?_
          refine lv_iload_n hx hb dX0_tell_25 rfl (lv_at hl 1 rfl) ?_
          refine lv_aload_n hx hb dX0_tell_26 rfl (lv_at hl 0 rfl) ?_
          refine rm_geta C hw 12 7 (by decide) rfl (hts _ (by decide +kernel)) rfl dX0_tell_27 ?_
          refine lv_iload_n hx hb dX0_tell_30 rfl (lv_at hl 1 rfl) ?_
          refine rm_iald C hw (by decide) ht dX0_tell_31 ?_
          refine rm_iast C hw ⟨by omega, by omega⟩ ht dX0_tell_32 (fun H locs hw => ?_)
          refine lv_aload_n hx hb dX0_tell_33 rfl (lv_at hl 0 rfl) ?_
          refine rm_geta C hw 8 3 (by decide) rfl (hts _ (by decide +kernel)) rfl dX0_tell_34 ?_
          refine lv_iload_n hx hb dX0_tell_37 rfl (lv_at hl 2 rfl) ?_
          refine rm_aald C hw 35 (by decide) hlt2 dX0_tell_38 ?_
          refine lv_iload_n hx hb dX0_tell_39 rfl (lv_at hl 1 rfl) ?_
          refine lv_aload_n hx hb dX0_tell_40 rfl (lv_at hl 0 rfl) ?_
          refine rm_geta C hw 13 8 (by decide) rfl (hts _ (by decide +kernel)) rfl dX0_tell_41 ?_
          refine lv_iload_n hx hb dX0_tell_44 rfl (lv_at hl 1 rfl) ?_
          refine rm_iald C hw (by decide) ht dX0_tell_45 ?_
          refine rm_iast C hw ⟨by omega, by omega⟩ ht dX0_tell_46 (fun H locs hw => ?_)
          refine lv_aload_n hx hb dX0_tell_47 rfl (lv_at hl 0 rfl) ?_
          refine rm_geta C hw 9 4 (by decide) rfl (hts _ (by decide +kernel)) rfl dX0_tell_48 ?_
          refine lv_iload_n hx hb dX0_tell_51 rfl (lv_at hl 2 rfl) ?_
          refine rm_aald C hw 45 (by decide) hlt2 dX0_tell_52 ?_
          refine lv_iload_n hx hb dX0_tell_53 rfl (lv_at hl 1 rfl) ?_
          refine lv_aload_n hx hb dX0_tell_54 rfl (lv_at hl 0 rfl) ?_
          refine rm_geta C hw 14 9 (by decide) rfl (hts _ (by decide +kernel)) rfl dX0_tell_55 ?_
          refine lv_iload_n hx hb dX0_tell_58 rfl (lv_at hl 1 rfl) ?_
          refine rm_iald C hw (by decide) ht dX0_tell_59 ?_
          refine rm_iast C hw ⟨by omega, by omega⟩ ht dX0_tell_60 (fun H locs hw => ?_)
          refine lv_aload_n hx hb dX0_tell_61 rfl (lv_at hl 0 rfl) ?_
          refine lv_iload_n hx hb dX0_tell_62 rfl (lv_at hl 2 rfl) ?_
          refine rm_callV C hw hA (As := [.int (nI i)]) (rest := []) (kX0_choose l k a ha (rm_up (rm_up (rm_up τ2 (25 + i) t (τ2 7 t)) (35 + i) t ((rm_up τ2 (25 + i) t (τ2 7 t)) 8 t)) (45 + i) t ((rm_up (rm_up τ2 (25 + i) t (τ2 7 t)) (35 + i) t ((rm_up τ2 (25 + i) t (τ2 7 t)) 8 t)) 9 t)) i hlt2) (cwV 1 hts gX0_tell_X0_choose rfl rfl rfl (by decide +kernel) ⟨Nat.le_of_ble_eq_true rfl, Nat.le_of_ble_eq_true rfl⟩) rfl hl.1 rfl (lv_room (Nat.le_of_ble_eq_true rfl)) dX0_tell_63 ⟨Nat.zero_le _, Nat.zero_le _⟩ (fun H locs hw => ?_)
          refine lv_iinc (v := nI (i + 1)) (lv' := [(2, .int (nI (i + 1))), (0, .ref (a 0)), (1, .int (nI t))]) hx hb dX0_tell_66 hl (k := 2) rfl (rm_inc i) (by decide) rfl (fun ls hl => ?_)
          refine lv_goto (tgt := 2) hx hb dX0_tell_69 (by decide) ?_
          exact ih2 (i + 1) (by omega) (rm_choose (rm_up (rm_up (rm_up τ2 (25 + i) t (τ2 7 t)) (35 + i) t ((rm_up τ2 (25 + i) t (τ2 7 t)) 8 t)) (45 + i) t ((rm_up (rm_up τ2 (25 + i) t (τ2 7 t)) (35 + i) t ((rm_up τ2 (25 + i) t (τ2 7 t)) 8 t)) 9 t)) i) (by refine Eq.trans ?_ ht2; first | with_reducible rfl | (simp only [rm_tellL, rm_hear, if_neg c_16, ↓reduceIte, Bool.false_eq_true]; done) | (simp only [rm_tellL, rm_hear, if_neg c_16, ↓reduceIte, Bool.false_eq_true]; with_reducible rfl)) _ _ hw _ (lv_sub hl [1, 2, 0] rfl)
  exact lp_2 10 0 (by omega) (σ) (by first | with_reducible rfl | (unfold rm_tell; with_reducible rfl) | (simp only [rm_tell, ↓reduceIte, Bool.false_eq_true]; done) | (simp only [rm_tell, ↓reduceIte, Bool.false_eq_true]; with_reducible rfl)) _ _ hw _ (lv_sub hl [1, 2, 0] rfl)
set_option maxHeartbeats 4000000 in
set_option maxRecDepth 100000 in
theorem kX0_passTick (l : Launch) (k : rm_K) (a : Nat → Nat) (ha : rm_inj a) (σ : rm_St)   : rm_MI l k a yX0_passTick wsX0_passTick ({ frames := 6, cells := 0, slots := 0, locals := 136 }) [] σ ((rm_tick σ).2) ((rm_tick σ).1) := by
  refine rm_enterI (cc := cX0_passTick) (nL := 3) (ret := (some .int)) ha (by decide) rfl rfl (by decide +kernel) (Nat.le_of_ble_eq_true rfl) ?_
  intro p e s m args below meth c ls C hr hlocks hw hl
  have hx := C.1.1
  have hb := C.1.2.1
  have hts := C.1.2.2.2.2
  have hA : ∀ q, s.heap.size ≤ q → rm_A a s.heap.size q := fun q h => Or.inr h
  replace hl : lv_has ls 3 [(0, .ref (a 0))] := hl
  refine lv_iconst (v := 0) hx hb dX0_passTick_0 (by decide) ?_
  refine lv_istore_n (lv' := [(1, .int 0), (0, .ref (a 0))]) hx hb dX0_passTick_1 rfl hl (by decide) rfl (fun ls hl => ?_)
  refine lv_aload_n hx hb dX0_passTick_2 rfl (lv_at hl 1 rfl) ?_
  refine lv_dup hx hb dX0_passTick_3 rfl ?_
  refine rm_geti C hw 4 (by decide) (hts _ (by decide +kernel)) rfl dX0_passTick_4 ?_
  refine lv_iconst (v := 1) hx hb dX0_passTick_7 (by decide) ?_
  refine lv_iadd hx hb dX0_passTick_8 ?_
  refine rm_puti C hw 4 (by decide) (hts _ (by decide +kernel)) rfl rfl rfl dX0_passTick_9 (fun H locs hw => ?_)
  refine lv_iconst (v := 0) hx hb dX0_passTick_12 (by decide) ?_
  refine lv_istore_n (lv' := [(2, .int 0), (1, .int 0), (0, .ref (a 0))]) hx hb dX0_passTick_13 rfl hl (by decide) rfl (fun ls hl => ?_)
  have lp_14 : ∀ (r i : Nat), i + r = 10 → ∀ (x1 : Int32) (τ14 : rm_St), rm_tickL r i x1 τ14 = rm_tick σ → ∀ (H : Heap) (locs : List Loc), rm_Wd k a (rm_A a s.heap.size) s.heap s τ14 H locs → ∀ (ls : Array Slot), lv_has ls 3 [(0, .ref (a 0)), (1, .int x1), (2, .int (nI i))] → W p l e (headSpec wsX0_passTick ({ frames := 6, cells := 0, slots := 0, locals := 136 })).room s m args below meth c H locs 0 0 (MQ below (va_Qi (fun (r : Int32) (τ : rm_St) => r = ((rm_tick σ).2) ∧ τ = ((rm_tick σ).1)) (fun τ t => rm_P k a τ t) (rm_A a s.heap.size)) args s 0 0 (rm_A a s.heap.size)) (F0 m 14 ls []) := by
    intro r
    induction r with
    | zero =>
      intro i hi14 x1 τ14 ht14 H locs hw ls hl
      obtain rfl : 10 = i := by omega
      have hz14 : (τ14, x1) = rm_tick σ := ht14
      refine lv_iload_n hx hb dX0_passTick_14 rfl (lv_at hl 2 rfl) ?_
      refine lv_bipush (v := 10) hx hb dX0_passTick_15 (by decide) ?_
      refine lv_icmp_ge (tgt := 52) hx hb dX0_passTick_17 (by decide) (fun c_17 => ?_) (fun c_17 => ?_)
      · skip
        refine lv_iload_n hx hb dX0_passTick_52 rfl (lv_at hl 1 rfl) ?_
        exact rm_iret C hr hlocks hw dX0_passTick_53 ⟨by first | with_reducible rfl | with_reducible exact hz14 | (rw [← hz14]; done) | (rw [← hz14]; exact bI_f.symm) | (simp only [rm_tick, ↓reduceIte, Bool.false_eq_true]; rw [← hz14]; done) | (rw [← hz14]; simp only [rm_tickL, ↓reduceIte, Bool.false_eq_true]; done) | (rw [← hz14]; simp only [rm_tickL, ↓reduceIte, Bool.false_eq_true]; with_reducible rfl) | (rw [← hz14]; simp only [rm_tickL, ↓reduceIte, Bool.false_eq_true]; rfl) | (simp only [rm_tick, ↓reduceIte, Bool.false_eq_true]; done) | (simp only [rm_tick, ↓reduceIte, Bool.false_eq_true]; with_reducible rfl), by first | with_reducible rfl | with_reducible exact hz14 | (rw [← hz14]; done) | (rw [← hz14]; exact bI_f.symm) | (simp only [rm_tick, ↓reduceIte, Bool.false_eq_true]; rw [← hz14]; done) | (rw [← hz14]; simp only [rm_tickL, ↓reduceIte, Bool.false_eq_true]; done) | (rw [← hz14]; simp only [rm_tickL, ↓reduceIte, Bool.false_eq_true]; with_reducible rfl) | (rw [← hz14]; simp only [rm_tickL, ↓reduceIte, Bool.false_eq_true]; rfl) | (simp only [rm_tick, ↓reduceIte, Bool.false_eq_true]; done) | (simp only [rm_tick, ↓reduceIte, Bool.false_eq_true]; with_reducible rfl)⟩
      · exact absurd (show (10 : Int32) ≤ nI 10 from nI_le (a := 10) (b := 10) (Nat.le_refl _) (by decide)) c_17
    | succ r ih14 =>
      intro i hi14 x1 τ14 ht14 H locs hw ls hl
      have hlt14 : i < 10 := by omega
      refine lv_iload_n hx hb dX0_passTick_14 rfl (lv_at hl 2 rfl) ?_
      refine lv_bipush (v := 10) hx hb dX0_passTick_15 (by decide) ?_
      refine lv_icmp_ge (tgt := 52) hx hb dX0_passTick_17 (by decide) (fun c_17 => ?_) (fun c_17 => ?_)
      · exact absurd c_17 (nI_ge (a := i) (b := 10) hlt14 (by decide))
      · skip
        refine lv_aload_n hx hb dX0_passTick_20 rfl (lv_at hl 0 rfl) ?_
        refine rm_geta C hw 18 13 (by decide) rfl (hts _ (by decide +kernel)) rfl dX0_passTick_21 ?_
        refine lv_iload_n hx hb dX0_passTick_24 rfl (lv_at hl 2 rfl) ?_
        refine rm_iald C hw (by decide) hlt14 dX0_passTick_25 ?_
        refine lv_aload_n hx hb dX0_passTick_26 rfl (lv_at hl 0 rfl) ?_
        refine rm_geti C hw 4 (by decide) (hts _ (by decide +kernel)) rfl dX0_passTick_27 ?_
        refine lv_icmp_ne (tgt := 46) hx hb dX0_passTick_30 (by decide) (fun c_30 => ?_) (fun c_30 => ?_)
        · skip
          refine lv_iinc (v := nI (i + 1)) (lv' := [(2, .int (nI (i + 1))), (0, .ref (a 0)), (1, .int x1)]) hx hb dX0_passTick_46 hl (k := 2) rfl (rm_inc i) (by decide) rfl (fun ls hl => ?_)
          refine lv_goto (tgt := 14) hx hb dX0_passTick_49 (by decide) ?_
          exact ih14 (i + 1) (by omega) (x1) (τ14) (by refine Eq.trans ?_ ht14; first | with_reducible rfl | (simp only [rm_tickL, if_neg c_30, ↓reduceIte, Bool.false_eq_true]; done) | (simp only [rm_tickL, if_neg c_30, ↓reduceIte, Bool.false_eq_true]; with_reducible rfl)) _ _ hw _ (lv_sub hl [1, 2, 0] rfl)
        · skip
          refine lv_aload_n hx hb dX0_passTick_33 rfl (lv_at hl 0 rfl) ?_
          refine lv_iload_n hx hb dX0_passTick_34 rfl (lv_at hl 2 rfl) ?_
          refine rm_callV C hw hA (As := [.int (nI i)]) (rest := []) (kX0_tell l k a ha τ14 i hlt14) (cwV 1 hts gX0_passTick_X0_tell rfl rfl rfl (by decide +kernel) ⟨Nat.le_of_ble_eq_true rfl, Nat.le_of_ble_eq_true rfl⟩) rfl hl.1 rfl (lv_room (Nat.le_of_ble_eq_true rfl)) dX0_passTick_35 ⟨Nat.zero_le _, Nat.zero_le _⟩ (fun H locs hw => ?_)
          refine lv_aload_n hx hb dX0_passTick_38 rfl (lv_at hl 0 rfl) ?_
          refine lv_iload_n hx hb dX0_passTick_39 rfl (lv_at hl 2 rfl) ?_
          refine rm_callV C hw hA (As := [.int (nI i)]) (rest := []) (kX0_lengthenTimer l k a ha (rm_tell τ14 i) i hlt14) (cwV 1 hts gX0_passTick_X0_lengthenTimer rfl rfl rfl (by decide +kernel) ⟨Nat.le_of_ble_eq_true rfl, Nat.le_of_ble_eq_true rfl⟩) rfl hl.1 rfl (lv_room (Nat.le_of_ble_eq_true rfl)) dX0_passTick_40 ⟨Nat.zero_le _, Nat.zero_le _⟩ (fun H locs hw => ?_)
          refine lv_iinc (v := (x1) + 1) (lv' := [(1, .int ((x1) + 1)), (0, .ref (a 0)), (2, .int (nI i))]) hx hb dX0_passTick_43 hl (k := 1) rfl rfl (by decide) rfl (fun ls hl => ?_)
          refine lv_iinc (v := nI (i + 1)) (lv' := [(2, .int (nI (i + 1))), (1, .int ((x1) + 1)), (0, .ref (a 0))]) hx hb dX0_passTick_46 hl (k := 2) rfl (rm_inc i) (by decide) rfl (fun ls hl => ?_)
          refine lv_goto (tgt := 14) hx hb dX0_passTick_49 (by decide) ?_
          exact ih14 (i + 1) (by omega) ((x1) + 1) (rm_len (rm_tell τ14 i) i) (by refine Eq.trans ?_ ht14; first | with_reducible rfl | (simp only [rm_tickL, if_pos c_30, ↓reduceIte, Bool.false_eq_true]; done) | (simp only [rm_tickL, if_pos c_30, ↓reduceIte, Bool.false_eq_true]; with_reducible rfl)) _ _ hw _ (lv_sub hl [2, 1, 0] rfl)
  exact lp_14 10 0 (by omega) (0) (rm_up σ 0 4 ((σ 0 4) + (1))) (by first | with_reducible rfl | (unfold rm_tick; with_reducible rfl) | (simp only [rm_tick, ↓reduceIte, Bool.false_eq_true]; done) | (simp only [rm_tick, ↓reduceIte, Bool.false_eq_true]; with_reducible rfl)) _ _ hw _ (lv_sub hl [2, 1, 0] rfl)
set_option maxHeartbeats 4000000 in
set_option maxRecDepth 100000 in
theorem kX0_childrenOf (l : Launch) (k : rm_K) (a : Nat → Nat) (ha : rm_inj a) (σ : rm_St) (v : Int32)  : rm_MI l k a yX0_childrenOf wsX0_childrenOf ({ frames := 1, cells := 0, slots := 0, locals := 20 }) [.int v] σ (rm_ch σ v) σ := by
  refine rm_enterI (cc := cX0_childrenOf) (nL := 5) (ret := (some .int)) ha (by decide) rfl rfl (by decide +kernel) (Nat.le_of_ble_eq_true rfl) ?_
  intro p e s m args below meth c ls C hr hlocks hw hl
  have hx := C.1.1
  have hb := C.1.2.1
  have hts := C.1.2.2.2.2
  have hA : ∀ q, s.heap.size ≤ q → rm_A a s.heap.size q := fun q h => Or.inr h
  replace hl : lv_has ls 5 [(0, .ref (a 0)), (1, .int v)] := hl
  refine lv_iconst (v := 0) hx hb dX0_childrenOf_0 (by decide) ?_
  refine lv_istore_n (lv' := [(2, .int 0), (0, .ref (a 0)), (1, .int v)]) hx hb dX0_childrenOf_1 rfl hl (by decide) rfl (fun ls hl => ?_)
  refine lv_iconst (v := 0) hx hb dX0_childrenOf_2 (by decide) ?_
  refine lv_istore_n (lv' := [(3, .int 0), (2, .int 0), (0, .ref (a 0)), (1, .int v)]) hx hb dX0_childrenOf_3 rfl hl (by decide) rfl (fun ls hl => ?_)
  have lp_4 : ∀ (r i : Nat), i + r = 10 → ∀ (x2 : Int32), rm_chL σ v r i x2 = rm_ch σ v → ∀ (H : Heap) (locs : List Loc), rm_Wd k a (rm_A a s.heap.size) s.heap s σ H locs → ∀ (ls : Array Slot), lv_has ls 5 [(0, .ref (a 0)), (1, .int v), (2, .int x2), (3, .int (nI i))] → W p l e (headSpec wsX0_childrenOf ({ frames := 1, cells := 0, slots := 0, locals := 20 })).room s m args below meth c H locs 0 0 (MQ below (va_Qi (fun (r : Int32) (τ : rm_St) => r = (rm_ch σ v) ∧ τ = σ) (fun τ t => rm_P k a τ t) (rm_A a s.heap.size)) args s 0 0 (rm_A a s.heap.size)) (F0 m 4 ls []) := by
    intro r
    induction r with
    | zero =>
      intro i hi4 x2 ht4 H locs hw ls hl
      obtain rfl : 10 = i := by omega
      have hz4 : x2 = rm_ch σ v := ht4
      refine lv_iload_n hx hb dX0_childrenOf_4 rfl (lv_at hl 3 rfl) ?_
      refine lv_bipush (v := 10) hx hb dX0_childrenOf_5 (by decide) ?_
      refine lv_icmp_ge (tgt := 47) hx hb dX0_childrenOf_7 (by decide) (fun c_7 => ?_) (fun c_7 => ?_)
      · skip
        refine lv_iload_n hx hb dX0_childrenOf_47 rfl (lv_at hl 2 rfl) ?_
        exact rm_iret C hr hlocks hw dX0_childrenOf_48 ⟨by first | with_reducible rfl | with_reducible exact hz4 | (rw [← hz4]; done) | (rw [← hz4]; exact bI_f.symm) | (simp only [rm_ch, ↓reduceIte, Bool.false_eq_true]; rw [← hz4]; done) | (rw [← hz4]; simp only [rm_chL, ↓reduceIte, Bool.false_eq_true]; done) | (rw [← hz4]; simp only [rm_chL, ↓reduceIte, Bool.false_eq_true]; with_reducible rfl) | (rw [← hz4]; simp only [rm_chL, ↓reduceIte, Bool.false_eq_true]; rfl) | (simp only [rm_ch, ↓reduceIte, Bool.false_eq_true]; done) | (simp only [rm_ch, ↓reduceIte, Bool.false_eq_true]; with_reducible rfl), by first | with_reducible rfl | with_reducible exact hz4 | (rw [← hz4]; done) | (rw [← hz4]; exact bI_f.symm) | (simp only [rm_ch, ↓reduceIte, Bool.false_eq_true]; rw [← hz4]; done) | (rw [← hz4]; simp only [rm_chL, ↓reduceIte, Bool.false_eq_true]; done) | (rw [← hz4]; simp only [rm_chL, ↓reduceIte, Bool.false_eq_true]; with_reducible rfl) | (rw [← hz4]; simp only [rm_chL, ↓reduceIte, Bool.false_eq_true]; rfl) | (simp only [rm_ch, ↓reduceIte, Bool.false_eq_true]; done) | (simp only [rm_ch, ↓reduceIte, Bool.false_eq_true]; with_reducible rfl)⟩
      · exact absurd (show (10 : Int32) ≤ nI 10 from nI_le (a := 10) (b := 10) (Nat.le_refl _) (by decide)) c_7
    | succ r ih4 =>
      intro i hi4 x2 ht4 H locs hw ls hl
      have hlt4 : i < 10 := by omega
      refine lv_iload_n hx hb dX0_childrenOf_4 rfl (lv_at hl 3 rfl) ?_
      refine lv_bipush (v := 10) hx hb dX0_childrenOf_5 (by decide) ?_
      refine lv_icmp_ge (tgt := 47) hx hb dX0_childrenOf_7 (by decide) (fun c_7 => ?_) (fun c_7 => ?_)
      · exact absurd c_7 (nI_ge (a := i) (b := 10) hlt4 (by decide))
      · skip
        refine lv_aload_n hx hb dX0_childrenOf_10 rfl (lv_at hl 0 rfl) ?_
        refine rm_geta C hw 16 11 (by decide) rfl (hts _ (by decide +kernel)) rfl dX0_childrenOf_11 ?_
        refine lv_iload_n hx hb dX0_childrenOf_14 rfl (lv_at hl 3 rfl) ?_
        refine rm_iald C hw (by decide) hlt4 dX0_childrenOf_15 ?_
        refine lv_istore (lv' := [(4, .int (σ 11 i)), (0, .ref (a 0)), (1, .int v), (2, .int x2), (3, .int (nI i))]) hx hb dX0_childrenOf_16 hl (by decide) rfl (fun ls hl => ?_)
        refine lv_iload hx hb dX0_childrenOf_18 (lv_at hl 0 rfl) ?_
        refine rm_callSI C hw (As := [.int (σ 11 i)]) (rest := []) (kX0_isNode l (σ 11 i)) (va_cwS 1 hts gX0_childrenOf_X0_isNode rfl rfl rfl (by decide +kernel) ⟨Nat.le_of_ble_eq_true rfl, Nat.le_of_ble_eq_true rfl⟩) rfl hl.1 rfl (lv_room (Nat.le_of_ble_eq_true rfl)) dX0_childrenOf_20 ⟨Nat.zero_le _, Nat.zero_le _⟩ (fun H locs hw => ?_)
        refine rm_ifeq (tgt := 41) hx hb dX0_childrenOf_23 (by decide) (fun c_23 => ?_) (fun c_23 => ?_)
        · skip
          refine lv_iinc (v := nI (i + 1)) (lv' := [(3, .int (nI (i + 1))), (4, .int (σ 11 i)), (0, .ref (a 0)), (1, .int v), (2, .int x2)]) hx hb dX0_childrenOf_41 hl (k := 4) rfl (rm_inc i) (by decide) rfl (fun ls hl => ?_)
          refine lv_goto (tgt := 4) hx hb dX0_childrenOf_44 (by decide) ?_
          exact ih4 (i + 1) (by omega) (x2) (by refine Eq.trans ?_ ht4; first | with_reducible rfl | (simp only [rm_chL, c_23, ↓reduceIte, Bool.false_eq_true]; done) | (simp only [rm_chL, c_23, ↓reduceIte, Bool.false_eq_true]; with_reducible rfl)) _ _ hw _ (lv_sub hl [2, 3, 4, 0] rfl)
        · skip
          refine lv_iload_n hx hb dX0_childrenOf_26 rfl (lv_at hl 2 rfl) ?_
          refine lv_iload hx hb dX0_childrenOf_27 (lv_at hl 0 rfl) ?_
          refine lv_ishr hx hb dX0_childrenOf_29 ?_
          refine lv_iconst (v := 1) hx hb dX0_childrenOf_30 (by decide) ?_
          refine lv_iand hx hb dX0_childrenOf_31 ?_
          refine lv_if_eq (tgt := 41) hx hb dX0_childrenOf_32 (by decide) (fun c_32 => ?_) (fun c_32 => ?_)
          · skip
            refine lv_iinc (v := nI (i + 1)) (lv' := [(3, .int (nI (i + 1))), (4, .int (σ 11 i)), (0, .ref (a 0)), (1, .int v), (2, .int x2)]) hx hb dX0_childrenOf_41 hl (k := 4) rfl (rm_inc i) (by decide) rfl (fun ls hl => ?_)
            refine lv_goto (tgt := 4) hx hb dX0_childrenOf_44 (by decide) ?_
            exact ih4 (i + 1) (by omega) (x2) (by refine Eq.trans ?_ ht4; first | with_reducible rfl | (simp only [rm_chL, c_23, if_pos c_32, ↓reduceIte, Bool.false_eq_true]; done) | (simp only [rm_chL, c_23, if_pos c_32, ↓reduceIte, Bool.false_eq_true]; with_reducible rfl)) _ _ hw _ (lv_sub hl [2, 3, 4, 0] rfl)
          · skip
            refine lv_iload_n hx hb dX0_childrenOf_35 rfl (lv_at hl 3 rfl) ?_
            refine lv_iconst (v := 1) hx hb dX0_childrenOf_36 (by decide) ?_
            refine lv_iload_n hx hb dX0_childrenOf_37 rfl (lv_at hl 4 rfl) ?_
            refine lv_ishl hx hb dX0_childrenOf_38 ?_
            refine lv_ior hx hb dX0_childrenOf_39 ?_
            refine lv_istore_n (lv' := [(2, .int ((x2) ||| ((1) <<< ((nI i) &&& 31)))), (4, .int (σ 11 i)), (0, .ref (a 0)), (1, .int v), (3, .int (nI i))]) hx hb dX0_childrenOf_40 rfl hl (by decide) rfl (fun ls hl => ?_)
            refine lv_iinc (v := nI (i + 1)) (lv' := [(3, .int (nI (i + 1))), (2, .int ((x2) ||| ((1) <<< ((nI i) &&& 31)))), (4, .int (σ 11 i)), (0, .ref (a 0)), (1, .int v)]) hx hb dX0_childrenOf_41 hl (k := 4) rfl (rm_inc i) (by decide) rfl (fun ls hl => ?_)
            refine lv_goto (tgt := 4) hx hb dX0_childrenOf_44 (by decide) ?_
            exact ih4 (i + 1) (by omega) ((x2) ||| ((1) <<< ((nI i) &&& 31))) (by refine Eq.trans ?_ ht4; first | with_reducible rfl | (simp only [rm_chL, c_23, if_neg c_32, ↓reduceIte, Bool.false_eq_true]; done) | (simp only [rm_chL, c_23, if_neg c_32, ↓reduceIte, Bool.false_eq_true]; with_reducible rfl)) _ _ hw _ (lv_sub hl [3, 4, 1, 0] rfl)
  exact lp_4 10 0 (by omega) (0) (by first | with_reducible rfl | (unfold rm_ch; with_reducible rfl) | (simp only [rm_ch, ↓reduceIte, Bool.false_eq_true]; done) | (simp only [rm_ch, ↓reduceIte, Bool.false_eq_true]; with_reducible rfl)) _ _ hw _ (lv_sub hl [2, 3, 1, 0] rfl)
set_option maxHeartbeats 4000000 in
set_option maxRecDepth 100000 in
theorem kX0_lowerWayCosts (l : Launch) (k : rm_K) (a : Nat → Nat) (ha : rm_inj a) (σ : rm_St)   : rm_MV l k a yX0_lowerWayCosts wsX0_lowerWayCosts ({ frames := 1, cells := 0, slots := 0, locals := 30 }) [] σ  (rm_lower σ) := by
  refine rm_enterV (cc := cX0_lowerWayCosts) (nL := 4) (ret := none) ha (by decide) rfl rfl (by decide +kernel) (Nat.le_of_ble_eq_true rfl) ?_
  intro p e s m args below meth c ls C hr hlocks hw hl
  have hx := C.1.1
  have hb := C.1.2.1
  have hts := C.1.2.2.2.2
  have hA : ∀ q, s.heap.size ≤ q → rm_A a s.heap.size q := fun q h => Or.inr h
  replace hl : lv_has ls 4 [(0, .ref (a 0))] := hl
  refine lv_iconst (v := 0) hx hb dX0_lowerWayCosts_0 (by decide) ?_
  refine lv_istore_n (lv' := [(1, .int 0), (0, .ref (a 0))]) hx hb dX0_lowerWayCosts_1 rfl hl (by decide) rfl (fun ls hl => ?_)
  have lp_2 : ∀ (r i : Nat), i + r = 10 → ∀ (τ2 : rm_St), rm_lowL r i τ2 = rm_lower σ → ∀ (H : Heap) (locs : List Loc), rm_Wd k a (rm_A a s.heap.size) s.heap s τ2 H locs → ∀ (ls : Array Slot), lv_has ls 4 [(0, .ref (a 0)), (1, .int (nI i))] → W p l e (headSpec wsX0_lowerWayCosts ({ frames := 1, cells := 0, slots := 0, locals := 30 })).room s m args below meth c H locs 0 0 (MQ below (va_Qv (fun (τ : rm_St) => τ = (rm_lower σ)) (fun τ t => rm_P k a τ t) (rm_A a s.heap.size)) args s 0 0 (rm_A a s.heap.size)) (F0 m 2 ls []) := by
    intro r
    induction r with
    | zero =>
      intro i hi2 τ2 ht2 H locs hw ls hl
      obtain rfl : 10 = i := by omega
      have hz2 : τ2 = rm_lower σ := ht2
      refine lv_iload_n hx hb dX0_lowerWayCosts_2 rfl (lv_at hl 1 rfl) ?_
      refine lv_bipush (v := 10) hx hb dX0_lowerWayCosts_3 (by decide) ?_
      refine lv_icmp_ge (tgt := 64) hx hb dX0_lowerWayCosts_5 (by decide) (fun c_5 => ?_) (fun c_5 => ?_)
      · skip
        exact rm_vret C hr hlocks hw dX0_lowerWayCosts_64 (by first | with_reducible rfl | with_reducible exact hz2 | (rw [← hz2]; done) | (rw [← hz2]; exact bI_f.symm) | (simp only [rm_lower, ↓reduceIte, Bool.false_eq_true]; rw [← hz2]; done) | (rw [← hz2]; simp only [rm_lowL, ↓reduceIte, Bool.false_eq_true]; done) | (rw [← hz2]; simp only [rm_lowL, ↓reduceIte, Bool.false_eq_true]; with_reducible rfl) | (rw [← hz2]; simp only [rm_lowL, ↓reduceIte, Bool.false_eq_true]; rfl) | (simp only [rm_lower, ↓reduceIte, Bool.false_eq_true]; done) | (simp only [rm_lower, ↓reduceIte, Bool.false_eq_true]; with_reducible rfl))
      · exact absurd (show (10 : Int32) ≤ nI 10 from nI_le (a := 10) (b := 10) (Nat.le_refl _) (by decide)) c_5
    | succ r ih2 =>
      intro i hi2 τ2 ht2 H locs hw ls hl
      have hlt2 : i < 10 := by omega
      refine lv_iload_n hx hb dX0_lowerWayCosts_2 rfl (lv_at hl 1 rfl) ?_
      refine lv_bipush (v := 10) hx hb dX0_lowerWayCosts_3 (by decide) ?_
      refine lv_icmp_ge (tgt := 64) hx hb dX0_lowerWayCosts_5 (by decide) (fun c_5 => ?_) (fun c_5 => ?_)
      · exact absurd c_5 (nI_ge (a := i) (b := 10) hlt2 (by decide))
      · skip
        refine lv_iconst (v := 0) hx hb dX0_lowerWayCosts_8 (by decide) ?_
        refine lv_istore_n (lv' := [(2, .int 0), (0, .ref (a 0)), (1, .int (nI i))]) hx hb dX0_lowerWayCosts_9 rfl hl (by decide) rfl (fun ls hl => ?_)
        have lp_10 : ∀ (r j : Nat), j + r = 10 → ∀ (τ10 : rm_St), rm_lowJ i r j τ10 = rm_lowJ i 10 0 τ2 → ∀ (H : Heap) (locs : List Loc), rm_Wd k a (rm_A a s.heap.size) s.heap s τ10 H locs → ∀ (ls : Array Slot), lv_has ls 4 [(0, .ref (a 0)), (1, .int (nI i)), (2, .int (nI j))] → W p l e (headSpec wsX0_lowerWayCosts ({ frames := 1, cells := 0, slots := 0, locals := 30 })).room s m args below meth c H locs 0 0 (MQ below (va_Qv (fun (τ : rm_St) => τ = (rm_lower σ)) (fun τ t => rm_P k a τ t) (rm_A a s.heap.size)) args s 0 0 (rm_A a s.heap.size)) (F0 m 10 ls []) := by
          intro r
          induction r with
          | zero =>
            intro j hi10 τ10 ht10 H locs hw ls hl
            obtain rfl : 10 = j := by omega
            have hz10 : τ10 = rm_lowJ i 10 0 τ2 := ht10
            refine lv_iload_n hx hb dX0_lowerWayCosts_10 rfl (lv_at hl 2 rfl) ?_
            refine lv_bipush (v := 10) hx hb dX0_lowerWayCosts_11 (by decide) ?_
            refine lv_icmp_ge (tgt := 58) hx hb dX0_lowerWayCosts_13 (by decide) (fun c_13 => ?_) (fun c_13 => ?_)
            · skip
              refine lv_iinc (v := nI (i + 1)) (lv' := [(1, .int (nI (i + 1))), (0, .ref (a 0)), (2, .int (nI 10))]) hx hb dX0_lowerWayCosts_58 hl (k := 1) rfl (rm_inc i) (by decide) rfl (fun ls hl => ?_)
              refine lv_goto (tgt := 2) hx hb dX0_lowerWayCosts_61 (by decide) ?_
              exact ih2 (i + 1) (by omega) (τ10) (by refine Eq.trans ?_ ht2; first | with_reducible rfl | (simp only [rm_lowL, ↓reduceIte, Bool.false_eq_true]; done) | (simp only [rm_lowL, ↓reduceIte, Bool.false_eq_true]; rw [← hz10]) | (simp only [rm_lowL, ↓reduceIte, Bool.false_eq_true]; with_reducible rfl)) _ _ hw _ (lv_sub hl [1, 0] rfl)
            · exact absurd (show (10 : Int32) ≤ nI 10 from nI_le (a := 10) (b := 10) (Nat.le_refl _) (by decide)) c_13
          | succ r ih10 =>
            intro j hi10 τ10 ht10 H locs hw ls hl
            have hlt10 : j < 10 := by omega
            refine lv_iload_n hx hb dX0_lowerWayCosts_10 rfl (lv_at hl 2 rfl) ?_
            refine lv_bipush (v := 10) hx hb dX0_lowerWayCosts_11 (by decide) ?_
            refine lv_icmp_ge (tgt := 58) hx hb dX0_lowerWayCosts_13 (by decide) (fun c_13 => ?_) (fun c_13 => ?_)
            · exact absurd c_13 (nI_ge (a := j) (b := 10) hlt10 (by decide))
            · skip
              refine lv_aload_n hx hb dX0_lowerWayCosts_16 rfl (lv_at hl 0 rfl) ?_
              refine rm_geta C hw 6 1 (by decide) rfl (hts _ (by decide +kernel)) rfl dX0_lowerWayCosts_17 ?_
              refine lv_iload_n hx hb dX0_lowerWayCosts_20 rfl (lv_at hl 1 rfl) ?_
              refine rm_aald C hw 15 (by decide) hlt2 dX0_lowerWayCosts_21 ?_
              refine lv_iload_n hx hb dX0_lowerWayCosts_22 rfl (lv_at hl 2 rfl) ?_
              refine rm_iald C hw ⟨by omega, by omega⟩ hlt10 dX0_lowerWayCosts_23 ?_
              refine lv_istore_n (lv' := [(3, .int (τ10 (15 + i) j)), (0, .ref (a 0)), (1, .int (nI i)), (2, .int (nI j))]) hx hb dX0_lowerWayCosts_24 rfl hl (by decide) rfl (fun ls hl => ?_)
              refine lv_iload_n hx hb dX0_lowerWayCosts_25 rfl (lv_at hl 0 rfl) ?_
              refine lv_if_le (tgt := 52) hx hb dX0_lowerWayCosts_26 (by decide) (fun c_26 => ?_) (fun c_26 => ?_)
              · skip
                refine lv_iinc (v := nI (j + 1)) (lv' := [(2, .int (nI (j + 1))), (3, .int (τ10 (15 + i) j)), (0, .ref (a 0)), (1, .int (nI i))]) hx hb dX0_lowerWayCosts_52 hl (k := 3) rfl (rm_inc j) (by decide) rfl (fun ls hl => ?_)
                refine lv_goto (tgt := 10) hx hb dX0_lowerWayCosts_55 (by decide) ?_
                exact ih10 (j + 1) (by omega) (τ10) (by refine Eq.trans ?_ ht10; first | with_reducible rfl | (simp only [rm_lowJ, if_pos c_26, ↓reduceIte, Bool.false_eq_true]; done) | (simp only [rm_lowJ, if_pos c_26, ↓reduceIte, Bool.false_eq_true]; with_reducible rfl)) _ _ hw _ (lv_sub hl [2, 3, 0] rfl)
              · skip
                refine lv_aload_n hx hb dX0_lowerWayCosts_29 rfl (lv_at hl 1 rfl) ?_
                refine rm_geta C hw 19 14 (by decide) rfl (hts _ (by decide +kernel)) rfl dX0_lowerWayCosts_30 ?_
                refine lv_iload_n hx hb dX0_lowerWayCosts_33 rfl (lv_at hl 2 rfl) ?_
                refine lv_aload_n hx hb dX0_lowerWayCosts_34 rfl (lv_at hl 1 rfl) ?_
                refine rm_geta C hw 19 14 (by decide) rfl (hts _ (by decide +kernel)) rfl dX0_lowerWayCosts_35 ?_
                refine lv_iload_n hx hb dX0_lowerWayCosts_38 rfl (lv_at hl 2 rfl) ?_
                refine rm_iald C hw (by decide) hlt2 dX0_lowerWayCosts_39 ?_
                refine lv_aload_n hx hb dX0_lowerWayCosts_40 rfl (lv_at hl 1 rfl) ?_
                refine rm_geta C hw 19 14 (by decide) rfl (hts _ (by decide +kernel)) rfl dX0_lowerWayCosts_41 ?_
                refine lv_iload_n hx hb dX0_lowerWayCosts_44 rfl (lv_at hl 3 rfl) ?_
                refine rm_iald C hw (by decide) hlt10 dX0_lowerWayCosts_45 ?_
                refine lv_iload_n hx hb dX0_lowerWayCosts_46 rfl (lv_at hl 0 rfl) ?_
                refine lv_iadd hx hb dX0_lowerWayCosts_47 ?_
                refine va_mmin hx hb (C.1.2.2.1.trans hl.1.symm) C.1.2.2.2.1 (hts (.methodLink RX0 141 Lib.Math.min.name) (by decide +kernel)) (hts (.static Lib.Math.min.name) (by decide +kernel)) (hts (.initialized "java/lang/Math") (by decide +kernel)) (hts (.code Lib.Math.min.name Lib.Math.min.code 2 (some .int)) (by decide +kernel)) (Nat.le_of_ble_eq_true rfl) (Nat.le_of_ble_eq_true rfl) (Nat.le_of_ble_eq_true rfl) (Nat.le_of_ble_eq_true rfl) dX0_lowerWayCosts_48 ?_
                refine rm_iast C hw (by decide) hlt2 dX0_lowerWayCosts_51 (fun H locs hw => ?_)
                refine lv_iinc (v := nI (j + 1)) (lv' := [(2, .int (nI (j + 1))), (3, .int (τ10 (15 + i) j)), (0, .ref (a 0)), (1, .int (nI i))]) hx hb dX0_lowerWayCosts_52 hl (k := 3) rfl (rm_inc j) (by decide) rfl (fun ls hl => ?_)
                refine lv_goto (tgt := 10) hx hb dX0_lowerWayCosts_55 (by decide) ?_
                exact ih10 (j + 1) (by omega) (rm_up τ10 14 i (rm_mn (τ10 14 i) ((τ10 14 j) + (τ10 (15 + i) j)))) (by refine Eq.trans ?_ ht10; first | with_reducible rfl | (simp only [rm_lowJ, if_neg c_26, ↓reduceIte, Bool.false_eq_true]; done) | (simp only [rm_lowJ, if_neg c_26, ↓reduceIte, Bool.false_eq_true]; with_reducible rfl)) _ _ hw _ (lv_sub hl [2, 3, 0] rfl)
        exact lp_10 10 0 (by omega) (τ2) (by first | with_reducible rfl | (unfold rm_lower; with_reducible rfl) | (simp only [rm_lower, ↓reduceIte, Bool.false_eq_true]; done) | (simp only [rm_lower, ↓reduceIte, Bool.false_eq_true]; with_reducible rfl)) _ _ hw _ (lv_sub hl [1, 2, 0] rfl)
  exact lp_2 10 0 (by omega) (σ) (by first | with_reducible rfl | (unfold rm_lower; with_reducible rfl) | (simp only [rm_lower, ↓reduceIte, Bool.false_eq_true]; done) | (simp only [rm_lower, ↓reduceIte, Bool.false_eq_true]; with_reducible rfl)) _ _ hw _ (lv_sub hl [1, 0] rfl)

set_option maxHeartbeats 4000000 in
set_option maxRecDepth 100000 in
theorem kX0_requireRoot (l : Launch) (hfl : l.stackTraces = false) (k : rm_K) (a : Nat → Nat) (ha : rm_inj a) (σ : rm_St) (x : Int32) : rm_XV l k a yX0_requireRoot wsX0_requireRoot ({ frames := 7, cells := 2, slots := 12, locals := 110 }) [.int x] σ (rm_tRoot σ x)  σ := by
  refine rm_enterXV (cc := cX0_requireRoot) (nL := 2) (ret := none) ha (by decide) rfl rfl (by decide +kernel) (Nat.le_of_ble_eq_true rfl) ?_
  intro p e s m args below meth c ls C hr hlocks htab hTh hw hl
  have hx := C.1.1
  have hb := C.1.2.1
  have hts := C.1.2.2.2.2
  have hA : ∀ q, s.heap.size ≤ q → rm_A a s.heap.size q := fun q h => Or.inr h
  replace hl : lv_has ls 2 [(0, .ref (a 0)), (1, .int x)] := hl
  refine lv_iload_n hx hb dX0_requireRoot_0 rfl (lv_at hl 1 rfl) ?_
  refine rm_callXS C hlocks htab hTh hw (As := [.int x]) (rest := []) (kX0_requireNode l hfl (x)) (va_cwS 1 hts gX0_requireRoot_X0_requireNode rfl rfl rfl (by decide +kernel) ⟨Nat.le_of_ble_eq_true rfl, Nat.le_of_ble_eq_true rfl⟩) rfl hl.1 rfl (lv_room (Nat.le_of_ble_eq_true rfl)) dX0_requireRoot_1 ⟨Nat.le_of_ble_eq_true rfl, Nat.le_of_ble_eq_true rfl⟩ (Nat.le_of_ble_eq_true rfl) (Nat.le_of_ble_eq_true rfl) (fun E hE => by simp only [rm_tRoot, hE, rm_or_n, rm_or_s, ↓reduceIte, Bool.false_eq_true]) (fun c_1 H locs hw => ?_)
  obtain ⟨xn, hxn, rfl⟩ := rm_tN_none c_1
  refine lv_aload_n hx hb dX0_requireRoot_4 rfl (lv_at hl 0 rfl) ?_
  refine rm_geta C hw 10 5 (by decide) rfl (hts _ (by decide +kernel)) rfl dX0_requireRoot_5 ?_
  refine lv_iload_n hx hb dX0_requireRoot_8 rfl (lv_at hl 1 rfl) ?_
  refine rm_zald C hw hxn dX0_requireRoot_9 ?_
  refine lv_if_ne (tgt := 23) hx hb dX0_requireRoot_10 (by decide) (fun c_10 => ?_) (fun c_10 => ?_)
  · skip
    exact rm_xvret C hr hlocks hw (Nat.le_of_ble_eq_true rfl) (Nat.le_of_ble_eq_true rfl) dX0_requireRoot_23 ⟨by first | (simp only [rm_tRoot, c_1, rm_cl hxn, if_neg c_10, ↓reduceIte, Bool.false_eq_true, rm_or_n, rm_or_s]; done) | (simp only [rm_tRoot, c_1, rm_cl hxn, if_neg c_10, ↓reduceIte, Bool.false_eq_true, rm_or_n, rm_or_s]; rfl), by first | with_reducible rfl | (simp only [c_1, rm_cl hxn, if_neg c_10, ↓reduceIte, Bool.false_eq_true]; done) | (simp only [c_1, rm_cl hxn, if_neg c_10, ↓reduceIte, Bool.false_eq_true]; rfl) | rfl⟩
  · skip
    exact rm_throwS C hfl hlocks htab hTh hw (by decide +kernel) (by decide +kernel) (by decide +kernel) hTh.2.2.1.2.2.2.2.2.1 (by decide +kernel) rm_nb3 hTh.2.2.2.2.2.2.2.2 rm_ot3 hl.1 dX0_requireRoot_13 dX0_requireRoot_16 dX0_requireRoot_17 dX0_requireRoot_19 dX0_requireRoot_22 (Nat.le_of_ble_eq_true rfl) (Nat.le_of_ble_eq_true rfl) (Nat.le_of_ble_eq_true rfl) (Nat.le_of_ble_eq_true rfl) (Nat.le_of_ble_eq_true rfl) (Nat.le_of_ble_eq_true rfl) (by first | (simp only [rm_tRoot, c_1, rm_cl hxn, if_pos c_10, ↓reduceIte, Bool.false_eq_true, rm_or_n, rm_or_s]; done) | (simp only [rm_tRoot, c_1, rm_cl hxn, if_pos c_10, ↓reduceIte, Bool.false_eq_true, rm_or_n, rm_or_s]; rfl))
theorem rm_tRoot_none {σ : rm_St} {v : Int32} (h : rm_tRoot σ v = none) : ∃ o : Nat, o < 10 ∧ v = nI o := by
  unfold rm_tRoot at h
  cases c : rm_tN v with
  | none => exact rm_tN_none c
  | some e => rw [c] at h; cases h
set_option maxHeartbeats 4000000 in
set_option maxRecDepth 100000 in
theorem kX0_setRules (l : Launch) (hfl : l.stackTraces = false) (k : rm_K) (a : Nat → Nat) (ha : rm_inj a) (σ : rm_St) (x : Int32) (y : Int32) (z : Int32) (w : Int32) : rm_XV l k a yX0_setRules wsX0_setRules ({ frames := 7, cells := 4, slots := 24, locals := 112 }) [.int x, .int y, .int z, .int w] σ (rm_tSet x y z w)  (rm_setS σ x y z w) := by
  refine rm_enterXV (cc := cX0_setRules) (nL := 5) (ret := none) ha (by decide) rfl rfl (by decide +kernel) (Nat.le_of_ble_eq_true rfl) ?_
  intro p e s m args below meth c ls C hr hlocks htab hTh hw hl
  have hx := C.1.1
  have hb := C.1.2.1
  have hts := C.1.2.2.2.2
  have hA : ∀ q, s.heap.size ≤ q → rm_A a s.heap.size q := fun q h => Or.inr h
  replace hl : lv_has ls 5 [(0, .ref (a 0)), (1, .int x), (2, .int y), (3, .int z), (4, .int w)] := hl
  refine lv_iload_n hx hb dX0_setRules_0 rfl (lv_at hl 1 rfl) ?_
  refine lv_iconst (v := 0) hx hb dX0_setRules_1 (by decide) ?_
  refine lv_bipush (v := 100) hx hb dX0_setRules_2 (by decide) ?_
  refine rm_callXS C hlocks htab hTh hw (As := [.int x, .int 0, .int 100]) (rest := []) (kX0_requireRange l hfl (x) (0) (100)) (va_cwS 3 hts gX0_setRules_X0_requireRange rfl rfl rfl (by decide +kernel) ⟨Nat.le_of_ble_eq_true rfl, Nat.le_of_ble_eq_true rfl⟩) rfl hl.1 rfl (lv_room (Nat.le_of_ble_eq_true rfl)) dX0_setRules_4 ⟨Nat.le_of_ble_eq_true rfl, Nat.le_of_ble_eq_true rfl⟩ (Nat.le_of_ble_eq_true rfl) (Nat.le_of_ble_eq_true rfl) (fun E hE => by simp only [rm_tSet, hE, rm_or_n, rm_or_s, ↓reduceIte, Bool.false_eq_true]) (fun c_4 H locs hw => ?_)
  refine lv_iload_n hx hb dX0_setRules_7 rfl (lv_at hl 2 rfl) ?_
  refine lv_iconst (v := 0) hx hb dX0_setRules_8 (by decide) ?_
  refine lv_sipush (v := 10000) hx hb dX0_setRules_9 (by decide) ?_
  refine rm_callXS C hlocks htab hTh hw (As := [.int y, .int 0, .int 10000]) (rest := []) (kX0_requireRange l hfl (y) (0) (10000)) (va_cwS 3 hts gX0_setRules_X0_requireRange rfl rfl rfl (by decide +kernel) ⟨Nat.le_of_ble_eq_true rfl, Nat.le_of_ble_eq_true rfl⟩) rfl hl.1 rfl (lv_room (Nat.le_of_ble_eq_true rfl)) dX0_setRules_12 ⟨Nat.le_of_ble_eq_true rfl, Nat.le_of_ble_eq_true rfl⟩ (Nat.le_of_ble_eq_true rfl) (Nat.le_of_ble_eq_true rfl) (fun E hE => by simp only [rm_tSet, hE, rm_or_n, rm_or_s, c_4, ↓reduceIte, Bool.false_eq_true]) (fun c_12 H locs hw => ?_)
  refine lv_iload_n hx hb dX0_setRules_15 rfl (lv_at hl 3 rfl) ?_
  refine lv_iconst (v := 1) hx hb dX0_setRules_16 (by decide) ?_
  refine lv_bipush (v := 8) hx hb dX0_setRules_17 (by decide) ?_
  refine rm_callXS C hlocks htab hTh hw (As := [.int z, .int 1, .int 8]) (rest := []) (kX0_requireRange l hfl (z) (1) (8)) (va_cwS 3 hts gX0_setRules_X0_requireRange rfl rfl rfl (by decide +kernel) ⟨Nat.le_of_ble_eq_true rfl, Nat.le_of_ble_eq_true rfl⟩) rfl hl.1 rfl (lv_room (Nat.le_of_ble_eq_true rfl)) dX0_setRules_19 ⟨Nat.le_of_ble_eq_true rfl, Nat.le_of_ble_eq_true rfl⟩ (Nat.le_of_ble_eq_true rfl) (Nat.le_of_ble_eq_true rfl) (fun E hE => by simp only [rm_tSet, hE, rm_or_n, rm_or_s, c_4, c_12, ↓reduceIte, Bool.false_eq_true]) (fun c_19 H locs hw => ?_)
  refine lv_iload hx hb dX0_setRules_22 (lv_at hl 4 rfl) ?_
  refine lv_iconst (v := 0) hx hb dX0_setRules_24 (by decide) ?_
  refine lv_bipush (v := 6) hx hb dX0_setRules_25 (by decide) ?_
  refine rm_callXS C hlocks htab hTh hw (As := [.int w, .int 0, .int 6]) (rest := []) (kX0_requireRange l hfl (w) (0) (6)) (va_cwS 3 hts gX0_setRules_X0_requireRange rfl rfl rfl (by decide +kernel) ⟨Nat.le_of_ble_eq_true rfl, Nat.le_of_ble_eq_true rfl⟩) rfl hl.1 rfl (lv_room (Nat.le_of_ble_eq_true rfl)) dX0_setRules_27 ⟨Nat.le_of_ble_eq_true rfl, Nat.le_of_ble_eq_true rfl⟩ (Nat.le_of_ble_eq_true rfl) (Nat.le_of_ble_eq_true rfl) (fun E hE => by simp only [rm_tSet, hE, rm_or_n, rm_or_s, c_4, c_12, c_19, ↓reduceIte, Bool.false_eq_true]) (fun c_27 H locs hw => ?_)
  refine lv_aload_n hx hb dX0_setRules_30 rfl (lv_at hl 0 rfl) ?_
  refine lv_iload_n hx hb dX0_setRules_31 rfl (lv_at hl 1 rfl) ?_
  refine rm_puti C hw 0 (by decide) (hts _ (by decide +kernel)) rfl rfl rfl dX0_setRules_32 (fun H locs hw => ?_)
  refine lv_aload_n hx hb dX0_setRules_35 rfl (lv_at hl 0 rfl) ?_
  refine lv_iload_n hx hb dX0_setRules_36 rfl (lv_at hl 2 rfl) ?_
  refine rm_puti C hw 1 (by decide) (hts _ (by decide +kernel)) rfl rfl rfl dX0_setRules_37 (fun H locs hw => ?_)
  refine lv_aload_n hx hb dX0_setRules_40 rfl (lv_at hl 0 rfl) ?_
  refine lv_iload_n hx hb dX0_setRules_41 rfl (lv_at hl 3 rfl) ?_
  refine rm_puti C hw 2 (by decide) (hts _ (by decide +kernel)) rfl rfl rfl dX0_setRules_42 (fun H locs hw => ?_)
  refine lv_aload_n hx hb dX0_setRules_45 rfl (lv_at hl 0 rfl) ?_
  refine lv_iload hx hb dX0_setRules_46 (lv_at hl 4 rfl) ?_
  refine rm_puti C hw 3 (by decide) (hts _ (by decide +kernel)) rfl rfl rfl dX0_setRules_48 (fun H locs hw => ?_)
  exact rm_xvret C hr hlocks hw (Nat.le_of_ble_eq_true rfl) (Nat.le_of_ble_eq_true rfl) dX0_setRules_51 ⟨by first | (simp only [rm_tSet, c_4, c_12, c_19, c_27, ↓reduceIte, Bool.false_eq_true, rm_or_n, rm_or_s]; done) | (simp only [rm_tSet, c_4, c_12, c_19, c_27, ↓reduceIte, Bool.false_eq_true, rm_or_n, rm_or_s]; rfl), by first | with_reducible rfl | (simp only [rm_setS, c_4, c_12, c_19, c_27, ↓reduceIte, Bool.false_eq_true]; done) | (simp only [rm_setS, c_4, c_12, c_19, c_27, ↓reduceIte, Bool.false_eq_true]; rfl) | rfl⟩
set_option maxHeartbeats 4000000 in
set_option maxRecDepth 100000 in
theorem kX0_link (l : Launch) (hfl : l.stackTraces = false) (k : rm_K) (a : Nat → Nat) (ha : rm_inj a) (σ : rm_St) (x : Int32) (y : Int32) (pv : Int32) : rm_XI l k a yX0_link wsX0_link ({ frames := 7, cells := 4, slots := 24, locals := 114 }) [.int x, .int y, .int pv] σ (rm_tLink x y pv) (σ (15 + x.toNatClampNeg) y.toNatClampNeg) (rm_linkS σ x y pv) := by
  refine rm_enterXI (cc := cX0_link) (nL := 5) (ret := (some .int)) ha (by decide) rfl rfl (by decide +kernel) (Nat.le_of_ble_eq_true rfl) ?_
  intro p e s m args below meth c ls C hr hlocks htab hTh hw hl
  have hx := C.1.1
  have hb := C.1.2.1
  have hts := C.1.2.2.2.2
  have hA : ∀ q, s.heap.size ≤ q → rm_A a s.heap.size q := fun q h => Or.inr h
  replace hl : lv_has ls 5 [(0, .ref (a 0)), (1, .int x), (2, .int y), (3, .int pv)] := hl
  refine lv_iload_n hx hb dX0_link_0 rfl (lv_at hl 1 rfl) ?_
  refine rm_callXS C hlocks htab hTh hw (As := [.int x]) (rest := []) (kX0_requireNode l hfl (x)) (va_cwS 1 hts gX0_link_X0_requireNode rfl rfl rfl (by decide +kernel) ⟨Nat.le_of_ble_eq_true rfl, Nat.le_of_ble_eq_true rfl⟩) rfl hl.1 rfl (lv_room (Nat.le_of_ble_eq_true rfl)) dX0_link_1 ⟨Nat.le_of_ble_eq_true rfl, Nat.le_of_ble_eq_true rfl⟩ (Nat.le_of_ble_eq_true rfl) (Nat.le_of_ble_eq_true rfl) (fun E hE => by simp only [rm_tLink, hE, rm_or_n, rm_or_s, ↓reduceIte, Bool.false_eq_true]) (fun c_1 H locs hw => ?_)
  obtain ⟨xn, hxn, rfl⟩ := rm_tN_none c_1
  refine lv_iload_n hx hb dX0_link_4 rfl (lv_at hl 2 rfl) ?_
  refine rm_callXS C hlocks htab hTh hw (As := [.int y]) (rest := []) (kX0_requireNode l hfl (y)) (va_cwS 1 hts gX0_link_X0_requireNode rfl rfl rfl (by decide +kernel) ⟨Nat.le_of_ble_eq_true rfl, Nat.le_of_ble_eq_true rfl⟩) rfl hl.1 rfl (lv_room (Nat.le_of_ble_eq_true rfl)) dX0_link_5 ⟨Nat.le_of_ble_eq_true rfl, Nat.le_of_ble_eq_true rfl⟩ (Nat.le_of_ble_eq_true rfl) (Nat.le_of_ble_eq_true rfl) (fun E hE => by simp only [rm_tLink, hE, rm_or_n, rm_or_s, c_1, rm_cl hxn, ↓reduceIte, Bool.false_eq_true]) (fun c_5 H locs hw => ?_)
  obtain ⟨yn, hyn, rfl⟩ := rm_tN_none c_5
  refine lv_iload_n hx hb dX0_link_8 rfl (lv_at hl 1 rfl) ?_
  refine lv_iload_n hx hb dX0_link_9 rfl (lv_at hl 2 rfl) ?_
  refine lv_icmp_ne (tgt := 23) hx hb dX0_link_10 (by decide) (fun c_10 => ?_) (fun c_10 => ?_)
  · skip
    refine lv_iload_n hx hb dX0_link_23 rfl (lv_at hl 3 rfl) ?_
    refine lv_iconst (v := 0) hx hb dX0_link_24 (by decide) ?_
    refine lv_bipush (v := 100) hx hb dX0_link_25 (by decide) ?_
    refine rm_callXS C hlocks htab hTh hw (As := [.int pv, .int 0, .int 100]) (rest := []) (kX0_requireRange l hfl (pv) (0) (100)) (va_cwS 3 hts gX0_link_X0_requireRange rfl rfl rfl (by decide +kernel) ⟨Nat.le_of_ble_eq_true rfl, Nat.le_of_ble_eq_true rfl⟩) rfl hl.1 rfl (lv_room (Nat.le_of_ble_eq_true rfl)) dX0_link_27 ⟨Nat.le_of_ble_eq_true rfl, Nat.le_of_ble_eq_true rfl⟩ (Nat.le_of_ble_eq_true rfl) (Nat.le_of_ble_eq_true rfl) (fun E hE => by simp only [rm_tLink, hE, rm_or_n, rm_or_s, c_1, rm_cl hxn, c_5, rm_cl hyn, if_neg c_10, ↓reduceIte, Bool.false_eq_true]) (fun c_27 H locs hw => ?_)
    refine lv_aload_n hx hb dX0_link_30 rfl (lv_at hl 0 rfl) ?_
    refine rm_geta C hw 6 1 (by decide) rfl (hts _ (by decide +kernel)) rfl dX0_link_31 ?_
    refine lv_iload_n hx hb dX0_link_34 rfl (lv_at hl 1 rfl) ?_
    refine rm_aald C hw 15 (by decide) hxn dX0_link_35 ?_
    refine lv_iload_n hx hb dX0_link_36 rfl (lv_at hl 2 rfl) ?_
    refine rm_iald C hw ⟨by omega, by omega⟩ hyn dX0_link_37 ?_
    refine lv_istore (lv' := [(4, .int (σ (15 + xn) yn)), (0, .ref (a 0)), (1, .int (nI xn)), (2, .int (nI yn)), (3, .int pv)]) hx hb dX0_link_38 hl (by decide) rfl (fun ls hl => ?_)
    refine lv_aload_n hx hb dX0_link_40 rfl (lv_at hl 1 rfl) ?_
    refine rm_geta C hw 6 1 (by decide) rfl (hts _ (by decide +kernel)) rfl dX0_link_41 ?_
    refine lv_iload_n hx hb dX0_link_44 rfl (lv_at hl 2 rfl) ?_
    refine rm_aald C hw 15 (by decide) hxn dX0_link_45 ?_
    refine lv_iload_n hx hb dX0_link_46 rfl (lv_at hl 3 rfl) ?_
    refine lv_iload_n hx hb dX0_link_47 rfl (lv_at hl 4 rfl) ?_
    refine rm_iast C hw ⟨by omega, by omega⟩ hyn dX0_link_48 (fun H locs hw => ?_)
    refine lv_aload_n hx hb dX0_link_49 rfl (lv_at hl 1 rfl) ?_
    refine rm_geta C hw 6 1 (by decide) rfl (hts _ (by decide +kernel)) rfl dX0_link_50 ?_
    refine lv_iload_n hx hb dX0_link_53 rfl (lv_at hl 3 rfl) ?_
    refine rm_aald C hw 15 (by decide) hyn dX0_link_54 ?_
    refine lv_iload_n hx hb dX0_link_55 rfl (lv_at hl 2 rfl) ?_
    refine lv_iload_n hx hb dX0_link_56 rfl (lv_at hl 4 rfl) ?_
    refine rm_iast C hw ⟨by omega, by omega⟩ hxn dX0_link_57 (fun H locs hw => ?_)
    refine lv_iload_n hx hb dX0_link_58 rfl (lv_at hl 4 rfl) ?_
    refine lv_if_ne (tgt := 74) hx hb dX0_link_59 (by decide) (fun c_59 => ?_) (fun c_59 => ?_)
    · skip
      refine lv_aload_n hx hb dX0_link_74 rfl (lv_at hl 1 rfl) ?_
      refine lv_iload_n hx hb dX0_link_75 rfl (lv_at hl 2 rfl) ?_
      refine rm_callV C hw hA (As := [.int (nI xn)]) (rest := []) (kX0_choose l k a ha (rm_up (rm_up σ (15 + xn) yn (pv)) (15 + yn) xn (pv)) xn hxn) (cwV 1 hts gX0_link_X0_choose rfl rfl rfl (by decide +kernel) ⟨Nat.le_of_ble_eq_true rfl, Nat.le_of_ble_eq_true rfl⟩) rfl hl.1 rfl (lv_room (Nat.le_of_ble_eq_true rfl)) dX0_link_76 ⟨Nat.le_of_ble_eq_true rfl, Nat.le_of_ble_eq_true rfl⟩ (fun H locs hw => ?_)
      refine lv_aload_n hx hb dX0_link_79 rfl (lv_at hl 1 rfl) ?_
      refine lv_iload_n hx hb dX0_link_80 rfl (lv_at hl 3 rfl) ?_
      refine rm_callV C hw hA (As := [.int (nI yn)]) (rest := []) (kX0_choose l k a ha (rm_choose (rm_up (rm_up σ (15 + xn) yn (pv)) (15 + yn) xn (pv)) xn) yn hyn) (cwV 1 hts gX0_link_X0_choose rfl rfl rfl (by decide +kernel) ⟨Nat.le_of_ble_eq_true rfl, Nat.le_of_ble_eq_true rfl⟩) rfl hl.1 rfl (lv_room (Nat.le_of_ble_eq_true rfl)) dX0_link_81 ⟨Nat.le_of_ble_eq_true rfl, Nat.le_of_ble_eq_true rfl⟩ (fun H locs hw => ?_)
      refine lv_iload hx hb dX0_link_84 (lv_at hl 0 rfl) ?_
      exact rm_xret C hr hlocks hw (Nat.le_of_ble_eq_true rfl) (Nat.le_of_ble_eq_true rfl) dX0_link_86 ⟨by first | (simp only [rm_tLink, c_1, rm_cl hxn, c_5, rm_cl hyn, if_neg c_10, c_27, if_neg c_59, ↓reduceIte, Bool.false_eq_true, rm_or_n, rm_or_s]; done) | (simp only [rm_tLink, c_1, rm_cl hxn, c_5, rm_cl hyn, if_neg c_10, c_27, if_neg c_59, ↓reduceIte, Bool.false_eq_true, rm_or_n, rm_or_s]; rfl), by first | with_reducible rfl | (simp only [rm_linkS, rm_lnk, c_1, rm_cl hxn, c_5, rm_cl hyn, if_neg c_10, c_27, if_neg c_59, ↓reduceIte, Bool.false_eq_true]; done) | (simp only [rm_linkS, rm_lnk, c_1, rm_cl hxn, c_5, rm_cl hyn, if_neg c_10, c_27, if_neg c_59, ↓reduceIte, Bool.false_eq_true]; rfl) | rfl, by first | with_reducible rfl | (simp only [rm_linkS, rm_lnk, c_1, rm_cl hxn, c_5, rm_cl hyn, if_neg c_10, c_27, if_neg c_59, ↓reduceIte, Bool.false_eq_true]; done) | (simp only [rm_linkS, rm_lnk, c_1, rm_cl hxn, c_5, rm_cl hyn, if_neg c_10, c_27, if_neg c_59, ↓reduceIte, Bool.false_eq_true]; rfl) | rfl⟩
    · skip
      refine lv_aload_n hx hb dX0_link_62 rfl (lv_at hl 1 rfl) ?_
      refine lv_iload_n hx hb dX0_link_63 rfl (lv_at hl 2 rfl) ?_
      refine lv_iload_n hx hb dX0_link_64 rfl (lv_at hl 3 rfl) ?_
      refine rm_callV C hw hA (As := [.int (nI xn), .int (nI yn)]) (rest := []) (kX0_forget l k a ha (rm_up (rm_up σ (15 + xn) yn (pv)) (15 + yn) xn (pv)) xn yn hxn hyn) (cwV 2 hts gX0_link_X0_forget rfl rfl rfl (by decide +kernel) ⟨Nat.le_of_ble_eq_true rfl, Nat.le_of_ble_eq_true rfl⟩) rfl hl.1 rfl (lv_room (Nat.le_of_ble_eq_true rfl)) dX0_link_65 ⟨Nat.le_of_ble_eq_true rfl, Nat.le_of_ble_eq_true rfl⟩ (fun H locs hw => ?_)
      refine lv_aload_n hx hb dX0_link_68 rfl (lv_at hl 1 rfl) ?_
      refine lv_iload_n hx hb dX0_link_69 rfl (lv_at hl 3 rfl) ?_
      refine lv_iload_n hx hb dX0_link_70 rfl (lv_at hl 2 rfl) ?_
      refine rm_callV C hw hA (As := [.int (nI yn), .int (nI xn)]) (rest := []) (kX0_forget l k a ha (rm_forget (rm_up (rm_up σ (15 + xn) yn (pv)) (15 + yn) xn (pv)) xn yn) yn xn hyn hxn) (cwV 2 hts gX0_link_X0_forget rfl rfl rfl (by decide +kernel) ⟨Nat.le_of_ble_eq_true rfl, Nat.le_of_ble_eq_true rfl⟩) rfl hl.1 rfl (lv_room (Nat.le_of_ble_eq_true rfl)) dX0_link_71 ⟨Nat.le_of_ble_eq_true rfl, Nat.le_of_ble_eq_true rfl⟩ (fun H locs hw => ?_)
      refine lv_aload_n hx hb dX0_link_74 rfl (lv_at hl 1 rfl) ?_
      refine lv_iload_n hx hb dX0_link_75 rfl (lv_at hl 2 rfl) ?_
      refine rm_callV C hw hA (As := [.int (nI xn)]) (rest := []) (kX0_choose l k a ha (rm_forget (rm_forget (rm_up (rm_up σ (15 + xn) yn (pv)) (15 + yn) xn (pv)) xn yn) yn xn) xn hxn) (cwV 1 hts gX0_link_X0_choose rfl rfl rfl (by decide +kernel) ⟨Nat.le_of_ble_eq_true rfl, Nat.le_of_ble_eq_true rfl⟩) rfl hl.1 rfl (lv_room (Nat.le_of_ble_eq_true rfl)) dX0_link_76 ⟨Nat.le_of_ble_eq_true rfl, Nat.le_of_ble_eq_true rfl⟩ (fun H locs hw => ?_)
      refine lv_aload_n hx hb dX0_link_79 rfl (lv_at hl 1 rfl) ?_
      refine lv_iload_n hx hb dX0_link_80 rfl (lv_at hl 3 rfl) ?_
      refine rm_callV C hw hA (As := [.int (nI yn)]) (rest := []) (kX0_choose l k a ha (rm_choose (rm_forget (rm_forget (rm_up (rm_up σ (15 + xn) yn (pv)) (15 + yn) xn (pv)) xn yn) yn xn) xn) yn hyn) (cwV 1 hts gX0_link_X0_choose rfl rfl rfl (by decide +kernel) ⟨Nat.le_of_ble_eq_true rfl, Nat.le_of_ble_eq_true rfl⟩) rfl hl.1 rfl (lv_room (Nat.le_of_ble_eq_true rfl)) dX0_link_81 ⟨Nat.le_of_ble_eq_true rfl, Nat.le_of_ble_eq_true rfl⟩ (fun H locs hw => ?_)
      refine lv_iload hx hb dX0_link_84 (lv_at hl 0 rfl) ?_
      exact rm_xret C hr hlocks hw (Nat.le_of_ble_eq_true rfl) (Nat.le_of_ble_eq_true rfl) dX0_link_86 ⟨by first | (simp only [rm_tLink, c_1, rm_cl hxn, c_5, rm_cl hyn, if_neg c_10, c_27, if_pos c_59, ↓reduceIte, Bool.false_eq_true, rm_or_n, rm_or_s]; done) | (simp only [rm_tLink, c_1, rm_cl hxn, c_5, rm_cl hyn, if_neg c_10, c_27, if_pos c_59, ↓reduceIte, Bool.false_eq_true, rm_or_n, rm_or_s]; rfl), by first | with_reducible rfl | (simp only [rm_linkS, rm_lnk, c_1, rm_cl hxn, c_5, rm_cl hyn, if_neg c_10, c_27, if_pos c_59, ↓reduceIte, Bool.false_eq_true]; done) | (simp only [rm_linkS, rm_lnk, c_1, rm_cl hxn, c_5, rm_cl hyn, if_neg c_10, c_27, if_pos c_59, ↓reduceIte, Bool.false_eq_true]; rfl) | rfl, by first | with_reducible rfl | (simp only [rm_linkS, rm_lnk, c_1, rm_cl hxn, c_5, rm_cl hyn, if_neg c_10, c_27, if_pos c_59, ↓reduceIte, Bool.false_eq_true]; done) | (simp only [rm_linkS, rm_lnk, c_1, rm_cl hxn, c_5, rm_cl hyn, if_neg c_10, c_27, if_pos c_59, ↓reduceIte, Bool.false_eq_true]; rfl) | rfl⟩
  · skip
    exact rm_throwS C hfl hlocks htab hTh hw (by decide +kernel) (by decide +kernel) (by decide +kernel) hTh.2.2.1.1 (by decide +kernel) rm_nb2 hTh.2.2.2.2.2.2.2.1 rm_ot2 hl.1 dX0_link_13 dX0_link_16 dX0_link_17 dX0_link_19 dX0_link_22 (Nat.le_of_ble_eq_true rfl) (Nat.le_of_ble_eq_true rfl) (Nat.le_of_ble_eq_true rfl) (Nat.le_of_ble_eq_true rfl) (Nat.le_of_ble_eq_true rfl) (Nat.le_of_ble_eq_true rfl) (by first | (simp only [rm_tLink, c_1, rm_cl hxn, c_5, rm_cl hyn, if_pos c_10, ↓reduceIte, Bool.false_eq_true, rm_or_n, rm_or_s]; done) | (simp only [rm_tLink, c_1, rm_cl hxn, c_5, rm_cl hyn, if_pos c_10, ↓reduceIte, Bool.false_eq_true, rm_or_n, rm_or_s]; rfl))
set_option maxHeartbeats 4000000 in
set_option maxRecDepth 100000 in
theorem kX0_makeRoot (l : Launch) (hfl : l.stackTraces = false) (k : rm_K) (a : Nat → Nat) (ha : rm_inj a) (σ : rm_St) (x : Int32) : rm_XI l k a yX0_makeRoot wsX0_makeRoot ({ frames := 7, cells := 2, slots := 12, locals := 110 }) [.int x] σ (rm_tMake σ x) (rm_begin (rm_mk σ x.toNatClampNeg) x.toNatClampNeg 8 x.toNatClampNeg) (rm_begin (rm_mk σ x.toNatClampNeg) x.toNatClampNeg) := by
  refine rm_enterXI (cc := cX0_makeRoot) (nL := 2) (ret := (some .int)) ha (by decide) rfl rfl (by decide +kernel) (Nat.le_of_ble_eq_true rfl) ?_
  intro p e s m args below meth c ls C hr hlocks htab hTh hw hl
  have hx := C.1.1
  have hb := C.1.2.1
  have hts := C.1.2.2.2.2
  have hA : ∀ q, s.heap.size ≤ q → rm_A a s.heap.size q := fun q h => Or.inr h
  replace hl : lv_has ls 2 [(0, .ref (a 0)), (1, .int x)] := hl
  refine lv_iload_n hx hb dX0_makeRoot_0 rfl (lv_at hl 1 rfl) ?_
  refine rm_callXS C hlocks htab hTh hw (As := [.int x]) (rest := []) (kX0_requireNode l hfl (x)) (va_cwS 1 hts gX0_makeRoot_X0_requireNode rfl rfl rfl (by decide +kernel) ⟨Nat.le_of_ble_eq_true rfl, Nat.le_of_ble_eq_true rfl⟩) rfl hl.1 rfl (lv_room (Nat.le_of_ble_eq_true rfl)) dX0_makeRoot_1 ⟨Nat.le_of_ble_eq_true rfl, Nat.le_of_ble_eq_true rfl⟩ (Nat.le_of_ble_eq_true rfl) (Nat.le_of_ble_eq_true rfl) (fun E hE => by simp only [rm_tMake, hE, rm_or_n, rm_or_s, ↓reduceIte, Bool.false_eq_true]) (fun c_1 H locs hw => ?_)
  obtain ⟨xn, hxn, rfl⟩ := rm_tN_none c_1
  refine lv_aload_n hx hb dX0_makeRoot_4 rfl (lv_at hl 0 rfl) ?_
  refine rm_geta C hw 10 5 (by decide) rfl (hts _ (by decide +kernel)) rfl dX0_makeRoot_5 ?_
  refine lv_iload_n hx hb dX0_makeRoot_8 rfl (lv_at hl 1 rfl) ?_
  refine rm_zald C hw hxn dX0_makeRoot_9 ?_
  refine lv_if_eq (tgt := 23) hx hb dX0_makeRoot_10 (by decide) (fun c_10 => ?_) (fun c_10 => ?_)
  · skip
    refine lv_aload_n hx hb dX0_makeRoot_23 rfl (lv_at hl 0 rfl) ?_
    refine rm_geta C hw 10 5 (by decide) rfl (hts _ (by decide +kernel)) rfl dX0_makeRoot_24 ?_
    refine lv_iload_n hx hb dX0_makeRoot_27 rfl (lv_at hl 1 rfl) ?_
    refine lv_iconst (v := 1) hx hb dX0_makeRoot_28 (by decide) ?_
    refine rm_zast C hw hxn (by decide) dX0_makeRoot_29 (fun H locs hw => ?_)
    refine lv_aload_n hx hb dX0_makeRoot_30 rfl (lv_at hl 0 rfl) ?_
    refine rm_geta C hw 12 7 (by decide) rfl (hts _ (by decide +kernel)) rfl dX0_makeRoot_31 ?_
    refine lv_iload_n hx hb dX0_makeRoot_34 rfl (lv_at hl 1 rfl) ?_
    refine lv_iload_n hx hb dX0_makeRoot_35 rfl (lv_at hl 1 rfl) ?_
    refine rm_iast C hw (by decide) hxn dX0_makeRoot_36 (fun H locs hw => ?_)
    refine lv_aload_n hx hb dX0_makeRoot_37 rfl (lv_at hl 0 rfl) ?_
    refine rm_geta C hw 14 9 (by decide) rfl (hts _ (by decide +kernel)) rfl dX0_makeRoot_38 ?_
    refine lv_iload_n hx hb dX0_makeRoot_41 rfl (lv_at hl 1 rfl) ?_
    refine lv_iconst (v := 0) hx hb dX0_makeRoot_42 (by decide) ?_
    refine rm_iast C hw (by decide) hxn dX0_makeRoot_43 (fun H locs hw => ?_)
    refine lv_aload_n hx hb dX0_makeRoot_44 rfl (lv_at hl 0 rfl) ?_
    refine rm_geta C hw 15 10 (by decide) rfl (hts _ (by decide +kernel)) rfl dX0_makeRoot_45 ?_
    refine lv_iload_n hx hb dX0_makeRoot_48 rfl (lv_at hl 1 rfl) ?_
    refine lv_iconst (v := 0) hx hb dX0_makeRoot_49 (by decide) ?_
    refine rm_iast C hw (by decide) hxn dX0_makeRoot_50 (fun H locs hw => ?_)
    refine lv_aload_n hx hb dX0_makeRoot_51 rfl (lv_at hl 0 rfl) ?_
    refine rm_geta C hw 16 11 (by decide) rfl (hts _ (by decide +kernel)) rfl dX0_makeRoot_52 ?_
    refine lv_iload_n hx hb dX0_makeRoot_55 rfl (lv_at hl 1 rfl) ?_
    refine lv_iconst (v := (-1)) hx hb dX0_makeRoot_56 (by decide) ?_
    refine rm_iast C hw (by decide) hxn dX0_makeRoot_57 (fun H locs hw => ?_)
    refine lv_aload_n hx hb dX0_makeRoot_58 rfl (lv_at hl 0 rfl) ?_
    refine lv_iload_n hx hb dX0_makeRoot_59 rfl (lv_at hl 1 rfl) ?_
    refine rm_callI C hw hA (As := [.int (nI xn)]) (rest := []) (kX0_beginVersion l k a ha (rm_up (rm_up (rm_up (rm_up (rm_up σ 5 xn (1)) 7 xn (nI xn)) 9 xn (0)) 10 xn (0)) 11 xn ((-1))) xn hxn) (cwV 1 hts gX0_makeRoot_X0_beginVersion rfl rfl rfl (by decide +kernel) ⟨Nat.le_of_ble_eq_true rfl, Nat.le_of_ble_eq_true rfl⟩) rfl hl.1 rfl (lv_room (Nat.le_of_ble_eq_true rfl)) dX0_makeRoot_60 ⟨Nat.le_of_ble_eq_true rfl, Nat.le_of_ble_eq_true rfl⟩ (fun H locs hw => ?_)
    exact rm_xret C hr hlocks hw (Nat.le_of_ble_eq_true rfl) (Nat.le_of_ble_eq_true rfl) dX0_makeRoot_63 ⟨by first | (simp only [rm_tMake, c_1, rm_cl hxn, if_pos c_10, ↓reduceIte, Bool.false_eq_true, rm_or_n, rm_or_s]; done) | (simp only [rm_tMake, c_1, rm_cl hxn, if_pos c_10, ↓reduceIte, Bool.false_eq_true, rm_or_n, rm_or_s]; rfl), by first | with_reducible rfl | (simp only [rm_mk, c_1, rm_cl hxn, if_pos c_10, ↓reduceIte, Bool.false_eq_true]; done) | (simp only [rm_mk, c_1, rm_cl hxn, if_pos c_10, ↓reduceIte, Bool.false_eq_true]; rfl) | rfl, by first | with_reducible rfl | (simp only [rm_mk, c_1, rm_cl hxn, if_pos c_10, ↓reduceIte, Bool.false_eq_true]; done) | (simp only [rm_mk, c_1, rm_cl hxn, if_pos c_10, ↓reduceIte, Bool.false_eq_true]; rfl) | rfl⟩
  · skip
    exact rm_throwS C hfl hlocks htab hTh hw (by decide +kernel) (by decide +kernel) (by decide +kernel) hTh.2.2.1.2.1 (by decide +kernel) rm_nb3 hTh.2.2.2.2.2.2.2.2 rm_ot3 hl.1 dX0_makeRoot_13 dX0_makeRoot_16 dX0_makeRoot_17 dX0_makeRoot_19 dX0_makeRoot_22 (Nat.le_of_ble_eq_true rfl) (Nat.le_of_ble_eq_true rfl) (Nat.le_of_ble_eq_true rfl) (Nat.le_of_ble_eq_true rfl) (Nat.le_of_ble_eq_true rfl) (Nat.le_of_ble_eq_true rfl) (by first | (simp only [rm_tMake, c_1, rm_cl hxn, if_neg c_10, ↓reduceIte, Bool.false_eq_true, rm_or_n, rm_or_s]; done) | (simp only [rm_tMake, c_1, rm_cl hxn, if_neg c_10, ↓reduceIte, Bool.false_eq_true, rm_or_n, rm_or_s]; rfl))
set_option maxHeartbeats 4000000 in
set_option maxRecDepth 100000 in
theorem kX0_endRoot (l : Launch) (hfl : l.stackTraces = false) (k : rm_K) (a : Nat → Nat) (ha : rm_inj a) (σ : rm_St) (x : Int32) : rm_XV l k a yX0_endRoot wsX0_endRoot ({ frames := 8, cells := 2, slots := 12, locals := 131 }) [.int x] σ (rm_tRoot σ x)  (rm_choose (rm_reset (rm_clear (rm_up σ 5 x.toNatClampNeg 0) x.toNatClampNeg) x.toNatClampNeg) x.toNatClampNeg) := by
  refine rm_enterXV (cc := cX0_endRoot) (nL := 2) (ret := none) ha (by decide) rfl rfl (by decide +kernel) (Nat.le_of_ble_eq_true rfl) ?_
  intro p e s m args below meth c ls C hr hlocks htab hTh hw hl
  have hx := C.1.1
  have hb := C.1.2.1
  have hts := C.1.2.2.2.2
  have hA : ∀ q, s.heap.size ≤ q → rm_A a s.heap.size q := fun q h => Or.inr h
  replace hl : lv_has ls 2 [(0, .ref (a 0)), (1, .int x)] := hl
  refine lv_aload_n hx hb dX0_endRoot_0 rfl (lv_at hl 0 rfl) ?_
  refine lv_iload_n hx hb dX0_endRoot_1 rfl (lv_at hl 1 rfl) ?_
  refine rm_callXV C hlocks htab hTh hw (As := [.int x]) (rest := []) (kX0_requireRoot l hfl k a ha σ (x)) (cwV 1 hts gX0_endRoot_X0_requireRoot rfl rfl rfl (by decide +kernel) ⟨Nat.le_of_ble_eq_true rfl, Nat.le_of_ble_eq_true rfl⟩) rfl hl.1 rfl (lv_room (Nat.le_of_ble_eq_true rfl)) dX0_endRoot_2 ⟨Nat.le_of_ble_eq_true rfl, Nat.le_of_ble_eq_true rfl⟩ (Nat.le_of_ble_eq_true rfl) (Nat.le_of_ble_eq_true rfl) (fun E hE => by simp only [hE, rm_or_n, rm_or_s, ↓reduceIte, Bool.false_eq_true]) (fun c_2 H locs hw => ?_)
  obtain ⟨xn, hxn, rfl⟩ := rm_tRoot_none c_2
  refine lv_aload_n hx hb dX0_endRoot_5 rfl (lv_at hl 0 rfl) ?_
  refine rm_geta C hw 10 5 (by decide) rfl (hts _ (by decide +kernel)) rfl dX0_endRoot_6 ?_
  refine lv_iload_n hx hb dX0_endRoot_9 rfl (lv_at hl 1 rfl) ?_
  refine lv_iconst (v := 0) hx hb dX0_endRoot_10 (by decide) ?_
  refine rm_zast C hw hxn (by decide) dX0_endRoot_11 (fun H locs hw => ?_)
  refine lv_aload_n hx hb dX0_endRoot_12 rfl (lv_at hl 0 rfl) ?_
  refine lv_iload_n hx hb dX0_endRoot_13 rfl (lv_at hl 1 rfl) ?_
  refine rm_callV C hw hA (As := [.int (nI xn)]) (rest := []) (kX0_clearNode l k a ha (rm_up σ 5 xn (0)) xn hxn) (cwV 1 hts gX0_endRoot_X0_clearNode rfl rfl rfl (by decide +kernel) ⟨Nat.le_of_ble_eq_true rfl, Nat.le_of_ble_eq_true rfl⟩) rfl hl.1 rfl (lv_room (Nat.le_of_ble_eq_true rfl)) dX0_endRoot_14 ⟨Nat.le_of_ble_eq_true rfl, Nat.le_of_ble_eq_true rfl⟩ (fun H locs hw => ?_)
  refine lv_aload_n hx hb dX0_endRoot_17 rfl (lv_at hl 0 rfl) ?_
  refine lv_iload_n hx hb dX0_endRoot_18 rfl (lv_at hl 1 rfl) ?_
  refine rm_callV C hw hA (As := [.int (nI xn)]) (rest := []) (kX0_resetTimer l k a ha (rm_clear (rm_up σ 5 xn (0)) xn) xn hxn) (cwV 1 hts gX0_endRoot_X0_resetTimer rfl rfl rfl (by decide +kernel) ⟨Nat.le_of_ble_eq_true rfl, Nat.le_of_ble_eq_true rfl⟩) rfl hl.1 rfl (lv_room (Nat.le_of_ble_eq_true rfl)) dX0_endRoot_19 ⟨Nat.le_of_ble_eq_true rfl, Nat.le_of_ble_eq_true rfl⟩ (fun H locs hw => ?_)
  refine lv_aload_n hx hb dX0_endRoot_22 rfl (lv_at hl 0 rfl) ?_
  refine lv_iload_n hx hb dX0_endRoot_23 rfl (lv_at hl 1 rfl) ?_
  refine rm_callV C hw hA (As := [.int (nI xn)]) (rest := []) (kX0_choose l k a ha (rm_reset (rm_clear (rm_up σ 5 xn (0)) xn) xn) xn hxn) (cwV 1 hts gX0_endRoot_X0_choose rfl rfl rfl (by decide +kernel) ⟨Nat.le_of_ble_eq_true rfl, Nat.le_of_ble_eq_true rfl⟩) rfl hl.1 rfl (lv_room (Nat.le_of_ble_eq_true rfl)) dX0_endRoot_24 ⟨Nat.le_of_ble_eq_true rfl, Nat.le_of_ble_eq_true rfl⟩ (fun H locs hw => ?_)
  exact rm_xvret C hr hlocks hw (Nat.le_of_ble_eq_true rfl) (Nat.le_of_ble_eq_true rfl) dX0_endRoot_27 ⟨by first | (simp only [c_2, rm_cl hxn, ↓reduceIte, Bool.false_eq_true, rm_or_n, rm_or_s]; done) | (simp only [c_2, rm_cl hxn, ↓reduceIte, Bool.false_eq_true, rm_or_n, rm_or_s]; rfl), by first | with_reducible rfl | (simp only [c_2, rm_cl hxn, ↓reduceIte, Bool.false_eq_true]; done) | (simp only [c_2, rm_cl hxn, ↓reduceIte, Bool.false_eq_true]; rfl) | rfl⟩
set_option maxHeartbeats 4000000 in
set_option maxRecDepth 100000 in
theorem kX0_renew (l : Launch) (hfl : l.stackTraces = false) (k : rm_K) (a : Nat → Nat) (ha : rm_inj a) (σ : rm_St) (x : Int32) : rm_XI l k a yX0_renew wsX0_renew ({ frames := 8, cells := 2, slots := 12, locals := 131 }) [.int x] σ (rm_tRoot σ x) (rm_begin σ x.toNatClampNeg 8 x.toNatClampNeg) (rm_begin σ x.toNatClampNeg) := by
  refine rm_enterXI (cc := cX0_renew) (nL := 2) (ret := (some .int)) ha (by decide) rfl rfl (by decide +kernel) (Nat.le_of_ble_eq_true rfl) ?_
  intro p e s m args below meth c ls C hr hlocks htab hTh hw hl
  have hx := C.1.1
  have hb := C.1.2.1
  have hts := C.1.2.2.2.2
  have hA : ∀ q, s.heap.size ≤ q → rm_A a s.heap.size q := fun q h => Or.inr h
  replace hl : lv_has ls 2 [(0, .ref (a 0)), (1, .int x)] := hl
  refine lv_aload_n hx hb dX0_renew_0 rfl (lv_at hl 0 rfl) ?_
  refine lv_iload_n hx hb dX0_renew_1 rfl (lv_at hl 1 rfl) ?_
  refine rm_callXV C hlocks htab hTh hw (As := [.int x]) (rest := []) (kX0_requireRoot l hfl k a ha σ (x)) (cwV 1 hts gX0_renew_X0_requireRoot rfl rfl rfl (by decide +kernel) ⟨Nat.le_of_ble_eq_true rfl, Nat.le_of_ble_eq_true rfl⟩) rfl hl.1 rfl (lv_room (Nat.le_of_ble_eq_true rfl)) dX0_renew_2 ⟨Nat.le_of_ble_eq_true rfl, Nat.le_of_ble_eq_true rfl⟩ (Nat.le_of_ble_eq_true rfl) (Nat.le_of_ble_eq_true rfl) (fun E hE => by simp only [hE, rm_or_n, rm_or_s, ↓reduceIte, Bool.false_eq_true]) (fun c_2 H locs hw => ?_)
  obtain ⟨xn, hxn, rfl⟩ := rm_tRoot_none c_2
  refine lv_aload_n hx hb dX0_renew_5 rfl (lv_at hl 0 rfl) ?_
  refine lv_iload_n hx hb dX0_renew_6 rfl (lv_at hl 1 rfl) ?_
  refine rm_callI C hw hA (As := [.int (nI xn)]) (rest := []) (kX0_beginVersion l k a ha σ xn hxn) (cwV 1 hts gX0_renew_X0_beginVersion rfl rfl rfl (by decide +kernel) ⟨Nat.le_of_ble_eq_true rfl, Nat.le_of_ble_eq_true rfl⟩) rfl hl.1 rfl (lv_room (Nat.le_of_ble_eq_true rfl)) dX0_renew_7 ⟨Nat.le_of_ble_eq_true rfl, Nat.le_of_ble_eq_true rfl⟩ (fun H locs hw => ?_)
  exact rm_xret C hr hlocks hw (Nat.le_of_ble_eq_true rfl) (Nat.le_of_ble_eq_true rfl) dX0_renew_10 ⟨by first | (simp only [c_2, rm_cl hxn, ↓reduceIte, Bool.false_eq_true, rm_or_n, rm_or_s]; done) | (simp only [c_2, rm_cl hxn, ↓reduceIte, Bool.false_eq_true, rm_or_n, rm_or_s]; rfl), by first | with_reducible rfl | (simp only [c_2, rm_cl hxn, ↓reduceIte, Bool.false_eq_true]; done) | (simp only [c_2, rm_cl hxn, ↓reduceIte, Bool.false_eq_true]; rfl) | rfl, by first | with_reducible rfl | (simp only [c_2, rm_cl hxn, ↓reduceIte, Bool.false_eq_true]; done) | (simp only [c_2, rm_cl hxn, ↓reduceIte, Bool.false_eq_true]; rfl) | rfl⟩
set_option maxHeartbeats 4000000 in
set_option maxRecDepth 100000 in
theorem kX0_rank (l : Launch) (hfl : l.stackTraces = false) (k : rm_K) (a : Nat → Nat) (ha : rm_inj a) (σ : rm_St) (x : Int32) : rm_XI l k a yX0_rank wsX0_rank ({ frames := 7, cells := 1, slots := 6, locals := 110 }) [.int x] σ (rm_tN x) (σ 9 x.toNatClampNeg) σ := by
  refine rm_enterXI (cc := cX0_rank) (nL := 2) (ret := (some .int)) ha (by decide) rfl rfl (by decide +kernel) (Nat.le_of_ble_eq_true rfl) ?_
  intro p e s m args below meth c ls C hr hlocks htab hTh hw hl
  have hx := C.1.1
  have hb := C.1.2.1
  have hts := C.1.2.2.2.2
  have hA : ∀ q, s.heap.size ≤ q → rm_A a s.heap.size q := fun q h => Or.inr h
  replace hl : lv_has ls 2 [(0, .ref (a 0)), (1, .int x)] := hl
  refine lv_iload_n hx hb dX0_rank_0 rfl (lv_at hl 1 rfl) ?_
  refine rm_callXS C hlocks htab hTh hw (As := [.int x]) (rest := []) (kX0_requireNode l hfl (x)) (va_cwS 1 hts gX0_rank_X0_requireNode rfl rfl rfl (by decide +kernel) ⟨Nat.le_of_ble_eq_true rfl, Nat.le_of_ble_eq_true rfl⟩) rfl hl.1 rfl (lv_room (Nat.le_of_ble_eq_true rfl)) dX0_rank_1 ⟨Nat.le_of_ble_eq_true rfl, Nat.le_of_ble_eq_true rfl⟩ (Nat.le_of_ble_eq_true rfl) (Nat.le_of_ble_eq_true rfl) (fun E hE => by simp only [hE, rm_or_n, rm_or_s, ↓reduceIte, Bool.false_eq_true]) (fun c_1 H locs hw => ?_)
  obtain ⟨xn, hxn, rfl⟩ := rm_tN_none c_1
  refine lv_aload_n hx hb dX0_rank_4 rfl (lv_at hl 0 rfl) ?_
  refine rm_geta C hw 14 9 (by decide) rfl (hts _ (by decide +kernel)) rfl dX0_rank_5 ?_
  refine lv_iload_n hx hb dX0_rank_8 rfl (lv_at hl 1 rfl) ?_
  refine rm_iald C hw (by decide) hxn dX0_rank_9 ?_
  exact rm_xret C hr hlocks hw (Nat.le_of_ble_eq_true rfl) (Nat.le_of_ble_eq_true rfl) dX0_rank_10 ⟨by first | (simp only [c_1, rm_cl hxn, ↓reduceIte, Bool.false_eq_true, rm_or_n, rm_or_s]; done) | (simp only [c_1, rm_cl hxn, ↓reduceIte, Bool.false_eq_true, rm_or_n, rm_or_s]; rfl), by first | with_reducible rfl | (simp only [c_1, rm_cl hxn, ↓reduceIte, Bool.false_eq_true]; done) | (simp only [c_1, rm_cl hxn, ↓reduceIte, Bool.false_eq_true]; rfl) | rfl, by first | with_reducible rfl | (simp only [c_1, rm_cl hxn, ↓reduceIte, Bool.false_eq_true]; done) | (simp only [c_1, rm_cl hxn, ↓reduceIte, Bool.false_eq_true]; rfl) | rfl⟩
set_option maxHeartbeats 4000000 in
set_option maxRecDepth 100000 in
theorem kX0_parent (l : Launch) (hfl : l.stackTraces = false) (k : rm_K) (a : Nat → Nat) (ha : rm_inj a) (σ : rm_St) (x : Int32) : rm_XI l k a yX0_parent wsX0_parent ({ frames := 7, cells := 1, slots := 6, locals := 110 }) [.int x] σ (rm_tN x) (σ 11 x.toNatClampNeg) σ := by
  refine rm_enterXI (cc := cX0_parent) (nL := 2) (ret := (some .int)) ha (by decide) rfl rfl (by decide +kernel) (Nat.le_of_ble_eq_true rfl) ?_
  intro p e s m args below meth c ls C hr hlocks htab hTh hw hl
  have hx := C.1.1
  have hb := C.1.2.1
  have hts := C.1.2.2.2.2
  have hA : ∀ q, s.heap.size ≤ q → rm_A a s.heap.size q := fun q h => Or.inr h
  replace hl : lv_has ls 2 [(0, .ref (a 0)), (1, .int x)] := hl
  refine lv_iload_n hx hb dX0_parent_0 rfl (lv_at hl 1 rfl) ?_
  refine rm_callXS C hlocks htab hTh hw (As := [.int x]) (rest := []) (kX0_requireNode l hfl (x)) (va_cwS 1 hts gX0_parent_X0_requireNode rfl rfl rfl (by decide +kernel) ⟨Nat.le_of_ble_eq_true rfl, Nat.le_of_ble_eq_true rfl⟩) rfl hl.1 rfl (lv_room (Nat.le_of_ble_eq_true rfl)) dX0_parent_1 ⟨Nat.le_of_ble_eq_true rfl, Nat.le_of_ble_eq_true rfl⟩ (Nat.le_of_ble_eq_true rfl) (Nat.le_of_ble_eq_true rfl) (fun E hE => by simp only [hE, rm_or_n, rm_or_s, ↓reduceIte, Bool.false_eq_true]) (fun c_1 H locs hw => ?_)
  obtain ⟨xn, hxn, rfl⟩ := rm_tN_none c_1
  refine lv_aload_n hx hb dX0_parent_4 rfl (lv_at hl 0 rfl) ?_
  refine rm_geta C hw 16 11 (by decide) rfl (hts _ (by decide +kernel)) rfl dX0_parent_5 ?_
  refine lv_iload_n hx hb dX0_parent_8 rfl (lv_at hl 1 rfl) ?_
  refine rm_iald C hw (by decide) hxn dX0_parent_9 ?_
  exact rm_xret C hr hlocks hw (Nat.le_of_ble_eq_true rfl) (Nat.le_of_ble_eq_true rfl) dX0_parent_10 ⟨by first | (simp only [c_1, rm_cl hxn, ↓reduceIte, Bool.false_eq_true, rm_or_n, rm_or_s]; done) | (simp only [c_1, rm_cl hxn, ↓reduceIte, Bool.false_eq_true, rm_or_n, rm_or_s]; rfl), by first | with_reducible rfl | (simp only [c_1, rm_cl hxn, ↓reduceIte, Bool.false_eq_true]; done) | (simp only [c_1, rm_cl hxn, ↓reduceIte, Bool.false_eq_true]; rfl) | rfl, by first | with_reducible rfl | (simp only [c_1, rm_cl hxn, ↓reduceIte, Bool.false_eq_true]; done) | (simp only [c_1, rm_cl hxn, ↓reduceIte, Bool.false_eq_true]; rfl) | rfl⟩
set_option maxHeartbeats 4000000 in
set_option maxRecDepth 100000 in
theorem kX0_nextTelling (l : Launch) (hfl : l.stackTraces = false) (k : rm_K) (a : Nat → Nat) (ha : rm_inj a) (σ : rm_St) (x : Int32) : rm_XI l k a yX0_nextTelling wsX0_nextTelling ({ frames := 7, cells := 1, slots := 6, locals := 110 }) [.int x] σ (rm_tN x) (σ 13 x.toNatClampNeg) σ := by
  refine rm_enterXI (cc := cX0_nextTelling) (nL := 2) (ret := (some .int)) ha (by decide) rfl rfl (by decide +kernel) (Nat.le_of_ble_eq_true rfl) ?_
  intro p e s m args below meth c ls C hr hlocks htab hTh hw hl
  have hx := C.1.1
  have hb := C.1.2.1
  have hts := C.1.2.2.2.2
  have hA : ∀ q, s.heap.size ≤ q → rm_A a s.heap.size q := fun q h => Or.inr h
  replace hl : lv_has ls 2 [(0, .ref (a 0)), (1, .int x)] := hl
  refine lv_iload_n hx hb dX0_nextTelling_0 rfl (lv_at hl 1 rfl) ?_
  refine rm_callXS C hlocks htab hTh hw (As := [.int x]) (rest := []) (kX0_requireNode l hfl (x)) (va_cwS 1 hts gX0_nextTelling_X0_requireNode rfl rfl rfl (by decide +kernel) ⟨Nat.le_of_ble_eq_true rfl, Nat.le_of_ble_eq_true rfl⟩) rfl hl.1 rfl (lv_room (Nat.le_of_ble_eq_true rfl)) dX0_nextTelling_1 ⟨Nat.le_of_ble_eq_true rfl, Nat.le_of_ble_eq_true rfl⟩ (Nat.le_of_ble_eq_true rfl) (Nat.le_of_ble_eq_true rfl) (fun E hE => by simp only [hE, rm_or_n, rm_or_s, ↓reduceIte, Bool.false_eq_true]) (fun c_1 H locs hw => ?_)
  obtain ⟨xn, hxn, rfl⟩ := rm_tN_none c_1
  refine lv_aload_n hx hb dX0_nextTelling_4 rfl (lv_at hl 0 rfl) ?_
  refine rm_geta C hw 18 13 (by decide) rfl (hts _ (by decide +kernel)) rfl dX0_nextTelling_5 ?_
  refine lv_iload_n hx hb dX0_nextTelling_8 rfl (lv_at hl 1 rfl) ?_
  refine rm_iald C hw (by decide) hxn dX0_nextTelling_9 ?_
  exact rm_xret C hr hlocks hw (Nat.le_of_ble_eq_true rfl) (Nat.le_of_ble_eq_true rfl) dX0_nextTelling_10 ⟨by first | (simp only [c_1, rm_cl hxn, ↓reduceIte, Bool.false_eq_true, rm_or_n, rm_or_s]; done) | (simp only [c_1, rm_cl hxn, ↓reduceIte, Bool.false_eq_true, rm_or_n, rm_or_s]; rfl), by first | with_reducible rfl | (simp only [c_1, rm_cl hxn, ↓reduceIte, Bool.false_eq_true]; done) | (simp only [c_1, rm_cl hxn, ↓reduceIte, Bool.false_eq_true]; rfl) | rfl, by first | with_reducible rfl | (simp only [c_1, rm_cl hxn, ↓reduceIte, Bool.false_eq_true]; done) | (simp only [c_1, rm_cl hxn, ↓reduceIte, Bool.false_eq_true]; rfl) | rfl⟩
set_option maxHeartbeats 4000000 in
set_option maxRecDepth 100000 in
theorem kX0_tree (l : Launch) (hfl : l.stackTraces = false) (k : rm_K) (a : Nat → Nat) (ha : rm_inj a) (σ : rm_St) (x : Int32) : rm_XI l k a yX0_tree wsX0_tree ({ frames := 7, cells := 1, slots := 6, locals := 110 }) [.int x] σ (rm_tN x) (rm_tree σ x) σ := by
  refine rm_enterXI (cc := cX0_tree) (nL := 2) (ret := (some .int)) ha (by decide) rfl rfl (by decide +kernel) (Nat.le_of_ble_eq_true rfl) ?_
  intro p e s m args below meth c ls C hr hlocks htab hTh hw hl
  have hx := C.1.1
  have hb := C.1.2.1
  have hts := C.1.2.2.2.2
  have hA : ∀ q, s.heap.size ≤ q → rm_A a s.heap.size q := fun q h => Or.inr h
  replace hl : lv_has ls 2 [(0, .ref (a 0)), (1, .int x)] := hl
  refine lv_iload_n hx hb dX0_tree_0 rfl (lv_at hl 1 rfl) ?_
  refine rm_callXS C hlocks htab hTh hw (As := [.int x]) (rest := []) (kX0_requireNode l hfl (x)) (va_cwS 1 hts gX0_tree_X0_requireNode rfl rfl rfl (by decide +kernel) ⟨Nat.le_of_ble_eq_true rfl, Nat.le_of_ble_eq_true rfl⟩) rfl hl.1 rfl (lv_room (Nat.le_of_ble_eq_true rfl)) dX0_tree_1 ⟨Nat.le_of_ble_eq_true rfl, Nat.le_of_ble_eq_true rfl⟩ (Nat.le_of_ble_eq_true rfl) (Nat.le_of_ble_eq_true rfl) (fun E hE => by simp only [hE, rm_or_n, rm_or_s, ↓reduceIte, Bool.false_eq_true]) (fun c_1 H locs hw => ?_)
  obtain ⟨xn, hxn, rfl⟩ := rm_tN_none c_1
  refine lv_aload_n hx hb dX0_tree_4 rfl (lv_at hl 0 rfl) ?_
  refine rm_geta C hw 12 7 (by decide) rfl (hts _ (by decide +kernel)) rfl dX0_tree_5 ?_
  refine lv_iload_n hx hb dX0_tree_8 rfl (lv_at hl 1 rfl) ?_
  refine rm_iald C hw (by decide) hxn dX0_tree_9 ?_
  refine lv_iconst (v := (-1)) hx hb dX0_tree_10 (by decide) ?_
  refine lv_icmp_ne (tgt := 18) hx hb dX0_tree_11 (by decide) (fun c_11 => ?_) (fun c_11 => ?_)
  · skip
    refine lv_bipush (v := 10) hx hb dX0_tree_18 (by decide) ?_
    refine lv_aload_n hx hb dX0_tree_20 rfl (lv_at hl 0 rfl) ?_
    refine rm_geta C hw 13 8 (by decide) rfl (hts _ (by decide +kernel)) rfl dX0_tree_21 ?_
    refine lv_iload_n hx hb dX0_tree_24 rfl (lv_at hl 1 rfl) ?_
    refine rm_iald C hw (by decide) hxn dX0_tree_25 ?_
    refine lv_imul hx hb dX0_tree_26 ?_
    refine lv_aload_n hx hb dX0_tree_27 rfl (lv_at hl 0 rfl) ?_
    refine rm_geta C hw 12 7 (by decide) rfl (hts _ (by decide +kernel)) rfl dX0_tree_28 ?_
    refine lv_iload_n hx hb dX0_tree_31 rfl (lv_at hl 1 rfl) ?_
    refine rm_iald C hw (by decide) hxn dX0_tree_32 ?_
    refine lv_iadd hx hb dX0_tree_33 ?_
    exact rm_xret C hr hlocks hw (Nat.le_of_ble_eq_true rfl) (Nat.le_of_ble_eq_true rfl) dX0_tree_34 ⟨by first | (simp only [c_1, rm_cl hxn, if_neg c_11, ↓reduceIte, Bool.false_eq_true, rm_or_n, rm_or_s]; done) | (simp only [c_1, rm_cl hxn, if_neg c_11, ↓reduceIte, Bool.false_eq_true, rm_or_n, rm_or_s]; rfl), by first | with_reducible rfl | (simp only [rm_tree, c_1, rm_cl hxn, if_neg c_11, ↓reduceIte, Bool.false_eq_true]; done) | (simp only [rm_tree, c_1, rm_cl hxn, if_neg c_11, ↓reduceIte, Bool.false_eq_true]; rfl) | rfl, by first | with_reducible rfl | (simp only [rm_tree, c_1, rm_cl hxn, if_neg c_11, ↓reduceIte, Bool.false_eq_true]; done) | (simp only [rm_tree, c_1, rm_cl hxn, if_neg c_11, ↓reduceIte, Bool.false_eq_true]; rfl) | rfl⟩
  · skip
    refine lv_iconst (v := (-1)) hx hb dX0_tree_14 (by decide) ?_
    refine lv_goto (tgt := 34) hx hb dX0_tree_15 (by decide) ?_
    exact rm_xret C hr hlocks hw (Nat.le_of_ble_eq_true rfl) (Nat.le_of_ble_eq_true rfl) dX0_tree_34 ⟨by first | (simp only [c_1, rm_cl hxn, if_pos c_11, ↓reduceIte, Bool.false_eq_true, rm_or_n, rm_or_s]; done) | (simp only [c_1, rm_cl hxn, if_pos c_11, ↓reduceIte, Bool.false_eq_true, rm_or_n, rm_or_s]; rfl), by first | with_reducible rfl | (simp only [rm_tree, c_1, rm_cl hxn, if_pos c_11, ↓reduceIte, Bool.false_eq_true]; done) | (simp only [rm_tree, c_1, rm_cl hxn, if_pos c_11, ↓reduceIte, Bool.false_eq_true]; rfl) | rfl, by first | with_reducible rfl | (simp only [rm_tree, c_1, rm_cl hxn, if_pos c_11, ↓reduceIte, Bool.false_eq_true]; done) | (simp only [rm_tree, c_1, rm_cl hxn, if_pos c_11, ↓reduceIte, Bool.false_eq_true]; rfl) | rfl⟩
set_option maxHeartbeats 4000000 in
set_option maxRecDepth 100000 in
theorem kX0_heard (l : Launch) (hfl : l.stackTraces = false) (k : rm_K) (a : Nat → Nat) (ha : rm_inj a) (σ : rm_St) (x : Int32) (y : Int32) : rm_XI l k a yX0_heard wsX0_heard ({ frames := 7, cells := 2, slots := 12, locals := 110 }) [.int x, .int y] σ (rm_t2 x y) (σ (45 + x.toNatClampNeg) y.toNatClampNeg) σ := by
  refine rm_enterXI (cc := cX0_heard) (nL := 3) (ret := (some .int)) ha (by decide) rfl rfl (by decide +kernel) (Nat.le_of_ble_eq_true rfl) ?_
  intro p e s m args below meth c ls C hr hlocks htab hTh hw hl
  have hx := C.1.1
  have hb := C.1.2.1
  have hts := C.1.2.2.2.2
  have hA : ∀ q, s.heap.size ≤ q → rm_A a s.heap.size q := fun q h => Or.inr h
  replace hl : lv_has ls 3 [(0, .ref (a 0)), (1, .int x), (2, .int y)] := hl
  refine lv_iload_n hx hb dX0_heard_0 rfl (lv_at hl 1 rfl) ?_
  refine rm_callXS C hlocks htab hTh hw (As := [.int x]) (rest := []) (kX0_requireNode l hfl (x)) (va_cwS 1 hts gX0_heard_X0_requireNode rfl rfl rfl (by decide +kernel) ⟨Nat.le_of_ble_eq_true rfl, Nat.le_of_ble_eq_true rfl⟩) rfl hl.1 rfl (lv_room (Nat.le_of_ble_eq_true rfl)) dX0_heard_1 ⟨Nat.le_of_ble_eq_true rfl, Nat.le_of_ble_eq_true rfl⟩ (Nat.le_of_ble_eq_true rfl) (Nat.le_of_ble_eq_true rfl) (fun E hE => by simp only [rm_t2, hE, rm_or_n, rm_or_s, ↓reduceIte, Bool.false_eq_true]) (fun c_1 H locs hw => ?_)
  obtain ⟨xn, hxn, rfl⟩ := rm_tN_none c_1
  refine lv_iload_n hx hb dX0_heard_4 rfl (lv_at hl 2 rfl) ?_
  refine rm_callXS C hlocks htab hTh hw (As := [.int y]) (rest := []) (kX0_requireNode l hfl (y)) (va_cwS 1 hts gX0_heard_X0_requireNode rfl rfl rfl (by decide +kernel) ⟨Nat.le_of_ble_eq_true rfl, Nat.le_of_ble_eq_true rfl⟩) rfl hl.1 rfl (lv_room (Nat.le_of_ble_eq_true rfl)) dX0_heard_5 ⟨Nat.le_of_ble_eq_true rfl, Nat.le_of_ble_eq_true rfl⟩ (Nat.le_of_ble_eq_true rfl) (Nat.le_of_ble_eq_true rfl) (fun E hE => by simp only [rm_t2, hE, rm_or_n, rm_or_s, c_1, rm_cl hxn, ↓reduceIte, Bool.false_eq_true]) (fun c_5 H locs hw => ?_)
  obtain ⟨yn, hyn, rfl⟩ := rm_tN_none c_5
  refine lv_aload_n hx hb dX0_heard_8 rfl (lv_at hl 0 rfl) ?_
  refine rm_geta C hw 9 4 (by decide) rfl (hts _ (by decide +kernel)) rfl dX0_heard_9 ?_
  refine lv_iload_n hx hb dX0_heard_12 rfl (lv_at hl 1 rfl) ?_
  refine rm_aald C hw 45 (by decide) hxn dX0_heard_13 ?_
  refine lv_iload_n hx hb dX0_heard_14 rfl (lv_at hl 2 rfl) ?_
  refine rm_iald C hw ⟨by omega, by omega⟩ hyn dX0_heard_15 ?_
  exact rm_xret C hr hlocks hw (Nat.le_of_ble_eq_true rfl) (Nat.le_of_ble_eq_true rfl) dX0_heard_16 ⟨by first | (simp only [rm_t2, c_1, rm_cl hxn, c_5, rm_cl hyn, ↓reduceIte, Bool.false_eq_true, rm_or_n, rm_or_s]; done) | (simp only [rm_t2, c_1, rm_cl hxn, c_5, rm_cl hyn, ↓reduceIte, Bool.false_eq_true, rm_or_n, rm_or_s]; rfl), by first | with_reducible rfl | (simp only [c_1, rm_cl hxn, c_5, rm_cl hyn, ↓reduceIte, Bool.false_eq_true]; done) | (simp only [c_1, rm_cl hxn, c_5, rm_cl hyn, ↓reduceIte, Bool.false_eq_true]; rfl) | rfl, by first | with_reducible rfl | (simp only [c_1, rm_cl hxn, c_5, rm_cl hyn, ↓reduceIte, Bool.false_eq_true]; done) | (simp only [c_1, rm_cl hxn, c_5, rm_cl hyn, ↓reduceIte, Bool.false_eq_true]; rfl) | rfl⟩

set_option maxHeartbeats 4000000 in
set_option maxRecDepth 100000 in
theorem kX1_setRules (l : Launch) (k : rm_K) (a : Nat → Nat) (ha : rn_inj a) (σ : rm_St) (x : Int32) (y : Int32) (z : Int32) (w : Int32)  : rn_MV l k a yX1_setRules wsX1_setRules ({ frames := 1, cells := 0, slots := 0, locals := 22 }) [.int x, .int y, .int z, .int w] σ  (rn_setRules σ x y z w) := by
  refine rn_enterV (cc := cX1_setRules) (nL := 6) (ret := none) ha (by decide) rfl rfl (by decide +kernel) (Nat.le_of_ble_eq_true rfl) ?_
  intro p e s m args below meth c ls C hr hlocks hw hl
  have hx := C.1.1
  have hb := C.1.2.1
  have hts := C.1.2.2.2.2
  have hA : ∀ q, s.heap.size ≤ q → rn_A a s.heap.size q := fun q h => Or.inr h
  replace hl : lv_has ls 6 [(0, .ref (a 0)), (1, .int x), (2, .int y), (3, .int z), (4, .int w)] := hl
  refine lv_iload_n hx hb dX1_setRules_0 rfl (lv_at hl 1 rfl) ?_
  refine lv_iconst (v := 0) hx hb dX1_setRules_1 (by decide) ?_
  refine lv_bipush (v := 100) hx hb dX1_setRules_2 (by decide) ?_
  refine rn_callSI C hw (As := [.int x, .int 0, .int 100]) (rest := []) (kX1_isIn l (x) (0) (100)) (va_cwS 3 hts gX1_setRules_X1_isIn rfl rfl rfl (by decide +kernel) ⟨Nat.le_of_ble_eq_true rfl, Nat.le_of_ble_eq_true rfl⟩) rfl hl.1 rfl (lv_room (Nat.le_of_ble_eq_true rfl)) dX1_setRules_4 ⟨Nat.zero_le _, Nat.zero_le _⟩ (fun H locs hw => ?_)
  refine rm_ifeq (tgt := 46) hx hb dX1_setRules_7 (by decide) (fun c_7 => ?_) (fun c_7 => ?_)
  · skip
    refine lv_iconst (v := 0) hx hb dX1_setRules_46 (by decide) ?_
    refine lv_istore (lv' := [(5, .int 0), (0, .ref (a 0)), (1, .int x), (2, .int y), (3, .int z), (4, .int w)]) hx hb dX1_setRules_47 hl (by decide) rfl (fun ls hl => ?_)
    refine lv_aload_n hx hb dX1_setRules_49 rfl (lv_at hl 1 rfl) ?_
    refine lv_iload hx hb dX1_setRules_50 (lv_at hl 0 rfl) ?_
    refine lv_if_eq (tgt := 59) hx hb dX1_setRules_52 (by decide) (fun c_52 => ?_) (fun c_52 => ?_)
    · skip
      refine lv_iconst (v := 1) hx hb dX1_setRules_59 (by decide) ?_
      refine rn_callI C hw hA (As := [.int 1]) (rest := []) (kX1_fails l k a ha σ 1 1 (by decide)) (cwV 1 hts gX1_setRules_X1_fails rfl rfl rfl (by decide +kernel) ⟨Nat.le_of_ble_eq_true rfl, Nat.le_of_ble_eq_true rfl⟩) rfl hl.1 rfl (lv_room (Nat.le_of_ble_eq_true rfl)) dX1_setRules_60 ⟨Nat.zero_le _, Nat.zero_le _⟩ (fun H locs hw => ?_)
      refine lv_if_ne (tgt := 87) hx hb dX1_setRules_63 (by decide) (fun c_63 => ?_) (fun c_63 => ?_)
      · skip
        exact rn_vret C hr hlocks hw dX1_setRules_87 (by first | with_reducible rfl | (simp only [rn_setRules, c_7, ↓reduceIte, Bool.false_eq_true]; done) | (simp only [rn_setRules, c_7, ↓reduceIte, Bool.false_eq_true]; rfl) | rfl)
      · exact absurd c_63 (by decide)
    · exact absurd rfl c_52
  · skip
    refine lv_iload_n hx hb dX1_setRules_10 rfl (lv_at hl 2 rfl) ?_
    refine lv_iconst (v := 0) hx hb dX1_setRules_11 (by decide) ?_
    refine lv_sipush (v := 10000) hx hb dX1_setRules_12 (by decide) ?_
    refine rn_callSI C hw (As := [.int y, .int 0, .int 10000]) (rest := []) (kX1_isIn l (y) (0) (10000)) (va_cwS 3 hts gX1_setRules_X1_isIn rfl rfl rfl (by decide +kernel) ⟨Nat.le_of_ble_eq_true rfl, Nat.le_of_ble_eq_true rfl⟩) rfl hl.1 rfl (lv_room (Nat.le_of_ble_eq_true rfl)) dX1_setRules_15 ⟨Nat.zero_le _, Nat.zero_le _⟩ (fun H locs hw => ?_)
    refine rm_ifeq (tgt := 46) hx hb dX1_setRules_18 (by decide) (fun c_18 => ?_) (fun c_18 => ?_)
    · skip
      refine lv_iconst (v := 0) hx hb dX1_setRules_46 (by decide) ?_
      refine lv_istore (lv' := [(5, .int 0), (0, .ref (a 0)), (1, .int x), (2, .int y), (3, .int z), (4, .int w)]) hx hb dX1_setRules_47 hl (by decide) rfl (fun ls hl => ?_)
      refine lv_aload_n hx hb dX1_setRules_49 rfl (lv_at hl 1 rfl) ?_
      refine lv_iload hx hb dX1_setRules_50 (lv_at hl 0 rfl) ?_
      refine lv_if_eq (tgt := 59) hx hb dX1_setRules_52 (by decide) (fun c_52 => ?_) (fun c_52 => ?_)
      · skip
        refine lv_iconst (v := 1) hx hb dX1_setRules_59 (by decide) ?_
        refine rn_callI C hw hA (As := [.int 1]) (rest := []) (kX1_fails l k a ha σ 1 1 (by decide)) (cwV 1 hts gX1_setRules_X1_fails rfl rfl rfl (by decide +kernel) ⟨Nat.le_of_ble_eq_true rfl, Nat.le_of_ble_eq_true rfl⟩) rfl hl.1 rfl (lv_room (Nat.le_of_ble_eq_true rfl)) dX1_setRules_60 ⟨Nat.zero_le _, Nat.zero_le _⟩ (fun H locs hw => ?_)
        refine lv_if_ne (tgt := 87) hx hb dX1_setRules_63 (by decide) (fun c_63 => ?_) (fun c_63 => ?_)
        · skip
          exact rn_vret C hr hlocks hw dX1_setRules_87 (by first | with_reducible rfl | (simp only [rn_setRules, c_7, c_18, ↓reduceIte, Bool.false_eq_true]; done) | (simp only [rn_setRules, c_7, c_18, ↓reduceIte, Bool.false_eq_true]; rfl) | rfl)
        · exact absurd c_63 (by decide)
      · exact absurd rfl c_52
    · skip
      refine lv_iload_n hx hb dX1_setRules_21 rfl (lv_at hl 3 rfl) ?_
      refine lv_iconst (v := 1) hx hb dX1_setRules_22 (by decide) ?_
      refine lv_bipush (v := 8) hx hb dX1_setRules_23 (by decide) ?_
      refine rn_callSI C hw (As := [.int z, .int 1, .int 8]) (rest := []) (kX1_isIn l (z) (1) (8)) (va_cwS 3 hts gX1_setRules_X1_isIn rfl rfl rfl (by decide +kernel) ⟨Nat.le_of_ble_eq_true rfl, Nat.le_of_ble_eq_true rfl⟩) rfl hl.1 rfl (lv_room (Nat.le_of_ble_eq_true rfl)) dX1_setRules_25 ⟨Nat.zero_le _, Nat.zero_le _⟩ (fun H locs hw => ?_)
      refine rm_ifeq (tgt := 46) hx hb dX1_setRules_28 (by decide) (fun c_28 => ?_) (fun c_28 => ?_)
      · skip
        refine lv_iconst (v := 0) hx hb dX1_setRules_46 (by decide) ?_
        refine lv_istore (lv' := [(5, .int 0), (0, .ref (a 0)), (1, .int x), (2, .int y), (3, .int z), (4, .int w)]) hx hb dX1_setRules_47 hl (by decide) rfl (fun ls hl => ?_)
        refine lv_aload_n hx hb dX1_setRules_49 rfl (lv_at hl 1 rfl) ?_
        refine lv_iload hx hb dX1_setRules_50 (lv_at hl 0 rfl) ?_
        refine lv_if_eq (tgt := 59) hx hb dX1_setRules_52 (by decide) (fun c_52 => ?_) (fun c_52 => ?_)
        · skip
          refine lv_iconst (v := 1) hx hb dX1_setRules_59 (by decide) ?_
          refine rn_callI C hw hA (As := [.int 1]) (rest := []) (kX1_fails l k a ha σ 1 1 (by decide)) (cwV 1 hts gX1_setRules_X1_fails rfl rfl rfl (by decide +kernel) ⟨Nat.le_of_ble_eq_true rfl, Nat.le_of_ble_eq_true rfl⟩) rfl hl.1 rfl (lv_room (Nat.le_of_ble_eq_true rfl)) dX1_setRules_60 ⟨Nat.zero_le _, Nat.zero_le _⟩ (fun H locs hw => ?_)
          refine lv_if_ne (tgt := 87) hx hb dX1_setRules_63 (by decide) (fun c_63 => ?_) (fun c_63 => ?_)
          · skip
            exact rn_vret C hr hlocks hw dX1_setRules_87 (by first | with_reducible rfl | (simp only [rn_setRules, c_7, c_18, c_28, ↓reduceIte, Bool.false_eq_true]; done) | (simp only [rn_setRules, c_7, c_18, c_28, ↓reduceIte, Bool.false_eq_true]; rfl) | rfl)
          · exact absurd c_63 (by decide)
        · exact absurd rfl c_52
      · skip
        refine lv_iload hx hb dX1_setRules_31 (lv_at hl 4 rfl) ?_
        refine lv_iconst (v := 0) hx hb dX1_setRules_33 (by decide) ?_
        refine lv_bipush (v := 6) hx hb dX1_setRules_34 (by decide) ?_
        refine rn_callSI C hw (As := [.int w, .int 0, .int 6]) (rest := []) (kX1_isIn l (w) (0) (6)) (va_cwS 3 hts gX1_setRules_X1_isIn rfl rfl rfl (by decide +kernel) ⟨Nat.le_of_ble_eq_true rfl, Nat.le_of_ble_eq_true rfl⟩) rfl hl.1 rfl (lv_room (Nat.le_of_ble_eq_true rfl)) dX1_setRules_36 ⟨Nat.zero_le _, Nat.zero_le _⟩ (fun H locs hw => ?_)
        refine rm_ifeq (tgt := 46) hx hb dX1_setRules_39 (by decide) (fun c_39 => ?_) (fun c_39 => ?_)
        · skip
          refine lv_iconst (v := 0) hx hb dX1_setRules_46 (by decide) ?_
          refine lv_istore (lv' := [(5, .int 0), (0, .ref (a 0)), (1, .int x), (2, .int y), (3, .int z), (4, .int w)]) hx hb dX1_setRules_47 hl (by decide) rfl (fun ls hl => ?_)
          refine lv_aload_n hx hb dX1_setRules_49 rfl (lv_at hl 1 rfl) ?_
          refine lv_iload hx hb dX1_setRules_50 (lv_at hl 0 rfl) ?_
          refine lv_if_eq (tgt := 59) hx hb dX1_setRules_52 (by decide) (fun c_52 => ?_) (fun c_52 => ?_)
          · skip
            refine lv_iconst (v := 1) hx hb dX1_setRules_59 (by decide) ?_
            refine rn_callI C hw hA (As := [.int 1]) (rest := []) (kX1_fails l k a ha σ 1 1 (by decide)) (cwV 1 hts gX1_setRules_X1_fails rfl rfl rfl (by decide +kernel) ⟨Nat.le_of_ble_eq_true rfl, Nat.le_of_ble_eq_true rfl⟩) rfl hl.1 rfl (lv_room (Nat.le_of_ble_eq_true rfl)) dX1_setRules_60 ⟨Nat.zero_le _, Nat.zero_le _⟩ (fun H locs hw => ?_)
            refine lv_if_ne (tgt := 87) hx hb dX1_setRules_63 (by decide) (fun c_63 => ?_) (fun c_63 => ?_)
            · skip
              exact rn_vret C hr hlocks hw dX1_setRules_87 (by first | with_reducible rfl | (simp only [rn_setRules, c_7, c_18, c_28, c_39, ↓reduceIte, Bool.false_eq_true]; done) | (simp only [rn_setRules, c_7, c_18, c_28, c_39, ↓reduceIte, Bool.false_eq_true]; rfl) | rfl)
            · exact absurd c_63 (by decide)
          · exact absurd rfl c_52
        · skip
          refine lv_iconst (v := 1) hx hb dX1_setRules_42 (by decide) ?_
          refine lv_goto (tgt := 47) hx hb dX1_setRules_43 (by decide) ?_
          refine lv_istore (lv' := [(5, .int 1), (0, .ref (a 0)), (1, .int x), (2, .int y), (3, .int z), (4, .int w)]) hx hb dX1_setRules_47 hl (by decide) rfl (fun ls hl => ?_)
          refine lv_aload_n hx hb dX1_setRules_49 rfl (lv_at hl 1 rfl) ?_
          refine lv_iload hx hb dX1_setRules_50 (lv_at hl 0 rfl) ?_
          refine lv_if_eq (tgt := 59) hx hb dX1_setRules_52 (by decide) (fun c_52 => ?_) (fun c_52 => ?_)
          · exact absurd c_52 (by decide)
          · skip
            refine lv_iconst (v := 0) hx hb dX1_setRules_55 (by decide) ?_
            refine lv_goto (tgt := 60) hx hb dX1_setRules_56 (by decide) ?_
            refine rn_callI C hw hA (As := [.int 0]) (rest := []) (kX1_fails l k a ha σ 0 0 (by decide)) (cwV 1 hts gX1_setRules_X1_fails rfl rfl rfl (by decide +kernel) ⟨Nat.le_of_ble_eq_true rfl, Nat.le_of_ble_eq_true rfl⟩) rfl hl.1 rfl (lv_room (Nat.le_of_ble_eq_true rfl)) dX1_setRules_60 ⟨Nat.zero_le _, Nat.zero_le _⟩ (fun H locs hw => ?_)
            refine lv_if_ne (tgt := 87) hx hb dX1_setRules_63 (by decide) (fun c_63 => ?_) (fun c_63 => ?_)
            · exact absurd rfl c_63
            · skip
              refine lv_aload_n hx hb dX1_setRules_66 rfl (lv_at hl 1 rfl) ?_
              refine lv_iload_n hx hb dX1_setRules_67 rfl (lv_at hl 2 rfl) ?_
              refine rn_puti C hw 0 (by decide) (hts _ (by decide +kernel)) rfl rfl rfl dX1_setRules_68 (fun H locs hw => ?_)
              refine lv_aload_n hx hb dX1_setRules_71 rfl (lv_at hl 1 rfl) ?_
              refine lv_iload_n hx hb dX1_setRules_72 rfl (lv_at hl 3 rfl) ?_
              refine rn_puti C hw 1 (by decide) (hts _ (by decide +kernel)) rfl rfl rfl dX1_setRules_73 (fun H locs hw => ?_)
              refine lv_aload_n hx hb dX1_setRules_76 rfl (lv_at hl 1 rfl) ?_
              refine lv_iload_n hx hb dX1_setRules_77 rfl (lv_at hl 4 rfl) ?_
              refine rn_puti C hw 2 (by decide) (hts _ (by decide +kernel)) rfl rfl rfl dX1_setRules_78 (fun H locs hw => ?_)
              refine lv_aload_n hx hb dX1_setRules_81 rfl (lv_at hl 1 rfl) ?_
              refine lv_iload hx hb dX1_setRules_82 (lv_at hl 5 rfl) ?_
              refine rn_puti C hw 3 (by decide) (hts _ (by decide +kernel)) rfl rfl rfl dX1_setRules_84 (fun H locs hw => ?_)
              exact rn_vret C hr hlocks hw dX1_setRules_87 (by first | with_reducible rfl | (simp only [rn_setRules, c_7, c_18, c_28, c_39, ↓reduceIte, Bool.false_eq_true]; done) | (simp only [rn_setRules, c_7, c_18, c_28, c_39, ↓reduceIte, Bool.false_eq_true]; rfl) | rfl)
set_option maxHeartbeats 4000000 in
set_option maxRecDepth 100000 in
theorem kX1_link (l : Launch) (k : rm_K) (a : Nat → Nat) (ha : rn_inj a) (σ : rm_St) (x : Int32) (y : Int32) (pv : Int32)  (hok : rn_ok σ) : rn_MI l k a yX1_link wsX1_link ({ frames := 3, cells := 0, slots := 0, locals := 75 }) [.int x, .int y, .int pv] σ ((rn_link σ x y pv).2) ((rn_link σ x y pv).1) := by
  refine rn_enterI (cc := cX1_link) (nL := 6) (ret := (some .int)) ha (by decide) rfl rfl (by decide +kernel) (Nat.le_of_ble_eq_true rfl) ?_
  intro p e s m args below meth c ls C hr hlocks hw hl
  have hx := C.1.1
  have hb := C.1.2.1
  have hts := C.1.2.2.2.2
  have hA : ∀ q, s.heap.size ≤ q → rn_A a s.heap.size q := fun q h => Or.inr h
  replace hl : lv_has ls 6 [(0, .ref (a 0)), (1, .int x), (2, .int y), (3, .int pv)] := hl
  refine lv_iload_n hx hb dX1_link_0 rfl (lv_at hl 1 rfl) ?_
  refine rn_callSI C hw (As := [.int x]) (rest := []) (kX1_isNode l (x)) (va_cwS 1 hts gX1_link_X1_isNode rfl rfl rfl (by decide +kernel) ⟨Nat.le_of_ble_eq_true rfl, Nat.le_of_ble_eq_true rfl⟩) rfl hl.1 rfl (lv_room (Nat.le_of_ble_eq_true rfl)) dX1_link_1 ⟨Nat.zero_le _, Nat.zero_le _⟩ (fun H locs hw => ?_)
  refine rm_ifeq (tgt := 18) hx hb dX1_link_4 (by decide) (fun c_4 => ?_) (fun c_4 => ?_)
  · skip
    refine lv_iconst (v := 0) hx hb dX1_link_18 (by decide) ?_
    refine lv_istore (lv' := [(4, .int 0), (0, .ref (a 0)), (1, .int x), (2, .int y), (3, .int pv)]) hx hb dX1_link_19 hl (by decide) rfl (fun ls hl => ?_)
    refine lv_aload_n hx hb dX1_link_21 rfl (lv_at hl 1 rfl) ?_
    refine lv_iload hx hb dX1_link_22 (lv_at hl 0 rfl) ?_
    refine lv_if_ne (tgt := 31) hx hb dX1_link_24 (by decide) (fun c_24 => ?_) (fun c_24 => ?_)
    · exact absurd rfl c_24
    · skip
      refine lv_iconst (v := 1) hx hb dX1_link_27 (by decide) ?_
      refine lv_goto (tgt := 51) hx hb dX1_link_28 (by decide) ?_
      refine rn_callI C hw hA (As := [.int 1]) (rest := []) (kX1_fails l k a ha σ 1 1 (by decide)) (cwV 1 hts gX1_link_X1_fails rfl rfl rfl (by decide +kernel) ⟨Nat.le_of_ble_eq_true rfl, Nat.le_of_ble_eq_true rfl⟩) rfl hl.1 rfl (lv_room (Nat.le_of_ble_eq_true rfl)) dX1_link_51 ⟨Nat.zero_le _, Nat.zero_le _⟩ (fun H locs hw => ?_)
      refine lv_if_eq (tgt := 59) hx hb dX1_link_54 (by decide) (fun c_54 => ?_) (fun c_54 => ?_)
      · exact absurd c_54 (by decide)
      · skip
        refine lv_iconst (v := 0) hx hb dX1_link_57 (by decide) ?_
        exact rn_iret C hr hlocks hw dX1_link_58 ⟨by first | with_reducible rfl | (simp only [rn_link, rn_lnk, c_4, ↓reduceIte, Bool.false_eq_true]; done) | (simp only [rn_link, rn_lnk, c_4, ↓reduceIte, Bool.false_eq_true]; rfl) | rfl, by first | with_reducible rfl | (simp only [rn_link, rn_lnk, c_4, ↓reduceIte, Bool.false_eq_true]; done) | (simp only [rn_link, rn_lnk, c_4, ↓reduceIte, Bool.false_eq_true]; rfl) | rfl⟩
  · skip
    obtain ⟨xn, hxn, rfl⟩ := isNd_of c_4
    refine lv_iload_n hx hb dX1_link_7 rfl (lv_at hl 2 rfl) ?_
    refine rn_callSI C hw (As := [.int y]) (rest := []) (kX1_isNode l (y)) (va_cwS 1 hts gX1_link_X1_isNode rfl rfl rfl (by decide +kernel) ⟨Nat.le_of_ble_eq_true rfl, Nat.le_of_ble_eq_true rfl⟩) rfl hl.1 rfl (lv_room (Nat.le_of_ble_eq_true rfl)) dX1_link_8 ⟨Nat.zero_le _, Nat.zero_le _⟩ (fun H locs hw => ?_)
    refine rm_ifeq (tgt := 18) hx hb dX1_link_11 (by decide) (fun c_11 => ?_) (fun c_11 => ?_)
    · skip
      refine lv_iconst (v := 0) hx hb dX1_link_18 (by decide) ?_
      refine lv_istore (lv' := [(4, .int 0), (0, .ref (a 0)), (1, .int (nI xn)), (2, .int y), (3, .int pv)]) hx hb dX1_link_19 hl (by decide) rfl (fun ls hl => ?_)
      refine lv_aload_n hx hb dX1_link_21 rfl (lv_at hl 1 rfl) ?_
      refine lv_iload hx hb dX1_link_22 (lv_at hl 0 rfl) ?_
      refine lv_if_ne (tgt := 31) hx hb dX1_link_24 (by decide) (fun c_24 => ?_) (fun c_24 => ?_)
      · exact absurd rfl c_24
      · skip
        refine lv_iconst (v := 1) hx hb dX1_link_27 (by decide) ?_
        refine lv_goto (tgt := 51) hx hb dX1_link_28 (by decide) ?_
        refine rn_callI C hw hA (As := [.int 1]) (rest := []) (kX1_fails l k a ha σ 1 1 (by decide)) (cwV 1 hts gX1_link_X1_fails rfl rfl rfl (by decide +kernel) ⟨Nat.le_of_ble_eq_true rfl, Nat.le_of_ble_eq_true rfl⟩) rfl hl.1 rfl (lv_room (Nat.le_of_ble_eq_true rfl)) dX1_link_51 ⟨Nat.zero_le _, Nat.zero_le _⟩ (fun H locs hw => ?_)
        refine lv_if_eq (tgt := 59) hx hb dX1_link_54 (by decide) (fun c_54 => ?_) (fun c_54 => ?_)
        · exact absurd c_54 (by decide)
        · skip
          refine lv_iconst (v := 0) hx hb dX1_link_57 (by decide) ?_
          exact rn_iret C hr hlocks hw dX1_link_58 ⟨by first | with_reducible rfl | (simp only [rn_link, rn_lnk, c_4, rm_cl hxn, isNd_nI hxn, c_11, ↓reduceIte, Bool.false_eq_true]; done) | (simp only [rn_link, rn_lnk, c_4, rm_cl hxn, isNd_nI hxn, c_11, ↓reduceIte, Bool.false_eq_true]; rfl) | rfl, by first | with_reducible rfl | (simp only [rn_link, rn_lnk, c_4, rm_cl hxn, isNd_nI hxn, c_11, ↓reduceIte, Bool.false_eq_true]; done) | (simp only [rn_link, rn_lnk, c_4, rm_cl hxn, isNd_nI hxn, c_11, ↓reduceIte, Bool.false_eq_true]; rfl) | rfl⟩
    · skip
      obtain ⟨yn, hyn, rfl⟩ := isNd_of c_11
      refine lv_iconst (v := 1) hx hb dX1_link_14 (by decide) ?_
      refine lv_goto (tgt := 19) hx hb dX1_link_15 (by decide) ?_
      refine lv_istore (lv' := [(4, .int 1), (0, .ref (a 0)), (1, .int (nI xn)), (2, .int (nI yn)), (3, .int pv)]) hx hb dX1_link_19 hl (by decide) rfl (fun ls hl => ?_)
      refine lv_aload_n hx hb dX1_link_21 rfl (lv_at hl 1 rfl) ?_
      refine lv_iload hx hb dX1_link_22 (lv_at hl 0 rfl) ?_
      refine lv_if_ne (tgt := 31) hx hb dX1_link_24 (by decide) (fun c_24 => ?_) (fun c_24 => ?_)
      · skip
        refine lv_iload_n hx hb dX1_link_31 rfl (lv_at hl 2 rfl) ?_
        refine lv_iload_n hx hb dX1_link_32 rfl (lv_at hl 3 rfl) ?_
        refine lv_icmp_eq (tgt := 50) hx hb dX1_link_33 (by decide) (fun c_33 => ?_) (fun c_33 => ?_)
        · skip
          refine lv_iconst (v := 2) hx hb dX1_link_50 (by decide) ?_
          refine rn_callI C hw hA (As := [.int 2]) (rest := []) (kX1_fails l k a ha σ 2 1 (by decide)) (cwV 1 hts gX1_link_X1_fails rfl rfl rfl (by decide +kernel) ⟨Nat.le_of_ble_eq_true rfl, Nat.le_of_ble_eq_true rfl⟩) rfl hl.1 rfl (lv_room (Nat.le_of_ble_eq_true rfl)) dX1_link_51 ⟨Nat.zero_le _, Nat.zero_le _⟩ (fun H locs hw => ?_)
          refine lv_if_eq (tgt := 59) hx hb dX1_link_54 (by decide) (fun c_54 => ?_) (fun c_54 => ?_)
          · exact absurd c_54 (by decide)
          · skip
            refine lv_iconst (v := 0) hx hb dX1_link_57 (by decide) ?_
            exact rn_iret C hr hlocks hw dX1_link_58 ⟨by first | with_reducible rfl | (simp only [rn_link, rn_lnk, c_4, rm_cl hxn, isNd_nI hxn, c_11, rm_cl hyn, isNd_nI hyn, if_pos c_33, ↓reduceIte, Bool.false_eq_true]; done) | (simp only [rn_link, rn_lnk, c_4, rm_cl hxn, isNd_nI hxn, c_11, rm_cl hyn, isNd_nI hyn, if_pos c_33, ↓reduceIte, Bool.false_eq_true]; rfl) | rfl, by first | with_reducible rfl | (simp only [rn_link, rn_lnk, c_4, rm_cl hxn, isNd_nI hxn, c_11, rm_cl hyn, isNd_nI hyn, if_pos c_33, ↓reduceIte, Bool.false_eq_true]; done) | (simp only [rn_link, rn_lnk, c_4, rm_cl hxn, isNd_nI hxn, c_11, rm_cl hyn, isNd_nI hyn, if_pos c_33, ↓reduceIte, Bool.false_eq_true]; rfl) | rfl⟩
        · skip
          refine lv_iload_n hx hb dX1_link_36 rfl (lv_at hl 4 rfl) ?_
          refine lv_iconst (v := 0) hx hb dX1_link_37 (by decide) ?_
          refine lv_bipush (v := 100) hx hb dX1_link_38 (by decide) ?_
          refine rn_callSI C hw (As := [.int pv, .int 0, .int 100]) (rest := [.ref (a 0)]) (kX1_isIn l (pv) (0) (100)) (va_cwS 3 hts gX1_link_X1_isIn rfl rfl rfl (by decide +kernel) ⟨Nat.le_of_ble_eq_true rfl, Nat.le_of_ble_eq_true rfl⟩) rfl hl.1 rfl (lv_room (Nat.le_of_ble_eq_true rfl)) dX1_link_40 ⟨Nat.zero_le _, Nat.zero_le _⟩ (fun H locs hw => ?_)
          refine rm_ifeq (tgt := 50) hx hb dX1_link_43 (by decide) (fun c_43 => ?_) (fun c_43 => ?_)
          · skip
            refine lv_iconst (v := 2) hx hb dX1_link_50 (by decide) ?_
            refine rn_callI C hw hA (As := [.int 2]) (rest := []) (kX1_fails l k a ha σ 2 1 (by decide)) (cwV 1 hts gX1_link_X1_fails rfl rfl rfl (by decide +kernel) ⟨Nat.le_of_ble_eq_true rfl, Nat.le_of_ble_eq_true rfl⟩) rfl hl.1 rfl (lv_room (Nat.le_of_ble_eq_true rfl)) dX1_link_51 ⟨Nat.zero_le _, Nat.zero_le _⟩ (fun H locs hw => ?_)
            refine lv_if_eq (tgt := 59) hx hb dX1_link_54 (by decide) (fun c_54 => ?_) (fun c_54 => ?_)
            · exact absurd c_54 (by decide)
            · skip
              refine lv_iconst (v := 0) hx hb dX1_link_57 (by decide) ?_
              exact rn_iret C hr hlocks hw dX1_link_58 ⟨by first | with_reducible rfl | (simp only [rn_link, rn_lnk, c_4, rm_cl hxn, isNd_nI hxn, c_11, rm_cl hyn, isNd_nI hyn, if_neg c_33, c_43, ↓reduceIte, Bool.false_eq_true]; done) | (simp only [rn_link, rn_lnk, c_4, rm_cl hxn, isNd_nI hxn, c_11, rm_cl hyn, isNd_nI hyn, if_neg c_33, c_43, ↓reduceIte, Bool.false_eq_true]; rfl) | rfl, by first | with_reducible rfl | (simp only [rn_link, rn_lnk, c_4, rm_cl hxn, isNd_nI hxn, c_11, rm_cl hyn, isNd_nI hyn, if_neg c_33, c_43, ↓reduceIte, Bool.false_eq_true]; done) | (simp only [rn_link, rn_lnk, c_4, rm_cl hxn, isNd_nI hxn, c_11, rm_cl hyn, isNd_nI hyn, if_neg c_33, c_43, ↓reduceIte, Bool.false_eq_true]; rfl) | rfl⟩
          · skip
            refine lv_iconst (v := 0) hx hb dX1_link_46 (by decide) ?_
            refine lv_goto (tgt := 51) hx hb dX1_link_47 (by decide) ?_
            refine rn_callI C hw hA (As := [.int 0]) (rest := []) (kX1_fails l k a ha σ 0 0 (by decide)) (cwV 1 hts gX1_link_X1_fails rfl rfl rfl (by decide +kernel) ⟨Nat.le_of_ble_eq_true rfl, Nat.le_of_ble_eq_true rfl⟩) rfl hl.1 rfl (lv_room (Nat.le_of_ble_eq_true rfl)) dX1_link_51 ⟨Nat.zero_le _, Nat.zero_le _⟩ (fun H locs hw => ?_)
            refine lv_if_eq (tgt := 59) hx hb dX1_link_54 (by decide) (fun c_54 => ?_) (fun c_54 => ?_)
            · skip
              refine lv_aload_n hx hb dX1_link_59 rfl (lv_at hl 1 rfl) ?_
              refine rn_geta C hw 5 1 (by decide) rfl (hts _ (by decide +kernel)) rfl dX1_link_60 ?_
              refine lv_bipush (v := 10) hx hb dX1_link_63 (by decide) ?_
              refine lv_iload_n hx hb dX1_link_65 rfl (lv_at hl 2 rfl) ?_
              refine lv_imul hx hb dX1_link_66 ?_
              rw [rn_mul]
              refine lv_iload_n hx hb dX1_link_67 rfl (lv_at hl 3 rfl) ?_
              refine lv_iadd hx hb dX1_link_68 ?_
              rw [nI_add]
              refine rn_iald C hw (N := 100) (by decide) (by omega) (by decide) dX1_link_69 ?_
              refine lv_istore (lv' := [(5, .int ((rm_up σ 0 20 0) 1 (10 * xn + yn))), (4, .int 1), (0, .ref (a 0)), (1, .int (nI xn)), (2, .int (nI yn)), (3, .int pv)]) hx hb dX1_link_70 hl (by decide) rfl (fun ls hl => ?_)
              refine lv_aload_n hx hb dX1_link_72 rfl (lv_at hl 2 rfl) ?_
              refine rn_geta C hw 5 1 (by decide) rfl (hts _ (by decide +kernel)) rfl dX1_link_73 ?_
              refine lv_bipush (v := 10) hx hb dX1_link_76 (by decide) ?_
              refine lv_iload_n hx hb dX1_link_78 rfl (lv_at hl 3 rfl) ?_
              refine lv_imul hx hb dX1_link_79 ?_
              rw [rn_mul]
              refine lv_iload_n hx hb dX1_link_80 rfl (lv_at hl 4 rfl) ?_
              refine lv_iadd hx hb dX1_link_81 ?_
              rw [nI_add]
              refine lv_iload_n hx hb dX1_link_82 rfl (lv_at hl 5 rfl) ?_
              refine rn_iast C hw (N := 100) (by decide) (by omega) (by decide) dX1_link_83 (fun H locs hw => ?_)
              refine lv_aload_n hx hb dX1_link_84 rfl (lv_at hl 2 rfl) ?_
              refine rn_geta C hw 5 1 (by decide) rfl (hts _ (by decide +kernel)) rfl dX1_link_85 ?_
              refine lv_bipush (v := 10) hx hb dX1_link_88 (by decide) ?_
              refine lv_iload_n hx hb dX1_link_90 rfl (lv_at hl 4 rfl) ?_
              refine lv_imul hx hb dX1_link_91 ?_
              rw [rn_mul]
              refine lv_iload_n hx hb dX1_link_92 rfl (lv_at hl 3 rfl) ?_
              refine lv_iadd hx hb dX1_link_93 ?_
              rw [nI_add]
              refine lv_iload_n hx hb dX1_link_94 rfl (lv_at hl 5 rfl) ?_
              refine rn_iast C hw (N := 100) (by decide) (by omega) (by decide) dX1_link_95 (fun H locs hw => ?_)
              refine lv_iload_n hx hb dX1_link_96 rfl (lv_at hl 5 rfl) ?_
              refine lv_if_ne (tgt := 124) hx hb dX1_link_97 (by decide) (fun c_97 => ?_) (fun c_97 => ?_)
              · skip
                refine lv_aload_n hx hb dX1_link_124 rfl (lv_at hl 2 rfl) ?_
                refine lv_iload_n hx hb dX1_link_125 rfl (lv_at hl 3 rfl) ?_
                refine rn_callV C hw hA (As := [.int (nI xn)]) (rest := []) (kX1_chooses l k a ha (rm_up (rm_up (rm_up σ 0 20 0) 1 (10 * xn + yn) (pv)) 1 (10 * yn + xn) (pv)) xn hxn (by repeat (first | assumption | with_reducible apply rn_ok_m1 | with_reducible apply rn_ok_up | with_reducible apply rn_ok_ch | with_reducible apply rn_ok_hear | with_reducible apply rn_ok_resets | with_reducible apply rn_ok_tells | with_reducible apply rn_ok_len | with_reducible apply rn_ok_begins | decide))) (cwV 1 hts gX1_link_X1_chooses rfl rfl rfl (by decide +kernel) ⟨Nat.le_of_ble_eq_true rfl, Nat.le_of_ble_eq_true rfl⟩) rfl hl.1 rfl (lv_room (Nat.le_of_ble_eq_true rfl)) dX1_link_126 ⟨Nat.zero_le _, Nat.zero_le _⟩ (fun H locs hw => ?_)
                refine lv_aload_n hx hb dX1_link_129 rfl (lv_at hl 2 rfl) ?_
                refine lv_iload_n hx hb dX1_link_130 rfl (lv_at hl 4 rfl) ?_
                refine rn_callV C hw hA (As := [.int (nI yn)]) (rest := []) (kX1_chooses l k a ha (rn_chooses (rm_up (rm_up (rm_up σ 0 20 0) 1 (10 * xn + yn) (pv)) 1 (10 * yn + xn) (pv)) xn) yn hyn (by repeat (first | assumption | with_reducible apply rn_ok_m1 | with_reducible apply rn_ok_up | with_reducible apply rn_ok_ch | with_reducible apply rn_ok_hear | with_reducible apply rn_ok_resets | with_reducible apply rn_ok_tells | with_reducible apply rn_ok_len | with_reducible apply rn_ok_begins | decide))) (cwV 1 hts gX1_link_X1_chooses rfl rfl rfl (by decide +kernel) ⟨Nat.le_of_ble_eq_true rfl, Nat.le_of_ble_eq_true rfl⟩) rfl hl.1 rfl (lv_room (Nat.le_of_ble_eq_true rfl)) dX1_link_131 ⟨Nat.zero_le _, Nat.zero_le _⟩ (fun H locs hw => ?_)
                refine lv_iload hx hb dX1_link_134 (lv_at hl 0 rfl) ?_
                exact rn_iret C hr hlocks hw dX1_link_136 ⟨by first | with_reducible rfl | (simp only [rn_link, rn_lnk, c_4, rm_cl hxn, isNd_nI hxn, c_11, rm_cl hyn, isNd_nI hyn, if_neg c_33, c_43, if_neg c_97, ↓reduceIte, Bool.false_eq_true]; done) | (simp only [rn_link, rn_lnk, c_4, rm_cl hxn, isNd_nI hxn, c_11, rm_cl hyn, isNd_nI hyn, if_neg c_33, c_43, if_neg c_97, ↓reduceIte, Bool.false_eq_true]; rfl) | rfl, by first | with_reducible rfl | (simp only [rn_link, rn_lnk, c_4, rm_cl hxn, isNd_nI hxn, c_11, rm_cl hyn, isNd_nI hyn, if_neg c_33, c_43, if_neg c_97, ↓reduceIte, Bool.false_eq_true]; done) | (simp only [rn_link, rn_lnk, c_4, rm_cl hxn, isNd_nI hxn, c_11, rm_cl hyn, isNd_nI hyn, if_neg c_33, c_43, if_neg c_97, ↓reduceIte, Bool.false_eq_true]; rfl) | rfl⟩
              · skip
                refine lv_aload_n hx hb dX1_link_100 rfl (lv_at hl 2 rfl) ?_
                refine rn_geta C hw 17 13 (by decide) rfl (hts _ (by decide +kernel)) rfl dX1_link_101 ?_
                refine lv_bipush (v := 10) hx hb dX1_link_104 (by decide) ?_
                refine lv_iload_n hx hb dX1_link_106 rfl (lv_at hl 3 rfl) ?_
                refine lv_imul hx hb dX1_link_107 ?_
                rw [rn_mul]
                refine lv_iload_n hx hb dX1_link_108 rfl (lv_at hl 4 rfl) ?_
                refine lv_iadd hx hb dX1_link_109 ?_
                rw [nI_add]
                refine lv_iconst (v := (-1)) hx hb dX1_link_110 (by decide) ?_
                refine rn_iast C hw (N := 100) (by decide) (by omega) (by decide) dX1_link_111 (fun H locs hw => ?_)
                refine lv_aload_n hx hb dX1_link_112 rfl (lv_at hl 2 rfl) ?_
                refine rn_geta C hw 17 13 (by decide) rfl (hts _ (by decide +kernel)) rfl dX1_link_113 ?_
                refine lv_bipush (v := 10) hx hb dX1_link_116 (by decide) ?_
                refine lv_iload_n hx hb dX1_link_118 rfl (lv_at hl 4 rfl) ?_
                refine lv_imul hx hb dX1_link_119 ?_
                rw [rn_mul]
                refine lv_iload_n hx hb dX1_link_120 rfl (lv_at hl 3 rfl) ?_
                refine lv_iadd hx hb dX1_link_121 ?_
                rw [nI_add]
                refine lv_iconst (v := (-1)) hx hb dX1_link_122 (by decide) ?_
                refine rn_iast C hw (N := 100) (by decide) (by omega) (by decide) dX1_link_123 (fun H locs hw => ?_)
                refine lv_aload_n hx hb dX1_link_124 rfl (lv_at hl 2 rfl) ?_
                refine lv_iload_n hx hb dX1_link_125 rfl (lv_at hl 3 rfl) ?_
                refine rn_callV C hw hA (As := [.int (nI xn)]) (rest := []) (kX1_chooses l k a ha (rm_up (rm_up (rm_up (rm_up (rm_up σ 0 20 0) 1 (10 * xn + yn) (pv)) 1 (10 * yn + xn) (pv)) 13 (10 * xn + yn) ((-1))) 13 (10 * yn + xn) ((-1))) xn hxn (by repeat (first | assumption | with_reducible apply rn_ok_m1 | with_reducible apply rn_ok_up | with_reducible apply rn_ok_ch | with_reducible apply rn_ok_hear | with_reducible apply rn_ok_resets | with_reducible apply rn_ok_tells | with_reducible apply rn_ok_len | with_reducible apply rn_ok_begins | decide))) (cwV 1 hts gX1_link_X1_chooses rfl rfl rfl (by decide +kernel) ⟨Nat.le_of_ble_eq_true rfl, Nat.le_of_ble_eq_true rfl⟩) rfl hl.1 rfl (lv_room (Nat.le_of_ble_eq_true rfl)) dX1_link_126 ⟨Nat.zero_le _, Nat.zero_le _⟩ (fun H locs hw => ?_)
                refine lv_aload_n hx hb dX1_link_129 rfl (lv_at hl 2 rfl) ?_
                refine lv_iload_n hx hb dX1_link_130 rfl (lv_at hl 4 rfl) ?_
                refine rn_callV C hw hA (As := [.int (nI yn)]) (rest := []) (kX1_chooses l k a ha (rn_chooses (rm_up (rm_up (rm_up (rm_up (rm_up σ 0 20 0) 1 (10 * xn + yn) (pv)) 1 (10 * yn + xn) (pv)) 13 (10 * xn + yn) ((-1))) 13 (10 * yn + xn) ((-1))) xn) yn hyn (by repeat (first | assumption | with_reducible apply rn_ok_m1 | with_reducible apply rn_ok_up | with_reducible apply rn_ok_ch | with_reducible apply rn_ok_hear | with_reducible apply rn_ok_resets | with_reducible apply rn_ok_tells | with_reducible apply rn_ok_len | with_reducible apply rn_ok_begins | decide))) (cwV 1 hts gX1_link_X1_chooses rfl rfl rfl (by decide +kernel) ⟨Nat.le_of_ble_eq_true rfl, Nat.le_of_ble_eq_true rfl⟩) rfl hl.1 rfl (lv_room (Nat.le_of_ble_eq_true rfl)) dX1_link_131 ⟨Nat.zero_le _, Nat.zero_le _⟩ (fun H locs hw => ?_)
                refine lv_iload hx hb dX1_link_134 (lv_at hl 0 rfl) ?_
                exact rn_iret C hr hlocks hw dX1_link_136 ⟨by first | with_reducible rfl | (simp only [rn_link, rn_lnk, c_4, rm_cl hxn, isNd_nI hxn, c_11, rm_cl hyn, isNd_nI hyn, if_neg c_33, c_43, if_pos c_97, ↓reduceIte, Bool.false_eq_true]; done) | (simp only [rn_link, rn_lnk, c_4, rm_cl hxn, isNd_nI hxn, c_11, rm_cl hyn, isNd_nI hyn, if_neg c_33, c_43, if_pos c_97, ↓reduceIte, Bool.false_eq_true]; rfl) | rfl, by first | with_reducible rfl | (simp only [rn_link, rn_lnk, c_4, rm_cl hxn, isNd_nI hxn, c_11, rm_cl hyn, isNd_nI hyn, if_neg c_33, c_43, if_pos c_97, ↓reduceIte, Bool.false_eq_true]; done) | (simp only [rn_link, rn_lnk, c_4, rm_cl hxn, isNd_nI hxn, c_11, rm_cl hyn, isNd_nI hyn, if_neg c_33, c_43, if_pos c_97, ↓reduceIte, Bool.false_eq_true]; rfl) | rfl⟩
            · exact absurd rfl c_54
      · exact absurd c_24 (by decide)
set_option maxHeartbeats 4000000 in
set_option maxRecDepth 100000 in
theorem kX1_makeRoot (l : Launch) (k : rm_K) (a : Nat → Nat) (ha : rn_inj a) (σ : rm_St) (x : Int32)  : rn_MI l k a yX1_makeRoot wsX1_makeRoot ({ frames := 2, cells := 0, slots := 0, locals := 42 }) [.int x] σ ((rn_makeRoot σ x).2) ((rn_makeRoot σ x).1) := by
  refine rn_enterI (cc := cX1_makeRoot) (nL := 3) (ret := (some .int)) ha (by decide) rfl rfl (by decide +kernel) (Nat.le_of_ble_eq_true rfl) ?_
  intro p e s m args below meth c ls C hr hlocks hw hl
  have hx := C.1.1
  have hb := C.1.2.1
  have hts := C.1.2.2.2.2
  have hA : ∀ q, s.heap.size ≤ q → rn_A a s.heap.size q := fun q h => Or.inr h
  replace hl : lv_has ls 3 [(0, .ref (a 0)), (1, .int x)] := hl
  refine lv_iload_n hx hb dX1_makeRoot_0 rfl (lv_at hl 1 rfl) ?_
  refine rn_callSI C hw (As := [.int x]) (rest := []) (kX1_isNode l (x)) (va_cwS 1 hts gX1_makeRoot_X1_isNode rfl rfl rfl (by decide +kernel) ⟨Nat.le_of_ble_eq_true rfl, Nat.le_of_ble_eq_true rfl⟩) rfl hl.1 rfl (lv_room (Nat.le_of_ble_eq_true rfl)) dX1_makeRoot_1 ⟨Nat.zero_le _, Nat.zero_le _⟩ (fun H locs hw => ?_)
  refine lv_istore_n (lv' := [(2, .int (bI (isNd (x)))), (0, .ref (a 0)), (1, .int x)]) hx hb dX1_makeRoot_4 rfl hl (by decide) rfl (fun ls hl => ?_)
  refine lv_aload_n hx hb dX1_makeRoot_5 rfl (lv_at hl 1 rfl) ?_
  refine lv_iload_n hx hb dX1_makeRoot_6 rfl (lv_at hl 0 rfl) ?_
  refine rm_ifne (tgt := 14) hx hb dX1_makeRoot_7 (by decide) (fun c_7 => ?_) (fun c_7 => ?_)
  · skip
    obtain ⟨xn, hxn, rfl⟩ := isNd_of c_7
    refine lv_aload_n hx hb dX1_makeRoot_14 rfl (lv_at hl 1 rfl) ?_
    refine rn_geta C hw 6 2 (by decide) rfl (hts _ (by decide +kernel)) rfl dX1_makeRoot_15 ?_
    refine lv_iload_n hx hb dX1_makeRoot_18 rfl (lv_at hl 2 rfl) ?_
    refine rn_zald C hw hxn dX1_makeRoot_19 ?_
    refine lv_if_eq (tgt := 27) hx hb dX1_makeRoot_20 (by decide) (fun c_20 => ?_) (fun c_20 => ?_)
    · skip
      refine lv_iconst (v := 0) hx hb dX1_makeRoot_27 (by decide) ?_
      refine rn_callI C hw hA (As := [.int 0]) (rest := []) (kX1_fails l k a ha σ 0 0 (by decide)) (cwV 1 hts gX1_makeRoot_X1_fails rfl rfl rfl (by decide +kernel) ⟨Nat.le_of_ble_eq_true rfl, Nat.le_of_ble_eq_true rfl⟩) rfl hl.1 rfl (lv_room (Nat.le_of_ble_eq_true rfl)) dX1_makeRoot_28 ⟨Nat.zero_le _, Nat.zero_le _⟩ (fun H locs hw => ?_)
      refine lv_if_eq (tgt := 36) hx hb dX1_makeRoot_31 (by decide) (fun c_31 => ?_) (fun c_31 => ?_)
      · skip
        refine lv_aload_n hx hb dX1_makeRoot_36 rfl (lv_at hl 1 rfl) ?_
        refine rn_geta C hw 6 2 (by decide) rfl (hts _ (by decide +kernel)) rfl dX1_makeRoot_37 ?_
        refine lv_iload_n hx hb dX1_makeRoot_40 rfl (lv_at hl 2 rfl) ?_
        refine lv_iconst (v := 1) hx hb dX1_makeRoot_41 (by decide) ?_
        refine rn_zast C hw hxn (by decide) dX1_makeRoot_42 (fun H locs hw => ?_)
        refine lv_aload_n hx hb dX1_makeRoot_43 rfl (lv_at hl 1 rfl) ?_
        refine lv_iload_n hx hb dX1_makeRoot_44 rfl (lv_at hl 2 rfl) ?_
        refine rn_callV C hw hA (As := [.int (nI xn)]) (rest := []) (kX1_begins l k a ha (rm_up (rm_up σ 0 20 0) 2 xn (1)) xn hxn) (cwV 1 hts gX1_makeRoot_X1_begins rfl rfl rfl (by decide +kernel) ⟨Nat.le_of_ble_eq_true rfl, Nat.le_of_ble_eq_true rfl⟩) rfl hl.1 rfl (lv_room (Nat.le_of_ble_eq_true rfl)) dX1_makeRoot_45 ⟨Nat.zero_le _, Nat.zero_le _⟩ (fun H locs hw => ?_)
        refine lv_aload_n hx hb dX1_makeRoot_48 rfl (lv_at hl 1 rfl) ?_
        refine rn_geta C hw 9 5 (by decide) rfl (hts _ (by decide +kernel)) rfl dX1_makeRoot_49 ?_
        refine lv_iload_n hx hb dX1_makeRoot_52 rfl (lv_at hl 2 rfl) ?_
        refine rn_iald C hw (N := 10) (by decide) hxn (by decide) dX1_makeRoot_53 ?_
        exact rn_iret C hr hlocks hw dX1_makeRoot_54 ⟨by first | with_reducible rfl | (simp only [rn_makeRoot, c_7, rm_cl hxn, isNd_nI hxn, if_pos c_20, ↓reduceIte, Bool.false_eq_true]; done) | (simp only [rn_makeRoot, c_7, rm_cl hxn, isNd_nI hxn, if_pos c_20, ↓reduceIte, Bool.false_eq_true]; rfl) | rfl, by first | with_reducible rfl | (simp only [rn_makeRoot, c_7, rm_cl hxn, isNd_nI hxn, if_pos c_20, ↓reduceIte, Bool.false_eq_true]; done) | (simp only [rn_makeRoot, c_7, rm_cl hxn, isNd_nI hxn, if_pos c_20, ↓reduceIte, Bool.false_eq_true]; rfl) | rfl⟩
      · exact absurd rfl c_31
    · skip
      refine lv_iconst (v := 2) hx hb dX1_makeRoot_23 (by decide) ?_
      refine lv_goto (tgt := 28) hx hb dX1_makeRoot_24 (by decide) ?_
      refine rn_callI C hw hA (As := [.int 2]) (rest := []) (kX1_fails l k a ha σ 2 1 (by decide)) (cwV 1 hts gX1_makeRoot_X1_fails rfl rfl rfl (by decide +kernel) ⟨Nat.le_of_ble_eq_true rfl, Nat.le_of_ble_eq_true rfl⟩) rfl hl.1 rfl (lv_room (Nat.le_of_ble_eq_true rfl)) dX1_makeRoot_28 ⟨Nat.zero_le _, Nat.zero_le _⟩ (fun H locs hw => ?_)
      refine lv_if_eq (tgt := 36) hx hb dX1_makeRoot_31 (by decide) (fun c_31 => ?_) (fun c_31 => ?_)
      · exact absurd c_31 (by decide)
      · skip
        refine lv_iconst (v := 0) hx hb dX1_makeRoot_34 (by decide) ?_
        exact rn_iret C hr hlocks hw dX1_makeRoot_35 ⟨by first | with_reducible rfl | (simp only [rn_makeRoot, c_7, rm_cl hxn, isNd_nI hxn, if_neg c_20, ↓reduceIte, Bool.false_eq_true]; done) | (simp only [rn_makeRoot, c_7, rm_cl hxn, isNd_nI hxn, if_neg c_20, ↓reduceIte, Bool.false_eq_true]; rfl) | rfl, by first | with_reducible rfl | (simp only [rn_makeRoot, c_7, rm_cl hxn, isNd_nI hxn, if_neg c_20, ↓reduceIte, Bool.false_eq_true]; done) | (simp only [rn_makeRoot, c_7, rm_cl hxn, isNd_nI hxn, if_neg c_20, ↓reduceIte, Bool.false_eq_true]; rfl) | rfl⟩
  · skip
    refine lv_iconst (v := 1) hx hb dX1_makeRoot_10 (by decide) ?_
    refine lv_goto (tgt := 28) hx hb dX1_makeRoot_11 (by decide) ?_
    refine rn_callI C hw hA (As := [.int 1]) (rest := []) (kX1_fails l k a ha σ 1 1 (by decide)) (cwV 1 hts gX1_makeRoot_X1_fails rfl rfl rfl (by decide +kernel) ⟨Nat.le_of_ble_eq_true rfl, Nat.le_of_ble_eq_true rfl⟩) rfl hl.1 rfl (lv_room (Nat.le_of_ble_eq_true rfl)) dX1_makeRoot_28 ⟨Nat.zero_le _, Nat.zero_le _⟩ (fun H locs hw => ?_)
    refine lv_if_eq (tgt := 36) hx hb dX1_makeRoot_31 (by decide) (fun c_31 => ?_) (fun c_31 => ?_)
    · exact absurd c_31 (by decide)
    · skip
      refine lv_iconst (v := 0) hx hb dX1_makeRoot_34 (by decide) ?_
      exact rn_iret C hr hlocks hw dX1_makeRoot_35 ⟨by first | with_reducible rfl | (simp only [rn_makeRoot, c_7, ↓reduceIte, Bool.false_eq_true]; done) | (simp only [rn_makeRoot, c_7, ↓reduceIte, Bool.false_eq_true]; rfl) | rfl, by first | with_reducible rfl | (simp only [rn_makeRoot, c_7, ↓reduceIte, Bool.false_eq_true]; done) | (simp only [rn_makeRoot, c_7, ↓reduceIte, Bool.false_eq_true]; rfl) | rfl⟩
set_option maxHeartbeats 4000000 in
set_option maxRecDepth 100000 in
theorem kX1_endRoot (l : Launch) (k : rm_K) (a : Nat → Nat) (ha : rn_inj a) (σ : rm_St) (x : Int32)  (hok : rn_ok σ) : rn_MV l k a yX1_endRoot wsX1_endRoot ({ frames := 3, cells := 0, slots := 0, locals := 75 }) [.int x] σ  (rn_endRoot σ x) := by
  refine rn_enterV (cc := cX1_endRoot) (nL := 3) (ret := none) ha (by decide) rfl rfl (by decide +kernel) (Nat.le_of_ble_eq_true rfl) ?_
  intro p e s m args below meth c ls C hr hlocks hw hl
  have hx := C.1.1
  have hb := C.1.2.1
  have hts := C.1.2.2.2.2
  have hA : ∀ q, s.heap.size ≤ q → rn_A a s.heap.size q := fun q h => Or.inr h
  replace hl : lv_has ls 3 [(0, .ref (a 0)), (1, .int x)] := hl
  refine lv_iload_n hx hb dX1_endRoot_0 rfl (lv_at hl 1 rfl) ?_
  refine rn_callSI C hw (As := [.int x]) (rest := []) (kX1_isNode l (x)) (va_cwS 1 hts gX1_endRoot_X1_isNode rfl rfl rfl (by decide +kernel) ⟨Nat.le_of_ble_eq_true rfl, Nat.le_of_ble_eq_true rfl⟩) rfl hl.1 rfl (lv_room (Nat.le_of_ble_eq_true rfl)) dX1_endRoot_1 ⟨Nat.zero_le _, Nat.zero_le _⟩ (fun H locs hw => ?_)
  refine lv_istore_n (lv' := [(2, .int (bI (isNd (x)))), (0, .ref (a 0)), (1, .int x)]) hx hb dX1_endRoot_4 rfl hl (by decide) rfl (fun ls hl => ?_)
  refine lv_aload_n hx hb dX1_endRoot_5 rfl (lv_at hl 1 rfl) ?_
  refine lv_iload_n hx hb dX1_endRoot_6 rfl (lv_at hl 0 rfl) ?_
  refine rm_ifne (tgt := 14) hx hb dX1_endRoot_7 (by decide) (fun c_7 => ?_) (fun c_7 => ?_)
  · skip
    obtain ⟨xn, hxn, rfl⟩ := isNd_of c_7
    refine lv_aload_n hx hb dX1_endRoot_14 rfl (lv_at hl 1 rfl) ?_
    refine rn_geta C hw 6 2 (by decide) rfl (hts _ (by decide +kernel)) rfl dX1_endRoot_15 ?_
    refine lv_iload_n hx hb dX1_endRoot_18 rfl (lv_at hl 2 rfl) ?_
    refine rn_zald C hw hxn dX1_endRoot_19 ?_
    refine lv_if_eq (tgt := 27) hx hb dX1_endRoot_20 (by decide) (fun c_20 => ?_) (fun c_20 => ?_)
    · skip
      refine lv_iconst (v := 2) hx hb dX1_endRoot_27 (by decide) ?_
      refine rn_callI C hw hA (As := [.int 2]) (rest := []) (kX1_fails l k a ha σ 2 1 (by decide)) (cwV 1 hts gX1_endRoot_X1_fails rfl rfl rfl (by decide +kernel) ⟨Nat.le_of_ble_eq_true rfl, Nat.le_of_ble_eq_true rfl⟩) rfl hl.1 rfl (lv_room (Nat.le_of_ble_eq_true rfl)) dX1_endRoot_28 ⟨Nat.zero_le _, Nat.zero_le _⟩ (fun H locs hw => ?_)
      refine lv_if_ne (tgt := 74) hx hb dX1_endRoot_31 (by decide) (fun c_31 => ?_) (fun c_31 => ?_)
      · skip
        exact rn_vret C hr hlocks hw dX1_endRoot_74 (by first | with_reducible rfl | (simp only [rn_endRoot, rn_endS, c_7, rm_cl hxn, isNd_nI hxn, if_pos c_20, ↓reduceIte, Bool.false_eq_true]; done) | (simp only [rn_endRoot, rn_endS, c_7, rm_cl hxn, isNd_nI hxn, if_pos c_20, ↓reduceIte, Bool.false_eq_true]; rfl) | rfl)
      · exact absurd c_31 (by decide)
    · skip
      refine lv_iconst (v := 0) hx hb dX1_endRoot_23 (by decide) ?_
      refine lv_goto (tgt := 28) hx hb dX1_endRoot_24 (by decide) ?_
      refine rn_callI C hw hA (As := [.int 0]) (rest := []) (kX1_fails l k a ha σ 0 0 (by decide)) (cwV 1 hts gX1_endRoot_X1_fails rfl rfl rfl (by decide +kernel) ⟨Nat.le_of_ble_eq_true rfl, Nat.le_of_ble_eq_true rfl⟩) rfl hl.1 rfl (lv_room (Nat.le_of_ble_eq_true rfl)) dX1_endRoot_28 ⟨Nat.zero_le _, Nat.zero_le _⟩ (fun H locs hw => ?_)
      refine lv_if_ne (tgt := 74) hx hb dX1_endRoot_31 (by decide) (fun c_31 => ?_) (fun c_31 => ?_)
      · exact absurd rfl c_31
      · skip
        refine lv_aload_n hx hb dX1_endRoot_34 rfl (lv_at hl 1 rfl) ?_
        refine rn_geta C hw 6 2 (by decide) rfl (hts _ (by decide +kernel)) rfl dX1_endRoot_35 ?_
        refine lv_iload_n hx hb dX1_endRoot_38 rfl (lv_at hl 2 rfl) ?_
        refine lv_iconst (v := 0) hx hb dX1_endRoot_39 (by decide) ?_
        refine rn_zast C hw hxn (by decide) dX1_endRoot_40 (fun H locs hw => ?_)
        refine lv_aload_n hx hb dX1_endRoot_41 rfl (lv_at hl 1 rfl) ?_
        refine rn_geta C hw 8 4 (by decide) rfl (hts _ (by decide +kernel)) rfl dX1_endRoot_42 ?_
        refine lv_iload_n hx hb dX1_endRoot_45 rfl (lv_at hl 2 rfl) ?_
        refine lv_iconst (v := (-1)) hx hb dX1_endRoot_46 (by decide) ?_
        refine rn_iast C hw (N := 10) (by decide) hxn (by decide) dX1_endRoot_47 (fun H locs hw => ?_)
        refine lv_aload_n hx hb dX1_endRoot_48 rfl (lv_at hl 1 rfl) ?_
        refine rn_geta C hw 9 5 (by decide) rfl (hts _ (by decide +kernel)) rfl dX1_endRoot_49 ?_
        refine lv_iload_n hx hb dX1_endRoot_52 rfl (lv_at hl 2 rfl) ?_
        refine lv_iconst (v := 0) hx hb dX1_endRoot_53 (by decide) ?_
        refine rn_iast C hw (N := 10) (by decide) hxn (by decide) dX1_endRoot_54 (fun H locs hw => ?_)
        refine lv_aload_n hx hb dX1_endRoot_55 rfl (lv_at hl 1 rfl) ?_
        refine rn_geta C hw 10 6 (by decide) rfl (hts _ (by decide +kernel)) rfl dX1_endRoot_56 ?_
        refine lv_iload_n hx hb dX1_endRoot_59 rfl (lv_at hl 2 rfl) ?_
        refine lv_sipush (v := 10000) hx hb dX1_endRoot_60 (by decide) ?_
        refine rn_iast C hw (N := 10) (by decide) hxn (by decide) dX1_endRoot_63 (fun H locs hw => ?_)
        refine lv_aload_n hx hb dX1_endRoot_64 rfl (lv_at hl 1 rfl) ?_
        refine lv_iload_n hx hb dX1_endRoot_65 rfl (lv_at hl 2 rfl) ?_
        refine rn_callV C hw hA (As := [.int (nI xn)]) (rest := []) (kX1_resets l k a ha (rm_up (rm_up (rm_up (rm_up (rm_up σ 0 20 0) 2 xn (0)) 4 xn ((-1))) 5 xn (0)) 6 xn (10000)) xn hxn) (cwV 1 hts gX1_endRoot_X1_resets rfl rfl rfl (by decide +kernel) ⟨Nat.le_of_ble_eq_true rfl, Nat.le_of_ble_eq_true rfl⟩) rfl hl.1 rfl (lv_room (Nat.le_of_ble_eq_true rfl)) dX1_endRoot_66 ⟨Nat.zero_le _, Nat.zero_le _⟩ (fun H locs hw => ?_)
        refine lv_aload_n hx hb dX1_endRoot_69 rfl (lv_at hl 1 rfl) ?_
        refine lv_iload_n hx hb dX1_endRoot_70 rfl (lv_at hl 2 rfl) ?_
        refine rn_callV C hw hA (As := [.int (nI xn)]) (rest := []) (kX1_chooses l k a ha (rn_resets (rm_up (rm_up (rm_up (rm_up (rm_up σ 0 20 0) 2 xn (0)) 4 xn ((-1))) 5 xn (0)) 6 xn (10000)) xn) xn hxn (by repeat (first | assumption | with_reducible apply rn_ok_m1 | with_reducible apply rn_ok_up | with_reducible apply rn_ok_ch | with_reducible apply rn_ok_hear | with_reducible apply rn_ok_resets | with_reducible apply rn_ok_tells | with_reducible apply rn_ok_len | with_reducible apply rn_ok_begins | decide))) (cwV 1 hts gX1_endRoot_X1_chooses rfl rfl rfl (by decide +kernel) ⟨Nat.le_of_ble_eq_true rfl, Nat.le_of_ble_eq_true rfl⟩) rfl hl.1 rfl (lv_room (Nat.le_of_ble_eq_true rfl)) dX1_endRoot_71 ⟨Nat.zero_le _, Nat.zero_le _⟩ (fun H locs hw => ?_)
        exact rn_vret C hr hlocks hw dX1_endRoot_74 (by first | with_reducible rfl | (simp only [rn_endRoot, rn_endS, c_7, rm_cl hxn, isNd_nI hxn, if_neg c_20, ↓reduceIte, Bool.false_eq_true]; done) | (simp only [rn_endRoot, rn_endS, c_7, rm_cl hxn, isNd_nI hxn, if_neg c_20, ↓reduceIte, Bool.false_eq_true]; rfl) | rfl)
  · skip
    refine lv_iconst (v := 1) hx hb dX1_endRoot_10 (by decide) ?_
    refine lv_goto (tgt := 28) hx hb dX1_endRoot_11 (by decide) ?_
    refine rn_callI C hw hA (As := [.int 1]) (rest := []) (kX1_fails l k a ha σ 1 1 (by decide)) (cwV 1 hts gX1_endRoot_X1_fails rfl rfl rfl (by decide +kernel) ⟨Nat.le_of_ble_eq_true rfl, Nat.le_of_ble_eq_true rfl⟩) rfl hl.1 rfl (lv_room (Nat.le_of_ble_eq_true rfl)) dX1_endRoot_28 ⟨Nat.zero_le _, Nat.zero_le _⟩ (fun H locs hw => ?_)
    refine lv_if_ne (tgt := 74) hx hb dX1_endRoot_31 (by decide) (fun c_31 => ?_) (fun c_31 => ?_)
    · skip
      exact rn_vret C hr hlocks hw dX1_endRoot_74 (by first | with_reducible rfl | (simp only [rn_endRoot, rn_endS, c_7, ↓reduceIte, Bool.false_eq_true]; done) | (simp only [rn_endRoot, rn_endS, c_7, ↓reduceIte, Bool.false_eq_true]; rfl) | rfl)
    · exact absurd c_31 (by decide)
set_option maxHeartbeats 4000000 in
set_option maxRecDepth 100000 in
theorem kX1_renew (l : Launch) (k : rm_K) (a : Nat → Nat) (ha : rn_inj a) (σ : rm_St) (x : Int32)  : rn_MI l k a yX1_renew wsX1_renew ({ frames := 2, cells := 0, slots := 0, locals := 42 }) [.int x] σ ((rn_renew σ x).2) ((rn_renew σ x).1) := by
  refine rn_enterI (cc := cX1_renew) (nL := 3) (ret := (some .int)) ha (by decide) rfl rfl (by decide +kernel) (Nat.le_of_ble_eq_true rfl) ?_
  intro p e s m args below meth c ls C hr hlocks hw hl
  have hx := C.1.1
  have hb := C.1.2.1
  have hts := C.1.2.2.2.2
  have hA : ∀ q, s.heap.size ≤ q → rn_A a s.heap.size q := fun q h => Or.inr h
  replace hl : lv_has ls 3 [(0, .ref (a 0)), (1, .int x)] := hl
  refine lv_iload_n hx hb dX1_renew_0 rfl (lv_at hl 1 rfl) ?_
  refine rn_callSI C hw (As := [.int x]) (rest := []) (kX1_isNode l (x)) (va_cwS 1 hts gX1_renew_X1_isNode rfl rfl rfl (by decide +kernel) ⟨Nat.le_of_ble_eq_true rfl, Nat.le_of_ble_eq_true rfl⟩) rfl hl.1 rfl (lv_room (Nat.le_of_ble_eq_true rfl)) dX1_renew_1 ⟨Nat.zero_le _, Nat.zero_le _⟩ (fun H locs hw => ?_)
  refine lv_istore_n (lv' := [(2, .int (bI (isNd (x)))), (0, .ref (a 0)), (1, .int x)]) hx hb dX1_renew_4 rfl hl (by decide) rfl (fun ls hl => ?_)
  refine lv_aload_n hx hb dX1_renew_5 rfl (lv_at hl 1 rfl) ?_
  refine lv_iload_n hx hb dX1_renew_6 rfl (lv_at hl 0 rfl) ?_
  refine rm_ifne (tgt := 14) hx hb dX1_renew_7 (by decide) (fun c_7 => ?_) (fun c_7 => ?_)
  · skip
    obtain ⟨xn, hxn, rfl⟩ := isNd_of c_7
    refine lv_aload_n hx hb dX1_renew_14 rfl (lv_at hl 1 rfl) ?_
    refine rn_geta C hw 6 2 (by decide) rfl (hts _ (by decide +kernel)) rfl dX1_renew_15 ?_
    refine lv_iload_n hx hb dX1_renew_18 rfl (lv_at hl 2 rfl) ?_
    refine rn_zald C hw hxn dX1_renew_19 ?_
    refine lv_if_eq (tgt := 27) hx hb dX1_renew_20 (by decide) (fun c_20 => ?_) (fun c_20 => ?_)
    · skip
      refine lv_iconst (v := 2) hx hb dX1_renew_27 (by decide) ?_
      refine rn_callI C hw hA (As := [.int 2]) (rest := []) (kX1_fails l k a ha σ 2 1 (by decide)) (cwV 1 hts gX1_renew_X1_fails rfl rfl rfl (by decide +kernel) ⟨Nat.le_of_ble_eq_true rfl, Nat.le_of_ble_eq_true rfl⟩) rfl hl.1 rfl (lv_room (Nat.le_of_ble_eq_true rfl)) dX1_renew_28 ⟨Nat.zero_le _, Nat.zero_le _⟩ (fun H locs hw => ?_)
      refine lv_if_eq (tgt := 36) hx hb dX1_renew_31 (by decide) (fun c_31 => ?_) (fun c_31 => ?_)
      · exact absurd c_31 (by decide)
      · skip
        refine lv_iconst (v := 0) hx hb dX1_renew_34 (by decide) ?_
        exact rn_iret C hr hlocks hw dX1_renew_35 ⟨by first | with_reducible rfl | (simp only [rn_renew, c_7, rm_cl hxn, isNd_nI hxn, if_pos c_20, ↓reduceIte, Bool.false_eq_true]; done) | (simp only [rn_renew, c_7, rm_cl hxn, isNd_nI hxn, if_pos c_20, ↓reduceIte, Bool.false_eq_true]; rfl) | rfl, by first | with_reducible rfl | (simp only [rn_renew, c_7, rm_cl hxn, isNd_nI hxn, if_pos c_20, ↓reduceIte, Bool.false_eq_true]; done) | (simp only [rn_renew, c_7, rm_cl hxn, isNd_nI hxn, if_pos c_20, ↓reduceIte, Bool.false_eq_true]; rfl) | rfl⟩
    · skip
      refine lv_iconst (v := 0) hx hb dX1_renew_23 (by decide) ?_
      refine lv_goto (tgt := 28) hx hb dX1_renew_24 (by decide) ?_
      refine rn_callI C hw hA (As := [.int 0]) (rest := []) (kX1_fails l k a ha σ 0 0 (by decide)) (cwV 1 hts gX1_renew_X1_fails rfl rfl rfl (by decide +kernel) ⟨Nat.le_of_ble_eq_true rfl, Nat.le_of_ble_eq_true rfl⟩) rfl hl.1 rfl (lv_room (Nat.le_of_ble_eq_true rfl)) dX1_renew_28 ⟨Nat.zero_le _, Nat.zero_le _⟩ (fun H locs hw => ?_)
      refine lv_if_eq (tgt := 36) hx hb dX1_renew_31 (by decide) (fun c_31 => ?_) (fun c_31 => ?_)
      · skip
        refine lv_aload_n hx hb dX1_renew_36 rfl (lv_at hl 1 rfl) ?_
        refine lv_iload_n hx hb dX1_renew_37 rfl (lv_at hl 2 rfl) ?_
        refine rn_callV C hw hA (As := [.int (nI xn)]) (rest := []) (kX1_begins l k a ha (rm_up σ 0 20 0) xn hxn) (cwV 1 hts gX1_renew_X1_begins rfl rfl rfl (by decide +kernel) ⟨Nat.le_of_ble_eq_true rfl, Nat.le_of_ble_eq_true rfl⟩) rfl hl.1 rfl (lv_room (Nat.le_of_ble_eq_true rfl)) dX1_renew_38 ⟨Nat.zero_le _, Nat.zero_le _⟩ (fun H locs hw => ?_)
        refine lv_aload_n hx hb dX1_renew_41 rfl (lv_at hl 1 rfl) ?_
        refine rn_geta C hw 9 5 (by decide) rfl (hts _ (by decide +kernel)) rfl dX1_renew_42 ?_
        refine lv_iload_n hx hb dX1_renew_45 rfl (lv_at hl 2 rfl) ?_
        refine rn_iald C hw (N := 10) (by decide) hxn (by decide) dX1_renew_46 ?_
        exact rn_iret C hr hlocks hw dX1_renew_47 ⟨by first | with_reducible rfl | (simp only [rn_renew, c_7, rm_cl hxn, isNd_nI hxn, if_neg c_20, ↓reduceIte, Bool.false_eq_true]; done) | (simp only [rn_renew, c_7, rm_cl hxn, isNd_nI hxn, if_neg c_20, ↓reduceIte, Bool.false_eq_true]; rfl) | rfl, by first | with_reducible rfl | (simp only [rn_renew, c_7, rm_cl hxn, isNd_nI hxn, if_neg c_20, ↓reduceIte, Bool.false_eq_true]; done) | (simp only [rn_renew, c_7, rm_cl hxn, isNd_nI hxn, if_neg c_20, ↓reduceIte, Bool.false_eq_true]; rfl) | rfl⟩
      · exact absurd rfl c_31
  · skip
    refine lv_iconst (v := 1) hx hb dX1_renew_10 (by decide) ?_
    refine lv_goto (tgt := 28) hx hb dX1_renew_11 (by decide) ?_
    refine rn_callI C hw hA (As := [.int 1]) (rest := []) (kX1_fails l k a ha σ 1 1 (by decide)) (cwV 1 hts gX1_renew_X1_fails rfl rfl rfl (by decide +kernel) ⟨Nat.le_of_ble_eq_true rfl, Nat.le_of_ble_eq_true rfl⟩) rfl hl.1 rfl (lv_room (Nat.le_of_ble_eq_true rfl)) dX1_renew_28 ⟨Nat.zero_le _, Nat.zero_le _⟩ (fun H locs hw => ?_)
    refine lv_if_eq (tgt := 36) hx hb dX1_renew_31 (by decide) (fun c_31 => ?_) (fun c_31 => ?_)
    · exact absurd c_31 (by decide)
    · skip
      refine lv_iconst (v := 0) hx hb dX1_renew_34 (by decide) ?_
      exact rn_iret C hr hlocks hw dX1_renew_35 ⟨by first | with_reducible rfl | (simp only [rn_renew, c_7, ↓reduceIte, Bool.false_eq_true]; done) | (simp only [rn_renew, c_7, ↓reduceIte, Bool.false_eq_true]; rfl) | rfl, by first | with_reducible rfl | (simp only [rn_renew, c_7, ↓reduceIte, Bool.false_eq_true]; done) | (simp only [rn_renew, c_7, ↓reduceIte, Bool.false_eq_true]; rfl) | rfl⟩

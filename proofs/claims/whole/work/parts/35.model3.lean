set_option maxHeartbeats 4000000 in
set_option maxRecDepth 100000 in
theorem kX1_up (l : Launch) (k : rm_K) (a : Nat → Nat) (ha : rn_inj a) (σ : rm_St) (x : Int32)  (hok : rn_ok σ) (hup : ∀ n, n < 10 → rn_upOK (rm_up σ 0 20 0) 21 n 0) : rn_MI l k a yX1_up wsX1_up ({ frames := 2, cells := 0, slots := 0, locals := 42 }) [.int x] σ ((rn_upS σ x).2) ((rn_upS σ x).1) := by
  refine rn_enterI (cc := cX1_up) (nL := 6) (ret := (some .int)) ha (by decide) rfl rfl (by decide +kernel) (Nat.le_of_ble_eq_true rfl) ?_
  intro p e s m args below meth c ls C hr hlocks hw hl
  have hx := C.1.1
  have hb := C.1.2.1
  have hts := C.1.2.2.2.2
  have hA : ∀ q, s.heap.size ≤ q → rn_A a s.heap.size q := fun q h => Or.inr h
  replace hl : lv_has ls 6 [(0, .ref (a 0)), (1, .int x)] := hl
  refine lv_aload_n hx hb dX1_up_0 rfl (lv_at hl 0 rfl) ?_
  refine lv_iload_n hx hb dX1_up_1 rfl (lv_at hl 1 rfl) ?_
  refine rn_callSI C hw (As := [.int x]) (rest := [.ref (a 0)]) (kX1_isNode l (x)) (va_cwS 1 hts gX1_up_X1_isNode rfl rfl rfl (by decide +kernel) ⟨Nat.le_of_ble_eq_true rfl, Nat.le_of_ble_eq_true rfl⟩) rfl hl.1 rfl (lv_room (Nat.le_of_ble_eq_true rfl)) dX1_up_2 ⟨Nat.zero_le _, Nat.zero_le _⟩ (fun H locs hw => ?_)
  refine rm_ifeq (tgt := 12) hx hb dX1_up_5 (by decide) (fun c_5 => ?_) (fun c_5 => ?_)
  · skip
    refine lv_iconst (v := 1) hx hb dX1_up_12 (by decide) ?_
    refine rn_callI C hw hA (As := [.int 1]) (rest := []) (kX1_fails l k a ha σ 1 1 (by decide)) (cwV 1 hts gX1_up_X1_fails rfl rfl rfl (by decide +kernel) ⟨Nat.le_of_ble_eq_true rfl, Nat.le_of_ble_eq_true rfl⟩) rfl hl.1 rfl (lv_room (Nat.le_of_ble_eq_true rfl)) dX1_up_13 ⟨Nat.zero_le _, Nat.zero_le _⟩ (fun H locs hw => ?_)
    refine lv_if_eq (tgt := 21) hx hb dX1_up_16 (by decide) (fun c_16 => ?_) (fun c_16 => ?_)
    · exact absurd c_16 (by decide)
    · skip
      refine lv_iconst (v := 0) hx hb dX1_up_19 (by decide) ?_
      exact rn_iret C hr hlocks hw dX1_up_20 ⟨by first | with_reducible rfl | (simp only [rn_upS, c_5, ↓reduceIte, Bool.false_eq_true]; done) | (simp only [rn_upS, c_5, ↓reduceIte, Bool.false_eq_true]; rfl) | rfl, by first | with_reducible rfl | (simp only [rn_upS, c_5, ↓reduceIte, Bool.false_eq_true]; done) | (simp only [rn_upS, c_5, ↓reduceIte, Bool.false_eq_true]; rfl) | rfl⟩
  · skip
    obtain ⟨xn, hxn, rfl⟩ := isNd_of c_5
    refine lv_iconst (v := 0) hx hb dX1_up_8 (by decide) ?_
    refine lv_goto (tgt := 13) hx hb dX1_up_9 (by decide) ?_
    refine rn_callI C hw hA (As := [.int 0]) (rest := []) (kX1_fails l k a ha σ 0 0 (by decide)) (cwV 1 hts gX1_up_X1_fails rfl rfl rfl (by decide +kernel) ⟨Nat.le_of_ble_eq_true rfl, Nat.le_of_ble_eq_true rfl⟩) rfl hl.1 rfl (lv_room (Nat.le_of_ble_eq_true rfl)) dX1_up_13 ⟨Nat.zero_le _, Nat.zero_le _⟩ (fun H locs hw => ?_)
    refine lv_if_eq (tgt := 21) hx hb dX1_up_16 (by decide) (fun c_16 => ?_) (fun c_16 => ?_)
    · skip
      refine lv_iload_n hx hb dX1_up_21 rfl (lv_at hl 1 rfl) ?_
      refine lv_istore_n (lv' := [(2, .int (nI xn)), (0, .ref (a 0)), (1, .int (nI xn))]) hx hb dX1_up_22 rfl hl (by decide) rfl (fun ls hl => ?_)
      refine lv_iconst (v := 0) hx hb dX1_up_23 (by decide) ?_
      refine lv_istore_n (lv' := [(3, .int 0), (2, .int (nI xn)), (0, .ref (a 0)), (1, .int (nI xn))]) hx hb dX1_up_24 rfl hl (by decide) rfl (fun ls hl => ?_)
      refine lv_iconst (v := 0) hx hb dX1_up_25 (by decide) ?_
      refine lv_istore (lv' := [(4, .int 0), (3, .int 0), (2, .int (nI xn)), (0, .ref (a 0)), (1, .int (nI xn))]) hx hb dX1_up_26 hl (by decide) rfl (fun ls hl => ?_)
      have lp : ∀ (r kk : Nat) (n d : Int32), rn_upL (rm_up σ 0 20 0) r kk n d = rn_upS σ (nI xn) → rn_upOK (rm_up σ 0 20 0) r kk d → kk < 10 → ∀ (H : Heap) (locs : List Loc), rn_Wd k a (rn_A a s.heap.size) s.heap s (rm_up σ 0 20 0) H locs → ∀ (ls : Array Slot), lv_has ls 6 [(0, .ref (a 0)), (1, .int ((nI xn))), (2, .int (nI kk)), (3, .int n), (4, .int d)] → W p l e (headSpec wsX1_up ({ frames := 2, cells := 0, slots := 0, locals := 42 })).room s m args below meth c H locs 0 0 (MQ below (va_Qi (fun (r : Int32) (τ : rm_St) => r = ((rn_upS σ (nI xn)).2) ∧ τ = ((rn_upS σ (nI xn)).1)) (fun τ t => rn_P k a τ t) (rn_A a s.heap.size)) args s 0 0 (rn_A a s.heap.size)) (F0 m 28 ls []) := by
        intro r
        induction r with
        | zero => intro kk n d ht hu hk H locs hw ls hl; exact hu.elim
        | succ r ih =>
          intro kk n d ht hu hk H locs hw ls hl
          refine lv_aload_n hx hb dX1_up_28 rfl (lv_at hl 0 rfl) ?_
          refine rn_geta C hw 6 2 (by decide) rfl (hts _ (by decide +kernel)) rfl dX1_up_29 ?_
          refine lv_iload_n hx hb dX1_up_32 rfl (lv_at hl 2 rfl) ?_
          refine rn_zald C hw hk dX1_up_33 ?_
          refine lv_if_ne (tgt := 109) hx hb dX1_up_34 (by decide) (fun c_34 => ?_) (fun c_34 => ?_)
          · skip
            refine lv_aload_n hx hb dX1_up_109 rfl (lv_at hl 0 rfl) ?_
            refine rn_geta C hw 6 2 (by decide) rfl (hts _ (by decide +kernel)) rfl dX1_up_110 ?_
            refine lv_iload_n hx hb dX1_up_113 rfl (lv_at hl 2 rfl) ?_
            refine rn_zald C hw hk dX1_up_114 ?_
            refine lv_if_eq (tgt := 122) hx hb dX1_up_115 (by decide) (fun c_115x => ?_) (fun c_115x => ?_)
            · exact absurd c_115x c_34
            · skip
              refine lv_iload_n hx hb dX1_up_118 rfl (lv_at hl 3 rfl) ?_
              refine lv_goto (tgt := 123) hx hb dX1_up_119 (by decide) ?_
              exact rn_iret C hr hlocks hw dX1_up_123 ⟨by rw [← ht, rn_upL, if_neg c_34], by rw [← ht, rn_upL, if_neg c_34]⟩
          · skip
            refine lv_aload_n hx hb dX1_up_37 rfl (lv_at hl 0 rfl) ?_
            refine rn_geta C hw 11 7 (by decide) rfl (hts _ (by decide +kernel)) rfl dX1_up_38 ?_
            refine lv_iload_n hx hb dX1_up_41 rfl (lv_at hl 2 rfl) ?_
            refine rn_iald C hw (N := 10) (by decide) hk (by decide) dX1_up_42 ?_
            refine lv_iconst (v := (-1)) hx hb dX1_up_43 (by decide) ?_
            refine lv_icmp_eq (tgt := 109) hx hb dX1_up_44 (by decide) (fun c_44 => ?_) (fun c_44 => ?_)
            · skip
              refine lv_aload_n hx hb dX1_up_109 rfl (lv_at hl 0 rfl) ?_
              refine rn_geta C hw 6 2 (by decide) rfl (hts _ (by decide +kernel)) rfl dX1_up_110 ?_
              refine lv_iload_n hx hb dX1_up_113 rfl (lv_at hl 2 rfl) ?_
              refine rn_zald C hw hk dX1_up_114 ?_
              refine lv_if_eq (tgt := 122) hx hb dX1_up_115 (by decide) (fun c_115x => ?_) (fun c_115x => ?_)
              · skip
                refine lv_iconst (v := (-1)) hx hb dX1_up_122 (by decide) ?_
                exact rn_iret C hr hlocks hw dX1_up_123 ⟨by rw [← ht, rn_upL, if_pos c_34, if_pos c_44], by rw [← ht, rn_upL, if_pos c_34, if_pos c_44]⟩
              · exact absurd c_34 c_115x
            · skip
              obtain ⟨oo, hoo, eoo⟩ := isNd_of ((hok kk hk).resolve_left (fun q => c_44 (by rw [rm_up_k (by decide)]; exact q)))
              have eoo : (rm_up σ 0 20 0) 7 kk = nI oo := by rw [rm_up_k (by decide)]; exact eoo
              have eok : ((rm_up σ 0 20 0) 7 kk).toNatClampNeg = oo := by rw [eoo, rm_cl hoo]
              refine lv_aload_n hx hb dX1_up_47 rfl (lv_at hl 0 rfl) ?_
              refine rn_geta C hw 11 7 (by decide) rfl (hts _ (by decide +kernel)) rfl dX1_up_48 ?_
              refine lv_iload_n hx hb dX1_up_51 rfl (lv_at hl 2 rfl) ?_
              refine rn_iald C hw (N := 10) (by decide) hk (by decide) dX1_up_52 ?_
              rw [eoo]
              refine lv_istore (lv' := [(5, .int (nI oo)), (0, .ref (a 0)), (1, .int (nI xn)), (2, .int (nI kk)), (3, .int n), (4, .int d)]) hx hb dX1_up_53 hl (by decide) rfl (fun ls hl => ?_)
              refine lv_iload hx hb dX1_up_55 (lv_at hl 5 rfl) ?_
              refine lv_aload_n hx hb dX1_up_57 rfl (lv_at hl 1 rfl) ?_
              refine rn_geta C hw 10 6 (by decide) rfl (hts _ (by decide +kernel)) rfl dX1_up_58 ?_
              refine lv_iload hx hb dX1_up_61 (lv_at hl 0 rfl) ?_
              refine rn_iald C hw (N := 10) (by decide) hoo (by decide) dX1_up_63 ?_
              refine lv_aload_n hx hb dX1_up_64 rfl (lv_at hl 1 rfl) ?_
              refine rn_geta C hw 10 6 (by decide) rfl (hts _ (by decide +kernel)) rfl dX1_up_65 ?_
              refine lv_iload_n hx hb dX1_up_68 rfl (lv_at hl 3 rfl) ?_
              refine rn_iald C hw (N := 10) (by decide) hk (by decide) dX1_up_69 ?_
              refine lv_icmp_lt (tgt := 77) hx hb dX1_up_70 (by decide) (fun c_70 => ?_) (fun c_70 => ?_)
              · skip
                refine lv_iconst (v := 0) hx hb dX1_up_77 (by decide) ?_
                refine lv_iadd hx hb dX1_up_78 ?_
                refine lv_istore (lv' := [(4, .int ((d) + (0))), (5, .int (nI oo)), (0, .ref (a 0)), (1, .int (nI xn)), (2, .int (nI kk)), (3, .int n)]) hx hb dX1_up_79 hl (by decide) rfl (fun ls hl => ?_)
                refine lv_iload hx hb dX1_up_81 (lv_at hl 0 rfl) ?_
                refine lv_iconst (v := 2) hx hb dX1_up_83 (by decide) ?_
                refine lv_icmp_ne (tgt := 100) hx hb dX1_up_84 (by decide) (fun c_84 => ?_) (fun c_84 => ?_)
                · skip
                  refine lv_iload hx hb dX1_up_100 (lv_at hl 1 rfl) ?_
                  refine lv_istore_n (lv' := [(2, .int (nI oo)), (4, .int ((d) + (0))), (5, .int (nI oo)), (0, .ref (a 0)), (1, .int (nI xn)), (3, .int n)]) hx hb dX1_up_102 rfl hl (by decide) rfl (fun ls hl => ?_)
                  refine lv_iinc (v := (n) + 1) (lv' := [(3, .int ((n) + 1)), (2, .int (nI oo)), (4, .int ((d) + (0))), (5, .int (nI oo)), (0, .ref (a 0)), (1, .int (nI xn))]) hx hb dX1_up_103 hl (k := 5) rfl rfl (by decide) rfl (fun ls hl => ?_)
                  refine lv_goto (tgt := 28) hx hb dX1_up_106 (by decide) ?_
                  have hod : rn_odd (rm_up σ 0 20 0) kk d = (d) + (0) := by rw [rn_odd, eok, if_pos c_70]
                  have hu2 := hu c_34 c_44 (by rw [hod]; exact c_84)
                  rw [eok, hod] at hu2
                  exact ih oo ((n) + 1) ((d) + (0)) (by rw [← ht, rn_upL, if_pos c_34, if_neg c_44, if_neg (by rw [hod]; exact c_84), eok, hod]) hu2 hoo _ _ hw _ (lv_sub hl [4, 5, 1, 0, 2] rfl)
                · skip
                  refine lv_aload_n hx hb dX1_up_87 rfl (lv_at hl 2 rfl) ?_
                  refine lv_dup hx hb dX1_up_88 rfl ?_
                  refine rn_geti C hw 19 (by decide) (hts _ (by decide +kernel)) rfl dX1_up_89 ?_
                  refine lv_iconst (v := 1) hx hb dX1_up_92 (by decide) ?_
                  refine lv_iadd hx hb dX1_up_93 ?_
                  refine rn_puti C hw 19 (by decide) (hts _ (by decide +kernel)) rfl rfl rfl dX1_up_94 (fun H locs hw => ?_)
                  refine lv_bipush (v := (-2)) hx hb dX1_up_97 (by decide) ?_
                  exact rn_iret C hr hlocks hw dX1_up_99 ⟨by rw [← ht, rn_upL, if_pos c_34, if_neg c_44, if_pos (by rw [rn_odd, eok, if_pos c_70]; exact c_84)], by rw [← ht, rn_upL, if_pos c_34, if_neg c_44, if_pos (by rw [rn_odd, eok, if_pos c_70]; exact c_84)]⟩
              · skip
                refine lv_iconst (v := 1) hx hb dX1_up_73 (by decide) ?_
                refine lv_goto (tgt := 78) hx hb dX1_up_74 (by decide) ?_
                refine lv_iadd hx hb dX1_up_78 ?_
                refine lv_istore (lv' := [(4, .int ((d) + (1))), (5, .int (nI oo)), (0, .ref (a 0)), (1, .int (nI xn)), (2, .int (nI kk)), (3, .int n)]) hx hb dX1_up_79 hl (by decide) rfl (fun ls hl => ?_)
                refine lv_iload hx hb dX1_up_81 (lv_at hl 0 rfl) ?_
                refine lv_iconst (v := 2) hx hb dX1_up_83 (by decide) ?_
                refine lv_icmp_ne (tgt := 100) hx hb dX1_up_84 (by decide) (fun c_84 => ?_) (fun c_84 => ?_)
                · skip
                  refine lv_iload hx hb dX1_up_100 (lv_at hl 1 rfl) ?_
                  refine lv_istore_n (lv' := [(2, .int (nI oo)), (4, .int ((d) + (1))), (5, .int (nI oo)), (0, .ref (a 0)), (1, .int (nI xn)), (3, .int n)]) hx hb dX1_up_102 rfl hl (by decide) rfl (fun ls hl => ?_)
                  refine lv_iinc (v := (n) + 1) (lv' := [(3, .int ((n) + 1)), (2, .int (nI oo)), (4, .int ((d) + (1))), (5, .int (nI oo)), (0, .ref (a 0)), (1, .int (nI xn))]) hx hb dX1_up_103 hl (k := 5) rfl rfl (by decide) rfl (fun ls hl => ?_)
                  refine lv_goto (tgt := 28) hx hb dX1_up_106 (by decide) ?_
                  have hod : rn_odd (rm_up σ 0 20 0) kk d = (d) + (1) := by rw [rn_odd, eok, if_neg c_70]
                  have hu2 := hu c_34 c_44 (by rw [hod]; exact c_84)
                  rw [eok, hod] at hu2
                  exact ih oo ((n) + 1) ((d) + (1)) (by rw [← ht, rn_upL, if_pos c_34, if_neg c_44, if_neg (by rw [hod]; exact c_84), eok, hod]) hu2 hoo _ _ hw _ (lv_sub hl [4, 5, 1, 0, 2] rfl)
                · skip
                  refine lv_aload_n hx hb dX1_up_87 rfl (lv_at hl 2 rfl) ?_
                  refine lv_dup hx hb dX1_up_88 rfl ?_
                  refine rn_geti C hw 19 (by decide) (hts _ (by decide +kernel)) rfl dX1_up_89 ?_
                  refine lv_iconst (v := 1) hx hb dX1_up_92 (by decide) ?_
                  refine lv_iadd hx hb dX1_up_93 ?_
                  refine rn_puti C hw 19 (by decide) (hts _ (by decide +kernel)) rfl rfl rfl dX1_up_94 (fun H locs hw => ?_)
                  refine lv_bipush (v := (-2)) hx hb dX1_up_97 (by decide) ?_
                  exact rn_iret C hr hlocks hw dX1_up_99 ⟨by rw [← ht, rn_upL, if_pos c_34, if_neg c_44, if_pos (by rw [rn_odd, eok, if_neg c_70]; exact c_84)], by rw [← ht, rn_upL, if_pos c_34, if_neg c_44, if_pos (by rw [rn_odd, eok, if_neg c_70]; exact c_84)]⟩
      exact lp 21 xn 0 0 (by simp only [rn_upS, isNd_nI hxn, rm_cl hxn, ↓reduceIte]) (hup xn hxn) hxn _ _ hw _ (lv_sub hl [3, 4, 2, 1, 0] rfl)
    · exact absurd rfl c_16
set_option maxHeartbeats 4000000 in
set_option maxRecDepth 100000 in
theorem kX1_down (l : Launch) (k : rm_K) (a : Nat → Nat) (ha : rn_inj a) (σ : rm_St) (x : Int32) (y : Int32)  (hdn : ∀ n o, n < 10 → o < 10 → ¬ nI n = nI o → (rn_under σ n >>> (nI o &&& 31)) &&& 1 = 1 → rn_dnOK (rm_up σ 0 20 0) (nI n) 10 o) : rn_MI l k a yX1_down wsX1_down ({ frames := 2, cells := 0, slots := 0, locals := 42 }) [.int x, .int y] σ ((rn_downS σ x y).2) ((rn_downS σ x y).1) := by
  refine rn_enterI (cc := cX1_down) (nL := 5) (ret := (some .int)) ha (by decide) rfl rfl (by decide +kernel) (Nat.le_of_ble_eq_true rfl) ?_
  intro p e s m args below meth c ls C hr hlocks hw hl
  have hx := C.1.1
  have hb := C.1.2.1
  have hts := C.1.2.2.2.2
  have hA : ∀ q, s.heap.size ≤ q → rn_A a s.heap.size q := fun q h => Or.inr h
  replace hl : lv_has ls 5 [(0, .ref (a 0)), (1, .int x), (2, .int y)] := hl
  refine lv_iload_n hx hb dX1_down_0 rfl (lv_at hl 1 rfl) ?_
  refine rn_callSI C hw (As := [.int x]) (rest := []) (kX1_isNode l (x)) (va_cwS 1 hts gX1_down_X1_isNode rfl rfl rfl (by decide +kernel) ⟨Nat.le_of_ble_eq_true rfl, Nat.le_of_ble_eq_true rfl⟩) rfl hl.1 rfl (lv_room (Nat.le_of_ble_eq_true rfl)) dX1_down_1 ⟨Nat.zero_le _, Nat.zero_le _⟩ (fun H locs hw => ?_)
  refine rm_ifeq (tgt := 18) hx hb dX1_down_4 (by decide) (fun c_4 => ?_) (fun c_4 => ?_)
  · skip
    refine lv_iconst (v := 0) hx hb dX1_down_18 (by decide) ?_
    refine lv_istore_n (lv' := [(3, .int 0), (0, .ref (a 0)), (1, .int x), (2, .int y)]) hx hb dX1_down_19 rfl hl (by decide) rfl (fun ls hl => ?_)
    refine lv_aload_n hx hb dX1_down_20 rfl (lv_at hl 1 rfl) ?_
    refine lv_iload_n hx hb dX1_down_21 rfl (lv_at hl 0 rfl) ?_
    refine lv_if_ne (tgt := 29) hx hb dX1_down_22 (by decide) (fun c_22 => ?_) (fun c_22 => ?_)
    · exact absurd rfl c_22
    · skip
      refine lv_iconst (v := 1) hx hb dX1_down_25 (by decide) ?_
      refine lv_goto (tgt := 52) hx hb dX1_down_26 (by decide) ?_
      refine rn_callI C hw hA (As := [.int 1]) (rest := []) (kX1_fails l k a ha σ 1 1 (by decide)) (cwV 1 hts gX1_down_X1_fails rfl rfl rfl (by decide +kernel) ⟨Nat.le_of_ble_eq_true rfl, Nat.le_of_ble_eq_true rfl⟩) rfl hl.1 rfl (lv_room (Nat.le_of_ble_eq_true rfl)) dX1_down_52 ⟨Nat.zero_le _, Nat.zero_le _⟩ (fun H locs hw => ?_)
      refine lv_if_eq (tgt := 60) hx hb dX1_down_55 (by decide) (fun c_55 => ?_) (fun c_55 => ?_)
      · exact absurd c_55 (by decide)
      · skip
        refine lv_iconst (v := 0) hx hb dX1_down_58 (by decide) ?_
        exact rn_iret C hr hlocks hw dX1_down_59 ⟨by first | with_reducible rfl | (simp only [rn_downS, c_4, ↓reduceIte, Bool.false_eq_true]; done) | (simp only [rn_downS, c_4, ↓reduceIte, Bool.false_eq_true]; rfl) | rfl, by first | with_reducible rfl | (simp only [rn_downS, c_4, ↓reduceIte, Bool.false_eq_true]; done) | (simp only [rn_downS, c_4, ↓reduceIte, Bool.false_eq_true]; rfl) | rfl⟩
  · skip
    obtain ⟨xn, hxn, rfl⟩ := isNd_of c_4
    refine lv_iload_n hx hb dX1_down_7 rfl (lv_at hl 2 rfl) ?_
    refine rn_callSI C hw (As := [.int y]) (rest := []) (kX1_isNode l (y)) (va_cwS 1 hts gX1_down_X1_isNode rfl rfl rfl (by decide +kernel) ⟨Nat.le_of_ble_eq_true rfl, Nat.le_of_ble_eq_true rfl⟩) rfl hl.1 rfl (lv_room (Nat.le_of_ble_eq_true rfl)) dX1_down_8 ⟨Nat.zero_le _, Nat.zero_le _⟩ (fun H locs hw => ?_)
    refine rm_ifeq (tgt := 18) hx hb dX1_down_11 (by decide) (fun c_11 => ?_) (fun c_11 => ?_)
    · skip
      refine lv_iconst (v := 0) hx hb dX1_down_18 (by decide) ?_
      refine lv_istore_n (lv' := [(3, .int 0), (0, .ref (a 0)), (1, .int (nI xn)), (2, .int y)]) hx hb dX1_down_19 rfl hl (by decide) rfl (fun ls hl => ?_)
      refine lv_aload_n hx hb dX1_down_20 rfl (lv_at hl 1 rfl) ?_
      refine lv_iload_n hx hb dX1_down_21 rfl (lv_at hl 0 rfl) ?_
      refine lv_if_ne (tgt := 29) hx hb dX1_down_22 (by decide) (fun c_22 => ?_) (fun c_22 => ?_)
      · exact absurd rfl c_22
      · skip
        refine lv_iconst (v := 1) hx hb dX1_down_25 (by decide) ?_
        refine lv_goto (tgt := 52) hx hb dX1_down_26 (by decide) ?_
        refine rn_callI C hw hA (As := [.int 1]) (rest := []) (kX1_fails l k a ha σ 1 1 (by decide)) (cwV 1 hts gX1_down_X1_fails rfl rfl rfl (by decide +kernel) ⟨Nat.le_of_ble_eq_true rfl, Nat.le_of_ble_eq_true rfl⟩) rfl hl.1 rfl (lv_room (Nat.le_of_ble_eq_true rfl)) dX1_down_52 ⟨Nat.zero_le _, Nat.zero_le _⟩ (fun H locs hw => ?_)
        refine lv_if_eq (tgt := 60) hx hb dX1_down_55 (by decide) (fun c_55 => ?_) (fun c_55 => ?_)
        · exact absurd c_55 (by decide)
        · skip
          refine lv_iconst (v := 0) hx hb dX1_down_58 (by decide) ?_
          exact rn_iret C hr hlocks hw dX1_down_59 ⟨by first | with_reducible rfl | (simp only [rn_downS, c_4, rm_cl hxn, isNd_nI hxn, c_11, ↓reduceIte, Bool.false_eq_true]; done) | (simp only [rn_downS, c_4, rm_cl hxn, isNd_nI hxn, c_11, ↓reduceIte, Bool.false_eq_true]; rfl) | rfl, by first | with_reducible rfl | (simp only [rn_downS, c_4, rm_cl hxn, isNd_nI hxn, c_11, ↓reduceIte, Bool.false_eq_true]; done) | (simp only [rn_downS, c_4, rm_cl hxn, isNd_nI hxn, c_11, ↓reduceIte, Bool.false_eq_true]; rfl) | rfl⟩
    · skip
      obtain ⟨yn, hyn, rfl⟩ := isNd_of c_11
      refine lv_iconst (v := 1) hx hb dX1_down_14 (by decide) ?_
      refine lv_goto (tgt := 19) hx hb dX1_down_15 (by decide) ?_
      refine lv_istore_n (lv' := [(3, .int 1), (0, .ref (a 0)), (1, .int (nI xn)), (2, .int (nI yn))]) hx hb dX1_down_19 rfl hl (by decide) rfl (fun ls hl => ?_)
      refine lv_aload_n hx hb dX1_down_20 rfl (lv_at hl 1 rfl) ?_
      refine lv_iload_n hx hb dX1_down_21 rfl (lv_at hl 0 rfl) ?_
      refine lv_if_ne (tgt := 29) hx hb dX1_down_22 (by decide) (fun c_22 => ?_) (fun c_22 => ?_)
      · skip
        refine lv_iload_n hx hb dX1_down_29 rfl (lv_at hl 2 rfl) ?_
        refine lv_iload_n hx hb dX1_down_30 rfl (lv_at hl 3 rfl) ?_
        refine lv_icmp_eq (tgt := 51) hx hb dX1_down_31 (by decide) (fun c_31 => ?_) (fun c_31 => ?_)
        · skip
          refine lv_iconst (v := 2) hx hb dX1_down_51 (by decide) ?_
          refine rn_callI C hw hA (As := [.int 2]) (rest := []) (kX1_fails l k a ha σ 2 1 (by decide)) (cwV 1 hts gX1_down_X1_fails rfl rfl rfl (by decide +kernel) ⟨Nat.le_of_ble_eq_true rfl, Nat.le_of_ble_eq_true rfl⟩) rfl hl.1 rfl (lv_room (Nat.le_of_ble_eq_true rfl)) dX1_down_52 ⟨Nat.zero_le _, Nat.zero_le _⟩ (fun H locs hw => ?_)
          refine lv_if_eq (tgt := 60) hx hb dX1_down_55 (by decide) (fun c_55 => ?_) (fun c_55 => ?_)
          · exact absurd c_55 (by decide)
          · skip
            refine lv_iconst (v := 0) hx hb dX1_down_58 (by decide) ?_
            exact rn_iret C hr hlocks hw dX1_down_59 ⟨by first | with_reducible rfl | (simp only [rn_downS, c_4, rm_cl hxn, isNd_nI hxn, c_11, rm_cl hyn, isNd_nI hyn, if_pos c_31, ↓reduceIte, Bool.false_eq_true]; done) | (simp only [rn_downS, c_4, rm_cl hxn, isNd_nI hxn, c_11, rm_cl hyn, isNd_nI hyn, if_pos c_31, ↓reduceIte, Bool.false_eq_true]; rfl) | rfl, by first | with_reducible rfl | (simp only [rn_downS, c_4, rm_cl hxn, isNd_nI hxn, c_11, rm_cl hyn, isNd_nI hyn, if_pos c_31, ↓reduceIte, Bool.false_eq_true]; done) | (simp only [rn_downS, c_4, rm_cl hxn, isNd_nI hxn, c_11, rm_cl hyn, isNd_nI hyn, if_pos c_31, ↓reduceIte, Bool.false_eq_true]; rfl) | rfl⟩
        · skip
          refine lv_aload_n hx hb dX1_down_34 rfl (lv_at hl 1 rfl) ?_
          refine lv_iload_n hx hb dX1_down_35 rfl (lv_at hl 2 rfl) ?_
          refine rn_callI C hw hA (As := [.int (nI xn)]) (rest := [.ref (a 0)]) (kX1_under l k a ha σ xn hxn) (cwV 1 hts gX1_down_X1_under rfl rfl rfl (by decide +kernel) ⟨Nat.le_of_ble_eq_true rfl, Nat.le_of_ble_eq_true rfl⟩) rfl hl.1 rfl (lv_room (Nat.le_of_ble_eq_true rfl)) dX1_down_36 ⟨Nat.zero_le _, Nat.zero_le _⟩ (fun H locs hw => ?_)
          refine lv_iload_n hx hb dX1_down_39 rfl (lv_at hl 3 rfl) ?_
          refine lv_ishr hx hb dX1_down_40 ?_
          refine lv_iconst (v := 1) hx hb dX1_down_41 (by decide) ?_
          refine lv_iand hx hb dX1_down_42 ?_
          refine lv_iconst (v := 1) hx hb dX1_down_43 (by decide) ?_
          refine lv_icmp_ne (tgt := 51) hx hb dX1_down_44 (by decide) (fun c_44 => ?_) (fun c_44 => ?_)
          · skip
            refine lv_iconst (v := 2) hx hb dX1_down_51 (by decide) ?_
            refine rn_callI C hw hA (As := [.int 2]) (rest := []) (kX1_fails l k a ha σ 2 1 (by decide)) (cwV 1 hts gX1_down_X1_fails rfl rfl rfl (by decide +kernel) ⟨Nat.le_of_ble_eq_true rfl, Nat.le_of_ble_eq_true rfl⟩) rfl hl.1 rfl (lv_room (Nat.le_of_ble_eq_true rfl)) dX1_down_52 ⟨Nat.zero_le _, Nat.zero_le _⟩ (fun H locs hw => ?_)
            refine lv_if_eq (tgt := 60) hx hb dX1_down_55 (by decide) (fun c_55 => ?_) (fun c_55 => ?_)
            · exact absurd c_55 (by decide)
            · skip
              refine lv_iconst (v := 0) hx hb dX1_down_58 (by decide) ?_
              exact rn_iret C hr hlocks hw dX1_down_59 ⟨by first | with_reducible rfl | (simp only [rn_downS, c_4, rm_cl hxn, isNd_nI hxn, c_11, rm_cl hyn, isNd_nI hyn, if_neg c_31, if_neg c_44, ↓reduceIte, Bool.false_eq_true]; done) | (simp only [rn_downS, c_4, rm_cl hxn, isNd_nI hxn, c_11, rm_cl hyn, isNd_nI hyn, if_neg c_31, if_neg c_44, ↓reduceIte, Bool.false_eq_true]; rfl) | rfl, by first | with_reducible rfl | (simp only [rn_downS, c_4, rm_cl hxn, isNd_nI hxn, c_11, rm_cl hyn, isNd_nI hyn, if_neg c_31, if_neg c_44, ↓reduceIte, Bool.false_eq_true]; done) | (simp only [rn_downS, c_4, rm_cl hxn, isNd_nI hxn, c_11, rm_cl hyn, isNd_nI hyn, if_neg c_31, if_neg c_44, ↓reduceIte, Bool.false_eq_true]; rfl) | rfl⟩
          · skip
            refine lv_iconst (v := 0) hx hb dX1_down_47 (by decide) ?_
            refine lv_goto (tgt := 52) hx hb dX1_down_48 (by decide) ?_
            refine rn_callI C hw hA (As := [.int 0]) (rest := []) (kX1_fails l k a ha σ 0 0 (by decide)) (cwV 1 hts gX1_down_X1_fails rfl rfl rfl (by decide +kernel) ⟨Nat.le_of_ble_eq_true rfl, Nat.le_of_ble_eq_true rfl⟩) rfl hl.1 rfl (lv_room (Nat.le_of_ble_eq_true rfl)) dX1_down_52 ⟨Nat.zero_le _, Nat.zero_le _⟩ (fun H locs hw => ?_)
            refine lv_if_eq (tgt := 60) hx hb dX1_down_55 (by decide) (fun c_55 => ?_) (fun c_55 => ?_)
            · skip
              refine lv_iload_n hx hb dX1_down_60 rfl (lv_at hl 3 rfl) ?_
              refine lv_istore (lv' := [(4, .int (nI yn)), (3, .int 1), (0, .ref (a 0)), (1, .int (nI xn)), (2, .int (nI yn))]) hx hb dX1_down_61 hl (by decide) rfl (fun ls hl => ?_)
              have lp : ∀ (r kk : Nat), rn_dnL (rm_up σ 0 20 0) (nI xn) r kk = rn_dnL (rm_up σ 0 20 0) (nI xn) 10 yn → rn_dnOK (rm_up σ 0 20 0) (nI xn) r kk → kk < 10 → ∀ (H : Heap) (locs : List Loc), rn_Wd k a (rn_A a s.heap.size) s.heap s (rm_up σ 0 20 0) H locs → ∀ (ls : Array Slot), lv_has ls 5 [(0, .ref (a 0)), (1, .int (nI xn)), (4, .int (nI kk))] → W p l e (headSpec wsX1_down ({ frames := 2, cells := 0, slots := 0, locals := 42 })).room s m args below meth c H locs 0 0 (MQ below (va_Qi (fun (r : Int32) (τ : rm_St) => r = ((rn_downS σ (nI xn) (nI yn)).2) ∧ τ = ((rn_downS σ (nI xn) (nI yn)).1)) (fun τ t => rn_P k a τ t) (rn_A a s.heap.size)) args s 0 0 (rn_A a s.heap.size)) (F0 m 63 ls []) := by
                intro r
                induction r with
                | zero => intro kk ht hu hk H locs hw ls hl; exact hu.elim
                | succ r ih =>
                  intro kk ht hu hk H locs hw ls hl
                  refine lv_aload_n hx hb dX1_down_63 rfl (lv_at hl 0 rfl) ?_
                  refine rn_geta C hw 11 7 (by decide) rfl (hts _ (by decide +kernel)) rfl dX1_down_64 ?_
                  refine lv_iload hx hb dX1_down_67 (lv_at hl 2 rfl) ?_
                  refine rn_iald C hw (N := 10) (by decide) hk (by decide) dX1_down_69 ?_
                  refine lv_iload_n hx hb dX1_down_70 rfl (lv_at hl 1 rfl) ?_
                  refine lv_icmp_eq (tgt := 86) hx hb dX1_down_71 (by decide) (fun c_71 => ?_) (fun c_71 => ?_)
                  · skip
                    refine lv_iload hx hb dX1_down_86 (lv_at hl 2 rfl) ?_
                    exact rn_iret C hr hlocks hw dX1_down_88 ⟨by simp only [rn_downS, c_4, rm_cl hxn, isNd_nI hxn, c_11, rm_cl hyn, isNd_nI hyn, if_neg c_31, if_pos c_44, ↓reduceIte, Bool.false_eq_true]; rw [← ht, rn_dnL, if_pos c_71], by simp only [rn_downS, c_4, rm_cl hxn, isNd_nI hxn, c_11, rm_cl hyn, isNd_nI hyn, if_neg c_31, if_pos c_44, ↓reduceIte, Bool.false_eq_true]⟩
                  · skip
                    obtain ⟨hnd, hu2⟩ := hu c_71
                    obtain ⟨oo, hoo, eoo⟩ := isNd_of hnd
                    have eok : ((rm_up σ 0 20 0) 7 kk).toNatClampNeg = oo := by rw [eoo, rm_cl hoo]
                    rw [eok] at hu2
                    refine lv_aload_n hx hb dX1_down_74 rfl (lv_at hl 0 rfl) ?_
                    refine rn_geta C hw 11 7 (by decide) rfl (hts _ (by decide +kernel)) rfl dX1_down_75 ?_
                    refine lv_iload hx hb dX1_down_78 (lv_at hl 2 rfl) ?_
                    refine rn_iald C hw (N := 10) (by decide) hk (by decide) dX1_down_80 ?_
                    rw [eoo]
                    refine lv_istore (lv' := [(4, .int (nI oo)), (0, .ref (a 0)), (1, .int (nI xn))]) hx hb dX1_down_81 hl (by decide) rfl (fun ls hl => ?_)
                    refine lv_goto (tgt := 63) hx hb dX1_down_83 (by decide) ?_
                    exact ih oo (by rw [← ht, rn_dnL, if_neg c_71, eok]) hu2 hoo _ _ hw _ (lv_sub hl [1, 2, 0] rfl)
              exact lp 10 yn rfl (hdn xn yn hxn hyn c_31 c_44) hyn _ _ hw _ (lv_sub hl [2, 3, 0] rfl)
            · exact absurd rfl c_55
      · exact absurd c_22 (by decide)

set_option maxHeartbeats 4000000 in
set_option maxRecDepth 100000 in
theorem kX1_leastRank (l : Launch) (k : rm_K) (a : Nat → Nat) (ha : rn_inj a) (σ : rm_St) (x : Int32)  : rn_MI l k a yX1_leastRank wsX1_leastRank ({ frames := 2, cells := 0, slots := 0, locals := 42 }) [.int x] σ ((rn_leastRank σ x).2) ((rn_leastRank σ x).1) := by
  refine rn_enterI (cc := cX1_leastRank) (nL := 6) (ret := (some .int)) ha (by decide) rfl rfl (by decide +kernel) (Nat.le_of_ble_eq_true rfl) ?_
  intro p e s m args below meth c ls C hr hlocks hw hl
  have hx := C.1.1
  have hb := C.1.2.1
  have hts := C.1.2.2.2.2
  have hA : ∀ q, s.heap.size ≤ q → rn_A a s.heap.size q := fun q h => Or.inr h
  replace hl : lv_has ls 6 [(0, .ref (a 0)), (1, .int x)] := hl
  refine lv_aload_n hx hb dX1_leastRank_0 rfl (lv_at hl 0 rfl) ?_
  refine lv_iload_n hx hb dX1_leastRank_1 rfl (lv_at hl 1 rfl) ?_
  refine rn_callSI C hw (As := [.int x]) (rest := [.ref (a 0)]) (kX1_isNode l (x)) (va_cwS 1 hts gX1_leastRank_X1_isNode rfl rfl rfl (by decide +kernel) ⟨Nat.le_of_ble_eq_true rfl, Nat.le_of_ble_eq_true rfl⟩) rfl hl.1 rfl (lv_room (Nat.le_of_ble_eq_true rfl)) dX1_leastRank_2 ⟨Nat.zero_le _, Nat.zero_le _⟩ (fun H locs hw => ?_)
  refine rm_ifeq (tgt := 12) hx hb dX1_leastRank_5 (by decide) (fun c_5 => ?_) (fun c_5 => ?_)
  · skip
    refine lv_iconst (v := 1) hx hb dX1_leastRank_12 (by decide) ?_
    refine rn_callI C hw hA (As := [.int 1]) (rest := []) (kX1_fails l k a ha σ 1 1 (by decide)) (cwV 1 hts gX1_leastRank_X1_fails rfl rfl rfl (by decide +kernel) ⟨Nat.le_of_ble_eq_true rfl, Nat.le_of_ble_eq_true rfl⟩) rfl hl.1 rfl (lv_room (Nat.le_of_ble_eq_true rfl)) dX1_leastRank_13 ⟨Nat.zero_le _, Nat.zero_le _⟩ (fun H locs hw => ?_)
    refine lv_if_eq (tgt := 21) hx hb dX1_leastRank_16 (by decide) (fun c_16 => ?_) (fun c_16 => ?_)
    · exact absurd c_16 (by decide)
    · skip
      refine lv_iconst (v := 0) hx hb dX1_leastRank_19 (by decide) ?_
      exact rn_iret C hr hlocks hw dX1_leastRank_20 ⟨by first | with_reducible rfl | (simp only [rn_leastRank, c_5, ↓reduceIte, Bool.false_eq_true]; done) | (simp only [rn_leastRank, c_5, ↓reduceIte, Bool.false_eq_true]; rfl) | rfl, by first | with_reducible rfl | (simp only [rn_leastRank, c_5, ↓reduceIte, Bool.false_eq_true]; done) | (simp only [rn_leastRank, c_5, ↓reduceIte, Bool.false_eq_true]; rfl) | rfl⟩
  · skip
    obtain ⟨xn, hxn, rfl⟩ := isNd_of c_5
    refine lv_iconst (v := 0) hx hb dX1_leastRank_8 (by decide) ?_
    refine lv_goto (tgt := 13) hx hb dX1_leastRank_9 (by decide) ?_
    refine rn_callI C hw hA (As := [.int 0]) (rest := []) (kX1_fails l k a ha σ 0 0 (by decide)) (cwV 1 hts gX1_leastRank_X1_fails rfl rfl rfl (by decide +kernel) ⟨Nat.le_of_ble_eq_true rfl, Nat.le_of_ble_eq_true rfl⟩) rfl hl.1 rfl (lv_room (Nat.le_of_ble_eq_true rfl)) dX1_leastRank_13 ⟨Nat.zero_le _, Nat.zero_le _⟩ (fun H locs hw => ?_)
    refine lv_if_eq (tgt := 21) hx hb dX1_leastRank_16 (by decide) (fun c_16 => ?_) (fun c_16 => ?_)
    · skip
      refine lv_iconst (v := 0) hx hb dX1_leastRank_21 (by decide) ?_
      refine lv_istore_n (lv' := [(2, .int 0), (0, .ref (a 0)), (1, .int (nI xn))]) hx hb dX1_leastRank_22 rfl hl (by decide) rfl (fun ls hl => ?_)
      have lp_23 : ∀ (r i : Nat), i + r = 10 → ∀ (τ23 : rm_St), rn_wayI r i τ23 = rn_wayI 10 0 (rm_up σ 0 20 0) → ∀ (H : Heap) (locs : List Loc), rn_Wd k a (rn_A a s.heap.size) s.heap s τ23 H locs → ∀ (ls : Array Slot), lv_has ls 6 [(0, .ref (a 0)), (1, .int (nI xn)), (2, .int (nI i))] → W p l e (headSpec wsX1_leastRank ({ frames := 2, cells := 0, slots := 0, locals := 42 })).room s m args below meth c H locs 0 0 (MQ below (va_Qi (fun (r : Int32) (τ : rm_St) => r = ((rn_leastRank σ (nI xn)).2) ∧ τ = ((rn_leastRank σ (nI xn)).1)) (fun τ t => rn_P k a τ t) (rn_A a s.heap.size)) args s 0 0 (rn_A a s.heap.size)) (F0 m 23 ls []) := by
        intro r
        induction r with
        | zero =>
          intro i hi23 τ23 ht23 H locs hw ls hl
          obtain rfl : 10 = i := by omega
          have hz23 : τ23 = rn_wayI 10 0 (rm_up σ 0 20 0) := ht23
          refine lv_iload_n hx hb dX1_leastRank_23 rfl (lv_at hl 2 rfl) ?_
          refine lv_bipush (v := 10) hx hb dX1_leastRank_24 (by decide) ?_
          refine lv_icmp_ge (tgt := 57) hx hb dX1_leastRank_26 (by decide) (fun c_26 => ?_) (fun c_26 => ?_)
          · skip
            refine lv_iconst (v := 0) hx hb dX1_leastRank_57 (by decide) ?_
            refine lv_istore_n (lv' := [(2, .int 0), (0, .ref (a 0)), (1, .int (nI xn))]) hx hb dX1_leastRank_58 rfl hl (by decide) rfl (fun ls hl => ?_)
            have lp_59 : ∀ (r t : Nat), t + r = 10 → ∀ (τ59 : rm_St), rn_lrL r t τ59 = rn_lrL 10 0 (rn_wayI 10 0 (rm_up σ 0 20 0)) → ∀ (H : Heap) (locs : List Loc), rn_Wd k a (rn_A a s.heap.size) s.heap s τ59 H locs → ∀ (ls : Array Slot), lv_has ls 6 [(0, .ref (a 0)), (1, .int (nI xn)), (2, .int (nI t))] → W p l e (headSpec wsX1_leastRank ({ frames := 2, cells := 0, slots := 0, locals := 42 })).room s m args below meth c H locs 0 0 (MQ below (va_Qi (fun (r : Int32) (τ : rm_St) => r = ((rn_leastRank σ (nI xn)).2) ∧ τ = ((rn_leastRank σ (nI xn)).1)) (fun τ t => rn_P k a τ t) (rn_A a s.heap.size)) args s 0 0 (rn_A a s.heap.size)) (F0 m 59 ls []) := by
              intro r
              induction r with
              | zero =>
                intro t hi59 τ59 ht59 H locs hw ls hl
                obtain rfl : 10 = t := by omega
                have hz59 : τ59 = rn_lrL 10 0 (rn_wayI 10 0 (rm_up σ 0 20 0)) := ht59
                refine lv_iload_n hx hb dX1_leastRank_59 rfl (lv_at hl 2 rfl) ?_
                refine lv_bipush (v := 10) hx hb dX1_leastRank_60 (by decide) ?_
                refine lv_icmp_ge (tgt := 176) hx hb dX1_leastRank_62 (by decide) (fun c_62 => ?_) (fun c_62 => ?_)
                · skip
                  refine lv_aload_n hx hb dX1_leastRank_176 rfl (lv_at hl 0 rfl) ?_
                  refine rn_geta C hw 18 14 (by decide) rfl (hts _ (by decide +kernel)) rfl dX1_leastRank_177 ?_
                  refine lv_iload_n hx hb dX1_leastRank_180 rfl (lv_at hl 1 rfl) ?_
                  refine rn_iald C hw (N := 10) (by decide) hxn (by decide) dX1_leastRank_181 ?_
                  exact rn_iret C hr hlocks hw dX1_leastRank_182 ⟨by first | with_reducible rfl | with_reducible exact hz59 | (rw [← hz59]; done) | (rw [← hz59]; exact bI_f.symm) | (simp only [rn_leastRank, c_5, rm_cl hxn, isNd_nI hxn, ↓reduceIte, Bool.false_eq_true]; rw [← hz59]; done) | (rw [← hz59]; simp only [rn_lrL, ↓reduceIte, Bool.false_eq_true]; done) | (rw [← hz59]; simp only [rn_lrL, ↓reduceIte, Bool.false_eq_true]; with_reducible rfl) | (rw [← hz59]; simp only [rn_lrL, ↓reduceIte, Bool.false_eq_true]; rfl) | with_reducible exact hz23 | (rw [← hz23]; done) | (rw [← hz23]; exact bI_f.symm) | (simp only [rn_leastRank, c_5, rm_cl hxn, isNd_nI hxn, ↓reduceIte, Bool.false_eq_true]; rw [← hz23]; done) | (rw [← hz23]; simp only [rn_wayI, ↓reduceIte, Bool.false_eq_true]; done) | (rw [← hz23]; simp only [rn_wayI, ↓reduceIte, Bool.false_eq_true]; with_reducible rfl) | (rw [← hz23]; simp only [rn_wayI, ↓reduceIte, Bool.false_eq_true]; rfl) | (simp only [rn_leastRank, c_5, rm_cl hxn, isNd_nI hxn, ↓reduceIte, Bool.false_eq_true]; done) | (simp only [rn_leastRank, c_5, rm_cl hxn, isNd_nI hxn, ↓reduceIte, Bool.false_eq_true]; with_reducible rfl), by first | with_reducible rfl | with_reducible exact hz59 | (rw [← hz59]; done) | (rw [← hz59]; exact bI_f.symm) | (simp only [rn_leastRank, c_5, rm_cl hxn, isNd_nI hxn, ↓reduceIte, Bool.false_eq_true]; rw [← hz59]; done) | (rw [← hz59]; simp only [rn_lrL, ↓reduceIte, Bool.false_eq_true]; done) | (rw [← hz59]; simp only [rn_lrL, ↓reduceIte, Bool.false_eq_true]; with_reducible rfl) | (rw [← hz59]; simp only [rn_lrL, ↓reduceIte, Bool.false_eq_true]; rfl) | with_reducible exact hz23 | (rw [← hz23]; done) | (rw [← hz23]; exact bI_f.symm) | (simp only [rn_leastRank, c_5, rm_cl hxn, isNd_nI hxn, ↓reduceIte, Bool.false_eq_true]; rw [← hz23]; done) | (rw [← hz23]; simp only [rn_wayI, ↓reduceIte, Bool.false_eq_true]; done) | (rw [← hz23]; simp only [rn_wayI, ↓reduceIte, Bool.false_eq_true]; with_reducible rfl) | (rw [← hz23]; simp only [rn_wayI, ↓reduceIte, Bool.false_eq_true]; rfl) | (simp only [rn_leastRank, c_5, rm_cl hxn, isNd_nI hxn, ↓reduceIte, Bool.false_eq_true]; done) | (simp only [rn_leastRank, c_5, rm_cl hxn, isNd_nI hxn, ↓reduceIte, Bool.false_eq_true]; with_reducible rfl)⟩
                · exact absurd (show (10 : Int32) ≤ nI 10 from nI_le (a := 10) (b := 10) (Nat.le_refl _) (by decide)) c_62
              | succ r ih59 =>
                intro t hi59 τ59 ht59 H locs hw ls hl
                have hlt59 : t < 10 := by omega
                refine lv_iload_n hx hb dX1_leastRank_59 rfl (lv_at hl 2 rfl) ?_
                refine lv_bipush (v := 10) hx hb dX1_leastRank_60 (by decide) ?_
                refine lv_icmp_ge (tgt := 176) hx hb dX1_leastRank_62 (by decide) (fun c_62 => ?_) (fun c_62 => ?_)
                · exact absurd c_62 (nI_ge (a := t) (b := 10) hlt59 (by decide))
                · skip
                  refine lv_iconst (v := 0) hx hb dX1_leastRank_65 (by decide) ?_
                  refine lv_istore_n (lv' := [(3, .int 0), (0, .ref (a 0)), (1, .int (nI xn)), (2, .int (nI t))]) hx hb dX1_leastRank_66 rfl hl (by decide) rfl (fun ls hl => ?_)
                  have lp_67 : ∀ (r j : Nat), j + r = 100 → ∀ (τ67 : rm_St), rn_relL r j τ67 = rn_relL 100 0 τ59 → ∀ (H : Heap) (locs : List Loc), rn_Wd k a (rn_A a s.heap.size) s.heap s τ67 H locs → ∀ (ls : Array Slot), lv_has ls 6 [(0, .ref (a 0)), (1, .int (nI xn)), (2, .int (nI t)), (3, .int (nI j))] → W p l e (headSpec wsX1_leastRank ({ frames := 2, cells := 0, slots := 0, locals := 42 })).room s m args below meth c H locs 0 0 (MQ below (va_Qi (fun (r : Int32) (τ : rm_St) => r = ((rn_leastRank σ (nI xn)).2) ∧ τ = ((rn_leastRank σ (nI xn)).1)) (fun τ t => rn_P k a τ t) (rn_A a s.heap.size)) args s 0 0 (rn_A a s.heap.size)) (F0 m 67 ls []) := by
                    intro r
                    induction r with
                    | zero =>
                      intro j hi67 τ67 ht67 H locs hw ls hl
                      obtain rfl : 100 = j := by omega
                      have hz67 : τ67 = rn_relL 100 0 τ59 := ht67
                      refine lv_iload_n hx hb dX1_leastRank_67 rfl (lv_at hl 3 rfl) ?_
                      refine lv_bipush (v := 100) hx hb dX1_leastRank_68 (by decide) ?_
                      refine lv_icmp_ge (tgt := 170) hx hb dX1_leastRank_70 (by decide) (fun c_70 => ?_) (fun c_70 => ?_)
                      · skip
                        refine lv_iinc (v := nI (t + 1)) (lv' := [(2, .int (nI (t + 1))), (0, .ref (a 0)), (1, .int (nI xn)), (3, .int (nI 100))]) hx hb dX1_leastRank_170 hl (k := 2) rfl (rm_inc t) (by decide) rfl (fun ls hl => ?_)
                        refine lv_goto (tgt := 59) hx hb dX1_leastRank_173 (by decide) ?_
                        exact ih59 (t + 1) (by omega) (τ67) (by refine Eq.trans ?_ ht59; first | with_reducible rfl | (simp only [rn_lrL, ↓reduceIte, Bool.false_eq_true]; done) | (simp only [rn_lrL, ↓reduceIte, Bool.false_eq_true]; rw [← hz23]) | (simp only [rn_lrL, ↓reduceIte, Bool.false_eq_true]; rw [← hz67]) | (simp only [rn_lrL, ↓reduceIte, Bool.false_eq_true]; with_reducible rfl)) _ _ hw _ (lv_sub hl [1, 2, 0] rfl)
                      · exact absurd (show (100 : Int32) ≤ nI 100 from nI_le (a := 100) (b := 100) (Nat.le_refl _) (by decide)) c_70
                    | succ r ih67 =>
                      intro j hi67 τ67 ht67 H locs hw ls hl
                      have hlt67 : j < 100 := by omega
                      refine lv_iload_n hx hb dX1_leastRank_67 rfl (lv_at hl 3 rfl) ?_
                      refine lv_bipush (v := 100) hx hb dX1_leastRank_68 (by decide) ?_
                      refine lv_icmp_ge (tgt := 170) hx hb dX1_leastRank_70 (by decide) (fun c_70 => ?_) (fun c_70 => ?_)
                      · exact absurd c_70 (nI_ge (a := j) (b := 100) hlt67 (by decide))
                      · skip
                        refine lv_aload_n hx hb dX1_leastRank_73 rfl (lv_at hl 0 rfl) ?_
                        refine rn_geta C hw 18 14 (by decide) rfl (hts _ (by decide +kernel)) rfl dX1_leastRank_74 ?_
                        refine lv_iload_n hx hb dX1_leastRank_77 rfl (lv_at hl 3 rfl) ?_
                        refine lv_bipush (v := 10) hx hb dX1_leastRank_78 (by decide) ?_
                        refine lv_idiv hx hb dX1_leastRank_80 (by decide) ?_
                        rw [rn_div (by omega)]
                        refine rn_iald C hw (N := 10) (by decide) (by omega) (by decide) dX1_leastRank_81 ?_
                        refine lv_aload_n hx hb dX1_leastRank_82 rfl (lv_at hl 0 rfl) ?_
                        refine rn_geta C hw 5 1 (by decide) rfl (hts _ (by decide +kernel)) rfl dX1_leastRank_83 ?_
                        refine lv_iload_n hx hb dX1_leastRank_86 rfl (lv_at hl 3 rfl) ?_
                        refine rn_iald C hw (N := 100) (by decide) (by omega) (by decide) dX1_leastRank_87 ?_
                        refine lv_iadd hx hb dX1_leastRank_88 ?_
                        refine lv_istore (lv' := [(4, .int ((τ67 14 (j / 10)) + (τ67 1 j))), (0, .ref (a 0)), (1, .int (nI xn)), (2, .int (nI t)), (3, .int (nI j))]) hx hb dX1_leastRank_89 hl (by decide) rfl (fun ls hl => ?_)
                        refine lv_aload_n hx hb dX1_leastRank_91 rfl (lv_at hl 1 rfl) ?_
                        refine rn_geta C hw 5 1 (by decide) rfl (hts _ (by decide +kernel)) rfl dX1_leastRank_92 ?_
                        refine lv_iload_n hx hb dX1_leastRank_95 rfl (lv_at hl 4 rfl) ?_
                        refine rn_iald C hw (N := 100) (by decide) (by omega) (by decide) dX1_leastRank_96 ?_
                        refine lv_if_le (tgt := 133) hx hb dX1_leastRank_97 (by decide) (fun c_97 => ?_) (fun c_97 => ?_)
                        · skip
                          refine lv_iconst (v := 0) hx hb dX1_leastRank_133 (by decide) ?_
                          refine lv_istore (lv' := [(5, .int 0), (4, .int ((τ67 14 (j / 10)) + (τ67 1 j))), (0, .ref (a 0)), (1, .int (nI xn)), (2, .int (nI t)), (3, .int (nI j))]) hx hb dX1_leastRank_134 hl (by decide) rfl (fun ls hl => ?_)
                          refine lv_aload_n hx hb dX1_leastRank_136 rfl (lv_at hl 2 rfl) ?_
                          refine rn_geta C hw 18 14 (by decide) rfl (hts _ (by decide +kernel)) rfl dX1_leastRank_137 ?_
                          refine lv_iload_n hx hb dX1_leastRank_140 rfl (lv_at hl 5 rfl) ?_
                          refine lv_bipush (v := 10) hx hb dX1_leastRank_141 (by decide) ?_
                          refine lv_irem hx hb dX1_leastRank_143 (by decide) ?_
                          rw [rn_rem (by omega)]
                          refine lv_iload hx hb dX1_leastRank_144 (lv_at hl 0 rfl) ?_
                          refine lv_if_eq (tgt := 154) hx hb dX1_leastRank_146 (by decide) (fun c_146 => ?_) (fun c_146 => ?_)
                          · skip
                            refine lv_aload_n hx hb dX1_leastRank_154 rfl (lv_at hl 2 rfl) ?_
                            refine rn_geta C hw 18 14 (by decide) rfl (hts _ (by decide +kernel)) rfl dX1_leastRank_155 ?_
                            refine lv_iload_n hx hb dX1_leastRank_158 rfl (lv_at hl 5 rfl) ?_
                            refine lv_bipush (v := 10) hx hb dX1_leastRank_159 (by decide) ?_
                            refine lv_irem hx hb dX1_leastRank_161 (by decide) ?_
                            rw [rn_rem (by omega)]
                            refine rn_iald C hw (N := 10) (by decide) (by omega) (by decide) dX1_leastRank_162 ?_
                            refine rn_iast C hw (N := 10) (by decide) (by omega) (by decide) dX1_leastRank_163 (fun H locs hw => ?_)
                            refine lv_iinc (v := nI (j + 1)) (lv' := [(3, .int (nI (j + 1))), (5, .int 0), (4, .int ((τ67 14 (j / 10)) + (τ67 1 j))), (0, .ref (a 0)), (1, .int (nI xn)), (2, .int (nI t))]) hx hb dX1_leastRank_164 hl (k := 5) rfl (rm_inc j) (by decide) rfl (fun ls hl => ?_)
                            refine lv_goto (tgt := 67) hx hb dX1_leastRank_167 (by decide) ?_
                            exact ih67 (j + 1) (by omega) (rm_up τ67 14 (j % 10) (τ67 14 (j % 10))) (by refine Eq.trans ?_ ht67; first | with_reducible rfl | (simp only [rn_relL, rn_rel, if_pos c_97, ↓reduceIte, Bool.false_eq_true]; done) | (simp only [rn_relL, rn_rel, if_pos c_97, ↓reduceIte, Bool.false_eq_true]; rw [← hz23]) | (simp only [rn_relL, rn_rel, if_pos c_97, ↓reduceIte, Bool.false_eq_true]; with_reducible rfl)) _ _ hw _ (lv_sub hl [3, 4, 5, 0] rfl)
                          · exact absurd rfl c_146
                        · skip
                          refine lv_aload_n hx hb dX1_leastRank_100 rfl (lv_at hl 1 rfl) ?_
                          refine rn_geta C hw 18 14 (by decide) rfl (hts _ (by decide +kernel)) rfl dX1_leastRank_101 ?_
                          refine lv_iload_n hx hb dX1_leastRank_104 rfl (lv_at hl 4 rfl) ?_
                          refine lv_bipush (v := 10) hx hb dX1_leastRank_105 (by decide) ?_
                          refine lv_idiv hx hb dX1_leastRank_107 (by decide) ?_
                          rw [rn_div (by omega)]
                          refine rn_iald C hw (N := 10) (by decide) (by omega) (by decide) dX1_leastRank_108 ?_
                          refine lv_sipush (v := 10000) hx hb dX1_leastRank_109 (by decide) ?_
                          refine lv_icmp_ge (tgt := 133) hx hb dX1_leastRank_112 (by decide) (fun c_112 => ?_) (fun c_112 => ?_)
                          · skip
                            refine lv_iconst (v := 0) hx hb dX1_leastRank_133 (by decide) ?_
                            refine lv_istore (lv' := [(5, .int 0), (4, .int ((τ67 14 (j / 10)) + (τ67 1 j))), (0, .ref (a 0)), (1, .int (nI xn)), (2, .int (nI t)), (3, .int (nI j))]) hx hb dX1_leastRank_134 hl (by decide) rfl (fun ls hl => ?_)
                            refine lv_aload_n hx hb dX1_leastRank_136 rfl (lv_at hl 2 rfl) ?_
                            refine rn_geta C hw 18 14 (by decide) rfl (hts _ (by decide +kernel)) rfl dX1_leastRank_137 ?_
                            refine lv_iload_n hx hb dX1_leastRank_140 rfl (lv_at hl 5 rfl) ?_
                            refine lv_bipush (v := 10) hx hb dX1_leastRank_141 (by decide) ?_
                            refine lv_irem hx hb dX1_leastRank_143 (by decide) ?_
                            rw [rn_rem (by omega)]
                            refine lv_iload hx hb dX1_leastRank_144 (lv_at hl 0 rfl) ?_
                            refine lv_if_eq (tgt := 154) hx hb dX1_leastRank_146 (by decide) (fun c_146 => ?_) (fun c_146 => ?_)
                            · skip
                              refine lv_aload_n hx hb dX1_leastRank_154 rfl (lv_at hl 2 rfl) ?_
                              refine rn_geta C hw 18 14 (by decide) rfl (hts _ (by decide +kernel)) rfl dX1_leastRank_155 ?_
                              refine lv_iload_n hx hb dX1_leastRank_158 rfl (lv_at hl 5 rfl) ?_
                              refine lv_bipush (v := 10) hx hb dX1_leastRank_159 (by decide) ?_
                              refine lv_irem hx hb dX1_leastRank_161 (by decide) ?_
                              rw [rn_rem (by omega)]
                              refine rn_iald C hw (N := 10) (by decide) (by omega) (by decide) dX1_leastRank_162 ?_
                              refine rn_iast C hw (N := 10) (by decide) (by omega) (by decide) dX1_leastRank_163 (fun H locs hw => ?_)
                              refine lv_iinc (v := nI (j + 1)) (lv' := [(3, .int (nI (j + 1))), (5, .int 0), (4, .int ((τ67 14 (j / 10)) + (τ67 1 j))), (0, .ref (a 0)), (1, .int (nI xn)), (2, .int (nI t))]) hx hb dX1_leastRank_164 hl (k := 5) rfl (rm_inc j) (by decide) rfl (fun ls hl => ?_)
                              refine lv_goto (tgt := 67) hx hb dX1_leastRank_167 (by decide) ?_
                              exact ih67 (j + 1) (by omega) (rm_up τ67 14 (j % 10) (τ67 14 (j % 10))) (by refine Eq.trans ?_ ht67; first | with_reducible rfl | (simp only [rn_relL, rn_rel, if_neg c_97, if_pos c_112, ↓reduceIte, Bool.false_eq_true]; done) | (simp only [rn_relL, rn_rel, if_neg c_97, if_pos c_112, ↓reduceIte, Bool.false_eq_true]; rw [← hz23]) | (simp only [rn_relL, rn_rel, if_neg c_97, if_pos c_112, ↓reduceIte, Bool.false_eq_true]; with_reducible rfl)) _ _ hw _ (lv_sub hl [3, 4, 5, 0] rfl)
                            · exact absurd rfl c_146
                          · skip
                            refine lv_iload hx hb dX1_leastRank_115 (lv_at hl 0 rfl) ?_
                            refine lv_aload_n hx hb dX1_leastRank_117 rfl (lv_at hl 1 rfl) ?_
                            refine rn_geta C hw 18 14 (by decide) rfl (hts _ (by decide +kernel)) rfl dX1_leastRank_118 ?_
                            refine lv_iload_n hx hb dX1_leastRank_121 rfl (lv_at hl 4 rfl) ?_
                            refine lv_bipush (v := 10) hx hb dX1_leastRank_122 (by decide) ?_
                            refine lv_irem hx hb dX1_leastRank_124 (by decide) ?_
                            rw [rn_rem (by omega)]
                            refine rn_iald C hw (N := 10) (by decide) (by omega) (by decide) dX1_leastRank_125 ?_
                            refine lv_icmp_ge (tgt := 133) hx hb dX1_leastRank_126 (by decide) (fun c_126 => ?_) (fun c_126 => ?_)
                            · skip
                              refine lv_iconst (v := 0) hx hb dX1_leastRank_133 (by decide) ?_
                              refine lv_istore (lv' := [(5, .int 0), (4, .int ((τ67 14 (j / 10)) + (τ67 1 j))), (0, .ref (a 0)), (1, .int (nI xn)), (2, .int (nI t)), (3, .int (nI j))]) hx hb dX1_leastRank_134 hl (by decide) rfl (fun ls hl => ?_)
                              refine lv_aload_n hx hb dX1_leastRank_136 rfl (lv_at hl 2 rfl) ?_
                              refine rn_geta C hw 18 14 (by decide) rfl (hts _ (by decide +kernel)) rfl dX1_leastRank_137 ?_
                              refine lv_iload_n hx hb dX1_leastRank_140 rfl (lv_at hl 5 rfl) ?_
                              refine lv_bipush (v := 10) hx hb dX1_leastRank_141 (by decide) ?_
                              refine lv_irem hx hb dX1_leastRank_143 (by decide) ?_
                              rw [rn_rem (by omega)]
                              refine lv_iload hx hb dX1_leastRank_144 (lv_at hl 0 rfl) ?_
                              refine lv_if_eq (tgt := 154) hx hb dX1_leastRank_146 (by decide) (fun c_146 => ?_) (fun c_146 => ?_)
                              · skip
                                refine lv_aload_n hx hb dX1_leastRank_154 rfl (lv_at hl 2 rfl) ?_
                                refine rn_geta C hw 18 14 (by decide) rfl (hts _ (by decide +kernel)) rfl dX1_leastRank_155 ?_
                                refine lv_iload_n hx hb dX1_leastRank_158 rfl (lv_at hl 5 rfl) ?_
                                refine lv_bipush (v := 10) hx hb dX1_leastRank_159 (by decide) ?_
                                refine lv_irem hx hb dX1_leastRank_161 (by decide) ?_
                                rw [rn_rem (by omega)]
                                refine rn_iald C hw (N := 10) (by decide) (by omega) (by decide) dX1_leastRank_162 ?_
                                refine rn_iast C hw (N := 10) (by decide) (by omega) (by decide) dX1_leastRank_163 (fun H locs hw => ?_)
                                refine lv_iinc (v := nI (j + 1)) (lv' := [(3, .int (nI (j + 1))), (5, .int 0), (4, .int ((τ67 14 (j / 10)) + (τ67 1 j))), (0, .ref (a 0)), (1, .int (nI xn)), (2, .int (nI t))]) hx hb dX1_leastRank_164 hl (k := 5) rfl (rm_inc j) (by decide) rfl (fun ls hl => ?_)
                                refine lv_goto (tgt := 67) hx hb dX1_leastRank_167 (by decide) ?_
                                exact ih67 (j + 1) (by omega) (rm_up τ67 14 (j % 10) (τ67 14 (j % 10))) (by refine Eq.trans ?_ ht67; first | with_reducible rfl | (simp only [rn_relL, rn_rel, if_neg c_97, if_neg c_112, if_pos c_126, ↓reduceIte, Bool.false_eq_true]; done) | (simp only [rn_relL, rn_rel, if_neg c_97, if_neg c_112, if_pos c_126, ↓reduceIte, Bool.false_eq_true]; rw [← hz23]) | (simp only [rn_relL, rn_rel, if_neg c_97, if_neg c_112, if_pos c_126, ↓reduceIte, Bool.false_eq_true]; with_reducible rfl)) _ _ hw _ (lv_sub hl [3, 4, 5, 0] rfl)
                              · exact absurd rfl c_146
                            · skip
                              refine lv_iconst (v := 1) hx hb dX1_leastRank_129 (by decide) ?_
                              refine lv_goto (tgt := 134) hx hb dX1_leastRank_130 (by decide) ?_
                              refine lv_istore (lv' := [(5, .int 1), (4, .int ((τ67 14 (j / 10)) + (τ67 1 j))), (0, .ref (a 0)), (1, .int (nI xn)), (2, .int (nI t)), (3, .int (nI j))]) hx hb dX1_leastRank_134 hl (by decide) rfl (fun ls hl => ?_)
                              refine lv_aload_n hx hb dX1_leastRank_136 rfl (lv_at hl 2 rfl) ?_
                              refine rn_geta C hw 18 14 (by decide) rfl (hts _ (by decide +kernel)) rfl dX1_leastRank_137 ?_
                              refine lv_iload_n hx hb dX1_leastRank_140 rfl (lv_at hl 5 rfl) ?_
                              refine lv_bipush (v := 10) hx hb dX1_leastRank_141 (by decide) ?_
                              refine lv_irem hx hb dX1_leastRank_143 (by decide) ?_
                              rw [rn_rem (by omega)]
                              refine lv_iload hx hb dX1_leastRank_144 (lv_at hl 0 rfl) ?_
                              refine lv_if_eq (tgt := 154) hx hb dX1_leastRank_146 (by decide) (fun c_146 => ?_) (fun c_146 => ?_)
                              · exact absurd c_146 (by decide)
                              · skip
                                refine lv_iload hx hb dX1_leastRank_149 (lv_at hl 1 rfl) ?_
                                refine lv_goto (tgt := 163) hx hb dX1_leastRank_151 (by decide) ?_
                                refine rn_iast C hw (N := 10) (by decide) (by omega) (by decide) dX1_leastRank_163 (fun H locs hw => ?_)
                                refine lv_iinc (v := nI (j + 1)) (lv' := [(3, .int (nI (j + 1))), (5, .int 1), (4, .int ((τ67 14 (j / 10)) + (τ67 1 j))), (0, .ref (a 0)), (1, .int (nI xn)), (2, .int (nI t))]) hx hb dX1_leastRank_164 hl (k := 5) rfl (rm_inc j) (by decide) rfl (fun ls hl => ?_)
                                refine lv_goto (tgt := 67) hx hb dX1_leastRank_167 (by decide) ?_
                                exact ih67 (j + 1) (by omega) (rm_up τ67 14 (j % 10) ((τ67 14 (j / 10)) + (τ67 1 j))) (by refine Eq.trans ?_ ht67; first | with_reducible rfl | (simp only [rn_relL, rn_rel, if_neg c_97, if_neg c_112, if_neg c_126, ↓reduceIte, Bool.false_eq_true]; done) | (simp only [rn_relL, rn_rel, if_neg c_97, if_neg c_112, if_neg c_126, ↓reduceIte, Bool.false_eq_true]; rw [← hz23]) | (simp only [rn_relL, rn_rel, if_neg c_97, if_neg c_112, if_neg c_126, ↓reduceIte, Bool.false_eq_true]; with_reducible rfl)) _ _ hw _ (lv_sub hl [3, 4, 5, 0] rfl)
                  exact lp_67 100 0 (by omega) (τ59) (by first | with_reducible rfl | (unfold rn_leastRank; with_reducible rfl) | (simp only [rn_leastRank, c_5, rm_cl hxn, isNd_nI hxn, ↓reduceIte, Bool.false_eq_true]; done) | (simp only [rn_leastRank, c_5, rm_cl hxn, isNd_nI hxn, ↓reduceIte, Bool.false_eq_true]; with_reducible rfl) | (rw [← hz23])) _ _ hw _ (lv_sub hl [1, 2, 3, 0] rfl)
            exact lp_59 10 0 (by omega) (τ23) (by first | with_reducible rfl | (unfold rn_leastRank; with_reducible rfl) | (simp only [rn_leastRank, c_5, rm_cl hxn, isNd_nI hxn, ↓reduceIte, Bool.false_eq_true]; done) | (simp only [rn_leastRank, c_5, rm_cl hxn, isNd_nI hxn, ↓reduceIte, Bool.false_eq_true]; with_reducible rfl) | (rw [← hz23])) _ _ hw _ (lv_sub hl [1, 2, 0] rfl)
          · exact absurd (show (10 : Int32) ≤ nI 10 from nI_le (a := 10) (b := 10) (Nat.le_refl _) (by decide)) c_26
        | succ r ih23 =>
          intro i hi23 τ23 ht23 H locs hw ls hl
          have hlt23 : i < 10 := by omega
          refine lv_iload_n hx hb dX1_leastRank_23 rfl (lv_at hl 2 rfl) ?_
          refine lv_bipush (v := 10) hx hb dX1_leastRank_24 (by decide) ?_
          refine lv_icmp_ge (tgt := 57) hx hb dX1_leastRank_26 (by decide) (fun c_26 => ?_) (fun c_26 => ?_)
          · exact absurd c_26 (nI_ge (a := i) (b := 10) hlt23 (by decide))
          · skip
            refine lv_aload_n hx hb dX1_leastRank_29 rfl (lv_at hl 0 rfl) ?_
            refine rn_geta C hw 18 14 (by decide) rfl (hts _ (by decide +kernel)) rfl dX1_leastRank_30 ?_
            refine lv_iload_n hx hb dX1_leastRank_33 rfl (lv_at hl 2 rfl) ?_
            refine lv_aload_n hx hb dX1_leastRank_34 rfl (lv_at hl 0 rfl) ?_
            refine rn_geta C hw 6 2 (by decide) rfl (hts _ (by decide +kernel)) rfl dX1_leastRank_35 ?_
            refine lv_iload_n hx hb dX1_leastRank_38 rfl (lv_at hl 2 rfl) ?_
            refine rn_zald C hw hlt23 dX1_leastRank_39 ?_
            refine lv_if_eq (tgt := 47) hx hb dX1_leastRank_40 (by decide) (fun c_40 => ?_) (fun c_40 => ?_)
            · skip
              refine lv_sipush (v := 10000) hx hb dX1_leastRank_47 (by decide) ?_
              refine rn_iast C hw (N := 10) (by decide) hlt23 (by decide) dX1_leastRank_50 (fun H locs hw => ?_)
              refine lv_iinc (v := nI (i + 1)) (lv' := [(2, .int (nI (i + 1))), (0, .ref (a 0)), (1, .int (nI xn))]) hx hb dX1_leastRank_51 hl (k := 2) rfl (rm_inc i) (by decide) rfl (fun ls hl => ?_)
              refine lv_goto (tgt := 23) hx hb dX1_leastRank_54 (by decide) ?_
              exact ih23 (i + 1) (by omega) (rm_up τ23 14 i (10000)) (by refine Eq.trans ?_ ht23; first | with_reducible rfl | (simp only [rn_wayI, if_pos c_40, ↓reduceIte, Bool.false_eq_true]; done) | (simp only [rn_wayI, if_pos c_40, ↓reduceIte, Bool.false_eq_true]; with_reducible rfl)) _ _ hw _ (lv_sub hl [1, 2, 0] rfl)
            · skip
              refine lv_iconst (v := 0) hx hb dX1_leastRank_43 (by decide) ?_
              refine lv_goto (tgt := 50) hx hb dX1_leastRank_44 (by decide) ?_
              refine rn_iast C hw (N := 10) (by decide) hlt23 (by decide) dX1_leastRank_50 (fun H locs hw => ?_)
              refine lv_iinc (v := nI (i + 1)) (lv' := [(2, .int (nI (i + 1))), (0, .ref (a 0)), (1, .int (nI xn))]) hx hb dX1_leastRank_51 hl (k := 2) rfl (rm_inc i) (by decide) rfl (fun ls hl => ?_)
              refine lv_goto (tgt := 23) hx hb dX1_leastRank_54 (by decide) ?_
              exact ih23 (i + 1) (by omega) (rm_up τ23 14 i (0)) (by refine Eq.trans ?_ ht23; first | with_reducible rfl | (simp only [rn_wayI, if_neg c_40, ↓reduceIte, Bool.false_eq_true]; done) | (simp only [rn_wayI, if_neg c_40, ↓reduceIte, Bool.false_eq_true]; with_reducible rfl)) _ _ hw _ (lv_sub hl [1, 2, 0] rfl)
      exact lp_23 10 0 (by omega) (rm_up σ 0 20 0) (by first | with_reducible rfl | (unfold rn_leastRank; with_reducible rfl) | (simp only [rn_leastRank, c_5, rm_cl hxn, isNd_nI hxn, ↓reduceIte, Bool.false_eq_true]; done) | (simp only [rn_leastRank, c_5, rm_cl hxn, isNd_nI hxn, ↓reduceIte, Bool.false_eq_true]; with_reducible rfl)) _ _ hw _ (lv_sub hl [1, 2, 0] rfl)
    · exact absurd rfl c_16

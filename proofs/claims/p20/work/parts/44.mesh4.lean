set_option maxHeartbeats 4000000 in
set_option maxRecDepth 100000 in
theorem kX0_up (l : Launch) (hfl : l.stackTraces = false) (k : rm_K) (a : Nat → Nat) (ha : rm_inj a) (σ : rm_St) (x : Int32) : rm_XI l k a yX0_up wsX0_up ({ frames := 7, cells := 1, slots := 6, locals := 110 }) [.int x] σ (rm_tN x) ((rm_upS σ x).2) ((rm_upS σ x).1) := by
  refine rm_enterXI (cc := cX0_up) (nL := 7) (ret := (some .int)) ha (by decide) rfl rfl (by decide +kernel) (Nat.le_of_ble_eq_true rfl) ?_
  intro p e s m args below meth c ls C hr hlocks htab hTh hw hl
  have hx := C.1.1
  have hb := C.1.2.1
  have hts := C.1.2.2.2.2
  have hA : ∀ q, s.heap.size ≤ q → rm_A a s.heap.size q := fun q h => Or.inr h
  replace hl : lv_has ls 7 [(0, .ref (a 0)), (1, .int x)] := hl
  refine lv_iload_n hx hb dX0_up_0 rfl (lv_at hl 1 rfl) ?_
  refine rm_callXS C hlocks htab hTh hw (As := [.int x]) (rest := []) (kX0_requireNode l hfl (x)) (va_cwS 1 hts gX0_up_X0_requireNode rfl rfl rfl (by decide +kernel) ⟨Nat.le_of_ble_eq_true rfl, Nat.le_of_ble_eq_true rfl⟩) rfl hl.1 rfl (lv_room (Nat.le_of_ble_eq_true rfl)) dX0_up_1 ⟨Nat.le_of_ble_eq_true rfl, Nat.le_of_ble_eq_true rfl⟩ (Nat.le_of_ble_eq_true rfl) (Nat.le_of_ble_eq_true rfl) (fun E hE => by simp only [hE, rm_or_n, rm_or_s, ↓reduceIte, Bool.false_eq_true]) (fun c_1 H locs hw => ?_)
  obtain ⟨xn, hxn, rfl⟩ := rm_tN_none c_1
  refine lv_iload_n hx hb dX0_up_4 rfl (lv_at hl 1 rfl) ?_
  refine lv_istore_n (lv' := [(2, .int (nI xn)), (0, .ref (a 0)), (1, .int (nI xn))]) hx hb dX0_up_5 rfl hl (by decide) rfl (fun ls hl => ?_)
  refine lv_iconst (v := 0) hx hb dX0_up_6 (by decide) ?_
  refine lv_istore_n (lv' := [(3, .int 0), (2, .int (nI xn)), (0, .ref (a 0)), (1, .int (nI xn))]) hx hb dX0_up_7 rfl hl (by decide) rfl (fun ls hl => ?_)
  refine lv_iconst (v := 0) hx hb dX0_up_8 (by decide) ?_
  refine lv_istore (lv' := [(4, .int 0), (3, .int 0), (2, .int (nI xn)), (0, .ref (a 0)), (1, .int (nI xn))]) hx hb dX0_up_9 hl (by decide) rfl (fun ls hl => ?_)
  have lp_11 : ∀ (r i : Nat), i + r = 21 → ∀ (kk : Nat) (w : Bool), rm_upL σ r i kk w = rm_upS σ (nI xn) → kk < 10 → ∀ (H : Heap) (locs : List Loc), rm_Wd k a (rm_A a s.heap.size) s.heap s σ H locs → ∀ (ls : Array Slot), lv_has ls 7 [(0, .ref (a 0)), (1, .int (nI xn)), (2, .int (nI kk)), (3, .int (bI (w))), (4, .int (nI i))] → W p l e (headSpec wsX0_up ({ frames := 7, cells := 1, slots := 6, locals := 110 })).room s m args below meth c H locs 1 6 (vx_MQ below (va_Qi (fun (r : Int32) (τ : rm_St) => (rm_tN (nI xn)) = none ∧ r = ((rm_upS σ (nI xn)).2) ∧ τ = ((rm_upS σ (nI xn)).1)) (fun τ t => rm_P k a τ t) (rm_A a s.heap.size)) (rm_XC k a σ (rm_tN (nI xn)) (rm_A a s.heap.size)) args s 1 6 (rm_A a s.heap.size)) (F0 m 11 ls []) := by
    intro r
    induction r with
    | zero =>
      intro i hi11 kk w ht11 hv11 H locs hw ls hl
      obtain rfl : 21 = i := by omega
      have hz11 : (rm_drop σ, -2) = rm_upS σ (nI xn) := ht11
      refine lv_iload hx hb dX0_up_11 (lv_at hl 4 rfl) ?_
      refine lv_bipush (v := 20) hx hb dX0_up_13 (by decide) ?_
      refine lv_icmp_gt (tgt := 107) hx hb dX0_up_15 (by decide) (fun c_15 => ?_) (fun c_15 => ?_)
      · skip
        refine lv_aload_n hx hb dX0_up_107 rfl (lv_at hl 0 rfl) ?_
        refine lv_dup hx hb dX0_up_108 rfl ?_
        refine rm_geti C hw 5 (by decide) (hts _ (by decide +kernel)) rfl dX0_up_109 ?_
        refine lv_iconst (v := 1) hx hb dX0_up_112 (by decide) ?_
        refine lv_iadd hx hb dX0_up_113 ?_
        refine rm_puti C hw 5 (by decide) (hts _ (by decide +kernel)) rfl rfl rfl dX0_up_114 (fun H locs hw => ?_)
        refine lv_bipush (v := (-2)) hx hb dX0_up_117 (by decide) ?_
        exact rm_xret C hr hlocks hw (Nat.le_of_ble_eq_true rfl) (Nat.le_of_ble_eq_true rfl) dX0_up_119 ⟨by first | (simp only [c_1, rm_cl hxn, ↓reduceIte, Bool.false_eq_true, rm_or_n, rm_or_s]; done) | (simp only [c_1, rm_cl hxn, ↓reduceIte, Bool.false_eq_true, rm_or_n, rm_or_s]; rfl), by first | with_reducible rfl | with_reducible exact hz11 | (rw [← hz11]; done) | (rw [← hz11]; exact bI_f.symm) | (simp only [rm_upS, c_1, rm_cl hxn, ↓reduceIte, Bool.false_eq_true]; rw [← hz11]; done) | (rw [← hz11]; simp only [rm_upL, rm_drop, ↓reduceIte, Bool.false_eq_true]; done) | (rw [← hz11]; simp only [rm_upL, rm_drop, ↓reduceIte, Bool.false_eq_true]; with_reducible rfl) | (rw [← hz11]; simp only [rm_upL, rm_drop, ↓reduceIte, Bool.false_eq_true]; rfl) | (simp only [rm_upS, c_1, rm_cl hxn, ↓reduceIte, Bool.false_eq_true]; done) | (simp only [rm_upS, c_1, rm_cl hxn, ↓reduceIte, Bool.false_eq_true]; with_reducible rfl), by first | with_reducible rfl | with_reducible exact hz11 | (rw [← hz11]; done) | (rw [← hz11]; exact bI_f.symm) | (simp only [rm_upS, c_1, rm_cl hxn, ↓reduceIte, Bool.false_eq_true]; rw [← hz11]; done) | (rw [← hz11]; simp only [rm_upL, rm_drop, ↓reduceIte, Bool.false_eq_true]; done) | (rw [← hz11]; simp only [rm_upL, rm_drop, ↓reduceIte, Bool.false_eq_true]; with_reducible rfl) | (rw [← hz11]; simp only [rm_upL, rm_drop, ↓reduceIte, Bool.false_eq_true]; rfl) | (simp only [rm_upS, c_1, rm_cl hxn, ↓reduceIte, Bool.false_eq_true]; done) | (simp only [rm_upS, c_1, rm_cl hxn, ↓reduceIte, Bool.false_eq_true]; with_reducible rfl)⟩
      · exact absurd (show (20 : Int32) < nI 21 from nI_lt (a := 20) (b := 21) (by decide) (by decide)) c_15
    | succ r ih11 =>
      intro i hi11 kk w ht11 hv11 H locs hw ls hl
      have hlt11 : i < 21 := by omega
      refine lv_iload hx hb dX0_up_11 (lv_at hl 4 rfl) ?_
      refine lv_bipush (v := 20) hx hb dX0_up_13 (by decide) ?_
      refine lv_icmp_gt (tgt := 107) hx hb dX0_up_15 (by decide) (fun c_15 => ?_) (fun c_15 => ?_)
      · exact absurd c_15 (nI_nlt (a := 20) (b := i) (by omega) (by decide))
      · skip
        refine lv_aload_n hx hb dX0_up_18 rfl (lv_at hl 0 rfl) ?_
        refine rm_geta C hw 10 5 (by decide) rfl (hts _ (by decide +kernel)) rfl dX0_up_19 ?_
        refine lv_iload_n hx hb dX0_up_22 rfl (lv_at hl 2 rfl) ?_
        refine rm_zald C hw hv11 dX0_up_23 ?_
        refine lv_if_eq (tgt := 30) hx hb dX0_up_24 (by decide) (fun c_24 => ?_) (fun c_24 => ?_)
        · skip
          refine lv_aload_n hx hb dX0_up_30 rfl (lv_at hl 0 rfl) ?_
          refine rm_geta C hw 16 11 (by decide) rfl (hts _ (by decide +kernel)) rfl dX0_up_31 ?_
          refine lv_iload_n hx hb dX0_up_34 rfl (lv_at hl 2 rfl) ?_
          refine rm_iald C hw (by decide) hv11 dX0_up_35 ?_
          refine lv_istore (lv' := [(5, .int (σ 11 kk)), (0, .ref (a 0)), (1, .int (nI xn)), (2, .int (nI kk)), (3, .int (bI (w))), (4, .int (nI i))]) hx hb dX0_up_36 hl (by decide) rfl (fun ls hl => ?_)
          refine lv_iload hx hb dX0_up_38 (lv_at hl 0 rfl) ?_
          refine rm_callSI C hw (As := [.int (σ 11 kk)]) (rest := []) (kX0_isNode l (σ 11 kk)) (va_cwS 1 hts gX0_up_X0_isNode rfl rfl rfl (by decide +kernel) ⟨Nat.le_of_ble_eq_true rfl, Nat.le_of_ble_eq_true rfl⟩) rfl hl.1 rfl (lv_room (Nat.le_of_ble_eq_true rfl)) dX0_up_40 ⟨Nat.le_of_ble_eq_true rfl, Nat.le_of_ble_eq_true rfl⟩ (fun H locs hw => ?_)
          refine rm_ifne (tgt := 48) hx hb dX0_up_43 (by decide) (fun c_43 => ?_) (fun c_43 => ?_)
          · skip
            obtain ⟨o1, ho1, eo1⟩ := isNd_of c_43
            rw [eo1] at hl
            refine lv_aload_n hx hb dX0_up_48 rfl (lv_at hl 1 rfl) ?_
            refine rm_geta C hw 14 9 (by decide) rfl (hts _ (by decide +kernel)) rfl dX0_up_49 ?_
            refine lv_iload hx hb dX0_up_52 (lv_at hl 0 rfl) ?_
            refine rm_iald C hw (by decide) ho1 dX0_up_54 ?_
            refine lv_aload_n hx hb dX0_up_55 rfl (lv_at hl 1 rfl) ?_
            refine rm_geta C hw 14 9 (by decide) rfl (hts _ (by decide +kernel)) rfl dX0_up_56 ?_
            refine lv_iload_n hx hb dX0_up_59 rfl (lv_at hl 3 rfl) ?_
            refine rm_iald C hw (by decide) hv11 dX0_up_60 ?_
            refine lv_icmp_lt (tgt := 68) hx hb dX0_up_61 (by decide) (fun c_61 => ?_) (fun c_61 => ?_)
            · skip
              refine lv_iconst (v := 0) hx hb dX0_up_68 (by decide) ?_
              refine lv_istore (lv' := [(6, .int 0), (5, .int (nI o1)), (0, .ref (a 0)), (1, .int (nI xn)), (2, .int (nI kk)), (3, .int (bI (w))), (4, .int (nI i))]) hx hb dX0_up_69 hl (by decide) rfl (fun ls hl => ?_)
              refine lv_iload hx hb dX0_up_71 (lv_at hl 0 rfl) ?_
              refine lv_if_eq (tgt := 83) hx hb dX0_up_73 (by decide) (fun c_73 => ?_) (fun c_73 => ?_)
              · skip
                refine lv_iload_n hx hb dX0_up_83 rfl (lv_at hl 5 rfl) ?_
                refine rm_ifne (tgt := 92) hx hb dX0_up_84 (by decide) (fun c_84 => ?_) (fun c_84 => ?_)
                · skip
                  refine lv_iconst (v := 1) hx hb dX0_up_92 (by decide) ?_
                  refine lv_goto (tgt := 97) hx hb dX0_up_93 (by decide) ?_
                  refine lv_istore_n (lv' := [(3, .int 1), (6, .int 0), (5, .int (nI o1)), (0, .ref (a 0)), (1, .int (nI xn)), (2, .int (nI kk)), (4, .int (nI i))]) hx hb dX0_up_97 rfl hl (by decide) rfl (fun ls hl => ?_)
                  refine lv_iload hx hb dX0_up_98 (lv_at hl 2 rfl) ?_
                  refine lv_istore_n (lv' := [(2, .int (nI o1)), (3, .int 1), (6, .int 0), (5, .int (nI o1)), (0, .ref (a 0)), (1, .int (nI xn)), (4, .int (nI i))]) hx hb dX0_up_100 rfl hl (by decide) rfl (fun ls hl => ?_)
                  refine lv_iinc (v := nI (i + 1)) (lv' := [(4, .int (nI (i + 1))), (2, .int (nI o1)), (3, .int 1), (6, .int 0), (5, .int (nI o1)), (0, .ref (a 0)), (1, .int (nI xn))]) hx hb dX0_up_101 hl (k := 6) rfl (rm_inc i) (by decide) rfl (fun ls hl => ?_)
                  refine lv_goto (tgt := 11) hx hb dX0_up_104 (by decide) ?_
                  exact ih11 (i + 1) (by omega) (o1) (true) (by refine Eq.trans ?_ ht11; first | with_reducible rfl | (simp only [rm_upL, rm_drop, if_pos c_24, eo1, rm_cl ho1, isNd_nI ho1, if_pos c_61, c_84, ↓reduceIte, Bool.false_eq_true]; done) | (simp only [rm_upL, rm_drop, if_pos c_24, eo1, rm_cl ho1, isNd_nI ho1, if_pos c_61, c_84, ↓reduceIte, Bool.false_eq_true]; with_reducible rfl)) (ho1) _ _ hw _ (lv_sub hl [5, 6, 1, 2, 0] rfl)
                · skip
                  refine lv_iload hx hb dX0_up_87 (lv_at hl 0 rfl) ?_
                  refine lv_if_eq (tgt := 96) hx hb dX0_up_89 (by decide) (fun c_89 => ?_) (fun c_89 => ?_)
                  · skip
                    refine lv_iconst (v := 0) hx hb dX0_up_96 (by decide) ?_
                    refine lv_istore_n (lv' := [(3, .int 0), (6, .int 0), (5, .int (nI o1)), (0, .ref (a 0)), (1, .int (nI xn)), (2, .int (nI kk)), (4, .int (nI i))]) hx hb dX0_up_97 rfl hl (by decide) rfl (fun ls hl => ?_)
                    refine lv_iload hx hb dX0_up_98 (lv_at hl 2 rfl) ?_
                    refine lv_istore_n (lv' := [(2, .int (nI o1)), (3, .int 0), (6, .int 0), (5, .int (nI o1)), (0, .ref (a 0)), (1, .int (nI xn)), (4, .int (nI i))]) hx hb dX0_up_100 rfl hl (by decide) rfl (fun ls hl => ?_)
                    refine lv_iinc (v := nI (i + 1)) (lv' := [(4, .int (nI (i + 1))), (2, .int (nI o1)), (3, .int 0), (6, .int 0), (5, .int (nI o1)), (0, .ref (a 0)), (1, .int (nI xn))]) hx hb dX0_up_101 hl (k := 6) rfl (rm_inc i) (by decide) rfl (fun ls hl => ?_)
                    refine lv_goto (tgt := 11) hx hb dX0_up_104 (by decide) ?_
                    exact ih11 (i + 1) (by omega) (o1) (false) (by refine Eq.trans ?_ ht11; first | with_reducible rfl | (simp only [rm_upL, rm_drop, if_pos c_24, eo1, rm_cl ho1, isNd_nI ho1, if_pos c_61, c_84, ↓reduceIte, Bool.false_eq_true]; done) | (simp only [rm_upL, rm_drop, if_pos c_24, eo1, rm_cl ho1, isNd_nI ho1, if_pos c_61, c_84, ↓reduceIte, Bool.false_eq_true]; with_reducible rfl)) (ho1) _ _ hw _ (lv_sub hl [5, 6, 1, 2, 0] rfl)
                  · exact absurd rfl c_89
              · exact absurd rfl c_73
            · skip
              refine lv_iconst (v := 1) hx hb dX0_up_64 (by decide) ?_
              refine lv_goto (tgt := 69) hx hb dX0_up_65 (by decide) ?_
              refine lv_istore (lv' := [(6, .int 1), (5, .int (nI o1)), (0, .ref (a 0)), (1, .int (nI xn)), (2, .int (nI kk)), (3, .int (bI (w))), (4, .int (nI i))]) hx hb dX0_up_69 hl (by decide) rfl (fun ls hl => ?_)
              refine lv_iload hx hb dX0_up_71 (lv_at hl 0 rfl) ?_
              refine lv_if_eq (tgt := 83) hx hb dX0_up_73 (by decide) (fun c_73 => ?_) (fun c_73 => ?_)
              · exact absurd c_73 (by decide)
              · skip
                refine lv_iload_n hx hb dX0_up_76 rfl (lv_at hl 5 rfl) ?_
                refine rm_ifeq (tgt := 83) hx hb dX0_up_77 (by decide) (fun c_77 => ?_) (fun c_77 => ?_)
                · skip
                  refine lv_iload_n hx hb dX0_up_83 rfl (lv_at hl 5 rfl) ?_
                  refine rm_ifne (tgt := 92) hx hb dX0_up_84 (by decide) (fun c_84x => ?_) (fun c_84x => ?_)
                  · exact Bool.noConfusion (c_77.symm.trans c_84x)
                  · skip
                    refine lv_iload hx hb dX0_up_87 (lv_at hl 0 rfl) ?_
                    refine lv_if_eq (tgt := 96) hx hb dX0_up_89 (by decide) (fun c_89 => ?_) (fun c_89 => ?_)
                    · exact absurd c_89 (by decide)
                    · skip
                      refine lv_iconst (v := 1) hx hb dX0_up_92 (by decide) ?_
                      refine lv_goto (tgt := 97) hx hb dX0_up_93 (by decide) ?_
                      refine lv_istore_n (lv' := [(3, .int 1), (6, .int 1), (5, .int (nI o1)), (0, .ref (a 0)), (1, .int (nI xn)), (2, .int (nI kk)), (4, .int (nI i))]) hx hb dX0_up_97 rfl hl (by decide) rfl (fun ls hl => ?_)
                      refine lv_iload hx hb dX0_up_98 (lv_at hl 2 rfl) ?_
                      refine lv_istore_n (lv' := [(2, .int (nI o1)), (3, .int 1), (6, .int 1), (5, .int (nI o1)), (0, .ref (a 0)), (1, .int (nI xn)), (4, .int (nI i))]) hx hb dX0_up_100 rfl hl (by decide) rfl (fun ls hl => ?_)
                      refine lv_iinc (v := nI (i + 1)) (lv' := [(4, .int (nI (i + 1))), (2, .int (nI o1)), (3, .int 1), (6, .int 1), (5, .int (nI o1)), (0, .ref (a 0)), (1, .int (nI xn))]) hx hb dX0_up_101 hl (k := 6) rfl (rm_inc i) (by decide) rfl (fun ls hl => ?_)
                      refine lv_goto (tgt := 11) hx hb dX0_up_104 (by decide) ?_
                      exact ih11 (i + 1) (by omega) (o1) (true) (by refine Eq.trans ?_ ht11; first | with_reducible rfl | (simp only [rm_upL, rm_drop, if_pos c_24, eo1, rm_cl ho1, isNd_nI ho1, if_neg c_61, c_77, ↓reduceIte, Bool.false_eq_true]; done) | (simp only [rm_upL, rm_drop, if_pos c_24, eo1, rm_cl ho1, isNd_nI ho1, if_neg c_61, c_77, ↓reduceIte, Bool.false_eq_true]; with_reducible rfl)) (ho1) _ _ hw _ (lv_sub hl [5, 6, 1, 2, 0] rfl)
                · skip
                  refine lv_goto (tgt := 107) hx hb dX0_up_80 (by decide) ?_
                  refine lv_aload_n hx hb dX0_up_107 rfl (lv_at hl 2 rfl) ?_
                  refine lv_dup hx hb dX0_up_108 rfl ?_
                  refine rm_geti C hw 5 (by decide) (hts _ (by decide +kernel)) rfl dX0_up_109 ?_
                  refine lv_iconst (v := 1) hx hb dX0_up_112 (by decide) ?_
                  refine lv_iadd hx hb dX0_up_113 ?_
                  refine rm_puti C hw 5 (by decide) (hts _ (by decide +kernel)) rfl rfl rfl dX0_up_114 (fun H locs hw => ?_)
                  refine lv_bipush (v := (-2)) hx hb dX0_up_117 (by decide) ?_
                  exact rm_xret C hr hlocks hw (Nat.le_of_ble_eq_true rfl) (Nat.le_of_ble_eq_true rfl) dX0_up_119 ⟨by first | (simp only [c_1, rm_cl hxn, if_pos c_24, eo1, rm_cl ho1, isNd_nI ho1, if_neg c_61, c_77, ↓reduceIte, Bool.false_eq_true, rm_or_n, rm_or_s]; done) | (simp only [c_1, rm_cl hxn, if_pos c_24, eo1, rm_cl ho1, isNd_nI ho1, if_neg c_61, c_77, ↓reduceIte, Bool.false_eq_true, rm_or_n, rm_or_s]; rfl), by first | with_reducible rfl | (rw [← ht11]; simp only [rm_upL, rm_drop, if_pos c_24, eo1, rm_cl ho1, isNd_nI ho1, if_neg c_61, c_77, ↓reduceIte, Bool.false_eq_true]; done) | (rw [← ht11]; simp only [rm_upL, rm_drop, if_pos c_24, eo1, rm_cl ho1, isNd_nI ho1, if_neg c_61, c_77, ↓reduceIte, Bool.false_eq_true]; with_reducible rfl) | (rw [← ht11]; simp only [rm_upL, rm_drop, if_pos c_24, eo1, rm_cl ho1, isNd_nI ho1, if_neg c_61, c_77, ↓reduceIte, Bool.false_eq_true]; rfl) | (simp only [rm_upS, c_1, rm_cl hxn, if_pos c_24, eo1, rm_cl ho1, isNd_nI ho1, if_neg c_61, c_77, ↓reduceIte, Bool.false_eq_true]; rw [← ht11]; simp only [rm_upL, rm_drop, if_pos c_24, eo1, rm_cl ho1, isNd_nI ho1, if_neg c_61, c_77, ↓reduceIte, Bool.false_eq_true]; done) | (simp only [rm_upS, c_1, rm_cl hxn, if_pos c_24, eo1, rm_cl ho1, isNd_nI ho1, if_neg c_61, c_77, ↓reduceIte, Bool.false_eq_true]; done) | (simp only [rm_upS, c_1, rm_cl hxn, if_pos c_24, eo1, rm_cl ho1, isNd_nI ho1, if_neg c_61, c_77, ↓reduceIte, Bool.false_eq_true]; with_reducible rfl), by first | with_reducible rfl | (rw [← ht11]; simp only [rm_upL, rm_drop, if_pos c_24, eo1, rm_cl ho1, isNd_nI ho1, if_neg c_61, c_77, ↓reduceIte, Bool.false_eq_true]; done) | (rw [← ht11]; simp only [rm_upL, rm_drop, if_pos c_24, eo1, rm_cl ho1, isNd_nI ho1, if_neg c_61, c_77, ↓reduceIte, Bool.false_eq_true]; with_reducible rfl) | (rw [← ht11]; simp only [rm_upL, rm_drop, if_pos c_24, eo1, rm_cl ho1, isNd_nI ho1, if_neg c_61, c_77, ↓reduceIte, Bool.false_eq_true]; rfl) | (simp only [rm_upS, c_1, rm_cl hxn, if_pos c_24, eo1, rm_cl ho1, isNd_nI ho1, if_neg c_61, c_77, ↓reduceIte, Bool.false_eq_true]; rw [← ht11]; simp only [rm_upL, rm_drop, if_pos c_24, eo1, rm_cl ho1, isNd_nI ho1, if_neg c_61, c_77, ↓reduceIte, Bool.false_eq_true]; done) | (simp only [rm_upS, c_1, rm_cl hxn, if_pos c_24, eo1, rm_cl ho1, isNd_nI ho1, if_neg c_61, c_77, ↓reduceIte, Bool.false_eq_true]; done) | (simp only [rm_upS, c_1, rm_cl hxn, if_pos c_24, eo1, rm_cl ho1, isNd_nI ho1, if_neg c_61, c_77, ↓reduceIte, Bool.false_eq_true]; with_reducible rfl)⟩
          · skip
            refine lv_iconst (v := (-1)) hx hb dX0_up_46 (by decide) ?_
            exact rm_xret C hr hlocks hw (Nat.le_of_ble_eq_true rfl) (Nat.le_of_ble_eq_true rfl) dX0_up_47 ⟨by first | (simp only [c_1, rm_cl hxn, if_pos c_24, c_43, ↓reduceIte, Bool.false_eq_true, rm_or_n, rm_or_s]; done) | (simp only [c_1, rm_cl hxn, if_pos c_24, c_43, ↓reduceIte, Bool.false_eq_true, rm_or_n, rm_or_s]; rfl), by first | with_reducible rfl | (rw [← ht11]; simp only [rm_upL, rm_drop, if_pos c_24, c_43, ↓reduceIte, Bool.false_eq_true]; done) | (rw [← ht11]; simp only [rm_upL, rm_drop, if_pos c_24, c_43, ↓reduceIte, Bool.false_eq_true]; with_reducible rfl) | (rw [← ht11]; simp only [rm_upL, rm_drop, if_pos c_24, c_43, ↓reduceIte, Bool.false_eq_true]; rfl) | (simp only [rm_upS, c_1, rm_cl hxn, if_pos c_24, c_43, ↓reduceIte, Bool.false_eq_true]; rw [← ht11]; simp only [rm_upL, rm_drop, if_pos c_24, c_43, ↓reduceIte, Bool.false_eq_true]; done) | (simp only [rm_upS, c_1, rm_cl hxn, if_pos c_24, c_43, ↓reduceIte, Bool.false_eq_true]; done) | (simp only [rm_upS, c_1, rm_cl hxn, if_pos c_24, c_43, ↓reduceIte, Bool.false_eq_true]; with_reducible rfl), by first | with_reducible rfl | (rw [← ht11]; simp only [rm_upL, rm_drop, if_pos c_24, c_43, ↓reduceIte, Bool.false_eq_true]; done) | (rw [← ht11]; simp only [rm_upL, rm_drop, if_pos c_24, c_43, ↓reduceIte, Bool.false_eq_true]; with_reducible rfl) | (rw [← ht11]; simp only [rm_upL, rm_drop, if_pos c_24, c_43, ↓reduceIte, Bool.false_eq_true]; rfl) | (simp only [rm_upS, c_1, rm_cl hxn, if_pos c_24, c_43, ↓reduceIte, Bool.false_eq_true]; rw [← ht11]; simp only [rm_upL, rm_drop, if_pos c_24, c_43, ↓reduceIte, Bool.false_eq_true]; done) | (simp only [rm_upS, c_1, rm_cl hxn, if_pos c_24, c_43, ↓reduceIte, Bool.false_eq_true]; done) | (simp only [rm_upS, c_1, rm_cl hxn, if_pos c_24, c_43, ↓reduceIte, Bool.false_eq_true]; with_reducible rfl)⟩
        · skip
          refine lv_iload hx hb dX0_up_27 (lv_at hl 4 rfl) ?_
          exact rm_xret C hr hlocks hw (Nat.le_of_ble_eq_true rfl) (Nat.le_of_ble_eq_true rfl) dX0_up_29 ⟨by first | (simp only [c_1, rm_cl hxn, if_neg c_24, ↓reduceIte, Bool.false_eq_true, rm_or_n, rm_or_s]; done) | (simp only [c_1, rm_cl hxn, if_neg c_24, ↓reduceIte, Bool.false_eq_true, rm_or_n, rm_or_s]; rfl), by first | with_reducible rfl | (rw [← ht11]; simp only [rm_upL, rm_drop, if_neg c_24, ↓reduceIte, Bool.false_eq_true]; done) | (rw [← ht11]; simp only [rm_upL, rm_drop, if_neg c_24, ↓reduceIte, Bool.false_eq_true]; with_reducible rfl) | (rw [← ht11]; simp only [rm_upL, rm_drop, if_neg c_24, ↓reduceIte, Bool.false_eq_true]; rfl) | (simp only [rm_upS, c_1, rm_cl hxn, if_neg c_24, ↓reduceIte, Bool.false_eq_true]; rw [← ht11]; simp only [rm_upL, rm_drop, if_neg c_24, ↓reduceIte, Bool.false_eq_true]; done) | (simp only [rm_upS, c_1, rm_cl hxn, if_neg c_24, ↓reduceIte, Bool.false_eq_true]; done) | (simp only [rm_upS, c_1, rm_cl hxn, if_neg c_24, ↓reduceIte, Bool.false_eq_true]; with_reducible rfl), by first | with_reducible rfl | (rw [← ht11]; simp only [rm_upL, rm_drop, if_neg c_24, ↓reduceIte, Bool.false_eq_true]; done) | (rw [← ht11]; simp only [rm_upL, rm_drop, if_neg c_24, ↓reduceIte, Bool.false_eq_true]; with_reducible rfl) | (rw [← ht11]; simp only [rm_upL, rm_drop, if_neg c_24, ↓reduceIte, Bool.false_eq_true]; rfl) | (simp only [rm_upS, c_1, rm_cl hxn, if_neg c_24, ↓reduceIte, Bool.false_eq_true]; rw [← ht11]; simp only [rm_upL, rm_drop, if_neg c_24, ↓reduceIte, Bool.false_eq_true]; done) | (simp only [rm_upS, c_1, rm_cl hxn, if_neg c_24, ↓reduceIte, Bool.false_eq_true]; done) | (simp only [rm_upS, c_1, rm_cl hxn, if_neg c_24, ↓reduceIte, Bool.false_eq_true]; with_reducible rfl)⟩
  exact lp_11 21 0 (by omega) (xn) (false) (by first | with_reducible rfl | (unfold rm_upS; with_reducible rfl) | (simp only [rm_upS, c_1, rm_cl hxn, ↓reduceIte, Bool.false_eq_true]; done) | (simp only [rm_upS, c_1, rm_cl hxn, ↓reduceIte, Bool.false_eq_true]; with_reducible rfl)) (hxn) _ _ hw _ (lv_sub hl [3, 4, 2, 1, 0] rfl)
set_option maxHeartbeats 4000000 in
set_option maxRecDepth 100000 in
theorem kX0_down (l : Launch) (hfl : l.stackTraces = false) (k : rm_K) (a : Nat → Nat) (ha : rm_inj a) (σ : rm_St) (x : Int32) (y : Int32) : rm_XI l k a yX0_down wsX0_down ({ frames := 7, cells := 3, slots := 18, locals := 110 }) [.int x, .int y] σ (rm_tDown σ x y) ((rm_dnL σ x 10 0 y).getD 0) σ := by
  refine rm_enterXI (cc := cX0_down) (nL := 5) (ret := (some .int)) ha (by decide) rfl rfl (by decide +kernel) (Nat.le_of_ble_eq_true rfl) ?_
  intro p e s m args below meth c ls C hr hlocks htab hTh hw hl
  have hx := C.1.1
  have hb := C.1.2.1
  have hts := C.1.2.2.2.2
  have hA : ∀ q, s.heap.size ≤ q → rm_A a s.heap.size q := fun q h => Or.inr h
  replace hl : lv_has ls 5 [(0, .ref (a 0)), (1, .int x), (2, .int y)] := hl
  refine lv_iload_n hx hb dX0_down_0 rfl (lv_at hl 1 rfl) ?_
  refine rm_callXS C hlocks htab hTh hw (As := [.int x]) (rest := []) (kX0_requireNode l hfl (x)) (va_cwS 1 hts gX0_down_X0_requireNode rfl rfl rfl (by decide +kernel) ⟨Nat.le_of_ble_eq_true rfl, Nat.le_of_ble_eq_true rfl⟩) rfl hl.1 rfl (lv_room (Nat.le_of_ble_eq_true rfl)) dX0_down_1 ⟨Nat.le_of_ble_eq_true rfl, Nat.le_of_ble_eq_true rfl⟩ (Nat.le_of_ble_eq_true rfl) (Nat.le_of_ble_eq_true rfl) (fun E hE => by simp only [rm_tDown, hE, rm_or_n, rm_or_s, ↓reduceIte, Bool.false_eq_true]) (fun c_1 H locs hw => ?_)
  obtain ⟨xn, hxn, rfl⟩ := rm_tN_none c_1
  refine lv_iload_n hx hb dX0_down_4 rfl (lv_at hl 2 rfl) ?_
  refine rm_callXS C hlocks htab hTh hw (As := [.int y]) (rest := []) (kX0_requireNode l hfl (y)) (va_cwS 1 hts gX0_down_X0_requireNode rfl rfl rfl (by decide +kernel) ⟨Nat.le_of_ble_eq_true rfl, Nat.le_of_ble_eq_true rfl⟩) rfl hl.1 rfl (lv_room (Nat.le_of_ble_eq_true rfl)) dX0_down_5 ⟨Nat.le_of_ble_eq_true rfl, Nat.le_of_ble_eq_true rfl⟩ (Nat.le_of_ble_eq_true rfl) (Nat.le_of_ble_eq_true rfl) (fun E hE => by simp only [rm_tDown, hE, rm_or_n, rm_or_s, c_1, rm_cl hxn, ↓reduceIte, Bool.false_eq_true]) (fun c_5 H locs hw => ?_)
  obtain ⟨yn, hyn, rfl⟩ := rm_tN_none c_5
  refine lv_iload_n hx hb dX0_down_8 rfl (lv_at hl 1 rfl) ?_
  refine lv_iload_n hx hb dX0_down_9 rfl (lv_at hl 2 rfl) ?_
  refine lv_icmp_ne (tgt := 23) hx hb dX0_down_10 (by decide) (fun c_10 => ?_) (fun c_10 => ?_)
  · skip
    refine lv_iload_n hx hb dX0_down_23 rfl (lv_at hl 2 rfl) ?_
    refine lv_istore_n (lv' := [(3, .int (nI yn)), (0, .ref (a 0)), (1, .int (nI xn)), (2, .int (nI yn))]) hx hb dX0_down_24 rfl hl (by decide) rfl (fun ls hl => ?_)
    refine lv_iconst (v := 0) hx hb dX0_down_25 (by decide) ?_
    refine lv_istore (lv' := [(4, .int 0), (3, .int (nI yn)), (0, .ref (a 0)), (1, .int (nI xn)), (2, .int (nI yn))]) hx hb dX0_down_26 hl (by decide) rfl (fun ls hl => ?_)
    have lp_28 : ∀ (r i : Nat), i + r = 10 → ∀ (x3 : Int32), rm_dnL σ (nI xn) r i x3 = rm_dnL σ (nI xn) 10 0 (nI yn) → ∀ (H : Heap) (locs : List Loc), rm_Wd k a (rm_A a s.heap.size) s.heap s σ H locs → ∀ (ls : Array Slot), lv_has ls 5 [(0, .ref (a 0)), (1, .int (nI xn)), (3, .int x3), (4, .int (nI i))] → W p l e (headSpec wsX0_down ({ frames := 7, cells := 3, slots := 18, locals := 110 })).room s m args below meth c H locs 2 12 (vx_MQ below (va_Qi (fun (r : Int32) (τ : rm_St) => (rm_tDown σ (nI xn) (nI yn)) = none ∧ r = ((rm_dnL σ (nI xn) 10 0 (nI yn)).getD 0) ∧ τ = σ) (fun τ t => rm_P k a τ t) (rm_A a s.heap.size)) (rm_XC k a σ (rm_tDown σ (nI xn) (nI yn)) (rm_A a s.heap.size)) args s 3 18 (rm_A a s.heap.size)) (F0 m 28 ls []) := by
      intro r
      induction r with
      | zero =>
        intro i hi28 x3 ht28 H locs hw ls hl
        obtain rfl : 10 = i := by omega
        have hz28 : none = rm_dnL σ (nI xn) 10 0 (nI yn) := ht28
        refine lv_iload hx hb dX0_down_28 (lv_at hl 3 rfl) ?_
        refine lv_bipush (v := 10) hx hb dX0_down_30 (by decide) ?_
        refine lv_icmp_ge (tgt := 67) hx hb dX0_down_32 (by decide) (fun c_32 => ?_) (fun c_32 => ?_)
        · skip
          exact rm_throwS C hfl hlocks htab hTh hw (by decide +kernel) (by decide +kernel) (by decide +kernel) hTh.2.2.1.2.2.2.1 (by decide +kernel) rm_nb3 hTh.2.2.2.2.2.2.2.2 rm_ot3 hl.1 dX0_down_67 dX0_down_70 dX0_down_71 dX0_down_73 dX0_down_76 (Nat.le_of_ble_eq_true rfl) (Nat.le_of_ble_eq_true rfl) (Nat.le_of_ble_eq_true rfl) (Nat.le_of_ble_eq_true rfl) (Nat.le_of_ble_eq_true rfl) (Nat.le_of_ble_eq_true rfl) (by simp only [rm_tDown, c_1, c_5, if_neg c_10, ↓reduceIte, Bool.false_eq_true, rm_or_n, rm_or_s, if_pos hz28.symm]; rfl)
        · exact absurd (show (10 : Int32) ≤ nI 10 from nI_le (a := 10) (b := 10) (Nat.le_refl _) (by decide)) c_32
      | succ r ih28 =>
        intro i hi28 x3 ht28 H locs hw ls hl
        have hlt28 : i < 10 := by omega
        refine lv_iload hx hb dX0_down_28 (lv_at hl 3 rfl) ?_
        refine lv_bipush (v := 10) hx hb dX0_down_30 (by decide) ?_
        refine lv_icmp_ge (tgt := 67) hx hb dX0_down_32 (by decide) (fun c_32 => ?_) (fun c_32 => ?_)
        · exact absurd c_32 (nI_ge (a := i) (b := 10) hlt28 (by decide))
        · skip
          refine lv_iload_n hx hb dX0_down_35 rfl (lv_at hl 2 rfl) ?_
          refine rm_callSI C hw (As := [.int x3]) (rest := []) (kX0_isNode l (x3)) (va_cwS 1 hts gX0_down_X0_isNode rfl rfl rfl (by decide +kernel) ⟨Nat.le_of_ble_eq_true rfl, Nat.le_of_ble_eq_true rfl⟩) rfl hl.1 rfl (lv_room (Nat.le_of_ble_eq_true rfl)) dX0_down_36 ⟨Nat.le_of_ble_eq_true rfl, Nat.le_of_ble_eq_true rfl⟩ (fun H locs hw => ?_)
          refine rm_ifeq (tgt := 67) hx hb dX0_down_39 (by decide) (fun c_39 => ?_) (fun c_39 => ?_)
          · skip
            exact rm_throwS C hfl hlocks htab hTh hw (by decide +kernel) (by decide +kernel) (by decide +kernel) hTh.2.2.1.2.2.2.1 (by decide +kernel) rm_nb3 hTh.2.2.2.2.2.2.2.2 rm_ot3 hl.1 dX0_down_67 dX0_down_70 dX0_down_71 dX0_down_73 dX0_down_76 (Nat.le_of_ble_eq_true rfl) (Nat.le_of_ble_eq_true rfl) (Nat.le_of_ble_eq_true rfl) (Nat.le_of_ble_eq_true rfl) (Nat.le_of_ble_eq_true rfl) (Nat.le_of_ble_eq_true rfl) (by simp only [rm_tDown, c_1, c_5, if_neg c_10, ↓reduceIte, Bool.false_eq_true, rm_or_n, rm_or_s, if_pos (show rm_dnL σ (nI xn) 10 0 (nI yn) = none by rw [← ht28]; simp only [rm_dnL, c_1, rm_cl hxn, c_5, rm_cl hyn, if_neg c_10, c_39, ↓reduceIte, Bool.false_eq_true])]; rfl)
          · skip
            obtain ⟨x3n, hx3n, rfl⟩ := isNd_of c_39
            refine lv_aload_n hx hb dX0_down_42 rfl (lv_at hl 0 rfl) ?_
            refine rm_geta C hw 16 11 (by decide) rfl (hts _ (by decide +kernel)) rfl dX0_down_43 ?_
            refine lv_iload_n hx hb dX0_down_46 rfl (lv_at hl 2 rfl) ?_
            refine rm_iald C hw (by decide) hx3n dX0_down_47 ?_
            refine lv_iload_n hx hb dX0_down_48 rfl (lv_at hl 1 rfl) ?_
            refine lv_icmp_ne (tgt := 54) hx hb dX0_down_49 (by decide) (fun c_49 => ?_) (fun c_49 => ?_)
            · skip
              refine lv_aload_n hx hb dX0_down_54 rfl (lv_at hl 0 rfl) ?_
              refine rm_geta C hw 16 11 (by decide) rfl (hts _ (by decide +kernel)) rfl dX0_down_55 ?_
              refine lv_iload_n hx hb dX0_down_58 rfl (lv_at hl 2 rfl) ?_
              refine rm_iald C hw (by decide) hx3n dX0_down_59 ?_
              refine lv_istore_n (lv' := [(3, .int (σ 11 x3n)), (0, .ref (a 0)), (1, .int (nI xn)), (4, .int (nI i))]) hx hb dX0_down_60 rfl hl (by decide) rfl (fun ls hl => ?_)
              refine lv_iinc (v := nI (i + 1)) (lv' := [(4, .int (nI (i + 1))), (3, .int (σ 11 x3n)), (0, .ref (a 0)), (1, .int (nI xn))]) hx hb dX0_down_61 hl (k := 3) rfl (rm_inc i) (by decide) rfl (fun ls hl => ?_)
              refine lv_goto (tgt := 28) hx hb dX0_down_64 (by decide) ?_
              exact ih28 (i + 1) (by omega) (σ 11 x3n) (by refine Eq.trans ?_ ht28; first | with_reducible rfl | (simp only [rm_dnL, Option.getD_some, c_39, rm_cl hx3n, isNd_nI hx3n, if_neg c_49, ↓reduceIte, Bool.false_eq_true]; done) | (simp only [rm_dnL, Option.getD_some, c_39, rm_cl hx3n, isNd_nI hx3n, if_neg c_49, ↓reduceIte, Bool.false_eq_true]; with_reducible rfl)) _ _ hw _ (lv_sub hl [2, 3, 1, 0] rfl)
            · skip
              refine lv_iload_n hx hb dX0_down_52 rfl (lv_at hl 2 rfl) ?_
              exact rm_xret C hr hlocks hw (Nat.le_of_ble_eq_true rfl) (Nat.le_of_ble_eq_true rfl) dX0_down_53 ⟨by simp only [rm_tDown, c_1, c_5, if_neg c_10, ↓reduceIte, Bool.false_eq_true, rm_or_n, rm_or_s, if_neg (show ¬ rm_dnL σ (nI xn) 10 0 (nI yn) = none by rw [← ht28]; simp [rm_dnL, c_1, rm_cl hxn, c_5, rm_cl hyn, if_neg c_10, c_39, rm_cl hx3n, isNd_nI hx3n, if_pos c_49, ↓reduceIte, Bool.false_eq_true])], by first | with_reducible rfl | (rw [← ht28]; simp only [rm_dnL, Option.getD_some, c_39, rm_cl hx3n, isNd_nI hx3n, if_pos c_49, ↓reduceIte, Bool.false_eq_true]; done) | (rw [← ht28]; simp only [rm_dnL, Option.getD_some, c_39, rm_cl hx3n, isNd_nI hx3n, if_pos c_49, ↓reduceIte, Bool.false_eq_true]; with_reducible rfl) | (rw [← ht28]; simp only [rm_dnL, Option.getD_some, c_39, rm_cl hx3n, isNd_nI hx3n, if_pos c_49, ↓reduceIte, Bool.false_eq_true]; rfl) | (simp only [c_1, rm_cl hxn, c_5, rm_cl hyn, if_neg c_10, c_39, rm_cl hx3n, isNd_nI hx3n, if_pos c_49, ↓reduceIte, Bool.false_eq_true]; rw [← ht28]; simp only [rm_dnL, Option.getD_some, c_39, rm_cl hx3n, isNd_nI hx3n, if_pos c_49, ↓reduceIte, Bool.false_eq_true]; done) | (simp only [c_1, rm_cl hxn, c_5, rm_cl hyn, if_neg c_10, c_39, rm_cl hx3n, isNd_nI hx3n, if_pos c_49, ↓reduceIte, Bool.false_eq_true]; done) | (simp only [c_1, rm_cl hxn, c_5, rm_cl hyn, if_neg c_10, c_39, rm_cl hx3n, isNd_nI hx3n, if_pos c_49, ↓reduceIte, Bool.false_eq_true]; with_reducible rfl), by first | with_reducible rfl | (rw [← ht28]; simp only [rm_dnL, Option.getD_some, c_39, rm_cl hx3n, isNd_nI hx3n, if_pos c_49, ↓reduceIte, Bool.false_eq_true]; done) | (rw [← ht28]; simp only [rm_dnL, Option.getD_some, c_39, rm_cl hx3n, isNd_nI hx3n, if_pos c_49, ↓reduceIte, Bool.false_eq_true]; with_reducible rfl) | (rw [← ht28]; simp only [rm_dnL, Option.getD_some, c_39, rm_cl hx3n, isNd_nI hx3n, if_pos c_49, ↓reduceIte, Bool.false_eq_true]; rfl) | (simp only [c_1, rm_cl hxn, c_5, rm_cl hyn, if_neg c_10, c_39, rm_cl hx3n, isNd_nI hx3n, if_pos c_49, ↓reduceIte, Bool.false_eq_true]; rw [← ht28]; simp only [rm_dnL, Option.getD_some, c_39, rm_cl hx3n, isNd_nI hx3n, if_pos c_49, ↓reduceIte, Bool.false_eq_true]; done) | (simp only [c_1, rm_cl hxn, c_5, rm_cl hyn, if_neg c_10, c_39, rm_cl hx3n, isNd_nI hx3n, if_pos c_49, ↓reduceIte, Bool.false_eq_true]; done) | (simp only [c_1, rm_cl hxn, c_5, rm_cl hyn, if_neg c_10, c_39, rm_cl hx3n, isNd_nI hx3n, if_pos c_49, ↓reduceIte, Bool.false_eq_true]; with_reducible rfl)⟩
    exact lp_28 10 0 (by omega) (nI yn) (by first | with_reducible rfl | (simp only [c_1, rm_cl hxn, c_5, rm_cl hyn, if_neg c_10, ↓reduceIte, Bool.false_eq_true]; done) | (simp only [c_1, rm_cl hxn, c_5, rm_cl hyn, if_neg c_10, ↓reduceIte, Bool.false_eq_true]; with_reducible rfl)) _ _ hw _ (lv_sub hl [2, 3, 1, 0] rfl)
  · skip
    exact rm_throwS C hfl hlocks htab hTh hw (by decide +kernel) (by decide +kernel) (by decide +kernel) hTh.2.2.1.2.2.1 (by decide +kernel) rm_nb3 hTh.2.2.2.2.2.2.2.2 rm_ot3 hl.1 dX0_down_13 dX0_down_16 dX0_down_17 dX0_down_19 dX0_down_22 (Nat.le_of_ble_eq_true rfl) (Nat.le_of_ble_eq_true rfl) (Nat.le_of_ble_eq_true rfl) (Nat.le_of_ble_eq_true rfl) (Nat.le_of_ble_eq_true rfl) (Nat.le_of_ble_eq_true rfl) (by first | (simp only [rm_tDown, c_1, rm_cl hxn, c_5, rm_cl hyn, if_pos c_10, ↓reduceIte, Bool.false_eq_true, rm_or_n, rm_or_s]; done) | (simp only [rm_tDown, c_1, rm_cl hxn, c_5, rm_cl hyn, if_pos c_10, ↓reduceIte, Bool.false_eq_true, rm_or_n, rm_or_s]; rfl))

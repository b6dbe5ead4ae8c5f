set_option maxHeartbeats 4000000 in
set_option maxRecDepth 100000 in
theorem jL_isNode (l : Launch) (hfl : l.stackTraces = false) (k : rm_K) (a q : Nat → Nat) (hsep : lz_sep a q) (σ θ : rm_St) {n K B : Nat} (hn : n < 10) (hI : lz_I K B σ θ) (hK : K ≤ 100) : lz_M l k a q (fun _ => True) yL_isNode wsL_isNode ({ frames := 8, cells := 28, slots := 168, locals := 140 }) [.ref (a 0), .ref (q 0), .ref (q 1), .ref (q 2), .int (nI n)] σ θ (fun r σ1 θ1 => r = 1 ∧ σ1 = σ ∧ θ1 = θ) := by
  refine lz_enter (cc := cL_isNode) (nL := 11) (ret := some .boolean) hsep (by decide) rfl rfl (Nat.le_of_ble_eq_true rfl) ?_
  intro p e s m args below meth c ls CF hr hlocks hTh hN hX hw hl
  have hx := CF.1
  have hb := CF.2.1
  have hts := CF.2.2.2.2
  have hA : ∀ x, s.heap.size ≤ x → lz_A a q s.heap.size x := fun x h => Or.inl (Or.inr h)
  replace hl : lv_has ls 11 [(0, .ref (a 0)), (1, .ref (q 0)), (2, .ref (q 1)), (3, .ref (q 2)), (4, .int (nI n))] := hl
  obtain ⟨hM, hNn, hT, ⟨hLc, hLt, hL4, hL2, hL5⟩, hB⟩ := hI
  have lp : ∀ (r i : Nat), i + r = 10 → ∀ (H : Heap) (locs : List Loc) (ls : Array Slot) (cells slots : Nat), lz_Wd k a q (lz_A a q s.heap.size) s.heap s σ θ H locs → lv_has ls 11 [(0, .ref (a 0)), (1, .ref (q 0)), (2, .ref (q 1)), (3, .ref (q 2)), (4, .int (nI n)), (8, .int 1), (9, .int (nI i))] → cells ≤ 8 + 2 * i → slots ≤ 48 + 12 * i → W p l e (headSpec wsL_isNode ({ frames := 8, cells := 28, slots := 168, locals := 140 })).room s m args below meth c H locs cells slots (MQ below (va_Qi (fun (r : Int32) (u : rm_St × rm_St) => (fun r σ1 θ1 => r = 1 ∧ σ1 = σ ∧ θ1 = θ) r u.1 u.2) (fun u t => lz_P k a q u.1 u.2 t) (lz_A a q s.heap.size)) args s 28 168 (lz_A a q s.heap.size)) (F0 m 234 ls []) := by
    intro r
    induction r with
    | zero =>
      intro i hi H locs ls cells slots hw hl hc hs
      obtain rfl : i = 10 := by omega
      refine lv_iload hx hb dL_isNode_234 (lv_at hl 6 rfl) ?_
      refine lv_bipush (v := 10) hx hb dL_isNode_236 (by decide) ?_
      refine lv_icmp_ge (tgt := 300) hx hb dL_isNode_238 (by decide) (fun c_238 => ?_) (fun c_238 => absurd (nI_le (a := 10) (b := 10) (Nat.le_refl _) (by decide)) c_238)
      refine lv_iload hx hb dL_isNode_300 (lv_at hl 5 rfl) ?_
      exact lz_zret (post := (fun r σ1 θ1 => r = 1 ∧ σ1 = σ ∧ θ1 = θ)) CF hr hlocks hw (by show cells ≤ 28; omega) (by show slots ≤ 168; omega) dL_isNode_302 ⟨rfl, rfl, rfl⟩
    | succ r ih =>
      intro i hi H locs ls cells slots hw hl hc hs
      have hi10 : i < 10 := by omega
      have hh := hM.2.2 n i hn hi10
      have h10001 : (10001 : Int32).toInt = 10001 := rfl
      have hm1 : (-1 : Int32).toInt = -1 := rfl
      have hlo : ¬ σ (45 + n) i < -1 := by
        rw [Int32.lt_iff_toInt_lt, hm1]
        rcases hh with g | ⟨-, g, -⟩
        · rw [g, hm1]; omega
        · omega
      have hhi : ¬ 10001 ≤ σ (45 + n) i := by
        rw [Int32.le_iff_toInt_le, h10001]
        rcases hh with g | ⟨-, g, -⟩
        · rw [g, hm1]; omega
        · omega
      refine lv_iload hx hb dL_isNode_234 (lv_at hl 6 rfl) ?_
      refine lv_bipush (v := 10) hx hb dL_isNode_236 (by decide) ?_
      refine lv_icmp_ge (tgt := 300) hx hb dL_isNode_238 (by decide) (fun c_238 => absurd c_238 (nI_ge (a := i) (b := 10) hi10 (by decide))) (fun c_238 => ?_)
      refine lv_iload hx hb dL_isNode_241 (lv_at hl 5 rfl) ?_
      refine lv_if_eq (tgt := 300) hx hb dL_isNode_243 (by decide) (fun c_243 => absurd c_243 (by decide)) (fun c_243 => ?_)
      refine lv_aload_n hx hb dL_isNode_246 rfl (lv_at hl 0 rfl) ?_
      refine lv_iload hx hb dL_isNode_247 (lv_at hl 4 rfl) ?_
      refine lv_iload hx hb dL_isNode_249 (lv_at hl 6 rfl) ?_
      refine lz_callI CF hTh hA hw (As := [.int (nI n), .int (nI i)]) (rest := []) (lk_heard l k a σ hfl hsep.1 hn hi10 rfl) (cwV 2 hts gL_isNode_X0_heard rfl rfl rfl (by decide +kernel) ⟨Nat.le_of_ble_eq_true rfl, Nat.le_of_ble_eq_true rfl⟩) rfl hl.1 rfl (lv_room (Nat.le_of_ble_eq_true rfl)) dL_isNode_251 ⟨by show cells + 2 ≤ 28; omega, by show slots + 12 ≤ 168; omega⟩ (fun H locs hw => ?_)
      refine lv_istore (lv' := [(10, .int (σ (45 + n) i)), (0, .ref (a 0)), (1, .ref (q 0)), (2, .ref (q 1)), (3, .ref (q 2)), (4, .int (nI n)), (8, .int 1), (9, .int (nI i))]) hx hb dL_isNode_254 hl (by decide) rfl (fun ls hl => ?_)
      refine lv_iload hx hb dL_isNode_256 (lv_at hl 0 rfl) ?_
      refine lv_iconst (v := (-1)) hx hb dL_isNode_258 (by decide) ?_
      refine lv_icmp_lt (tgt := 291) hx hb dL_isNode_259 (by decide) (fun c_259 => absurd c_259 hlo) (fun c_259 => ?_)
      refine lv_iload hx hb dL_isNode_262 (lv_at hl 0 rfl) ?_
      refine lv_sipush (v := 10001) hx hb dL_isNode_264 (by decide) ?_
      refine lv_icmp_ge (tgt := 291) hx hb dL_isNode_267 (by decide) (fun c_267 => absurd c_267 hhi) (fun c_267 => ?_)
      refine lv_aload_n hx hb dL_isNode_270 rfl (lv_at hl 2 rfl) ?_
      refine lv_iload hx hb dL_isNode_271 (lv_at hl 5 rfl) ?_
      refine lv_iload hx hb dL_isNode_273 (lv_at hl 7 rfl) ?_
      refine lz_callC CF hw (As := [.ref (q 0), .int (nI n), .int (nI i)]) (rest := []) (jL_cost l k q θ n i (by omega) (by omega) _ (hLc n i hn hi10)) (va_cwS 3 hts gL_isNode_L_cost rfl rfl rfl (by decide +kernel) ⟨Nat.le_of_ble_eq_true rfl, Nat.le_of_ble_eq_true rfl⟩) rfl hl.1 rfl (lv_room (Nat.le_of_ble_eq_true rfl)) dL_isNode_275 ⟨by show cells + 2 ≤ 28; omega, by show slots + 12 ≤ 168; omega⟩ (fun H locs hw => ?_)
      refine lv_if_gt (tgt := 287) hx hb dL_isNode_278 (by decide) (fun c_278 => ?_) (fun c_278 => ?_)
      · skip
        refine lv_iconst (v := 1) hx hb dL_isNode_287 (by decide) ?_
        refine lv_goto (tgt := 292) hx hb dL_isNode_288 (by decide) ?_
        refine lv_istore (lv' := [(8, .int 1), (10, .int (σ (45 + n) i)), (0, .ref (a 0)), (1, .ref (q 0)), (2, .ref (q 1)), (3, .ref (q 2)), (4, .int (nI n)), (9, .int (nI i))]) hx hb dL_isNode_292 hl (by decide) rfl (fun ls hl => ?_)
        refine lv_iinc (v := nI (i + 1)) (lv' := [(9, .int (nI (i + 1))), (8, .int 1), (10, .int (σ (45 + n) i)), (0, .ref (a 0)), (1, .ref (q 0)), (2, .ref (q 1)), (3, .ref (q 2)), (4, .int (nI n))]) hx hb dL_isNode_294 hl (k := 7) rfl (rm_inc i) (by decide) rfl (fun ls hl => ?_)
        refine lv_goto (tgt := 234) hx hb dL_isNode_297 (by decide) ?_
        exact ih (i + 1) (by omega) H _ _ _ _ hw (lv_sub hl [3, 4, 5, 6, 7, 1, 0] rfl) (by show cells + 2 ≤ _; omega) (by show slots + 12 ≤ _; omega)
      · skip
        refine lv_iload hx hb dL_isNode_281 (lv_at hl 0 rfl) ?_
        refine lv_iconst (v := (-1)) hx hb dL_isNode_283 (by decide) ?_
        refine lv_icmp_ne (tgt := 291) hx hb dL_isNode_284 (by decide) (fun c_284 => absurd (hh.resolve_right (fun g => c_278 (by rw [Int32.lt_iff_toInt_lt, Int32.toInt_zero]; exact g.1))) c_284) (fun c_284 => ?_)
        refine lv_iconst (v := 1) hx hb dL_isNode_287 (by decide) ?_
        refine lv_goto (tgt := 292) hx hb dL_isNode_288 (by decide) ?_
        refine lv_istore (lv' := [(8, .int 1), (10, .int (σ (45 + n) i)), (0, .ref (a 0)), (1, .ref (q 0)), (2, .ref (q 1)), (3, .ref (q 2)), (4, .int (nI n)), (9, .int (nI i))]) hx hb dL_isNode_292 hl (by decide) rfl (fun ls hl => ?_)
        refine lv_iinc (v := nI (i + 1)) (lv' := [(9, .int (nI (i + 1))), (8, .int 1), (10, .int (σ (45 + n) i)), (0, .ref (a 0)), (1, .ref (q 0)), (2, .ref (q 1)), (3, .ref (q 2)), (4, .int (nI n))]) hx hb dL_isNode_294 hl (k := 7) rfl (rm_inc i) (by decide) rfl (fun ls hl => ?_)
        refine lv_goto (tgt := 234) hx hb dL_isNode_297 (by decide) ?_
        exact ih (i + 1) (by omega) H _ _ _ _ hw (lv_sub hl [3, 4, 5, 6, 7, 1, 0] rfl) (by show cells + 2 ≤ _; omega) (by show slots + 12 ≤ _; omega)
  have hself : σ (45 + n) n = -1 := by
    rcases hM.2.2 n n hn hn with g | ⟨g, -⟩
    · exact g
    · rw [(hM.2.1 n n hn hn).2.1 rfl] at g; exact absurd g (by decide)
  have hnext : ¬ σ 13 n ≤ θ 2 0 := by
    rw [hL4, Int32.le_iff_toInt_le]
    have := (hT n hn).2.1 hn
    omega
  rcases hNn n hn with ⟨c5, c7, c8, c9, c11, c6⟩ | ⟨c5, c9, c11⟩ | ⟨c5, p0, hp, c11, c9a, c9b, cc, c9, r0, hr0, c7, cv1, cv2⟩
  · have etree : rm_tree σ (nI n) = 10 * σ 8 n + nI n := by
      unfold rm_tree
      rw [rm_cl hn, c7, if_neg (fun h => nI_pos (n := n) (by omega) (by rw [h]; decide))]
    refine lv_aload_n hx hb dL_isNode_0 rfl (lv_at hl 0 rfl) ?_
    refine lv_iload hx hb dL_isNode_1 (lv_at hl 4 rfl) ?_
    refine lz_callI CF hTh hA hw (As := [.int (nI n)]) (rest := []) (lk_rank l k a σ hfl hsep.1 hn c9) (cwV 1 hts gL_isNode_X0_rank rfl rfl rfl (by decide +kernel) ⟨Nat.le_of_ble_eq_true rfl, Nat.le_of_ble_eq_true rfl⟩) rfl hl.1 rfl (lv_room (Nat.le_of_ble_eq_true rfl)) dL_isNode_3 ⟨Nat.le_of_ble_eq_true rfl, Nat.le_of_ble_eq_true rfl⟩ (fun H locs hw => ?_)
    refine lv_istore (lv' := [(5, .int 0), (0, .ref (a 0)), (1, .ref (q 0)), (2, .ref (q 1)), (3, .ref (q 2)), (4, .int (nI n))]) hx hb dL_isNode_6 hl (by decide) rfl (fun ls hl => ?_)
    refine lv_aload_n hx hb dL_isNode_8 rfl (lv_at hl 1 rfl) ?_
    refine lv_iload hx hb dL_isNode_9 (lv_at hl 5 rfl) ?_
    refine lz_callI CF hTh hA hw (As := [.int (nI n)]) (rest := []) (lk_parent l k a σ hfl hsep.1 hn c11) (cwV 1 hts gL_isNode_X0_parent rfl rfl rfl (by decide +kernel) ⟨Nat.le_of_ble_eq_true rfl, Nat.le_of_ble_eq_true rfl⟩) rfl hl.1 rfl (lv_room (Nat.le_of_ble_eq_true rfl)) dL_isNode_11 ⟨Nat.le_of_ble_eq_true rfl, Nat.le_of_ble_eq_true rfl⟩ (fun H locs hw => ?_)
    refine lv_istore (lv' := [(6, .int (-1)), (5, .int 0), (0, .ref (a 0)), (1, .ref (q 0)), (2, .ref (q 1)), (3, .ref (q 2)), (4, .int (nI n))]) hx hb dL_isNode_14 hl (by decide) rfl (fun ls hl => ?_)
    refine lv_aload_n hx hb dL_isNode_16 rfl (lv_at hl 2 rfl) ?_
    refine lv_iload hx hb dL_isNode_17 (lv_at hl 6 rfl) ?_
    refine lz_callI CF hTh hA hw (As := [.int (nI n)]) (rest := []) (lk_tree l k a σ hfl hsep.1 hn etree) (cwV 1 hts gL_isNode_X0_tree rfl rfl rfl (by decide +kernel) ⟨Nat.le_of_ble_eq_true rfl, Nat.le_of_ble_eq_true rfl⟩) rfl hl.1 rfl (lv_room (Nat.le_of_ble_eq_true rfl)) dL_isNode_19 ⟨Nat.le_of_ble_eq_true rfl, Nat.le_of_ble_eq_true rfl⟩ (fun H locs hw => ?_)
    refine lv_istore (lv' := [(7, .int (10 * σ 8 n + nI n)), (6, .int (-1)), (5, .int 0), (0, .ref (a 0)), (1, .ref (q 0)), (2, .ref (q 1)), (3, .ref (q 2)), (4, .int (nI n))]) hx hb dL_isNode_22 hl (by decide) rfl (fun ls hl => ?_)
    refine lv_aload_n hx hb dL_isNode_24 rfl (lv_at hl 3 rfl) ?_
    refine lv_iload hx hb dL_isNode_25 (lv_at hl 7 rfl) ?_
    refine lz_callI CF hTh hA hw (As := [.int (nI n)]) (rest := []) (lk_nextTelling l k a σ hfl hsep.1 hn rfl) (cwV 1 hts gL_isNode_X0_nextTelling rfl rfl rfl (by decide +kernel) ⟨Nat.le_of_ble_eq_true rfl, Nat.le_of_ble_eq_true rfl⟩) rfl hl.1 rfl (lv_room (Nat.le_of_ble_eq_true rfl)) dL_isNode_27 ⟨Nat.le_of_ble_eq_true rfl, Nat.le_of_ble_eq_true rfl⟩ (fun H locs hw => ?_)
    refine lv_aload_n hx hb dL_isNode_30 rfl (lv_at hl 6 rfl) ?_
    refine lv_iconst (v := 0) hx hb dL_isNode_31 (by decide) ?_
    refine lz_iald CF hw 2 (j := 0) (by decide) (by show _ < 3; omega) dL_isNode_32 ?_
    refine lv_icmp_le (tgt := 52) hx hb dL_isNode_33 (by decide) (fun c_33 => absurd c_33 hnext) (fun c_33 => ?_)
    refine lv_aload_n hx hb dL_isNode_36 rfl (lv_at hl 3 rfl) ?_
    refine lv_iload hx hb dL_isNode_37 (lv_at hl 7 rfl) ?_
    refine lv_iload hx hb dL_isNode_39 (lv_at hl 7 rfl) ?_
    refine lz_callI CF hTh hA hw (As := [.int (nI n), .int (nI n)]) (rest := []) (lk_heard l k a σ hfl hsep.1 hn hn hself) (cwV 2 hts gL_isNode_X0_heard rfl rfl rfl (by decide +kernel) ⟨Nat.le_of_ble_eq_true rfl, Nat.le_of_ble_eq_true rfl⟩) rfl hl.1 rfl (lv_room (Nat.le_of_ble_eq_true rfl)) dL_isNode_41 ⟨Nat.le_of_ble_eq_true rfl, Nat.le_of_ble_eq_true rfl⟩ (fun H locs hw => ?_)
    refine lv_iconst (v := (-1)) hx hb dL_isNode_44 (by decide) ?_
    refine lv_icmp_ne (tgt := 52) hx hb dL_isNode_45 (by decide) (fun c_45 => absurd rfl c_45) (fun c_45 => ?_)
    refine lv_iconst (v := 1) hx hb dL_isNode_48 (by decide) ?_
    refine lv_goto (tgt := 53) hx hb dL_isNode_49 (by decide) ?_
    refine lv_istore (lv' := [(8, .int 1), (7, .int (10 * σ 8 n + nI n)), (6, .int (-1)), (5, .int 0), (0, .ref (a 0)), (1, .ref (q 0)), (2, .ref (q 1)), (3, .ref (q 2)), (4, .int (nI n))]) hx hb dL_isNode_53 hl (by decide) rfl (fun ls hl => ?_)
    refine lv_aload_n hx hb dL_isNode_55 rfl (lv_at hl 6 rfl) ?_
    refine lv_iload hx hb dL_isNode_56 (lv_at hl 8 rfl) ?_
    refine lz_iald CF hw 1 (j := n) (by decide) (by show _ < 20; omega) dL_isNode_58 ?_
    refine lv_iconst (v := 1) hx hb dL_isNode_59 (by decide) ?_
    refine lv_icmp_ne (tgt := 107) hx hb dL_isNode_60 (by decide) (fun c_60 => absurd ((hLt n hn).1.trans c5) c_60) (fun c_60 => ?_)
    refine lv_iload hx hb dL_isNode_63 (lv_at hl 0 rfl) ?_
    refine lv_if_eq (tgt := 101) hx hb dL_isNode_65 (by decide) (fun c_65 => absurd c_65 (by decide)) (fun c_65 => ?_)
    refine lv_iload hx hb dL_isNode_68 (lv_at hl 3 rfl) ?_
    refine lv_if_ne (tgt := 101) hx hb dL_isNode_70 (by decide) (fun c_70 => absurd rfl c_70) (fun c_70 => ?_)
    refine lv_iload hx hb dL_isNode_73 (lv_at hl 2 rfl) ?_
    refine lv_iconst (v := (-1)) hx hb dL_isNode_75 (by decide) ?_
    refine lv_icmp_ne (tgt := 101) hx hb dL_isNode_76 (by decide) (fun c_76 => absurd rfl c_76) (fun c_76 => ?_)
    refine lv_iload hx hb dL_isNode_79 (lv_at hl 1 rfl) ?_
    refine lv_bipush (v := 10) hx hb dL_isNode_81 (by decide) ?_
    refine lv_aload_n hx hb dL_isNode_83 rfl (lv_at hl 6 rfl) ?_
    refine lv_bipush (v := 10) hx hb dL_isNode_84 (by decide) ?_
    refine lv_iload hx hb dL_isNode_86 (lv_at hl 8 rfl) ?_
    refine lv_iadd hx hb dL_isNode_88 ?_
    rw [show (10 : Int32) + (nI n) = nI (10 + n) from nI_add 10 n]
    refine lz_iald CF hw 1 (j := (10 + n)) (by decide) (by show _ < 20; omega) dL_isNode_89 ?_
    refine lv_imul hx hb dL_isNode_90 ?_
    refine lv_iload hx hb dL_isNode_91 (lv_at hl 8 rfl) ?_
    refine lv_iadd hx hb dL_isNode_93 ?_
    refine lv_icmp_ne (tgt := 101) hx hb dL_isNode_94 (by decide) (fun c_94 => absurd (by rw [(hLt n hn).2.1, c8]) c_94) (fun c_94 => ?_)
    refine lv_iconst (v := 1) hx hb dL_isNode_97 (by decide) ?_
    refine lv_goto (tgt := 102) hx hb dL_isNode_98 (by decide) ?_
    refine lv_istore (lv' := [(8, .int 1), (7, .int (10 * σ 8 n + nI n)), (6, .int (-1)), (5, .int 0), (0, .ref (a 0)), (1, .ref (q 0)), (2, .ref (q 1)), (3, .ref (q 2)), (4, .int (nI n))]) hx hb dL_isNode_102 hl (by decide) rfl (fun ls hl => ?_)
    refine lv_goto (tgt := 231) hx hb dL_isNode_104 (by decide) ?_
    refine lv_iconst (v := 0) hx hb dL_isNode_231 (by decide) ?_
    refine lv_istore (lv' := [(9, .int 0), (8, .int 1), (7, .int (10 * σ 8 n + nI n)), (6, .int (-1)), (5, .int 0), (0, .ref (a 0)), (1, .ref (q 0)), (2, .ref (q 1)), (3, .ref (q 2)), (4, .int (nI n))]) hx hb dL_isNode_232 hl (by decide) rfl (fun ls hl => ?_)
    exact lp 10 0 rfl H _ _ _ _ hw (lv_sub hl [5, 6, 7, 8, 9, 1, 0] rfl) (Nat.le_of_ble_eq_true rfl) (Nat.le_of_ble_eq_true rfl)
  · skip
    refine lv_aload_n hx hb dL_isNode_0 rfl (lv_at hl 0 rfl) ?_
    refine lv_iload hx hb dL_isNode_1 (lv_at hl 4 rfl) ?_
    refine lz_callI CF hTh hA hw (As := [.int (nI n)]) (rest := []) (lk_rank l k a σ hfl hsep.1 hn c9) (cwV 1 hts gL_isNode_X0_rank rfl rfl rfl (by decide +kernel) ⟨Nat.le_of_ble_eq_true rfl, Nat.le_of_ble_eq_true rfl⟩) rfl hl.1 rfl (lv_room (Nat.le_of_ble_eq_true rfl)) dL_isNode_3 ⟨Nat.le_of_ble_eq_true rfl, Nat.le_of_ble_eq_true rfl⟩ (fun H locs hw => ?_)
    refine lv_istore (lv' := [(5, .int 10000), (0, .ref (a 0)), (1, .ref (q 0)), (2, .ref (q 1)), (3, .ref (q 2)), (4, .int (nI n))]) hx hb dL_isNode_6 hl (by decide) rfl (fun ls hl => ?_)
    refine lv_aload_n hx hb dL_isNode_8 rfl (lv_at hl 1 rfl) ?_
    refine lv_iload hx hb dL_isNode_9 (lv_at hl 5 rfl) ?_
    refine lz_callI CF hTh hA hw (As := [.int (nI n)]) (rest := []) (lk_parent l k a σ hfl hsep.1 hn c11) (cwV 1 hts gL_isNode_X0_parent rfl rfl rfl (by decide +kernel) ⟨Nat.le_of_ble_eq_true rfl, Nat.le_of_ble_eq_true rfl⟩) rfl hl.1 rfl (lv_room (Nat.le_of_ble_eq_true rfl)) dL_isNode_11 ⟨Nat.le_of_ble_eq_true rfl, Nat.le_of_ble_eq_true rfl⟩ (fun H locs hw => ?_)
    refine lv_istore (lv' := [(6, .int (-1)), (5, .int 10000), (0, .ref (a 0)), (1, .ref (q 0)), (2, .ref (q 1)), (3, .ref (q 2)), (4, .int (nI n))]) hx hb dL_isNode_14 hl (by decide) rfl (fun ls hl => ?_)
    refine lv_aload_n hx hb dL_isNode_16 rfl (lv_at hl 2 rfl) ?_
    refine lv_iload hx hb dL_isNode_17 (lv_at hl 6 rfl) ?_
    refine lz_callI CF hTh hA hw (As := [.int (nI n)]) (rest := []) (lk_tree l k a σ hfl hsep.1 hn rfl) (cwV 1 hts gL_isNode_X0_tree rfl rfl rfl (by decide +kernel) ⟨Nat.le_of_ble_eq_true rfl, Nat.le_of_ble_eq_true rfl⟩) rfl hl.1 rfl (lv_room (Nat.le_of_ble_eq_true rfl)) dL_isNode_19 ⟨Nat.le_of_ble_eq_true rfl, Nat.le_of_ble_eq_true rfl⟩ (fun H locs hw => ?_)
    refine lv_istore (lv' := [(7, .int (rm_tree σ (nI n))), (6, .int (-1)), (5, .int 10000), (0, .ref (a 0)), (1, .ref (q 0)), (2, .ref (q 1)), (3, .ref (q 2)), (4, .int (nI n))]) hx hb dL_isNode_22 hl (by decide) rfl (fun ls hl => ?_)
    refine lv_aload_n hx hb dL_isNode_24 rfl (lv_at hl 3 rfl) ?_
    refine lv_iload hx hb dL_isNode_25 (lv_at hl 7 rfl) ?_
    refine lz_callI CF hTh hA hw (As := [.int (nI n)]) (rest := []) (lk_nextTelling l k a σ hfl hsep.1 hn rfl) (cwV 1 hts gL_isNode_X0_nextTelling rfl rfl rfl (by decide +kernel) ⟨Nat.le_of_ble_eq_true rfl, Nat.le_of_ble_eq_true rfl⟩) rfl hl.1 rfl (lv_room (Nat.le_of_ble_eq_true rfl)) dL_isNode_27 ⟨Nat.le_of_ble_eq_true rfl, Nat.le_of_ble_eq_true rfl⟩ (fun H locs hw => ?_)
    refine lv_aload_n hx hb dL_isNode_30 rfl (lv_at hl 6 rfl) ?_
    refine lv_iconst (v := 0) hx hb dL_isNode_31 (by decide) ?_
    refine lz_iald CF hw 2 (j := 0) (by decide) (by show _ < 3; omega) dL_isNode_32 ?_
    refine lv_icmp_le (tgt := 52) hx hb dL_isNode_33 (by decide) (fun c_33 => absurd c_33 hnext) (fun c_33 => ?_)
    refine lv_aload_n hx hb dL_isNode_36 rfl (lv_at hl 3 rfl) ?_
    refine lv_iload hx hb dL_isNode_37 (lv_at hl 7 rfl) ?_
    refine lv_iload hx hb dL_isNode_39 (lv_at hl 7 rfl) ?_
    refine lz_callI CF hTh hA hw (As := [.int (nI n), .int (nI n)]) (rest := []) (lk_heard l k a σ hfl hsep.1 hn hn hself) (cwV 2 hts gL_isNode_X0_heard rfl rfl rfl (by decide +kernel) ⟨Nat.le_of_ble_eq_true rfl, Nat.le_of_ble_eq_true rfl⟩) rfl hl.1 rfl (lv_room (Nat.le_of_ble_eq_true rfl)) dL_isNode_41 ⟨Nat.le_of_ble_eq_true rfl, Nat.le_of_ble_eq_true rfl⟩ (fun H locs hw => ?_)
    refine lv_iconst (v := (-1)) hx hb dL_isNode_44 (by decide) ?_
    refine lv_icmp_ne (tgt := 52) hx hb dL_isNode_45 (by decide) (fun c_45 => absurd rfl c_45) (fun c_45 => ?_)
    refine lv_iconst (v := 1) hx hb dL_isNode_48 (by decide) ?_
    refine lv_goto (tgt := 53) hx hb dL_isNode_49 (by decide) ?_
    refine lv_istore (lv' := [(8, .int 1), (7, .int (rm_tree σ (nI n))), (6, .int (-1)), (5, .int 10000), (0, .ref (a 0)), (1, .ref (q 0)), (2, .ref (q 1)), (3, .ref (q 2)), (4, .int (nI n))]) hx hb dL_isNode_53 hl (by decide) rfl (fun ls hl => ?_)
    refine lv_aload_n hx hb dL_isNode_55 rfl (lv_at hl 6 rfl) ?_
    refine lv_iload hx hb dL_isNode_56 (lv_at hl 8 rfl) ?_
    refine lz_iald CF hw 1 (j := n) (by decide) (by show _ < 20; omega) dL_isNode_58 ?_
    refine lv_iconst (v := 1) hx hb dL_isNode_59 (by decide) ?_
    refine lv_icmp_ne (tgt := 107) hx hb dL_isNode_60 (by decide) (fun c_60 => ?_) (fun c_60 => absurd c_60 (by rw [(hLt n hn).1, c5]; decide))
    refine lv_iload hx hb dL_isNode_107 (lv_at hl 2 rfl) ?_
    refine lv_if_ge (tgt := 141) hx hb dL_isNode_109 (by decide) (fun c_109 => absurd c_109 (by decide)) (fun c_109 => ?_)
    refine lv_iload hx hb dL_isNode_112 (lv_at hl 0 rfl) ?_
    refine lv_if_eq (tgt := 135) hx hb dL_isNode_114 (by decide) (fun c_114 => absurd c_114 (by decide)) (fun c_114 => ?_)
    refine lv_iload hx hb dL_isNode_117 (lv_at hl 2 rfl) ?_
    refine lv_iconst (v := (-1)) hx hb dL_isNode_119 (by decide) ?_
    refine lv_icmp_ne (tgt := 135) hx hb dL_isNode_120 (by decide) (fun c_120 => absurd rfl c_120) (fun c_120 => ?_)
    refine lv_iload hx hb dL_isNode_123 (lv_at hl 3 rfl) ?_
    refine lv_sipush (v := 10000) hx hb dL_isNode_125 (by decide) ?_
    refine lv_icmp_ne (tgt := 135) hx hb dL_isNode_128 (by decide) (fun c_128 => absurd rfl c_128) (fun c_128 => ?_)
    refine lv_iconst (v := 1) hx hb dL_isNode_131 (by decide) ?_
    refine lv_goto (tgt := 136) hx hb dL_isNode_132 (by decide) ?_
    refine lv_istore (lv' := [(8, .int 1), (7, .int (rm_tree σ (nI n))), (6, .int (-1)), (5, .int 10000), (0, .ref (a 0)), (1, .ref (q 0)), (2, .ref (q 1)), (3, .ref (q 2)), (4, .int (nI n))]) hx hb dL_isNode_136 hl (by decide) rfl (fun ls hl => ?_)
    refine lv_goto (tgt := 231) hx hb dL_isNode_138 (by decide) ?_
    refine lv_iconst (v := 0) hx hb dL_isNode_231 (by decide) ?_
    refine lv_istore (lv' := [(9, .int 0), (8, .int 1), (7, .int (rm_tree σ (nI n))), (6, .int (-1)), (5, .int 10000), (0, .ref (a 0)), (1, .ref (q 0)), (2, .ref (q 1)), (3, .ref (q 2)), (4, .int (nI n))]) hx hb dL_isNode_232 hl (by decide) rfl (fun ls hl => ?_)
    exact lp 10 0 rfl H _ _ _ _ hw (lv_sub hl [5, 6, 7, 8, 9, 1, 0] rfl) (Nat.le_of_ble_eq_true rfl) (Nat.le_of_ble_eq_true rfl)
  · obtain ⟨v, hv, ev⟩ := iv_nat (x := σ 8 n) (N := 100) (by omega) (by have := (hLt r0 hr0).2.2; omega) (by decide)
    rw [ev, nI_toInt (by omega)] at cv1 cv2
    have etree : rm_tree σ (nI n) = nI (10 * v + r0) := by
      unfold rm_tree
      rw [rm_cl hn, c7, if_neg (fun h => nI_pos (n := r0) (by omega) (by rw [h]; decide)), ev, show (10 : Int32) * nI v = nI (10 * v) from pk_mul 10 v, nI_add]
    have hv1 : 1 ≤ v := by omega
    have e6 : θ 1 (10 + r0) = σ 6 r0 := (hLt r0 hr0).2.1
    refine lv_aload_n hx hb dL_isNode_0 rfl (lv_at hl 0 rfl) ?_
    refine lv_iload hx hb dL_isNode_1 (lv_at hl 4 rfl) ?_
    refine lz_callI CF hTh hA hw (As := [.int (nI n)]) (rest := []) (lk_rank l k a σ hfl hsep.1 hn rfl) (cwV 1 hts gL_isNode_X0_rank rfl rfl rfl (by decide +kernel) ⟨Nat.le_of_ble_eq_true rfl, Nat.le_of_ble_eq_true rfl⟩) rfl hl.1 rfl (lv_room (Nat.le_of_ble_eq_true rfl)) dL_isNode_3 ⟨Nat.le_of_ble_eq_true rfl, Nat.le_of_ble_eq_true rfl⟩ (fun H locs hw => ?_)
    refine lv_istore (lv' := [(5, .int (σ 9 n)), (0, .ref (a 0)), (1, .ref (q 0)), (2, .ref (q 1)), (3, .ref (q 2)), (4, .int (nI n))]) hx hb dL_isNode_6 hl (by decide) rfl (fun ls hl => ?_)
    refine lv_aload_n hx hb dL_isNode_8 rfl (lv_at hl 1 rfl) ?_
    refine lv_iload hx hb dL_isNode_9 (lv_at hl 5 rfl) ?_
    refine lz_callI CF hTh hA hw (As := [.int (nI n)]) (rest := []) (lk_parent l k a σ hfl hsep.1 hn c11) (cwV 1 hts gL_isNode_X0_parent rfl rfl rfl (by decide +kernel) ⟨Nat.le_of_ble_eq_true rfl, Nat.le_of_ble_eq_true rfl⟩) rfl hl.1 rfl (lv_room (Nat.le_of_ble_eq_true rfl)) dL_isNode_11 ⟨Nat.le_of_ble_eq_true rfl, Nat.le_of_ble_eq_true rfl⟩ (fun H locs hw => ?_)
    refine lv_istore (lv' := [(6, .int (nI p0)), (5, .int (σ 9 n)), (0, .ref (a 0)), (1, .ref (q 0)), (2, .ref (q 1)), (3, .ref (q 2)), (4, .int (nI n))]) hx hb dL_isNode_14 hl (by decide) rfl (fun ls hl => ?_)
    refine lv_aload_n hx hb dL_isNode_16 rfl (lv_at hl 2 rfl) ?_
    refine lv_iload hx hb dL_isNode_17 (lv_at hl 6 rfl) ?_
    refine lz_callI CF hTh hA hw (As := [.int (nI n)]) (rest := []) (lk_tree l k a σ hfl hsep.1 hn etree) (cwV 1 hts gL_isNode_X0_tree rfl rfl rfl (by decide +kernel) ⟨Nat.le_of_ble_eq_true rfl, Nat.le_of_ble_eq_true rfl⟩) rfl hl.1 rfl (lv_room (Nat.le_of_ble_eq_true rfl)) dL_isNode_19 ⟨Nat.le_of_ble_eq_true rfl, Nat.le_of_ble_eq_true rfl⟩ (fun H locs hw => ?_)
    refine lv_istore (lv' := [(7, .int (nI (10 * v + r0))), (6, .int (nI p0)), (5, .int (σ 9 n)), (0, .ref (a 0)), (1, .ref (q 0)), (2, .ref (q 1)), (3, .ref (q 2)), (4, .int (nI n))]) hx hb dL_isNode_22 hl (by decide) rfl (fun ls hl => ?_)
    refine lv_aload_n hx hb dL_isNode_24 rfl (lv_at hl 3 rfl) ?_
    refine lv_iload hx hb dL_isNode_25 (lv_at hl 7 rfl) ?_
    refine lz_callI CF hTh hA hw (As := [.int (nI n)]) (rest := []) (lk_nextTelling l k a σ hfl hsep.1 hn rfl) (cwV 1 hts gL_isNode_X0_nextTelling rfl rfl rfl (by decide +kernel) ⟨Nat.le_of_ble_eq_true rfl, Nat.le_of_ble_eq_true rfl⟩) rfl hl.1 rfl (lv_room (Nat.le_of_ble_eq_true rfl)) dL_isNode_27 ⟨Nat.le_of_ble_eq_true rfl, Nat.le_of_ble_eq_true rfl⟩ (fun H locs hw => ?_)
    refine lv_aload_n hx hb dL_isNode_30 rfl (lv_at hl 6 rfl) ?_
    refine lv_iconst (v := 0) hx hb dL_isNode_31 (by decide) ?_
    refine lz_iald CF hw 2 (j := 0) (by decide) (by show _ < 3; omega) dL_isNode_32 ?_
    refine lv_icmp_le (tgt := 52) hx hb dL_isNode_33 (by decide) (fun c_33 => absurd c_33 hnext) (fun c_33 => ?_)
    refine lv_aload_n hx hb dL_isNode_36 rfl (lv_at hl 3 rfl) ?_
    refine lv_iload hx hb dL_isNode_37 (lv_at hl 7 rfl) ?_
    refine lv_iload hx hb dL_isNode_39 (lv_at hl 7 rfl) ?_
    refine lz_callI CF hTh hA hw (As := [.int (nI n), .int (nI n)]) (rest := []) (lk_heard l k a σ hfl hsep.1 hn hn hself) (cwV 2 hts gL_isNode_X0_heard rfl rfl rfl (by decide +kernel) ⟨Nat.le_of_ble_eq_true rfl, Nat.le_of_ble_eq_true rfl⟩) rfl hl.1 rfl (lv_room (Nat.le_of_ble_eq_true rfl)) dL_isNode_41 ⟨Nat.le_of_ble_eq_true rfl, Nat.le_of_ble_eq_true rfl⟩ (fun H locs hw => ?_)
    refine lv_iconst (v := (-1)) hx hb dL_isNode_44 (by decide) ?_
    refine lv_icmp_ne (tgt := 52) hx hb dL_isNode_45 (by decide) (fun c_45 => absurd rfl c_45) (fun c_45 => ?_)
    refine lv_iconst (v := 1) hx hb dL_isNode_48 (by decide) ?_
    refine lv_goto (tgt := 53) hx hb dL_isNode_49 (by decide) ?_
    refine lv_istore (lv' := [(8, .int 1), (7, .int (nI (10 * v + r0))), (6, .int (nI p0)), (5, .int (σ 9 n)), (0, .ref (a 0)), (1, .ref (q 0)), (2, .ref (q 1)), (3, .ref (q 2)), (4, .int (nI n))]) hx hb dL_isNode_53 hl (by decide) rfl (fun ls hl => ?_)
    refine lv_aload_n hx hb dL_isNode_55 rfl (lv_at hl 6 rfl) ?_
    refine lv_iload hx hb dL_isNode_56 (lv_at hl 8 rfl) ?_
    refine lz_iald CF hw 1 (j := n) (by decide) (by show _ < 20; omega) dL_isNode_58 ?_
    refine lv_iconst (v := 1) hx hb dL_isNode_59 (by decide) ?_
    refine lv_icmp_ne (tgt := 107) hx hb dL_isNode_60 (by decide) (fun c_60 => ?_) (fun c_60 => absurd c_60 (by rw [(hLt n hn).1, c5]; decide))
    refine lv_iload hx hb dL_isNode_107 (lv_at hl 2 rfl) ?_
    refine lv_if_ge (tgt := 141) hx hb dL_isNode_109 (by decide) (fun c_109 => ?_) (fun c_109 => absurd (nI_pos' (by omega)) c_109)
    refine lv_iload hx hb dL_isNode_141 (lv_at hl 0 rfl) ?_
    refine lv_if_eq (tgt := 228) hx hb dL_isNode_143 (by decide) (fun c_143 => absurd c_143 (by decide)) (fun c_143 => ?_)
    refine lv_iload hx hb dL_isNode_146 (lv_at hl 2 rfl) ?_
    refine lv_bipush (v := 10) hx hb dL_isNode_148 (by decide) ?_
    refine lv_icmp_ge (tgt := 228) hx hb dL_isNode_150 (by decide) (fun c_150 => absurd c_150 (nI_ge hp (by decide))) (fun c_150 => ?_)
    refine lv_iload hx hb dL_isNode_153 (lv_at hl 3 rfl) ?_
    refine lv_if_le (tgt := 228) hx hb dL_isNode_155 (by decide) (fun c_155 => absurd c_155 (by rw [Int32.le_iff_toInt_le, Int32.toInt_zero]; omega)) (fun c_155 => ?_)
    refine lv_iload hx hb dL_isNode_158 (lv_at hl 3 rfl) ?_
    refine lv_sipush (v := 10000) hx hb dL_isNode_160 (by decide) ?_
    refine lv_icmp_ge (tgt := 228) hx hb dL_isNode_163 (by decide) (fun c_163 => absurd c_163 (by rw [Int32.le_iff_toInt_le, iv_10000]; omega)) (fun c_163 => ?_)
    refine lv_aload_n hx hb dL_isNode_166 rfl (lv_at hl 5 rfl) ?_
    refine lv_iload hx hb dL_isNode_167 (lv_at hl 8 rfl) ?_
    refine lv_iload hx hb dL_isNode_169 (lv_at hl 2 rfl) ?_
    refine lz_callC CF hw (As := [.ref (q 0), .int (nI n), .int (nI p0)]) (rest := []) (jL_cost l k q θ n p0 (by omega) (by omega) _ (hLc n p0 hn hp)) (va_cwS 3 hts gL_isNode_L_cost rfl rfl rfl (by decide +kernel) ⟨Nat.le_of_ble_eq_true rfl, Nat.le_of_ble_eq_true rfl⟩) rfl hl.1 rfl (lv_room (Nat.le_of_ble_eq_true rfl)) dL_isNode_171 ⟨Nat.le_of_ble_eq_true rfl, Nat.le_of_ble_eq_true rfl⟩ (fun H locs hw => ?_)
    refine lv_if_le (tgt := 228) hx hb dL_isNode_174 (by decide) (fun c_174 => absurd c_174 (by rw [Int32.le_iff_toInt_le, Int32.toInt_zero]; omega)) (fun c_174 => ?_)
    refine lv_iload hx hb dL_isNode_177 (lv_at hl 3 rfl) ?_
    refine lv_aload_n hx hb dL_isNode_179 rfl (lv_at hl 4 rfl) ?_
    refine lv_iload hx hb dL_isNode_180 (lv_at hl 8 rfl) ?_
    refine lv_iload hx hb dL_isNode_182 (lv_at hl 2 rfl) ?_
    refine lz_callI CF hTh hA hw (As := [.int (nI n), .int (nI p0)]) (rest := [.int (σ 9 n)]) (lk_heard l k a σ hfl hsep.1 hn hp rfl) (cwV 2 hts gL_isNode_X0_heard rfl rfl rfl (by decide +kernel) ⟨Nat.le_of_ble_eq_true rfl, Nat.le_of_ble_eq_true rfl⟩) rfl hl.1 rfl (lv_room (Nat.le_of_ble_eq_true rfl)) dL_isNode_184 ⟨Nat.le_of_ble_eq_true rfl, Nat.le_of_ble_eq_true rfl⟩ (fun H locs hw => ?_)
    refine lv_aload_n hx hb dL_isNode_187 rfl (lv_at hl 5 rfl) ?_
    refine lv_iload hx hb dL_isNode_188 (lv_at hl 8 rfl) ?_
    refine lv_iload hx hb dL_isNode_190 (lv_at hl 2 rfl) ?_
    refine lz_callC CF hw (As := [.ref (q 0), .int (nI n), .int (nI p0)]) (rest := [.int (σ (45 + n) p0), .int (σ 9 n)]) (jL_cost l k q θ n p0 (by omega) (by omega) _ (hLc n p0 hn hp)) (va_cwS 3 hts gL_isNode_L_cost rfl rfl rfl (by decide +kernel) ⟨Nat.le_of_ble_eq_true rfl, Nat.le_of_ble_eq_true rfl⟩) rfl hl.1 rfl (lv_room (Nat.le_of_ble_eq_true rfl)) dL_isNode_192 ⟨Nat.le_of_ble_eq_true rfl, Nat.le_of_ble_eq_true rfl⟩ (fun H locs hw => ?_)
    refine lv_iadd hx hb dL_isNode_195 ?_
    refine lv_icmp_ne (tgt := 228) hx hb dL_isNode_196 (by decide) (fun c_196 => absurd c9 c_196) (fun c_196 => ?_)
    refine lv_iload hx hb dL_isNode_199 (lv_at hl 1 rfl) ?_
    refine lv_bipush (v := 10) hx hb dL_isNode_201 (by decide) ?_
    refine lv_icmp_lt (tgt := 228) hx hb dL_isNode_203 (by decide) (fun c_203 => absurd c_203 (nI_nlt (a := 10 * v + r0) (b := 10) (by omega) (by omega))) (fun c_203 => ?_)
    refine lv_aload_n hx hb dL_isNode_206 rfl (lv_at hl 6 rfl) ?_
    refine lv_bipush (v := 10) hx hb dL_isNode_207 (by decide) ?_
    refine lv_iload hx hb dL_isNode_209 (lv_at hl 1 rfl) ?_
    refine lv_bipush (v := 10) hx hb dL_isNode_211 (by decide) ?_
    refine lv_irem hx hb dL_isNode_213 (by decide) ?_
    rw [show (nI (10 * v + r0)) - (nI (10 * v + r0)) / 10 * 10 = nI ((10 * v + r0) % 10) from pk_rem (d := 10) (by omega) (by decide) (by decide)]
    rw [show (10 * v + r0) % 10 = r0 by omega]
    refine lv_iadd hx hb dL_isNode_214 ?_
    rw [show (10 : Int32) + (nI r0) = nI (10 + r0) from nI_add 10 r0]
    refine lz_iald CF hw 1 (j := (10 + r0)) (by decide) (by show _ < 20; omega) dL_isNode_215 ?_
    refine lv_iload hx hb dL_isNode_216 (lv_at hl 1 rfl) ?_
    refine lv_bipush (v := 10) hx hb dL_isNode_218 (by decide) ?_
    refine lv_idiv hx hb dL_isNode_220 (by decide) ?_
    rw [show (nI (10 * v + r0)) / 10 = nI ((10 * v + r0) / 10) from pk_div (d := 10) (by omega) (by decide) (by decide)]
    rw [show (10 * v + r0) / 10 = v by omega]
    refine lv_icmp_lt (tgt := 228) hx hb dL_isNode_221 (by decide) (fun c_221 => absurd c_221 (by rw [e6, Int32.lt_iff_toInt_lt, nI_toInt (by omega)]; omega)) (fun c_221 => ?_)
    refine lv_iconst (v := 1) hx hb dL_isNode_224 (by decide) ?_
    refine lv_goto (tgt := 229) hx hb dL_isNode_225 (by decide) ?_
    refine lv_istore (lv' := [(8, .int 1), (7, .int (nI (10 * v + r0))), (6, .int (nI p0)), (5, .int (σ 9 n)), (0, .ref (a 0)), (1, .ref (q 0)), (2, .ref (q 1)), (3, .ref (q 2)), (4, .int (nI n))]) hx hb dL_isNode_229 hl (by decide) rfl (fun ls hl => ?_)
    refine lv_iconst (v := 0) hx hb dL_isNode_231 (by decide) ?_
    refine lv_istore (lv' := [(9, .int 0), (8, .int 1), (7, .int (nI (10 * v + r0))), (6, .int (nI p0)), (5, .int (σ 9 n)), (0, .ref (a 0)), (1, .ref (q 0)), (2, .ref (q 1)), (3, .ref (q 2)), (4, .int (nI n))]) hx hb dL_isNode_232 hl (by decide) rfl (fun ls hl => ?_)
    exact lp 10 0 rfl H _ _ _ _ hw (lv_sub hl [5, 6, 7, 8, 9, 1, 0] rfl) (Nat.le_of_ble_eq_true rfl) (Nat.le_of_ble_eq_true rfl)

theorem rm_up_same {θ : rm_St} {z j : Nat} : rm_up θ z j (θ z j) = θ := by
  funext y m
  unfold rm_up
  by_cases h : y = z ∧ m = j
  · rw [if_pos h, h.1, h.2]
  · rw [if_neg h]
theorem lz_I_14 {K B : Nat} {σ σ1 θ : rm_St} (a0 : ∀ z j, z ≠ 14 → σ1 z j = σ z j) (h : lz_I K B σ θ) : lz_I K B σ1 θ := by
  obtain ⟨h1, h2, h3, ⟨h4, h5, h6, h7, h8⟩, h9⟩ := h
  refine ⟨⟨iv_cg_f (fun j => a0 0 j (by omega)) h1.1, fun a b ha hb => iv_cg_c (a0 _ _ (by omega)) (a0 _ _ (by omega)) (h1.2.1 a b ha hb), fun a b ha hb => iv_cg_h (a0 _ _ (by omega)) (a0 _ _ (by omega)) (a0 _ _ (by omega)) (a0 _ _ (by omega)) (fun r _ => by rw [a0 6 r (by omega)]; exact Int.le_refl _) (h1.2.2 a b ha hb)⟩,
    fun m hm => iv_cg_p (fun z hz => a0 _ _ (by omega)) (fun p _ => a0 _ _ (by omega)) (fun p _ => a0 _ _ (by omega)) (fun r _ => by rw [a0 6 r (by omega)]; exact Int.le_refl _) (a0 _ _ (by omega)) (h2 m hm), fun j hj => ?_, ⟨fun i j hi hj => ?_, fun n hn => ?_, ?_, ?_, ?_⟩, ?_⟩
  · have := h3 j hj
    unfold iv_I at this ⊢
    rw [a0 12 j (by omega), a0 13 j (by omega), a0 0 4 (by omega)]
    exact this
  · rw [a0 _ _ (by omega)]; exact h4 i j hi hj
  · rw [a0 5 n (by omega), a0 6 n (by omega)]; exact h5 n hn
  · rw [a0 0 4 (by omega)]; exact h6
  · rw [a0 0 2 (by omega)]; exact h7
  · rw [a0 0 5 (by omega)]; exact h8
  · rw [a0 0 4 (by omega)]; exact h9
theorem rm_tR_nI {v f t : Nat} (hv : v < 2 ^ 31) (hf : f < 2 ^ 31) (ht : t < 2 ^ 31) : rm_tR (nI v) (nI f) (nI t) = if f ≤ v ∧ v ≤ t then none else some rm_IA := by
  unfold rm_tR
  by_cases h1 : f ≤ v
  · rw [if_neg (nI_nlt h1 hv)]
    by_cases h2 : v ≤ t
    · rw [if_pos (nI_le h2 ht), if_pos ⟨h1, h2⟩]
    · rw [if_neg (nI_ge (by omega) hv), if_neg (fun h => h2 h.2)]
  · rw [if_pos (nI_lt (by omega) hf), if_neg (fun h => h1 h.1)]
theorem lz_tset {p y z w : Nat} (hp : p < 2 ^ 31) (hy : y < 2 ^ 31) (hz : z < 2 ^ 31) (hw : w < 2 ^ 31) : rm_tSet (nI p) (nI y) (nI z) (nI w) = if p ≤ 100 ∧ y ≤ 10000 ∧ (1 ≤ z ∧ z ≤ 8) ∧ w ≤ 6 then none else some rm_IA := by
  unfold rm_tSet
  rw [show rm_tR (nI p) 0 100 = _ from rm_tR_nI (f := 0) (t := 100) hp (by decide) (by decide), show rm_tR (nI y) 0 10000 = _ from rm_tR_nI (f := 0) (t := 10000) hy (by decide) (by decide), show rm_tR (nI z) 1 8 = _ from rm_tR_nI (f := 1) (t := 8) hz (by decide) (by decide), show rm_tR (nI w) 0 6 = _ from rm_tR_nI (f := 0) (t := 6) hw (by decide) (by decide)]
  by_cases h1 : p ≤ 100
  · rw [if_pos ⟨Nat.zero_le _, h1⟩, rm_or_n]
    by_cases h2 : y ≤ 10000
    · rw [if_pos ⟨Nat.zero_le _, h2⟩, rm_or_n]
      by_cases h3 : 1 ≤ z ∧ z ≤ 8
      · rw [if_pos h3, rm_or_n]
        by_cases h4 : w ≤ 6
        · rw [if_pos ⟨Nat.zero_le _, h4⟩, if_pos ⟨h1, h2, h3, h4⟩]
        · rw [if_neg (fun h => h4 h.2), if_neg (fun h => h4 h.2.2.2)]
      · rw [if_neg h3, rm_or_s, if_neg (fun h => h3 h.2.2.1)]
    · rw [if_neg (fun h => h2 h.2), rm_or_s, if_neg (fun h => h2 h.2.1)]
  · rw [if_neg (fun h => h1 h.2), rm_or_s, if_neg (fun h => h1 h.1)]
set_option maxHeartbeats 4000000 in
set_option maxRecDepth 100000 in
theorem jL_isDone (l : Launch) (hfl : l.stackTraces = false) (k : rm_K) (a q : Nat → Nat) (hsep : lz_sep a q) (σ θ : rm_St) {K B bq L ix : Nat} {xs : Nat → Int32} (hL : L ≤ 260) (hix : ix ≤ 300) (hbq : (∀ j, j < 55 → a j ≠ bq) ∧ ∀ i, i < 3 → q i ≠ bq) (hI : lz_I K B σ θ) (hK : K ≤ 100) (hB : B ≤ 2000) : lz_M l k a q (fun U => va_X bq L xs U U.heap ∧ bq < U.heap.size) yL_isDone wsL_isDone ({ frames := 13, cells := 130, slots := 780, locals := 280 }) [.ref (a 0), .ref bq, .int (nI ix), .ref (q 0), .ref (q 1), .ref (q 2)] σ θ (fun r σ1 θ1 => r = 1 ∧ lz_I (K + 1) (B + 20) σ1 θ1) := by
  refine lz_enter (cc := cL_isDone) (nL := 13) (ret := some .boolean) hsep (by decide) rfl rfl (Nat.le_of_ble_eq_true rfl) ?_
  intro p e s m args below meth c ls CF hr hlocks hTh hN hX hw hl
  have hx := CF.1
  have hb := CF.2.1
  have hts := CF.2.2.2.2
  have hA : ∀ x, s.heap.size ≤ x → lz_A a q s.heap.size x := fun x h => Or.inl (Or.inr h)
  replace hl : lv_has ls 13 [(0, .ref (a 0)), (1, .ref bq), (2, .int (nI ix)), (3, .ref (q 0)), (4, .ref (q 1)), (5, .ref (q 2))] := hl
  have hI0 := hI
  have hX : va_X bq L xs s s.heap ∧ bq < s.heap.size := hX
  have hbA : ¬ lz_A a q s.heap.size bq := fun h => by
    rcases h with (⟨j, hj, h⟩ | h) | ⟨i, hi, h⟩
    · exact hbq.1 j hj h.symm
    · exact absurd hX.2 (Nat.not_lt.mpr h)
    · exact hbq.2 i hi h.symm
  refine lv_aload_n hx hb dL_isDone_0 rfl (lv_at hl 1 rfl) ?_
  refine lv_iload_n hx hb dL_isDone_1 rfl (lv_at hl 2 rfl) ?_
  refine lv_bipush (v := 40) hx hb dL_isDone_2 (by decide) ?_
  refine lz_callP CF hX.1 hX.2 hbA hw (As := [.ref bq, .int (nI ix), .int 40]) (rest := []) (jL_part l bq L xs hL ix 40 (by omega) (by decide) (by decide)) (va_cwS 3 hts gL_isDone_L_part rfl rfl rfl (by decide +kernel) ⟨Nat.le_of_ble_eq_true rfl, Nat.le_of_ble_eq_true rfl⟩) rfl hl.1 rfl (lv_room (Nat.le_of_ble_eq_true rfl)) dL_isDone_4 ⟨Nat.le_of_ble_eq_true rfl, Nat.le_of_ble_eq_true rfl⟩ (fun H locs x1 hx1 hw => ?_)
  refine lv_istore (lv' := [(6, .int (nI x1)), (0, .ref (a 0)), (1, .ref bq), (2, .int (nI ix)), (3, .ref (q 0)), (4, .ref (q 1)), (5, .ref (q 2))]) hx hb dL_isDone_7 hl (by decide) rfl (fun ls hl => ?_)
  refine lv_aload_n hx hb dL_isDone_9 rfl (lv_at hl 2 rfl) ?_
  refine lv_iload_n hx hb dL_isDone_10 rfl (lv_at hl 3 rfl) ?_
  refine lv_iconst (v := 1) hx hb dL_isDone_11 (by decide) ?_
  refine lv_iadd hx hb dL_isDone_12 ?_
  rw [show (nI ix) + 1 = nI (ix + 1) from nI_add ix 1]
  refine lv_sipush (v := 6000) hx hb dL_isDone_13 (by decide) ?_
  refine lz_callP CF hX.1 hX.2 hbA hw (As := [.ref bq, .int (nI (ix + 1)), .int 6000]) (rest := []) (jL_part l bq L xs hL (ix + 1) 6000 (by omega) (by decide) (by decide)) (va_cwS 3 hts gL_isDone_L_part rfl rfl rfl (by decide +kernel) ⟨Nat.le_of_ble_eq_true rfl, Nat.le_of_ble_eq_true rfl⟩) rfl hl.1 rfl (lv_room (Nat.le_of_ble_eq_true rfl)) dL_isDone_16 ⟨Nat.le_of_ble_eq_true rfl, Nat.le_of_ble_eq_true rfl⟩ (fun H locs x2 hx2 hw => ?_)
  refine lv_istore (lv' := [(7, .int (nI x2)), (6, .int (nI x1)), (0, .ref (a 0)), (1, .ref bq), (2, .int (nI ix)), (3, .ref (q 0)), (4, .ref (q 1)), (5, .ref (q 2))]) hx hb dL_isDone_19 hl (by decide) rfl (fun ls hl => ?_)
  refine lv_aload_n hx hb dL_isDone_21 rfl (lv_at hl 3 rfl) ?_
  refine lv_iload_n hx hb dL_isDone_22 rfl (lv_at hl 4 rfl) ?_
  refine lv_iconst (v := 2) hx hb dL_isDone_23 (by decide) ?_
  refine lv_iadd hx hb dL_isDone_24 ?_
  rw [show (nI ix) + 2 = nI (ix + 2) from nI_add ix 2]
  refine lv_sipush (v := 7000) hx hb dL_isDone_25 (by decide) ?_
  refine lz_callP CF hX.1 hX.2 hbA hw (As := [.ref bq, .int (nI (ix + 2)), .int 7000]) (rest := []) (jL_part l bq L xs hL (ix + 2) 7000 (by omega) (by decide) (by decide)) (va_cwS 3 hts gL_isDone_L_part rfl rfl rfl (by decide +kernel) ⟨Nat.le_of_ble_eq_true rfl, Nat.le_of_ble_eq_true rfl⟩) rfl hl.1 rfl (lv_room (Nat.le_of_ble_eq_true rfl)) dL_isDone_28 ⟨Nat.le_of_ble_eq_true rfl, Nat.le_of_ble_eq_true rfl⟩ (fun H locs x3 hx3 hw => ?_)
  refine lv_istore (lv' := [(8, .int (nI x3)), (7, .int (nI x2)), (6, .int (nI x1)), (0, .ref (a 0)), (1, .ref bq), (2, .int (nI ix)), (3, .ref (q 0)), (4, .ref (q 1)), (5, .ref (q 2))]) hx hb dL_isDone_31 hl (by decide) rfl (fun ls hl => ?_)
  refine lv_aload_n hx hb dL_isDone_33 rfl (lv_at hl 4 rfl) ?_
  refine lv_iload_n hx hb dL_isDone_34 rfl (lv_at hl 5 rfl) ?_
  refine lv_iconst (v := 3) hx hb dL_isDone_35 (by decide) ?_
  refine lv_iadd hx hb dL_isDone_36 ?_
  rw [show (nI ix) + 3 = nI (ix + 3) from nI_add ix 3]
  refine lv_sipush (v := 8000) hx hb dL_isDone_37 (by decide) ?_
  refine lz_callP CF hX.1 hX.2 hbA hw (As := [.ref bq, .int (nI (ix + 3)), .int 8000]) (rest := []) (jL_part l bq L xs hL (ix + 3) 8000 (by omega) (by decide) (by decide)) (va_cwS 3 hts gL_isDone_L_part rfl rfl rfl (by decide +kernel) ⟨Nat.le_of_ble_eq_true rfl, Nat.le_of_ble_eq_true rfl⟩) rfl hl.1 rfl (lv_room (Nat.le_of_ble_eq_true rfl)) dL_isDone_40 ⟨Nat.le_of_ble_eq_true rfl, Nat.le_of_ble_eq_true rfl⟩ (fun H locs x4 hx4 hw => ?_)
  refine lv_istore (lv' := [(9, .int (nI x4)), (8, .int (nI x3)), (7, .int (nI x2)), (6, .int (nI x1)), (0, .ref (a 0)), (1, .ref bq), (2, .int (nI ix)), (3, .ref (q 0)), (4, .ref (q 1)), (5, .ref (q 2))]) hx hb dL_isDone_43 hl (by decide) rfl (fun ls hl => ?_)
  refine lv_iload hx hb dL_isDone_45 (lv_at hl 3 rfl) ?_
  refine lv_bipush (v := 14) hx hb dL_isDone_47 (by decide) ?_
  refine lv_icmp_ge (tgt := 124) hx hb dL_isDone_49 (by decide) (fun c_49 => ?_) (fun c_49 => ?_)
  · skip
    refine lv_iload hx hb dL_isDone_124 (lv_at hl 3 rfl) ?_
    refine lv_bipush (v := 17) hx hb dL_isDone_126 (by decide) ?_
    refine lv_icmp_ge (tgt := 159) hx hb dL_isDone_128 (by decide) (fun c_128 => ?_) (fun c_128 => ?_)
    · skip
      refine lv_iload hx hb dL_isDone_159 (lv_at hl 3 rfl) ?_
      refine lv_bipush (v := 19) hx hb dL_isDone_161 (by decide) ?_
      refine lv_icmp_ge (tgt := 205) hx hb dL_isDone_163 (by decide) (fun c_163 => ?_) (fun c_163 => ?_)
      · skip
        refine lv_iload hx hb dL_isDone_205 (lv_at hl 3 rfl) ?_
        refine lv_bipush (v := 19) hx hb dL_isDone_207 (by decide) ?_
        refine lv_icmp_ne (tgt := 329) hx hb dL_isDone_209 (by decide) (fun c_209 => ?_) (fun c_209 => ?_)
        · skip
          refine lv_iload hx hb dL_isDone_329 (lv_at hl 3 rfl) ?_
          refine lv_bipush (v := 34) hx hb dL_isDone_331 (by decide) ?_
          refine lv_icmp_ge (tgt := 376) hx hb dL_isDone_333 (by decide) (fun c_333 => ?_) (fun c_333 => ?_)
          · skip
            refine lv_iload hx hb dL_isDone_376 (lv_at hl 3 rfl) ?_
            refine lv_bipush (v := 37) hx hb dL_isDone_378 (by decide) ?_
            refine lv_icmp_ge (tgt := 480) hx hb dL_isDone_380 (by decide) (fun c_380 => ?_) (fun c_380 => ?_)
            · skip
              refine lv_aload_n hx hb dL_isDone_480 rfl (lv_at hl 4 rfl) ?_
              refine lv_aload_n hx hb dL_isDone_481 rfl (lv_at hl 7 rfl) ?_
              refine lv_aload hx hb dL_isDone_482 (lv_at hl 8 rfl) ?_
              refine lz_callL CF hTh hN hA hw (As := [.ref (a 0), .ref (q 0), .ref (q 1)]) (rest := []) (jL_isLeast l hfl k a q hsep σ θ hI0) (fun _ _ _ _ _ => trivial) (fun _ _ _ => trivial) (va_cwS 3 hts gL_isDone_L_isLeast rfl rfl rfl (by decide +kernel) ⟨Nat.le_of_ble_eq_true rfl, Nat.le_of_ble_eq_true rfl⟩) rfl hl.1 rfl (lv_room (Nat.le_of_ble_eq_true rfl)) dL_isDone_484 ⟨Nat.le_of_ble_eq_true rfl, Nat.le_of_ble_eq_true rfl⟩ (fun H locs r_484 σ_484 θ_484 hp_484 hw => ?_)
              obtain ⟨h1, h2, h3⟩ := hp_484
              rw [h3] at hw
              rw [h1]
              exact lz_zret (post := (fun r σ1 θ1 => r = 1 ∧ lz_I (K + 1) (B + 20) σ1 θ1)) CF hr hlocks hw (by show 0 + 90 ≤ 130; omega) (by show 0 + 540 ≤ 780; omega) dL_isDone_487 ⟨rfl, lz_I_up (lz_I_14 h2 hI0) (by omega) (by omega)⟩
            · skip
              refine lv_iload hx hb dL_isDone_383 (lv_at hl 1 rfl) ?_
              refine lv_bipush (v := 30) hx hb dL_isDone_385 (by decide) ?_
              refine lv_irem hx hb dL_isDone_387 (by decide) ?_
              rw [show (nI x3) - (nI x3) / 30 * 30 = nI (x3 % 30) from pk_rem (d := 30) (by omega) (by decide) (by decide)]
              refine lv_if_ne (tgt := 396) hx hb dL_isDone_388 (by decide) (fun c_388 => ?_) (fun c_388 => ?_)
              · skip
                refine lv_iconst (v := 1) hx hb dL_isDone_396 (by decide) ?_
                refine lv_iload hx hb dL_isDone_397 (lv_at hl 1 rfl) ?_
                refine lv_bipush (v := 20) hx hb dL_isDone_399 (by decide) ?_
                refine lv_irem hx hb dL_isDone_401 (by decide) ?_
                rw [show (nI x3) - (nI x3) / 20 * 20 = nI (x3 % 20) from pk_rem (d := 20) (by omega) (by decide) (by decide)]
                refine lv_iadd hx hb dL_isDone_402 ?_
                rw [show (1 : Int32) + (nI (x3 % 20)) = nI (1 + (x3 % 20)) from nI_add 1 (x3 % 20)]
                refine lv_istore (lv' := [(10, .int (nI (1 + (x3 % 20)))), (9, .int (nI x4)), (8, .int (nI x3)), (7, .int (nI x2)), (6, .int (nI x1)), (0, .ref (a 0)), (1, .ref bq), (2, .int (nI ix)), (3, .ref (q 0)), (4, .ref (q 1)), (5, .ref (q 2))]) hx hb dL_isDone_403 hl (by decide) rfl (fun ls hl => ?_)
                refine lv_aload_n hx hb dL_isDone_405 rfl (lv_at hl 5 rfl) ?_
                refine lv_iconst (v := 5) hx hb dL_isDone_406 (by decide) ?_
                refine lv_iload hx hb dL_isDone_407 (lv_at hl 0 rfl) ?_
                refine lv_iconst (v := 0) hx hb dL_isDone_409 (by decide) ?_
                refine lv_iconst (v := 0) hx hb dL_isDone_410 (by decide) ?_
                refine lv_iconst (v := 0) hx hb dL_isDone_411 (by decide) ?_
                have htl : rm_tR (nI (1 + (x3 % 20))) 1 100 = none := (rm_tR_nI (v := (1 + (x3 % 20))) (f := 1) (t := 100) (by omega) (by decide) (by decide)).trans (if_pos (by omega))
                obtain ⟨c1, e1, e2, hI2⟩ := lz_pass (T := (1 + (x3 % 20))) hI0 (by omega) (by omega)
                refine lz_callH CF hTh hN hA hw (As := [.ref (a 0), .int 5, .int (nI (1 + (x3 % 20))), .int 0, .int 0, .int 0]) (rest := []) (jL_does_5 l hfl k a q hsep σ θ (nI (1 + (x3 % 20))) 0 0 0) (fun _ _ _ _ _ => trivial) (fun _ _ _ => trivial) (vx_cwSW 6 hts gL_isDone_L_does rfl rfl rfl (by decide +kernel) ⟨Nat.le_of_ble_eq_true rfl, Nat.le_of_ble_eq_true rfl⟩) rfl hl.1 rfl (lv_room (Nat.le_of_ble_eq_true rfl)) dL_isDone_412 ⟨Nat.le_of_ble_eq_true rfl, Nat.le_of_ble_eq_true rfl⟩ (fun H locs r_412 σ_412 θ_412 hp_412 hw => ?_)
                obtain ⟨h1, h2, h3⟩ := hp_412
                rw [htl] at h1 h2
                have h1 : r_412 = nI c1 := h1.trans e1
                have h2 : σ_412 = (rm_pass σ (nI (1 + (x3 % 20)))).1 := h2
                rw [h2, h3] at hw
                rw [h1]
                refine lv_istore (lv' := [(11, .int (nI c1)), (10, .int (nI (1 + (x3 % 20)))), (9, .int (nI x4)), (8, .int (nI x3)), (7, .int (nI x2)), (6, .int (nI x1)), (0, .ref (a 0)), (1, .ref bq), (2, .int (nI ix)), (3, .ref (q 0)), (4, .ref (q 1)), (5, .ref (q 2))]) hx hb dL_isDone_415 hl (by decide) rfl (fun ls hl => ?_)
                refine lv_aload hx hb dL_isDone_417 (lv_at hl 11 rfl) ?_
                refine lv_iconst (v := 0) hx hb dL_isDone_419 (by decide) ?_
                refine lv_dup2_11 hx hb dL_isDone_420 rfl rfl ?_
                refine lz_iald CF hw 2 (j := 0) (by decide) (by show _ < 3; omega) dL_isDone_421 ?_
                refine lv_iload hx hb dL_isDone_422 (lv_at hl 1 rfl) ?_
                refine lv_bipush (v := 101) hx hb dL_isDone_424 (by decide) ?_
                refine lv_icmp_ge (tgt := 434) hx hb dL_isDone_426 (by decide) (fun c_426 => absurd c_426 (nI_ge (a := (1 + (x3 % 20))) (b := 101) (by omega) (by decide))) (fun c_426 => ?_)
                refine lv_iload hx hb dL_isDone_429 (lv_at hl 1 rfl) ?_
                refine lv_goto (tgt := 435) hx hb dL_isDone_431 (by decide) ?_
                refine lv_iadd hx hb dL_isDone_435 ?_
                refine lz_iast CF hw 2 (j := 0) (by decide) (by show _ < 3; omega) dL_isDone_436 (fun H locs hw => ?_)
                refine lv_iload hx hb dL_isDone_437 (lv_at hl 1 rfl) ?_
                refine lv_bipush (v := 101) hx hb dL_isDone_439 (by decide) ?_
                refine lv_icmp_ge (tgt := 467) hx hb dL_isDone_441 (by decide) (fun c_441 => absurd c_441 (nI_ge (a := (1 + (x3 % 20))) (b := 101) (by omega) (by decide))) (fun c_441 => ?_)
                refine lv_iload hx hb dL_isDone_444 (lv_at hl 0 rfl) ?_
                refine lv_if_lt (tgt := 463) hx hb dL_isDone_446 (by decide) (fun c_446 => absurd c_446 (nI_pos (by omega))) (fun c_446 => ?_)
                refine lv_iload hx hb dL_isDone_449 (lv_at hl 0 rfl) ?_
                refine lv_bipush (v := 10) hx hb dL_isDone_451 (by decide) ?_
                refine lv_iload hx hb dL_isDone_453 (lv_at hl 1 rfl) ?_
                refine lv_imul hx hb dL_isDone_455 ?_
                rw [show (10 : Int32) * (nI (1 + (x3 % 20))) = nI (10 * (1 + (x3 % 20))) from pk_mul 10 (1 + (x3 % 20))]
                refine lv_icmp_gt (tgt := 463) hx hb dL_isDone_456 (by decide) (fun c_456 => absurd c_456 (nI_nlt e2 (by omega))) (fun c_456 => ?_)
                refine lv_iconst (v := 1) hx hb dL_isDone_459 (by decide) ?_
                refine lv_goto (tgt := 479) hx hb dL_isDone_460 (by decide) ?_
                exact lz_zret (post := (fun r σ1 θ1 => r = 1 ∧ lz_I (K + 1) (B + 20) σ1 θ1)) CF hr hlocks hw (by show 0 + 4 ≤ 130; omega) (by show 0 + 24 ≤ 780; omega) dL_isDone_479 ⟨rfl, lz_I_up hI2 (by omega) (by omega)⟩
              · skip
                refine lv_bipush (v := 101) hx hb dL_isDone_391 (by decide) ?_
                refine lv_goto (tgt := 403) hx hb dL_isDone_393 (by decide) ?_
                refine lv_istore (lv' := [(10, .int 101), (9, .int (nI x4)), (8, .int (nI x3)), (7, .int (nI x2)), (6, .int (nI x1)), (0, .ref (a 0)), (1, .ref bq), (2, .int (nI ix)), (3, .ref (q 0)), (4, .ref (q 1)), (5, .ref (q 2))]) hx hb dL_isDone_403 hl (by decide) rfl (fun ls hl => ?_)
                refine lv_aload_n hx hb dL_isDone_405 rfl (lv_at hl 5 rfl) ?_
                refine lv_iconst (v := 5) hx hb dL_isDone_406 (by decide) ?_
                refine lv_iload hx hb dL_isDone_407 (lv_at hl 0 rfl) ?_
                refine lv_iconst (v := 0) hx hb dL_isDone_409 (by decide) ?_
                refine lv_iconst (v := 0) hx hb dL_isDone_410 (by decide) ?_
                refine lv_iconst (v := 0) hx hb dL_isDone_411 (by decide) ?_
                have htl : rm_tR 101 1 100 = some rm_IA := by decide +kernel
                refine lz_callH CF hTh hN hA hw (As := [.ref (a 0), .int 5, .int 101, .int 0, .int 0, .int 0]) (rest := []) (jL_does_5 l hfl k a q hsep σ θ 101 0 0 0) (fun _ _ _ _ _ => trivial) (fun _ _ _ => trivial) (vx_cwSW 6 hts gL_isDone_L_does rfl rfl rfl (by decide +kernel) ⟨Nat.le_of_ble_eq_true rfl, Nat.le_of_ble_eq_true rfl⟩) rfl hl.1 rfl (lv_room (Nat.le_of_ble_eq_true rfl)) dL_isDone_412 ⟨Nat.le_of_ble_eq_true rfl, Nat.le_of_ble_eq_true rfl⟩ (fun H locs r_412 σ_412 θ_412 hp_412 hw => ?_)
                obtain ⟨h1, h2, h3⟩ := hp_412
                rw [htl] at h1 h2
                have h1 : r_412 = (-20) := h1.trans lz_code_IA
                have h2 : σ_412 = σ := h2
                rw [h2, h3] at hw
                rw [h1]
                refine lv_istore (lv' := [(11, .int (-20)), (10, .int 101), (9, .int (nI x4)), (8, .int (nI x3)), (7, .int (nI x2)), (6, .int (nI x1)), (0, .ref (a 0)), (1, .ref bq), (2, .int (nI ix)), (3, .ref (q 0)), (4, .ref (q 1)), (5, .ref (q 2))]) hx hb dL_isDone_415 hl (by decide) rfl (fun ls hl => ?_)
                refine lv_aload hx hb dL_isDone_417 (lv_at hl 11 rfl) ?_
                refine lv_iconst (v := 0) hx hb dL_isDone_419 (by decide) ?_
                refine lv_dup2_11 hx hb dL_isDone_420 rfl rfl ?_
                refine lz_iald CF hw 2 (j := 0) (by decide) (by show _ < 3; omega) dL_isDone_421 ?_
                refine lv_iload hx hb dL_isDone_422 (lv_at hl 1 rfl) ?_
                refine lv_bipush (v := 101) hx hb dL_isDone_424 (by decide) ?_
                refine lv_icmp_ge (tgt := 434) hx hb dL_isDone_426 (by decide) (fun c_426 => ?_) (fun c_426 => absurd (by decide) c_426)
                refine lv_iconst (v := 0) hx hb dL_isDone_434 (by decide) ?_
                refine lv_iadd hx hb dL_isDone_435 ?_
                refine lz_iast CF hw 2 (j := 0) (by decide) (by show _ < 3; omega) dL_isDone_436 (fun H locs hw => ?_)
                rw [Int32.add_zero, rm_up_same] at hw
                refine lv_iload hx hb dL_isDone_437 (lv_at hl 1 rfl) ?_
                refine lv_bipush (v := 101) hx hb dL_isDone_439 (by decide) ?_
                refine lv_icmp_ge (tgt := 467) hx hb dL_isDone_441 (by decide) (fun c_441 => ?_) (fun c_441 => absurd (by decide) c_441)
                refine lv_iload hx hb dL_isDone_467 (lv_at hl 0 rfl) ?_
                refine lv_bipush (v := (-20)) hx hb dL_isDone_469 (by decide) ?_
                refine lv_icmp_ne (tgt := 478) hx hb dL_isDone_471 (by decide) (fun c_471 => absurd (by decide) c_471) (fun c_471 => ?_)
                refine lv_iconst (v := 1) hx hb dL_isDone_474 (by decide) ?_
                refine lv_goto (tgt := 479) hx hb dL_isDone_475 (by decide) ?_
                exact lz_zret (post := (fun r σ1 θ1 => r = 1 ∧ lz_I (K + 1) (B + 20) σ1 θ1)) CF hr hlocks hw (by show 0 + 4 ≤ 130; omega) (by show 0 + 24 ≤ 780; omega) dL_isDone_479 ⟨rfl, lz_I_up hI0 (by omega) (by omega)⟩
          · skip
            refine lv_iconst (v := 1) hx hb dL_isDone_336 (by decide) ?_
            refine lv_istore (lv' := [(10, .int 1), (9, .int (nI x4)), (8, .int (nI x3)), (7, .int (nI x2)), (6, .int (nI x1)), (0, .ref (a 0)), (1, .ref bq), (2, .int (nI ix)), (3, .ref (q 0)), (4, .ref (q 1)), (5, .ref (q 2))]) hx hb dL_isDone_337 hl (by decide) rfl (fun ls hl => ?_)
            refine lv_iconst (v := 0) hx hb dL_isDone_339 (by decide) ?_
            refine lv_istore (lv' := [(11, .int (nI 0)), (10, .int 1), (9, .int (nI x4)), (8, .int (nI x3)), (7, .int (nI x2)), (6, .int (nI x1)), (0, .ref (a 0)), (1, .ref bq), (2, .int (nI ix)), (3, .ref (q 0)), (4, .ref (q 1)), (5, .ref (q 2))]) hx hb dL_isDone_340 hl (by decide) rfl (fun ls hl => ?_)
            have lp : ∀ (r i : Nat), i + r = 1 + x2 % 4 → ∀ (σ1 θ1 : rm_St) (_ : lz_I K (B + i) σ1 θ1) (H : Heap) (locs : List Loc) (ls : Array Slot) (cells slots : Nat), lz_Wd k a q (lz_A a q s.heap.size) s.heap s σ1 θ1 H locs → lv_has ls 13 [(0, .ref (a 0)), (1, .ref bq), (2, .int (nI ix)), (3, .ref (q 0)), (4, .ref (q 1)), (5, .ref (q 2)), (7, .int (nI x2)), (10, .int 1), (11, .int (nI i))] → cells ≤ 30 * i → slots ≤ 180 * i → W p l e (headSpec wsL_isDone ({ frames := 13, cells := 130, slots := 780, locals := 280 })).room s m args below meth c H locs cells slots (MQ below (va_Qi (fun (r : Int32) (u : rm_St × rm_St) => (fun r σ1 θ1 => r = 1 ∧ lz_I (K + 1) (B + 20) σ1 θ1) r u.1 u.2) (fun u t => lz_P k a q u.1 u.2 t) (lz_A a q s.heap.size)) args s 130 780 (lz_A a q s.heap.size)) (F0 m 342 ls []) := by
              intro r
              induction r with
              | zero =>
                intro i hi σ1 θ1 hI1 H locs ls cells slots hw hl hc hs
                refine lv_iload hx hb dL_isDone_342 (lv_at hl 8 rfl) ?_
                refine lv_iconst (v := 1) hx hb dL_isDone_344 (by decide) ?_
                refine lv_iload hx hb dL_isDone_345 (lv_at hl 6 rfl) ?_
                refine lv_iconst (v := 4) hx hb dL_isDone_347 (by decide) ?_
                refine lv_irem hx hb dL_isDone_348 (by decide) ?_
                rw [show (nI x2) - (nI x2) / 4 * 4 = nI (x2 % 4) from pk_rem (d := 4) (by omega) (by decide) (by decide)]
                refine lv_iadd hx hb dL_isDone_349 ?_
                rw [show (1 : Int32) + (nI (x2 % 4)) = nI (1 + (x2 % 4)) from nI_add 1 (x2 % 4)]
                refine lv_icmp_ge (tgt := 373) hx hb dL_isDone_350 (by decide) (fun c_350 => ?_) (fun c_350 => absurd (nI_le (a := 1 + x2 % 4) (b := i) (by omega) (by omega)) c_350)
                refine lv_iload hx hb dL_isDone_373 (lv_at hl 7 rfl) ?_
                exact lz_zret (post := (fun r σ1 θ1 => r = 1 ∧ lz_I (K + 1) (B + 20) σ1 θ1)) CF hr hlocks hw (by show cells ≤ 130; omega) (by show slots ≤ 780; omega) dL_isDone_375 ⟨rfl, lz_I_up hI1 (by omega) (by omega)⟩
              | succ r ih =>
                intro i hi σ1 θ1 hI1 H locs ls cells slots hw hl hc hs
                refine lv_iload hx hb dL_isDone_342 (lv_at hl 8 rfl) ?_
                refine lv_iconst (v := 1) hx hb dL_isDone_344 (by decide) ?_
                refine lv_iload hx hb dL_isDone_345 (lv_at hl 6 rfl) ?_
                refine lv_iconst (v := 4) hx hb dL_isDone_347 (by decide) ?_
                refine lv_irem hx hb dL_isDone_348 (by decide) ?_
                rw [show (nI x2) - (nI x2) / 4 * 4 = nI (x2 % 4) from pk_rem (d := 4) (by omega) (by decide) (by decide)]
                refine lv_iadd hx hb dL_isDone_349 ?_
                rw [show (1 : Int32) + (nI (x2 % 4)) = nI (1 + (x2 % 4)) from nI_add 1 (x2 % 4)]
                refine lv_icmp_ge (tgt := 373) hx hb dL_isDone_350 (by decide) (fun c_350 => absurd c_350 (nI_ge (a := i) (b := 1 + x2 % 4) (by omega) (by omega))) (fun c_350 => ?_)
                refine lv_iload hx hb dL_isDone_353 (lv_at hl 7 rfl) ?_
                refine lv_if_eq (tgt := 373) hx hb dL_isDone_355 (by decide) (fun c_355 => absurd c_355 (by decide)) (fun c_355 => ?_)
                refine lv_aload_n hx hb dL_isDone_358 rfl (lv_at hl 0 rfl) ?_
                refine lv_aload_n hx hb dL_isDone_359 rfl (lv_at hl 3 rfl) ?_
                refine lv_aload hx hb dL_isDone_360 (lv_at hl 5 rfl) ?_
                refine lz_callL CF hTh hN hA hw (As := [.ref (a 0), .ref (q 0), .ref (q 2)]) (rest := []) (jL_isTick l hfl k a q hsep σ1 θ1 hI1 (by omega)) (fun _ _ _ _ _ => trivial) (fun _ _ _ => trivial) (va_cwS 3 hts gL_isDone_L_isTick rfl rfl rfl (by decide +kernel) ⟨Nat.le_of_ble_eq_true rfl, Nat.le_of_ble_eq_true rfl⟩) rfl hl.1 rfl (lv_room (Nat.le_of_ble_eq_true rfl)) dL_isDone_362 ⟨by show cells + 30 ≤ 130; omega, by show slots + 180 ≤ 780; omega⟩ (fun H locs r_362 σ_362 θ_362 hp_362 hw => ?_)
                obtain ⟨h1, hI2⟩ := hp_362
                rw [h1]
                refine lv_istore (lv' := [(10, .int 1), (0, .ref (a 0)), (1, .ref bq), (2, .int (nI ix)), (3, .ref (q 0)), (4, .ref (q 1)), (5, .ref (q 2)), (7, .int (nI x2)), (11, .int (nI i))]) hx hb dL_isDone_365 hl (by decide) rfl (fun ls hl => ?_)
                refine lv_iinc (v := nI (i + 1)) (lv' := [(11, .int (nI (i + 1))), (10, .int 1), (0, .ref (a 0)), (1, .ref bq), (2, .int (nI ix)), (3, .ref (q 0)), (4, .ref (q 1)), (5, .ref (q 2)), (7, .int (nI x2))]) hx hb dL_isDone_367 hl (k := 8) rfl (rm_inc i) (by decide) rfl (fun ls hl => ?_)
                refine lv_goto (tgt := 342) hx hb dL_isDone_370 (by decide) ?_
                exact ih (i + 1) (by omega) _ _ hI2 H _ _ _ _ hw (lv_sub hl [2, 3, 4, 5, 6, 7, 8, 1, 0] rfl) (by show cells + 30 ≤ _; omega) (by show slots + 180 ≤ _; omega)
            exact lp (1 + x2 % 4) 0 (by omega) σ θ hI0 _ _ _ _ _ hw (lv_sub hl [6, 7, 8, 9, 10, 11, 4, 1, 0] rfl) (Nat.le_of_ble_eq_true rfl) (Nat.le_of_ble_eq_true rfl)
        · skip
          refine lv_iload hx hb dL_isDone_212 (lv_at hl 2 rfl) ?_
          refine lv_bipush (v := 30) hx hb dL_isDone_214 (by decide) ?_
          refine lv_irem hx hb dL_isDone_216 (by decide) ?_
          rw [show (nI x2) - (nI x2) / 30 * 30 = nI (x2 % 30) from pk_rem (d := 30) (by omega) (by decide) (by decide)]
          refine lv_if_ne (tgt := 225) hx hb dL_isDone_217 (by decide) (fun c_217 => ?_) (fun c_217 => ?_)
          · skip
            refine lv_iload hx hb dL_isDone_225 (lv_at hl 2 rfl) ?_
            refine lv_bipush (v := 20) hx hb dL_isDone_227 (by decide) ?_
            refine lv_irem hx hb dL_isDone_229 (by decide) ?_
            rw [show (nI x2) - (nI x2) / 20 * 20 = nI (x2 % 20) from pk_rem (d := 20) (by omega) (by decide) (by decide)]
            refine lv_istore (lv' := [(10, .int (nI (x2 % 20))), (9, .int (nI x4)), (8, .int (nI x3)), (7, .int (nI x2)), (6, .int (nI x1)), (0, .ref (a 0)), (1, .ref bq), (2, .int (nI ix)), (3, .ref (q 0)), (4, .ref (q 1)), (5, .ref (q 2))]) hx hb dL_isDone_230 hl (by decide) rfl (fun ls hl => ?_)
            refine lv_iload hx hb dL_isDone_232 (lv_at hl 2 rfl) ?_
            refine lv_bipush (v := 10) hx hb dL_isDone_234 (by decide) ?_
            refine lv_irem hx hb dL_isDone_236 (by decide) ?_
            rw [show (nI x3) - (nI x3) / 10 * 10 = nI (x3 % 10) from pk_rem (d := 10) (by omega) (by decide) (by decide)]
            refine lv_istore (lv' := [(11, .int (nI (x3 % 10))), (10, .int (nI (x2 % 20))), (9, .int (nI x4)), (8, .int (nI x3)), (7, .int (nI x2)), (6, .int (nI x1)), (0, .ref (a 0)), (1, .ref bq), (2, .int (nI ix)), (3, .ref (q 0)), (4, .ref (q 1)), (5, .ref (q 2))]) hx hb dL_isDone_237 hl (by decide) rfl (fun ls hl => ?_)
            refine lv_iload hx hb dL_isDone_239 (lv_at hl 1 rfl) ?_
            refine lv_bipush (v := 101) hx hb dL_isDone_241 (by decide) ?_
            refine lv_icmp_ge (tgt := 272) hx hb dL_isDone_243 (by decide) (fun c_243 => absurd c_243 (nI_ge (a := x2 % 20) (b := 101) (by omega) (by decide))) (fun c_243 => ?_)
            refine lv_iload hx hb dL_isDone_246 (lv_at hl 0 rfl) ?_
            refine lv_if_le (tgt := 272) hx hb dL_isDone_248 (by decide) (fun c_248 => ?_) (fun c_248 => ?_)
            · skip
              have g1 : x3 % 10 ≤ 0 := (nI_leI (a := x3 % 10) (b := 0) (by omega) (by omega)).mp c_248
              refine lv_iconst (v := 0) hx hb dL_isDone_272 (by decide) ?_
              refine lv_istore (lv' := [(12, .int 0), (11, .int (nI (x3 % 10))), (10, .int (nI (x2 % 20))), (9, .int (nI x4)), (8, .int (nI x3)), (7, .int (nI x2)), (6, .int (nI x1)), (0, .ref (a 0)), (1, .ref bq), (2, .int (nI ix)), (3, .ref (q 0)), (4, .ref (q 1)), (5, .ref (q 2))]) hx hb dL_isDone_273 hl (by decide) rfl (fun ls hl => ?_)
              refine lv_aload hx hb dL_isDone_275 (lv_at hl 12 rfl) ?_
              refine lv_iconst (v := 1) hx hb dL_isDone_277 (by decide) ?_
              refine lv_iload hx hb dL_isDone_278 (lv_at hl 0 rfl) ?_
              refine lv_if_eq (tgt := 288) hx hb dL_isDone_280 (by decide) (fun c_280 => ?_) (fun c_280 => absurd (by decide) c_280)
              refine lv_aload hx hb dL_isDone_288 (lv_at hl 12 rfl) ?_
              refine lv_iconst (v := 1) hx hb dL_isDone_290 (by decide) ?_
              refine lz_iald CF hw 2 (j := 1) (by decide) (by show _ < 3; omega) dL_isDone_291 ?_
              refine lz_iast CF hw 2 (j := 1) (by decide) (by show _ < 3; omega) dL_isDone_292 (fun H locs hw => ?_)
              rw [rm_up_same] at hw
              refine lv_aload_n hx hb dL_isDone_293 rfl (lv_at hl 7 rfl) ?_
              refine lv_iconst (v := 0) hx hb dL_isDone_294 (by decide) ?_
              refine lv_iload hx hb dL_isDone_295 (lv_at hl 2 rfl) ?_
              refine lv_iload hx hb dL_isDone_297 (lv_at hl 4 rfl) ?_
              refine lv_iload hx hb dL_isDone_299 (lv_at hl 1 rfl) ?_
              refine lv_iload hx hb dL_isDone_301 (lv_at hl 3 rfl) ?_
              refine lv_bipush (v := 8) hx hb dL_isDone_303 (by decide) ?_
              refine lv_irem hx hb dL_isDone_305 (by decide) ?_
              rw [show (nI x4) - (nI x4) / 8 * 8 = nI (x4 % 8) from pk_rem (d := 8) (by omega) (by decide) (by decide)]
              have htl : rm_tSet (nI (x2 % 20)) (nI x3) (nI (x3 % 10)) (nI (x4 % 8)) = some rm_IA := (lz_tset (p := (x2 % 20)) (y := x3) (z := x3 % 10) (w := x4 % 8) (by omega) (by omega) (by omega) (by omega)).trans (if_neg (by omega))
              refine lz_callH CF hTh hN hA hw (As := [.ref (a 0), .int 0, .int (nI (x2 % 20)), .int (nI x3), .int (nI (x3 % 10)), .int (nI (x4 % 8))]) (rest := []) (jL_does_0 l hfl k a q hsep σ θ (nI (x2 % 20)) (nI x3) (nI (x3 % 10)) (nI (x4 % 8))) (fun _ _ _ _ _ => trivial) (fun _ _ _ => trivial) (vx_cwSW 6 hts gL_isDone_L_does rfl rfl rfl (by decide +kernel) ⟨Nat.le_of_ble_eq_true rfl, Nat.le_of_ble_eq_true rfl⟩) rfl hl.1 rfl (lv_room (Nat.le_of_ble_eq_true rfl)) dL_isDone_306 ⟨Nat.le_of_ble_eq_true rfl, Nat.le_of_ble_eq_true rfl⟩ (fun H locs r_306 σ_306 θ_306 hp_306 hw => ?_)
              obtain ⟨h1, h2, h3⟩ := hp_306
              rw [htl] at h1 h2
              have h1 : r_306 = (-20) := h1.trans lz_code_IA
              have h2 : σ_306 = σ := h2
              rw [h2, h3] at hw
              rw [h1]
              refine lv_iload hx hb dL_isDone_309 (lv_at hl 0 rfl) ?_
              refine lv_if_eq (tgt := 318) hx hb dL_isDone_311 (by decide) (fun c_311 => ?_) (fun c_311 => absurd (by decide) c_311)
              refine lv_bipush (v := (-20)) hx hb dL_isDone_318 (by decide) ?_
              refine lv_icmp_ne (tgt := 327) hx hb dL_isDone_320 (by decide) (fun c_320 => absurd (by decide) c_320) (fun c_320 => ?_)
              refine lv_iconst (v := 1) hx hb dL_isDone_323 (by decide) ?_
              refine lv_goto (tgt := 328) hx hb dL_isDone_324 (by decide) ?_
              exact lz_zret (post := (fun r σ1 θ1 => r = 1 ∧ lz_I (K + 1) (B + 20) σ1 θ1)) CF hr hlocks hw (by show 0 + 4 ≤ 130; omega) (by show 0 + 24 ≤ 780; omega) dL_isDone_328 ⟨rfl, lz_I_up hI0 (by omega) (by omega)⟩
            · skip
              have g1 : ¬ x3 % 10 ≤ 0 := fun h => c_248 ((nI_leI (a := x3 % 10) (b := 0) (by omega) (by omega)).mpr h)
              refine lv_iload hx hb dL_isDone_251 (lv_at hl 0 rfl) ?_
              refine lv_bipush (v := 9) hx hb dL_isDone_253 (by decide) ?_
              refine lv_icmp_ge (tgt := 272) hx hb dL_isDone_255 (by decide) (fun c_255 => ?_) (fun c_255 => ?_)
              · skip
                have g2 : 9 ≤ x3 % 10 := (nI_leI (a := 9) (b := x3 % 10) (by omega) (by omega)).mp c_255
                refine lv_iconst (v := 0) hx hb dL_isDone_272 (by decide) ?_
                refine lv_istore (lv' := [(12, .int 0), (11, .int (nI (x3 % 10))), (10, .int (nI (x2 % 20))), (9, .int (nI x4)), (8, .int (nI x3)), (7, .int (nI x2)), (6, .int (nI x1)), (0, .ref (a 0)), (1, .ref bq), (2, .int (nI ix)), (3, .ref (q 0)), (4, .ref (q 1)), (5, .ref (q 2))]) hx hb dL_isDone_273 hl (by decide) rfl (fun ls hl => ?_)
                refine lv_aload hx hb dL_isDone_275 (lv_at hl 12 rfl) ?_
                refine lv_iconst (v := 1) hx hb dL_isDone_277 (by decide) ?_
                refine lv_iload hx hb dL_isDone_278 (lv_at hl 0 rfl) ?_
                refine lv_if_eq (tgt := 288) hx hb dL_isDone_280 (by decide) (fun c_280 => ?_) (fun c_280 => absurd (by decide) c_280)
                refine lv_aload hx hb dL_isDone_288 (lv_at hl 12 rfl) ?_
                refine lv_iconst (v := 1) hx hb dL_isDone_290 (by decide) ?_
                refine lz_iald CF hw 2 (j := 1) (by decide) (by show _ < 3; omega) dL_isDone_291 ?_
                refine lz_iast CF hw 2 (j := 1) (by decide) (by show _ < 3; omega) dL_isDone_292 (fun H locs hw => ?_)
                rw [rm_up_same] at hw
                refine lv_aload_n hx hb dL_isDone_293 rfl (lv_at hl 7 rfl) ?_
                refine lv_iconst (v := 0) hx hb dL_isDone_294 (by decide) ?_
                refine lv_iload hx hb dL_isDone_295 (lv_at hl 2 rfl) ?_
                refine lv_iload hx hb dL_isDone_297 (lv_at hl 4 rfl) ?_
                refine lv_iload hx hb dL_isDone_299 (lv_at hl 1 rfl) ?_
                refine lv_iload hx hb dL_isDone_301 (lv_at hl 3 rfl) ?_
                refine lv_bipush (v := 8) hx hb dL_isDone_303 (by decide) ?_
                refine lv_irem hx hb dL_isDone_305 (by decide) ?_
                rw [show (nI x4) - (nI x4) / 8 * 8 = nI (x4 % 8) from pk_rem (d := 8) (by omega) (by decide) (by decide)]
                have htl : rm_tSet (nI (x2 % 20)) (nI x3) (nI (x3 % 10)) (nI (x4 % 8)) = some rm_IA := (lz_tset (p := (x2 % 20)) (y := x3) (z := x3 % 10) (w := x4 % 8) (by omega) (by omega) (by omega) (by omega)).trans (if_neg (by omega))
                refine lz_callH CF hTh hN hA hw (As := [.ref (a 0), .int 0, .int (nI (x2 % 20)), .int (nI x3), .int (nI (x3 % 10)), .int (nI (x4 % 8))]) (rest := []) (jL_does_0 l hfl k a q hsep σ θ (nI (x2 % 20)) (nI x3) (nI (x3 % 10)) (nI (x4 % 8))) (fun _ _ _ _ _ => trivial) (fun _ _ _ => trivial) (vx_cwSW 6 hts gL_isDone_L_does rfl rfl rfl (by decide +kernel) ⟨Nat.le_of_ble_eq_true rfl, Nat.le_of_ble_eq_true rfl⟩) rfl hl.1 rfl (lv_room (Nat.le_of_ble_eq_true rfl)) dL_isDone_306 ⟨Nat.le_of_ble_eq_true rfl, Nat.le_of_ble_eq_true rfl⟩ (fun H locs r_306 σ_306 θ_306 hp_306 hw => ?_)
                obtain ⟨h1, h2, h3⟩ := hp_306
                rw [htl] at h1 h2
                have h1 : r_306 = (-20) := h1.trans lz_code_IA
                have h2 : σ_306 = σ := h2
                rw [h2, h3] at hw
                rw [h1]
                refine lv_iload hx hb dL_isDone_309 (lv_at hl 0 rfl) ?_
                refine lv_if_eq (tgt := 318) hx hb dL_isDone_311 (by decide) (fun c_311 => ?_) (fun c_311 => absurd (by decide) c_311)
                refine lv_bipush (v := (-20)) hx hb dL_isDone_318 (by decide) ?_
                refine lv_icmp_ne (tgt := 327) hx hb dL_isDone_320 (by decide) (fun c_320 => absurd (by decide) c_320) (fun c_320 => ?_)
                refine lv_iconst (v := 1) hx hb dL_isDone_323 (by decide) ?_
                refine lv_goto (tgt := 328) hx hb dL_isDone_324 (by decide) ?_
                exact lz_zret (post := (fun r σ1 θ1 => r = 1 ∧ lz_I (K + 1) (B + 20) σ1 θ1)) CF hr hlocks hw (by show 0 + 4 ≤ 130; omega) (by show 0 + 24 ≤ 780; omega) dL_isDone_328 ⟨rfl, lz_I_up hI0 (by omega) (by omega)⟩
              · skip
                have g2 : ¬ 9 ≤ x3 % 10 := fun h => c_255 ((nI_leI (a := 9) (b := x3 % 10) (by omega) (by omega)).mpr h)
                refine lv_iload hx hb dL_isDone_258 (lv_at hl 2 rfl) ?_
                refine lv_bipush (v := 8) hx hb dL_isDone_260 (by decide) ?_
                refine lv_irem hx hb dL_isDone_262 (by decide) ?_
                rw [show (nI x4) - (nI x4) / 8 * 8 = nI (x4 % 8) from pk_rem (d := 8) (by omega) (by decide) (by decide)]
                refine lv_bipush (v := 7) hx hb dL_isDone_263 (by decide) ?_
                refine lv_icmp_ge (tgt := 272) hx hb dL_isDone_265 (by decide) (fun c_265 => ?_) (fun c_265 => ?_)
                · skip
                  have g3 : 7 ≤ x4 % 8 := (nI_leI (a := 7) (b := x4 % 8) (by omega) (by omega)).mp c_265
                  refine lv_iconst (v := 0) hx hb dL_isDone_272 (by decide) ?_
                  refine lv_istore (lv' := [(12, .int 0), (11, .int (nI (x3 % 10))), (10, .int (nI (x2 % 20))), (9, .int (nI x4)), (8, .int (nI x3)), (7, .int (nI x2)), (6, .int (nI x1)), (0, .ref (a 0)), (1, .ref bq), (2, .int (nI ix)), (3, .ref (q 0)), (4, .ref (q 1)), (5, .ref (q 2))]) hx hb dL_isDone_273 hl (by decide) rfl (fun ls hl => ?_)
                  refine lv_aload hx hb dL_isDone_275 (lv_at hl 12 rfl) ?_
                  refine lv_iconst (v := 1) hx hb dL_isDone_277 (by decide) ?_
                  refine lv_iload hx hb dL_isDone_278 (lv_at hl 0 rfl) ?_
                  refine lv_if_eq (tgt := 288) hx hb dL_isDone_280 (by decide) (fun c_280 => ?_) (fun c_280 => absurd (by decide) c_280)
                  refine lv_aload hx hb dL_isDone_288 (lv_at hl 12 rfl) ?_
                  refine lv_iconst (v := 1) hx hb dL_isDone_290 (by decide) ?_
                  refine lz_iald CF hw 2 (j := 1) (by decide) (by show _ < 3; omega) dL_isDone_291 ?_
                  refine lz_iast CF hw 2 (j := 1) (by decide) (by show _ < 3; omega) dL_isDone_292 (fun H locs hw => ?_)
                  rw [rm_up_same] at hw
                  refine lv_aload_n hx hb dL_isDone_293 rfl (lv_at hl 7 rfl) ?_
                  refine lv_iconst (v := 0) hx hb dL_isDone_294 (by decide) ?_
                  refine lv_iload hx hb dL_isDone_295 (lv_at hl 2 rfl) ?_
                  refine lv_iload hx hb dL_isDone_297 (lv_at hl 4 rfl) ?_
                  refine lv_iload hx hb dL_isDone_299 (lv_at hl 1 rfl) ?_
                  refine lv_iload hx hb dL_isDone_301 (lv_at hl 3 rfl) ?_
                  refine lv_bipush (v := 8) hx hb dL_isDone_303 (by decide) ?_
                  refine lv_irem hx hb dL_isDone_305 (by decide) ?_
                  rw [show (nI x4) - (nI x4) / 8 * 8 = nI (x4 % 8) from pk_rem (d := 8) (by omega) (by decide) (by decide)]
                  have htl : rm_tSet (nI (x2 % 20)) (nI x3) (nI (x3 % 10)) (nI (x4 % 8)) = some rm_IA := (lz_tset (p := (x2 % 20)) (y := x3) (z := x3 % 10) (w := x4 % 8) (by omega) (by omega) (by omega) (by omega)).trans (if_neg (by omega))
                  refine lz_callH CF hTh hN hA hw (As := [.ref (a 0), .int 0, .int (nI (x2 % 20)), .int (nI x3), .int (nI (x3 % 10)), .int (nI (x4 % 8))]) (rest := []) (jL_does_0 l hfl k a q hsep σ θ (nI (x2 % 20)) (nI x3) (nI (x3 % 10)) (nI (x4 % 8))) (fun _ _ _ _ _ => trivial) (fun _ _ _ => trivial) (vx_cwSW 6 hts gL_isDone_L_does rfl rfl rfl (by decide +kernel) ⟨Nat.le_of_ble_eq_true rfl, Nat.le_of_ble_eq_true rfl⟩) rfl hl.1 rfl (lv_room (Nat.le_of_ble_eq_true rfl)) dL_isDone_306 ⟨Nat.le_of_ble_eq_true rfl, Nat.le_of_ble_eq_true rfl⟩ (fun H locs r_306 σ_306 θ_306 hp_306 hw => ?_)
                  obtain ⟨h1, h2, h3⟩ := hp_306
                  rw [htl] at h1 h2
                  have h1 : r_306 = (-20) := h1.trans lz_code_IA
                  have h2 : σ_306 = σ := h2
                  rw [h2, h3] at hw
                  rw [h1]
                  refine lv_iload hx hb dL_isDone_309 (lv_at hl 0 rfl) ?_
                  refine lv_if_eq (tgt := 318) hx hb dL_isDone_311 (by decide) (fun c_311 => ?_) (fun c_311 => absurd (by decide) c_311)
                  refine lv_bipush (v := (-20)) hx hb dL_isDone_318 (by decide) ?_
                  refine lv_icmp_ne (tgt := 327) hx hb dL_isDone_320 (by decide) (fun c_320 => absurd (by decide) c_320) (fun c_320 => ?_)
                  refine lv_iconst (v := 1) hx hb dL_isDone_323 (by decide) ?_
                  refine lv_goto (tgt := 328) hx hb dL_isDone_324 (by decide) ?_
                  exact lz_zret (post := (fun r σ1 θ1 => r = 1 ∧ lz_I (K + 1) (B + 20) σ1 θ1)) CF hr hlocks hw (by show 0 + 4 ≤ 130; omega) (by show 0 + 24 ≤ 780; omega) dL_isDone_328 ⟨rfl, lz_I_up hI0 (by omega) (by omega)⟩
                · skip
                  have g3 : ¬ 7 ≤ x4 % 8 := fun h => c_265 ((nI_leI (a := 7) (b := x4 % 8) (by omega) (by omega)).mpr h)
                  refine lv_iconst (v := 1) hx hb dL_isDone_268 (by decide) ?_
                  refine lv_goto (tgt := 273) hx hb dL_isDone_269 (by decide) ?_
                  refine lv_istore (lv' := [(12, .int 1), (11, .int (nI (x3 % 10))), (10, .int (nI (x2 % 20))), (9, .int (nI x4)), (8, .int (nI x3)), (7, .int (nI x2)), (6, .int (nI x1)), (0, .ref (a 0)), (1, .ref bq), (2, .int (nI ix)), (3, .ref (q 0)), (4, .ref (q 1)), (5, .ref (q 2))]) hx hb dL_isDone_273 hl (by decide) rfl (fun ls hl => ?_)
                  refine lv_aload hx hb dL_isDone_275 (lv_at hl 12 rfl) ?_
                  refine lv_iconst (v := 1) hx hb dL_isDone_277 (by decide) ?_
                  refine lv_iload hx hb dL_isDone_278 (lv_at hl 0 rfl) ?_
                  refine lv_if_eq (tgt := 288) hx hb dL_isDone_280 (by decide) (fun c_280 => absurd c_280 (by decide)) (fun c_280 => ?_)
                  refine lv_iload hx hb dL_isDone_283 (lv_at hl 1 rfl) ?_
                  refine lv_goto (tgt := 292) hx hb dL_isDone_285 (by decide) ?_
                  refine lz_iast CF hw 2 (j := 1) (by decide) (by show _ < 3; omega) dL_isDone_292 (fun H locs hw => ?_)
                  refine lv_aload_n hx hb dL_isDone_293 rfl (lv_at hl 7 rfl) ?_
                  refine lv_iconst (v := 0) hx hb dL_isDone_294 (by decide) ?_
                  refine lv_iload hx hb dL_isDone_295 (lv_at hl 2 rfl) ?_
                  refine lv_iload hx hb dL_isDone_297 (lv_at hl 4 rfl) ?_
                  refine lv_iload hx hb dL_isDone_299 (lv_at hl 1 rfl) ?_
                  refine lv_iload hx hb dL_isDone_301 (lv_at hl 3 rfl) ?_
                  refine lv_bipush (v := 8) hx hb dL_isDone_303 (by decide) ?_
                  refine lv_irem hx hb dL_isDone_305 (by decide) ?_
                  rw [show (nI x4) - (nI x4) / 8 * 8 = nI (x4 % 8) from pk_rem (d := 8) (by omega) (by decide) (by decide)]
                  have htl : rm_tSet (nI (x2 % 20)) (nI x3) (nI (x3 % 10)) (nI (x4 % 8)) = none := (lz_tset (p := (x2 % 20)) (y := x3) (z := x3 % 10) (w := x4 % 8) (by omega) (by omega) (by omega) (by omega)).trans (if_pos (by omega))
                  refine lz_callH CF hTh hN hA hw (As := [.ref (a 0), .int 0, .int (nI (x2 % 20)), .int (nI x3), .int (nI (x3 % 10)), .int (nI (x4 % 8))]) (rest := []) (jL_does_0 l hfl k a q hsep σ (rm_up θ 2 1 (nI (x3 % 10))) (nI (x2 % 20)) (nI x3) (nI (x3 % 10)) (nI (x4 % 8))) (fun _ _ _ _ _ => trivial) (fun _ _ _ => trivial) (vx_cwSW 6 hts gL_isDone_L_does rfl rfl rfl (by decide +kernel) ⟨Nat.le_of_ble_eq_true rfl, Nat.le_of_ble_eq_true rfl⟩) rfl hl.1 rfl (lv_room (Nat.le_of_ble_eq_true rfl)) dL_isDone_306 ⟨Nat.le_of_ble_eq_true rfl, Nat.le_of_ble_eq_true rfl⟩ (fun H locs r_306 σ_306 θ_306 hp_306 hw => ?_)
                  obtain ⟨h1, h2, h3⟩ := hp_306
                  rw [htl] at h1 h2
                  have h1 : r_306 = 0 := h1.trans rfl
                  have h2 : σ_306 = (rm_setS σ (nI (x2 % 20)) (nI x3) (nI (x3 % 10)) (nI (x4 % 8))) := h2
                  rw [h2, h3] at hw
                  rw [h1]
                  refine lv_iload hx hb dL_isDone_309 (lv_at hl 0 rfl) ?_
                  refine lv_if_eq (tgt := 318) hx hb dL_isDone_311 (by decide) (fun c_311 => absurd c_311 (by decide)) (fun c_311 => ?_)
                  refine lv_iconst (v := 0) hx hb dL_isDone_314 (by decide) ?_
                  refine lv_goto (tgt := 320) hx hb dL_isDone_315 (by decide) ?_
                  refine lv_icmp_ne (tgt := 327) hx hb dL_isDone_320 (by decide) (fun c_320 => absurd (by decide) c_320) (fun c_320 => ?_)
                  refine lv_iconst (v := 1) hx hb dL_isDone_323 (by decide) ?_
                  refine lv_goto (tgt := 328) hx hb dL_isDone_324 (by decide) ?_
                  exact lz_zret (post := (fun r σ1 θ1 => r = 1 ∧ lz_I (K + 1) (B + 20) σ1 θ1)) CF hr hlocks hw (by show 0 + 4 ≤ 130; omega) (by show 0 + 24 ≤ 780; omega) dL_isDone_328 ⟨rfl, lz_I_up (lz_set_ hI0 (by rw [nI_toInt (by omega)]; omega) (by rw [nI_toInt (by omega)]; omega)) (by omega) (by omega)⟩
          · skip
            refine lv_bipush (v := 101) hx hb dL_isDone_220 (by decide) ?_
            refine lv_goto (tgt := 230) hx hb dL_isDone_222 (by decide) ?_
            refine lv_istore (lv' := [(10, .int 101), (9, .int (nI x4)), (8, .int (nI x3)), (7, .int (nI x2)), (6, .int (nI x1)), (0, .ref (a 0)), (1, .ref bq), (2, .int (nI ix)), (3, .ref (q 0)), (4, .ref (q 1)), (5, .ref (q 2))]) hx hb dL_isDone_230 hl (by decide) rfl (fun ls hl => ?_)
            refine lv_iload hx hb dL_isDone_232 (lv_at hl 2 rfl) ?_
            refine lv_bipush (v := 10) hx hb dL_isDone_234 (by decide) ?_
            refine lv_irem hx hb dL_isDone_236 (by decide) ?_
            rw [show (nI x3) - (nI x3) / 10 * 10 = nI (x3 % 10) from pk_rem (d := 10) (by omega) (by decide) (by decide)]
            refine lv_istore (lv' := [(11, .int (nI (x3 % 10))), (10, .int 101), (9, .int (nI x4)), (8, .int (nI x3)), (7, .int (nI x2)), (6, .int (nI x1)), (0, .ref (a 0)), (1, .ref bq), (2, .int (nI ix)), (3, .ref (q 0)), (4, .ref (q 1)), (5, .ref (q 2))]) hx hb dL_isDone_237 hl (by decide) rfl (fun ls hl => ?_)
            refine lv_iload hx hb dL_isDone_239 (lv_at hl 1 rfl) ?_
            refine lv_bipush (v := 101) hx hb dL_isDone_241 (by decide) ?_
            refine lv_icmp_ge (tgt := 272) hx hb dL_isDone_243 (by decide) (fun c_243 => ?_) (fun c_243 => absurd (by decide) c_243)
            refine lv_iconst (v := 0) hx hb dL_isDone_272 (by decide) ?_
            refine lv_istore (lv' := [(12, .int 0), (11, .int (nI (x3 % 10))), (10, .int 101), (9, .int (nI x4)), (8, .int (nI x3)), (7, .int (nI x2)), (6, .int (nI x1)), (0, .ref (a 0)), (1, .ref bq), (2, .int (nI ix)), (3, .ref (q 0)), (4, .ref (q 1)), (5, .ref (q 2))]) hx hb dL_isDone_273 hl (by decide) rfl (fun ls hl => ?_)
            refine lv_aload hx hb dL_isDone_275 (lv_at hl 12 rfl) ?_
            refine lv_iconst (v := 1) hx hb dL_isDone_277 (by decide) ?_
            refine lv_iload hx hb dL_isDone_278 (lv_at hl 0 rfl) ?_
            refine lv_if_eq (tgt := 288) hx hb dL_isDone_280 (by decide) (fun c_280 => ?_) (fun c_280 => absurd (by decide) c_280)
            refine lv_aload hx hb dL_isDone_288 (lv_at hl 12 rfl) ?_
            refine lv_iconst (v := 1) hx hb dL_isDone_290 (by decide) ?_
            refine lz_iald CF hw 2 (j := 1) (by decide) (by show _ < 3; omega) dL_isDone_291 ?_
            refine lz_iast CF hw 2 (j := 1) (by decide) (by show _ < 3; omega) dL_isDone_292 (fun H locs hw => ?_)
            rw [rm_up_same] at hw
            refine lv_aload_n hx hb dL_isDone_293 rfl (lv_at hl 7 rfl) ?_
            refine lv_iconst (v := 0) hx hb dL_isDone_294 (by decide) ?_
            refine lv_iload hx hb dL_isDone_295 (lv_at hl 2 rfl) ?_
            refine lv_iload hx hb dL_isDone_297 (lv_at hl 4 rfl) ?_
            refine lv_iload hx hb dL_isDone_299 (lv_at hl 1 rfl) ?_
            refine lv_iload hx hb dL_isDone_301 (lv_at hl 3 rfl) ?_
            refine lv_bipush (v := 8) hx hb dL_isDone_303 (by decide) ?_
            refine lv_irem hx hb dL_isDone_305 (by decide) ?_
            rw [show (nI x4) - (nI x4) / 8 * 8 = nI (x4 % 8) from pk_rem (d := 8) (by omega) (by decide) (by decide)]
            have htl : rm_tSet 101 (nI x3) (nI (x3 % 10)) (nI (x4 % 8)) = some rm_IA := (lz_tset (p := 101) (y := x3) (z := x3 % 10) (w := x4 % 8) (by omega) (by omega) (by omega) (by omega)).trans (if_neg (by omega))
            refine lz_callH CF hTh hN hA hw (As := [.ref (a 0), .int 0, .int 101, .int (nI x3), .int (nI (x3 % 10)), .int (nI (x4 % 8))]) (rest := []) (jL_does_0 l hfl k a q hsep σ θ 101 (nI x3) (nI (x3 % 10)) (nI (x4 % 8))) (fun _ _ _ _ _ => trivial) (fun _ _ _ => trivial) (vx_cwSW 6 hts gL_isDone_L_does rfl rfl rfl (by decide +kernel) ⟨Nat.le_of_ble_eq_true rfl, Nat.le_of_ble_eq_true rfl⟩) rfl hl.1 rfl (lv_room (Nat.le_of_ble_eq_true rfl)) dL_isDone_306 ⟨Nat.le_of_ble_eq_true rfl, Nat.le_of_ble_eq_true rfl⟩ (fun H locs r_306 σ_306 θ_306 hp_306 hw => ?_)
            obtain ⟨h1, h2, h3⟩ := hp_306
            rw [htl] at h1 h2
            have h1 : r_306 = (-20) := h1.trans lz_code_IA
            have h2 : σ_306 = σ := h2
            rw [h2, h3] at hw
            rw [h1]
            refine lv_iload hx hb dL_isDone_309 (lv_at hl 0 rfl) ?_
            refine lv_if_eq (tgt := 318) hx hb dL_isDone_311 (by decide) (fun c_311 => ?_) (fun c_311 => absurd (by decide) c_311)
            refine lv_bipush (v := (-20)) hx hb dL_isDone_318 (by decide) ?_
            refine lv_icmp_ne (tgt := 327) hx hb dL_isDone_320 (by decide) (fun c_320 => absurd (by decide) c_320) (fun c_320 => ?_)
            refine lv_iconst (v := 1) hx hb dL_isDone_323 (by decide) ?_
            refine lv_goto (tgt := 328) hx hb dL_isDone_324 (by decide) ?_
            exact lz_zret (post := (fun r σ1 θ1 => r = 1 ∧ lz_I (K + 1) (B + 20) σ1 θ1)) CF hr hlocks hw (by show 0 + 4 ≤ 130; omega) (by show 0 + 24 ≤ 780; omega) dL_isDone_328 ⟨rfl, lz_I_up hI0 (by omega) (by omega)⟩
      · skip
        refine lv_aload_n hx hb dL_isDone_166 rfl (lv_at hl 4 rfl) ?_
        refine lv_aload hx hb dL_isDone_167 (lv_at hl 8 rfl) ?_
        refine lv_aload hx hb dL_isDone_169 (lv_at hl 9 rfl) ?_
        refine lv_iload hx hb dL_isDone_171 (lv_at hl 3 rfl) ?_
        refine lv_bipush (v := 17) hx hb dL_isDone_173 (by decide) ?_
        refine lv_icmp_ne (tgt := 182) hx hb dL_isDone_175 (by decide) (fun c_175 => ?_) (fun c_175 => ?_)
        · skip
          refine lv_iconst (v := 1) hx hb dL_isDone_182 (by decide) ?_
          refine lv_iload hx hb dL_isDone_183 (lv_at hl 2 rfl) ?_
          refine lv_bipush (v := 30) hx hb dL_isDone_185 (by decide) ?_
          refine lv_irem hx hb dL_isDone_187 (by decide) ?_
          rw [show (nI x2) - (nI x2) / 30 * 30 = nI (x2 % 30) from pk_rem (d := 30) (by omega) (by decide) (by decide)]
          refine lv_if_ne (tgt := 196) hx hb dL_isDone_188 (by decide) (fun c_188 => ?_) (fun c_188 => ?_)
          · skip
            refine lv_iload hx hb dL_isDone_196 (lv_at hl 1 rfl) ?_
            refine lv_bipush (v := 10) hx hb dL_isDone_198 (by decide) ?_
            refine lv_irem hx hb dL_isDone_200 (by decide) ?_
            rw [show (nI x3) - (nI x3) / 10 * 10 = nI (x3 % 10) from pk_rem (d := 10) (by omega) (by decide) (by decide)]
            refine lz_callL CF hTh hN hA hw (As := [.ref (a 0), .ref (q 1), .ref (q 2), .int 1, .int (nI (x3 % 10))]) (rest := []) (jL_isRoot_1 l hfl k a q hsep σ θ (n := (x3 % 10)) (by omega) hI0 hK) (fun _ _ _ _ _ => trivial) (fun _ _ _ => trivial) (va_cwS 5 hts gL_isDone_L_isRoot rfl rfl rfl (by decide +kernel) ⟨Nat.le_of_ble_eq_true rfl, Nat.le_of_ble_eq_true rfl⟩) rfl hl.1 rfl (lv_room (Nat.le_of_ble_eq_true rfl)) dL_isDone_201 ⟨Nat.le_of_ble_eq_true rfl, Nat.le_of_ble_eq_true rfl⟩ (fun H locs r_201 σ_201 θ_201 hp_201 hw => ?_)
            obtain ⟨h1, hI2⟩ := hp_201
            rw [h1]
            exact lz_zret (post := (fun r σ1 θ1 => r = 1 ∧ lz_I (K + 1) (B + 20) σ1 θ1)) CF hr hlocks hw (by show 0 + 10 ≤ 130; omega) (by show 0 + 60 ≤ 780; omega) dL_isDone_204 ⟨rfl, lz_I_up hI2 (Nat.le_refl _) (by omega)⟩
          · skip
            refine lv_bipush (v := 10) hx hb dL_isDone_191 (by decide) ?_
            refine lv_goto (tgt := 201) hx hb dL_isDone_193 (by decide) ?_
            refine lz_callL CF hTh hN hA hw (As := [.ref (a 0), .ref (q 1), .ref (q 2), .int 1, .int 10]) (rest := []) (jL_isRoot_1 l hfl k a q hsep σ θ (n := 10) (by omega) hI0 hK) (fun _ _ _ _ _ => trivial) (fun _ _ _ => trivial) (va_cwS 5 hts gL_isDone_L_isRoot rfl rfl rfl (by decide +kernel) ⟨Nat.le_of_ble_eq_true rfl, Nat.le_of_ble_eq_true rfl⟩) rfl hl.1 rfl (lv_room (Nat.le_of_ble_eq_true rfl)) dL_isDone_201 ⟨Nat.le_of_ble_eq_true rfl, Nat.le_of_ble_eq_true rfl⟩ (fun H locs r_201 σ_201 θ_201 hp_201 hw => ?_)
            obtain ⟨h1, hI2⟩ := hp_201
            rw [h1]
            exact lz_zret (post := (fun r σ1 θ1 => r = 1 ∧ lz_I (K + 1) (B + 20) σ1 θ1)) CF hr hlocks hw (by show 0 + 10 ≤ 130; omega) (by show 0 + 60 ≤ 780; omega) dL_isDone_204 ⟨rfl, lz_I_up hI2 (Nat.le_refl _) (by omega)⟩
        · skip
          refine lv_iconst (v := 4) hx hb dL_isDone_178 (by decide) ?_
          refine lv_goto (tgt := 183) hx hb dL_isDone_179 (by decide) ?_
          refine lv_iload hx hb dL_isDone_183 (lv_at hl 2 rfl) ?_
          refine lv_bipush (v := 30) hx hb dL_isDone_185 (by decide) ?_
          refine lv_irem hx hb dL_isDone_187 (by decide) ?_
          rw [show (nI x2) - (nI x2) / 30 * 30 = nI (x2 % 30) from pk_rem (d := 30) (by omega) (by decide) (by decide)]
          refine lv_if_ne (tgt := 196) hx hb dL_isDone_188 (by decide) (fun c_188 => ?_) (fun c_188 => ?_)
          · skip
            refine lv_iload hx hb dL_isDone_196 (lv_at hl 1 rfl) ?_
            refine lv_bipush (v := 10) hx hb dL_isDone_198 (by decide) ?_
            refine lv_irem hx hb dL_isDone_200 (by decide) ?_
            rw [show (nI x3) - (nI x3) / 10 * 10 = nI (x3 % 10) from pk_rem (d := 10) (by omega) (by decide) (by decide)]
            refine lz_callL CF hTh hN hA hw (As := [.ref (a 0), .ref (q 1), .ref (q 2), .int 4, .int (nI (x3 % 10))]) (rest := []) (jL_isRoot_4 l hfl k a q hsep σ θ (n := (x3 % 10)) (by omega) hI0 hK) (fun _ _ _ _ _ => trivial) (fun _ _ _ => trivial) (va_cwS 5 hts gL_isDone_L_isRoot rfl rfl rfl (by decide +kernel) ⟨Nat.le_of_ble_eq_true rfl, Nat.le_of_ble_eq_true rfl⟩) rfl hl.1 rfl (lv_room (Nat.le_of_ble_eq_true rfl)) dL_isDone_201 ⟨Nat.le_of_ble_eq_true rfl, Nat.le_of_ble_eq_true rfl⟩ (fun H locs r_201 σ_201 θ_201 hp_201 hw => ?_)
            obtain ⟨h1, hI2⟩ := hp_201
            rw [h1]
            exact lz_zret (post := (fun r σ1 θ1 => r = 1 ∧ lz_I (K + 1) (B + 20) σ1 θ1)) CF hr hlocks hw (by show 0 + 10 ≤ 130; omega) (by show 0 + 60 ≤ 780; omega) dL_isDone_204 ⟨rfl, lz_I_up hI2 (Nat.le_refl _) (by omega)⟩
          · skip
            refine lv_bipush (v := 10) hx hb dL_isDone_191 (by decide) ?_
            refine lv_goto (tgt := 201) hx hb dL_isDone_193 (by decide) ?_
            refine lz_callL CF hTh hN hA hw (As := [.ref (a 0), .ref (q 1), .ref (q 2), .int 4, .int 10]) (rest := []) (jL_isRoot_4 l hfl k a q hsep σ θ (n := 10) (by omega) hI0 hK) (fun _ _ _ _ _ => trivial) (fun _ _ _ => trivial) (va_cwS 5 hts gL_isDone_L_isRoot rfl rfl rfl (by decide +kernel) ⟨Nat.le_of_ble_eq_true rfl, Nat.le_of_ble_eq_true rfl⟩) rfl hl.1 rfl (lv_room (Nat.le_of_ble_eq_true rfl)) dL_isDone_201 ⟨Nat.le_of_ble_eq_true rfl, Nat.le_of_ble_eq_true rfl⟩ (fun H locs r_201 σ_201 θ_201 hp_201 hw => ?_)
            obtain ⟨h1, hI2⟩ := hp_201
            rw [h1]
            exact lz_zret (post := (fun r σ1 θ1 => r = 1 ∧ lz_I (K + 1) (B + 20) σ1 θ1)) CF hr hlocks hw (by show 0 + 10 ≤ 130; omega) (by show 0 + 60 ≤ 780; omega) dL_isDone_204 ⟨rfl, lz_I_up hI2 (Nat.le_refl _) (by omega)⟩
    · skip
      refine lv_aload_n hx hb dL_isDone_131 rfl (lv_at hl 4 rfl) ?_
      refine lv_aload hx hb dL_isDone_132 (lv_at hl 8 rfl) ?_
      refine lv_aload hx hb dL_isDone_134 (lv_at hl 9 rfl) ?_
      refine lv_iconst (v := 3) hx hb dL_isDone_136 (by decide) ?_
      refine lv_iload hx hb dL_isDone_137 (lv_at hl 2 rfl) ?_
      refine lv_bipush (v := 30) hx hb dL_isDone_139 (by decide) ?_
      refine lv_irem hx hb dL_isDone_141 (by decide) ?_
      rw [show (nI x2) - (nI x2) / 30 * 30 = nI (x2 % 30) from pk_rem (d := 30) (by omega) (by decide) (by decide)]
      refine lv_if_ne (tgt := 150) hx hb dL_isDone_142 (by decide) (fun c_142 => ?_) (fun c_142 => ?_)
      · skip
        refine lv_iload hx hb dL_isDone_150 (lv_at hl 1 rfl) ?_
        refine lv_bipush (v := 10) hx hb dL_isDone_152 (by decide) ?_
        refine lv_irem hx hb dL_isDone_154 (by decide) ?_
        rw [show (nI x3) - (nI x3) / 10 * 10 = nI (x3 % 10) from pk_rem (d := 10) (by omega) (by decide) (by decide)]
        refine lz_callL CF hTh hN hA hw (As := [.ref (a 0), .ref (q 1), .ref (q 2), .int 3, .int (nI (x3 % 10))]) (rest := []) (jL_isRoot_3 l hfl k a q hsep σ θ (n := (x3 % 10)) (by omega) hI0 hK) (fun _ _ _ _ _ => trivial) (fun _ _ _ => trivial) (va_cwS 5 hts gL_isDone_L_isRoot rfl rfl rfl (by decide +kernel) ⟨Nat.le_of_ble_eq_true rfl, Nat.le_of_ble_eq_true rfl⟩) rfl hl.1 rfl (lv_room (Nat.le_of_ble_eq_true rfl)) dL_isDone_155 ⟨Nat.le_of_ble_eq_true rfl, Nat.le_of_ble_eq_true rfl⟩ (fun H locs r_155 σ_155 θ_155 hp_155 hw => ?_)
        obtain ⟨h1, hI2⟩ := hp_155
        rw [h1]
        exact lz_zret (post := (fun r σ1 θ1 => r = 1 ∧ lz_I (K + 1) (B + 20) σ1 θ1)) CF hr hlocks hw (by show 0 + 10 ≤ 130; omega) (by show 0 + 60 ≤ 780; omega) dL_isDone_158 ⟨rfl, lz_I_up hI2 (Nat.le_refl _) (by omega)⟩
      · skip
        refine lv_bipush (v := 10) hx hb dL_isDone_145 (by decide) ?_
        refine lv_goto (tgt := 155) hx hb dL_isDone_147 (by decide) ?_
        refine lz_callL CF hTh hN hA hw (As := [.ref (a 0), .ref (q 1), .ref (q 2), .int 3, .int 10]) (rest := []) (jL_isRoot_3 l hfl k a q hsep σ θ (n := 10) (by omega) hI0 hK) (fun _ _ _ _ _ => trivial) (fun _ _ _ => trivial) (va_cwS 5 hts gL_isDone_L_isRoot rfl rfl rfl (by decide +kernel) ⟨Nat.le_of_ble_eq_true rfl, Nat.le_of_ble_eq_true rfl⟩) rfl hl.1 rfl (lv_room (Nat.le_of_ble_eq_true rfl)) dL_isDone_155 ⟨Nat.le_of_ble_eq_true rfl, Nat.le_of_ble_eq_true rfl⟩ (fun H locs r_155 σ_155 θ_155 hp_155 hw => ?_)
        obtain ⟨h1, hI2⟩ := hp_155
        rw [h1]
        exact lz_zret (post := (fun r σ1 θ1 => r = 1 ∧ lz_I (K + 1) (B + 20) σ1 θ1)) CF hr hlocks hw (by show 0 + 10 ≤ 130; omega) (by show 0 + 60 ≤ 780; omega) dL_isDone_158 ⟨rfl, lz_I_up hI2 (Nat.le_refl _) (by omega)⟩
  · skip
    refine lv_iload hx hb dL_isDone_52 (lv_at hl 2 rfl) ?_
    refine lv_bipush (v := 40) hx hb dL_isDone_54 (by decide) ?_
    refine lv_irem hx hb dL_isDone_56 (by decide) ?_
    rw [show (nI x2) - (nI x2) / 40 * 40 = nI (x2 % 40) from pk_rem (d := 40) (by omega) (by decide) (by decide)]
    refine lv_if_ne (tgt := 76) hx hb dL_isDone_57 (by decide) (fun c_57 => ?_) (fun c_57 => ?_)
    · skip
      refine lv_aload_n hx hb dL_isDone_76 rfl (lv_at hl 4 rfl) ?_
      refine lv_aload_n hx hb dL_isDone_77 rfl (lv_at hl 7 rfl) ?_
      refine lv_iload hx hb dL_isDone_78 (lv_at hl 2 rfl) ?_
      refine lv_bipush (v := 8) hx hb dL_isDone_80 (by decide) ?_
      refine lv_irem hx hb dL_isDone_82 (by decide) ?_
      rw [show (nI x2) - (nI x2) / 8 * 8 = nI (x2 % 8) from pk_rem (d := 8) (by omega) (by decide) (by decide)]
      refine lv_iload hx hb dL_isDone_83 (lv_at hl 1 rfl) ?_
      refine lv_bipush (v := 8) hx hb dL_isDone_85 (by decide) ?_
      refine lv_irem hx hb dL_isDone_87 (by decide) ?_
      rw [show (nI x3) - (nI x3) / 8 * 8 = nI (x3 % 8) from pk_rem (d := 8) (by omega) (by decide) (by decide)]
      refine lv_iload hx hb dL_isDone_88 (lv_at hl 0 rfl) ?_
      refine lv_bipush (v := 30) hx hb dL_isDone_90 (by decide) ?_
      refine lv_irem hx hb dL_isDone_92 (by decide) ?_
      rw [show (nI x4) - (nI x4) / 30 * 30 = nI (x4 % 30) from pk_rem (d := 30) (by omega) (by decide) (by decide)]
      refine lv_if_ne (tgt := 101) hx hb dL_isDone_93 (by decide) (fun c_93 => ?_) (fun c_93 => ?_)
      · skip
        refine lv_iload hx hb dL_isDone_101 (lv_at hl 0 rfl) ?_
        refine lv_bipush (v := 6) hx hb dL_isDone_103 (by decide) ?_
        refine lv_irem hx hb dL_isDone_105 (by decide) ?_
        rw [show (nI x4) - (nI x4) / 6 * 6 = nI (x4 % 6) from pk_rem (d := 6) (by omega) (by decide) (by decide)]
        refine lv_if_ne (tgt := 113) hx hb dL_isDone_106 (by decide) (fun c_106 => ?_) (fun c_106 => ?_)
        · skip
          refine lv_iconst (v := 1) hx hb dL_isDone_113 (by decide) ?_
          refine lv_iload hx hb dL_isDone_114 (lv_at hl 0 rfl) ?_
          refine lv_bipush (v := 40) hx hb dL_isDone_116 (by decide) ?_
          refine lv_irem hx hb dL_isDone_118 (by decide) ?_
          rw [show (nI x4) - (nI x4) / 40 * 40 = nI (x4 % 40) from pk_rem (d := 40) (by omega) (by decide) (by decide)]
          refine lv_iadd hx hb dL_isDone_119 ?_
          rw [show (1 : Int32) + (nI (x4 % 40)) = nI (1 + (x4 % 40)) from nI_add 1 (x4 % 40)]
          refine lz_callL CF hTh hN hA hw (As := [.ref (a 0), .ref (q 0), .int (nI (x2 % 8)), .int (nI (x3 % 8)), .int (nI (1 + (x4 % 40)))]) (rest := []) (jL_isLink_n l hfl k a q hsep σ θ (n := (x2 % 8)) (o := (x3 % 8)) (v := (1 + (x4 % 40))) (by omega) (by omega) (by omega) hI0) (fun _ _ _ _ _ => trivial) (fun _ _ _ => trivial) (va_cwS 5 hts gL_isDone_L_isLink rfl rfl rfl (by decide +kernel) ⟨Nat.le_of_ble_eq_true rfl, Nat.le_of_ble_eq_true rfl⟩) rfl hl.1 rfl (lv_room (Nat.le_of_ble_eq_true rfl)) dL_isDone_120 ⟨Nat.le_of_ble_eq_true rfl, Nat.le_of_ble_eq_true rfl⟩ (fun H locs r_120 σ_120 θ_120 hp_120 hw => ?_)
          obtain ⟨h1, hI2⟩ := hp_120
          rw [h1]
          exact lz_zret (post := (fun r σ1 θ1 => r = 1 ∧ lz_I (K + 1) (B + 20) σ1 θ1)) CF hr hlocks hw (by show 0 + 10 ≤ 130; omega) (by show 0 + 60 ≤ 780; omega) dL_isDone_123 ⟨rfl, lz_I_up hI2 (by omega) (by omega)⟩
        · skip
          refine lv_iconst (v := 0) hx hb dL_isDone_109 (by decide) ?_
          refine lv_goto (tgt := 120) hx hb dL_isDone_110 (by decide) ?_
          refine lz_callL CF hTh hN hA hw (As := [.ref (a 0), .ref (q 0), .int (nI (x2 % 8)), .int (nI (x3 % 8)), .int 0]) (rest := []) (jL_isLink_n l hfl k a q hsep σ θ (n := (x2 % 8)) (o := (x3 % 8)) (v := 0) (by omega) (by omega) (by omega) hI0) (fun _ _ _ _ _ => trivial) (fun _ _ _ => trivial) (va_cwS 5 hts gL_isDone_L_isLink rfl rfl rfl (by decide +kernel) ⟨Nat.le_of_ble_eq_true rfl, Nat.le_of_ble_eq_true rfl⟩) rfl hl.1 rfl (lv_room (Nat.le_of_ble_eq_true rfl)) dL_isDone_120 ⟨Nat.le_of_ble_eq_true rfl, Nat.le_of_ble_eq_true rfl⟩ (fun H locs r_120 σ_120 θ_120 hp_120 hw => ?_)
          obtain ⟨h1, hI2⟩ := hp_120
          rw [h1]
          exact lz_zret (post := (fun r σ1 θ1 => r = 1 ∧ lz_I (K + 1) (B + 20) σ1 θ1)) CF hr hlocks hw (by show 0 + 10 ≤ 130; omega) (by show 0 + 60 ≤ 780; omega) dL_isDone_123 ⟨rfl, lz_I_up hI2 (by omega) (by omega)⟩
      · skip
        refine lv_bipush (v := 101) hx hb dL_isDone_96 (by decide) ?_
        refine lv_goto (tgt := 120) hx hb dL_isDone_98 (by decide) ?_
        refine lz_callL CF hTh hN hA hw (As := [.ref (a 0), .ref (q 0), .int (nI (x2 % 8)), .int (nI (x3 % 8)), .int 101]) (rest := []) (jL_isLink_n l hfl k a q hsep σ θ (n := (x2 % 8)) (o := (x3 % 8)) (v := 101) (by omega) (by omega) (by omega) hI0) (fun _ _ _ _ _ => trivial) (fun _ _ _ => trivial) (va_cwS 5 hts gL_isDone_L_isLink rfl rfl rfl (by decide +kernel) ⟨Nat.le_of_ble_eq_true rfl, Nat.le_of_ble_eq_true rfl⟩) rfl hl.1 rfl (lv_room (Nat.le_of_ble_eq_true rfl)) dL_isDone_120 ⟨Nat.le_of_ble_eq_true rfl, Nat.le_of_ble_eq_true rfl⟩ (fun H locs r_120 σ_120 θ_120 hp_120 hw => ?_)
        obtain ⟨h1, hI2⟩ := hp_120
        rw [h1]
        exact lz_zret (post := (fun r σ1 θ1 => r = 1 ∧ lz_I (K + 1) (B + 20) σ1 θ1)) CF hr hlocks hw (by show 0 + 10 ≤ 130; omega) (by show 0 + 60 ≤ 780; omega) dL_isDone_123 ⟨rfl, lz_I_up hI2 (by omega) (by omega)⟩
    · skip
      refine lv_aload_n hx hb dL_isDone_60 rfl (lv_at hl 4 rfl) ?_
      refine lv_aload_n hx hb dL_isDone_61 rfl (lv_at hl 7 rfl) ?_
      refine lv_bipush (v := 10) hx hb dL_isDone_62 (by decide) ?_
      refine lv_iload hx hb dL_isDone_64 (lv_at hl 1 rfl) ?_
      refine lv_bipush (v := 8) hx hb dL_isDone_66 (by decide) ?_
      refine lv_irem hx hb dL_isDone_68 (by decide) ?_
      rw [show (nI x3) - (nI x3) / 8 * 8 = nI (x3 % 8) from pk_rem (d := 8) (by omega) (by decide) (by decide)]
      refine lv_iconst (v := 5) hx hb dL_isDone_69 (by decide) ?_
      refine lz_callL CF hTh hN hA hw (As := [.ref (a 0), .ref (q 0), .int 10, .int (nI (x3 % 8)), .int 5]) (rest := []) (jL_isLink_10 l hfl k a q hsep σ θ (o := (x3 % 8)) (by omega) hI0) (fun _ _ _ _ _ => trivial) (fun _ _ _ => trivial) (va_cwS 5 hts gL_isDone_L_isLink rfl rfl rfl (by decide +kernel) ⟨Nat.le_of_ble_eq_true rfl, Nat.le_of_ble_eq_true rfl⟩) rfl hl.1 rfl (lv_room (Nat.le_of_ble_eq_true rfl)) dL_isDone_70 ⟨Nat.le_of_ble_eq_true rfl, Nat.le_of_ble_eq_true rfl⟩ (fun H locs r_70 σ_70 θ_70 hp_70 hw => ?_)
      obtain ⟨h1, hI2⟩ := hp_70
      rw [h1]
      refine lv_goto (tgt := 123) hx hb dL_isDone_73 (by decide) ?_
      exact lz_zret (post := (fun r σ1 θ1 => r = 1 ∧ lz_I (K + 1) (B + 20) σ1 θ1)) CF hr hlocks hw (by show 0 + 10 ≤ 130; omega) (by show 0 + 60 ≤ 780; omega) dL_isDone_123 ⟨rfl, lz_I_up hI2 (by omega) (by omega)⟩

set_option maxHeartbeats 4000000 in
set_option maxRecDepth 100000 in
theorem kX0_pass (l : Launch) (hfl : l.stackTraces = false) (k : rm_K) (a : Nat → Nat) (ha : rm_inj a) (σ : rm_St) (x : Int32) : rm_XI l k a yX0_pass wsX0_pass ({ frames := 7, cells := 1, slots := 6, locals := 158 }) [.int x] σ (rm_tR x 1 100) ((rm_pass σ x).2) ((rm_pass σ x).1) := by
  refine rm_enterXI (cc := cX0_pass) (nL := 4) (ret := (some .int)) ha (by decide) rfl rfl (by decide +kernel) (Nat.le_of_ble_eq_true rfl) ?_
  intro p e s m args below meth c ls C hr hlocks htab hTh hw hl
  have hx := C.1.1
  have hb := C.1.2.1
  have hts := C.1.2.2.2.2
  have hA : ∀ q, s.heap.size ≤ q → rm_A a s.heap.size q := fun q h => Or.inr h
  replace hl : lv_has ls 4 [(0, .ref (a 0)), (1, .int x)] := hl
  refine lv_iload_n hx hb dX0_pass_0 rfl (lv_at hl 1 rfl) ?_
  refine lv_iconst (v := 1) hx hb dX0_pass_1 (by decide) ?_
  refine lv_bipush (v := 100) hx hb dX0_pass_2 (by decide) ?_
  refine rm_callXS C hlocks htab hTh hw (As := [.int x, .int 1, .int 100]) (rest := []) (kX0_requireRange l hfl (x) (1) (100)) (va_cwS 3 hts gX0_pass_X0_requireRange rfl rfl rfl (by decide +kernel) ⟨Nat.le_of_ble_eq_true rfl, Nat.le_of_ble_eq_true rfl⟩) rfl hl.1 rfl (lv_room (Nat.le_of_ble_eq_true rfl)) dX0_pass_4 ⟨Nat.le_of_ble_eq_true rfl, Nat.le_of_ble_eq_true rfl⟩ (Nat.le_of_ble_eq_true rfl) (Nat.le_of_ble_eq_true rfl) (fun E hE => by simp only [hE, rm_or_n, rm_or_s, ↓reduceIte, Bool.false_eq_true]) (fun c_4 H locs hw => ?_)
  obtain ⟨T, hT1, hT2, rfl⟩ := rm_tT c_4
  have hTc : (nI T).toNatClampNeg = T := nI_clamp (by omega)
  refine lv_iconst (v := 0) hx hb dX0_pass_7 (by decide) ?_
  refine lv_istore_n (lv' := [(2, .int 0), (0, .ref (a 0)), (1, .int (nI T))]) hx hb dX0_pass_8 rfl hl (by decide) rfl (fun ls hl => ?_)
  refine lv_iconst (v := 0) hx hb dX0_pass_9 (by decide) ?_
  refine lv_istore_n (lv' := [(3, .int 0), (2, .int 0), (0, .ref (a 0)), (1, .int (nI T))]) hx hb dX0_pass_10 rfl hl (by decide) rfl (fun ls hl => ?_)
  have lp_11 : ∀ (r t : Nat), t + r = T → ∀ (x2 : Int32) (τ11 : rm_St), rm_passL r t x2 τ11 = rm_pass σ (nI T) → ∀ (H : Heap) (locs : List Loc), rm_Wd k a (rm_A a s.heap.size) s.heap s τ11 H locs → ∀ (ls : Array Slot), lv_has ls 4 [(0, .ref (a 0)), (1, .int (nI T)), (2, .int x2), (3, .int (nI t))] → W p l e (headSpec wsX0_pass ({ frames := 7, cells := 1, slots := 6, locals := 158 })).room s m args below meth c H locs 1 6 (vx_MQ below (va_Qi (fun (r : Int32) (τ : rm_St) => (rm_tR (nI T) 1 100) = none ∧ r = ((rm_pass σ (nI T)).2) ∧ τ = ((rm_pass σ (nI T)).1)) (fun τ t => rm_P k a τ t) (rm_A a s.heap.size)) (rm_XC k a σ (rm_tR (nI T) 1 100) (rm_A a s.heap.size)) args s 1 6 (rm_A a s.heap.size)) (F0 m 11 ls []) := by
    intro r
    induction r with
    | zero =>
      intro t hi11 x2 τ11 ht11 H locs hw ls hl
      obtain rfl : T = t := by omega
      have hz11 : (τ11, x2) = rm_pass σ (nI T) := ht11
      refine lv_iload_n hx hb dX0_pass_11 rfl (lv_at hl 3 rfl) ?_
      refine lv_iload_n hx hb dX0_pass_12 rfl (lv_at hl 1 rfl) ?_
      refine lv_icmp_ge (tgt := 29) hx hb dX0_pass_13 (by decide) (fun c_13 => ?_) (fun c_13 => ?_)
      · skip
        refine lv_iload_n hx hb dX0_pass_29 rfl (lv_at hl 2 rfl) ?_
        exact rm_xret C hr hlocks hw (Nat.le_of_ble_eq_true rfl) (Nat.le_of_ble_eq_true rfl) dX0_pass_30 ⟨by first | (simp only [c_4, hTc, ↓reduceIte, Bool.false_eq_true, rm_or_n, rm_or_s]; done) | (simp only [c_4, hTc, ↓reduceIte, Bool.false_eq_true, rm_or_n, rm_or_s]; rfl), by first | with_reducible rfl | with_reducible exact hz11 | (rw [← hz11]; done) | (rw [← hz11]; exact bI_f.symm) | (simp only [rm_pass, c_4, hTc, ↓reduceIte, Bool.false_eq_true]; rw [← hz11]; done) | (rw [← hz11]; simp only [rm_passL, ↓reduceIte, Bool.false_eq_true]; done) | (rw [← hz11]; simp only [rm_passL, ↓reduceIte, Bool.false_eq_true]; with_reducible rfl) | (rw [← hz11]; simp only [rm_passL, ↓reduceIte, Bool.false_eq_true]; rfl) | (simp only [rm_pass, c_4, hTc, ↓reduceIte, Bool.false_eq_true]; done) | (simp only [rm_pass, c_4, hTc, ↓reduceIte, Bool.false_eq_true]; with_reducible rfl), by first | with_reducible rfl | with_reducible exact hz11 | (rw [← hz11]; done) | (rw [← hz11]; exact bI_f.symm) | (simp only [rm_pass, c_4, hTc, ↓reduceIte, Bool.false_eq_true]; rw [← hz11]; done) | (rw [← hz11]; simp only [rm_passL, ↓reduceIte, Bool.false_eq_true]; done) | (rw [← hz11]; simp only [rm_passL, ↓reduceIte, Bool.false_eq_true]; with_reducible rfl) | (rw [← hz11]; simp only [rm_passL, ↓reduceIte, Bool.false_eq_true]; rfl) | (simp only [rm_pass, c_4, hTc, ↓reduceIte, Bool.false_eq_true]; done) | (simp only [rm_pass, c_4, hTc, ↓reduceIte, Bool.false_eq_true]; with_reducible rfl)⟩
      · exact absurd (nI_le (a := T) (b := T) (Nat.le_refl _) (by omega)) c_13
    | succ r ih11 =>
      intro t hi11 x2 τ11 ht11 H locs hw ls hl
      have hlt11 : t < T := by omega
      refine lv_iload_n hx hb dX0_pass_11 rfl (lv_at hl 3 rfl) ?_
      refine lv_iload_n hx hb dX0_pass_12 rfl (lv_at hl 1 rfl) ?_
      refine lv_icmp_ge (tgt := 29) hx hb dX0_pass_13 (by decide) (fun c_13 => ?_) (fun c_13 => ?_)
      · exact absurd c_13 (nI_ge (a := t) (b := T) (by omega) (by omega))
      · skip
        refine lv_iload_n hx hb dX0_pass_16 rfl (lv_at hl 2 rfl) ?_
        refine lv_aload_n hx hb dX0_pass_17 rfl (lv_at hl 0 rfl) ?_
        refine rm_callI C hw hA (As := []) (rest := [.int x2]) (kX0_passTick l k a ha τ11 ) (cwV 0 hts gX0_pass_X0_passTick rfl rfl rfl (by decide +kernel) ⟨Nat.le_of_ble_eq_true rfl, Nat.le_of_ble_eq_true rfl⟩) rfl hl.1 rfl (lv_room (Nat.le_of_ble_eq_true rfl)) dX0_pass_18 ⟨Nat.le_of_ble_eq_true rfl, Nat.le_of_ble_eq_true rfl⟩ (fun H locs hw => ?_)
        refine lv_iadd hx hb dX0_pass_21 ?_
        refine lv_istore_n (lv' := [(2, .int ((x2) + ((rm_tick τ11).2))), (0, .ref (a 0)), (1, .int (nI T)), (3, .int (nI t))]) hx hb dX0_pass_22 rfl hl (by decide) rfl (fun ls hl => ?_)
        refine lv_iinc (v := nI (t + 1)) (lv' := [(3, .int (nI (t + 1))), (2, .int ((x2) + ((rm_tick τ11).2))), (0, .ref (a 0)), (1, .int (nI T))]) hx hb dX0_pass_23 hl (k := 3) rfl (rm_inc t) (by decide) rfl (fun ls hl => ?_)
        refine lv_goto (tgt := 11) hx hb dX0_pass_26 (by decide) ?_
        exact ih11 (t + 1) (by omega) ((x2) + ((rm_tick τ11).2)) ((rm_tick τ11).1) (by refine Eq.trans ?_ ht11; first | with_reducible rfl | (simp only [rm_passL, ↓reduceIte, Bool.false_eq_true]; done) | (simp only [rm_passL, ↓reduceIte, Bool.false_eq_true]; with_reducible rfl)) _ _ hw _ (lv_sub hl [2, 3, 1, 0] rfl)
  exact lp_11 T 0 (by omega) (0) (σ) (by first | with_reducible rfl | (unfold rm_pass; with_reducible rfl) | (simp only [rm_pass, c_4, hTc, ↓reduceIte, Bool.false_eq_true]; done) | (simp only [rm_pass, c_4, hTc, ↓reduceIte, Bool.false_eq_true]; with_reducible rfl)) _ _ hw _ (lv_sub hl [2, 3, 1, 0] rfl)
set_option maxHeartbeats 4000000 in
set_option maxRecDepth 100000 in
theorem kX0_leastRank (l : Launch) (hfl : l.stackTraces = false) (k : rm_K) (a : Nat → Nat) (ha : rm_inj a) (σ : rm_St) (x : Int32) : rm_XI l k a yX0_leastRank wsX0_leastRank ({ frames := 7, cells := 1, slots := 6, locals := 110 }) [.int x] σ (rm_tN x) (rm_least σ 14 x.toNatClampNeg) (rm_least σ) := by
  refine rm_enterXI (cc := cX0_leastRank) (nL := 3) (ret := (some .int)) ha (by decide) rfl rfl (by decide +kernel) (Nat.le_of_ble_eq_true rfl) ?_
  intro p e s m args below meth c ls C hr hlocks htab hTh hw hl
  have hx := C.1.1
  have hb := C.1.2.1
  have hts := C.1.2.2.2.2
  have hA : ∀ q, s.heap.size ≤ q → rm_A a s.heap.size q := fun q h => Or.inr h
  replace hl : lv_has ls 3 [(0, .ref (a 0)), (1, .int x)] := hl
  refine lv_iload_n hx hb dX0_leastRank_0 rfl (lv_at hl 1 rfl) ?_
  refine rm_callXS C hlocks htab hTh hw (As := [.int x]) (rest := []) (kX0_requireNode l hfl (x)) (va_cwS 1 hts gX0_leastRank_X0_requireNode rfl rfl rfl (by decide +kernel) ⟨Nat.le_of_ble_eq_true rfl, Nat.le_of_ble_eq_true rfl⟩) rfl hl.1 rfl (lv_room (Nat.le_of_ble_eq_true rfl)) dX0_leastRank_1 ⟨Nat.le_of_ble_eq_true rfl, Nat.le_of_ble_eq_true rfl⟩ (Nat.le_of_ble_eq_true rfl) (Nat.le_of_ble_eq_true rfl) (fun E hE => by simp only [hE, rm_or_n, rm_or_s, ↓reduceIte, Bool.false_eq_true]) (fun c_1 H locs hw => ?_)
  obtain ⟨xn, hxn, rfl⟩ := rm_tN_none c_1
  refine lv_iconst (v := 0) hx hb dX0_leastRank_4 (by decide) ?_
  refine lv_istore_n (lv' := [(2, .int 0), (0, .ref (a 0)), (1, .int (nI xn))]) hx hb dX0_leastRank_5 rfl hl (by decide) rfl (fun ls hl => ?_)
  have lp_6 : ∀ (r i : Nat), i + r = 10 → ∀ (τ6 : rm_St), rm_wayI r i τ6 = rm_wayI 10 0 σ → ∀ (H : Heap) (locs : List Loc), rm_Wd k a (rm_A a s.heap.size) s.heap s τ6 H locs → ∀ (ls : Array Slot), lv_has ls 3 [(0, .ref (a 0)), (1, .int (nI xn)), (2, .int (nI i))] → W p l e (headSpec wsX0_leastRank ({ frames := 7, cells := 1, slots := 6, locals := 110 })).room s m args below meth c H locs 1 6 (vx_MQ below (va_Qi (fun (r : Int32) (τ : rm_St) => (rm_tN (nI xn)) = none ∧ r = (rm_least σ 14 (nI xn).toNatClampNeg) ∧ τ = (rm_least σ)) (fun τ t => rm_P k a τ t) (rm_A a s.heap.size)) (rm_XC k a σ (rm_tN (nI xn)) (rm_A a s.heap.size)) args s 1 6 (rm_A a s.heap.size)) (F0 m 6 ls []) := by
    intro r
    induction r with
    | zero =>
      intro i hi6 τ6 ht6 H locs hw ls hl
      obtain rfl : 10 = i := by omega
      have hz6 : τ6 = rm_wayI 10 0 σ := ht6
      refine lv_iload_n hx hb dX0_leastRank_6 rfl (lv_at hl 2 rfl) ?_
      refine lv_bipush (v := 10) hx hb dX0_leastRank_7 (by decide) ?_
      refine lv_icmp_ge (tgt := 40) hx hb dX0_leastRank_9 (by decide) (fun c_9 => ?_) (fun c_9 => ?_)
      · skip
        refine lv_iconst (v := 1) hx hb dX0_leastRank_40 (by decide) ?_
        refine lv_istore_n (lv' := [(2, .int 1), (0, .ref (a 0)), (1, .int (nI xn))]) hx hb dX0_leastRank_41 rfl hl (by decide) rfl (fun ls hl => ?_)
        have lp_42 : ∀ (r t : Nat), t + r = 10 → ∀ (τ42 : rm_St), rm_lwL r t τ42 = rm_lwL 9 1 (rm_wayI 10 0 σ) → ∀ (H : Heap) (locs : List Loc), rm_Wd k a (rm_A a s.heap.size) s.heap s τ42 H locs → ∀ (ls : Array Slot), lv_has ls 3 [(0, .ref (a 0)), (1, .int (nI xn)), (2, .int (nI t))] → W p l e (headSpec wsX0_leastRank ({ frames := 7, cells := 1, slots := 6, locals := 110 })).room s m args below meth c H locs 1 6 (vx_MQ below (va_Qi (fun (r : Int32) (τ : rm_St) => (rm_tN (nI xn)) = none ∧ r = (rm_least σ 14 (nI xn).toNatClampNeg) ∧ τ = (rm_least σ)) (fun τ t => rm_P k a τ t) (rm_A a s.heap.size)) (rm_XC k a σ (rm_tN (nI xn)) (rm_A a s.heap.size)) args s 1 6 (rm_A a s.heap.size)) (F0 m 42 ls []) := by
          intro r
          induction r with
          | zero =>
            intro t hi42 τ42 ht42 H locs hw ls hl
            obtain rfl : 10 = t := by omega
            have hz42 : τ42 = rm_lwL 9 1 (rm_wayI 10 0 σ) := ht42
            refine lv_iload_n hx hb dX0_leastRank_42 rfl (lv_at hl 2 rfl) ?_
            refine lv_bipush (v := 10) hx hb dX0_leastRank_43 (by decide) ?_
            refine lv_icmp_ge (tgt := 58) hx hb dX0_leastRank_45 (by decide) (fun c_45 => ?_) (fun c_45 => ?_)
            · skip
              refine lv_aload_n hx hb dX0_leastRank_58 rfl (lv_at hl 0 rfl) ?_
              refine rm_geta C hw 19 14 (by decide) rfl (hts _ (by decide +kernel)) rfl dX0_leastRank_59 ?_
              refine lv_iload_n hx hb dX0_leastRank_62 rfl (lv_at hl 1 rfl) ?_
              refine rm_iald C hw (by decide) hxn dX0_leastRank_63 ?_
              exact rm_xret C hr hlocks hw (Nat.le_of_ble_eq_true rfl) (Nat.le_of_ble_eq_true rfl) dX0_leastRank_64 ⟨by first | (simp only [c_1, rm_cl hxn, ↓reduceIte, Bool.false_eq_true, rm_or_n, rm_or_s]; done) | (simp only [c_1, rm_cl hxn, ↓reduceIte, Bool.false_eq_true, rm_or_n, rm_or_s]; rfl), by first | with_reducible rfl | with_reducible exact hz42 | (rw [← hz42]; done) | (rw [← hz42]; exact bI_f.symm) | (simp only [rm_least, c_1, rm_cl hxn, ↓reduceIte, Bool.false_eq_true]; rw [← hz42]; done) | (rw [← hz42]; simp only [rm_lwL, ↓reduceIte, Bool.false_eq_true]; done) | (rw [← hz42]; simp only [rm_lwL, ↓reduceIte, Bool.false_eq_true]; with_reducible rfl) | (rw [← hz42]; simp only [rm_lwL, ↓reduceIte, Bool.false_eq_true]; rfl) | with_reducible exact hz6 | (rw [← hz6]; done) | (rw [← hz6]; exact bI_f.symm) | (simp only [rm_least, c_1, rm_cl hxn, ↓reduceIte, Bool.false_eq_true]; rw [← hz6]; done) | (rw [← hz6]; simp only [rm_wayI, ↓reduceIte, Bool.false_eq_true]; done) | (rw [← hz6]; simp only [rm_wayI, ↓reduceIte, Bool.false_eq_true]; with_reducible rfl) | (rw [← hz6]; simp only [rm_wayI, ↓reduceIte, Bool.false_eq_true]; rfl) | (simp only [rm_least, c_1, rm_cl hxn, ↓reduceIte, Bool.false_eq_true]; done) | (simp only [rm_least, c_1, rm_cl hxn, ↓reduceIte, Bool.false_eq_true]; with_reducible rfl), by first | with_reducible rfl | with_reducible exact hz42 | (rw [← hz42]; done) | (rw [← hz42]; exact bI_f.symm) | (simp only [rm_least, c_1, rm_cl hxn, ↓reduceIte, Bool.false_eq_true]; rw [← hz42]; done) | (rw [← hz42]; simp only [rm_lwL, ↓reduceIte, Bool.false_eq_true]; done) | (rw [← hz42]; simp only [rm_lwL, ↓reduceIte, Bool.false_eq_true]; with_reducible rfl) | (rw [← hz42]; simp only [rm_lwL, ↓reduceIte, Bool.false_eq_true]; rfl) | with_reducible exact hz6 | (rw [← hz6]; done) | (rw [← hz6]; exact bI_f.symm) | (simp only [rm_least, c_1, rm_cl hxn, ↓reduceIte, Bool.false_eq_true]; rw [← hz6]; done) | (rw [← hz6]; simp only [rm_wayI, ↓reduceIte, Bool.false_eq_true]; done) | (rw [← hz6]; simp only [rm_wayI, ↓reduceIte, Bool.false_eq_true]; with_reducible rfl) | (rw [← hz6]; simp only [rm_wayI, ↓reduceIte, Bool.false_eq_true]; rfl) | (simp only [rm_least, c_1, rm_cl hxn, ↓reduceIte, Bool.false_eq_true]; done) | (simp only [rm_least, c_1, rm_cl hxn, ↓reduceIte, Bool.false_eq_true]; with_reducible rfl)⟩
            · exact absurd (show (10 : Int32) ≤ nI 10 from nI_le (a := 10) (b := 10) (Nat.le_refl _) (by decide)) c_45
          | succ r ih42 =>
            intro t hi42 τ42 ht42 H locs hw ls hl
            have hlt42 : t < 10 := by omega
            refine lv_iload_n hx hb dX0_leastRank_42 rfl (lv_at hl 2 rfl) ?_
            refine lv_bipush (v := 10) hx hb dX0_leastRank_43 (by decide) ?_
            refine lv_icmp_ge (tgt := 58) hx hb dX0_leastRank_45 (by decide) (fun c_45 => ?_) (fun c_45 => ?_)
            · exact absurd c_45 (nI_ge (a := t) (b := 10) hlt42 (by decide))
            · skip
              refine lv_aload_n hx hb dX0_leastRank_48 rfl (lv_at hl 0 rfl) ?_
              refine rm_callV C hw hA (As := []) (rest := []) (kX0_lowerWayCosts l k a ha τ42 ) (cwV 0 hts gX0_leastRank_X0_lowerWayCosts rfl rfl rfl (by decide +kernel) ⟨Nat.le_of_ble_eq_true rfl, Nat.le_of_ble_eq_true rfl⟩) rfl hl.1 rfl (lv_room (Nat.le_of_ble_eq_true rfl)) dX0_leastRank_49 ⟨Nat.le_of_ble_eq_true rfl, Nat.le_of_ble_eq_true rfl⟩ (fun H locs hw => ?_)
              refine lv_iinc (v := nI (t + 1)) (lv' := [(2, .int (nI (t + 1))), (0, .ref (a 0)), (1, .int (nI xn))]) hx hb dX0_leastRank_52 hl (k := 2) rfl (rm_inc t) (by decide) rfl (fun ls hl => ?_)
              refine lv_goto (tgt := 42) hx hb dX0_leastRank_55 (by decide) ?_
              exact ih42 (t + 1) (by omega) (rm_lower τ42) (by refine Eq.trans ?_ ht42; first | with_reducible rfl | (simp only [rm_lwL, ↓reduceIte, Bool.false_eq_true]; done) | (simp only [rm_lwL, ↓reduceIte, Bool.false_eq_true]; rw [← hz6]) | (simp only [rm_lwL, ↓reduceIte, Bool.false_eq_true]; with_reducible rfl)) _ _ hw _ (lv_sub hl [1, 2, 0] rfl)
        exact lp_42 9 1 (by omega) (τ6) (by first | with_reducible rfl | (unfold rm_least; with_reducible rfl) | (simp only [rm_least, c_1, rm_cl hxn, ↓reduceIte, Bool.false_eq_true]; done) | (simp only [rm_least, c_1, rm_cl hxn, ↓reduceIte, Bool.false_eq_true]; with_reducible rfl) | (rw [← hz6])) _ _ hw _ (lv_sub hl [1, 2, 0] rfl)
      · exact absurd (show (10 : Int32) ≤ nI 10 from nI_le (a := 10) (b := 10) (Nat.le_refl _) (by decide)) c_9
    | succ r ih6 =>
      intro i hi6 τ6 ht6 H locs hw ls hl
      have hlt6 : i < 10 := by omega
      refine lv_iload_n hx hb dX0_leastRank_6 rfl (lv_at hl 2 rfl) ?_
      refine lv_bipush (v := 10) hx hb dX0_leastRank_7 (by decide) ?_
      refine lv_icmp_ge (tgt := 40) hx hb dX0_leastRank_9 (by decide) (fun c_9 => ?_) (fun c_9 => ?_)
      · exact absurd c_9 (nI_ge (a := i) (b := 10) hlt6 (by decide))
      · skip
        refine lv_aload_n hx hb dX0_leastRank_12 rfl (lv_at hl 0 rfl) ?_
        refine rm_geta C hw 19 14 (by decide) rfl (hts _ (by decide +kernel)) rfl dX0_leastRank_13 ?_
        refine lv_iload_n hx hb dX0_leastRank_16 rfl (lv_at hl 2 rfl) ?_
        refine lv_aload_n hx hb dX0_leastRank_17 rfl (lv_at hl 0 rfl) ?_
        refine rm_geta C hw 10 5 (by decide) rfl (hts _ (by decide +kernel)) rfl dX0_leastRank_18 ?_
        refine lv_iload_n hx hb dX0_leastRank_21 rfl (lv_at hl 2 rfl) ?_
        refine rm_zald C hw hlt6 dX0_leastRank_22 ?_
        refine lv_if_eq (tgt := 30) hx hb dX0_leastRank_23 (by decide) (fun c_23 => ?_) (fun c_23 => ?_)
        · skip
          refine lv_sipush (v := 10000) hx hb dX0_leastRank_30 (by decide) ?_
          refine rm_iast C hw (by decide) hlt6 dX0_leastRank_33 (fun H locs hw => ?_)
          refine lv_iinc (v := nI (i + 1)) (lv' := [(2, .int (nI (i + 1))), (0, .ref (a 0)), (1, .int (nI xn))]) hx hb dX0_leastRank_34 hl (k := 2) rfl (rm_inc i) (by decide) rfl (fun ls hl => ?_)
          refine lv_goto (tgt := 6) hx hb dX0_leastRank_37 (by decide) ?_
          exact ih6 (i + 1) (by omega) (rm_up τ6 14 i (10000)) (by refine Eq.trans ?_ ht6; first | with_reducible rfl | (simp only [rm_wayI, if_pos c_23, ↓reduceIte, Bool.false_eq_true]; done) | (simp only [rm_wayI, if_pos c_23, ↓reduceIte, Bool.false_eq_true]; with_reducible rfl)) _ _ hw _ (lv_sub hl [1, 2, 0] rfl)
        · skip
          refine lv_iconst (v := 0) hx hb dX0_leastRank_26 (by decide) ?_
          refine lv_goto (tgt := 33) hx hb dX0_leastRank_27 (by decide) ?_
          refine rm_iast C hw (by decide) hlt6 dX0_leastRank_33 (fun H locs hw => ?_)
          refine lv_iinc (v := nI (i + 1)) (lv' := [(2, .int (nI (i + 1))), (0, .ref (a 0)), (1, .int (nI xn))]) hx hb dX0_leastRank_34 hl (k := 2) rfl (rm_inc i) (by decide) rfl (fun ls hl => ?_)
          refine lv_goto (tgt := 6) hx hb dX0_leastRank_37 (by decide) ?_
          exact ih6 (i + 1) (by omega) (rm_up τ6 14 i (0)) (by refine Eq.trans ?_ ht6; first | with_reducible rfl | (simp only [rm_wayI, if_neg c_23, ↓reduceIte, Bool.false_eq_true]; done) | (simp only [rm_wayI, if_neg c_23, ↓reduceIte, Bool.false_eq_true]; with_reducible rfl)) _ _ hw _ (lv_sub hl [1, 2, 0] rfl)
  exact lp_6 10 0 (by omega) (σ) (by first | with_reducible rfl | (unfold rm_least; with_reducible rfl) | (simp only [rm_least, c_1, rm_cl hxn, ↓reduceIte, Bool.false_eq_true]; done) | (simp only [rm_least, c_1, rm_cl hxn, ↓reduceIte, Bool.false_eq_true]; with_reducible rfl)) _ _ hw _ (lv_sub hl [1, 2, 0] rfl)
set_option maxHeartbeats 4000000 in
set_option maxRecDepth 100000 in
theorem kX0_below (l : Launch) (hfl : l.stackTraces = false) (k : rm_K) (a : Nat → Nat) (ha : rm_inj a) (σ : rm_St) (x : Int32) : rm_XI l k a yX0_below wsX0_below ({ frames := 7, cells := 1, slots := 6, locals := 110 }) [.int x] σ (rm_tN x) (rm_below σ x) σ := by
  refine rm_enterXI (cc := cX0_below) (nL := 4) (ret := (some .int)) ha (by decide) rfl rfl (by decide +kernel) (Nat.le_of_ble_eq_true rfl) ?_
  intro p e s m args below meth c ls C hr hlocks htab hTh hw hl
  have hx := C.1.1
  have hb := C.1.2.1
  have hts := C.1.2.2.2.2
  have hA : ∀ q, s.heap.size ≤ q → rm_A a s.heap.size q := fun q h => Or.inr h
  replace hl : lv_has ls 4 [(0, .ref (a 0)), (1, .int x)] := hl
  refine lv_iload_n hx hb dX0_below_0 rfl (lv_at hl 1 rfl) ?_
  refine rm_callXS C hlocks htab hTh hw (As := [.int x]) (rest := []) (kX0_requireNode l hfl (x)) (va_cwS 1 hts gX0_below_X0_requireNode rfl rfl rfl (by decide +kernel) ⟨Nat.le_of_ble_eq_true rfl, Nat.le_of_ble_eq_true rfl⟩) rfl hl.1 rfl (lv_room (Nat.le_of_ble_eq_true rfl)) dX0_below_1 ⟨Nat.le_of_ble_eq_true rfl, Nat.le_of_ble_eq_true rfl⟩ (Nat.le_of_ble_eq_true rfl) (Nat.le_of_ble_eq_true rfl) (fun E hE => by simp only [hE, rm_or_n, rm_or_s, ↓reduceIte, Bool.false_eq_true]) (fun c_1 H locs hw => ?_)
  obtain ⟨xn, hxn, rfl⟩ := rm_tN_none c_1
  refine lv_iconst (v := 1) hx hb dX0_below_4 (by decide) ?_
  refine lv_iload_n hx hb dX0_below_5 rfl (lv_at hl 1 rfl) ?_
  refine lv_ishl hx hb dX0_below_6 ?_
  refine lv_istore_n (lv' := [(2, .int ((1) <<< ((nI xn) &&& 31))), (0, .ref (a 0)), (1, .int (nI xn))]) hx hb dX0_below_7 rfl hl (by decide) rfl (fun ls hl => ?_)
  refine lv_iconst (v := 1) hx hb dX0_below_8 (by decide) ?_
  refine lv_istore_n (lv' := [(3, .int 1), (2, .int ((1) <<< ((nI xn) &&& 31))), (0, .ref (a 0)), (1, .int (nI xn))]) hx hb dX0_below_9 rfl hl (by decide) rfl (fun ls hl => ?_)
  have lp_10 : ∀ (r t : Nat), t + r = 10 → ∀ (x2 : Int32), rm_blL σ r t x2 = rm_below σ (nI xn) → ∀ (H : Heap) (locs : List Loc), rm_Wd k a (rm_A a s.heap.size) s.heap s σ H locs → ∀ (ls : Array Slot), lv_has ls 4 [(0, .ref (a 0)), (1, .int (nI xn)), (2, .int x2), (3, .int (nI t))] → W p l e (headSpec wsX0_below ({ frames := 7, cells := 1, slots := 6, locals := 110 })).room s m args below meth c H locs 1 6 (vx_MQ below (va_Qi (fun (r : Int32) (τ : rm_St) => (rm_tN (nI xn)) = none ∧ r = (rm_below σ (nI xn)) ∧ τ = σ) (fun τ t => rm_P k a τ t) (rm_A a s.heap.size)) (rm_XC k a σ (rm_tN (nI xn)) (rm_A a s.heap.size)) args s 1 6 (rm_A a s.heap.size)) (F0 m 10 ls []) := by
    intro r
    induction r with
    | zero =>
      intro t hi10 x2 ht10 H locs hw ls hl
      obtain rfl : 10 = t := by omega
      have hz10 : x2 = rm_below σ (nI xn) := ht10
      refine lv_iload_n hx hb dX0_below_10 rfl (lv_at hl 3 rfl) ?_
      refine lv_bipush (v := 10) hx hb dX0_below_11 (by decide) ?_
      refine lv_icmp_ge (tgt := 30) hx hb dX0_below_13 (by decide) (fun c_13 => ?_) (fun c_13 => ?_)
      · skip
        refine lv_iload_n hx hb dX0_below_30 rfl (lv_at hl 2 rfl) ?_
        exact rm_xret C hr hlocks hw (Nat.le_of_ble_eq_true rfl) (Nat.le_of_ble_eq_true rfl) dX0_below_31 ⟨by first | (simp only [c_1, rm_cl hxn, ↓reduceIte, Bool.false_eq_true, rm_or_n, rm_or_s]; done) | (simp only [c_1, rm_cl hxn, ↓reduceIte, Bool.false_eq_true, rm_or_n, rm_or_s]; rfl), by first | with_reducible rfl | with_reducible exact hz10 | (rw [← hz10]; done) | (rw [← hz10]; exact bI_f.symm) | (simp only [rm_below, c_1, rm_cl hxn, ↓reduceIte, Bool.false_eq_true]; rw [← hz10]; done) | (rw [← hz10]; simp only [rm_blL, ↓reduceIte, Bool.false_eq_true]; done) | (rw [← hz10]; simp only [rm_blL, ↓reduceIte, Bool.false_eq_true]; with_reducible rfl) | (rw [← hz10]; simp only [rm_blL, ↓reduceIte, Bool.false_eq_true]; rfl) | (simp only [rm_below, c_1, rm_cl hxn, ↓reduceIte, Bool.false_eq_true]; done) | (simp only [rm_below, c_1, rm_cl hxn, ↓reduceIte, Bool.false_eq_true]; with_reducible rfl), by first | with_reducible rfl | with_reducible exact hz10 | (rw [← hz10]; done) | (rw [← hz10]; exact bI_f.symm) | (simp only [rm_below, c_1, rm_cl hxn, ↓reduceIte, Bool.false_eq_true]; rw [← hz10]; done) | (rw [← hz10]; simp only [rm_blL, ↓reduceIte, Bool.false_eq_true]; done) | (rw [← hz10]; simp only [rm_blL, ↓reduceIte, Bool.false_eq_true]; with_reducible rfl) | (rw [← hz10]; simp only [rm_blL, ↓reduceIte, Bool.false_eq_true]; rfl) | (simp only [rm_below, c_1, rm_cl hxn, ↓reduceIte, Bool.false_eq_true]; done) | (simp only [rm_below, c_1, rm_cl hxn, ↓reduceIte, Bool.false_eq_true]; with_reducible rfl)⟩
      · exact absurd (show (10 : Int32) ≤ nI 10 from nI_le (a := 10) (b := 10) (Nat.le_refl _) (by decide)) c_13
    | succ r ih10 =>
      intro t hi10 x2 ht10 H locs hw ls hl
      have hlt10 : t < 10 := by omega
      refine lv_iload_n hx hb dX0_below_10 rfl (lv_at hl 3 rfl) ?_
      refine lv_bipush (v := 10) hx hb dX0_below_11 (by decide) ?_
      refine lv_icmp_ge (tgt := 30) hx hb dX0_below_13 (by decide) (fun c_13 => ?_) (fun c_13 => ?_)
      · exact absurd c_13 (nI_ge (a := t) (b := 10) hlt10 (by decide))
      · skip
        refine lv_iload_n hx hb dX0_below_16 rfl (lv_at hl 2 rfl) ?_
        refine lv_aload_n hx hb dX0_below_17 rfl (lv_at hl 0 rfl) ?_
        refine lv_iload_n hx hb dX0_below_18 rfl (lv_at hl 2 rfl) ?_
        refine rm_callI C hw hA (As := [.int x2]) (rest := [.int x2]) (kX0_childrenOf l k a ha σ (x2)) (cwV 1 hts gX0_below_X0_childrenOf rfl rfl rfl (by decide +kernel) ⟨Nat.le_of_ble_eq_true rfl, Nat.le_of_ble_eq_true rfl⟩) rfl hl.1 rfl (lv_room (Nat.le_of_ble_eq_true rfl)) dX0_below_19 ⟨Nat.le_of_ble_eq_true rfl, Nat.le_of_ble_eq_true rfl⟩ (fun H locs hw => ?_)
        refine lv_ior hx hb dX0_below_22 ?_
        refine lv_istore_n (lv' := [(2, .int ((x2) ||| (rm_ch σ (x2)))), (0, .ref (a 0)), (1, .int (nI xn)), (3, .int (nI t))]) hx hb dX0_below_23 rfl hl (by decide) rfl (fun ls hl => ?_)
        refine lv_iinc (v := nI (t + 1)) (lv' := [(3, .int (nI (t + 1))), (2, .int ((x2) ||| (rm_ch σ (x2)))), (0, .ref (a 0)), (1, .int (nI xn))]) hx hb dX0_below_24 hl (k := 3) rfl (rm_inc t) (by decide) rfl (fun ls hl => ?_)
        refine lv_goto (tgt := 10) hx hb dX0_below_27 (by decide) ?_
        exact ih10 (t + 1) (by omega) ((x2) ||| (rm_ch σ (x2))) (by refine Eq.trans ?_ ht10; first | with_reducible rfl | (simp only [rm_blL, ↓reduceIte, Bool.false_eq_true]; done) | (simp only [rm_blL, ↓reduceIte, Bool.false_eq_true]; with_reducible rfl)) _ _ hw _ (lv_sub hl [2, 3, 1, 0] rfl)
  exact lp_10 9 1 (by omega) ((1) <<< ((nI xn) &&& 31)) (by first | with_reducible rfl | (unfold rm_below; with_reducible rfl) | (simp only [rm_below, c_1, rm_cl hxn, ↓reduceIte, Bool.false_eq_true]; done) | (simp only [rm_below, c_1, rm_cl hxn, ↓reduceIte, Bool.false_eq_true]; with_reducible rfl)) _ _ hw _ (lv_sub hl [2, 3, 1, 0] rfl)

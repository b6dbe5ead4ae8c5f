theorem rq_cnt_none {p : Nat → Bool} : ∀ r, (∀ i, i < r → ¬ p i = true) → rq_cnt p r = 0 := by
  intro r
  induction r with
  | zero => intro _; rfl
  | succ r ih =>
    intro h
    rw [rq_cnt_s, ih (fun i hi => h i (by omega)), if_neg (h r (by omega))]
theorem rm_pass1 {σ : rm_St} : rm_pass σ (nI 1) = ((rm_tick σ).1, (rm_tick σ).2) := by
  unfold rm_pass
  rw [nI_clamp (by decide), rm_passL, rm_passL, Int32.zero_add]
set_option maxHeartbeats 4000000 in
set_option maxRecDepth 100000 in
theorem jL_isTick (l : Launch) (hfl : l.stackTraces = false) (k : rm_K) (a q : Nat → Nat) (hsep : lz_sep a q) (σ θ : rm_St) {K B : Nat} (hI : lz_I K B σ θ) (hB2 : B ≤ 2900) : lz_M l k a q (fun _ => True) yL_isTick wsL_isTick ({ frames := 8, cells := 30, slots := 180, locals := 200 }) [.ref (a 0), .ref (q 0), .ref (q 2)] σ θ (fun r σ1 θ1 => r = 1 ∧ lz_I K (B + 1) σ1 θ1) := by
  refine lz_enter (cc := cL_isTick) (nL := 9) (ret := some .boolean) hsep (by decide) rfl rfl (Nat.le_of_ble_eq_true rfl) ?_
  intro p e s m args below meth c ls CF hr hlocks hTh hN hX hw hl
  have hx := CF.1
  have hb := CF.2.1
  have hts := CF.2.2.2.2
  have hA : ∀ x, s.heap.size ≤ x → lz_A a q s.heap.size x := fun x h => Or.inl (Or.inr h)
  replace hl : lv_has ls 9 [(0, .ref (a 0)), (1, .ref (q 0)), (2, .ref (q 2))] := hl
  have hI0 := hI
  obtain ⟨hM, hNn, hT, ⟨hLc, hLt, hL4, hL2, hL5⟩, hB⟩ := hI
  have hcl := rq_cnt_le (p := iv_due σ)
  have hdue : ∀ j, iv_due σ j = true ↔ σ 13 j = θ 2 0 + 1 := fun j => by
    unfold iv_due
    rw [decide_eq_true_eq, hL4]
  obtain ⟨c1, e1, e2, hI2, e3⟩ := lz_tick hI0 hB2
  have hLc2 : ∀ i j, i < 10 → j < 10 → lz_c (rm_up θ 2 0 (θ 2 0 + 1)) i j = σ (15 + i) j := fun i j hi hj => by
    rw [← hLc i j hi hj]
    unfold lz_c
    rw [rm_up_k (by decide)]
  have hbd : ∀ z, z ≤ rq_cnt (iv_due σ) 10 → z < 2 ^ 31 := fun z hz => by have := hcl 10; omega
  have big : ∀ (f : Nat) (rk : Int32) (_ : 8 ≤ f) (_ : f ≤ 10) (H : Heap) (locs : List Loc) (ls : Array Slot) (cells slots : Nat), lz_Wd k a q (lz_A a q s.heap.size) s.heap s ((rm_tick σ).1) (rm_up θ 2 0 (θ 2 0 + 1)) H locs → lv_has ls 9 [(0, .ref (a 0)), (1, .ref (q 0)), (2, .ref (q 2)), (4, .int (nI f)), (5, .int rk), (7, .int 1), (8, .int (nI 0))] → cells ≤ 14 → slots ≤ 6 * (14) → W p l e (headSpec wsL_isTick ({ frames := 8, cells := 30, slots := 180, locals := 200 })).room s m args below meth c H locs cells slots (MQ below (va_Qi (fun (r : Int32) (u : rm_St × rm_St) => (fun r σ1 θ1 => r = 1 ∧ lz_I K (B + 1) σ1 θ1) r u.1 u.2) (fun u t => lz_P k a q u.1 u.2 t) (lz_A a q s.heap.size)) args s 30 180 (lz_A a q s.heap.size)) (F0 m 143 ls []) := by
    intro f rk hf8 hf10 H locs ls cells slots hw hl hc hs
    refine lv_iload hx hb dL_isTick_143 (lv_at hl 6 rfl) ?_
    refine lv_bipush (v := 8) hx hb dL_isTick_145 (by decide) ?_
    refine lv_icmp_ge (tgt := 199) hx hb dL_isTick_147 (by decide) (fun c_147 => absurd c_147 (nI_ge (a := 0) (b := 8) (by decide) (by decide))) (fun c_147 => ?_)
    refine lv_iload hx hb dL_isTick_150 (lv_at hl 3 rfl) ?_
    refine lv_bipush (v := 8) hx hb dL_isTick_152 (by decide) ?_
    refine lv_icmp_ge (tgt := 199) hx hb dL_isTick_154 (by decide) (fun c_154 => ?_) (fun c_154 => absurd (nI_le (a := 8) (b := f) hf8 (by omega)) c_154)
    refine lv_iload hx hb dL_isTick_199 (lv_at hl 5 rfl) ?_
    exact lz_zret (post := (fun r σ1 θ1 => r = 1 ∧ lz_I K (B + 1) σ1 θ1)) CF hr hlocks hw (by show cells ≤ 30; omega) (by show slots ≤ 180; omega) dL_isTick_201 ⟨rfl, hI2⟩
  have sml : ∀ (f : Nat) (_ : f < 8) (_ : ∀ k2, k2 < 10 → 0 < (σ (15 + f) k2).toInt → (rm_tick σ).1 (45 + k2) f = σ 9 f) (r j : Nat), j + r = 8 → ∀ (H : Heap) (locs : List Loc) (ls : Array Slot) (cells slots : Nat), lz_Wd k a q (lz_A a q s.heap.size) s.heap s (rm_tick σ).1 (rm_up θ 2 0 (θ 2 0 + 1)) H locs → lv_has ls 9 [(0, .ref (a 0)), (1, .ref (q 0)), (2, .ref (q 2)), (4, .int (nI f)), (5, .int (σ 9 f)), (7, .int 1), (8, .int (nI j))] → cells ≤ 14 + 2 * j → slots ≤ 84 + 12 * j → W p l e (headSpec wsL_isTick ({ frames := 8, cells := 30, slots := 180, locals := 200 })).room s m args below meth c H locs cells slots (MQ below (va_Qi (fun (r : Int32) (u : rm_St × rm_St) => (fun r σ1 θ1 => r = 1 ∧ lz_I K (B + 1) σ1 θ1) r u.1 u.2) (fun u t => lz_P k a q u.1 u.2 t) (lz_A a q s.heap.size)) args s 30 180 (lz_A a q s.heap.size)) (F0 m 143 ls []) := by
    intro f hf hh r
    induction r with
    | zero =>
      intro j hj H locs ls cells slots hw hl hc hs
      obtain rfl : j = 8 := by omega
      refine lv_iload hx hb dL_isTick_143 (lv_at hl 6 rfl) ?_
      refine lv_bipush (v := 8) hx hb dL_isTick_145 (by decide) ?_
      refine lv_icmp_ge (tgt := 199) hx hb dL_isTick_147 (by decide) (fun c_147 => ?_) (fun c_147 => absurd (nI_le (a := 8) (b := 8) (Nat.le_refl _) (by decide)) c_147)
      refine lv_iload hx hb dL_isTick_199 (lv_at hl 5 rfl) ?_
      exact lz_zret (post := (fun r σ1 θ1 => r = 1 ∧ lz_I K (B + 1) σ1 θ1)) CF hr hlocks hw (by show cells ≤ 30; omega) (by show slots ≤ 180; omega) dL_isTick_201 ⟨rfl, hI2⟩
    | succ r ih =>
      intro j hj H locs ls cells slots hw hl hc hs
      have hj8 : j < 8 := by omega
      refine lv_iload hx hb dL_isTick_143 (lv_at hl 6 rfl) ?_
      refine lv_bipush (v := 8) hx hb dL_isTick_145 (by decide) ?_
      refine lv_icmp_ge (tgt := 199) hx hb dL_isTick_147 (by decide) (fun c_147 => absurd c_147 (nI_ge (a := j) (b := 8) hj8 (by decide))) (fun c_147 => ?_)
      refine lv_iload hx hb dL_isTick_150 (lv_at hl 3 rfl) ?_
      refine lv_bipush (v := 8) hx hb dL_isTick_152 (by decide) ?_
      refine lv_icmp_ge (tgt := 199) hx hb dL_isTick_154 (by decide) (fun c_154 => absurd c_154 (nI_ge (a := f) (b := 8) hf (by decide))) (fun c_154 => ?_)
      refine lv_iload hx hb dL_isTick_157 (lv_at hl 5 rfl) ?_
      refine lv_if_eq (tgt := 199) hx hb dL_isTick_159 (by decide) (fun c_159 => absurd c_159 (by decide)) (fun c_159 => ?_)
      refine lv_aload_n hx hb dL_isTick_162 rfl (lv_at hl 1 rfl) ?_
      refine lv_iload hx hb dL_isTick_163 (lv_at hl 3 rfl) ?_
      refine lv_iload hx hb dL_isTick_165 (lv_at hl 6 rfl) ?_
      refine lz_callC CF hw (As := [.ref (q 0), .int (nI f), .int (nI j)]) (rest := []) (jL_cost l k q (rm_up θ 2 0 (θ 2 0 + 1)) f j (by omega) (by omega) _ (hLc2 f j (by omega) (by omega))) (va_cwS 3 hts gL_isTick_L_cost rfl rfl rfl (by decide +kernel) ⟨Nat.le_of_ble_eq_true rfl, Nat.le_of_ble_eq_true rfl⟩) rfl hl.1 rfl (lv_room (Nat.le_of_ble_eq_true rfl)) dL_isTick_167 ⟨by show cells ≤ 30; omega, by show slots ≤ 180; omega⟩ (fun H locs hw => ?_)
      refine lv_if_eq (tgt := 186) hx hb dL_isTick_170 (by decide) (fun c_170 => ?_) (fun c_170 => ?_)
      · skip
        refine lv_iconst (v := 1) hx hb dL_isTick_186 (by decide) ?_
        refine lv_goto (tgt := 191) hx hb dL_isTick_187 (by decide) ?_
        refine lv_istore (lv' := [(7, .int 1), (0, .ref (a 0)), (1, .ref (q 0)), (2, .ref (q 2)), (4, .int (nI f)), (5, .int (σ 9 f)), (8, .int (nI j))]) hx hb dL_isTick_191 hl (by decide) rfl (fun ls hl => ?_)
        refine lv_iinc (v := nI (j + 1)) (lv' := [(8, .int (nI (j + 1))), (7, .int 1), (0, .ref (a 0)), (1, .ref (q 0)), (2, .ref (q 2)), (4, .int (nI f)), (5, .int (σ 9 f))]) hx hb dL_isTick_193 hl (k := 6) rfl (rm_inc j) (by decide) rfl (fun ls hl => ?_)
        refine lv_goto (tgt := 143) hx hb dL_isTick_196 (by decide) ?_
        exact ih (j + 1) (by omega) H _ _ _ _ hw (lv_sub hl [2, 3, 4, 5, 6, 1, 0] rfl) (by show cells ≤ _; omega) (by show slots ≤ _; omega)
      · skip
        refine lv_aload_n hx hb dL_isTick_173 rfl (lv_at hl 0 rfl) ?_
        refine lv_iload hx hb dL_isTick_174 (lv_at hl 6 rfl) ?_
        refine lv_iload hx hb dL_isTick_176 (lv_at hl 3 rfl) ?_
        refine lz_callI CF hTh hA hw (As := [.int (nI j), .int (nI f)]) (rest := []) (lk_heard l k a ((rm_tick σ).1) hfl hsep.1 (show j < 10 by omega) (show f < 10 by omega) (hh j (by omega) (by have := (hM.2.1 f j (by omega) (by omega)).1; have h9 : ¬ (σ (15 + f) j).toInt = 0 := fun z => c_170 (Int32.toInt_inj.mp z); omega))) (cwV 2 hts gL_isTick_X0_heard rfl rfl rfl (by decide +kernel) ⟨Nat.le_of_ble_eq_true rfl, Nat.le_of_ble_eq_true rfl⟩) rfl hl.1 rfl (lv_room (Nat.le_of_ble_eq_true rfl)) dL_isTick_178 ⟨by show cells + 2 ≤ 30; omega, by show slots + 12 ≤ 180; omega⟩ (fun H locs hw => ?_)
        refine lv_iload hx hb dL_isTick_181 (lv_at hl 4 rfl) ?_
        refine lv_icmp_ne (tgt := 190) hx hb dL_isTick_183 (by decide) (fun c_183 => absurd rfl c_183) (fun c_183 => ?_)
        refine lv_iconst (v := 1) hx hb dL_isTick_186 (by decide) ?_
        refine lv_goto (tgt := 191) hx hb dL_isTick_187 (by decide) ?_
        refine lv_istore (lv' := [(7, .int 1), (0, .ref (a 0)), (1, .ref (q 0)), (2, .ref (q 2)), (4, .int (nI f)), (5, .int (σ 9 f)), (8, .int (nI j))]) hx hb dL_isTick_191 hl (by decide) rfl (fun ls hl => ?_)
        refine lv_iinc (v := nI (j + 1)) (lv' := [(8, .int (nI (j + 1))), (7, .int 1), (0, .ref (a 0)), (1, .ref (q 0)), (2, .ref (q 2)), (4, .int (nI f)), (5, .int (σ 9 f))]) hx hb dL_isTick_193 hl (k := 6) rfl (rm_inc j) (by decide) rfl (fun ls hl => ?_)
        refine lv_goto (tgt := 143) hx hb dL_isTick_196 (by decide) ?_
        exact ih (j + 1) (by omega) H _ _ _ _ hw (lv_sub hl [2, 3, 4, 5, 6, 1, 0] rfl) (by show cells + 2 ≤ _; omega) (by show slots + 12 ≤ _; omega)
  have lp : ∀ (r i : Nat), i + r = 10 → ∀ (f : Nat) (_ : (f = 10 ∧ ∀ j, j < i → ¬ iv_due σ j = true) ∨ (f < i ∧ iv_due σ f = true ∧ ∀ j, j < f → ¬ iv_due σ j = true)) (H : Heap) (locs : List Loc) (ls : Array Slot) (cells slots : Nat), lz_Wd k a q (lz_A a q s.heap.size) s.heap s σ θ H locs → lv_has ls 9 [(0, .ref (a 0)), (1, .ref (q 0)), (2, .ref (q 2)), (3, .int (nI (rq_cnt (iv_due σ) i))), (4, .int (nI f)), (5, .int (nI i))] → cells ≤ i → slots ≤ 6 * i → W p l e (headSpec wsL_isTick ({ frames := 8, cells := 30, slots := 180, locals := 200 })).room s m args below meth c H locs cells slots (MQ below (va_Qi (fun (r : Int32) (u : rm_St × rm_St) => (fun r σ1 θ1 => r = 1 ∧ lz_I K (B + 1) σ1 θ1) r u.1 u.2) (fun u t => lz_P k a q u.1 u.2 t) (lz_A a q s.heap.size)) args s 30 180 (lz_A a q s.heap.size)) (F0 m 9 ls []) := by
    intro r
    induction r with
    | zero =>
      intro i hi f hf H locs ls cells slots hw hl hc hs
      obtain rfl : i = 10 := by omega
      rcases hf with ⟨rfl, hf⟩ | ⟨hf1, hf2, hf3⟩
      · have h0 := rq_cnt_none 10 hf
        have hc1 : c1 = 0 := by omega
        refine lv_iload hx hb dL_isTick_9 (lv_at hl 5 rfl) ?_
        refine lv_bipush (v := 10) hx hb dL_isTick_11 (by decide) ?_
        refine lv_icmp_ge (tgt := 77) hx hb dL_isTick_13 (by decide) (fun c_13 => ?_) (fun c_13 => absurd (nI_le (a := 10) (b := 10) (Nat.le_refl _) (by decide)) c_13)
        refine lv_aload_n hx hb dL_isTick_77 rfl (lv_at hl 2 rfl) ?_
        refine lv_iconst (v := 0) hx hb dL_isTick_78 (by decide) ?_
        refine lv_dup2_11 hx hb dL_isTick_79 rfl rfl ?_
        refine lz_iald CF hw 2 (j := 0) (by decide) (by show _ < 3; omega) dL_isTick_80 ?_
        refine lv_iconst (v := 1) hx hb dL_isTick_81 (by decide) ?_
        refine lv_iadd hx hb dL_isTick_82 ?_
        refine lz_iast CF hw 2 (j := 0) (by decide) (by show _ < 3; omega) dL_isTick_83 (fun H locs hw => ?_)
        refine lv_iload hx hb dL_isTick_84 (lv_at hl 4 rfl) ?_
        refine lv_bipush (v := 10) hx hb dL_isTick_86 (by decide) ?_
        refine lv_icmp_ge (tgt := 100) hx hb dL_isTick_88 (by decide) (fun c_88 => ?_) (fun c_88 => absurd (nI_le (a := 10) (b := 10) (Nat.le_refl _) (by decide)) c_88)
        refine lv_iconst (v := 0) hx hb dL_isTick_100 (by decide) ?_
        refine lv_istore (lv' := [(5, .int 0), (0, .ref (a 0)), (1, .ref (q 0)), (2, .ref (q 2)), (3, .int (nI (rq_cnt (iv_due σ) 10))), (4, .int (nI 10))]) hx hb dL_isTick_101 hl (by decide) rfl (fun ls hl => ?_)
        refine lv_aload_n hx hb dL_isTick_103 rfl (lv_at hl 1 rfl) ?_
        refine lv_iconst (v := 1) hx hb dL_isTick_104 (by decide) ?_
        refine lz_callI CF hTh hA hw (As := [.int 1]) (rest := []) (lk_pass (n := 1) (r0 := nI c1) l k a σ hfl hsep.1 (by decide) (by decide) (by rw [rm_pass1]; exact e1)) (cwV 1 hts gL_isTick_X0_pass rfl rfl rfl (by decide +kernel) ⟨Nat.le_of_ble_eq_true rfl, Nat.le_of_ble_eq_true rfl⟩) rfl hl.1 rfl (lv_room (Nat.le_of_ble_eq_true rfl)) dL_isTick_105 ⟨by show cells + 1 ≤ 30; omega, by show slots + 6 ≤ 180; omega⟩ (fun H locs hw => ?_)
        rw [rm_pass1] at hw
        replace hw : lz_Wd k a q (lz_A a q s.heap.size) s.heap s (rm_tick σ).1 (rm_up θ 2 0 (θ 2 0 + 1)) H locs := hw
        refine lv_istore (lv' := [(6, .int (nI c1)), (5, .int 0), (0, .ref (a 0)), (1, .ref (q 0)), (2, .ref (q 2)), (3, .int (nI (rq_cnt (iv_due σ) 10))), (4, .int (nI 10))]) hx hb dL_isTick_108 hl (by decide) rfl (fun ls hl => ?_)
        refine lv_iload hx hb dL_isTick_110 (lv_at hl 0 rfl) ?_
        refine lv_iload_n hx hb dL_isTick_112 rfl (lv_at hl 5 rfl) ?_
        refine lv_icmp_gt (tgt := 137) hx hb dL_isTick_113 (by decide) (fun c_113 => absurd c_113 (nI_nlt (a := rq_cnt (iv_due σ) 10) (b := c1) e2 (by have := hcl 10; omega))) (fun c_113 => ?_)
        refine lv_iload_n hx hb dL_isTick_116 rfl (lv_at hl 5 rfl) ?_
        refine lv_if_ne (tgt := 128) hx hb dL_isTick_117 (by decide) (fun c_117 => absurd (by rw [h0]; exact nI_0) c_117) (fun c_117 => ?_)
        refine lv_iload hx hb dL_isTick_120 (lv_at hl 0 rfl) ?_
        refine lv_if_ne (tgt := 137) hx hb dL_isTick_122 (by decide) (fun c_122 => absurd (by rw [hc1]; exact nI_0) c_122) (fun c_122 => ?_)
        refine lv_goto (tgt := 133) hx hb dL_isTick_125 (by decide) ?_
        refine lv_iconst (v := 1) hx hb dL_isTick_133 (by decide) ?_
        refine lv_goto (tgt := 138) hx hb dL_isTick_134 (by decide) ?_
        refine lv_istore (lv' := [(7, .int 1), (6, .int (nI c1)), (5, .int 0), (0, .ref (a 0)), (1, .ref (q 0)), (2, .ref (q 2)), (3, .int (nI (rq_cnt (iv_due σ) 10))), (4, .int (nI 10))]) hx hb dL_isTick_138 hl (by decide) rfl (fun ls hl => ?_)
        refine lv_iconst (v := 0) hx hb dL_isTick_140 (by decide) ?_
        refine lv_istore (lv' := [(8, .int (nI 0)), (7, .int 1), (6, .int (nI c1)), (5, .int 0), (0, .ref (a 0)), (1, .ref (q 0)), (2, .ref (q 2)), (3, .int (nI (rq_cnt (iv_due σ) 10))), (4, .int (nI 10))]) hx hb dL_isTick_141 hl (by decide) rfl (fun ls hl => ?_)
        exact big 10 0 (by omega) (by omega) H _ _ _ _ hw (lv_sub hl [4, 5, 6, 8, 3, 1, 0] rfl) (by show cells + 1 ≤ _; omega) (by show slots + 6 ≤ _; omega)
      · have hpos := rq_cnt_pos (p := iv_due σ) hf1 hf2
        have hc1 := (e3 f hf1 hf3 hf2).1
        by_cases hf8 : f < 8
        · skip
          refine lv_iload hx hb dL_isTick_9 (lv_at hl 5 rfl) ?_
          refine lv_bipush (v := 10) hx hb dL_isTick_11 (by decide) ?_
          refine lv_icmp_ge (tgt := 77) hx hb dL_isTick_13 (by decide) (fun c_13 => ?_) (fun c_13 => absurd (nI_le (a := 10) (b := 10) (Nat.le_refl _) (by decide)) c_13)
          refine lv_aload_n hx hb dL_isTick_77 rfl (lv_at hl 2 rfl) ?_
          refine lv_iconst (v := 0) hx hb dL_isTick_78 (by decide) ?_
          refine lv_dup2_11 hx hb dL_isTick_79 rfl rfl ?_
          refine lz_iald CF hw 2 (j := 0) (by decide) (by show _ < 3; omega) dL_isTick_80 ?_
          refine lv_iconst (v := 1) hx hb dL_isTick_81 (by decide) ?_
          refine lv_iadd hx hb dL_isTick_82 ?_
          refine lz_iast CF hw 2 (j := 0) (by decide) (by show _ < 3; omega) dL_isTick_83 (fun H locs hw => ?_)
          refine lv_iload hx hb dL_isTick_84 (lv_at hl 4 rfl) ?_
          refine lv_bipush (v := 10) hx hb dL_isTick_86 (by decide) ?_
          refine lv_icmp_ge (tgt := 100) hx hb dL_isTick_88 (by decide) (fun c_88 => absurd c_88 (nI_ge (a := f) (b := 10) hf1 (by decide))) (fun c_88 => ?_)
          refine lv_aload_n hx hb dL_isTick_91 rfl (lv_at hl 0 rfl) ?_
          refine lv_iload hx hb dL_isTick_92 (lv_at hl 4 rfl) ?_
          refine lz_callI CF hTh hA hw (As := [.int (nI f)]) (rest := []) (lk_rank l k a σ hfl hsep.1 hf1 rfl) (cwV 1 hts gL_isTick_X0_rank rfl rfl rfl (by decide +kernel) ⟨Nat.le_of_ble_eq_true rfl, Nat.le_of_ble_eq_true rfl⟩) rfl hl.1 rfl (lv_room (Nat.le_of_ble_eq_true rfl)) dL_isTick_94 ⟨by show cells + 1 ≤ 30; omega, by show slots + 6 ≤ 180; omega⟩ (fun H locs hw => ?_)
          refine lv_goto (tgt := 101) hx hb dL_isTick_97 (by decide) ?_
          refine lv_istore (lv' := [(5, .int (σ 9 f)), (0, .ref (a 0)), (1, .ref (q 0)), (2, .ref (q 2)), (3, .int (nI (rq_cnt (iv_due σ) 10))), (4, .int (nI f))]) hx hb dL_isTick_101 hl (by decide) rfl (fun ls hl => ?_)
          refine lv_aload_n hx hb dL_isTick_103 rfl (lv_at hl 1 rfl) ?_
          refine lv_iconst (v := 1) hx hb dL_isTick_104 (by decide) ?_
          refine lz_callI CF hTh hA hw (As := [.int 1]) (rest := []) (lk_pass (n := 1) (r0 := nI c1) l k a σ hfl hsep.1 (by decide) (by decide) (by rw [rm_pass1]; exact e1)) (cwV 1 hts gL_isTick_X0_pass rfl rfl rfl (by decide +kernel) ⟨Nat.le_of_ble_eq_true rfl, Nat.le_of_ble_eq_true rfl⟩) rfl hl.1 rfl (lv_room (Nat.le_of_ble_eq_true rfl)) dL_isTick_105 ⟨by show cells + 1 + 1 ≤ 30; omega, by show slots + 6 + 6 ≤ 180; omega⟩ (fun H locs hw => ?_)
          rw [rm_pass1] at hw
          replace hw : lz_Wd k a q (lz_A a q s.heap.size) s.heap s (rm_tick σ).1 (rm_up θ 2 0 (θ 2 0 + 1)) H locs := hw
          refine lv_istore (lv' := [(6, .int (nI c1)), (5, .int (σ 9 f)), (0, .ref (a 0)), (1, .ref (q 0)), (2, .ref (q 2)), (3, .int (nI (rq_cnt (iv_due σ) 10))), (4, .int (nI f))]) hx hb dL_isTick_108 hl (by decide) rfl (fun ls hl => ?_)
          refine lv_iload hx hb dL_isTick_110 (lv_at hl 0 rfl) ?_
          refine lv_iload_n hx hb dL_isTick_112 rfl (lv_at hl 5 rfl) ?_
          refine lv_icmp_gt (tgt := 137) hx hb dL_isTick_113 (by decide) (fun c_113 => absurd c_113 (nI_nlt (a := rq_cnt (iv_due σ) 10) (b := c1) e2 (by have := hcl 10; omega))) (fun c_113 => ?_)
          refine lv_iload_n hx hb dL_isTick_116 rfl (lv_at hl 5 rfl) ?_
          refine lv_if_ne (tgt := 128) hx hb dL_isTick_117 (by decide) (fun c_117 => ?_) (fun c_117 => absurd c_117 (nI_ne0 hpos (hbd _ (Nat.le_refl _))))
          refine lv_iload hx hb dL_isTick_128 (lv_at hl 0 rfl) ?_
          refine lv_if_le (tgt := 137) hx hb dL_isTick_130 (by decide) (fun c_130 => absurd c_130 (nI_nle hc1 (hbd _ e2))) (fun c_130 => ?_)
          refine lv_iconst (v := 1) hx hb dL_isTick_133 (by decide) ?_
          refine lv_goto (tgt := 138) hx hb dL_isTick_134 (by decide) ?_
          refine lv_istore (lv' := [(7, .int 1), (6, .int (nI c1)), (5, .int (σ 9 f)), (0, .ref (a 0)), (1, .ref (q 0)), (2, .ref (q 2)), (3, .int (nI (rq_cnt (iv_due σ) 10))), (4, .int (nI f))]) hx hb dL_isTick_138 hl (by decide) rfl (fun ls hl => ?_)
          refine lv_iconst (v := 0) hx hb dL_isTick_140 (by decide) ?_
          refine lv_istore (lv' := [(8, .int (nI 0)), (7, .int 1), (6, .int (nI c1)), (5, .int (σ 9 f)), (0, .ref (a 0)), (1, .ref (q 0)), (2, .ref (q 2)), (3, .int (nI (rq_cnt (iv_due σ) 10))), (4, .int (nI f))]) hx hb dL_isTick_141 hl (by decide) rfl (fun ls hl => ?_)
          exact sml f hf8 (e3 f hf1 hf3 hf2).2 8 0 rfl H _ _ _ _ hw (lv_sub hl [4, 5, 6, 8, 3, 1, 0] rfl) (by show cells + 1 + 1 ≤ _; omega) (by show slots + 6 + 6 ≤ _; omega)
        · skip
          refine lv_iload hx hb dL_isTick_9 (lv_at hl 5 rfl) ?_
          refine lv_bipush (v := 10) hx hb dL_isTick_11 (by decide) ?_
          refine lv_icmp_ge (tgt := 77) hx hb dL_isTick_13 (by decide) (fun c_13 => ?_) (fun c_13 => absurd (nI_le (a := 10) (b := 10) (Nat.le_refl _) (by decide)) c_13)
          refine lv_aload_n hx hb dL_isTick_77 rfl (lv_at hl 2 rfl) ?_
          refine lv_iconst (v := 0) hx hb dL_isTick_78 (by decide) ?_
          refine lv_dup2_11 hx hb dL_isTick_79 rfl rfl ?_
          refine lz_iald CF hw 2 (j := 0) (by decide) (by show _ < 3; omega) dL_isTick_80 ?_
          refine lv_iconst (v := 1) hx hb dL_isTick_81 (by decide) ?_
          refine lv_iadd hx hb dL_isTick_82 ?_
          refine lz_iast CF hw 2 (j := 0) (by decide) (by show _ < 3; omega) dL_isTick_83 (fun H locs hw => ?_)
          refine lv_iload hx hb dL_isTick_84 (lv_at hl 4 rfl) ?_
          refine lv_bipush (v := 10) hx hb dL_isTick_86 (by decide) ?_
          refine lv_icmp_ge (tgt := 100) hx hb dL_isTick_88 (by decide) (fun c_88 => absurd c_88 (nI_ge (a := f) (b := 10) hf1 (by decide))) (fun c_88 => ?_)
          refine lv_aload_n hx hb dL_isTick_91 rfl (lv_at hl 0 rfl) ?_
          refine lv_iload hx hb dL_isTick_92 (lv_at hl 4 rfl) ?_
          refine lz_callI CF hTh hA hw (As := [.int (nI f)]) (rest := []) (lk_rank l k a σ hfl hsep.1 hf1 rfl) (cwV 1 hts gL_isTick_X0_rank rfl rfl rfl (by decide +kernel) ⟨Nat.le_of_ble_eq_true rfl, Nat.le_of_ble_eq_true rfl⟩) rfl hl.1 rfl (lv_room (Nat.le_of_ble_eq_true rfl)) dL_isTick_94 ⟨by show cells + 1 ≤ 30; omega, by show slots + 6 ≤ 180; omega⟩ (fun H locs hw => ?_)
          refine lv_goto (tgt := 101) hx hb dL_isTick_97 (by decide) ?_
          refine lv_istore (lv' := [(5, .int (σ 9 f)), (0, .ref (a 0)), (1, .ref (q 0)), (2, .ref (q 2)), (3, .int (nI (rq_cnt (iv_due σ) 10))), (4, .int (nI f))]) hx hb dL_isTick_101 hl (by decide) rfl (fun ls hl => ?_)
          refine lv_aload_n hx hb dL_isTick_103 rfl (lv_at hl 1 rfl) ?_
          refine lv_iconst (v := 1) hx hb dL_isTick_104 (by decide) ?_
          refine lz_callI CF hTh hA hw (As := [.int 1]) (rest := []) (lk_pass (n := 1) (r0 := nI c1) l k a σ hfl hsep.1 (by decide) (by decide) (by rw [rm_pass1]; exact e1)) (cwV 1 hts gL_isTick_X0_pass rfl rfl rfl (by decide +kernel) ⟨Nat.le_of_ble_eq_true rfl, Nat.le_of_ble_eq_true rfl⟩) rfl hl.1 rfl (lv_room (Nat.le_of_ble_eq_true rfl)) dL_isTick_105 ⟨by show cells + 1 + 1 ≤ 30; omega, by show slots + 6 + 6 ≤ 180; omega⟩ (fun H locs hw => ?_)
          rw [rm_pass1] at hw
          replace hw : lz_Wd k a q (lz_A a q s.heap.size) s.heap s (rm_tick σ).1 (rm_up θ 2 0 (θ 2 0 + 1)) H locs := hw
          refine lv_istore (lv' := [(6, .int (nI c1)), (5, .int (σ 9 f)), (0, .ref (a 0)), (1, .ref (q 0)), (2, .ref (q 2)), (3, .int (nI (rq_cnt (iv_due σ) 10))), (4, .int (nI f))]) hx hb dL_isTick_108 hl (by decide) rfl (fun ls hl => ?_)
          refine lv_iload hx hb dL_isTick_110 (lv_at hl 0 rfl) ?_
          refine lv_iload_n hx hb dL_isTick_112 rfl (lv_at hl 5 rfl) ?_
          refine lv_icmp_gt (tgt := 137) hx hb dL_isTick_113 (by decide) (fun c_113 => absurd c_113 (nI_nlt (a := rq_cnt (iv_due σ) 10) (b := c1) e2 (by have := hcl 10; omega))) (fun c_113 => ?_)
          refine lv_iload_n hx hb dL_isTick_116 rfl (lv_at hl 5 rfl) ?_
          refine lv_if_ne (tgt := 128) hx hb dL_isTick_117 (by decide) (fun c_117 => ?_) (fun c_117 => absurd c_117 (nI_ne0 hpos (hbd _ (Nat.le_refl _))))
          refine lv_iload hx hb dL_isTick_128 (lv_at hl 0 rfl) ?_
          refine lv_if_le (tgt := 137) hx hb dL_isTick_130 (by decide) (fun c_130 => absurd c_130 (nI_nle hc1 (hbd _ e2))) (fun c_130 => ?_)
          refine lv_iconst (v := 1) hx hb dL_isTick_133 (by decide) ?_
          refine lv_goto (tgt := 138) hx hb dL_isTick_134 (by decide) ?_
          refine lv_istore (lv' := [(7, .int 1), (6, .int (nI c1)), (5, .int (σ 9 f)), (0, .ref (a 0)), (1, .ref (q 0)), (2, .ref (q 2)), (3, .int (nI (rq_cnt (iv_due σ) 10))), (4, .int (nI f))]) hx hb dL_isTick_138 hl (by decide) rfl (fun ls hl => ?_)
          refine lv_iconst (v := 0) hx hb dL_isTick_140 (by decide) ?_
          refine lv_istore (lv' := [(8, .int (nI 0)), (7, .int 1), (6, .int (nI c1)), (5, .int (σ 9 f)), (0, .ref (a 0)), (1, .ref (q 0)), (2, .ref (q 2)), (3, .int (nI (rq_cnt (iv_due σ) 10))), (4, .int (nI f))]) hx hb dL_isTick_141 hl (by decide) rfl (fun ls hl => ?_)
          exact big f (σ 9 f) (by omega) (by omega) H _ _ _ _ hw (lv_sub hl [4, 5, 6, 8, 3, 1, 0] rfl) (by show cells + 1 + 1 ≤ _; omega) (by show slots + 6 + 6 ≤ _; omega)
    | succ r ih =>
      intro i hi f hf H locs ls cells slots hw hl hc hs
      have hi10 : i < 10 := by omega
      rcases hf with ⟨rfl, hf⟩ | ⟨hf1, hf2, hf3⟩
      · skip
        refine lv_iload hx hb dL_isTick_9 (lv_at hl 5 rfl) ?_
        refine lv_bipush (v := 10) hx hb dL_isTick_11 (by decide) ?_
        refine lv_icmp_ge (tgt := 77) hx hb dL_isTick_13 (by decide) (fun c_13 => absurd c_13 (nI_ge (a := i) (b := 10) hi10 (by decide))) (fun c_13 => ?_)
        refine lv_aload_n hx hb dL_isTick_16 rfl (lv_at hl 0 rfl) ?_
        refine lv_iload hx hb dL_isTick_17 (lv_at hl 5 rfl) ?_
        refine lz_callI CF hTh hA hw (As := [.int (nI i)]) (rest := []) (lk_nextTelling l k a σ hfl hsep.1 hi10 rfl) (cwV 1 hts gL_isTick_X0_nextTelling rfl rfl rfl (by decide +kernel) ⟨Nat.le_of_ble_eq_true rfl, Nat.le_of_ble_eq_true rfl⟩) rfl hl.1 rfl (lv_room (Nat.le_of_ble_eq_true rfl)) dL_isTick_19 ⟨by show cells + 1 ≤ 30; omega, by show slots + 6 ≤ 180; omega⟩ (fun H locs hw => ?_)
        refine lv_aload_n hx hb dL_isTick_22 rfl (lv_at hl 2 rfl) ?_
        refine lv_iconst (v := 0) hx hb dL_isTick_23 (by decide) ?_
        refine lz_iald CF hw 2 (j := 0) (by decide) (by show _ < 3; omega) dL_isTick_24 ?_
        refine lv_iconst (v := 1) hx hb dL_isTick_25 (by decide) ?_
        refine lv_iadd hx hb dL_isTick_26 ?_
        refine lv_icmp_ne (tgt := 34) hx hb dL_isTick_27 (by decide) (fun c_27 => ?_) (fun c_27 => ?_)
        · skip
          have hd : ¬ iv_due σ i = true := fun h => c_27 ((hdue i).mp h)
          have hcn : rq_cnt (iv_due σ) (i + 1) = rq_cnt (iv_due σ) i + 0 := by rw [rq_cnt_s, if_neg hd]
          refine lv_iconst (v := 0) hx hb dL_isTick_34 (by decide) ?_
          refine lv_istore (lv' := [(6, .int 0), (0, .ref (a 0)), (1, .ref (q 0)), (2, .ref (q 2)), (3, .int (nI (rq_cnt (iv_due σ) i))), (4, .int (nI 10)), (5, .int (nI i))]) hx hb dL_isTick_35 hl (by decide) rfl (fun ls hl => ?_)
          refine lv_iload_n hx hb dL_isTick_37 rfl (lv_at hl 4 rfl) ?_
          refine lv_iload hx hb dL_isTick_38 (lv_at hl 0 rfl) ?_
          refine lv_if_eq (tgt := 47) hx hb dL_isTick_40 (by decide) (fun c_40 => ?_) (fun c_40 => absurd (by decide) c_40)
          refine lv_iconst (v := 0) hx hb dL_isTick_47 (by decide) ?_
          refine lv_iadd hx hb dL_isTick_48 ?_
          rw [show (nI (rq_cnt (iv_due σ) i)) + 0 = nI ((rq_cnt (iv_due σ) i) + 0) from nI_add (rq_cnt (iv_due σ) i) 0]
          rw [← hcn]
          refine lv_istore_n (lv' := [(3, .int (nI (rq_cnt (iv_due σ) (i + 1)))), (6, .int 0), (0, .ref (a 0)), (1, .ref (q 0)), (2, .ref (q 2)), (4, .int (nI 10)), (5, .int (nI i))]) hx hb dL_isTick_49 rfl hl (by decide) rfl (fun ls hl => ?_)
          refine lv_iload hx hb dL_isTick_50 (lv_at hl 1 rfl) ?_
          refine lv_if_eq (tgt := 67) hx hb dL_isTick_52 (by decide) (fun c_52 => ?_) (fun c_52 => absurd (by decide) c_52)
          refine lv_iload hx hb dL_isTick_67 (lv_at hl 5 rfl) ?_
          refine lv_istore (lv' := [(4, .int (nI 10)), (3, .int (nI (rq_cnt (iv_due σ) (i + 1)))), (6, .int 0), (0, .ref (a 0)), (1, .ref (q 0)), (2, .ref (q 2)), (5, .int (nI i))]) hx hb dL_isTick_69 hl (by decide) rfl (fun ls hl => ?_)
          refine lv_iinc (v := nI (i + 1)) (lv' := [(5, .int (nI (i + 1))), (4, .int (nI 10)), (3, .int (nI (rq_cnt (iv_due σ) (i + 1)))), (6, .int 0), (0, .ref (a 0)), (1, .ref (q 0)), (2, .ref (q 2))]) hx hb dL_isTick_71 hl (k := 6) rfl (rm_inc i) (by decide) rfl (fun ls hl => ?_)
          refine lv_goto (tgt := 9) hx hb dL_isTick_74 (by decide) ?_
          exact ih (i + 1) (by omega) 10 (Or.inl ⟨rfl, fun j hj => by
            by_cases ej : j = i
            · subst ej; exact hd
            · exact hf j (by omega)⟩) H _ _ _ _ hw (lv_sub hl [4, 5, 6, 2, 1, 0] rfl) (by show cells + 1 ≤ _; omega) (by show slots + 6 ≤ _; omega)
        · skip
          have hd : iv_due σ i = true := (hdue i).mpr c_27
          have hcn : rq_cnt (iv_due σ) (i + 1) = rq_cnt (iv_due σ) i + 1 := by rw [rq_cnt_s, if_pos hd]
          refine lv_iconst (v := 1) hx hb dL_isTick_30 (by decide) ?_
          refine lv_goto (tgt := 35) hx hb dL_isTick_31 (by decide) ?_
          refine lv_istore (lv' := [(6, .int 1), (0, .ref (a 0)), (1, .ref (q 0)), (2, .ref (q 2)), (3, .int (nI (rq_cnt (iv_due σ) i))), (4, .int (nI 10)), (5, .int (nI i))]) hx hb dL_isTick_35 hl (by decide) rfl (fun ls hl => ?_)
          refine lv_iload_n hx hb dL_isTick_37 rfl (lv_at hl 4 rfl) ?_
          refine lv_iload hx hb dL_isTick_38 (lv_at hl 0 rfl) ?_
          refine lv_if_eq (tgt := 47) hx hb dL_isTick_40 (by decide) (fun c_40 => absurd c_40 (by decide)) (fun c_40 => ?_)
          refine lv_iconst (v := 1) hx hb dL_isTick_43 (by decide) ?_
          refine lv_goto (tgt := 48) hx hb dL_isTick_44 (by decide) ?_
          refine lv_iadd hx hb dL_isTick_48 ?_
          rw [show (nI (rq_cnt (iv_due σ) i)) + 1 = nI ((rq_cnt (iv_due σ) i) + 1) from nI_add (rq_cnt (iv_due σ) i) 1]
          rw [← hcn]
          refine lv_istore_n (lv' := [(3, .int (nI (rq_cnt (iv_due σ) (i + 1)))), (6, .int 1), (0, .ref (a 0)), (1, .ref (q 0)), (2, .ref (q 2)), (4, .int (nI 10)), (5, .int (nI i))]) hx hb dL_isTick_49 rfl hl (by decide) rfl (fun ls hl => ?_)
          refine lv_iload hx hb dL_isTick_50 (lv_at hl 1 rfl) ?_
          refine lv_if_eq (tgt := 67) hx hb dL_isTick_52 (by decide) (fun c_52 => absurd c_52 (by decide)) (fun c_52 => ?_)
          refine lv_iload hx hb dL_isTick_55 (lv_at hl 5 rfl) ?_
          refine lv_bipush (v := 10) hx hb dL_isTick_57 (by decide) ?_
          refine lv_icmp_ne (tgt := 67) hx hb dL_isTick_59 (by decide) (fun c_59 => absurd rfl c_59) (fun c_59 => ?_)
          refine lv_iload hx hb dL_isTick_62 (lv_at hl 6 rfl) ?_
          refine lv_goto (tgt := 69) hx hb dL_isTick_64 (by decide) ?_
          refine lv_istore (lv' := [(4, .int (nI i)), (3, .int (nI (rq_cnt (iv_due σ) (i + 1)))), (6, .int 1), (0, .ref (a 0)), (1, .ref (q 0)), (2, .ref (q 2)), (5, .int (nI i))]) hx hb dL_isTick_69 hl (by decide) rfl (fun ls hl => ?_)
          refine lv_iinc (v := nI (i + 1)) (lv' := [(5, .int (nI (i + 1))), (4, .int (nI i)), (3, .int (nI (rq_cnt (iv_due σ) (i + 1)))), (6, .int 1), (0, .ref (a 0)), (1, .ref (q 0)), (2, .ref (q 2))]) hx hb dL_isTick_71 hl (k := 6) rfl (rm_inc i) (by decide) rfl (fun ls hl => ?_)
          refine lv_goto (tgt := 9) hx hb dL_isTick_74 (by decide) ?_
          exact ih (i + 1) (by omega) i (Or.inr ⟨by omega, hd, hf⟩) H _ _ _ _ hw (lv_sub hl [4, 5, 6, 2, 1, 0] rfl) (by show cells + 1 ≤ _; omega) (by show slots + 6 ≤ _; omega)
      · skip
        refine lv_iload hx hb dL_isTick_9 (lv_at hl 5 rfl) ?_
        refine lv_bipush (v := 10) hx hb dL_isTick_11 (by decide) ?_
        refine lv_icmp_ge (tgt := 77) hx hb dL_isTick_13 (by decide) (fun c_13 => absurd c_13 (nI_ge (a := i) (b := 10) hi10 (by decide))) (fun c_13 => ?_)
        refine lv_aload_n hx hb dL_isTick_16 rfl (lv_at hl 0 rfl) ?_
        refine lv_iload hx hb dL_isTick_17 (lv_at hl 5 rfl) ?_
        refine lz_callI CF hTh hA hw (As := [.int (nI i)]) (rest := []) (lk_nextTelling l k a σ hfl hsep.1 hi10 rfl) (cwV 1 hts gL_isTick_X0_nextTelling rfl rfl rfl (by decide +kernel) ⟨Nat.le_of_ble_eq_true rfl, Nat.le_of_ble_eq_true rfl⟩) rfl hl.1 rfl (lv_room (Nat.le_of_ble_eq_true rfl)) dL_isTick_19 ⟨by show cells + 1 ≤ 30; omega, by show slots + 6 ≤ 180; omega⟩ (fun H locs hw => ?_)
        refine lv_aload_n hx hb dL_isTick_22 rfl (lv_at hl 2 rfl) ?_
        refine lv_iconst (v := 0) hx hb dL_isTick_23 (by decide) ?_
        refine lz_iald CF hw 2 (j := 0) (by decide) (by show _ < 3; omega) dL_isTick_24 ?_
        refine lv_iconst (v := 1) hx hb dL_isTick_25 (by decide) ?_
        refine lv_iadd hx hb dL_isTick_26 ?_
        refine lv_icmp_ne (tgt := 34) hx hb dL_isTick_27 (by decide) (fun c_27 => ?_) (fun c_27 => ?_)
        · skip
          have hd : ¬ iv_due σ i = true := fun h => c_27 ((hdue i).mp h)
          have hcn : rq_cnt (iv_due σ) (i + 1) = rq_cnt (iv_due σ) i + 0 := by rw [rq_cnt_s, if_neg hd]
          refine lv_iconst (v := 0) hx hb dL_isTick_34 (by decide) ?_
          refine lv_istore (lv' := [(6, .int 0), (0, .ref (a 0)), (1, .ref (q 0)), (2, .ref (q 2)), (3, .int (nI (rq_cnt (iv_due σ) i))), (4, .int (nI f)), (5, .int (nI i))]) hx hb dL_isTick_35 hl (by decide) rfl (fun ls hl => ?_)
          refine lv_iload_n hx hb dL_isTick_37 rfl (lv_at hl 4 rfl) ?_
          refine lv_iload hx hb dL_isTick_38 (lv_at hl 0 rfl) ?_
          refine lv_if_eq (tgt := 47) hx hb dL_isTick_40 (by decide) (fun c_40 => ?_) (fun c_40 => absurd (by decide) c_40)
          refine lv_iconst (v := 0) hx hb dL_isTick_47 (by decide) ?_
          refine lv_iadd hx hb dL_isTick_48 ?_
          rw [show (nI (rq_cnt (iv_due σ) i)) + 0 = nI ((rq_cnt (iv_due σ) i) + 0) from nI_add (rq_cnt (iv_due σ) i) 0]
          rw [← hcn]
          refine lv_istore_n (lv' := [(3, .int (nI (rq_cnt (iv_due σ) (i + 1)))), (6, .int 0), (0, .ref (a 0)), (1, .ref (q 0)), (2, .ref (q 2)), (4, .int (nI f)), (5, .int (nI i))]) hx hb dL_isTick_49 rfl hl (by decide) rfl (fun ls hl => ?_)
          refine lv_iload hx hb dL_isTick_50 (lv_at hl 1 rfl) ?_
          refine lv_if_eq (tgt := 67) hx hb dL_isTick_52 (by decide) (fun c_52 => ?_) (fun c_52 => absurd (by decide) c_52)
          refine lv_iload hx hb dL_isTick_67 (lv_at hl 5 rfl) ?_
          refine lv_istore (lv' := [(4, .int (nI f)), (3, .int (nI (rq_cnt (iv_due σ) (i + 1)))), (6, .int 0), (0, .ref (a 0)), (1, .ref (q 0)), (2, .ref (q 2)), (5, .int (nI i))]) hx hb dL_isTick_69 hl (by decide) rfl (fun ls hl => ?_)
          refine lv_iinc (v := nI (i + 1)) (lv' := [(5, .int (nI (i + 1))), (4, .int (nI f)), (3, .int (nI (rq_cnt (iv_due σ) (i + 1)))), (6, .int 0), (0, .ref (a 0)), (1, .ref (q 0)), (2, .ref (q 2))]) hx hb dL_isTick_71 hl (k := 6) rfl (rm_inc i) (by decide) rfl (fun ls hl => ?_)
          refine lv_goto (tgt := 9) hx hb dL_isTick_74 (by decide) ?_
          exact ih (i + 1) (by omega) f (Or.inr ⟨by omega, hf2, hf3⟩) H _ _ _ _ hw (lv_sub hl [4, 5, 6, 2, 1, 0] rfl) (by show cells + 1 ≤ _; omega) (by show slots + 6 ≤ _; omega)
        · skip
          have hd : iv_due σ i = true := (hdue i).mpr c_27
          have hcn : rq_cnt (iv_due σ) (i + 1) = rq_cnt (iv_due σ) i + 1 := by rw [rq_cnt_s, if_pos hd]
          refine lv_iconst (v := 1) hx hb dL_isTick_30 (by decide) ?_
          refine lv_goto (tgt := 35) hx hb dL_isTick_31 (by decide) ?_
          refine lv_istore (lv' := [(6, .int 1), (0, .ref (a 0)), (1, .ref (q 0)), (2, .ref (q 2)), (3, .int (nI (rq_cnt (iv_due σ) i))), (4, .int (nI f)), (5, .int (nI i))]) hx hb dL_isTick_35 hl (by decide) rfl (fun ls hl => ?_)
          refine lv_iload_n hx hb dL_isTick_37 rfl (lv_at hl 4 rfl) ?_
          refine lv_iload hx hb dL_isTick_38 (lv_at hl 0 rfl) ?_
          refine lv_if_eq (tgt := 47) hx hb dL_isTick_40 (by decide) (fun c_40 => absurd c_40 (by decide)) (fun c_40 => ?_)
          refine lv_iconst (v := 1) hx hb dL_isTick_43 (by decide) ?_
          refine lv_goto (tgt := 48) hx hb dL_isTick_44 (by decide) ?_
          refine lv_iadd hx hb dL_isTick_48 ?_
          rw [show (nI (rq_cnt (iv_due σ) i)) + 1 = nI ((rq_cnt (iv_due σ) i) + 1) from nI_add (rq_cnt (iv_due σ) i) 1]
          rw [← hcn]
          refine lv_istore_n (lv' := [(3, .int (nI (rq_cnt (iv_due σ) (i + 1)))), (6, .int 1), (0, .ref (a 0)), (1, .ref (q 0)), (2, .ref (q 2)), (4, .int (nI f)), (5, .int (nI i))]) hx hb dL_isTick_49 rfl hl (by decide) rfl (fun ls hl => ?_)
          refine lv_iload hx hb dL_isTick_50 (lv_at hl 1 rfl) ?_
          refine lv_if_eq (tgt := 67) hx hb dL_isTick_52 (by decide) (fun c_52 => absurd c_52 (by decide)) (fun c_52 => ?_)
          refine lv_iload hx hb dL_isTick_55 (lv_at hl 5 rfl) ?_
          refine lv_bipush (v := 10) hx hb dL_isTick_57 (by decide) ?_
          refine lv_icmp_ne (tgt := 67) hx hb dL_isTick_59 (by decide) (fun c_59 => ?_) (fun c_59 => absurd c_59 (fun h => absurd ((nI_eq (by omega) (by decide)).mp (show nI f = nI 10 from h)) (by omega)))
          refine lv_iload hx hb dL_isTick_67 (lv_at hl 5 rfl) ?_
          refine lv_istore (lv' := [(4, .int (nI f)), (3, .int (nI (rq_cnt (iv_due σ) (i + 1)))), (6, .int 1), (0, .ref (a 0)), (1, .ref (q 0)), (2, .ref (q 2)), (5, .int (nI i))]) hx hb dL_isTick_69 hl (by decide) rfl (fun ls hl => ?_)
          refine lv_iinc (v := nI (i + 1)) (lv' := [(5, .int (nI (i + 1))), (4, .int (nI f)), (3, .int (nI (rq_cnt (iv_due σ) (i + 1)))), (6, .int 1), (0, .ref (a 0)), (1, .ref (q 0)), (2, .ref (q 2))]) hx hb dL_isTick_71 hl (k := 6) rfl (rm_inc i) (by decide) rfl (fun ls hl => ?_)
          refine lv_goto (tgt := 9) hx hb dL_isTick_74 (by decide) ?_
          exact ih (i + 1) (by omega) f (Or.inr ⟨by omega, hf2, hf3⟩) H _ _ _ _ hw (lv_sub hl [4, 5, 6, 2, 1, 0] rfl) (by show cells + 1 ≤ _; omega) (by show slots + 6 ≤ _; omega)
  refine lv_iconst (v := 0) hx hb dL_isTick_0 (by decide) ?_
  refine lv_istore_n (lv' := [(3, .int (nI 0)), (0, .ref (a 0)), (1, .ref (q 0)), (2, .ref (q 2))]) hx hb dL_isTick_1 rfl hl (by decide) rfl (fun ls hl => ?_)
  refine lv_bipush (v := 10) hx hb dL_isTick_2 (by decide) ?_
  refine lv_istore (lv' := [(4, .int (nI 10)), (3, .int (nI 0)), (0, .ref (a 0)), (1, .ref (q 0)), (2, .ref (q 2))]) hx hb dL_isTick_4 hl (by decide) rfl (fun ls hl => ?_)
  refine lv_iconst (v := 0) hx hb dL_isTick_6 (by decide) ?_
  refine lv_istore (lv' := [(5, .int (nI 0)), (4, .int (nI 10)), (3, .int (nI 0)), (0, .ref (a 0)), (1, .ref (q 0)), (2, .ref (q 2))]) hx hb dL_isTick_7 hl (by decide) rfl (fun ls hl => ?_)
  exact lp 10 0 rfl 10 (Or.inl ⟨rfl, fun j hj => absurd hj (Nat.not_lt_zero _)⟩) _ _ _ _ _ hw (lv_sub hl [3, 4, 5, 2, 1, 0] rfl) (Nat.le_of_ble_eq_true rfl) (Nat.le_of_ble_eq_true rfl)

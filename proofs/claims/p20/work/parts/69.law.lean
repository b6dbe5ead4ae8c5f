/-! the law: its start, its loop, its end -/
abbrev rw_A (s : State) : Nat → Prop := fun q => s.heap.size ≤ q
set_option maxHeartbeats 4000000 in
set_option maxRecDepth 100000 in
theorem rw_known {s : State} {A : Array Value} (hts0 : ∀ w ∈ lw_tbl, w.before A s = true) : ∃ k : rm_K, va_K k.1 vwCl (rm_ty k) s ∧ va_AOA .int s := by
  have hts : ∀ w ∈ wsL_law, w.before A s = true := fun w h => hts0 w (wsL_law_in w h)
  obtain ⟨c0, i0, hK0⟩ := u_known (C := RX0) (T := TX0) (N := 20) (n := 20) hts (by decide +kernel) (hts (.instantiable RX0 20) (by decide +kernel))
  obtain ⟨cI, kI, pI, I1, I2, I3⟩ := Cond.arrayClass_spec (hts (.arrayClass .int) (by decide +kernel))
  obtain ⟨cZ, kZ, pZ, Z1, Z2, Z3⟩ := Cond.arrayClass_spec (hts (.arrayClass .boolean) (by decide +kernel))
  have hov := hts0 (.arrayOver (.array .int)) (by decide +kernel)
  obtain ⟨pG, cG, kG, G1, -, G3, G4, G5⟩ := Jvm.Stand.arrayOver_specB hov
  refine ⟨((fun _ => c0, fun _ => i0), (cI, cZ, cG)), ⟨fun c q hq => ?_, fun j q hq => ?_⟩, va_AOA.of hov⟩
  · match c, hq with
    | 0, hq => cases hq; exact hK0
    | c + 1, hq => simp [vwCl] at hq
  · match j, hq with
    | 0, hq => cases hq; exact ⟨fun N z => ⟨(fun k h => by cases h), kI, I2, pI, I3⟩, I1⟩
    | 1, hq => cases hq; exact ⟨fun N z => ⟨(fun k h => by cases h), kZ, Z2, pZ, Z3⟩, Z1⟩
    | 2, hq => cases hq; exact ⟨fun N z => ⟨(fun k h => by cases h), kG, G3, pG, G4⟩, G5⟩
    | j + 3, hq => simp [rm_ty] at hq
set_option maxHeartbeats 4000000 in
set_option maxRecDepth 100000 in
theorem rw_th {s : State} {A : Array Value} {c0 : ClassId} (hc : s.vm.findClass RX0 = some c0) (hts0 : ∀ w ∈ lw_tbl, w.before A s = true) (hgv : (Jvm.Cond.and given_1 narrow_1).before A s = true) : rm_Th (rw_A s) s ∧ rl_N s := by
  have hs := flat_of_before _ hgv
  have hstr : ∀ (i : Nat) (tx : String), Cond.stringRef RX0 i tx ∈ lw_tbl → ∃ q, vk_R RX0 i tx q s := fun i tx h => by
    obtain ⟨k9, cf, i9, a9, -, -, -, -, -, hev⟩ := Cond.stringRef_spec hc (hts0 _ h)
    exact ⟨a9, vk_R.of (hts0 _ h) hev⟩
  have hNA : ∀ a : Nat, a < s.heap.size → ¬ rw_A s a := fun a h q => absurd (Nat.lt_of_lt_of_le h q) (Nat.lt_irrefl _)
  refine ⟨⟨vx_Zqof (hts0 (.laysStatic Bundle.tN "UNASSIGNED_STACK" Bundle.steD) (by decide +kernel)) (hts0 (.initialized Bundle.tN) (by decide +kernel)) (hs (.isRef (.static Bundle.tN "UNASSIGNED_STACK" Bundle.steD)) (by decide +kernel)) hNA,
    vx_Zqof (hts0 (.laysStatic Bundle.tN "SUPPRESSED_SENTINEL" Bundle.listD) (by decide +kernel)) (hts0 (.initialized Bundle.tN) (by decide +kernel)) (hs (.isRef (.static Bundle.tN "SUPPRESSED_SENTINEL" Bundle.listD)) (by decide +kernel)) hNA,
    ⟨hstr _ _ (by decide +kernel), hstr _ _ (by decide +kernel), hstr _ _ (by decide +kernel), hstr _ _ (by decide +kernel), hstr _ _ (by decide +kernel), hstr _ _ (by decide +kernel), hstr _ _ (by decide +kernel)⟩,
    ⟨va_Nw.of rfl (hts0 _ (by decide +kernel)), va_Nw.of rfl (hts0 _ (by decide +kernel)), va_Nw.of rfl (hts0 _ (by decide +kernel)), va_Nw.of rfl (hts0 _ (by decide +kernel)), va_Nw.of rfl (hts0 _ (by decide +kernel)), va_Nw.of rfl (hts0 _ (by decide +kernel))⟩⟩,
    va_Nc.of (hs _ (by decide +kernel)), va_Nc.of (hs _ (by decide +kernel)), va_Nc.of (hs _ (by decide +kernel))⟩
def lz_t0 : rm_St := rm_up (fun _ _ => 0) 2 1 1
set_option maxRecDepth 100000 in
theorem lz_ini_f : iv_f rm_ini ∧ (rm_ini 0 4).toInt ≤ 0 ∧ lz_t0 2 0 = rm_ini 0 4 ∧ lz_t0 2 1 = rm_ini 0 2 ∧ lz_t0 2 2 = rm_ini 0 5 := by
  unfold iv_f
  decide +kernel
set_option maxRecDepth 100000 in
theorem lz_ini_n : ∀ n, n < 10 → (rm_ini 5 n = 0 ∧ rm_ini 9 n = 10000 ∧ rm_ini 11 n = -1) ∧ (1 ≤ (rm_ini 12 n).toInt ∧ (rm_ini 12 n).toInt ≤ 512) ∧ (rm_ini 0 4).toInt < (rm_ini 13 n).toInt ∧ lz_t0 1 n = rm_ini 5 n ∧ lz_t0 1 (10 + n) = rm_ini 6 n ∧ 0 ≤ (rm_ini 6 n).toInt ∧ (rm_ini 6 n).toInt ≤ 0 := by decide +kernel
set_option maxRecDepth 100000 in
theorem lz_ini_h : ∀ n, n < 10 → ∀ o, o < 10 → iv_c rm_ini n o ∧ rm_ini (45 + n) o = -1 ∧ lz_c lz_t0 n o = rm_ini (15 + n) o := by
  unfold iv_c
  decide +kernel
theorem lz_ini : lz_I 0 0 rm_ini lz_t0 := by
  obtain ⟨f1, f2, f3, f4, f5⟩ := lz_ini_f
  refine ⟨⟨f1, fun n o hn ho => (lz_ini_h n hn o ho).1, fun n o hn ho => Or.inl (lz_ini_h n hn o ho).2.1⟩, fun n hn => Or.inr (Or.inl (lz_ini_n n hn).1), fun j hj => ?_, ⟨fun i j hi hj => (lz_ini_h i hi j hj).2.2, fun n hn => ?_, f3, f4, f5⟩, f2⟩
  · obtain ⟨-, g1, g2, -⟩ := lz_ini_n j hj
    exact ⟨g1, fun _ => g2, fun h => absurd hj (Nat.not_lt.mpr h)⟩
  · obtain ⟨-, -, -, g1, g2, g3, g4⟩ := lz_ini_n n hn
    exact ⟨g1, g2, g3, g4⟩
theorem lz_tRootb {σ : rm_St} {v : Int32} (h : rm_tN v = some rm_IO) : rm_tRoot σ v = some rm_IO := by
  unfold rm_tRoot
  rw [h]
  rfl
theorem lz_tMakeb {σ : rm_St} {v : Int32} (h : rm_tN v = some rm_IO) : rm_tMake σ v = some rm_IO := by
  unfold rm_tMake
  rw [h]
  rfl
theorem lz_tDownb {σ : rm_St} {v w : Int32} (h1 : rm_tN v = none) (h : rm_tN w = some rm_IO) : rm_tDown σ v w = some rm_IO := by
  unfold rm_tDown
  rw [h1, h]
  rfl
set_option maxHeartbeats 4000000 in
set_option maxRecDepth 100000 in
theorem rw_loop {p : Program} {e : Env} {s : State} {m : MethodId} {below : List Frame} {meth : Method} {c : Code} {l : Launch} {b L : Nat} {xs : Nat → Int32} {k : rm_K} {a q : Nat → Nat} (hfl : l.stackTraces = false) (hr : meth.sig.returnType = ret) (hlocks : meth.locks = false) (CF : CallFix p m c cL_law 7 s #[Value.ref b] wsL_law RL) (hsep : lz_sep a q) (hTh : rm_Th (rw_A s) s) (hN : rl_N s) (hX : va_X b L xs s s.heap ∧ b < s.heap.size) (hbq : (∀ j, j < 55 → a j ≠ b) ∧ ∀ i, i < 3 → q i ≠ b) (hL : L ≤ 260) :
    ∀ (r i : Nat), i + r = 60 → ∀ (σ θ : rm_St) (_ : lz_I i (20 * i) σ θ) (H : Heap) (locs : List Loc) (ls : Array Slot) (cells slots : Nat), lz_Wd k a q (rw_A s) s.heap s σ θ H locs → lv_has ls 7 [(0, .ref b), (1, .ref (a 0)), (2, .ref (q 0)), (3, .ref (q 1)), (4, .ref (q 2)), (5, .int 1), (6, .int (nI i))] → cells ≤ 1000 + 600 * i → slots ≤ 6000 + 3600 * i → W p l e room_1 s m #[Value.ref b] below meth c H locs cells slots (lw_Z below #[Value.ref b] s) (F0 m 43 ls []) := by
  have hx := CF.1
  have hb := CF.2.1
  have hts := CF.2.2.2.2
  have hA : ∀ x : Nat, s.heap.size ≤ x → rw_A s x := fun _ h => h
  have hbA : ¬ rw_A s b := fun h => absurd hX.2 (Nat.not_lt.mpr h)
  intro r
  induction r with
  | zero =>
    intro i hi σ θ hI H locs ls cells slots hw hl hc hs
    obtain rfl : i = 60 := by omega
    refine lv_iload hx hb dL_law_43 (lv_at hl 6 rfl) ?_
    refine lv_bipush (v := 60) hx hb dL_law_45 (by decide) ?_
    refine lv_icmp_ge (tgt := 119) hx hb dL_law_47 (by decide) (fun c_47 => ?_) (fun c_47 => absurd (nI_le (a := 60) (b := 60) (Nat.le_refl _) (by decide)) c_47)
    refine lv_iload hx hb dL_law_119 (lv_at hl 5 rfl) ?_
    refine lv_if_eq (tgt := 253) hx hb dL_law_121 (by decide) (fun c_121 => absurd c_121 (by decide)) (fun c_121 => ?_)
    refine lv_aload_n hx hb dL_law_124 rfl (lv_at hl 1 rfl) ?_
    refine lv_aload_n hx hb dL_law_125 rfl (lv_at hl 2 rfl) ?_
    refine lv_aload_n hx hb dL_law_126 rfl (lv_at hl 3 rfl) ?_
    refine lz_callL CF hTh hN hA hw (As := [.ref (a 0), .ref (q 0), .ref (q 1)]) (rest := []) (jL_isLeast l hfl k a q hsep σ θ hI) (fun _ _ _ _ _ => trivial) (fun _ _ _ => trivial) (va_cwS 3 hts gL_law_L_isLeast rfl rfl rfl (by decide +kernel) ⟨Nat.le_of_ble_eq_true rfl, Nat.le_of_ble_eq_true rfl⟩) rfl hl.1 rfl (lv_room (Nat.le_of_ble_eq_true rfl)) dL_law_127 ⟨by show cells + 90 ≤ 620611; omega, by show slots + 540 ≤ 7239791; omega⟩ (fun H locs r_127 σ_127 θ_127 hp_127 hw => ?_)
    obtain ⟨h1, h2, h3⟩ := hp_127
    rw [h3] at hw
    rw [h1]
    refine lv_if_eq (tgt := 253) hx hb dL_law_130 (by decide) (fun c_130 => absurd c_130 (by decide)) (fun c_130 => ?_)
    refine lv_aload_n hx hb dL_law_133 rfl (lv_at hl 1 rfl) ?_
    refine lv_iconst (v := 0) hx hb dL_law_134 (by decide) ?_
    refine lv_iconst (v := (-1)) hx hb dL_law_135 (by decide) ?_
    refine lv_iconst (v := 0) hx hb dL_law_136 (by decide) ?_
    refine lv_iconst (v := 1) hx hb dL_law_137 (by decide) ?_
    refine lv_iconst (v := 0) hx hb dL_law_138 (by decide) ?_
    have htl : rm_tSet (-1) 0 1 0 = some rm_IA := by decide +kernel
    refine lz_callH CF hTh hN hA hw (As := [.ref (a 0), .int 0, .int (-1), .int 0, .int 1, .int 0]) (rest := []) (jL_does_0 l hfl k a q hsep σ_127 θ (-1) 0 1 0) (fun _ _ _ _ _ => trivial) (fun _ _ _ => trivial) (vx_cwSW 6 hts gL_law_L_does rfl rfl rfl (by decide +kernel) ⟨Nat.le_of_ble_eq_true rfl, Nat.le_of_ble_eq_true rfl⟩) rfl hl.1 rfl (lv_room (Nat.le_of_ble_eq_true rfl)) dL_law_139 ⟨by show cells + 90 + 4 ≤ 620611; omega, by show slots + 540 + 24 ≤ 7239791; omega⟩ (fun H locs r_139 σ_139 θ_139 hp_139 hw => ?_)
    obtain ⟨h1, h2, h3⟩ := hp_139
    rw [htl] at h1 h2
    have h1 : r_139 = (-20) := h1.trans lz_code_IA
    have h2 : σ_139 = σ_127 := h2
    rw [h2, h3] at hw
    rw [h1]
    refine lv_bipush (v := (-20)) hx hb dL_law_142 (by decide) ?_
    refine lv_icmp_ne (tgt := 253) hx hb dL_law_144 (by decide) (fun c_144 => absurd (by decide) c_144) (fun c_144 => ?_)
    refine lv_aload_n hx hb dL_law_147 rfl (lv_at hl 1 rfl) ?_
    refine lv_iconst (v := 0) hx hb dL_law_148 (by decide) ?_
    refine lv_iconst (v := 0) hx hb dL_law_149 (by decide) ?_
    refine lv_iconst (v := 0) hx hb dL_law_150 (by decide) ?_
    refine lv_iconst (v := 0) hx hb dL_law_151 (by decide) ?_
    refine lv_iconst (v := 0) hx hb dL_law_152 (by decide) ?_
    have htl : rm_tSet 0 0 0 0 = some rm_IA := by decide +kernel
    refine lz_callH CF hTh hN hA hw (As := [.ref (a 0), .int 0, .int 0, .int 0, .int 0, .int 0]) (rest := []) (jL_does_0 l hfl k a q hsep σ_127 θ 0 0 0 0) (fun _ _ _ _ _ => trivial) (fun _ _ _ => trivial) (vx_cwSW 6 hts gL_law_L_does rfl rfl rfl (by decide +kernel) ⟨Nat.le_of_ble_eq_true rfl, Nat.le_of_ble_eq_true rfl⟩) rfl hl.1 rfl (lv_room (Nat.le_of_ble_eq_true rfl)) dL_law_153 ⟨by show cells + 90 + 4 + 4 ≤ 620611; omega, by show slots + 540 + 24 + 24 ≤ 7239791; omega⟩ (fun H locs r_153 σ_153 θ_153 hp_153 hw => ?_)
    obtain ⟨h1, h2, h3⟩ := hp_153
    rw [htl] at h1 h2
    have h1 : r_153 = (-20) := h1.trans lz_code_IA
    have h2 : σ_153 = σ_127 := h2
    rw [h2, h3] at hw
    rw [h1]
    refine lv_bipush (v := (-20)) hx hb dL_law_156 (by decide) ?_
    refine lv_icmp_ne (tgt := 253) hx hb dL_law_158 (by decide) (fun c_158 => absurd (by decide) c_158) (fun c_158 => ?_)
    refine lv_aload_n hx hb dL_law_161 rfl (lv_at hl 1 rfl) ?_
    refine lv_iconst (v := 1) hx hb dL_law_162 (by decide) ?_
    refine lv_iconst (v := (-1)) hx hb dL_law_163 (by decide) ?_
    refine lv_iconst (v := 0) hx hb dL_law_164 (by decide) ?_
    refine lv_iconst (v := 0) hx hb dL_law_165 (by decide) ?_
    refine lv_iconst (v := 0) hx hb dL_law_166 (by decide) ?_
    have htl : rm_tRoot σ_127 (-1) = some rm_IO := lz_tRootb (by decide +kernel)
    refine lz_callH CF hTh hN hA hw (As := [.ref (a 0), .int 1, .int (-1), .int 0, .int 0, .int 0]) (rest := []) (jL_does_1 l hfl k a q hsep σ_127 θ (-1) 0 0 0) (fun _ _ _ _ _ => trivial) (fun _ _ _ => trivial) (vx_cwSW 6 hts gL_law_L_does rfl rfl rfl (by decide +kernel) ⟨Nat.le_of_ble_eq_true rfl, Nat.le_of_ble_eq_true rfl⟩) rfl hl.1 rfl (lv_room (Nat.le_of_ble_eq_true rfl)) dL_law_167 ⟨by show cells + 90 + 4 + 4 + 4 ≤ 620611; omega, by show slots + 540 + 24 + 24 + 24 ≤ 7239791; omega⟩ (fun H locs r_167 σ_167 θ_167 hp_167 hw => ?_)
    obtain ⟨h1, h2, h3⟩ := hp_167
    rw [htl] at h1 h2
    have h1 : r_167 = (-30) := h1.trans lz_code_IO
    have h2 : σ_167 = σ_127 := h2
    rw [h2, h3] at hw
    rw [h1]
    refine lv_bipush (v := (-30)) hx hb dL_law_170 (by decide) ?_
    refine lv_icmp_ne (tgt := 253) hx hb dL_law_172 (by decide) (fun c_172 => absurd (by decide) c_172) (fun c_172 => ?_)
    refine lv_aload_n hx hb dL_law_175 rfl (lv_at hl 1 rfl) ?_
    refine lv_iconst (v := 2) hx hb dL_law_176 (by decide) ?_
    refine lv_iconst (v := 0) hx hb dL_law_177 (by decide) ?_
    refine lv_iconst (v := (-1)) hx hb dL_law_178 (by decide) ?_
    refine lv_bipush (v := 101) hx hb dL_law_179 (by decide) ?_
    refine lv_iconst (v := 0) hx hb dL_law_181 (by decide) ?_
    have htl : rm_tLink 0 (-1) 101 = some rm_IO := by decide +kernel
    refine lz_callH CF hTh hN hA hw (As := [.ref (a 0), .int 2, .int 0, .int (-1), .int 101, .int 0]) (rest := []) (jL_does_2 l hfl k a q hsep σ_127 θ 0 (-1) 101 0) (fun _ _ _ _ _ => trivial) (fun _ _ _ => trivial) (vx_cwSW 6 hts gL_law_L_does rfl rfl rfl (by decide +kernel) ⟨Nat.le_of_ble_eq_true rfl, Nat.le_of_ble_eq_true rfl⟩) rfl hl.1 rfl (lv_room (Nat.le_of_ble_eq_true rfl)) dL_law_182 ⟨by show cells + 90 + 4 + 4 + 4 + 4 ≤ 620611; omega, by show slots + 540 + 24 + 24 + 24 + 24 ≤ 7239791; omega⟩ (fun H locs r_182 σ_182 θ_182 hp_182 hw => ?_)
    obtain ⟨h1, h2, h3⟩ := hp_182
    rw [htl] at h1 h2
    have h1 : r_182 = (-30) := h1.trans lz_code_IO
    have h2 : σ_182 = σ_127 := h2
    rw [h2, h3] at hw
    rw [h1]
    refine lv_bipush (v := (-30)) hx hb dL_law_185 (by decide) ?_
    refine lv_icmp_ne (tgt := 253) hx hb dL_law_187 (by decide) (fun c_187 => absurd (by decide) c_187) (fun c_187 => ?_)
    refine lv_aload_n hx hb dL_law_190 rfl (lv_at hl 1 rfl) ?_
    refine lv_iconst (v := 3) hx hb dL_law_191 (by decide) ?_
    refine lv_bipush (v := 10) hx hb dL_law_192 (by decide) ?_
    refine lv_iconst (v := 0) hx hb dL_law_194 (by decide) ?_
    refine lv_iconst (v := 0) hx hb dL_law_195 (by decide) ?_
    refine lv_iconst (v := 0) hx hb dL_law_196 (by decide) ?_
    have htl : rm_tMake σ_127 10 = some rm_IO := lz_tMakeb (by decide +kernel)
    refine lz_callH CF hTh hN hA hw (As := [.ref (a 0), .int 3, .int 10, .int 0, .int 0, .int 0]) (rest := []) (jL_does_3 l hfl k a q hsep σ_127 θ 10 0 0 0) (fun _ _ _ _ _ => trivial) (fun _ _ _ => trivial) (vx_cwSW 6 hts gL_law_L_does rfl rfl rfl (by decide +kernel) ⟨Nat.le_of_ble_eq_true rfl, Nat.le_of_ble_eq_true rfl⟩) rfl hl.1 rfl (lv_room (Nat.le_of_ble_eq_true rfl)) dL_law_197 ⟨by show cells + 90 + 4 + 4 + 4 + 4 + 4 ≤ 620611; omega, by show slots + 540 + 24 + 24 + 24 + 24 + 24 ≤ 7239791; omega⟩ (fun H locs r_197 σ_197 θ_197 hp_197 hw => ?_)
    obtain ⟨h1, h2, h3⟩ := hp_197
    rw [htl] at h1 h2
    have h1 : r_197 = (-30) := h1.trans lz_code_IO
    have h2 : σ_197 = σ_127 := h2
    rw [h2, h3] at hw
    rw [h1]
    refine lv_bipush (v := (-30)) hx hb dL_law_200 (by decide) ?_
    refine lv_icmp_ne (tgt := 253) hx hb dL_law_202 (by decide) (fun c_202 => absurd (by decide) c_202) (fun c_202 => ?_)
    refine lv_aload_n hx hb dL_law_205 rfl (lv_at hl 1 rfl) ?_
    refine lv_iconst (v := 4) hx hb dL_law_206 (by decide) ?_
    refine lv_iconst (v := (-1)) hx hb dL_law_207 (by decide) ?_
    refine lv_iconst (v := 0) hx hb dL_law_208 (by decide) ?_
    refine lv_iconst (v := 0) hx hb dL_law_209 (by decide) ?_
    refine lv_iconst (v := 0) hx hb dL_law_210 (by decide) ?_
    have htl : rm_tRoot σ_127 (-1) = some rm_IO := lz_tRootb (by decide +kernel)
    refine lz_callH CF hTh hN hA hw (As := [.ref (a 0), .int 4, .int (-1), .int 0, .int 0, .int 0]) (rest := []) (jL_does_4 l hfl k a q hsep σ_127 θ (-1) 0 0 0) (fun _ _ _ _ _ => trivial) (fun _ _ _ => trivial) (vx_cwSW 6 hts gL_law_L_does rfl rfl rfl (by decide +kernel) ⟨Nat.le_of_ble_eq_true rfl, Nat.le_of_ble_eq_true rfl⟩) rfl hl.1 rfl (lv_room (Nat.le_of_ble_eq_true rfl)) dL_law_211 ⟨by show cells + 90 + 4 + 4 + 4 + 4 + 4 + 4 ≤ 620611; omega, by show slots + 540 + 24 + 24 + 24 + 24 + 24 + 24 ≤ 7239791; omega⟩ (fun H locs r_211 σ_211 θ_211 hp_211 hw => ?_)
    obtain ⟨h1, h2, h3⟩ := hp_211
    rw [htl] at h1 h2
    have h1 : r_211 = (-30) := h1.trans lz_code_IO
    have h2 : σ_211 = σ_127 := h2
    rw [h2, h3] at hw
    rw [h1]
    refine lv_bipush (v := (-30)) hx hb dL_law_214 (by decide) ?_
    refine lv_icmp_ne (tgt := 253) hx hb dL_law_216 (by decide) (fun c_216 => absurd (by decide) c_216) (fun c_216 => ?_)
    refine lv_aload_n hx hb dL_law_219 rfl (lv_at hl 1 rfl) ?_
    refine lv_iconst (v := 5) hx hb dL_law_220 (by decide) ?_
    refine lv_iconst (v := 0) hx hb dL_law_221 (by decide) ?_
    refine lv_iconst (v := 0) hx hb dL_law_222 (by decide) ?_
    refine lv_iconst (v := 0) hx hb dL_law_223 (by decide) ?_
    refine lv_iconst (v := 0) hx hb dL_law_224 (by decide) ?_
    have htl : rm_tR 0 1 100 = some rm_IA := by decide +kernel
    refine lz_callH CF hTh hN hA hw (As := [.ref (a 0), .int 5, .int 0, .int 0, .int 0, .int 0]) (rest := []) (jL_does_5 l hfl k a q hsep σ_127 θ 0 0 0 0) (fun _ _ _ _ _ => trivial) (fun _ _ _ => trivial) (vx_cwSW 6 hts gL_law_L_does rfl rfl rfl (by decide +kernel) ⟨Nat.le_of_ble_eq_true rfl, Nat.le_of_ble_eq_true rfl⟩) rfl hl.1 rfl (lv_room (Nat.le_of_ble_eq_true rfl)) dL_law_225 ⟨by show cells + 90 + 4 + 4 + 4 + 4 + 4 + 4 + 4 ≤ 620611; omega, by show slots + 540 + 24 + 24 + 24 + 24 + 24 + 24 + 24 ≤ 7239791; omega⟩ (fun H locs r_225 σ_225 θ_225 hp_225 hw => ?_)
    obtain ⟨h1, h2, h3⟩ := hp_225
    rw [htl] at h1 h2
    have h1 : r_225 = (-20) := h1.trans lz_code_IA
    have h2 : σ_225 = σ_127 := h2
    rw [h2, h3] at hw
    rw [h1]
    refine lv_bipush (v := (-20)) hx hb dL_law_228 (by decide) ?_
    refine lv_icmp_ne (tgt := 253) hx hb dL_law_230 (by decide) (fun c_230 => absurd (by decide) c_230) (fun c_230 => ?_)
    refine lv_aload_n hx hb dL_law_233 rfl (lv_at hl 1 rfl) ?_
    refine lv_bipush (v := 6) hx hb dL_law_234 (by decide) ?_
    refine lv_iconst (v := 0) hx hb dL_law_236 (by decide) ?_
    refine lv_bipush (v := 10) hx hb dL_law_237 (by decide) ?_
    refine lv_iconst (v := 0) hx hb dL_law_239 (by decide) ?_
    refine lv_iconst (v := 0) hx hb dL_law_240 (by decide) ?_
    have htl : rm_tDown σ_127 0 10 = some rm_IO := lz_tDownb (by decide +kernel) (by decide +kernel)
    refine lz_callH CF hTh hN hA hw (As := [.ref (a 0), .int 6, .int 0, .int 10, .int 0, .int 0]) (rest := []) (jL_does_6 l hfl k a q hsep σ_127 θ 0 10 0 0) (fun _ _ _ _ _ => trivial) (fun _ _ _ => trivial) (vx_cwSW 6 hts gL_law_L_does rfl rfl rfl (by decide +kernel) ⟨Nat.le_of_ble_eq_true rfl, Nat.le_of_ble_eq_true rfl⟩) rfl hl.1 rfl (lv_room (Nat.le_of_ble_eq_true rfl)) dL_law_241 ⟨by show cells + 90 + 4 + 4 + 4 + 4 + 4 + 4 + 4 + 4 ≤ 620611; omega, by show slots + 540 + 24 + 24 + 24 + 24 + 24 + 24 + 24 + 24 ≤ 7239791; omega⟩ (fun H locs r_241 σ_241 θ_241 hp_241 hw => ?_)
    obtain ⟨h1, h2, h3⟩ := hp_241
    rw [htl] at h1 h2
    have h1 : r_241 = (-30) := h1.trans lz_code_IO
    have h2 : σ_241 = σ_127 := h2
    rw [h2, h3] at hw
    rw [h1]
    refine lv_bipush (v := (-30)) hx hb dL_law_244 (by decide) ?_
    refine lv_icmp_ne (tgt := 253) hx hb dL_law_246 (by decide) (fun c_246 => absurd (by decide) c_246) (fun c_246 => ?_)
    refine lv_iconst (v := 1) hx hb dL_law_249 (by decide) ?_
    refine lv_goto (tgt := 254) hx hb dL_law_250 (by decide) ?_
    exact va_forget (fun x hx => hw.2.2.2.2.2.2 x hx) (W.widen (k := 620611) (n := 7239791) (by show cells + 90 + 4 + 4 + 4 + 4 + 4 + 4 + 4 + 4 ≤ _; omega) (by show slots + 540 + 24 + 24 + 24 + 24 + 24 + 24 + 24 + 24 ≤ _; omega) (lw_ret hx hb hr hlocks dL_law_254))
  | succ r ih =>
    intro i hi σ θ hI H locs ls cells slots hw hl hc hs
    refine lv_iload hx hb dL_law_43 (lv_at hl 6 rfl) ?_
    refine lv_bipush (v := 60) hx hb dL_law_45 (by decide) ?_
    refine lv_icmp_ge (tgt := 119) hx hb dL_law_47 (by decide) (fun c_47 => absurd c_47 (nI_ge (a := i) (b := 60) (by omega) (by decide))) (fun c_47 => ?_)
    refine lv_iload hx hb dL_law_50 (lv_at hl 5 rfl) ?_
    refine lv_if_eq (tgt := 119) hx hb dL_law_52 (by decide) (fun c_52 => absurd c_52 (by decide)) (fun c_52 => ?_)
    refine lv_aload_n hx hb dL_law_55 rfl (lv_at hl 1 rfl) ?_
    refine lv_aload_n hx hb dL_law_56 rfl (lv_at hl 0 rfl) ?_
    refine lv_iconst (v := 4) hx hb dL_law_57 (by decide) ?_
    refine lv_iload hx hb dL_law_58 (lv_at hl 6 rfl) ?_
    refine lv_imul hx hb dL_law_60 ?_
    rw [show (4 : Int32) * (nI i) = nI (4 * i) from pk_mul 4 i]
    refine lv_aload_n hx hb dL_law_61 rfl (lv_at hl 2 rfl) ?_
    refine lv_aload_n hx hb dL_law_62 rfl (lv_at hl 3 rfl) ?_
    refine lv_aload hx hb dL_law_63 (lv_at hl 4 rfl) ?_
    refine lz_callL CF hTh hN hA hw (As := [.ref (a 0), .ref b, .int (nI (4 * i)), .ref (q 0), .ref (q 1), .ref (q 2)]) (rest := []) (jL_isDone l hfl k a q hsep σ θ (bq := b) (L := L) (ix := 4 * i) (xs := xs) hL (by omega) hbq hI (by omega) (by omega)) (fun U g mk x h => ⟨va_X.moved (u := U) (U := U.calling g mk x) (Vm.Alike.refl U.vm) h.1, h.2⟩) (fun U hU hWm => ⟨by rw [hU]; exact va_X.moved hWm.alike (va_X.kept hX.1 (hw.2.2.2.2.2.1 b hX.2 hbA)), by rw [hU]; exact Nat.lt_of_lt_of_le hX.2 hw.2.2.2.2.1⟩) (va_cwS 6 hts gL_law_L_isDone rfl rfl rfl (by decide +kernel) ⟨Nat.le_of_ble_eq_true rfl, Nat.le_of_ble_eq_true rfl⟩) rfl hl.1 rfl (lv_room (Nat.le_of_ble_eq_true rfl)) dL_law_65 ⟨by show cells + 130 ≤ 620611; omega, by show slots + 780 ≤ 7239791; omega⟩ (fun H locs r_65 σ_65 θ_65 hp_65 hw => ?_)
    obtain ⟨h1, hI2⟩ := hp_65
    rw [h1]
    refine lv_if_eq (tgt := 110) hx hb dL_law_68 (by decide) (fun c_68 => absurd c_68 (by decide)) (fun c_68 => ?_)
    refine lv_aload_n hx hb dL_law_71 rfl (lv_at hl 1 rfl) ?_
    refine lv_aload_n hx hb dL_law_72 rfl (lv_at hl 2 rfl) ?_
    refine lv_aload_n hx hb dL_law_73 rfl (lv_at hl 3 rfl) ?_
    refine lv_aload hx hb dL_law_74 (lv_at hl 4 rfl) ?_
    refine lv_aload_n hx hb dL_law_76 rfl (lv_at hl 0 rfl) ?_
    refine lv_iconst (v := 4) hx hb dL_law_77 (by decide) ?_
    refine lv_iload hx hb dL_law_78 (lv_at hl 6 rfl) ?_
    refine lv_imul hx hb dL_law_80 ?_
    rw [show (4 : Int32) * (nI i) = nI (4 * i) from pk_mul 4 i]
    refine lv_iconst (v := 1) hx hb dL_law_81 (by decide) ?_
    refine lv_iadd hx hb dL_law_82 ?_
    rw [show (nI (4 * i)) + 1 = nI ((4 * i) + 1) from nI_add (4 * i) 1]
    refine lv_bipush (v := 10) hx hb dL_law_83 (by decide) ?_
    refine lz_callP CF hX.1 hX.2 hbA hw (As := [.ref b, .int (nI ((4 * i) + 1)), .int 10]) (rest := [.ref (q 2), .ref (q 1), .ref (q 0), .ref (a 0)]) (jL_part l b L xs hL ((4 * i) + 1) 10 (by omega) (by decide) (by decide)) (va_cwS 3 hts gL_law_L_part rfl rfl rfl (by decide +kernel) ⟨Nat.le_of_ble_eq_true rfl, Nat.le_of_ble_eq_true rfl⟩) rfl hl.1 rfl (lv_room (Nat.le_of_ble_eq_true rfl)) dL_law_85 ⟨by show cells + 130 ≤ 620611; omega, by show slots + 780 ≤ 7239791; omega⟩ (fun H locs y1 hy1 hw => ?_)
    refine lv_aload_n hx hb dL_law_88 rfl (lv_at hl 0 rfl) ?_
    refine lv_iconst (v := 4) hx hb dL_law_89 (by decide) ?_
    refine lv_iload hx hb dL_law_90 (lv_at hl 6 rfl) ?_
    refine lv_imul hx hb dL_law_92 ?_
    rw [show (4 : Int32) * (nI i) = nI (4 * i) from pk_mul 4 i]
    refine lv_iconst (v := 2) hx hb dL_law_93 (by decide) ?_
    refine lv_iadd hx hb dL_law_94 ?_
    rw [show (nI (4 * i)) + 2 = nI ((4 * i) + 2) from nI_add (4 * i) 2]
    refine lv_bipush (v := 10) hx hb dL_law_95 (by decide) ?_
    refine lz_callP CF hX.1 hX.2 hbA hw (As := [.ref b, .int (nI ((4 * i) + 2)), .int 10]) (rest := [.int (nI y1), .ref (q 2), .ref (q 1), .ref (q 0), .ref (a 0)]) (jL_part l b L xs hL ((4 * i) + 2) 10 (by omega) (by decide) (by decide)) (va_cwS 3 hts gL_law_L_part rfl rfl rfl (by decide +kernel) ⟨Nat.le_of_ble_eq_true rfl, Nat.le_of_ble_eq_true rfl⟩) rfl hl.1 rfl (lv_room (Nat.le_of_ble_eq_true rfl)) dL_law_97 ⟨by show cells + 130 ≤ 620611; omega, by show slots + 780 ≤ 7239791; omega⟩ (fun H locs y2 hy2 hw => ?_)
    refine lz_callL CF hTh hN hA hw (As := [.ref (a 0), .ref (q 0), .ref (q 1), .ref (q 2), .int (nI y1), .int (nI y2)]) (rest := []) (jL_isSo l hfl k a q hsep σ_65 θ_65 hy1 hy2 hI2 (by omega)) (fun _ _ _ _ _ => trivial) (fun _ _ _ => trivial) (va_cwS 6 hts gL_law_L_isSo rfl rfl rfl (by decide +kernel) ⟨Nat.le_of_ble_eq_true rfl, Nat.le_of_ble_eq_true rfl⟩) rfl hl.1 rfl (lv_room (Nat.le_of_ble_eq_true rfl)) dL_law_100 ⟨by show cells + 130 + 440 ≤ 620611; omega, by show slots + 780 + 2640 ≤ 7239791; omega⟩ (fun H locs r_100 σ_100 θ_100 hp_100 hw => ?_)
    obtain ⟨h1, hI2⟩ := hp_100
    rw [h1]
    refine lv_if_eq (tgt := 110) hx hb dL_law_103 (by decide) (fun c_103 => absurd c_103 (by decide)) (fun c_103 => ?_)
    refine lv_iconst (v := 1) hx hb dL_law_106 (by decide) ?_
    refine lv_goto (tgt := 111) hx hb dL_law_107 (by decide) ?_
    refine lv_istore (lv' := [(5, .int 1), (0, .ref b), (1, .ref (a 0)), (2, .ref (q 0)), (3, .ref (q 1)), (4, .ref (q 2)), (6, .int (nI i))]) hx hb dL_law_111 hl (by decide) rfl (fun ls hl => ?_)
    refine lv_iinc (v := nI (i + 1)) (lv' := [(6, .int (nI (i + 1))), (5, .int 1), (0, .ref b), (1, .ref (a 0)), (2, .ref (q 0)), (3, .ref (q 1)), (4, .ref (q 2))]) hx hb dL_law_113 hl (k := 6) rfl (rm_inc i) (by decide) rfl (fun ls hl => ?_)
    refine lv_goto (tgt := 43) hx hb dL_law_116 (by decide) ?_
    exact ih (i + 1) (by omega) _ _ (lz_I_up hI2 (Nat.le_refl _) (by omega)) H _ _ _ _ hw (lv_sub hl [2, 3, 4, 5, 6, 1, 0] rfl) (by show cells + 130 + 440 ≤ _; omega) (by show slots + 780 + 2640 ≤ _; omega)
set_option maxHeartbeats 4000000 in
set_option maxRecDepth 100000 in
theorem rw_start {p : Program} {e : Env} {s : State} {m : MethodId} {below : List Frame} {meth : Method} {c : Code} (l : Launch) (hflags : l.flags = flags0) {b L : Nat} {xs : Nat → Int32} (hL : L ≤ 260) (C0 : lw_At p s m meth c b L xs) : W p l e room_1 s m #[Value.ref b] below meth c s.heap [] 0 0 (lw_Z below #[Value.ref b] s) (entryFrame m ([Value.ref b] : List Value).toArray 7) := by
  obtain ⟨hx, hb, hr, hml, hown, hts0, hX0, hbl, hlocks, hgv⟩ := C0
  have hts : ∀ w ∈ wsL_law, w.before #[Value.ref b] s = true := fun w h => hts0 w (wsL_law_in w h)
  have hfl : l.stackTraces = false := by
    unfold Jvm.Launch.stackTraces
    rw [hflags]
    decide +kernel
  have hA : ∀ q : Nat, s.heap.size ≤ q → rw_A s q := fun _ h => h
  obtain ⟨k, hK, hao⟩ := rw_known hts0
  have hK0 : u_Kn s RX0 TX0 20 (k.1.1 0) (k.1.2 0) := hK.1 0 _ rfl
  obtain ⟨hTh, hN⟩ := rw_th hK0.2.1 hts0 hgv
  have CF : CallFix p m c cL_law 7 s #[Value.ref b] wsL_law RL := ⟨hx, hb, hml, hown, hts⟩
  have hS : va_S (rw_A s) s.heap s.heap [] := va_S.rf
  have hP : va_P k.1 vwCl [] s.heap := fun k q h => by simp at h
  have hD : va_D (rw_A s) [] := ⟨fun i j p q h => by simp at h, fun k q h => by simp at h⟩
  have hl := lv_entry ([.ref b]) (n := 7) (Nat.le_of_ble_eq_true rfl)
  rw [lg_entry_eq]
  generalize (lg_sl ([.ref b]) ++ List.replicate (7 - (lg_sl ([.ref b])).length) Slot.unset).toArray = ls at hl ⊢
  have hl : lv_has ls 7 [(0, .ref b)] := hl
  refine va_new (ci := 0) (fs := [.int 0, .int 0, .int 0, .int 0, .int 0, .int 0, .null, .null, .null, .null, .null, .null, .null, .null, .null, .null, .null, .null, .null, .null]) (C := RX0) (T := TX0) (N := 20) hx hb hts (by decide +kernel) tyX0 tyX0_ok hown (hts (.classLink RL 9 RX0) (by decide +kernel)) (hts (.instantiable RX0 20) (by decide +kernel)) (hts (.initialized RX0) (by decide +kernel)) hK hP hD hS hA rfl (by decide +kernel) (Nat.le_of_ble_eq_true rfl) (Nat.le_of_ble_eq_true rfl) dL_law_0 (fun q0 H hP hD hS => ?_)
  refine W.widen (k := 1) (n := 20) (by omega) (by omega) ?_
  refine lv_dup hx hb dL_law_3 rfl ?_
  have hsub0 : ∀ q, va_A [(q0, .inr (0, [.int 0, .int 0, .int 0, .int 0, .int 0, .int 0, .null, .null, .null, .null, .null, .null, .null, .null, .null, .null, .null, .null, .null, .null]))] H.size q → rw_A s q := va_free hD hS hA [0] rfl
  refine va_callv (va_runI (As := []) (rest := [.ref q0]) CF (kX0_init l k q0 H.size) (cwI 0 hts gL_law_X0_init rfl rfl rfl (hts (.initialized RX0) (by decide +kernel)) (hts (.methodLink RL 120 yX0_init) (by decide +kernel)) (hts (.instanceMethod yX0_init) (by decide +kernel)) rfl (by decide +kernel) ⟨Nat.le_of_ble_eq_true rfl, Nat.le_of_ble_eq_true rfl⟩) ⟨fun x U g mk q => by obtain ⟨w0, w1, w2, w3, w4⟩ := q; exact ⟨w0, w1, w2, va_K.moved (u := U) (U := U.calling g mk x) (Vm.Alike.refl U.vm) w3, va_AOA.moved (u := U) (U := U.calling g mk x) (Vm.Alike.refl U.vm) w4⟩, fun U hU hW => ⟨rfl, by rw [hU], by rw [hU]; exact hP, va_K.moved hW.alike hK, va_AOA.moved hW.alike hao⟩⟩ rfl rfl hl.1 rfl (lv_room (Nat.le_of_ble_eq_true rfl)) dL_law_4 ⟨Nat.le_of_ble_eq_true rfl, Nat.le_of_ble_eq_true rfl⟩) hS (fun q _ h => hsub0 q h) hsub0 (fun a t H2 locs ht hvm ha hB hz1 hk1 hS => ?_)
  obtain ⟨hPa, hDa⟩ := hB
  have hPa : va_P k.1 vwCl (rm_W k a rm_ini) H2 := by rw [← ht]; exact hPa.1
  subst ha
  have hDa : va_D (rw_A s) (rm_W k a rm_ini) := rm_D (rm_D_inj hDa) (fun j hj => hsub0 _ (rm_D_A hDa j hj))
  refine lv_astore_n (lv' := [(1, .ref (a 0)), (0, .ref b)]) hx hb dL_law_7 rfl hl (by decide) rfl (fun ls hl => ?_)
  refine lv_bipush (v := 64) hx hb dL_law_8 (by decide) ?_
  refine rx_newI (N := 64) CF (by decide +kernel) hK hPa hDa hS hA (by decide) (by decide +kernel) (by decide) (Nat.le_of_ble_eq_true rfl) (Nat.le_of_ble_eq_true rfl) dL_law_10 (fun q0 H3 hP3 hD3 hS => ?_)
  refine lv_astore_n (lv' := [(2, .ref q0), (1, .ref (a 0)), (0, .ref b)]) hx hb dL_law_12 rfl hl (by decide) rfl (fun ls hl => ?_)
  refine lv_bipush (v := 20) hx hb dL_law_13 (by decide) ?_
  refine rx_newI (N := 20) CF (by decide +kernel) hK hP3 hD3 hS hA (by decide) (by decide +kernel) (by decide) (Nat.le_of_ble_eq_true rfl) (Nat.le_of_ble_eq_true rfl) dL_law_15 (fun q1 H4 hP4 hD4 hS => ?_)
  refine lv_astore_n (lv' := [(3, .ref q1), (2, .ref q0), (1, .ref (a 0)), (0, .ref b)]) hx hb dL_law_17 rfl hl (by decide) rfl (fun ls hl => ?_)
  refine lv_iconst (v := 3) hx hb dL_law_18 (by decide) ?_
  refine rx_newI (N := 3) CF (by decide +kernel) hK hP4 hD4 hS hA (by decide) (by decide +kernel) (by decide) (Nat.le_of_ble_eq_true rfl) (Nat.le_of_ble_eq_true rfl) dL_law_19 (fun q2 H hP5 hD5 hS => ?_)
  refine lv_astore (lv' := [(4, .ref q2), (3, .ref q1), (2, .ref q0), (1, .ref (a 0)), (0, .ref b)]) hx hb dL_law_21 hl (by decide) rfl (fun ls hl => ?_)
  obtain ⟨q, rfl, rfl, rfl⟩ : ∃ q : Nat → Nat, q 0 = q0 ∧ q 1 = q1 ∧ q 2 = q2 := ⟨fun i => if i = 0 then q0 else if i = 1 then q1 else q2, rfl, rfl, rfl⟩
  have l1 : (rm_W k a rm_ini ++ [(q 0, .inl (k.2.1, 64, .inl (fun _ => 0)))] : va_W).length = 56 := by rw [List.length_append, rm_Wlen]; rfl
  have l2 : ((rm_W k a rm_ini ++ [(q 0, .inl (k.2.1, 64, .inl (fun _ => 0)))]) ++ [(q 1, .inl (k.2.1, 20, .inl (fun _ => 0)))] : va_W).length = 57 := by rw [List.length_append, l1]; rfl
  have gA : ∀ i, i < 55 → (((rm_W k a rm_ini ++ [(q 0, .inl (k.2.1, 64, .inl (fun _ => 0)))]) ++ [(q 1, .inl (k.2.1, 20, .inl (fun _ => 0)))]) ++ [(q 2, .inl (k.2.1, 3, .inl (fun _ => 0)))] : va_W)[i]? = some (a i, rm_E k a rm_ini i) := fun i hi => by
    rw [List.getElem?_append_left (by rw [l2]; omega), List.getElem?_append_left (by rw [l1]; omega), List.getElem?_append_left (by rw [rm_Wlen]; exact hi)]
    exact rm_get hi
  have gq : ∀ i, i < 3 → (((rm_W k a rm_ini ++ [(q 0, .inl (k.2.1, 64, .inl (fun _ => 0)))]) ++ [(q 1, .inl (k.2.1, 20, .inl (fun _ => 0)))]) ++ [(q 2, .inl (k.2.1, 3, .inl (fun _ => 0)))] : va_W)[55 + i]? = some (q i, lz_e k (fun _ _ => 0) i) := fun i hi => by
    match i, hi with
    | 0, _ =>
      rw [List.getElem?_append_left (by rw [l2]; omega), List.getElem?_append_left (by rw [l1]; omega), List.getElem?_append_right (by rw [rm_Wlen]; exact Nat.le_refl _), rm_Wlen]
      rfl
    | 1, _ =>
      rw [List.getElem?_append_left (by rw [l2]; omega), List.getElem?_append_right (by rw [l1]; exact Nat.le_refl _), l1]
      rfl
    | 2, _ =>
      rw [List.getElem?_append_right (by rw [l2]; exact Nat.le_refl _), l2]
      rfl
  have hsep : lz_sep a q := ⟨rm_D_inj hDa, fun i j hi hj h => by
    have := hD5.1 (55 + i) (55 + j) _ _ (gq i hi) (gq j hj) h
    omega, fun j i hj hi h => by
    have := hD5.1 j (55 + i) _ _ (gA j hj) (gq i hi) h
    omega⟩
  have hin : lz_in a q (rw_A s) := ⟨fun j hj => rm_D_A hDa j hj, fun i hi => hD5.2 (55 + i) _ (gq i hi)⟩
  have hw : lz_Wd k a q (rw_A s) s.heap s rm_ini (fun _ _ => 0) H locs := ⟨hK, fun i x hx => by
    obtain ⟨hi, rfl⟩ := rm_get_of hx
    exact hP5 i _ (gA i hi), fun i x hx => by
    obtain ⟨hi, rfl⟩ := lz_get_of hx
    exact hP5 (55 + i) _ (gq i hi), ⟨hsep, hin⟩, hS⟩
  have hX : va_X b L xs s s.heap ∧ b < s.heap.size := ⟨hX0, hbl⟩
  have hbq : (∀ j, j < 55 → a j ≠ b) ∧ ∀ i, i < 3 → q i ≠ b := ⟨fun j hj h => absurd hbl (Nat.not_lt.mpr (h ▸ hin.1 j hj)), fun i hi h => absurd hbl (Nat.not_lt.mpr (h ▸ hin.2 i hi))⟩
  refine lv_aload hx hb dL_law_23 (lv_at hl 0 rfl) ?_
  refine lv_iconst (v := 1) hx hb dL_law_25 (by decide) ?_
  refine lv_iconst (v := 1) hx hb dL_law_26 (by decide) ?_
  refine lz_iast CF hw 2 (j := 1) (by decide) (by decide) dL_law_27 (fun H locs hw => ?_)
  replace hw : lz_Wd k a q (rw_A s) s.heap s rm_ini lz_t0 H locs := hw
  refine W.widen (k := 200) (n := 1000) (Nat.le_of_ble_eq_true rfl) (Nat.le_of_ble_eq_true rfl) ?_
  have hI2 := lz_ini
  refine lv_aload_n hx hb dL_law_28 rfl (lv_at hl 3 rfl) ?_
  refine lv_aload_n hx hb dL_law_29 rfl (lv_at hl 2 rfl) ?_
  refine lv_aload_n hx hb dL_law_30 rfl (lv_at hl 1 rfl) ?_
  refine lv_aload hx hb dL_law_31 (lv_at hl 0 rfl) ?_
  refine lv_iconst (v := 0) hx hb dL_law_33 (by decide) ?_
  refine lv_iconst (v := 1) hx hb dL_law_34 (by decide) ?_
  refine lz_callL CF hTh hN hA hw (As := [.ref (a 0), .ref (q 0), .ref (q 1), .ref (q 2), .int 0, .int 1]) (rest := []) (jL_isSo l hfl k a q hsep rm_ini lz_t0 (n := 0) (o := 1) (by decide) (by decide) hI2 (by decide)) (fun _ _ _ _ _ => trivial) (fun _ _ _ => trivial) (va_cwS 6 hts gL_law_L_isSo rfl rfl rfl (by decide +kernel) ⟨Nat.le_of_ble_eq_true rfl, Nat.le_of_ble_eq_true rfl⟩) rfl hl.1 rfl (lv_room (Nat.le_of_ble_eq_true rfl)) dL_law_35 ⟨Nat.le_of_ble_eq_true rfl, Nat.le_of_ble_eq_true rfl⟩ (fun H locs r_35 σ_35 θ_35 hp_35 hw => ?_)
  obtain ⟨h1, hI2⟩ := hp_35
  rw [h1]
  refine lv_istore (lv' := [(5, .int 1), (4, .ref (q 2)), (3, .ref (q 1)), (2, .ref (q 0)), (1, .ref (a 0)), (0, .ref b)]) hx hb dL_law_38 hl (by decide) rfl (fun ls hl => ?_)
  refine lv_iconst (v := 0) hx hb dL_law_40 (by decide) ?_
  refine lv_istore (lv' := [(6, .int (nI 0)), (5, .int 1), (4, .ref (q 2)), (3, .ref (q 1)), (2, .ref (q 0)), (1, .ref (a 0)), (0, .ref b)]) hx hb dL_law_41 hl (by decide) rfl (fun ls hl => ?_)
  exact rw_loop hfl hr hlocks CF hsep hTh hN hX hbq hL 60 0 rfl _ _ hI2 _ _ _ _ _ hw (lv_sub hl [6, 5, 4, 3, 2, 1, 0] rfl) (Nat.le_of_ble_eq_true rfl) (Nat.le_of_ble_eq_true rfl)
/-! the whole walk of the law's body -/
theorem whole_start {p : Program} {e : Env} {s : State} {m : MethodId} {below : List Frame} {meth : Method} {c : Code} (l : Launch) (hflags : l.flags = flags0) {b L : Nat} {xs : Nat → Int32} (hL : L ≤ 260) (C0 : lw_At p s m meth c b L xs) : W p l e room_1 s m #[Value.ref b] below meth c s.heap [] 0 0 (lw_Z below #[Value.ref b] s) (entryFrame m ([Value.ref b] : List Value).toArray 7) := rw_start l hflags hL C0

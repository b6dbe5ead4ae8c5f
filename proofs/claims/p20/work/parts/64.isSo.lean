set_option maxHeartbeats 4000000 in
set_option maxRecDepth 100000 in
theorem jL_isSo (l : Launch) (hfl : l.stackTraces = false) (k : rm_K) (a q : Nat → Nat) (hsep : lz_sep a q) (σ θ : rm_St) {n o K B : Nat} (hn : n < 10) (ho : o < 10) (hI : lz_I K B σ θ) (hK : K ≤ 100) : lz_M l k a q (fun _ => True) yL_isSo wsL_isSo ({ frames := 12, cells := 440, slots := 2640, locals := 260 }) [.ref (a 0), .ref (q 0), .ref (q 1), .ref (q 2), .int (nI n), .int (nI o)] σ θ (fun r σ1 θ1 => r = 1 ∧ lz_I K B σ1 θ1) := by
  refine lz_enter (cc := cL_isSo) (nL := 8) (ret := some .boolean) hsep (by decide) rfl rfl (Nat.le_of_ble_eq_true rfl) ?_
  intro p e s m args below meth c ls CF hr hlocks hTh hN hX hw hl
  have hx := CF.1
  have hb := CF.2.1
  have hts := CF.2.2.2.2
  have hA : ∀ x, s.heap.size ≤ x → lz_A a q s.heap.size x := fun x h => Or.inl (Or.inr h)
  replace hl : lv_has ls 8 [(0, .ref (a 0)), (1, .ref (q 0)), (2, .ref (q 1)), (3, .ref (q 2)), (4, .int (nI n)), (5, .int (nI o))] := hl
  have hI0 := hI
  obtain ⟨hM, hNn, hT, ⟨hLc, hLt, hL4, hL2, hL5⟩, hB⟩ := hI
  have lp : ∀ (r i : Nat), i + r = 10 → ∀ (H : Heap) (locs : List Loc) (ls : Array Slot) (cells slots : Nat), lz_Wd k a q (lz_A a q s.heap.size) s.heap s σ θ H locs → lv_has ls 8 [(0, .ref (a 0)), (1, .ref (q 0)), (2, .ref (q 1)), (3, .ref (q 2)), (4, .int (nI n)), (5, .int (nI o)), (6, .int 1), (7, .int (nI i))] → cells ≤ 16 + 28 * i → slots ≤ 96 + 168 * i → W p l e (headSpec wsL_isSo ({ frames := 12, cells := 440, slots := 2640, locals := 260 })).room s m args below meth c H locs cells slots (MQ below (va_Qi (fun (r : Int32) (u : rm_St × rm_St) => (fun r σ1 θ1 => r = 1 ∧ lz_I K B σ1 θ1) r u.1 u.2) (fun u t => lz_P k a q u.1 u.2 t) (lz_A a q s.heap.size)) args s 440 2640 (lz_A a q s.heap.size)) (F0 m 122 ls []) := by
    intro r
    induction r with
    | zero =>
      intro i hi H locs ls cells slots hw hl hc hs
      obtain rfl : i = 10 := by omega
      refine lv_iload hx hb dL_isSo_122 (lv_at hl 7 rfl) ?_
      refine lv_bipush (v := 10) hx hb dL_isSo_124 (by decide) ?_
      refine lv_icmp_ge (tgt := 151) hx hb dL_isSo_126 (by decide) (fun c_126 => ?_) (fun c_126 => absurd (nI_le (a := 10) (b := 10) (Nat.le_refl _) (by decide)) c_126)
      refine lv_iload hx hb dL_isSo_151 (lv_at hl 6 rfl) ?_
      refine lv_if_eq (tgt := 182) hx hb dL_isSo_153 (by decide) (fun c_153 => absurd c_153 (by decide)) (fun c_153 => ?_)
      refine lv_aload_n hx hb dL_isSo_156 rfl (lv_at hl 0 rfl) ?_
      refine lv_aload_n hx hb dL_isSo_157 rfl (lv_at hl 2 rfl) ?_
      refine lv_aload_n hx hb dL_isSo_158 rfl (lv_at hl 3 rfl) ?_
      refine lv_iload hx hb dL_isSo_159 (lv_at hl 4 rfl) ?_
      refine lz_callL CF hTh hN hA hw (As := [.ref (a 0), .ref (q 1), .ref (q 2), .int (nI n)]) (rest := []) (jL_isPacket l hfl k a q hsep σ θ hn hI0) (fun _ _ _ _ _ => trivial) (fun _ _ _ => trivial) (va_cwS 4 hts gL_isSo_L_isPacket rfl rfl rfl (by decide +kernel) ⟨Nat.le_of_ble_eq_true rfl, Nat.le_of_ble_eq_true rfl⟩) rfl hl.1 rfl (lv_room (Nat.le_of_ble_eq_true rfl)) dL_isSo_161 ⟨by show cells + 120 ≤ 440; omega, by show slots + 720 ≤ 2640; omega⟩ (fun H locs r_161 σ_161 θ_161 hp_161 hw => ?_)
      obtain ⟨h1, hI2⟩ := hp_161
      rw [h1]
      refine lv_if_eq (tgt := 182) hx hb dL_isSo_164 (by decide) (fun c_164 => absurd c_164 (by decide)) (fun c_164 => ?_)
      refine lv_aload_n hx hb dL_isSo_167 rfl (lv_at hl 0 rfl) ?_
      refine lv_iload hx hb dL_isSo_168 (lv_at hl 4 rfl) ?_
      refine lv_iload hx hb dL_isSo_170 (lv_at hl 5 rfl) ?_
      refine lz_callL CF hTh hN hA hw (As := [.ref (a 0), .int (nI n), .int (nI o)]) (rest := []) (jL_isBelow l hfl k a q hsep σ_161 θ_161 hn ho hI2) (fun _ _ _ _ _ => trivial) (fun _ _ _ => trivial) (va_cwS 3 hts gL_isSo_L_isBelow rfl rfl rfl (by decide +kernel) ⟨Nat.le_of_ble_eq_true rfl, Nat.le_of_ble_eq_true rfl⟩) rfl hl.1 rfl (lv_room (Nat.le_of_ble_eq_true rfl)) dL_isSo_172 ⟨by show cells + 120 + 20 ≤ 440; omega, by show slots + 720 + 120 ≤ 2640; omega⟩ (fun H locs r_172 σ_172 θ_172 hp_172 hw => ?_)
      obtain ⟨h1, h2, h3⟩ := hp_172
      rw [h2, h3] at hw
      rw [h1]
      refine lv_if_eq (tgt := 182) hx hb dL_isSo_175 (by decide) (fun c_175 => absurd c_175 (by decide)) (fun c_175 => ?_)
      refine lv_iconst (v := 1) hx hb dL_isSo_178 (by decide) ?_
      refine lv_goto (tgt := 183) hx hb dL_isSo_179 (by decide) ?_
      exact lz_zret (post := (fun r σ1 θ1 => r = 1 ∧ lz_I K B σ1 θ1)) CF hr hlocks hw (by show cells + 120 + 20 ≤ 440; omega) (by show slots + 720 + 120 ≤ 2640; omega) dL_isSo_183 ⟨rfl, hI2⟩
    | succ r ih =>
      intro i hi H locs ls cells slots hw hl hc hs
      have hi10 : i < 10 := by omega
      refine lv_iload hx hb dL_isSo_122 (lv_at hl 7 rfl) ?_
      refine lv_bipush (v := 10) hx hb dL_isSo_124 (by decide) ?_
      refine lv_icmp_ge (tgt := 151) hx hb dL_isSo_126 (by decide) (fun c_126 => absurd c_126 (nI_ge (a := i) (b := 10) hi10 (by decide))) (fun c_126 => ?_)
      refine lv_iload hx hb dL_isSo_129 (lv_at hl 6 rfl) ?_
      refine lv_if_eq (tgt := 151) hx hb dL_isSo_131 (by decide) (fun c_131 => absurd c_131 (by decide)) (fun c_131 => ?_)
      refine lv_aload_n hx hb dL_isSo_134 rfl (lv_at hl 0 rfl) ?_
      refine lv_aload_n hx hb dL_isSo_135 rfl (lv_at hl 1 rfl) ?_
      refine lv_aload_n hx hb dL_isSo_136 rfl (lv_at hl 2 rfl) ?_
      refine lv_aload_n hx hb dL_isSo_137 rfl (lv_at hl 3 rfl) ?_
      refine lv_iload hx hb dL_isSo_138 (lv_at hl 7 rfl) ?_
      refine lz_callL CF hTh hN hA hw (As := [.ref (a 0), .ref (q 0), .ref (q 1), .ref (q 2), .int (nI i)]) (rest := []) (jL_isNode l hfl k a q hsep σ θ hi10 hI0 hK) (fun _ _ _ _ _ => trivial) (fun _ _ _ => trivial) (va_cwS 5 hts gL_isSo_L_isNode rfl rfl rfl (by decide +kernel) ⟨Nat.le_of_ble_eq_true rfl, Nat.le_of_ble_eq_true rfl⟩) rfl hl.1 rfl (lv_room (Nat.le_of_ble_eq_true rfl)) dL_isSo_140 ⟨by show cells + 28 ≤ 440; omega, by show slots + 168 ≤ 2640; omega⟩ (fun H locs r_140 σ_140 θ_140 hp_140 hw => ?_)
      obtain ⟨h1, h2, h3⟩ := hp_140
      rw [h2, h3] at hw
      rw [h1]
      refine lv_istore (lv' := [(6, .int 1), (0, .ref (a 0)), (1, .ref (q 0)), (2, .ref (q 1)), (3, .ref (q 2)), (4, .int (nI n)), (5, .int (nI o)), (7, .int (nI i))]) hx hb dL_isSo_143 hl (by decide) rfl (fun ls hl => ?_)
      refine lv_iinc (v := nI (i + 1)) (lv' := [(7, .int (nI (i + 1))), (6, .int 1), (0, .ref (a 0)), (1, .ref (q 0)), (2, .ref (q 1)), (3, .ref (q 2)), (4, .int (nI n)), (5, .int (nI o))]) hx hb dL_isSo_145 hl (k := 7) rfl (rm_inc i) (by decide) rfl (fun ls hl => ?_)
      refine lv_goto (tgt := 122) hx hb dL_isSo_148 (by decide) ?_
      exact ih (i + 1) (by omega) H _ _ _ _ hw (lv_sub hl [2, 3, 4, 5, 6, 7, 1, 0] rfl) (by show cells + 28 ≤ _; omega) (by show slots + 168 ≤ _; omega)
  refine lv_aload_n hx hb dL_isSo_0 rfl (lv_at hl 0 rfl) ?_
  refine lz_callG CF hA hw (As := []) (rest := []) (kX0_time l k a hsep.1 σ) (cwV 0 hts gL_isSo_X0_time rfl rfl rfl (by decide +kernel) ⟨Nat.le_of_ble_eq_true rfl, Nat.le_of_ble_eq_true rfl⟩) rfl hl.1 rfl (lv_room (Nat.le_of_ble_eq_true rfl)) dL_isSo_1 ⟨Nat.le_of_ble_eq_true rfl, Nat.le_of_ble_eq_true rfl⟩ (fun H locs hw => ?_)
  refine lv_aload_n hx hb dL_isSo_4 rfl (lv_at hl 3 rfl) ?_
  refine lv_iconst (v := 0) hx hb dL_isSo_5 (by decide) ?_
  refine lz_iald CF hw 2 (j := 0) (by decide) (by show _ < 3; omega) dL_isSo_6 ?_
  refine lv_icmp_ne (tgt := 116) hx hb dL_isSo_7 (by decide) (fun c_7 => absurd hL4.symm c_7) (fun c_7 => ?_)
  refine lv_aload_n hx hb dL_isSo_10 rfl (lv_at hl 0 rfl) ?_
  refine lv_iconst (v := 0) hx hb dL_isSo_11 (by decide) ?_
  refine lv_bipush (v := 10) hx hb dL_isSo_12 (by decide) ?_
  refine lv_iconst (v := 0) hx hb dL_isSo_14 (by decide) ?_
  refine lz_callH CF hTh hN hA hw (As := [.ref (a 0), .int 0, .int 10, .int 0]) (rest := []) (jL_asks_0 l hfl k a q hsep σ θ 10 0 (by decide +kernel)) (fun _ _ _ _ _ => trivial) (fun _ _ _ => trivial) (vx_cwSW 4 hts gL_isSo_L_asks rfl rfl rfl (by decide +kernel) ⟨Nat.le_of_ble_eq_true rfl, Nat.le_of_ble_eq_true rfl⟩) rfl hl.1 rfl (lv_room (Nat.le_of_ble_eq_true rfl)) dL_isSo_15 ⟨Nat.le_of_ble_eq_true rfl, Nat.le_of_ble_eq_true rfl⟩ (fun H locs r_15 σ_15 θ_15 hp_15 hw => ?_)
  obtain ⟨h1, h2, h3⟩ := hp_15
  rw [h2, h3] at hw
  rw [h1]
  refine lv_bipush (v := (-30)) hx hb dL_isSo_18 (by decide) ?_
  refine lv_icmp_ne (tgt := 116) hx hb dL_isSo_20 (by decide) (fun c_20 => absurd (by decide) c_20) (fun c_20 => ?_)
  refine lv_aload_n hx hb dL_isSo_23 rfl (lv_at hl 0 rfl) ?_
  refine lv_iconst (v := 1) hx hb dL_isSo_24 (by decide) ?_
  refine lv_iconst (v := (-1)) hx hb dL_isSo_25 (by decide) ?_
  refine lv_iconst (v := 0) hx hb dL_isSo_26 (by decide) ?_
  refine lz_callH CF hTh hN hA hw (As := [.ref (a 0), .int 1, .int (-1), .int 0]) (rest := []) (jL_asks_1 l hfl k a q hsep σ θ (-1) 0 (by decide +kernel)) (fun _ _ _ _ _ => trivial) (fun _ _ _ => trivial) (vx_cwSW 4 hts gL_isSo_L_asks rfl rfl rfl (by decide +kernel) ⟨Nat.le_of_ble_eq_true rfl, Nat.le_of_ble_eq_true rfl⟩) rfl hl.1 rfl (lv_room (Nat.le_of_ble_eq_true rfl)) dL_isSo_27 ⟨Nat.le_of_ble_eq_true rfl, Nat.le_of_ble_eq_true rfl⟩ (fun H locs r_27 σ_27 θ_27 hp_27 hw => ?_)
  obtain ⟨h1, h2, h3⟩ := hp_27
  rw [h2, h3] at hw
  rw [h1]
  refine lv_bipush (v := (-30)) hx hb dL_isSo_30 (by decide) ?_
  refine lv_icmp_ne (tgt := 116) hx hb dL_isSo_32 (by decide) (fun c_32 => absurd (by decide) c_32) (fun c_32 => ?_)
  refine lv_aload_n hx hb dL_isSo_35 rfl (lv_at hl 0 rfl) ?_
  refine lv_iconst (v := 2) hx hb dL_isSo_36 (by decide) ?_
  refine lv_bipush (v := 10) hx hb dL_isSo_37 (by decide) ?_
  refine lv_iconst (v := 0) hx hb dL_isSo_39 (by decide) ?_
  refine lz_callH CF hTh hN hA hw (As := [.ref (a 0), .int 2, .int 10, .int 0]) (rest := []) (jL_asks_2 l hfl k a q hsep σ θ 10 0 (by decide +kernel)) (fun _ _ _ _ _ => trivial) (fun _ _ _ => trivial) (vx_cwSW 4 hts gL_isSo_L_asks rfl rfl rfl (by decide +kernel) ⟨Nat.le_of_ble_eq_true rfl, Nat.le_of_ble_eq_true rfl⟩) rfl hl.1 rfl (lv_room (Nat.le_of_ble_eq_true rfl)) dL_isSo_40 ⟨Nat.le_of_ble_eq_true rfl, Nat.le_of_ble_eq_true rfl⟩ (fun H locs r_40 σ_40 θ_40 hp_40 hw => ?_)
  obtain ⟨h1, h2, h3⟩ := hp_40
  rw [h2, h3] at hw
  rw [h1]
  refine lv_bipush (v := (-30)) hx hb dL_isSo_43 (by decide) ?_
  refine lv_icmp_ne (tgt := 116) hx hb dL_isSo_45 (by decide) (fun c_45 => absurd (by decide) c_45) (fun c_45 => ?_)
  refine lv_aload_n hx hb dL_isSo_48 rfl (lv_at hl 0 rfl) ?_
  refine lv_iconst (v := 3) hx hb dL_isSo_49 (by decide) ?_
  refine lv_iconst (v := (-1)) hx hb dL_isSo_50 (by decide) ?_
  refine lv_iconst (v := 0) hx hb dL_isSo_51 (by decide) ?_
  refine lz_callH CF hTh hN hA hw (As := [.ref (a 0), .int 3, .int (-1), .int 0]) (rest := []) (jL_asks_3 l hfl k a q hsep σ θ (-1) 0 (by decide +kernel)) (fun _ _ _ _ _ => trivial) (fun _ _ _ => trivial) (vx_cwSW 4 hts gL_isSo_L_asks rfl rfl rfl (by decide +kernel) ⟨Nat.le_of_ble_eq_true rfl, Nat.le_of_ble_eq_true rfl⟩) rfl hl.1 rfl (lv_room (Nat.le_of_ble_eq_true rfl)) dL_isSo_52 ⟨Nat.le_of_ble_eq_true rfl, Nat.le_of_ble_eq_true rfl⟩ (fun H locs r_52 σ_52 θ_52 hp_52 hw => ?_)
  obtain ⟨h1, h2, h3⟩ := hp_52
  rw [h2, h3] at hw
  rw [h1]
  refine lv_bipush (v := (-30)) hx hb dL_isSo_55 (by decide) ?_
  refine lv_icmp_ne (tgt := 116) hx hb dL_isSo_57 (by decide) (fun c_57 => absurd (by decide) c_57) (fun c_57 => ?_)
  refine lv_aload_n hx hb dL_isSo_60 rfl (lv_at hl 0 rfl) ?_
  refine lv_iconst (v := 4) hx hb dL_isSo_61 (by decide) ?_
  refine lv_iconst (v := 0) hx hb dL_isSo_62 (by decide) ?_
  refine lv_bipush (v := 10) hx hb dL_isSo_63 (by decide) ?_
  refine lz_callH CF hTh hN hA hw (As := [.ref (a 0), .int 4, .int 0, .int 10]) (rest := []) (jL_asks_4 l hfl k a q hsep σ θ 0 10 (by decide +kernel)) (fun _ _ _ _ _ => trivial) (fun _ _ _ => trivial) (vx_cwSW 4 hts gL_isSo_L_asks rfl rfl rfl (by decide +kernel) ⟨Nat.le_of_ble_eq_true rfl, Nat.le_of_ble_eq_true rfl⟩) rfl hl.1 rfl (lv_room (Nat.le_of_ble_eq_true rfl)) dL_isSo_65 ⟨Nat.le_of_ble_eq_true rfl, Nat.le_of_ble_eq_true rfl⟩ (fun H locs r_65 σ_65 θ_65 hp_65 hw => ?_)
  obtain ⟨h1, h2, h3⟩ := hp_65
  rw [h2, h3] at hw
  rw [h1]
  refine lv_bipush (v := (-30)) hx hb dL_isSo_68 (by decide) ?_
  refine lv_icmp_ne (tgt := 116) hx hb dL_isSo_70 (by decide) (fun c_70 => absurd (by decide) c_70) (fun c_70 => ?_)
  refine lv_aload_n hx hb dL_isSo_73 rfl (lv_at hl 0 rfl) ?_
  refine lv_iconst (v := 5) hx hb dL_isSo_74 (by decide) ?_
  refine lv_iconst (v := (-1)) hx hb dL_isSo_75 (by decide) ?_
  refine lv_iconst (v := 0) hx hb dL_isSo_76 (by decide) ?_
  refine lz_callH CF hTh hN hA hw (As := [.ref (a 0), .int 5, .int (-1), .int 0]) (rest := []) (jL_asks_5 l hfl k a q hsep σ θ (-1) 0 (by decide +kernel)) (fun _ _ _ _ _ => trivial) (fun _ _ _ => trivial) (vx_cwSW 4 hts gL_isSo_L_asks rfl rfl rfl (by decide +kernel) ⟨Nat.le_of_ble_eq_true rfl, Nat.le_of_ble_eq_true rfl⟩) rfl hl.1 rfl (lv_room (Nat.le_of_ble_eq_true rfl)) dL_isSo_77 ⟨Nat.le_of_ble_eq_true rfl, Nat.le_of_ble_eq_true rfl⟩ (fun H locs r_77 σ_77 θ_77 hp_77 hw => ?_)
  obtain ⟨h1, h2, h3⟩ := hp_77
  rw [h2, h3] at hw
  rw [h1]
  refine lv_bipush (v := (-30)) hx hb dL_isSo_80 (by decide) ?_
  refine lv_icmp_ne (tgt := 116) hx hb dL_isSo_82 (by decide) (fun c_82 => absurd (by decide) c_82) (fun c_82 => ?_)
  refine lv_aload_n hx hb dL_isSo_85 rfl (lv_at hl 0 rfl) ?_
  refine lv_bipush (v := 6) hx hb dL_isSo_86 (by decide) ?_
  refine lv_bipush (v := 10) hx hb dL_isSo_88 (by decide) ?_
  refine lv_iconst (v := 0) hx hb dL_isSo_90 (by decide) ?_
  refine lz_callH CF hTh hN hA hw (As := [.ref (a 0), .int 6, .int 10, .int 0]) (rest := []) (jL_asks_6 l hfl k a q hsep σ θ 10 0 (by decide +kernel)) (fun _ _ _ _ _ => trivial) (fun _ _ _ => trivial) (vx_cwSW 4 hts gL_isSo_L_asks rfl rfl rfl (by decide +kernel) ⟨Nat.le_of_ble_eq_true rfl, Nat.le_of_ble_eq_true rfl⟩) rfl hl.1 rfl (lv_room (Nat.le_of_ble_eq_true rfl)) dL_isSo_91 ⟨Nat.le_of_ble_eq_true rfl, Nat.le_of_ble_eq_true rfl⟩ (fun H locs r_91 σ_91 θ_91 hp_91 hw => ?_)
  obtain ⟨h1, h2, h3⟩ := hp_91
  rw [h2, h3] at hw
  rw [h1]
  refine lv_bipush (v := (-30)) hx hb dL_isSo_94 (by decide) ?_
  refine lv_icmp_ne (tgt := 116) hx hb dL_isSo_96 (by decide) (fun c_96 => absurd (by decide) c_96) (fun c_96 => ?_)
  refine lv_aload_n hx hb dL_isSo_99 rfl (lv_at hl 0 rfl) ?_
  refine lv_bipush (v := 7) hx hb dL_isSo_100 (by decide) ?_
  refine lv_iconst (v := (-1)) hx hb dL_isSo_102 (by decide) ?_
  refine lv_iconst (v := 0) hx hb dL_isSo_103 (by decide) ?_
  refine lz_callH CF hTh hN hA hw (As := [.ref (a 0), .int 7, .int (-1), .int 0]) (rest := []) (jL_asks_7 l hfl k a q hsep σ θ (-1) 0 (by decide +kernel)) (fun _ _ _ _ _ => trivial) (fun _ _ _ => trivial) (vx_cwSW 4 hts gL_isSo_L_asks rfl rfl rfl (by decide +kernel) ⟨Nat.le_of_ble_eq_true rfl, Nat.le_of_ble_eq_true rfl⟩) rfl hl.1 rfl (lv_room (Nat.le_of_ble_eq_true rfl)) dL_isSo_104 ⟨Nat.le_of_ble_eq_true rfl, Nat.le_of_ble_eq_true rfl⟩ (fun H locs r_104 σ_104 θ_104 hp_104 hw => ?_)
  obtain ⟨h1, h2, h3⟩ := hp_104
  rw [h2, h3] at hw
  rw [h1]
  refine lv_bipush (v := (-30)) hx hb dL_isSo_107 (by decide) ?_
  refine lv_icmp_ne (tgt := 116) hx hb dL_isSo_109 (by decide) (fun c_109 => absurd (by decide) c_109) (fun c_109 => ?_)
  refine lv_iconst (v := 1) hx hb dL_isSo_112 (by decide) ?_
  refine lv_goto (tgt := 117) hx hb dL_isSo_113 (by decide) ?_
  refine lv_istore (lv' := [(6, .int 1), (0, .ref (a 0)), (1, .ref (q 0)), (2, .ref (q 1)), (3, .ref (q 2)), (4, .int (nI n)), (5, .int (nI o))]) hx hb dL_isSo_117 hl (by decide) rfl (fun ls hl => ?_)
  refine lv_iconst (v := 0) hx hb dL_isSo_119 (by decide) ?_
  refine lv_istore (lv' := [(7, .int (nI 0)), (6, .int 1), (0, .ref (a 0)), (1, .ref (q 0)), (2, .ref (q 1)), (3, .ref (q 2)), (4, .int (nI n)), (5, .int (nI o))]) hx hb dL_isSo_120 hl (by decide) rfl (fun ls hl => ?_)
  exact lp 10 0 rfl _ _ _ _ _ hw (lv_sub hl [2, 3, 4, 5, 6, 7, 1, 0] rfl) (Nat.le_of_ble_eq_true rfl) (Nat.le_of_ble_eq_true rfl)

set_option maxHeartbeats 4000000 in
set_option maxRecDepth 100000 in
theorem jL_told_0 (l : Launch) (hfl : l.stackTraces = false) (k : rm_K) (a : Nat → Nat) (ha : rm_inj a) (σ : rm_St) (x y z w : Int32) : rm_XI l k a yL_told wsL_told ({ frames := 9, cells := 4, slots := 24, locals := 152 }) [.int 0, .int x, .int y, .int z, .int w] σ (rm_tSet x y z w) 0 (rm_setS σ x y z w) := by
  intro sz
  refine vx_ofW (cc := cL_told) (maxL := 6) (ret := some .int) (by decide) rfl ?_
  intro p e s m args below meth c s₁ B hml htab hv
  obtain ⟨rfl, hsz, hP, hTh⟩ := hv
  have hx := B.exec
  have hb := B.bytes
  have hr := B.returns
  have hlocks := B.notSynchronized
  have hts := atoms_spec (ws := wsL_told) B.pre
  have hown : s.vm.findClass RL = some m.cls := findClass_of_methodNamed B.named
  subst hsz
  have CF : CallFix p m c cL_told 6 s _ wsL_told RL := ⟨hx, hb, hml, hown, hts⟩
  have hw := rm_start ha hP
  have hl := lv_entry ([.ref (a 0), .int 0, .int x, .int y, .int z, .int w]) (n := 6) (Nat.le_of_ble_eq_true rfl)
  rw [lg_entry_eq]
  generalize (lg_sl ([.ref (a 0), .int 0, .int x, .int y, .int z, .int w]) ++ List.replicate (6 - (lg_sl ([.ref (a 0), .int 0, .int x, .int y, .int z, .int w])).length) Slot.unset).toArray = ls at hl ⊢
  have hl : lv_has ls 6 [(0, .ref (a 0)), (1, .int 0), (2, .int x), (3, .int y), (4, .int z), (5, .int w)] := hl
  refine lv_iload_n hx hb dL_told_0 rfl (lv_at hl 1 rfl) ?_
  refine lv_if_ne (tgt := 17) hx hb dL_told_1 (by decide) (fun c1 => absurd rfl c1) (fun c1 => ?_)
  refine lv_aload_n hx hb dL_told_4 rfl (lv_at hl 0 rfl) ?_
  refine lv_iload_n hx hb dL_told_5 rfl (lv_at hl 2 rfl) ?_
  refine lv_iload_n hx hb dL_told_6 rfl (lv_at hl 3 rfl) ?_
  refine lv_iload hx hb dL_told_7 (lv_at hl 4 rfl) ?_
  refine lv_iload hx hb dL_told_9 (lv_at hl 5 rfl) ?_
  refine lt_callV CF hlocks htab hTh hw (As := [.int x, .int y, .int z, .int w]) (rest := []) (kX0_setRules l hfl k a ha σ x y z w) (cwV 4 hts gL_told_X0_setRules rfl rfl rfl (by decide +kernel) ⟨Nat.le_of_ble_eq_true rfl, Nat.le_of_ble_eq_true rfl⟩) rfl hl.1 rfl (lv_room (Nat.le_of_ble_eq_true rfl)) dL_told_11 ⟨Nat.le_of_ble_eq_true rfl, Nat.le_of_ble_eq_true rfl⟩ (Nat.le_of_ble_eq_true rfl) (Nat.le_of_ble_eq_true rfl) (fun hthr H locs hw => ?_)
  refine lv_goto (tgt := 22) hx hb dL_told_14 (by decide) ?_
  refine lv_iconst (v := 0) hx hb dL_told_22 (by decide) ?_
  exact W.widen (k := 4) (n := 24) (Nat.le_of_ble_eq_true rfl) (Nat.le_of_ble_eq_true rfl) (vx_ret (W.iret (v := 0) hx hb hr (fun t ht hW => ⟨⟨0, _, rfl, ⟨hthr, rfl, rfl⟩, (rm_end hw ht hW).1⟩, (rm_end hw ht hW).2⟩) hw.2.2.2.2.2 dL_told_23 hlocks))
set_option maxHeartbeats 4000000 in
set_option maxRecDepth 100000 in
theorem jL_told_1 (l : Launch) (hfl : l.stackTraces = false) (k : rm_K) (a : Nat → Nat) (ha : rm_inj a) (σ : rm_St) (x y z w : Int32) : rm_XI l k a yL_told wsL_told ({ frames := 9, cells := 4, slots := 24, locals := 152 }) [.int 1, .int x, .int y, .int z, .int w] σ (rm_tRoot σ x) 0 (rm_choose (rm_reset (rm_clear (rm_up σ 5 x.toNatClampNeg 0) x.toNatClampNeg) x.toNatClampNeg) x.toNatClampNeg) := by
  intro sz
  refine vx_ofW (cc := cL_told) (maxL := 6) (ret := some .int) (by decide) rfl ?_
  intro p e s m args below meth c s₁ B hml htab hv
  obtain ⟨rfl, hsz, hP, hTh⟩ := hv
  have hx := B.exec
  have hb := B.bytes
  have hr := B.returns
  have hlocks := B.notSynchronized
  have hts := atoms_spec (ws := wsL_told) B.pre
  have hown : s.vm.findClass RL = some m.cls := findClass_of_methodNamed B.named
  subst hsz
  have CF : CallFix p m c cL_told 6 s _ wsL_told RL := ⟨hx, hb, hml, hown, hts⟩
  have hw := rm_start ha hP
  have hl := lv_entry ([.ref (a 0), .int 1, .int x, .int y, .int z, .int w]) (n := 6) (Nat.le_of_ble_eq_true rfl)
  rw [lg_entry_eq]
  generalize (lg_sl ([.ref (a 0), .int 1, .int x, .int y, .int z, .int w]) ++ List.replicate (6 - (lg_sl ([.ref (a 0), .int 1, .int x, .int y, .int z, .int w])).length) Slot.unset).toArray = ls at hl ⊢
  have hl : lv_has ls 6 [(0, .ref (a 0)), (1, .int 1), (2, .int x), (3, .int y), (4, .int z), (5, .int w)] := hl
  refine lv_iload_n hx hb dL_told_0 rfl (lv_at hl 1 rfl) ?_
  refine lv_if_ne (tgt := 17) hx hb dL_told_1 (by decide) (fun c1 => ?_) (fun c1 => absurd c1 (by decide))
  refine lv_aload_n hx hb dL_told_17 rfl (lv_at hl 0 rfl) ?_
  refine lv_iload_n hx hb dL_told_18 rfl (lv_at hl 2 rfl) ?_
  refine lt_callV CF hlocks htab hTh hw (As := [.int x]) (rest := []) (kX0_endRoot l hfl k a ha σ x) (cwV 1 hts gL_told_X0_endRoot rfl rfl rfl (by decide +kernel) ⟨Nat.le_of_ble_eq_true rfl, Nat.le_of_ble_eq_true rfl⟩) rfl hl.1 rfl (lv_room (Nat.le_of_ble_eq_true rfl)) dL_told_19 ⟨Nat.le_of_ble_eq_true rfl, Nat.le_of_ble_eq_true rfl⟩ (Nat.le_of_ble_eq_true rfl) (Nat.le_of_ble_eq_true rfl) (fun hthr H locs hw => ?_)
  refine lv_iconst (v := 0) hx hb dL_told_22 (by decide) ?_
  exact W.widen (k := 4) (n := 24) (Nat.le_of_ble_eq_true rfl) (Nat.le_of_ble_eq_true rfl) (vx_ret (W.iret (v := 0) hx hb hr (fun t ht hW => ⟨⟨0, _, rfl, ⟨hthr, rfl, rfl⟩, (rm_end hw ht hW).1⟩, (rm_end hw ht hW).2⟩) hw.2.2.2.2.2 dL_told_23 hlocks))
theorem lz_code_some (E : String) (r : Int32) : lz_code (some E) r = if E = rm_IO then -30 else if E = rm_IA then -20 else -10 := rfl
theorem lz_code_IO {r : Int32} : lz_code (some "java/lang/IndexOutOfBoundsException") r = -30 := (lz_code_some _ _).trans (if_pos rfl)
theorem lz_code_IA {r : Int32} : lz_code (some "java/lang/IllegalArgumentException") r = -20 := by rw [lz_code_some, if_neg (by decide), if_pos (show "java/lang/IllegalArgumentException" = rm_IA from rfl)]
theorem lz_code_IS {r : Int32} : lz_code (some "java/lang/IllegalStateException") r = -10 := by rw [lz_code_some, if_neg (by decide), if_neg (by decide)]
set_option maxHeartbeats 4000000 in
set_option maxRecDepth 100000 in
theorem jL_does_0 (l : Launch) (hfl : l.stackTraces = false) (k : rm_K) (a q : Nat → Nat) (hsep : lz_sep a q) (σ θ : rm_St) (x y z w : Int32) : lz_M l k a q (fun _ => True) yL_does wsL_does ({ frames := 10, cells := 4, slots := 24, locals := 181 }) [.ref (a 0), .int 0, .int x, .int y, .int z, .int w] σ θ (fun r σ1 θ1 => r = lz_code (rm_tSet x y z w) 0 ∧ σ1 = rl_s (rm_setS σ x y z w) σ (rm_tSet x y z w) ∧ θ1 = θ) := by
  intro sz
  refine lz_ofWH (hh := [(0, 80, 81, 42), (0, 80, 86, 44), (0, 80, 91, 46)]) (cc := cL_does) (maxL := 7) (ret := some .int) (by decide) rfl ?_
  intro p e s m args below meth c s₁ B hml hv
  obtain ⟨rfl, hsz, hP, hTh, hN, -⟩ := hv
  have hx := B.exec
  have hb := B.bytes
  have hr := B.returns
  have hts := atoms_spec (ws := wsL_does) B.pre
  have hown : s.vm.findClass RL = some m.cls := findClass_of_methodNamed B.named
  have hlocks := B.notSynchronized
  have htab := vx_table (x := yL_does) B (hts _ List.mem_cons_self)
  subst hsz
  have CF : CallFix p m c cL_does 7 s _ wsL_does RL := ⟨hx, hb, hml, hown, hts⟩
  have hA : ∀ x, s.heap.size ≤ x → lz_A a q s.heap.size x := fun x h => Or.inl (Or.inr h)
  have hw := lz_start hsep hP
  have hl := lv_entry ([.ref (a 0), .int 0, .int x, .int y, .int z, .int w]) (n := 7) (Nat.le_of_ble_eq_true rfl)
  rw [lg_entry_eq]
  generalize (lg_sl ([.ref (a 0), .int 0, .int x, .int y, .int z, .int w]) ++ List.replicate (7 - (lg_sl ([.ref (a 0), .int 0, .int x, .int y, .int z, .int w])).length) Slot.unset).toArray = ls at hl ⊢
  have hl : lv_has ls 7 [(0, .ref (a 0)), (1, .int 0), (2, .int x), (3, .int y), (4, .int z), (5, .int w)] := hl
  refine lv_iload_n hx hb dL_does_0 rfl (lv_at hl 1 rfl) ?_
  refine lv_iconst (v := 2) hx hb dL_does_1 (by decide) ?_
  refine lv_icmp_ge (tgt := 19) hx hb dL_does_2 (by decide) (fun c_2 => absurd c_2 (by decide)) (fun c_2 => ?_)
  refine lv_aload_n hx hb dL_does_5 rfl (lv_at hl 0 rfl) ?_
  refine lv_iload_n hx hb dL_does_6 rfl (lv_at hl 1 rfl) ?_
  refine lv_iload_n hx hb dL_does_7 rfl (lv_at hl 2 rfl) ?_
  refine lv_iload_n hx hb dL_does_8 rfl (lv_at hl 3 rfl) ?_
  refine lv_iload hx hb dL_does_9 (lv_at hl 4 rfl) ?_
  refine lv_iload hx hb dL_does_11 (lv_at hl 5 rfl) ?_
  refine lz_callT CF hTh hA hw (As := [.int 0, .int x, .int y, .int z, .int w]) (rest := []) (jL_told_0 l hfl k a hsep.1 σ x y z w) (va_cwS 6 hts gL_does_L_told rfl rfl rfl (by decide +kernel) ⟨Nat.le_of_ble_eq_true rfl, Nat.le_of_ble_eq_true rfl⟩) rfl hl.1 rfl (lv_room (Nat.le_of_ble_eq_true rfl)) dL_does_13 ⟨Nat.le_of_ble_eq_true rfl, Nat.le_of_ble_eq_true rfl⟩ ?_ ?_
  · intro E ce q9 H locs hthr hw hce hcv hcl
    obtain rfl := rm_tSet_c hthr
    refine vx_catch (name := "java/lang/IllegalArgumentException") hown [(⟨0, 80, 81, 42⟩ : ExceptionTableEntry)] (⟨0, 80, 86, 44⟩ : ExceptionTableEntry) [(⟨0, 80, 91, 46⟩ : ExceptionTableEntry)] (by rw [htab]; rfl) (fun z hz => by
      have hz := List.mem_singleton.mp hz
      subst hz
      exact Or.inr ⟨by decide, "java/lang/IndexOutOfBoundsException", hts (.classLink RL 42 "java/lang/IndexOutOfBoundsException") (by decide +kernel), hN.1⟩) (by decide) (by decide) (hts (.classLink RL 44 "java/lang/IllegalArgumentException") (by decide +kernel)) (hTh.2.2.2.2.2.2.2.1.use rfl) hce hcv hcl ?_
    refine lv_astore (lv' := [(6, .ref q9), (0, .ref (a 0)), (1, .int 0), (2, .int x), (3, .int y), (4, .int z), (5, .int w)]) hx hb dL_does_86 hl (by decide) rfl (fun ls hl => ?_)
    refine lv_bipush (v := (-20)) hx hb dL_does_88 (by decide) ?_
    exact lz_iret (post := (fun r σ1 θ1 => r = lz_code (rm_tSet x y z w) 0 ∧ σ1 = rl_s (rm_setS σ x y z w) σ (rm_tSet x y z w) ∧ θ1 = θ)) CF hr hlocks hw (Nat.le_of_ble_eq_true rfl) (Nat.le_of_ble_eq_true rfl) dL_does_90 ⟨by rw [hthr]; exact lz_code_IA.symm, by rw [hthr]; rfl, rfl⟩
  · intro hthr H locs hw
    refine lv_goto (tgt := 80) hx hb dL_does_16 (by decide) ?_
    exact lz_iret (post := (fun r σ1 θ1 => r = lz_code (rm_tSet x y z w) 0 ∧ σ1 = rl_s (rm_setS σ x y z w) σ (rm_tSet x y z w) ∧ θ1 = θ)) CF hr hlocks hw (Nat.le_of_ble_eq_true rfl) (Nat.le_of_ble_eq_true rfl) dL_does_80 ⟨by rw [hthr]; rfl, by rw [hthr]; rfl, rfl⟩
set_option maxHeartbeats 4000000 in
set_option maxRecDepth 100000 in
theorem jL_does_1 (l : Launch) (hfl : l.stackTraces = false) (k : rm_K) (a q : Nat → Nat) (hsep : lz_sep a q) (σ θ : rm_St) (x y z w : Int32) : lz_M l k a q (fun _ => True) yL_does wsL_does ({ frames := 10, cells := 4, slots := 24, locals := 181 }) [.ref (a 0), .int 1, .int x, .int y, .int z, .int w] σ θ (fun r σ1 θ1 => r = lz_code (rm_tRoot σ x) 0 ∧ σ1 = rl_s (rm_choose (rm_reset (rm_clear (rm_up σ 5 x.toNatClampNeg 0) x.toNatClampNeg) x.toNatClampNeg) x.toNatClampNeg) σ (rm_tRoot σ x) ∧ θ1 = θ) := by
  intro sz
  refine lz_ofWH (hh := [(0, 80, 81, 42), (0, 80, 86, 44), (0, 80, 91, 46)]) (cc := cL_does) (maxL := 7) (ret := some .int) (by decide) rfl ?_
  intro p e s m args below meth c s₁ B hml hv
  obtain ⟨rfl, hsz, hP, hTh, hN, -⟩ := hv
  have hx := B.exec
  have hb := B.bytes
  have hr := B.returns
  have hts := atoms_spec (ws := wsL_does) B.pre
  have hown : s.vm.findClass RL = some m.cls := findClass_of_methodNamed B.named
  have hlocks := B.notSynchronized
  have htab := vx_table (x := yL_does) B (hts _ List.mem_cons_self)
  subst hsz
  have CF : CallFix p m c cL_does 7 s _ wsL_does RL := ⟨hx, hb, hml, hown, hts⟩
  have hA : ∀ x, s.heap.size ≤ x → lz_A a q s.heap.size x := fun x h => Or.inl (Or.inr h)
  have hw := lz_start hsep hP
  have hl := lv_entry ([.ref (a 0), .int 1, .int x, .int y, .int z, .int w]) (n := 7) (Nat.le_of_ble_eq_true rfl)
  rw [lg_entry_eq]
  generalize (lg_sl ([.ref (a 0), .int 1, .int x, .int y, .int z, .int w]) ++ List.replicate (7 - (lg_sl ([.ref (a 0), .int 1, .int x, .int y, .int z, .int w])).length) Slot.unset).toArray = ls at hl ⊢
  have hl : lv_has ls 7 [(0, .ref (a 0)), (1, .int 1), (2, .int x), (3, .int y), (4, .int z), (5, .int w)] := hl
  refine lv_iload_n hx hb dL_does_0 rfl (lv_at hl 1 rfl) ?_
  refine lv_iconst (v := 2) hx hb dL_does_1 (by decide) ?_
  refine lv_icmp_ge (tgt := 19) hx hb dL_does_2 (by decide) (fun c_2 => absurd c_2 (by decide)) (fun c_2 => ?_)
  refine lv_aload_n hx hb dL_does_5 rfl (lv_at hl 0 rfl) ?_
  refine lv_iload_n hx hb dL_does_6 rfl (lv_at hl 1 rfl) ?_
  refine lv_iload_n hx hb dL_does_7 rfl (lv_at hl 2 rfl) ?_
  refine lv_iload_n hx hb dL_does_8 rfl (lv_at hl 3 rfl) ?_
  refine lv_iload hx hb dL_does_9 (lv_at hl 4 rfl) ?_
  refine lv_iload hx hb dL_does_11 (lv_at hl 5 rfl) ?_
  refine lz_callT CF hTh hA hw (As := [.int 1, .int x, .int y, .int z, .int w]) (rest := []) (jL_told_1 l hfl k a hsep.1 σ x y z w) (va_cwS 6 hts gL_does_L_told rfl rfl rfl (by decide +kernel) ⟨Nat.le_of_ble_eq_true rfl, Nat.le_of_ble_eq_true rfl⟩) rfl hl.1 rfl (lv_room (Nat.le_of_ble_eq_true rfl)) dL_does_13 ⟨Nat.le_of_ble_eq_true rfl, Nat.le_of_ble_eq_true rfl⟩ ?_ ?_
  · intro E ce q9 H locs hthr hw hce hcv hcl
    rcases rm_tRoot_c hthr with rfl | rfl
    · skip
      refine vx_catch (name := "java/lang/IndexOutOfBoundsException") hown [] (⟨0, 80, 81, 42⟩ : ExceptionTableEntry) [(⟨0, 80, 86, 44⟩ : ExceptionTableEntry), (⟨0, 80, 91, 46⟩ : ExceptionTableEntry)] (by rw [htab]; rfl) (fun z hz => nomatch hz) (by decide) (by decide) (hts (.classLink RL 42 "java/lang/IndexOutOfBoundsException") (by decide +kernel)) (hTh.2.2.2.2.2.2.1.use rfl) hce hcv hcl ?_
      refine lv_astore (lv' := [(6, .ref q9), (0, .ref (a 0)), (1, .int 1), (2, .int x), (3, .int y), (4, .int z), (5, .int w)]) hx hb dL_does_81 hl (by decide) rfl (fun ls hl => ?_)
      refine lv_bipush (v := (-30)) hx hb dL_does_83 (by decide) ?_
      exact lz_iret (post := (fun r σ1 θ1 => r = lz_code (rm_tRoot σ x) 0 ∧ σ1 = rl_s (rm_choose (rm_reset (rm_clear (rm_up σ 5 x.toNatClampNeg 0) x.toNatClampNeg) x.toNatClampNeg) x.toNatClampNeg) σ (rm_tRoot σ x) ∧ θ1 = θ)) CF hr hlocks hw (Nat.le_of_ble_eq_true rfl) (Nat.le_of_ble_eq_true rfl) dL_does_85 ⟨by rw [hthr]; exact lz_code_IO.symm, by rw [hthr]; rfl, rfl⟩
    · skip
      refine vx_catch (name := "java/lang/IllegalStateException") hown [(⟨0, 80, 81, 42⟩ : ExceptionTableEntry), (⟨0, 80, 86, 44⟩ : ExceptionTableEntry)] (⟨0, 80, 91, 46⟩ : ExceptionTableEntry) [] (by rw [htab]; rfl) (fun z hz => by
        rcases List.mem_cons.mp hz with hz | hz
        · subst hz
          exact Or.inr ⟨by decide, "java/lang/IndexOutOfBoundsException", hts (.classLink RL 42 "java/lang/IndexOutOfBoundsException") (by decide +kernel), hN.2.1⟩
        · have hz := List.mem_singleton.mp hz
          subst hz
          exact Or.inr ⟨by decide, "java/lang/IllegalArgumentException", hts (.classLink RL 44 "java/lang/IllegalArgumentException") (by decide +kernel), hN.2.2⟩) (by decide) (by decide) (hts (.classLink RL 46 "java/lang/IllegalStateException") (by decide +kernel)) (hTh.2.2.2.2.2.2.2.2.use rfl) hce hcv hcl ?_
      refine lv_astore (lv' := [(6, .ref q9), (0, .ref (a 0)), (1, .int 1), (2, .int x), (3, .int y), (4, .int z), (5, .int w)]) hx hb dL_does_91 hl (by decide) rfl (fun ls hl => ?_)
      refine lv_bipush (v := (-10)) hx hb dL_does_93 (by decide) ?_
      exact lz_iret (post := (fun r σ1 θ1 => r = lz_code (rm_tRoot σ x) 0 ∧ σ1 = rl_s (rm_choose (rm_reset (rm_clear (rm_up σ 5 x.toNatClampNeg 0) x.toNatClampNeg) x.toNatClampNeg) x.toNatClampNeg) σ (rm_tRoot σ x) ∧ θ1 = θ)) CF hr hlocks hw (Nat.le_of_ble_eq_true rfl) (Nat.le_of_ble_eq_true rfl) dL_does_95 ⟨by rw [hthr]; exact lz_code_IS.symm, by rw [hthr]; rfl, rfl⟩
  · intro hthr H locs hw
    refine lv_goto (tgt := 80) hx hb dL_does_16 (by decide) ?_
    exact lz_iret (post := (fun r σ1 θ1 => r = lz_code (rm_tRoot σ x) 0 ∧ σ1 = rl_s (rm_choose (rm_reset (rm_clear (rm_up σ 5 x.toNatClampNeg 0) x.toNatClampNeg) x.toNatClampNeg) x.toNatClampNeg) σ (rm_tRoot σ x) ∧ θ1 = θ)) CF hr hlocks hw (Nat.le_of_ble_eq_true rfl) (Nat.le_of_ble_eq_true rfl) dL_does_80 ⟨by rw [hthr]; rfl, by rw [hthr]; rfl, rfl⟩
set_option maxHeartbeats 4000000 in
set_option maxRecDepth 100000 in
theorem jL_does_2 (l : Launch) (hfl : l.stackTraces = false) (k : rm_K) (a q : Nat → Nat) (hsep : lz_sep a q) (σ θ : rm_St) (x y z w : Int32) : lz_M l k a q (fun _ => True) yL_does wsL_does ({ frames := 10, cells := 4, slots := 24, locals := 181 }) [.ref (a 0), .int 2, .int x, .int y, .int z, .int w] σ θ (fun r σ1 θ1 => r = lz_code (rm_tLink x y z) (σ (15 + x.toNatClampNeg) y.toNatClampNeg) ∧ σ1 = rl_s (rm_linkS σ x y z) σ (rm_tLink x y z) ∧ θ1 = θ) := by
  intro sz
  refine lz_ofWH (hh := [(0, 80, 81, 42), (0, 80, 86, 44), (0, 80, 91, 46)]) (cc := cL_does) (maxL := 7) (ret := some .int) (by decide) rfl ?_
  intro p e s m args below meth c s₁ B hml hv
  obtain ⟨rfl, hsz, hP, hTh, hN, -⟩ := hv
  have hx := B.exec
  have hb := B.bytes
  have hr := B.returns
  have hts := atoms_spec (ws := wsL_does) B.pre
  have hown : s.vm.findClass RL = some m.cls := findClass_of_methodNamed B.named
  have hlocks := B.notSynchronized
  have htab := vx_table (x := yL_does) B (hts _ List.mem_cons_self)
  subst hsz
  have CF : CallFix p m c cL_does 7 s _ wsL_does RL := ⟨hx, hb, hml, hown, hts⟩
  have hA : ∀ x, s.heap.size ≤ x → lz_A a q s.heap.size x := fun x h => Or.inl (Or.inr h)
  have hw := lz_start hsep hP
  have hl := lv_entry ([.ref (a 0), .int 2, .int x, .int y, .int z, .int w]) (n := 7) (Nat.le_of_ble_eq_true rfl)
  rw [lg_entry_eq]
  generalize (lg_sl ([.ref (a 0), .int 2, .int x, .int y, .int z, .int w]) ++ List.replicate (7 - (lg_sl ([.ref (a 0), .int 2, .int x, .int y, .int z, .int w])).length) Slot.unset).toArray = ls at hl ⊢
  have hl : lv_has ls 7 [(0, .ref (a 0)), (1, .int 2), (2, .int x), (3, .int y), (4, .int z), (5, .int w)] := hl
  refine lv_iload_n hx hb dL_does_0 rfl (lv_at hl 1 rfl) ?_
  refine lv_iconst (v := 2) hx hb dL_does_1 (by decide) ?_
  refine lv_icmp_ge (tgt := 19) hx hb dL_does_2 (by decide) (fun c_2 => ?_) (fun c_2 => absurd (by decide) c_2)
  refine lv_iload_n hx hb dL_does_19 rfl (lv_at hl 1 rfl) ?_
  refine lv_iconst (v := 2) hx hb dL_does_20 (by decide) ?_
  refine lv_icmp_ne (tgt := 35) hx hb dL_does_21 (by decide) (fun c_21 => absurd (by decide) c_21) (fun c_21 => ?_)
  refine lv_aload_n hx hb dL_does_24 rfl (lv_at hl 0 rfl) ?_
  refine lv_iload_n hx hb dL_does_25 rfl (lv_at hl 2 rfl) ?_
  refine lv_iload_n hx hb dL_does_26 rfl (lv_at hl 3 rfl) ?_
  refine lv_iload hx hb dL_does_27 (lv_at hl 4 rfl) ?_
  refine lz_callX CF hTh hA hw (As := [.int x, .int y, .int z]) (rest := []) (kX0_link l hfl k a hsep.1 σ x y z) (cwV 3 hts gL_does_X0_link rfl rfl rfl (by decide +kernel) ⟨Nat.le_of_ble_eq_true rfl, Nat.le_of_ble_eq_true rfl⟩) rfl hl.1 rfl (lv_room (Nat.le_of_ble_eq_true rfl)) dL_does_29 ⟨Nat.le_of_ble_eq_true rfl, Nat.le_of_ble_eq_true rfl⟩ ?_ ?_
  · intro E ce q9 H locs hthr hw hce hcv hcl
    rcases rm_tLink_c hthr with rfl | rfl
    · skip
      refine vx_catch (name := "java/lang/IndexOutOfBoundsException") hown [] (⟨0, 80, 81, 42⟩ : ExceptionTableEntry) [(⟨0, 80, 86, 44⟩ : ExceptionTableEntry), (⟨0, 80, 91, 46⟩ : ExceptionTableEntry)] (by rw [htab]; rfl) (fun z hz => nomatch hz) (by decide) (by decide) (hts (.classLink RL 42 "java/lang/IndexOutOfBoundsException") (by decide +kernel)) (hTh.2.2.2.2.2.2.1.use rfl) hce hcv hcl ?_
      refine lv_astore (lv' := [(6, .ref q9), (0, .ref (a 0)), (1, .int 2), (2, .int x), (3, .int y), (4, .int z), (5, .int w)]) hx hb dL_does_81 hl (by decide) rfl (fun ls hl => ?_)
      refine lv_bipush (v := (-30)) hx hb dL_does_83 (by decide) ?_
      exact lz_iret (post := (fun r σ1 θ1 => r = lz_code (rm_tLink x y z) (σ (15 + x.toNatClampNeg) y.toNatClampNeg) ∧ σ1 = rl_s (rm_linkS σ x y z) σ (rm_tLink x y z) ∧ θ1 = θ)) CF hr hlocks hw (Nat.le_of_ble_eq_true rfl) (Nat.le_of_ble_eq_true rfl) dL_does_85 ⟨by rw [hthr]; exact lz_code_IO.symm, by rw [hthr]; rfl, rfl⟩
    · skip
      refine vx_catch (name := "java/lang/IllegalArgumentException") hown [(⟨0, 80, 81, 42⟩ : ExceptionTableEntry)] (⟨0, 80, 86, 44⟩ : ExceptionTableEntry) [(⟨0, 80, 91, 46⟩ : ExceptionTableEntry)] (by rw [htab]; rfl) (fun z hz => by
        have hz := List.mem_singleton.mp hz
        subst hz
        exact Or.inr ⟨by decide, "java/lang/IndexOutOfBoundsException", hts (.classLink RL 42 "java/lang/IndexOutOfBoundsException") (by decide +kernel), hN.1⟩) (by decide) (by decide) (hts (.classLink RL 44 "java/lang/IllegalArgumentException") (by decide +kernel)) (hTh.2.2.2.2.2.2.2.1.use rfl) hce hcv hcl ?_
      refine lv_astore (lv' := [(6, .ref q9), (0, .ref (a 0)), (1, .int 2), (2, .int x), (3, .int y), (4, .int z), (5, .int w)]) hx hb dL_does_86 hl (by decide) rfl (fun ls hl => ?_)
      refine lv_bipush (v := (-20)) hx hb dL_does_88 (by decide) ?_
      exact lz_iret (post := (fun r σ1 θ1 => r = lz_code (rm_tLink x y z) (σ (15 + x.toNatClampNeg) y.toNatClampNeg) ∧ σ1 = rl_s (rm_linkS σ x y z) σ (rm_tLink x y z) ∧ θ1 = θ)) CF hr hlocks hw (Nat.le_of_ble_eq_true rfl) (Nat.le_of_ble_eq_true rfl) dL_does_90 ⟨by rw [hthr]; exact lz_code_IA.symm, by rw [hthr]; rfl, rfl⟩
  · intro hthr H locs hw
    refine lv_goto (tgt := 80) hx hb dL_does_32 (by decide) ?_
    exact lz_iret (post := (fun r σ1 θ1 => r = lz_code (rm_tLink x y z) (σ (15 + x.toNatClampNeg) y.toNatClampNeg) ∧ σ1 = rl_s (rm_linkS σ x y z) σ (rm_tLink x y z) ∧ θ1 = θ)) CF hr hlocks hw (Nat.le_of_ble_eq_true rfl) (Nat.le_of_ble_eq_true rfl) dL_does_80 ⟨by rw [hthr]; rfl, by rw [hthr]; rfl, rfl⟩
set_option maxHeartbeats 4000000 in
set_option maxRecDepth 100000 in
theorem jL_does_3 (l : Launch) (hfl : l.stackTraces = false) (k : rm_K) (a q : Nat → Nat) (hsep : lz_sep a q) (σ θ : rm_St) (x y z w : Int32) : lz_M l k a q (fun _ => True) yL_does wsL_does ({ frames := 10, cells := 4, slots := 24, locals := 181 }) [.ref (a 0), .int 3, .int x, .int y, .int z, .int w] σ θ (fun r σ1 θ1 => r = lz_code (rm_tMake σ x) (rm_begin (rm_mk σ x.toNatClampNeg) x.toNatClampNeg 8 x.toNatClampNeg) ∧ σ1 = rl_s (rm_begin (rm_mk σ x.toNatClampNeg) x.toNatClampNeg) σ (rm_tMake σ x) ∧ θ1 = θ) := by
  intro sz
  refine lz_ofWH (hh := [(0, 80, 81, 42), (0, 80, 86, 44), (0, 80, 91, 46)]) (cc := cL_does) (maxL := 7) (ret := some .int) (by decide) rfl ?_
  intro p e s m args below meth c s₁ B hml hv
  obtain ⟨rfl, hsz, hP, hTh, hN, -⟩ := hv
  have hx := B.exec
  have hb := B.bytes
  have hr := B.returns
  have hts := atoms_spec (ws := wsL_does) B.pre
  have hown : s.vm.findClass RL = some m.cls := findClass_of_methodNamed B.named
  have hlocks := B.notSynchronized
  have htab := vx_table (x := yL_does) B (hts _ List.mem_cons_self)
  subst hsz
  have CF : CallFix p m c cL_does 7 s _ wsL_does RL := ⟨hx, hb, hml, hown, hts⟩
  have hA : ∀ x, s.heap.size ≤ x → lz_A a q s.heap.size x := fun x h => Or.inl (Or.inr h)
  have hw := lz_start hsep hP
  have hl := lv_entry ([.ref (a 0), .int 3, .int x, .int y, .int z, .int w]) (n := 7) (Nat.le_of_ble_eq_true rfl)
  rw [lg_entry_eq]
  generalize (lg_sl ([.ref (a 0), .int 3, .int x, .int y, .int z, .int w]) ++ List.replicate (7 - (lg_sl ([.ref (a 0), .int 3, .int x, .int y, .int z, .int w])).length) Slot.unset).toArray = ls at hl ⊢
  have hl : lv_has ls 7 [(0, .ref (a 0)), (1, .int 3), (2, .int x), (3, .int y), (4, .int z), (5, .int w)] := hl
  refine lv_iload_n hx hb dL_does_0 rfl (lv_at hl 1 rfl) ?_
  refine lv_iconst (v := 2) hx hb dL_does_1 (by decide) ?_
  refine lv_icmp_ge (tgt := 19) hx hb dL_does_2 (by decide) (fun c_2 => ?_) (fun c_2 => absurd (by decide) c_2)
  refine lv_iload_n hx hb dL_does_19 rfl (lv_at hl 1 rfl) ?_
  refine lv_iconst (v := 2) hx hb dL_does_20 (by decide) ?_
  refine lv_icmp_ne (tgt := 35) hx hb dL_does_21 (by decide) (fun c_21 => ?_) (fun c_21 => absurd c_21 (by decide))
  refine lv_iload_n hx hb dL_does_35 rfl (lv_at hl 1 rfl) ?_
  refine lv_iconst (v := 3) hx hb dL_does_36 (by decide) ?_
  refine lv_icmp_ne (tgt := 48) hx hb dL_does_37 (by decide) (fun c_37 => absurd (by decide) c_37) (fun c_37 => ?_)
  refine lv_aload_n hx hb dL_does_40 rfl (lv_at hl 0 rfl) ?_
  refine lv_iload_n hx hb dL_does_41 rfl (lv_at hl 2 rfl) ?_
  refine lz_callX CF hTh hA hw (As := [.int x]) (rest := []) (kX0_makeRoot l hfl k a hsep.1 σ x) (cwV 1 hts gL_does_X0_makeRoot rfl rfl rfl (by decide +kernel) ⟨Nat.le_of_ble_eq_true rfl, Nat.le_of_ble_eq_true rfl⟩) rfl hl.1 rfl (lv_room (Nat.le_of_ble_eq_true rfl)) dL_does_42 ⟨Nat.le_of_ble_eq_true rfl, Nat.le_of_ble_eq_true rfl⟩ ?_ ?_
  · intro E ce q9 H locs hthr hw hce hcv hcl
    rcases rm_tMake_c hthr with rfl | rfl
    · skip
      refine vx_catch (name := "java/lang/IndexOutOfBoundsException") hown [] (⟨0, 80, 81, 42⟩ : ExceptionTableEntry) [(⟨0, 80, 86, 44⟩ : ExceptionTableEntry), (⟨0, 80, 91, 46⟩ : ExceptionTableEntry)] (by rw [htab]; rfl) (fun z hz => nomatch hz) (by decide) (by decide) (hts (.classLink RL 42 "java/lang/IndexOutOfBoundsException") (by decide +kernel)) (hTh.2.2.2.2.2.2.1.use rfl) hce hcv hcl ?_
      refine lv_astore (lv' := [(6, .ref q9), (0, .ref (a 0)), (1, .int 3), (2, .int x), (3, .int y), (4, .int z), (5, .int w)]) hx hb dL_does_81 hl (by decide) rfl (fun ls hl => ?_)
      refine lv_bipush (v := (-30)) hx hb dL_does_83 (by decide) ?_
      exact lz_iret (post := (fun r σ1 θ1 => r = lz_code (rm_tMake σ x) (rm_begin (rm_mk σ x.toNatClampNeg) x.toNatClampNeg 8 x.toNatClampNeg) ∧ σ1 = rl_s (rm_begin (rm_mk σ x.toNatClampNeg) x.toNatClampNeg) σ (rm_tMake σ x) ∧ θ1 = θ)) CF hr hlocks hw (Nat.le_of_ble_eq_true rfl) (Nat.le_of_ble_eq_true rfl) dL_does_85 ⟨by rw [hthr]; exact lz_code_IO.symm, by rw [hthr]; rfl, rfl⟩
    · skip
      refine vx_catch (name := "java/lang/IllegalStateException") hown [(⟨0, 80, 81, 42⟩ : ExceptionTableEntry), (⟨0, 80, 86, 44⟩ : ExceptionTableEntry)] (⟨0, 80, 91, 46⟩ : ExceptionTableEntry) [] (by rw [htab]; rfl) (fun z hz => by
        rcases List.mem_cons.mp hz with hz | hz
        · subst hz
          exact Or.inr ⟨by decide, "java/lang/IndexOutOfBoundsException", hts (.classLink RL 42 "java/lang/IndexOutOfBoundsException") (by decide +kernel), hN.2.1⟩
        · have hz := List.mem_singleton.mp hz
          subst hz
          exact Or.inr ⟨by decide, "java/lang/IllegalArgumentException", hts (.classLink RL 44 "java/lang/IllegalArgumentException") (by decide +kernel), hN.2.2⟩) (by decide) (by decide) (hts (.classLink RL 46 "java/lang/IllegalStateException") (by decide +kernel)) (hTh.2.2.2.2.2.2.2.2.use rfl) hce hcv hcl ?_
      refine lv_astore (lv' := [(6, .ref q9), (0, .ref (a 0)), (1, .int 3), (2, .int x), (3, .int y), (4, .int z), (5, .int w)]) hx hb dL_does_91 hl (by decide) rfl (fun ls hl => ?_)
      refine lv_bipush (v := (-10)) hx hb dL_does_93 (by decide) ?_
      exact lz_iret (post := (fun r σ1 θ1 => r = lz_code (rm_tMake σ x) (rm_begin (rm_mk σ x.toNatClampNeg) x.toNatClampNeg 8 x.toNatClampNeg) ∧ σ1 = rl_s (rm_begin (rm_mk σ x.toNatClampNeg) x.toNatClampNeg) σ (rm_tMake σ x) ∧ θ1 = θ)) CF hr hlocks hw (Nat.le_of_ble_eq_true rfl) (Nat.le_of_ble_eq_true rfl) dL_does_95 ⟨by rw [hthr]; exact lz_code_IS.symm, by rw [hthr]; rfl, rfl⟩
  · intro hthr H locs hw
    refine lv_goto (tgt := 80) hx hb dL_does_45 (by decide) ?_
    exact lz_iret (post := (fun r σ1 θ1 => r = lz_code (rm_tMake σ x) (rm_begin (rm_mk σ x.toNatClampNeg) x.toNatClampNeg 8 x.toNatClampNeg) ∧ σ1 = rl_s (rm_begin (rm_mk σ x.toNatClampNeg) x.toNatClampNeg) σ (rm_tMake σ x) ∧ θ1 = θ)) CF hr hlocks hw (Nat.le_of_ble_eq_true rfl) (Nat.le_of_ble_eq_true rfl) dL_does_80 ⟨by rw [hthr]; rfl, by rw [hthr]; rfl, rfl⟩
set_option maxHeartbeats 4000000 in
set_option maxRecDepth 100000 in
theorem jL_does_4 (l : Launch) (hfl : l.stackTraces = false) (k : rm_K) (a q : Nat → Nat) (hsep : lz_sep a q) (σ θ : rm_St) (x y z w : Int32) : lz_M l k a q (fun _ => True) yL_does wsL_does ({ frames := 10, cells := 4, slots := 24, locals := 181 }) [.ref (a 0), .int 4, .int x, .int y, .int z, .int w] σ θ (fun r σ1 θ1 => r = lz_code (rm_tRoot σ x) (rm_begin σ x.toNatClampNeg 8 x.toNatClampNeg) ∧ σ1 = rl_s (rm_begin σ x.toNatClampNeg) σ (rm_tRoot σ x) ∧ θ1 = θ) := by
  intro sz
  refine lz_ofWH (hh := [(0, 80, 81, 42), (0, 80, 86, 44), (0, 80, 91, 46)]) (cc := cL_does) (maxL := 7) (ret := some .int) (by decide) rfl ?_
  intro p e s m args below meth c s₁ B hml hv
  obtain ⟨rfl, hsz, hP, hTh, hN, -⟩ := hv
  have hx := B.exec
  have hb := B.bytes
  have hr := B.returns
  have hts := atoms_spec (ws := wsL_does) B.pre
  have hown : s.vm.findClass RL = some m.cls := findClass_of_methodNamed B.named
  have hlocks := B.notSynchronized
  have htab := vx_table (x := yL_does) B (hts _ List.mem_cons_self)
  subst hsz
  have CF : CallFix p m c cL_does 7 s _ wsL_does RL := ⟨hx, hb, hml, hown, hts⟩
  have hA : ∀ x, s.heap.size ≤ x → lz_A a q s.heap.size x := fun x h => Or.inl (Or.inr h)
  have hw := lz_start hsep hP
  have hl := lv_entry ([.ref (a 0), .int 4, .int x, .int y, .int z, .int w]) (n := 7) (Nat.le_of_ble_eq_true rfl)
  rw [lg_entry_eq]
  generalize (lg_sl ([.ref (a 0), .int 4, .int x, .int y, .int z, .int w]) ++ List.replicate (7 - (lg_sl ([.ref (a 0), .int 4, .int x, .int y, .int z, .int w])).length) Slot.unset).toArray = ls at hl ⊢
  have hl : lv_has ls 7 [(0, .ref (a 0)), (1, .int 4), (2, .int x), (3, .int y), (4, .int z), (5, .int w)] := hl
  refine lv_iload_n hx hb dL_does_0 rfl (lv_at hl 1 rfl) ?_
  refine lv_iconst (v := 2) hx hb dL_does_1 (by decide) ?_
  refine lv_icmp_ge (tgt := 19) hx hb dL_does_2 (by decide) (fun c_2 => ?_) (fun c_2 => absurd (by decide) c_2)
  refine lv_iload_n hx hb dL_does_19 rfl (lv_at hl 1 rfl) ?_
  refine lv_iconst (v := 2) hx hb dL_does_20 (by decide) ?_
  refine lv_icmp_ne (tgt := 35) hx hb dL_does_21 (by decide) (fun c_21 => ?_) (fun c_21 => absurd c_21 (by decide))
  refine lv_iload_n hx hb dL_does_35 rfl (lv_at hl 1 rfl) ?_
  refine lv_iconst (v := 3) hx hb dL_does_36 (by decide) ?_
  refine lv_icmp_ne (tgt := 48) hx hb dL_does_37 (by decide) (fun c_37 => ?_) (fun c_37 => absurd c_37 (by decide))
  refine lv_iload_n hx hb dL_does_48 rfl (lv_at hl 1 rfl) ?_
  refine lv_iconst (v := 4) hx hb dL_does_49 (by decide) ?_
  refine lv_icmp_ne (tgt := 61) hx hb dL_does_50 (by decide) (fun c_50 => absurd (by decide) c_50) (fun c_50 => ?_)
  refine lv_aload_n hx hb dL_does_53 rfl (lv_at hl 0 rfl) ?_
  refine lv_iload_n hx hb dL_does_54 rfl (lv_at hl 2 rfl) ?_
  refine lz_callX CF hTh hA hw (As := [.int x]) (rest := []) (kX0_renew l hfl k a hsep.1 σ x) (cwV 1 hts gL_does_X0_renew rfl rfl rfl (by decide +kernel) ⟨Nat.le_of_ble_eq_true rfl, Nat.le_of_ble_eq_true rfl⟩) rfl hl.1 rfl (lv_room (Nat.le_of_ble_eq_true rfl)) dL_does_55 ⟨Nat.le_of_ble_eq_true rfl, Nat.le_of_ble_eq_true rfl⟩ ?_ ?_
  · intro E ce q9 H locs hthr hw hce hcv hcl
    rcases rm_tRoot_c hthr with rfl | rfl
    · skip
      refine vx_catch (name := "java/lang/IndexOutOfBoundsException") hown [] (⟨0, 80, 81, 42⟩ : ExceptionTableEntry) [(⟨0, 80, 86, 44⟩ : ExceptionTableEntry), (⟨0, 80, 91, 46⟩ : ExceptionTableEntry)] (by rw [htab]; rfl) (fun z hz => nomatch hz) (by decide) (by decide) (hts (.classLink RL 42 "java/lang/IndexOutOfBoundsException") (by decide +kernel)) (hTh.2.2.2.2.2.2.1.use rfl) hce hcv hcl ?_
      refine lv_astore (lv' := [(6, .ref q9), (0, .ref (a 0)), (1, .int 4), (2, .int x), (3, .int y), (4, .int z), (5, .int w)]) hx hb dL_does_81 hl (by decide) rfl (fun ls hl => ?_)
      refine lv_bipush (v := (-30)) hx hb dL_does_83 (by decide) ?_
      exact lz_iret (post := (fun r σ1 θ1 => r = lz_code (rm_tRoot σ x) (rm_begin σ x.toNatClampNeg 8 x.toNatClampNeg) ∧ σ1 = rl_s (rm_begin σ x.toNatClampNeg) σ (rm_tRoot σ x) ∧ θ1 = θ)) CF hr hlocks hw (Nat.le_of_ble_eq_true rfl) (Nat.le_of_ble_eq_true rfl) dL_does_85 ⟨by rw [hthr]; exact lz_code_IO.symm, by rw [hthr]; rfl, rfl⟩
    · skip
      refine vx_catch (name := "java/lang/IllegalStateException") hown [(⟨0, 80, 81, 42⟩ : ExceptionTableEntry), (⟨0, 80, 86, 44⟩ : ExceptionTableEntry)] (⟨0, 80, 91, 46⟩ : ExceptionTableEntry) [] (by rw [htab]; rfl) (fun z hz => by
        rcases List.mem_cons.mp hz with hz | hz
        · subst hz
          exact Or.inr ⟨by decide, "java/lang/IndexOutOfBoundsException", hts (.classLink RL 42 "java/lang/IndexOutOfBoundsException") (by decide +kernel), hN.2.1⟩
        · have hz := List.mem_singleton.mp hz
          subst hz
          exact Or.inr ⟨by decide, "java/lang/IllegalArgumentException", hts (.classLink RL 44 "java/lang/IllegalArgumentException") (by decide +kernel), hN.2.2⟩) (by decide) (by decide) (hts (.classLink RL 46 "java/lang/IllegalStateException") (by decide +kernel)) (hTh.2.2.2.2.2.2.2.2.use rfl) hce hcv hcl ?_
      refine lv_astore (lv' := [(6, .ref q9), (0, .ref (a 0)), (1, .int 4), (2, .int x), (3, .int y), (4, .int z), (5, .int w)]) hx hb dL_does_91 hl (by decide) rfl (fun ls hl => ?_)
      refine lv_bipush (v := (-10)) hx hb dL_does_93 (by decide) ?_
      exact lz_iret (post := (fun r σ1 θ1 => r = lz_code (rm_tRoot σ x) (rm_begin σ x.toNatClampNeg 8 x.toNatClampNeg) ∧ σ1 = rl_s (rm_begin σ x.toNatClampNeg) σ (rm_tRoot σ x) ∧ θ1 = θ)) CF hr hlocks hw (Nat.le_of_ble_eq_true rfl) (Nat.le_of_ble_eq_true rfl) dL_does_95 ⟨by rw [hthr]; exact lz_code_IS.symm, by rw [hthr]; rfl, rfl⟩
  · intro hthr H locs hw
    refine lv_goto (tgt := 80) hx hb dL_does_58 (by decide) ?_
    exact lz_iret (post := (fun r σ1 θ1 => r = lz_code (rm_tRoot σ x) (rm_begin σ x.toNatClampNeg 8 x.toNatClampNeg) ∧ σ1 = rl_s (rm_begin σ x.toNatClampNeg) σ (rm_tRoot σ x) ∧ θ1 = θ)) CF hr hlocks hw (Nat.le_of_ble_eq_true rfl) (Nat.le_of_ble_eq_true rfl) dL_does_80 ⟨by rw [hthr]; rfl, by rw [hthr]; rfl, rfl⟩
set_option maxHeartbeats 4000000 in
set_option maxRecDepth 100000 in
theorem jL_does_5 (l : Launch) (hfl : l.stackTraces = false) (k : rm_K) (a q : Nat → Nat) (hsep : lz_sep a q) (σ θ : rm_St) (x y z w : Int32) : lz_M l k a q (fun _ => True) yL_does wsL_does ({ frames := 10, cells := 4, slots := 24, locals := 181 }) [.ref (a 0), .int 5, .int x, .int y, .int z, .int w] σ θ (fun r σ1 θ1 => r = lz_code (rm_tR x 1 100) ((rm_pass σ x).2) ∧ σ1 = rl_s ((rm_pass σ x).1) σ (rm_tR x 1 100) ∧ θ1 = θ) := by
  intro sz
  refine lz_ofWH (hh := [(0, 80, 81, 42), (0, 80, 86, 44), (0, 80, 91, 46)]) (cc := cL_does) (maxL := 7) (ret := some .int) (by decide) rfl ?_
  intro p e s m args below meth c s₁ B hml hv
  obtain ⟨rfl, hsz, hP, hTh, hN, -⟩ := hv
  have hx := B.exec
  have hb := B.bytes
  have hr := B.returns
  have hts := atoms_spec (ws := wsL_does) B.pre
  have hown : s.vm.findClass RL = some m.cls := findClass_of_methodNamed B.named
  have hlocks := B.notSynchronized
  have htab := vx_table (x := yL_does) B (hts _ List.mem_cons_self)
  subst hsz
  have CF : CallFix p m c cL_does 7 s _ wsL_does RL := ⟨hx, hb, hml, hown, hts⟩
  have hA : ∀ x, s.heap.size ≤ x → lz_A a q s.heap.size x := fun x h => Or.inl (Or.inr h)
  have hw := lz_start hsep hP
  have hl := lv_entry ([.ref (a 0), .int 5, .int x, .int y, .int z, .int w]) (n := 7) (Nat.le_of_ble_eq_true rfl)
  rw [lg_entry_eq]
  generalize (lg_sl ([.ref (a 0), .int 5, .int x, .int y, .int z, .int w]) ++ List.replicate (7 - (lg_sl ([.ref (a 0), .int 5, .int x, .int y, .int z, .int w])).length) Slot.unset).toArray = ls at hl ⊢
  have hl : lv_has ls 7 [(0, .ref (a 0)), (1, .int 5), (2, .int x), (3, .int y), (4, .int z), (5, .int w)] := hl
  refine lv_iload_n hx hb dL_does_0 rfl (lv_at hl 1 rfl) ?_
  refine lv_iconst (v := 2) hx hb dL_does_1 (by decide) ?_
  refine lv_icmp_ge (tgt := 19) hx hb dL_does_2 (by decide) (fun c_2 => ?_) (fun c_2 => absurd (by decide) c_2)
  refine lv_iload_n hx hb dL_does_19 rfl (lv_at hl 1 rfl) ?_
  refine lv_iconst (v := 2) hx hb dL_does_20 (by decide) ?_
  refine lv_icmp_ne (tgt := 35) hx hb dL_does_21 (by decide) (fun c_21 => ?_) (fun c_21 => absurd c_21 (by decide))
  refine lv_iload_n hx hb dL_does_35 rfl (lv_at hl 1 rfl) ?_
  refine lv_iconst (v := 3) hx hb dL_does_36 (by decide) ?_
  refine lv_icmp_ne (tgt := 48) hx hb dL_does_37 (by decide) (fun c_37 => ?_) (fun c_37 => absurd c_37 (by decide))
  refine lv_iload_n hx hb dL_does_48 rfl (lv_at hl 1 rfl) ?_
  refine lv_iconst (v := 4) hx hb dL_does_49 (by decide) ?_
  refine lv_icmp_ne (tgt := 61) hx hb dL_does_50 (by decide) (fun c_50 => ?_) (fun c_50 => absurd c_50 (by decide))
  refine lv_iload_n hx hb dL_does_61 rfl (lv_at hl 1 rfl) ?_
  refine lv_iconst (v := 5) hx hb dL_does_62 (by decide) ?_
  refine lv_icmp_ne (tgt := 74) hx hb dL_does_63 (by decide) (fun c_63 => absurd (by decide) c_63) (fun c_63 => ?_)
  refine lv_aload_n hx hb dL_does_66 rfl (lv_at hl 0 rfl) ?_
  refine lv_iload_n hx hb dL_does_67 rfl (lv_at hl 2 rfl) ?_
  refine lz_callX CF hTh hA hw (As := [.int x]) (rest := []) (kX0_pass l hfl k a hsep.1 σ x) (cwV 1 hts gL_does_X0_pass rfl rfl rfl (by decide +kernel) ⟨Nat.le_of_ble_eq_true rfl, Nat.le_of_ble_eq_true rfl⟩) rfl hl.1 rfl (lv_room (Nat.le_of_ble_eq_true rfl)) dL_does_68 ⟨Nat.le_of_ble_eq_true rfl, Nat.le_of_ble_eq_true rfl⟩ ?_ ?_
  · intro E ce q9 H locs hthr hw hce hcv hcl
    obtain rfl := rm_tR_c hthr
    refine vx_catch (name := "java/lang/IllegalArgumentException") hown [(⟨0, 80, 81, 42⟩ : ExceptionTableEntry)] (⟨0, 80, 86, 44⟩ : ExceptionTableEntry) [(⟨0, 80, 91, 46⟩ : ExceptionTableEntry)] (by rw [htab]; rfl) (fun z hz => by
      have hz := List.mem_singleton.mp hz
      subst hz
      exact Or.inr ⟨by decide, "java/lang/IndexOutOfBoundsException", hts (.classLink RL 42 "java/lang/IndexOutOfBoundsException") (by decide +kernel), hN.1⟩) (by decide) (by decide) (hts (.classLink RL 44 "java/lang/IllegalArgumentException") (by decide +kernel)) (hTh.2.2.2.2.2.2.2.1.use rfl) hce hcv hcl ?_
    refine lv_astore (lv' := [(6, .ref q9), (0, .ref (a 0)), (1, .int 5), (2, .int x), (3, .int y), (4, .int z), (5, .int w)]) hx hb dL_does_86 hl (by decide) rfl (fun ls hl => ?_)
    refine lv_bipush (v := (-20)) hx hb dL_does_88 (by decide) ?_
    exact lz_iret (post := (fun r σ1 θ1 => r = lz_code (rm_tR x 1 100) ((rm_pass σ x).2) ∧ σ1 = rl_s ((rm_pass σ x).1) σ (rm_tR x 1 100) ∧ θ1 = θ)) CF hr hlocks hw (Nat.le_of_ble_eq_true rfl) (Nat.le_of_ble_eq_true rfl) dL_does_90 ⟨by rw [hthr]; exact lz_code_IA.symm, by rw [hthr]; rfl, rfl⟩
  · intro hthr H locs hw
    refine lv_goto (tgt := 80) hx hb dL_does_71 (by decide) ?_
    exact lz_iret (post := (fun r σ1 θ1 => r = lz_code (rm_tR x 1 100) ((rm_pass σ x).2) ∧ σ1 = rl_s ((rm_pass σ x).1) σ (rm_tR x 1 100) ∧ θ1 = θ)) CF hr hlocks hw (Nat.le_of_ble_eq_true rfl) (Nat.le_of_ble_eq_true rfl) dL_does_80 ⟨by rw [hthr]; rfl, by rw [hthr]; rfl, rfl⟩
set_option maxHeartbeats 4000000 in
set_option maxRecDepth 100000 in
theorem jL_does_6 (l : Launch) (hfl : l.stackTraces = false) (k : rm_K) (a q : Nat → Nat) (hsep : lz_sep a q) (σ θ : rm_St) (x y z w : Int32) : lz_M l k a q (fun _ => True) yL_does wsL_does ({ frames := 10, cells := 4, slots := 24, locals := 181 }) [.ref (a 0), .int 6, .int x, .int y, .int z, .int w] σ θ (fun r σ1 θ1 => r = lz_code (rm_tDown σ x y) ((rm_dnL σ x 10 0 y).getD 0) ∧ σ1 = rl_s σ σ (rm_tDown σ x y) ∧ θ1 = θ) := by
  intro sz
  refine lz_ofWH (hh := [(0, 80, 81, 42), (0, 80, 86, 44), (0, 80, 91, 46)]) (cc := cL_does) (maxL := 7) (ret := some .int) (by decide) rfl ?_
  intro p e s m args below meth c s₁ B hml hv
  obtain ⟨rfl, hsz, hP, hTh, hN, -⟩ := hv
  have hx := B.exec
  have hb := B.bytes
  have hr := B.returns
  have hts := atoms_spec (ws := wsL_does) B.pre
  have hown : s.vm.findClass RL = some m.cls := findClass_of_methodNamed B.named
  have hlocks := B.notSynchronized
  have htab := vx_table (x := yL_does) B (hts _ List.mem_cons_self)
  subst hsz
  have CF : CallFix p m c cL_does 7 s _ wsL_does RL := ⟨hx, hb, hml, hown, hts⟩
  have hA : ∀ x, s.heap.size ≤ x → lz_A a q s.heap.size x := fun x h => Or.inl (Or.inr h)
  have hw := lz_start hsep hP
  have hl := lv_entry ([.ref (a 0), .int 6, .int x, .int y, .int z, .int w]) (n := 7) (Nat.le_of_ble_eq_true rfl)
  rw [lg_entry_eq]
  generalize (lg_sl ([.ref (a 0), .int 6, .int x, .int y, .int z, .int w]) ++ List.replicate (7 - (lg_sl ([.ref (a 0), .int 6, .int x, .int y, .int z, .int w])).length) Slot.unset).toArray = ls at hl ⊢
  have hl : lv_has ls 7 [(0, .ref (a 0)), (1, .int 6), (2, .int x), (3, .int y), (4, .int z), (5, .int w)] := hl
  refine lv_iload_n hx hb dL_does_0 rfl (lv_at hl 1 rfl) ?_
  refine lv_iconst (v := 2) hx hb dL_does_1 (by decide) ?_
  refine lv_icmp_ge (tgt := 19) hx hb dL_does_2 (by decide) (fun c_2 => ?_) (fun c_2 => absurd (by decide) c_2)
  refine lv_iload_n hx hb dL_does_19 rfl (lv_at hl 1 rfl) ?_
  refine lv_iconst (v := 2) hx hb dL_does_20 (by decide) ?_
  refine lv_icmp_ne (tgt := 35) hx hb dL_does_21 (by decide) (fun c_21 => ?_) (fun c_21 => absurd c_21 (by decide))
  refine lv_iload_n hx hb dL_does_35 rfl (lv_at hl 1 rfl) ?_
  refine lv_iconst (v := 3) hx hb dL_does_36 (by decide) ?_
  refine lv_icmp_ne (tgt := 48) hx hb dL_does_37 (by decide) (fun c_37 => ?_) (fun c_37 => absurd c_37 (by decide))
  refine lv_iload_n hx hb dL_does_48 rfl (lv_at hl 1 rfl) ?_
  refine lv_iconst (v := 4) hx hb dL_does_49 (by decide) ?_
  refine lv_icmp_ne (tgt := 61) hx hb dL_does_50 (by decide) (fun c_50 => ?_) (fun c_50 => absurd c_50 (by decide))
  refine lv_iload_n hx hb dL_does_61 rfl (lv_at hl 1 rfl) ?_
  refine lv_iconst (v := 5) hx hb dL_does_62 (by decide) ?_
  refine lv_icmp_ne (tgt := 74) hx hb dL_does_63 (by decide) (fun c_63 => ?_) (fun c_63 => absurd c_63 (by decide))
  refine lv_aload_n hx hb dL_does_74 rfl (lv_at hl 0 rfl) ?_
  refine lv_iload_n hx hb dL_does_75 rfl (lv_at hl 2 rfl) ?_
  refine lv_iload_n hx hb dL_does_76 rfl (lv_at hl 3 rfl) ?_
  refine lz_callX CF hTh hA hw (As := [.int x, .int y]) (rest := []) (kX0_down l hfl k a hsep.1 σ x y) (cwV 2 hts gL_does_X0_down rfl rfl rfl (by decide +kernel) ⟨Nat.le_of_ble_eq_true rfl, Nat.le_of_ble_eq_true rfl⟩) rfl hl.1 rfl (lv_room (Nat.le_of_ble_eq_true rfl)) dL_does_77 ⟨Nat.le_of_ble_eq_true rfl, Nat.le_of_ble_eq_true rfl⟩ ?_ ?_
  · intro E ce q9 H locs hthr hw hce hcv hcl
    rcases rm_tDown_c hthr with rfl | rfl
    · skip
      refine vx_catch (name := "java/lang/IndexOutOfBoundsException") hown [] (⟨0, 80, 81, 42⟩ : ExceptionTableEntry) [(⟨0, 80, 86, 44⟩ : ExceptionTableEntry), (⟨0, 80, 91, 46⟩ : ExceptionTableEntry)] (by rw [htab]; rfl) (fun z hz => nomatch hz) (by decide) (by decide) (hts (.classLink RL 42 "java/lang/IndexOutOfBoundsException") (by decide +kernel)) (hTh.2.2.2.2.2.2.1.use rfl) hce hcv hcl ?_
      refine lv_astore (lv' := [(6, .ref q9), (0, .ref (a 0)), (1, .int 6), (2, .int x), (3, .int y), (4, .int z), (5, .int w)]) hx hb dL_does_81 hl (by decide) rfl (fun ls hl => ?_)
      refine lv_bipush (v := (-30)) hx hb dL_does_83 (by decide) ?_
      exact lz_iret (post := (fun r σ1 θ1 => r = lz_code (rm_tDown σ x y) ((rm_dnL σ x 10 0 y).getD 0) ∧ σ1 = rl_s σ σ (rm_tDown σ x y) ∧ θ1 = θ)) CF hr hlocks hw (Nat.le_of_ble_eq_true rfl) (Nat.le_of_ble_eq_true rfl) dL_does_85 ⟨by rw [hthr]; exact lz_code_IO.symm, by rw [hthr]; rfl, rfl⟩
    · skip
      refine vx_catch (name := "java/lang/IllegalStateException") hown [(⟨0, 80, 81, 42⟩ : ExceptionTableEntry), (⟨0, 80, 86, 44⟩ : ExceptionTableEntry)] (⟨0, 80, 91, 46⟩ : ExceptionTableEntry) [] (by rw [htab]; rfl) (fun z hz => by
        rcases List.mem_cons.mp hz with hz | hz
        · subst hz
          exact Or.inr ⟨by decide, "java/lang/IndexOutOfBoundsException", hts (.classLink RL 42 "java/lang/IndexOutOfBoundsException") (by decide +kernel), hN.2.1⟩
        · have hz := List.mem_singleton.mp hz
          subst hz
          exact Or.inr ⟨by decide, "java/lang/IllegalArgumentException", hts (.classLink RL 44 "java/lang/IllegalArgumentException") (by decide +kernel), hN.2.2⟩) (by decide) (by decide) (hts (.classLink RL 46 "java/lang/IllegalStateException") (by decide +kernel)) (hTh.2.2.2.2.2.2.2.2.use rfl) hce hcv hcl ?_
      refine lv_astore (lv' := [(6, .ref q9), (0, .ref (a 0)), (1, .int 6), (2, .int x), (3, .int y), (4, .int z), (5, .int w)]) hx hb dL_does_91 hl (by decide) rfl (fun ls hl => ?_)
      refine lv_bipush (v := (-10)) hx hb dL_does_93 (by decide) ?_
      exact lz_iret (post := (fun r σ1 θ1 => r = lz_code (rm_tDown σ x y) ((rm_dnL σ x 10 0 y).getD 0) ∧ σ1 = rl_s σ σ (rm_tDown σ x y) ∧ θ1 = θ)) CF hr hlocks hw (Nat.le_of_ble_eq_true rfl) (Nat.le_of_ble_eq_true rfl) dL_does_95 ⟨by rw [hthr]; exact lz_code_IS.symm, by rw [hthr]; rfl, rfl⟩
  · intro hthr H locs hw
    exact lz_iret (post := (fun r σ1 θ1 => r = lz_code (rm_tDown σ x y) ((rm_dnL σ x 10 0 y).getD 0) ∧ σ1 = rl_s σ σ (rm_tDown σ x y) ∧ θ1 = θ)) CF hr hlocks hw (Nat.le_of_ble_eq_true rfl) (Nat.le_of_ble_eq_true rfl) dL_does_80 ⟨by rw [hthr]; rfl, by rw [hthr]; rfl, rfl⟩
set_option maxHeartbeats 4000000 in
set_option maxRecDepth 100000 in
theorem jL_asks_0 (l : Launch) (hfl : l.stackTraces = false) (k : rm_K) (a q : Nat → Nat) (hsep : lz_sep a q) (σ θ : rm_St) (x y : Int32) (h0 : (rm_tN x) = some rm_IO) : lz_M l k a q (fun _ => True) yL_asks wsL_asks ({ frames := 8, cells := 2, slots := 12, locals := 140 }) [.ref (a 0), .int 0, .int x, .int y] σ θ (fun r σ1 θ1 => r = -30 ∧ σ1 = σ ∧ θ1 = θ) := by
  intro sz
  refine lz_ofWH (hh := [(0, 97, 98, 42)]) (cc := cL_asks) (maxL := 5) (ret := some .int) (by decide) rfl ?_
  intro p e s m args below meth c s₁ B hml hv
  obtain ⟨rfl, hsz, hP, hTh, hN, -⟩ := hv
  have hx := B.exec
  have hb := B.bytes
  have hr := B.returns
  have hts := atoms_spec (ws := wsL_asks) B.pre
  have hown : s.vm.findClass RL = some m.cls := findClass_of_methodNamed B.named
  have hlocks := B.notSynchronized
  have htab := vx_table (x := yL_asks) B (hts _ List.mem_cons_self)
  subst hsz
  have CF : CallFix p m c cL_asks 5 s _ wsL_asks RL := ⟨hx, hb, hml, hown, hts⟩
  have hA : ∀ x, s.heap.size ≤ x → lz_A a q s.heap.size x := fun x h => Or.inl (Or.inr h)
  have hw := lz_start hsep hP
  have hl := lv_entry ([.ref (a 0), .int 0, .int x, .int y]) (n := 5) (Nat.le_of_ble_eq_true rfl)
  rw [lg_entry_eq]
  generalize (lg_sl ([.ref (a 0), .int 0, .int x, .int y]) ++ List.replicate (5 - (lg_sl ([.ref (a 0), .int 0, .int x, .int y])).length) Slot.unset).toArray = ls at hl ⊢
  have hl : lv_has ls 5 [(0, .ref (a 0)), (1, .int 0), (2, .int x), (3, .int y)] := hl
  refine lv_iload_n hx hb dL_asks_0 rfl (lv_at hl 1 rfl) ?_
  refine lv_if_ne (tgt := 12) hx hb dL_asks_1 (by decide) (fun c_1 => absurd (by decide) c_1) (fun c_1 => ?_)
  refine lv_aload_n hx hb dL_asks_4 rfl (lv_at hl 0 rfl) ?_
  refine lv_iload_n hx hb dL_asks_5 rfl (lv_at hl 2 rfl) ?_
  refine lz_callX CF hTh hA hw (As := [.int x]) (rest := []) (kX0_rank l hfl k a hsep.1 σ x) (cwV 1 hts gL_asks_X0_rank rfl rfl rfl (by decide +kernel) ⟨Nat.le_of_ble_eq_true rfl, Nat.le_of_ble_eq_true rfl⟩) rfl hl.1 rfl (lv_room (Nat.le_of_ble_eq_true rfl)) dL_asks_6 ⟨Nat.le_of_ble_eq_true rfl, Nat.le_of_ble_eq_true rfl⟩ ?_ ?_
  · intro E ce q9 H locs hthr hw hce hcv hcl
    obtain rfl : E = "java/lang/IndexOutOfBoundsException" := (Option.some.inj (h0.symm.trans hthr)).symm
    refine vx_catch (name := "java/lang/IndexOutOfBoundsException") hown [] (⟨0, 97, 98, 42⟩ : ExceptionTableEntry) [] (by rw [htab]; rfl) (fun z hz => nomatch hz) (by decide) (by decide) (hts (.classLink RL 42 "java/lang/IndexOutOfBoundsException") (by decide +kernel)) (hTh.2.2.2.2.2.2.1.use rfl) hce hcv hcl ?_
    refine lv_astore (lv' := [(4, .ref q9), (0, .ref (a 0)), (1, .int 0), (2, .int x), (3, .int y)]) hx hb dL_asks_98 hl (by decide) rfl (fun ls hl => ?_)
    refine lv_bipush (v := (-30)) hx hb dL_asks_100 (by decide) ?_
    exact lz_iret (post := (fun r σ1 θ1 => r = -30 ∧ σ1 = σ ∧ θ1 = θ)) CF hr hlocks hw (Nat.le_of_ble_eq_true rfl) (Nat.le_of_ble_eq_true rfl) dL_asks_102 ⟨rfl, rfl, rfl⟩
  · intro hthr
    rw [h0] at hthr
    cases hthr
set_option maxHeartbeats 4000000 in
set_option maxRecDepth 100000 in
theorem jL_asks_1 (l : Launch) (hfl : l.stackTraces = false) (k : rm_K) (a q : Nat → Nat) (hsep : lz_sep a q) (σ θ : rm_St) (x y : Int32) (h0 : (rm_tN x) = some rm_IO) : lz_M l k a q (fun _ => True) yL_asks wsL_asks ({ frames := 8, cells := 2, slots := 12, locals := 140 }) [.ref (a 0), .int 1, .int x, .int y] σ θ (fun r σ1 θ1 => r = -30 ∧ σ1 = σ ∧ θ1 = θ) := by
  intro sz
  refine lz_ofWH (hh := [(0, 97, 98, 42)]) (cc := cL_asks) (maxL := 5) (ret := some .int) (by decide) rfl ?_
  intro p e s m args below meth c s₁ B hml hv
  obtain ⟨rfl, hsz, hP, hTh, hN, -⟩ := hv
  have hx := B.exec
  have hb := B.bytes
  have hr := B.returns
  have hts := atoms_spec (ws := wsL_asks) B.pre
  have hown : s.vm.findClass RL = some m.cls := findClass_of_methodNamed B.named
  have hlocks := B.notSynchronized
  have htab := vx_table (x := yL_asks) B (hts _ List.mem_cons_self)
  subst hsz
  have CF : CallFix p m c cL_asks 5 s _ wsL_asks RL := ⟨hx, hb, hml, hown, hts⟩
  have hA : ∀ x, s.heap.size ≤ x → lz_A a q s.heap.size x := fun x h => Or.inl (Or.inr h)
  have hw := lz_start hsep hP
  have hl := lv_entry ([.ref (a 0), .int 1, .int x, .int y]) (n := 5) (Nat.le_of_ble_eq_true rfl)
  rw [lg_entry_eq]
  generalize (lg_sl ([.ref (a 0), .int 1, .int x, .int y]) ++ List.replicate (5 - (lg_sl ([.ref (a 0), .int 1, .int x, .int y])).length) Slot.unset).toArray = ls at hl ⊢
  have hl : lv_has ls 5 [(0, .ref (a 0)), (1, .int 1), (2, .int x), (3, .int y)] := hl
  refine lv_iload_n hx hb dL_asks_0 rfl (lv_at hl 1 rfl) ?_
  refine lv_if_ne (tgt := 12) hx hb dL_asks_1 (by decide) (fun c_1 => ?_) (fun c_1 => absurd c_1 (by decide))
  refine lv_iload_n hx hb dL_asks_12 rfl (lv_at hl 1 rfl) ?_
  refine lv_iconst (v := 1) hx hb dL_asks_13 (by decide) ?_
  refine lv_icmp_ne (tgt := 25) hx hb dL_asks_14 (by decide) (fun c_14 => absurd (by decide) c_14) (fun c_14 => ?_)
  refine lv_aload_n hx hb dL_asks_17 rfl (lv_at hl 0 rfl) ?_
  refine lv_iload_n hx hb dL_asks_18 rfl (lv_at hl 2 rfl) ?_
  refine lz_callX CF hTh hA hw (As := [.int x]) (rest := []) (kX0_parent l hfl k a hsep.1 σ x) (cwV 1 hts gL_asks_X0_parent rfl rfl rfl (by decide +kernel) ⟨Nat.le_of_ble_eq_true rfl, Nat.le_of_ble_eq_true rfl⟩) rfl hl.1 rfl (lv_room (Nat.le_of_ble_eq_true rfl)) dL_asks_19 ⟨Nat.le_of_ble_eq_true rfl, Nat.le_of_ble_eq_true rfl⟩ ?_ ?_
  · intro E ce q9 H locs hthr hw hce hcv hcl
    obtain rfl : E = "java/lang/IndexOutOfBoundsException" := (Option.some.inj (h0.symm.trans hthr)).symm
    refine vx_catch (name := "java/lang/IndexOutOfBoundsException") hown [] (⟨0, 97, 98, 42⟩ : ExceptionTableEntry) [] (by rw [htab]; rfl) (fun z hz => nomatch hz) (by decide) (by decide) (hts (.classLink RL 42 "java/lang/IndexOutOfBoundsException") (by decide +kernel)) (hTh.2.2.2.2.2.2.1.use rfl) hce hcv hcl ?_
    refine lv_astore (lv' := [(4, .ref q9), (0, .ref (a 0)), (1, .int 1), (2, .int x), (3, .int y)]) hx hb dL_asks_98 hl (by decide) rfl (fun ls hl => ?_)
    refine lv_bipush (v := (-30)) hx hb dL_asks_100 (by decide) ?_
    exact lz_iret (post := (fun r σ1 θ1 => r = -30 ∧ σ1 = σ ∧ θ1 = θ)) CF hr hlocks hw (Nat.le_of_ble_eq_true rfl) (Nat.le_of_ble_eq_true rfl) dL_asks_102 ⟨rfl, rfl, rfl⟩
  · intro hthr
    rw [h0] at hthr
    cases hthr
set_option maxHeartbeats 4000000 in
set_option maxRecDepth 100000 in
theorem jL_asks_2 (l : Launch) (hfl : l.stackTraces = false) (k : rm_K) (a q : Nat → Nat) (hsep : lz_sep a q) (σ θ : rm_St) (x y : Int32) (h0 : (rm_tN x) = some rm_IO) : lz_M l k a q (fun _ => True) yL_asks wsL_asks ({ frames := 8, cells := 2, slots := 12, locals := 140 }) [.ref (a 0), .int 2, .int x, .int y] σ θ (fun r σ1 θ1 => r = -30 ∧ σ1 = σ ∧ θ1 = θ) := by
  intro sz
  refine lz_ofWH (hh := [(0, 97, 98, 42)]) (cc := cL_asks) (maxL := 5) (ret := some .int) (by decide) rfl ?_
  intro p e s m args below meth c s₁ B hml hv
  obtain ⟨rfl, hsz, hP, hTh, hN, -⟩ := hv
  have hx := B.exec
  have hb := B.bytes
  have hr := B.returns
  have hts := atoms_spec (ws := wsL_asks) B.pre
  have hown : s.vm.findClass RL = some m.cls := findClass_of_methodNamed B.named
  have hlocks := B.notSynchronized
  have htab := vx_table (x := yL_asks) B (hts _ List.mem_cons_self)
  subst hsz
  have CF : CallFix p m c cL_asks 5 s _ wsL_asks RL := ⟨hx, hb, hml, hown, hts⟩
  have hA : ∀ x, s.heap.size ≤ x → lz_A a q s.heap.size x := fun x h => Or.inl (Or.inr h)
  have hw := lz_start hsep hP
  have hl := lv_entry ([.ref (a 0), .int 2, .int x, .int y]) (n := 5) (Nat.le_of_ble_eq_true rfl)
  rw [lg_entry_eq]
  generalize (lg_sl ([.ref (a 0), .int 2, .int x, .int y]) ++ List.replicate (5 - (lg_sl ([.ref (a 0), .int 2, .int x, .int y])).length) Slot.unset).toArray = ls at hl ⊢
  have hl : lv_has ls 5 [(0, .ref (a 0)), (1, .int 2), (2, .int x), (3, .int y)] := hl
  refine lv_iload_n hx hb dL_asks_0 rfl (lv_at hl 1 rfl) ?_
  refine lv_if_ne (tgt := 12) hx hb dL_asks_1 (by decide) (fun c_1 => ?_) (fun c_1 => absurd c_1 (by decide))
  refine lv_iload_n hx hb dL_asks_12 rfl (lv_at hl 1 rfl) ?_
  refine lv_iconst (v := 1) hx hb dL_asks_13 (by decide) ?_
  refine lv_icmp_ne (tgt := 25) hx hb dL_asks_14 (by decide) (fun c_14 => ?_) (fun c_14 => absurd c_14 (by decide))
  refine lv_iload_n hx hb dL_asks_25 rfl (lv_at hl 1 rfl) ?_
  refine lv_iconst (v := 2) hx hb dL_asks_26 (by decide) ?_
  refine lv_icmp_ne (tgt := 38) hx hb dL_asks_27 (by decide) (fun c_27 => absurd (by decide) c_27) (fun c_27 => ?_)
  refine lv_aload_n hx hb dL_asks_30 rfl (lv_at hl 0 rfl) ?_
  refine lv_iload_n hx hb dL_asks_31 rfl (lv_at hl 2 rfl) ?_
  refine lz_callX CF hTh hA hw (As := [.int x]) (rest := []) (kX0_tree l hfl k a hsep.1 σ x) (cwV 1 hts gL_asks_X0_tree rfl rfl rfl (by decide +kernel) ⟨Nat.le_of_ble_eq_true rfl, Nat.le_of_ble_eq_true rfl⟩) rfl hl.1 rfl (lv_room (Nat.le_of_ble_eq_true rfl)) dL_asks_32 ⟨Nat.le_of_ble_eq_true rfl, Nat.le_of_ble_eq_true rfl⟩ ?_ ?_
  · intro E ce q9 H locs hthr hw hce hcv hcl
    obtain rfl : E = "java/lang/IndexOutOfBoundsException" := (Option.some.inj (h0.symm.trans hthr)).symm
    refine vx_catch (name := "java/lang/IndexOutOfBoundsException") hown [] (⟨0, 97, 98, 42⟩ : ExceptionTableEntry) [] (by rw [htab]; rfl) (fun z hz => nomatch hz) (by decide) (by decide) (hts (.classLink RL 42 "java/lang/IndexOutOfBoundsException") (by decide +kernel)) (hTh.2.2.2.2.2.2.1.use rfl) hce hcv hcl ?_
    refine lv_astore (lv' := [(4, .ref q9), (0, .ref (a 0)), (1, .int 2), (2, .int x), (3, .int y)]) hx hb dL_asks_98 hl (by decide) rfl (fun ls hl => ?_)
    refine lv_bipush (v := (-30)) hx hb dL_asks_100 (by decide) ?_
    exact lz_iret (post := (fun r σ1 θ1 => r = -30 ∧ σ1 = σ ∧ θ1 = θ)) CF hr hlocks hw (Nat.le_of_ble_eq_true rfl) (Nat.le_of_ble_eq_true rfl) dL_asks_102 ⟨rfl, rfl, rfl⟩
  · intro hthr
    rw [h0] at hthr
    cases hthr
set_option maxHeartbeats 4000000 in
set_option maxRecDepth 100000 in
theorem jL_asks_3 (l : Launch) (hfl : l.stackTraces = false) (k : rm_K) (a q : Nat → Nat) (hsep : lz_sep a q) (σ θ : rm_St) (x y : Int32) (h0 : (rm_tN x) = some rm_IO) : lz_M l k a q (fun _ => True) yL_asks wsL_asks ({ frames := 8, cells := 2, slots := 12, locals := 140 }) [.ref (a 0), .int 3, .int x, .int y] σ θ (fun r σ1 θ1 => r = -30 ∧ σ1 = σ ∧ θ1 = θ) := by
  intro sz
  refine lz_ofWH (hh := [(0, 97, 98, 42)]) (cc := cL_asks) (maxL := 5) (ret := some .int) (by decide) rfl ?_
  intro p e s m args below meth c s₁ B hml hv
  obtain ⟨rfl, hsz, hP, hTh, hN, -⟩ := hv
  have hx := B.exec
  have hb := B.bytes
  have hr := B.returns
  have hts := atoms_spec (ws := wsL_asks) B.pre
  have hown : s.vm.findClass RL = some m.cls := findClass_of_methodNamed B.named
  have hlocks := B.notSynchronized
  have htab := vx_table (x := yL_asks) B (hts _ List.mem_cons_self)
  subst hsz
  have CF : CallFix p m c cL_asks 5 s _ wsL_asks RL := ⟨hx, hb, hml, hown, hts⟩
  have hA : ∀ x, s.heap.size ≤ x → lz_A a q s.heap.size x := fun x h => Or.inl (Or.inr h)
  have hw := lz_start hsep hP
  have hl := lv_entry ([.ref (a 0), .int 3, .int x, .int y]) (n := 5) (Nat.le_of_ble_eq_true rfl)
  rw [lg_entry_eq]
  generalize (lg_sl ([.ref (a 0), .int 3, .int x, .int y]) ++ List.replicate (5 - (lg_sl ([.ref (a 0), .int 3, .int x, .int y])).length) Slot.unset).toArray = ls at hl ⊢
  have hl : lv_has ls 5 [(0, .ref (a 0)), (1, .int 3), (2, .int x), (3, .int y)] := hl
  refine lv_iload_n hx hb dL_asks_0 rfl (lv_at hl 1 rfl) ?_
  refine lv_if_ne (tgt := 12) hx hb dL_asks_1 (by decide) (fun c_1 => ?_) (fun c_1 => absurd c_1 (by decide))
  refine lv_iload_n hx hb dL_asks_12 rfl (lv_at hl 1 rfl) ?_
  refine lv_iconst (v := 1) hx hb dL_asks_13 (by decide) ?_
  refine lv_icmp_ne (tgt := 25) hx hb dL_asks_14 (by decide) (fun c_14 => ?_) (fun c_14 => absurd c_14 (by decide))
  refine lv_iload_n hx hb dL_asks_25 rfl (lv_at hl 1 rfl) ?_
  refine lv_iconst (v := 2) hx hb dL_asks_26 (by decide) ?_
  refine lv_icmp_ne (tgt := 38) hx hb dL_asks_27 (by decide) (fun c_27 => ?_) (fun c_27 => absurd c_27 (by decide))
  refine lv_iload_n hx hb dL_asks_38 rfl (lv_at hl 1 rfl) ?_
  refine lv_iconst (v := 3) hx hb dL_asks_39 (by decide) ?_
  refine lv_icmp_ne (tgt := 51) hx hb dL_asks_40 (by decide) (fun c_40 => absurd (by decide) c_40) (fun c_40 => ?_)
  refine lv_aload_n hx hb dL_asks_43 rfl (lv_at hl 0 rfl) ?_
  refine lv_iload_n hx hb dL_asks_44 rfl (lv_at hl 2 rfl) ?_
  refine lz_callX CF hTh hA hw (As := [.int x]) (rest := []) (kX0_nextTelling l hfl k a hsep.1 σ x) (cwV 1 hts gL_asks_X0_nextTelling rfl rfl rfl (by decide +kernel) ⟨Nat.le_of_ble_eq_true rfl, Nat.le_of_ble_eq_true rfl⟩) rfl hl.1 rfl (lv_room (Nat.le_of_ble_eq_true rfl)) dL_asks_45 ⟨Nat.le_of_ble_eq_true rfl, Nat.le_of_ble_eq_true rfl⟩ ?_ ?_
  · intro E ce q9 H locs hthr hw hce hcv hcl
    obtain rfl : E = "java/lang/IndexOutOfBoundsException" := (Option.some.inj (h0.symm.trans hthr)).symm
    refine vx_catch (name := "java/lang/IndexOutOfBoundsException") hown [] (⟨0, 97, 98, 42⟩ : ExceptionTableEntry) [] (by rw [htab]; rfl) (fun z hz => nomatch hz) (by decide) (by decide) (hts (.classLink RL 42 "java/lang/IndexOutOfBoundsException") (by decide +kernel)) (hTh.2.2.2.2.2.2.1.use rfl) hce hcv hcl ?_
    refine lv_astore (lv' := [(4, .ref q9), (0, .ref (a 0)), (1, .int 3), (2, .int x), (3, .int y)]) hx hb dL_asks_98 hl (by decide) rfl (fun ls hl => ?_)
    refine lv_bipush (v := (-30)) hx hb dL_asks_100 (by decide) ?_
    exact lz_iret (post := (fun r σ1 θ1 => r = -30 ∧ σ1 = σ ∧ θ1 = θ)) CF hr hlocks hw (Nat.le_of_ble_eq_true rfl) (Nat.le_of_ble_eq_true rfl) dL_asks_102 ⟨rfl, rfl, rfl⟩
  · intro hthr
    rw [h0] at hthr
    cases hthr
set_option maxHeartbeats 4000000 in
set_option maxRecDepth 100000 in
theorem jL_asks_4 (l : Launch) (hfl : l.stackTraces = false) (k : rm_K) (a q : Nat → Nat) (hsep : lz_sep a q) (σ θ : rm_St) (x y : Int32) (h0 : (rm_t2 x y) = some rm_IO) : lz_M l k a q (fun _ => True) yL_asks wsL_asks ({ frames := 8, cells := 2, slots := 12, locals := 140 }) [.ref (a 0), .int 4, .int x, .int y] σ θ (fun r σ1 θ1 => r = -30 ∧ σ1 = σ ∧ θ1 = θ) := by
  intro sz
  refine lz_ofWH (hh := [(0, 97, 98, 42)]) (cc := cL_asks) (maxL := 5) (ret := some .int) (by decide) rfl ?_
  intro p e s m args below meth c s₁ B hml hv
  obtain ⟨rfl, hsz, hP, hTh, hN, -⟩ := hv
  have hx := B.exec
  have hb := B.bytes
  have hr := B.returns
  have hts := atoms_spec (ws := wsL_asks) B.pre
  have hown : s.vm.findClass RL = some m.cls := findClass_of_methodNamed B.named
  have hlocks := B.notSynchronized
  have htab := vx_table (x := yL_asks) B (hts _ List.mem_cons_self)
  subst hsz
  have CF : CallFix p m c cL_asks 5 s _ wsL_asks RL := ⟨hx, hb, hml, hown, hts⟩
  have hA : ∀ x, s.heap.size ≤ x → lz_A a q s.heap.size x := fun x h => Or.inl (Or.inr h)
  have hw := lz_start hsep hP
  have hl := lv_entry ([.ref (a 0), .int 4, .int x, .int y]) (n := 5) (Nat.le_of_ble_eq_true rfl)
  rw [lg_entry_eq]
  generalize (lg_sl ([.ref (a 0), .int 4, .int x, .int y]) ++ List.replicate (5 - (lg_sl ([.ref (a 0), .int 4, .int x, .int y])).length) Slot.unset).toArray = ls at hl ⊢
  have hl : lv_has ls 5 [(0, .ref (a 0)), (1, .int 4), (2, .int x), (3, .int y)] := hl
  refine lv_iload_n hx hb dL_asks_0 rfl (lv_at hl 1 rfl) ?_
  refine lv_if_ne (tgt := 12) hx hb dL_asks_1 (by decide) (fun c_1 => ?_) (fun c_1 => absurd c_1 (by decide))
  refine lv_iload_n hx hb dL_asks_12 rfl (lv_at hl 1 rfl) ?_
  refine lv_iconst (v := 1) hx hb dL_asks_13 (by decide) ?_
  refine lv_icmp_ne (tgt := 25) hx hb dL_asks_14 (by decide) (fun c_14 => ?_) (fun c_14 => absurd c_14 (by decide))
  refine lv_iload_n hx hb dL_asks_25 rfl (lv_at hl 1 rfl) ?_
  refine lv_iconst (v := 2) hx hb dL_asks_26 (by decide) ?_
  refine lv_icmp_ne (tgt := 38) hx hb dL_asks_27 (by decide) (fun c_27 => ?_) (fun c_27 => absurd c_27 (by decide))
  refine lv_iload_n hx hb dL_asks_38 rfl (lv_at hl 1 rfl) ?_
  refine lv_iconst (v := 3) hx hb dL_asks_39 (by decide) ?_
  refine lv_icmp_ne (tgt := 51) hx hb dL_asks_40 (by decide) (fun c_40 => ?_) (fun c_40 => absurd c_40 (by decide))
  refine lv_iload_n hx hb dL_asks_51 rfl (lv_at hl 1 rfl) ?_
  refine lv_iconst (v := 4) hx hb dL_asks_52 (by decide) ?_
  refine lv_icmp_ne (tgt := 65) hx hb dL_asks_53 (by decide) (fun c_53 => absurd (by decide) c_53) (fun c_53 => ?_)
  refine lv_aload_n hx hb dL_asks_56 rfl (lv_at hl 0 rfl) ?_
  refine lv_iload_n hx hb dL_asks_57 rfl (lv_at hl 2 rfl) ?_
  refine lv_iload_n hx hb dL_asks_58 rfl (lv_at hl 3 rfl) ?_
  refine lz_callX CF hTh hA hw (As := [.int x, .int y]) (rest := []) (kX0_heard l hfl k a hsep.1 σ x y) (cwV 2 hts gL_asks_X0_heard rfl rfl rfl (by decide +kernel) ⟨Nat.le_of_ble_eq_true rfl, Nat.le_of_ble_eq_true rfl⟩) rfl hl.1 rfl (lv_room (Nat.le_of_ble_eq_true rfl)) dL_asks_59 ⟨Nat.le_of_ble_eq_true rfl, Nat.le_of_ble_eq_true rfl⟩ ?_ ?_
  · intro E ce q9 H locs hthr hw hce hcv hcl
    obtain rfl : E = "java/lang/IndexOutOfBoundsException" := (Option.some.inj (h0.symm.trans hthr)).symm
    refine vx_catch (name := "java/lang/IndexOutOfBoundsException") hown [] (⟨0, 97, 98, 42⟩ : ExceptionTableEntry) [] (by rw [htab]; rfl) (fun z hz => nomatch hz) (by decide) (by decide) (hts (.classLink RL 42 "java/lang/IndexOutOfBoundsException") (by decide +kernel)) (hTh.2.2.2.2.2.2.1.use rfl) hce hcv hcl ?_
    refine lv_astore (lv' := [(4, .ref q9), (0, .ref (a 0)), (1, .int 4), (2, .int x), (3, .int y)]) hx hb dL_asks_98 hl (by decide) rfl (fun ls hl => ?_)
    refine lv_bipush (v := (-30)) hx hb dL_asks_100 (by decide) ?_
    exact lz_iret (post := (fun r σ1 θ1 => r = -30 ∧ σ1 = σ ∧ θ1 = θ)) CF hr hlocks hw (Nat.le_of_ble_eq_true rfl) (Nat.le_of_ble_eq_true rfl) dL_asks_102 ⟨rfl, rfl, rfl⟩
  · intro hthr
    rw [h0] at hthr
    cases hthr
set_option maxHeartbeats 4000000 in
set_option maxRecDepth 100000 in
theorem jL_asks_5 (l : Launch) (hfl : l.stackTraces = false) (k : rm_K) (a q : Nat → Nat) (hsep : lz_sep a q) (σ θ : rm_St) (x y : Int32) (h0 : (rm_tN x) = some rm_IO) : lz_M l k a q (fun _ => True) yL_asks wsL_asks ({ frames := 8, cells := 2, slots := 12, locals := 140 }) [.ref (a 0), .int 5, .int x, .int y] σ θ (fun r σ1 θ1 => r = -30 ∧ σ1 = σ ∧ θ1 = θ) := by
  intro sz
  refine lz_ofWH (hh := [(0, 97, 98, 42)]) (cc := cL_asks) (maxL := 5) (ret := some .int) (by decide) rfl ?_
  intro p e s m args below meth c s₁ B hml hv
  obtain ⟨rfl, hsz, hP, hTh, hN, -⟩ := hv
  have hx := B.exec
  have hb := B.bytes
  have hr := B.returns
  have hts := atoms_spec (ws := wsL_asks) B.pre
  have hown : s.vm.findClass RL = some m.cls := findClass_of_methodNamed B.named
  have hlocks := B.notSynchronized
  have htab := vx_table (x := yL_asks) B (hts _ List.mem_cons_self)
  subst hsz
  have CF : CallFix p m c cL_asks 5 s _ wsL_asks RL := ⟨hx, hb, hml, hown, hts⟩
  have hA : ∀ x, s.heap.size ≤ x → lz_A a q s.heap.size x := fun x h => Or.inl (Or.inr h)
  have hw := lz_start hsep hP
  have hl := lv_entry ([.ref (a 0), .int 5, .int x, .int y]) (n := 5) (Nat.le_of_ble_eq_true rfl)
  rw [lg_entry_eq]
  generalize (lg_sl ([.ref (a 0), .int 5, .int x, .int y]) ++ List.replicate (5 - (lg_sl ([.ref (a 0), .int 5, .int x, .int y])).length) Slot.unset).toArray = ls at hl ⊢
  have hl : lv_has ls 5 [(0, .ref (a 0)), (1, .int 5), (2, .int x), (3, .int y)] := hl
  refine lv_iload_n hx hb dL_asks_0 rfl (lv_at hl 1 rfl) ?_
  refine lv_if_ne (tgt := 12) hx hb dL_asks_1 (by decide) (fun c_1 => ?_) (fun c_1 => absurd c_1 (by decide))
  refine lv_iload_n hx hb dL_asks_12 rfl (lv_at hl 1 rfl) ?_
  refine lv_iconst (v := 1) hx hb dL_asks_13 (by decide) ?_
  refine lv_icmp_ne (tgt := 25) hx hb dL_asks_14 (by decide) (fun c_14 => ?_) (fun c_14 => absurd c_14 (by decide))
  refine lv_iload_n hx hb dL_asks_25 rfl (lv_at hl 1 rfl) ?_
  refine lv_iconst (v := 2) hx hb dL_asks_26 (by decide) ?_
  refine lv_icmp_ne (tgt := 38) hx hb dL_asks_27 (by decide) (fun c_27 => ?_) (fun c_27 => absurd c_27 (by decide))
  refine lv_iload_n hx hb dL_asks_38 rfl (lv_at hl 1 rfl) ?_
  refine lv_iconst (v := 3) hx hb dL_asks_39 (by decide) ?_
  refine lv_icmp_ne (tgt := 51) hx hb dL_asks_40 (by decide) (fun c_40 => ?_) (fun c_40 => absurd c_40 (by decide))
  refine lv_iload_n hx hb dL_asks_51 rfl (lv_at hl 1 rfl) ?_
  refine lv_iconst (v := 4) hx hb dL_asks_52 (by decide) ?_
  refine lv_icmp_ne (tgt := 65) hx hb dL_asks_53 (by decide) (fun c_53 => ?_) (fun c_53 => absurd c_53 (by decide))
  refine lv_iload_n hx hb dL_asks_65 rfl (lv_at hl 1 rfl) ?_
  refine lv_iconst (v := 5) hx hb dL_asks_66 (by decide) ?_
  refine lv_icmp_ne (tgt := 78) hx hb dL_asks_67 (by decide) (fun c_67 => absurd (by decide) c_67) (fun c_67 => ?_)
  refine lv_aload_n hx hb dL_asks_70 rfl (lv_at hl 0 rfl) ?_
  refine lv_iload_n hx hb dL_asks_71 rfl (lv_at hl 2 rfl) ?_
  refine lz_callX CF hTh hA hw (As := [.int x]) (rest := []) (kX0_leastRank l hfl k a hsep.1 σ x) (cwV 1 hts gL_asks_X0_leastRank rfl rfl rfl (by decide +kernel) ⟨Nat.le_of_ble_eq_true rfl, Nat.le_of_ble_eq_true rfl⟩) rfl hl.1 rfl (lv_room (Nat.le_of_ble_eq_true rfl)) dL_asks_72 ⟨Nat.le_of_ble_eq_true rfl, Nat.le_of_ble_eq_true rfl⟩ ?_ ?_
  · intro E ce q9 H locs hthr hw hce hcv hcl
    obtain rfl : E = "java/lang/IndexOutOfBoundsException" := (Option.some.inj (h0.symm.trans hthr)).symm
    refine vx_catch (name := "java/lang/IndexOutOfBoundsException") hown [] (⟨0, 97, 98, 42⟩ : ExceptionTableEntry) [] (by rw [htab]; rfl) (fun z hz => nomatch hz) (by decide) (by decide) (hts (.classLink RL 42 "java/lang/IndexOutOfBoundsException") (by decide +kernel)) (hTh.2.2.2.2.2.2.1.use rfl) hce hcv hcl ?_
    refine lv_astore (lv' := [(4, .ref q9), (0, .ref (a 0)), (1, .int 5), (2, .int x), (3, .int y)]) hx hb dL_asks_98 hl (by decide) rfl (fun ls hl => ?_)
    refine lv_bipush (v := (-30)) hx hb dL_asks_100 (by decide) ?_
    exact lz_iret (post := (fun r σ1 θ1 => r = -30 ∧ σ1 = σ ∧ θ1 = θ)) CF hr hlocks hw (Nat.le_of_ble_eq_true rfl) (Nat.le_of_ble_eq_true rfl) dL_asks_102 ⟨rfl, rfl, rfl⟩
  · intro hthr
    rw [h0] at hthr
    cases hthr
set_option maxHeartbeats 4000000 in
set_option maxRecDepth 100000 in
theorem jL_asks_6 (l : Launch) (hfl : l.stackTraces = false) (k : rm_K) (a q : Nat → Nat) (hsep : lz_sep a q) (σ θ : rm_St) (x y : Int32) (h0 : (rm_tN x) = some rm_IO) : lz_M l k a q (fun _ => True) yL_asks wsL_asks ({ frames := 8, cells := 2, slots := 12, locals := 140 }) [.ref (a 0), .int 6, .int x, .int y] σ θ (fun r σ1 θ1 => r = -30 ∧ σ1 = σ ∧ θ1 = θ) := by
  intro sz
  refine lz_ofWH (hh := [(0, 97, 98, 42)]) (cc := cL_asks) (maxL := 5) (ret := some .int) (by decide) rfl ?_
  intro p e s m args below meth c s₁ B hml hv
  obtain ⟨rfl, hsz, hP, hTh, hN, -⟩ := hv
  have hx := B.exec
  have hb := B.bytes
  have hr := B.returns
  have hts := atoms_spec (ws := wsL_asks) B.pre
  have hown : s.vm.findClass RL = some m.cls := findClass_of_methodNamed B.named
  have hlocks := B.notSynchronized
  have htab := vx_table (x := yL_asks) B (hts _ List.mem_cons_self)
  subst hsz
  have CF : CallFix p m c cL_asks 5 s _ wsL_asks RL := ⟨hx, hb, hml, hown, hts⟩
  have hA : ∀ x, s.heap.size ≤ x → lz_A a q s.heap.size x := fun x h => Or.inl (Or.inr h)
  have hw := lz_start hsep hP
  have hl := lv_entry ([.ref (a 0), .int 6, .int x, .int y]) (n := 5) (Nat.le_of_ble_eq_true rfl)
  rw [lg_entry_eq]
  generalize (lg_sl ([.ref (a 0), .int 6, .int x, .int y]) ++ List.replicate (5 - (lg_sl ([.ref (a 0), .int 6, .int x, .int y])).length) Slot.unset).toArray = ls at hl ⊢
  have hl : lv_has ls 5 [(0, .ref (a 0)), (1, .int 6), (2, .int x), (3, .int y)] := hl
  refine lv_iload_n hx hb dL_asks_0 rfl (lv_at hl 1 rfl) ?_
  refine lv_if_ne (tgt := 12) hx hb dL_asks_1 (by decide) (fun c_1 => ?_) (fun c_1 => absurd c_1 (by decide))
  refine lv_iload_n hx hb dL_asks_12 rfl (lv_at hl 1 rfl) ?_
  refine lv_iconst (v := 1) hx hb dL_asks_13 (by decide) ?_
  refine lv_icmp_ne (tgt := 25) hx hb dL_asks_14 (by decide) (fun c_14 => ?_) (fun c_14 => absurd c_14 (by decide))
  refine lv_iload_n hx hb dL_asks_25 rfl (lv_at hl 1 rfl) ?_
  refine lv_iconst (v := 2) hx hb dL_asks_26 (by decide) ?_
  refine lv_icmp_ne (tgt := 38) hx hb dL_asks_27 (by decide) (fun c_27 => ?_) (fun c_27 => absurd c_27 (by decide))
  refine lv_iload_n hx hb dL_asks_38 rfl (lv_at hl 1 rfl) ?_
  refine lv_iconst (v := 3) hx hb dL_asks_39 (by decide) ?_
  refine lv_icmp_ne (tgt := 51) hx hb dL_asks_40 (by decide) (fun c_40 => ?_) (fun c_40 => absurd c_40 (by decide))
  refine lv_iload_n hx hb dL_asks_51 rfl (lv_at hl 1 rfl) ?_
  refine lv_iconst (v := 4) hx hb dL_asks_52 (by decide) ?_
  refine lv_icmp_ne (tgt := 65) hx hb dL_asks_53 (by decide) (fun c_53 => ?_) (fun c_53 => absurd c_53 (by decide))
  refine lv_iload_n hx hb dL_asks_65 rfl (lv_at hl 1 rfl) ?_
  refine lv_iconst (v := 5) hx hb dL_asks_66 (by decide) ?_
  refine lv_icmp_ne (tgt := 78) hx hb dL_asks_67 (by decide) (fun c_67 => ?_) (fun c_67 => absurd c_67 (by decide))
  refine lv_iload_n hx hb dL_asks_78 rfl (lv_at hl 1 rfl) ?_
  refine lv_bipush (v := 6) hx hb dL_asks_79 (by decide) ?_
  refine lv_icmp_ne (tgt := 92) hx hb dL_asks_81 (by decide) (fun c_81 => absurd (by decide) c_81) (fun c_81 => ?_)
  refine lv_aload_n hx hb dL_asks_84 rfl (lv_at hl 0 rfl) ?_
  refine lv_iload_n hx hb dL_asks_85 rfl (lv_at hl 2 rfl) ?_
  refine lz_callX CF hTh hA hw (As := [.int x]) (rest := []) (kX0_up l hfl k a hsep.1 σ x) (cwV 1 hts gL_asks_X0_up rfl rfl rfl (by decide +kernel) ⟨Nat.le_of_ble_eq_true rfl, Nat.le_of_ble_eq_true rfl⟩) rfl hl.1 rfl (lv_room (Nat.le_of_ble_eq_true rfl)) dL_asks_86 ⟨Nat.le_of_ble_eq_true rfl, Nat.le_of_ble_eq_true rfl⟩ ?_ ?_
  · intro E ce q9 H locs hthr hw hce hcv hcl
    obtain rfl : E = "java/lang/IndexOutOfBoundsException" := (Option.some.inj (h0.symm.trans hthr)).symm
    refine vx_catch (name := "java/lang/IndexOutOfBoundsException") hown [] (⟨0, 97, 98, 42⟩ : ExceptionTableEntry) [] (by rw [htab]; rfl) (fun z hz => nomatch hz) (by decide) (by decide) (hts (.classLink RL 42 "java/lang/IndexOutOfBoundsException") (by decide +kernel)) (hTh.2.2.2.2.2.2.1.use rfl) hce hcv hcl ?_
    refine lv_astore (lv' := [(4, .ref q9), (0, .ref (a 0)), (1, .int 6), (2, .int x), (3, .int y)]) hx hb dL_asks_98 hl (by decide) rfl (fun ls hl => ?_)
    refine lv_bipush (v := (-30)) hx hb dL_asks_100 (by decide) ?_
    exact lz_iret (post := (fun r σ1 θ1 => r = -30 ∧ σ1 = σ ∧ θ1 = θ)) CF hr hlocks hw (Nat.le_of_ble_eq_true rfl) (Nat.le_of_ble_eq_true rfl) dL_asks_102 ⟨rfl, rfl, rfl⟩
  · intro hthr
    rw [h0] at hthr
    cases hthr
set_option maxHeartbeats 4000000 in
set_option maxRecDepth 100000 in
theorem jL_asks_7 (l : Launch) (hfl : l.stackTraces = false) (k : rm_K) (a q : Nat → Nat) (hsep : lz_sep a q) (σ θ : rm_St) (x y : Int32) (h0 : (rm_tN x) = some rm_IO) : lz_M l k a q (fun _ => True) yL_asks wsL_asks ({ frames := 8, cells := 2, slots := 12, locals := 140 }) [.ref (a 0), .int 7, .int x, .int y] σ θ (fun r σ1 θ1 => r = -30 ∧ σ1 = σ ∧ θ1 = θ) := by
  intro sz
  refine lz_ofWH (hh := [(0, 97, 98, 42)]) (cc := cL_asks) (maxL := 5) (ret := some .int) (by decide) rfl ?_
  intro p e s m args below meth c s₁ B hml hv
  obtain ⟨rfl, hsz, hP, hTh, hN, -⟩ := hv
  have hx := B.exec
  have hb := B.bytes
  have hr := B.returns
  have hts := atoms_spec (ws := wsL_asks) B.pre
  have hown : s.vm.findClass RL = some m.cls := findClass_of_methodNamed B.named
  have hlocks := B.notSynchronized
  have htab := vx_table (x := yL_asks) B (hts _ List.mem_cons_self)
  subst hsz
  have CF : CallFix p m c cL_asks 5 s _ wsL_asks RL := ⟨hx, hb, hml, hown, hts⟩
  have hA : ∀ x, s.heap.size ≤ x → lz_A a q s.heap.size x := fun x h => Or.inl (Or.inr h)
  have hw := lz_start hsep hP
  have hl := lv_entry ([.ref (a 0), .int 7, .int x, .int y]) (n := 5) (Nat.le_of_ble_eq_true rfl)
  rw [lg_entry_eq]
  generalize (lg_sl ([.ref (a 0), .int 7, .int x, .int y]) ++ List.replicate (5 - (lg_sl ([.ref (a 0), .int 7, .int x, .int y])).length) Slot.unset).toArray = ls at hl ⊢
  have hl : lv_has ls 5 [(0, .ref (a 0)), (1, .int 7), (2, .int x), (3, .int y)] := hl
  refine lv_iload_n hx hb dL_asks_0 rfl (lv_at hl 1 rfl) ?_
  refine lv_if_ne (tgt := 12) hx hb dL_asks_1 (by decide) (fun c_1 => ?_) (fun c_1 => absurd c_1 (by decide))
  refine lv_iload_n hx hb dL_asks_12 rfl (lv_at hl 1 rfl) ?_
  refine lv_iconst (v := 1) hx hb dL_asks_13 (by decide) ?_
  refine lv_icmp_ne (tgt := 25) hx hb dL_asks_14 (by decide) (fun c_14 => ?_) (fun c_14 => absurd c_14 (by decide))
  refine lv_iload_n hx hb dL_asks_25 rfl (lv_at hl 1 rfl) ?_
  refine lv_iconst (v := 2) hx hb dL_asks_26 (by decide) ?_
  refine lv_icmp_ne (tgt := 38) hx hb dL_asks_27 (by decide) (fun c_27 => ?_) (fun c_27 => absurd c_27 (by decide))
  refine lv_iload_n hx hb dL_asks_38 rfl (lv_at hl 1 rfl) ?_
  refine lv_iconst (v := 3) hx hb dL_asks_39 (by decide) ?_
  refine lv_icmp_ne (tgt := 51) hx hb dL_asks_40 (by decide) (fun c_40 => ?_) (fun c_40 => absurd c_40 (by decide))
  refine lv_iload_n hx hb dL_asks_51 rfl (lv_at hl 1 rfl) ?_
  refine lv_iconst (v := 4) hx hb dL_asks_52 (by decide) ?_
  refine lv_icmp_ne (tgt := 65) hx hb dL_asks_53 (by decide) (fun c_53 => ?_) (fun c_53 => absurd c_53 (by decide))
  refine lv_iload_n hx hb dL_asks_65 rfl (lv_at hl 1 rfl) ?_
  refine lv_iconst (v := 5) hx hb dL_asks_66 (by decide) ?_
  refine lv_icmp_ne (tgt := 78) hx hb dL_asks_67 (by decide) (fun c_67 => ?_) (fun c_67 => absurd c_67 (by decide))
  refine lv_iload_n hx hb dL_asks_78 rfl (lv_at hl 1 rfl) ?_
  refine lv_bipush (v := 6) hx hb dL_asks_79 (by decide) ?_
  refine lv_icmp_ne (tgt := 92) hx hb dL_asks_81 (by decide) (fun c_81 => ?_) (fun c_81 => absurd c_81 (by decide))
  refine lv_aload_n hx hb dL_asks_92 rfl (lv_at hl 0 rfl) ?_
  refine lv_iload_n hx hb dL_asks_93 rfl (lv_at hl 2 rfl) ?_
  refine lz_callX CF hTh hA hw (As := [.int x]) (rest := []) (kX0_below l hfl k a hsep.1 σ x) (cwV 1 hts gL_asks_X0_below rfl rfl rfl (by decide +kernel) ⟨Nat.le_of_ble_eq_true rfl, Nat.le_of_ble_eq_true rfl⟩) rfl hl.1 rfl (lv_room (Nat.le_of_ble_eq_true rfl)) dL_asks_94 ⟨Nat.le_of_ble_eq_true rfl, Nat.le_of_ble_eq_true rfl⟩ ?_ ?_
  · intro E ce q9 H locs hthr hw hce hcv hcl
    obtain rfl : E = "java/lang/IndexOutOfBoundsException" := (Option.some.inj (h0.symm.trans hthr)).symm
    refine vx_catch (name := "java/lang/IndexOutOfBoundsException") hown [] (⟨0, 97, 98, 42⟩ : ExceptionTableEntry) [] (by rw [htab]; rfl) (fun z hz => nomatch hz) (by decide) (by decide) (hts (.classLink RL 42 "java/lang/IndexOutOfBoundsException") (by decide +kernel)) (hTh.2.2.2.2.2.2.1.use rfl) hce hcv hcl ?_
    refine lv_astore (lv' := [(4, .ref q9), (0, .ref (a 0)), (1, .int 7), (2, .int x), (3, .int y)]) hx hb dL_asks_98 hl (by decide) rfl (fun ls hl => ?_)
    refine lv_bipush (v := (-30)) hx hb dL_asks_100 (by decide) ?_
    exact lz_iret (post := (fun r σ1 θ1 => r = -30 ∧ σ1 = σ ∧ θ1 = θ)) CF hr hlocks hw (Nat.le_of_ble_eq_true rfl) (Nat.le_of_ble_eq_true rfl) dL_asks_102 ⟨rfl, rfl, rfl⟩
  · intro hthr
    rw [h0] at hthr
    cases hthr
section LK
variable (l : Launch) (k : rm_K) (a : Nat → Nat) (σ : rm_St) {n o : Nat}
theorem lk_tN (hn : n < 10) : rm_tN (nI n) = none := if_pos (isNd_nI hn)
theorem lk_rank {r0 : Int32} (hfl : l.stackTraces = false) (ha : rm_inj a) (hn : n < 10) (hr0 : σ 9 n = r0) : rm_XI l k a yX0_rank wsX0_rank ({ frames := 7, cells := 1, slots := 6, locals := 110 }) [.int (nI n)] σ none r0 σ := by
  have h := kX0_rank l hfl k a ha σ (nI n)
  rw [lk_tN hn, rm_cl hn, hr0] at h
  exact h
theorem lk_parent {r0 : Int32} (hfl : l.stackTraces = false) (ha : rm_inj a) (hn : n < 10) (hr0 : σ 11 n = r0) : rm_XI l k a yX0_parent wsX0_parent ({ frames := 7, cells := 1, slots := 6, locals := 110 }) [.int (nI n)] σ none r0 σ := by
  have h := kX0_parent l hfl k a ha σ (nI n)
  rw [lk_tN hn, rm_cl hn, hr0] at h
  exact h
theorem lk_tree {r0 : Int32} (hfl : l.stackTraces = false) (ha : rm_inj a) (hn : n < 10) (hr0 : rm_tree σ (nI n) = r0) : rm_XI l k a yX0_tree wsX0_tree ({ frames := 7, cells := 1, slots := 6, locals := 110 }) [.int (nI n)] σ none r0 σ := by
  have h := kX0_tree l hfl k a ha σ (nI n)
  rw [lk_tN hn, hr0] at h
  exact h
theorem lk_nextTelling {r0 : Int32} (hfl : l.stackTraces = false) (ha : rm_inj a) (hn : n < 10) (hr0 : σ 13 n = r0) : rm_XI l k a yX0_nextTelling wsX0_nextTelling ({ frames := 7, cells := 1, slots := 6, locals := 110 }) [.int (nI n)] σ none r0 σ := by
  have h := kX0_nextTelling l hfl k a ha σ (nI n)
  rw [lk_tN hn, rm_cl hn, hr0] at h
  exact h
theorem lk_heard {r0 : Int32} (hfl : l.stackTraces = false) (ha : rm_inj a) (hn : n < 10) (ho : o < 10) (hr0 : σ (45 + n) o = r0) : rm_XI l k a yX0_heard wsX0_heard ({ frames := 7, cells := 2, slots := 12, locals := 110 }) [.int (nI n), .int (nI o)] σ none r0 σ := by
  have h := kX0_heard l hfl k a ha σ (nI n) (nI o)
  rw [show rm_t2 (nI n) (nI o) = none by (unfold rm_t2; rw [lk_tN hn, lk_tN ho]; rfl), rm_cl hn, rm_cl ho, hr0] at h
  exact h
theorem lk_leastRank {r0 : Int32} (hfl : l.stackTraces = false) (ha : rm_inj a) (hn : n < 10) (hr0 : rm_least σ 14 n = r0) : rm_XI l k a yX0_leastRank wsX0_leastRank ({ frames := 7, cells := 1, slots := 6, locals := 110 }) [.int (nI n)] σ none r0 (rm_least σ) := by
  have h := kX0_leastRank l hfl k a ha σ (nI n)
  rw [lk_tN hn, rm_cl hn, hr0] at h
  exact h
theorem lk_below {r0 : Int32} (hfl : l.stackTraces = false) (ha : rm_inj a) (hn : n < 10) (hr0 : rm_below σ (nI n) = r0) : rm_XI l k a yX0_below wsX0_below ({ frames := 7, cells := 1, slots := 6, locals := 110 }) [.int (nI n)] σ none r0 σ := by
  have h := kX0_below l hfl k a ha σ (nI n)
  rw [lk_tN hn, hr0] at h
  exact h
theorem lk_up {r0 : Int32} (hfl : l.stackTraces = false) (ha : rm_inj a) (hn : n < 10) {σ0 : rm_St} (hs0 : (rm_upS σ (nI n)).1 = σ0) (hr0 : (rm_upS σ (nI n)).2 = r0) : rm_XI l k a yX0_up wsX0_up ({ frames := 7, cells := 1, slots := 6, locals := 110 }) [.int (nI n)] σ none r0 σ0 := by
  have h := kX0_up l hfl k a ha σ (nI n)
  rw [lk_tN hn, hr0, hs0] at h
  exact h
theorem lk_pass {r0 : Int32} (hfl : l.stackTraces = false) (ha : rm_inj a) (hn1 : 1 ≤ n) (hn2 : n ≤ 100) (hr0 : (rm_pass σ (nI n)).2 = r0) : rm_XI l k a yX0_pass wsX0_pass ({ frames := 7, cells := 1, slots := 6, locals := 158 }) [.int (nI n)] σ none r0 (rm_pass σ (nI n)).1 := by
  have h := kX0_pass l hfl k a ha σ (nI n)
  rw [show rm_tR (nI n) 1 100 = none by (unfold rm_tR; rw [if_neg (show ¬ nI n < (1 : Int32) from nI_nlt (a := n) (b := 1) hn1 (by omega)), if_pos (show nI n ≤ (100 : Int32) from nI_le (a := n) (b := 100) hn2 (by decide))]), hr0] at h
  exact h
end LK

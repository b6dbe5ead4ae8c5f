def rl_c1 : Option String → Int32
  | none => 0
  | some _ => 1
def rl_c2 (X : String) : Option String → Int32
  | none => 0
  | some E => if E = X then 1 else 2
theorem rl_c2_1 (X : String) : rl_c2 X (some X) = 1 := if_pos rfl
theorem rl_c2_2 {X E : String} (h : ¬ E = X) : rl_c2 X (some E) = 2 := if_neg h
def rl_s {α : Type} (x y : α) : Option String → α
  | none => x
  | some _ => y
theorem rm_tN_c {v : Int32} {E : String} (h : rm_tN v = some E) : E = rm_IO := by
  unfold rm_tN at h
  split at h
  · cases h
  · exact (Option.some.inj h).symm
theorem rm_tR_c {v f t : Int32} {E : String} (h : rm_tR v f t = some E) : E = rm_IA := by
  unfold rm_tR at h
  split at h
  · exact (Option.some.inj h).symm
  · split at h
    · cases h
    · exact (Option.some.inj h).symm
theorem rm_or_c {a b : Option String} {E : String} (h : rm_or a b = some E) : a = some E ∨ b = some E := by
  cases a with
  | none => exact Or.inr h
  | some e => exact Or.inl h
theorem rm_tSet_c {x y z w : Int32} {E : String} (h : rm_tSet x y z w = some E) : E = rm_IA := by
  rcases rm_or_c h with h | h
  · exact rm_tR_c h
  · rcases rm_or_c h with h | h
    · exact rm_tR_c h
    · rcases rm_or_c h with h | h <;> exact rm_tR_c h
theorem rm_tLink_c {x y v : Int32} {E : String} (h : rm_tLink x y v = some E) : E = rm_IO ∨ E = rm_IA := by
  rcases rm_or_c h with h | h
  · exact Or.inl (rm_tN_c h)
  · rcases rm_or_c h with h | h
    · exact Or.inl (rm_tN_c h)
    · split at h
      · exact Or.inr (Option.some.inj h).symm
      · exact Or.inr (rm_tR_c h)
theorem rm_tMake_c {σ : rm_St} {v : Int32} {E : String} (h : rm_tMake σ v = some E) : E = rm_IO ∨ E = rm_IS := by
  rcases rm_or_c h with h | h
  · exact Or.inl (rm_tN_c h)
  · split at h
    · cases h
    · exact Or.inr (Option.some.inj h).symm
theorem rm_tRoot_c {σ : rm_St} {v : Int32} {E : String} (h : rm_tRoot σ v = some E) : E = rm_IO ∨ E = rm_IS := by
  rcases rm_or_c h with h | h
  · exact Or.inl (rm_tN_c h)
  · split at h
    · exact Or.inr (Option.some.inj h).symm
    · cases h
theorem rm_t2_c {x y : Int32} {E : String} (h : rm_t2 x y = some E) : E = rm_IO := by
  rcases rm_or_c h with h | h <;> exact rm_tN_c h
theorem rm_tDown_c {σ : rm_St} {x y : Int32} {E : String} (h : rm_tDown σ x y = some E) : E = rm_IO ∨ E = rm_IS := by
  rcases rm_or_c h with h | h
  · exact Or.inl (rm_tN_c h)
  · rcases rm_or_c h with h | h
    · exact Or.inl (rm_tN_c h)
    · split at h
      · exact Or.inr (Option.some.inj h).symm
      · split at h
        · exact Or.inr (Option.some.inj h).symm
        · cases h
set_option maxHeartbeats 4000000 in
set_option maxRecDepth 100000 in
theorem jL_setRules (l : Launch) (hfl : l.stackTraces = false) (k : rm_K) (a : Nat → Nat) (ha : rm_inj a) (o : Nat) (hao : ∀ j, j < 55 → a j ≠ o) (σ : rm_St) (f : Nat → Int64) (p0 : Int32) (p1 : Int32) (p2 : Int32) (p3 : Int32) (sz : Nat) : Met l yL_setRules wsL_setRules ({ frames := 8, cells := 4, slots := 24, locals := 136 }) (va_Pc [.ref (a 0), .int p0, .int p1, .int p2, .int p3] (fun U => U.heap.size = sz ∧ rl_P k a σ o f U ∧ rm_Th (rl_A a o sz) U ∧ rl_N U)) (va_Qi (fun (r : Int32) (u : rm_St × (Nat → Int64)) => r = (rl_c1 (rm_tSet p0 p1 p2 p3)) ∧ u = (rl_s ((rm_setS σ p0 p1 p2 p3), f) (σ, f) (rm_tSet p0 p1 p2 p3))) (fun u t => rl_P k a u.1 o u.2 t) (rl_A a o sz)) 4 24 (rl_A a o sz) := by
  refine rl_ofWH (hh := [(0, 9, 12, 13)]) (cc := cL_setRules) (maxL := 6) (ret := some .int) (by decide) rfl ?_
  intro p e s m args below meth c s₁ B hml hv
  obtain ⟨rfl, hsz, hP, hTh, hN⟩ := hv
  have hx := B.exec
  have hb := B.bytes
  have hr := B.returns
  have hts := atoms_spec (ws := wsL_setRules) B.pre
  have hown : s.vm.findClass RL = some m.cls := findClass_of_methodNamed B.named
  have hlocks := B.notSynchronized
  have htab := vx_table (x := yL_setRules) B (hts _ List.mem_cons_self)
  subst hsz
  have CF : CallFix p m c cL_setRules 6 s _ wsL_setRules RL := ⟨hx, hb, hml, hown, hts⟩
  have hA : ∀ q, s.heap.size ≤ q → rl_A a o s.heap.size q := fun q h => Or.inl (Or.inr h)
  have hw : rl_Wd k a o (rl_A a o s.heap.size) s.heap s σ f s.heap [] := ⟨hP.1.2, hP.1.1, hP.2, ⟨ha, fun j hj => Or.inl (Or.inl ⟨j, hj, rfl⟩), Or.inr rfl, hao⟩, va_S.rf⟩
  have hl := lv_entry ([.ref (a 0), .int p0, .int p1, .int p2, .int p3]) (n := 6) (Nat.le_of_ble_eq_true rfl)
  rw [lg_entry_eq]
  generalize (lg_sl ([.ref (a 0), .int p0, .int p1, .int p2, .int p3]) ++ List.replicate (6 - (lg_sl ([.ref (a 0), .int p0, .int p1, .int p2, .int p3])).length) Slot.unset).toArray = ls at hl ⊢
  have hl : lv_has ls 6 [(0, .ref (a 0)), (1, .int p0), (2, .int p1), (3, .int p2), (4, .int p3)] := hl
  refine lv_aload_n hx hb dL_setRules_0 rfl (lv_at hl 0 rfl) ?_
  refine lv_iload_n hx hb dL_setRules_1 rfl (lv_at hl 1 rfl) ?_
  refine lv_iload_n hx hb dL_setRules_2 rfl (lv_at hl 2 rfl) ?_
  refine lv_iload_n hx hb dL_setRules_3 rfl (lv_at hl 3 rfl) ?_
  refine lv_iload hx hb dL_setRules_4 (lv_at hl 4 rfl) ?_
  refine rl_callV CF hTh hA hw (As := [.int p0, .int p1, .int p2, .int p3]) (rest := []) (kX0_setRules l hfl k a ha σ p0 p1 p2 p3) (cwV 4 hts gL_setRules_X0_setRules rfl rfl rfl (by decide +kernel) ⟨Nat.le_of_ble_eq_true rfl, Nat.le_of_ble_eq_true rfl⟩) rfl hl.1 rfl (lv_room (Nat.le_of_ble_eq_true rfl)) dL_setRules_6 ⟨Nat.le_of_ble_eq_true rfl, Nat.le_of_ble_eq_true rfl⟩ ?_ ?_
  · intro E ce q9 H locs hthr hw hce hcv hcl
    obtain rfl := rm_tSet_c hthr
    refine vx_catch (name := "java/lang/IllegalArgumentException") hown [] (⟨0, 9, 12, 13⟩ : ExceptionTableEntry) [] (by rw [htab]; rfl) (fun z hz => nomatch hz) (by decide) (by decide) (hts (.classLink RL 13 "java/lang/IllegalArgumentException") (by decide +kernel)) (hTh.2.2.2.2.2.2.2.1.use rfl) hce hcv hcl ?_
    refine lv_astore (lv' := [(5, .ref q9), (0, .ref (a 0)), (1, .int p0), (2, .int p1), (3, .int p2), (4, .int p3)]) hx hb dL_setRules_12 hl (by decide) rfl (fun ls hl => ?_)
    refine lv_iconst (v := 1) hx hb dL_setRules_14 (by decide) ?_
    exact rl_iret CF hr hlocks hw (Nat.le_of_ble_eq_true rfl) (Nat.le_of_ble_eq_true rfl) dL_setRules_15 ⟨by rw [hthr]; rfl, by rw [hthr]; rfl⟩
  · intro hthr H locs hw
    refine lv_goto (tgt := 16) hx hb dL_setRules_9 (by decide) ?_
    refine lv_iconst (v := 0) hx hb dL_setRules_16 (by decide) ?_
    exact rl_iret CF hr hlocks hw (Nat.le_of_ble_eq_true rfl) (Nat.le_of_ble_eq_true rfl) dL_setRules_17 ⟨by rw [hthr]; rfl, by rw [hthr]; rfl⟩
set_option maxHeartbeats 4000000 in
set_option maxRecDepth 100000 in
theorem jL_link (l : Launch) (hfl : l.stackTraces = false) (k : rm_K) (a : Nat → Nat) (ha : rm_inj a) (o : Nat) (hao : ∀ j, j < 55 → a j ≠ o) (σ : rm_St) (f : Nat → Int64) (p0 : Int32) (p1 : Int32) (p2 : Int32) (sz : Nat) : Met l yL_link wsL_link ({ frames := 8, cells := 4, slots := 24, locals := 138 }) (va_Pc [.ref (a 0), .int p0, .int p1, .int p2, .ref o] (fun U => U.heap.size = sz ∧ rl_P k a σ o f U ∧ rm_Th (rl_A a o sz) U ∧ rl_N U)) (va_Qi (fun (r : Int32) (u : rm_St × (Nat → Int64)) => r = (rl_c2 rm_IO (rm_tLink p0 p1 p2)) ∧ u = (rl_s ((rm_linkS σ p0 p1 p2), (vp_updL f 0 ((σ (15 + p0.toNatClampNeg) p1.toNatClampNeg)).toInt64)) (σ, f) (rm_tLink p0 p1 p2))) (fun u t => rl_P k a u.1 o u.2 t) (rl_A a o sz)) 4 24 (rl_A a o sz) := by
  refine rl_ofWH (hh := [(0, 12, 15, 19), (0, 12, 19, 13)]) (cc := cL_link) (maxL := 6) (ret := some .int) (by decide) rfl ?_
  intro p e s m args below meth c s₁ B hml hv
  obtain ⟨rfl, hsz, hP, hTh, hN⟩ := hv
  have hx := B.exec
  have hb := B.bytes
  have hr := B.returns
  have hts := atoms_spec (ws := wsL_link) B.pre
  have hown : s.vm.findClass RL = some m.cls := findClass_of_methodNamed B.named
  have hlocks := B.notSynchronized
  have htab := vx_table (x := yL_link) B (hts _ List.mem_cons_self)
  subst hsz
  have CF : CallFix p m c cL_link 6 s _ wsL_link RL := ⟨hx, hb, hml, hown, hts⟩
  have hA : ∀ q, s.heap.size ≤ q → rl_A a o s.heap.size q := fun q h => Or.inl (Or.inr h)
  have hw : rl_Wd k a o (rl_A a o s.heap.size) s.heap s σ f s.heap [] := ⟨hP.1.2, hP.1.1, hP.2, ⟨ha, fun j hj => Or.inl (Or.inl ⟨j, hj, rfl⟩), Or.inr rfl, hao⟩, va_S.rf⟩
  have hl := lv_entry ([.ref (a 0), .int p0, .int p1, .int p2, .ref o]) (n := 6) (Nat.le_of_ble_eq_true rfl)
  rw [lg_entry_eq]
  generalize (lg_sl ([.ref (a 0), .int p0, .int p1, .int p2, .ref o]) ++ List.replicate (6 - (lg_sl ([.ref (a 0), .int p0, .int p1, .int p2, .ref o])).length) Slot.unset).toArray = ls at hl ⊢
  have hl : lv_has ls 6 [(0, .ref (a 0)), (1, .int p0), (2, .int p1), (3, .int p2), (4, .ref o)] := hl
  refine lv_aload hx hb dL_link_0 (lv_at hl 4 rfl) ?_
  refine lv_iconst (v := 0) hx hb dL_link_2 (by decide) ?_
  refine lv_aload_n hx hb dL_link_3 rfl (lv_at hl 0 rfl) ?_
  refine lv_iload_n hx hb dL_link_4 rfl (lv_at hl 1 rfl) ?_
  refine lv_iload_n hx hb dL_link_5 rfl (lv_at hl 2 rfl) ?_
  refine lv_iload_n hx hb dL_link_6 rfl (lv_at hl 3 rfl) ?_
  refine rl_callI CF hTh hA hw (As := [.int p0, .int p1, .int p2]) (rest := [.int 0, .ref o]) (kX0_link l hfl k a ha σ p0 p1 p2) (cwV 3 hts gL_link_X0_link rfl rfl rfl (by decide +kernel) ⟨Nat.le_of_ble_eq_true rfl, Nat.le_of_ble_eq_true rfl⟩) rfl hl.1 rfl (lv_room (Nat.le_of_ble_eq_true rfl)) dL_link_7 ⟨Nat.le_of_ble_eq_true rfl, Nat.le_of_ble_eq_true rfl⟩ ?_ ?_
  · intro E ce q9 H locs hthr hw hce hcv hcl
    rcases rm_tLink_c hthr with rfl | rfl
    · skip
      refine vx_catch (name := "java/lang/IndexOutOfBoundsException") hown [] (⟨0, 12, 15, 19⟩ : ExceptionTableEntry) [(⟨0, 12, 19, 13⟩ : ExceptionTableEntry)] (by rw [htab]; rfl) (fun z hz => nomatch hz) (by decide) (by decide) (hts (.classLink RL 19 "java/lang/IndexOutOfBoundsException") (by decide +kernel)) (hTh.2.2.2.2.2.2.1.use rfl) hce hcv hcl ?_
      refine lv_astore (lv' := [(5, .ref q9), (0, .ref (a 0)), (1, .int p0), (2, .int p1), (3, .int p2), (4, .ref o)]) hx hb dL_link_15 hl (by decide) rfl (fun ls hl => ?_)
      refine lv_iconst (v := 1) hx hb dL_link_17 (by decide) ?_
      exact rl_iret CF hr hlocks hw (Nat.le_of_ble_eq_true rfl) (Nat.le_of_ble_eq_true rfl) dL_link_18 ⟨by rw [hthr]; exact (rl_c2_1 _).symm, by rw [hthr]; rfl⟩
    · skip
      refine vx_catch (name := "java/lang/IllegalArgumentException") hown [(⟨0, 12, 15, 19⟩ : ExceptionTableEntry)] (⟨0, 12, 19, 13⟩ : ExceptionTableEntry) [] (by rw [htab]; rfl) (fun z hz => by
        have hz := List.mem_singleton.mp hz
        subst hz
        exact Or.inr ⟨by decide, "java/lang/IndexOutOfBoundsException", hts (.classLink RL 19 "java/lang/IndexOutOfBoundsException") (by decide +kernel), hN.1⟩) (by decide) (by decide) (hts (.classLink RL 13 "java/lang/IllegalArgumentException") (by decide +kernel)) (hTh.2.2.2.2.2.2.2.1.use rfl) hce hcv hcl ?_
      refine lv_astore (lv' := [(5, .ref q9), (0, .ref (a 0)), (1, .int p0), (2, .int p1), (3, .int p2), (4, .ref o)]) hx hb dL_link_19 hl (by decide) rfl (fun ls hl => ?_)
      refine lv_iconst (v := 2) hx hb dL_link_21 (by decide) ?_
      exact rl_iret CF hr hlocks hw (Nat.le_of_ble_eq_true rfl) (Nat.le_of_ble_eq_true rfl) dL_link_22 ⟨by rw [hthr]; exact (rl_c2_2 (by decide)).symm, by rw [hthr]; rfl⟩
  · intro hthr H locs hw
    refine lv_i2l (v := ((σ (15 + p0.toNatClampNeg) p1.toNatClampNeg)).toInt64) hx hb dL_link_10 rfl ?_
    refine rl_last CF hw dL_link_11 (fun H locs hw => ?_)
    refine lv_goto (tgt := 23) hx hb dL_link_12 (by decide) ?_
    refine lv_iconst (v := 0) hx hb dL_link_23 (by decide) ?_
    exact rl_iret CF hr hlocks hw (Nat.le_of_ble_eq_true rfl) (Nat.le_of_ble_eq_true rfl) dL_link_24 ⟨by rw [hthr]; rfl, by rw [hthr]; rfl⟩
set_option maxHeartbeats 4000000 in
set_option maxRecDepth 100000 in
theorem jL_makeRoot (l : Launch) (hfl : l.stackTraces = false) (k : rm_K) (a : Nat → Nat) (ha : rm_inj a) (o : Nat) (hao : ∀ j, j < 55 → a j ≠ o) (σ : rm_St) (f : Nat → Int64) (p0 : Int32) (sz : Nat) : Met l yL_makeRoot wsL_makeRoot ({ frames := 8, cells := 2, slots := 12, locals := 131 }) (va_Pc [.ref (a 0), .int p0, .ref o] (fun U => U.heap.size = sz ∧ rl_P k a σ o f U ∧ rm_Th (rl_A a o sz) U ∧ rl_N U)) (va_Qi (fun (r : Int32) (u : rm_St × (Nat → Int64)) => r = (rl_c2 rm_IO (rm_tMake σ p0)) ∧ u = (rl_s ((rm_begin (rm_mk σ p0.toNatClampNeg) p0.toNatClampNeg), (vp_updL f 0 ((rm_begin (rm_mk σ p0.toNatClampNeg) p0.toNatClampNeg 8 p0.toNatClampNeg)).toInt64)) (σ, f) (rm_tMake σ p0))) (fun u t => rl_P k a u.1 o u.2 t) (rl_A a o sz)) 2 12 (rl_A a o sz) := by
  refine rl_ofWH (hh := [(0, 9, 12, 19), (0, 9, 15, 25)]) (cc := cL_makeRoot) (maxL := 4) (ret := some .int) (by decide) rfl ?_
  intro p e s m args below meth c s₁ B hml hv
  obtain ⟨rfl, hsz, hP, hTh, hN⟩ := hv
  have hx := B.exec
  have hb := B.bytes
  have hr := B.returns
  have hts := atoms_spec (ws := wsL_makeRoot) B.pre
  have hown : s.vm.findClass RL = some m.cls := findClass_of_methodNamed B.named
  have hlocks := B.notSynchronized
  have htab := vx_table (x := yL_makeRoot) B (hts _ List.mem_cons_self)
  subst hsz
  have CF : CallFix p m c cL_makeRoot 4 s _ wsL_makeRoot RL := ⟨hx, hb, hml, hown, hts⟩
  have hA : ∀ q, s.heap.size ≤ q → rl_A a o s.heap.size q := fun q h => Or.inl (Or.inr h)
  have hw : rl_Wd k a o (rl_A a o s.heap.size) s.heap s σ f s.heap [] := ⟨hP.1.2, hP.1.1, hP.2, ⟨ha, fun j hj => Or.inl (Or.inl ⟨j, hj, rfl⟩), Or.inr rfl, hao⟩, va_S.rf⟩
  have hl := lv_entry ([.ref (a 0), .int p0, .ref o]) (n := 4) (Nat.le_of_ble_eq_true rfl)
  rw [lg_entry_eq]
  generalize (lg_sl ([.ref (a 0), .int p0, .ref o]) ++ List.replicate (4 - (lg_sl ([.ref (a 0), .int p0, .ref o])).length) Slot.unset).toArray = ls at hl ⊢
  have hl : lv_has ls 4 [(0, .ref (a 0)), (1, .int p0), (2, .ref o)] := hl
  refine lv_aload_n hx hb dL_makeRoot_0 rfl (lv_at hl 2 rfl) ?_
  refine lv_iconst (v := 0) hx hb dL_makeRoot_1 (by decide) ?_
  refine lv_aload_n hx hb dL_makeRoot_2 rfl (lv_at hl 0 rfl) ?_
  refine lv_iload_n hx hb dL_makeRoot_3 rfl (lv_at hl 1 rfl) ?_
  refine rl_callI CF hTh hA hw (As := [.int p0]) (rest := [.int 0, .ref o]) (kX0_makeRoot l hfl k a ha σ p0) (cwV 1 hts gL_makeRoot_X0_makeRoot rfl rfl rfl (by decide +kernel) ⟨Nat.le_of_ble_eq_true rfl, Nat.le_of_ble_eq_true rfl⟩) rfl hl.1 rfl (lv_room (Nat.le_of_ble_eq_true rfl)) dL_makeRoot_4 ⟨Nat.le_of_ble_eq_true rfl, Nat.le_of_ble_eq_true rfl⟩ ?_ ?_
  · intro E ce q9 H locs hthr hw hce hcv hcl
    rcases rm_tMake_c hthr with rfl | rfl
    · skip
      refine vx_catch (name := "java/lang/IndexOutOfBoundsException") hown [] (⟨0, 9, 12, 19⟩ : ExceptionTableEntry) [(⟨0, 9, 15, 25⟩ : ExceptionTableEntry)] (by rw [htab]; rfl) (fun z hz => nomatch hz) (by decide) (by decide) (hts (.classLink RL 19 "java/lang/IndexOutOfBoundsException") (by decide +kernel)) (hTh.2.2.2.2.2.2.1.use rfl) hce hcv hcl ?_
      refine lv_astore_n (lv' := [(3, .ref q9), (0, .ref (a 0)), (1, .int p0), (2, .ref o)]) hx hb dL_makeRoot_12 rfl hl (by decide) rfl (fun ls hl => ?_)
      refine lv_iconst (v := 1) hx hb dL_makeRoot_13 (by decide) ?_
      exact rl_iret CF hr hlocks hw (Nat.le_of_ble_eq_true rfl) (Nat.le_of_ble_eq_true rfl) dL_makeRoot_14 ⟨by rw [hthr]; exact (rl_c2_1 _).symm, by rw [hthr]; rfl⟩
    · skip
      refine vx_catch (name := "java/lang/IllegalStateException") hown [(⟨0, 9, 12, 19⟩ : ExceptionTableEntry)] (⟨0, 9, 15, 25⟩ : ExceptionTableEntry) [] (by rw [htab]; rfl) (fun z hz => by
        have hz := List.mem_singleton.mp hz
        subst hz
        exact Or.inr ⟨by decide, "java/lang/IndexOutOfBoundsException", hts (.classLink RL 19 "java/lang/IndexOutOfBoundsException") (by decide +kernel), hN.2⟩) (by decide) (by decide) (hts (.classLink RL 25 "java/lang/IllegalStateException") (by decide +kernel)) (hTh.2.2.2.2.2.2.2.2.use rfl) hce hcv hcl ?_
      refine lv_astore_n (lv' := [(3, .ref q9), (0, .ref (a 0)), (1, .int p0), (2, .ref o)]) hx hb dL_makeRoot_15 rfl hl (by decide) rfl (fun ls hl => ?_)
      refine lv_iconst (v := 2) hx hb dL_makeRoot_16 (by decide) ?_
      exact rl_iret CF hr hlocks hw (Nat.le_of_ble_eq_true rfl) (Nat.le_of_ble_eq_true rfl) dL_makeRoot_17 ⟨by rw [hthr]; exact (rl_c2_2 (by decide)).symm, by rw [hthr]; rfl⟩
  · intro hthr H locs hw
    refine lv_i2l (v := ((rm_begin (rm_mk σ p0.toNatClampNeg) p0.toNatClampNeg 8 p0.toNatClampNeg)).toInt64) hx hb dL_makeRoot_7 rfl ?_
    refine rl_last CF hw dL_makeRoot_8 (fun H locs hw => ?_)
    refine lv_goto (tgt := 18) hx hb dL_makeRoot_9 (by decide) ?_
    refine lv_iconst (v := 0) hx hb dL_makeRoot_18 (by decide) ?_
    exact rl_iret CF hr hlocks hw (Nat.le_of_ble_eq_true rfl) (Nat.le_of_ble_eq_true rfl) dL_makeRoot_19 ⟨by rw [hthr]; rfl, by rw [hthr]; rfl⟩
set_option maxHeartbeats 4000000 in
set_option maxRecDepth 100000 in
theorem jL_endRoot (l : Launch) (hfl : l.stackTraces = false) (k : rm_K) (a : Nat → Nat) (ha : rm_inj a) (o : Nat) (hao : ∀ j, j < 55 → a j ≠ o) (σ : rm_St) (f : Nat → Int64) (p0 : Int32) (sz : Nat) : Met l yL_endRoot wsL_endRoot ({ frames := 9, cells := 2, slots := 12, locals := 152 }) (va_Pc [.ref (a 0), .int p0] (fun U => U.heap.size = sz ∧ rl_P k a σ o f U ∧ rm_Th (rl_A a o sz) U ∧ rl_N U)) (va_Qi (fun (r : Int32) (u : rm_St × (Nat → Int64)) => r = (rl_c2 rm_IO (rm_tRoot σ p0)) ∧ u = (rl_s ((rm_choose (rm_reset (rm_clear (rm_up σ 5 p0.toNatClampNeg 0) p0.toNatClampNeg) p0.toNatClampNeg) p0.toNatClampNeg), f) (σ, f) (rm_tRoot σ p0))) (fun u t => rl_P k a u.1 o u.2 t) (rl_A a o sz)) 2 12 (rl_A a o sz) := by
  refine rl_ofWH (hh := [(0, 5, 8, 19), (0, 5, 11, 25)]) (cc := cL_endRoot) (maxL := 3) (ret := some .int) (by decide) rfl ?_
  intro p e s m args below meth c s₁ B hml hv
  obtain ⟨rfl, hsz, hP, hTh, hN⟩ := hv
  have hx := B.exec
  have hb := B.bytes
  have hr := B.returns
  have hts := atoms_spec (ws := wsL_endRoot) B.pre
  have hown : s.vm.findClass RL = some m.cls := findClass_of_methodNamed B.named
  have hlocks := B.notSynchronized
  have htab := vx_table (x := yL_endRoot) B (hts _ List.mem_cons_self)
  subst hsz
  have CF : CallFix p m c cL_endRoot 3 s _ wsL_endRoot RL := ⟨hx, hb, hml, hown, hts⟩
  have hA : ∀ q, s.heap.size ≤ q → rl_A a o s.heap.size q := fun q h => Or.inl (Or.inr h)
  have hw : rl_Wd k a o (rl_A a o s.heap.size) s.heap s σ f s.heap [] := ⟨hP.1.2, hP.1.1, hP.2, ⟨ha, fun j hj => Or.inl (Or.inl ⟨j, hj, rfl⟩), Or.inr rfl, hao⟩, va_S.rf⟩
  have hl := lv_entry ([.ref (a 0), .int p0]) (n := 3) (Nat.le_of_ble_eq_true rfl)
  rw [lg_entry_eq]
  generalize (lg_sl ([.ref (a 0), .int p0]) ++ List.replicate (3 - (lg_sl ([.ref (a 0), .int p0])).length) Slot.unset).toArray = ls at hl ⊢
  have hl : lv_has ls 3 [(0, .ref (a 0)), (1, .int p0)] := hl
  refine lv_aload_n hx hb dL_endRoot_0 rfl (lv_at hl 0 rfl) ?_
  refine lv_iload_n hx hb dL_endRoot_1 rfl (lv_at hl 1 rfl) ?_
  refine rl_callV CF hTh hA hw (As := [.int p0]) (rest := []) (kX0_endRoot l hfl k a ha σ p0) (cwV 1 hts gL_endRoot_X0_endRoot rfl rfl rfl (by decide +kernel) ⟨Nat.le_of_ble_eq_true rfl, Nat.le_of_ble_eq_true rfl⟩) rfl hl.1 rfl (lv_room (Nat.le_of_ble_eq_true rfl)) dL_endRoot_2 ⟨Nat.le_of_ble_eq_true rfl, Nat.le_of_ble_eq_true rfl⟩ ?_ ?_
  · intro E ce q9 H locs hthr hw hce hcv hcl
    rcases rm_tRoot_c hthr with rfl | rfl
    · skip
      refine vx_catch (name := "java/lang/IndexOutOfBoundsException") hown [] (⟨0, 5, 8, 19⟩ : ExceptionTableEntry) [(⟨0, 5, 11, 25⟩ : ExceptionTableEntry)] (by rw [htab]; rfl) (fun z hz => nomatch hz) (by decide) (by decide) (hts (.classLink RL 19 "java/lang/IndexOutOfBoundsException") (by decide +kernel)) (hTh.2.2.2.2.2.2.1.use rfl) hce hcv hcl ?_
      refine lv_astore_n (lv' := [(2, .ref q9), (0, .ref (a 0)), (1, .int p0)]) hx hb dL_endRoot_8 rfl hl (by decide) rfl (fun ls hl => ?_)
      refine lv_iconst (v := 1) hx hb dL_endRoot_9 (by decide) ?_
      exact rl_iret CF hr hlocks hw (Nat.le_of_ble_eq_true rfl) (Nat.le_of_ble_eq_true rfl) dL_endRoot_10 ⟨by rw [hthr]; exact (rl_c2_1 _).symm, by rw [hthr]; rfl⟩
    · skip
      refine vx_catch (name := "java/lang/IllegalStateException") hown [(⟨0, 5, 8, 19⟩ : ExceptionTableEntry)] (⟨0, 5, 11, 25⟩ : ExceptionTableEntry) [] (by rw [htab]; rfl) (fun z hz => by
        have hz := List.mem_singleton.mp hz
        subst hz
        exact Or.inr ⟨by decide, "java/lang/IndexOutOfBoundsException", hts (.classLink RL 19 "java/lang/IndexOutOfBoundsException") (by decide +kernel), hN.2⟩) (by decide) (by decide) (hts (.classLink RL 25 "java/lang/IllegalStateException") (by decide +kernel)) (hTh.2.2.2.2.2.2.2.2.use rfl) hce hcv hcl ?_
      refine lv_astore_n (lv' := [(2, .ref q9), (0, .ref (a 0)), (1, .int p0)]) hx hb dL_endRoot_11 rfl hl (by decide) rfl (fun ls hl => ?_)
      refine lv_iconst (v := 2) hx hb dL_endRoot_12 (by decide) ?_
      exact rl_iret CF hr hlocks hw (Nat.le_of_ble_eq_true rfl) (Nat.le_of_ble_eq_true rfl) dL_endRoot_13 ⟨by rw [hthr]; exact (rl_c2_2 (by decide)).symm, by rw [hthr]; rfl⟩
  · intro hthr H locs hw
    refine lv_goto (tgt := 14) hx hb dL_endRoot_5 (by decide) ?_
    refine lv_iconst (v := 0) hx hb dL_endRoot_14 (by decide) ?_
    exact rl_iret CF hr hlocks hw (Nat.le_of_ble_eq_true rfl) (Nat.le_of_ble_eq_true rfl) dL_endRoot_15 ⟨by rw [hthr]; rfl, by rw [hthr]; rfl⟩
set_option maxHeartbeats 4000000 in
set_option maxRecDepth 100000 in
theorem jL_renew (l : Launch) (hfl : l.stackTraces = false) (k : rm_K) (a : Nat → Nat) (ha : rm_inj a) (o : Nat) (hao : ∀ j, j < 55 → a j ≠ o) (σ : rm_St) (f : Nat → Int64) (p0 : Int32) (sz : Nat) : Met l yL_renew wsL_renew ({ frames := 9, cells := 2, slots := 12, locals := 152 }) (va_Pc [.ref (a 0), .int p0, .ref o] (fun U => U.heap.size = sz ∧ rl_P k a σ o f U ∧ rm_Th (rl_A a o sz) U ∧ rl_N U)) (va_Qi (fun (r : Int32) (u : rm_St × (Nat → Int64)) => r = (rl_c2 rm_IO (rm_tRoot σ p0)) ∧ u = (rl_s ((rm_begin σ p0.toNatClampNeg), (vp_updL f 0 ((rm_begin σ p0.toNatClampNeg 8 p0.toNatClampNeg)).toInt64)) (σ, f) (rm_tRoot σ p0))) (fun u t => rl_P k a u.1 o u.2 t) (rl_A a o sz)) 2 12 (rl_A a o sz) := by
  refine rl_ofWH (hh := [(0, 9, 12, 19), (0, 9, 15, 25)]) (cc := cL_renew) (maxL := 4) (ret := some .int) (by decide) rfl ?_
  intro p e s m args below meth c s₁ B hml hv
  obtain ⟨rfl, hsz, hP, hTh, hN⟩ := hv
  have hx := B.exec
  have hb := B.bytes
  have hr := B.returns
  have hts := atoms_spec (ws := wsL_renew) B.pre
  have hown : s.vm.findClass RL = some m.cls := findClass_of_methodNamed B.named
  have hlocks := B.notSynchronized
  have htab := vx_table (x := yL_renew) B (hts _ List.mem_cons_self)
  subst hsz
  have CF : CallFix p m c cL_renew 4 s _ wsL_renew RL := ⟨hx, hb, hml, hown, hts⟩
  have hA : ∀ q, s.heap.size ≤ q → rl_A a o s.heap.size q := fun q h => Or.inl (Or.inr h)
  have hw : rl_Wd k a o (rl_A a o s.heap.size) s.heap s σ f s.heap [] := ⟨hP.1.2, hP.1.1, hP.2, ⟨ha, fun j hj => Or.inl (Or.inl ⟨j, hj, rfl⟩), Or.inr rfl, hao⟩, va_S.rf⟩
  have hl := lv_entry ([.ref (a 0), .int p0, .ref o]) (n := 4) (Nat.le_of_ble_eq_true rfl)
  rw [lg_entry_eq]
  generalize (lg_sl ([.ref (a 0), .int p0, .ref o]) ++ List.replicate (4 - (lg_sl ([.ref (a 0), .int p0, .ref o])).length) Slot.unset).toArray = ls at hl ⊢
  have hl : lv_has ls 4 [(0, .ref (a 0)), (1, .int p0), (2, .ref o)] := hl
  refine lv_aload_n hx hb dL_renew_0 rfl (lv_at hl 2 rfl) ?_
  refine lv_iconst (v := 0) hx hb dL_renew_1 (by decide) ?_
  refine lv_aload_n hx hb dL_renew_2 rfl (lv_at hl 0 rfl) ?_
  refine lv_iload_n hx hb dL_renew_3 rfl (lv_at hl 1 rfl) ?_
  refine rl_callI CF hTh hA hw (As := [.int p0]) (rest := [.int 0, .ref o]) (kX0_renew l hfl k a ha σ p0) (cwV 1 hts gL_renew_X0_renew rfl rfl rfl (by decide +kernel) ⟨Nat.le_of_ble_eq_true rfl, Nat.le_of_ble_eq_true rfl⟩) rfl hl.1 rfl (lv_room (Nat.le_of_ble_eq_true rfl)) dL_renew_4 ⟨Nat.le_of_ble_eq_true rfl, Nat.le_of_ble_eq_true rfl⟩ ?_ ?_
  · intro E ce q9 H locs hthr hw hce hcv hcl
    rcases rm_tRoot_c hthr with rfl | rfl
    · skip
      refine vx_catch (name := "java/lang/IndexOutOfBoundsException") hown [] (⟨0, 9, 12, 19⟩ : ExceptionTableEntry) [(⟨0, 9, 15, 25⟩ : ExceptionTableEntry)] (by rw [htab]; rfl) (fun z hz => nomatch hz) (by decide) (by decide) (hts (.classLink RL 19 "java/lang/IndexOutOfBoundsException") (by decide +kernel)) (hTh.2.2.2.2.2.2.1.use rfl) hce hcv hcl ?_
      refine lv_astore_n (lv' := [(3, .ref q9), (0, .ref (a 0)), (1, .int p0), (2, .ref o)]) hx hb dL_renew_12 rfl hl (by decide) rfl (fun ls hl => ?_)
      refine lv_iconst (v := 1) hx hb dL_renew_13 (by decide) ?_
      exact rl_iret CF hr hlocks hw (Nat.le_of_ble_eq_true rfl) (Nat.le_of_ble_eq_true rfl) dL_renew_14 ⟨by rw [hthr]; exact (rl_c2_1 _).symm, by rw [hthr]; rfl⟩
    · skip
      refine vx_catch (name := "java/lang/IllegalStateException") hown [(⟨0, 9, 12, 19⟩ : ExceptionTableEntry)] (⟨0, 9, 15, 25⟩ : ExceptionTableEntry) [] (by rw [htab]; rfl) (fun z hz => by
        have hz := List.mem_singleton.mp hz
        subst hz
        exact Or.inr ⟨by decide, "java/lang/IndexOutOfBoundsException", hts (.classLink RL 19 "java/lang/IndexOutOfBoundsException") (by decide +kernel), hN.2⟩) (by decide) (by decide) (hts (.classLink RL 25 "java/lang/IllegalStateException") (by decide +kernel)) (hTh.2.2.2.2.2.2.2.2.use rfl) hce hcv hcl ?_
      refine lv_astore_n (lv' := [(3, .ref q9), (0, .ref (a 0)), (1, .int p0), (2, .ref o)]) hx hb dL_renew_15 rfl hl (by decide) rfl (fun ls hl => ?_)
      refine lv_iconst (v := 2) hx hb dL_renew_16 (by decide) ?_
      exact rl_iret CF hr hlocks hw (Nat.le_of_ble_eq_true rfl) (Nat.le_of_ble_eq_true rfl) dL_renew_17 ⟨by rw [hthr]; exact (rl_c2_2 (by decide)).symm, by rw [hthr]; rfl⟩
  · intro hthr H locs hw
    refine lv_i2l (v := ((rm_begin σ p0.toNatClampNeg 8 p0.toNatClampNeg)).toInt64) hx hb dL_renew_7 rfl ?_
    refine rl_last CF hw dL_renew_8 (fun H locs hw => ?_)
    refine lv_goto (tgt := 18) hx hb dL_renew_9 (by decide) ?_
    refine lv_iconst (v := 0) hx hb dL_renew_18 (by decide) ?_
    exact rl_iret CF hr hlocks hw (Nat.le_of_ble_eq_true rfl) (Nat.le_of_ble_eq_true rfl) dL_renew_19 ⟨by rw [hthr]; rfl, by rw [hthr]; rfl⟩
set_option maxHeartbeats 4000000 in
set_option maxRecDepth 100000 in
theorem jL_pass (l : Launch) (hfl : l.stackTraces = false) (k : rm_K) (a : Nat → Nat) (ha : rm_inj a) (o : Nat) (hao : ∀ j, j < 55 → a j ≠ o) (σ : rm_St) (f : Nat → Int64) (p0 : Int32) (sz : Nat) : Met l yL_pass wsL_pass ({ frames := 8, cells := 1, slots := 6, locals := 181 }) (va_Pc [.ref (a 0), .int p0, .ref o] (fun U => U.heap.size = sz ∧ rl_P k a σ o f U ∧ rm_Th (rl_A a o sz) U ∧ rl_N U)) (va_Qi (fun (r : Int32) (u : rm_St × (Nat → Int64)) => r = (rl_c1 (rm_tR p0 1 100)) ∧ u = (rl_s (((rm_pass σ p0).1), (vp_updL f 0 (((rm_pass σ p0).2)).toInt64)) (σ, f) (rm_tR p0 1 100))) (fun u t => rl_P k a u.1 o u.2 t) (rl_A a o sz)) 1 6 (rl_A a o sz) := by
  refine rl_ofWH (hh := [(0, 9, 12, 13)]) (cc := cL_pass) (maxL := 4) (ret := some .int) (by decide) rfl ?_
  intro p e s m args below meth c s₁ B hml hv
  obtain ⟨rfl, hsz, hP, hTh, hN⟩ := hv
  have hx := B.exec
  have hb := B.bytes
  have hr := B.returns
  have hts := atoms_spec (ws := wsL_pass) B.pre
  have hown : s.vm.findClass RL = some m.cls := findClass_of_methodNamed B.named
  have hlocks := B.notSynchronized
  have htab := vx_table (x := yL_pass) B (hts _ List.mem_cons_self)
  subst hsz
  have CF : CallFix p m c cL_pass 4 s _ wsL_pass RL := ⟨hx, hb, hml, hown, hts⟩
  have hA : ∀ q, s.heap.size ≤ q → rl_A a o s.heap.size q := fun q h => Or.inl (Or.inr h)
  have hw : rl_Wd k a o (rl_A a o s.heap.size) s.heap s σ f s.heap [] := ⟨hP.1.2, hP.1.1, hP.2, ⟨ha, fun j hj => Or.inl (Or.inl ⟨j, hj, rfl⟩), Or.inr rfl, hao⟩, va_S.rf⟩
  have hl := lv_entry ([.ref (a 0), .int p0, .ref o]) (n := 4) (Nat.le_of_ble_eq_true rfl)
  rw [lg_entry_eq]
  generalize (lg_sl ([.ref (a 0), .int p0, .ref o]) ++ List.replicate (4 - (lg_sl ([.ref (a 0), .int p0, .ref o])).length) Slot.unset).toArray = ls at hl ⊢
  have hl : lv_has ls 4 [(0, .ref (a 0)), (1, .int p0), (2, .ref o)] := hl
  refine lv_aload_n hx hb dL_pass_0 rfl (lv_at hl 2 rfl) ?_
  refine lv_iconst (v := 0) hx hb dL_pass_1 (by decide) ?_
  refine lv_aload_n hx hb dL_pass_2 rfl (lv_at hl 0 rfl) ?_
  refine lv_iload_n hx hb dL_pass_3 rfl (lv_at hl 1 rfl) ?_
  refine rl_callI CF hTh hA hw (As := [.int p0]) (rest := [.int 0, .ref o]) (kX0_pass l hfl k a ha σ p0) (cwV 1 hts gL_pass_X0_pass rfl rfl rfl (by decide +kernel) ⟨Nat.le_of_ble_eq_true rfl, Nat.le_of_ble_eq_true rfl⟩) rfl hl.1 rfl (lv_room (Nat.le_of_ble_eq_true rfl)) dL_pass_4 ⟨Nat.le_of_ble_eq_true rfl, Nat.le_of_ble_eq_true rfl⟩ ?_ ?_
  · intro E ce q9 H locs hthr hw hce hcv hcl
    obtain rfl := rm_tR_c hthr
    refine vx_catch (name := "java/lang/IllegalArgumentException") hown [] (⟨0, 9, 12, 13⟩ : ExceptionTableEntry) [] (by rw [htab]; rfl) (fun z hz => nomatch hz) (by decide) (by decide) (hts (.classLink RL 13 "java/lang/IllegalArgumentException") (by decide +kernel)) (hTh.2.2.2.2.2.2.2.1.use rfl) hce hcv hcl ?_
    refine lv_astore_n (lv' := [(3, .ref q9), (0, .ref (a 0)), (1, .int p0), (2, .ref o)]) hx hb dL_pass_12 rfl hl (by decide) rfl (fun ls hl => ?_)
    refine lv_iconst (v := 1) hx hb dL_pass_13 (by decide) ?_
    exact rl_iret CF hr hlocks hw (Nat.le_of_ble_eq_true rfl) (Nat.le_of_ble_eq_true rfl) dL_pass_14 ⟨by rw [hthr]; rfl, by rw [hthr]; rfl⟩
  · intro hthr H locs hw
    refine lv_i2l (v := (((rm_pass σ p0).2)).toInt64) hx hb dL_pass_7 rfl ?_
    refine rl_last CF hw dL_pass_8 (fun H locs hw => ?_)
    refine lv_goto (tgt := 15) hx hb dL_pass_9 (by decide) ?_
    refine lv_iconst (v := 0) hx hb dL_pass_15 (by decide) ?_
    exact rl_iret CF hr hlocks hw (Nat.le_of_ble_eq_true rfl) (Nat.le_of_ble_eq_true rfl) dL_pass_16 ⟨by rw [hthr]; rfl, by rw [hthr]; rfl⟩
set_option maxHeartbeats 4000000 in
set_option maxRecDepth 100000 in
theorem jL_rank (l : Launch) (hfl : l.stackTraces = false) (k : rm_K) (a : Nat → Nat) (ha : rm_inj a) (o : Nat) (hao : ∀ j, j < 55 → a j ≠ o) (σ : rm_St) (f : Nat → Int64) (p0 : Int32) (sz : Nat) : Met l yL_rank wsL_rank ({ frames := 8, cells := 1, slots := 6, locals := 131 }) (va_Pc [.ref (a 0), .int p0, .ref o] (fun U => U.heap.size = sz ∧ rl_P k a σ o f U ∧ rm_Th (rl_A a o sz) U ∧ rl_N U)) (va_Qi (fun (r : Int32) (u : rm_St × (Nat → Int64)) => r = (rl_c1 (rm_tN p0)) ∧ u = (rl_s (σ, (vp_updL f 0 ((σ 9 p0.toNatClampNeg)).toInt64)) (σ, f) (rm_tN p0))) (fun u t => rl_P k a u.1 o u.2 t) (rl_A a o sz)) 1 6 (rl_A a o sz) := by
  refine rl_ofWH (hh := [(0, 9, 12, 19)]) (cc := cL_rank) (maxL := 4) (ret := some .int) (by decide) rfl ?_
  intro p e s m args below meth c s₁ B hml hv
  obtain ⟨rfl, hsz, hP, hTh, hN⟩ := hv
  have hx := B.exec
  have hb := B.bytes
  have hr := B.returns
  have hts := atoms_spec (ws := wsL_rank) B.pre
  have hown : s.vm.findClass RL = some m.cls := findClass_of_methodNamed B.named
  have hlocks := B.notSynchronized
  have htab := vx_table (x := yL_rank) B (hts _ List.mem_cons_self)
  subst hsz
  have CF : CallFix p m c cL_rank 4 s _ wsL_rank RL := ⟨hx, hb, hml, hown, hts⟩
  have hA : ∀ q, s.heap.size ≤ q → rl_A a o s.heap.size q := fun q h => Or.inl (Or.inr h)
  have hw : rl_Wd k a o (rl_A a o s.heap.size) s.heap s σ f s.heap [] := ⟨hP.1.2, hP.1.1, hP.2, ⟨ha, fun j hj => Or.inl (Or.inl ⟨j, hj, rfl⟩), Or.inr rfl, hao⟩, va_S.rf⟩
  have hl := lv_entry ([.ref (a 0), .int p0, .ref o]) (n := 4) (Nat.le_of_ble_eq_true rfl)
  rw [lg_entry_eq]
  generalize (lg_sl ([.ref (a 0), .int p0, .ref o]) ++ List.replicate (4 - (lg_sl ([.ref (a 0), .int p0, .ref o])).length) Slot.unset).toArray = ls at hl ⊢
  have hl : lv_has ls 4 [(0, .ref (a 0)), (1, .int p0), (2, .ref o)] := hl
  refine lv_aload_n hx hb dL_rank_0 rfl (lv_at hl 2 rfl) ?_
  refine lv_iconst (v := 0) hx hb dL_rank_1 (by decide) ?_
  refine lv_aload_n hx hb dL_rank_2 rfl (lv_at hl 0 rfl) ?_
  refine lv_iload_n hx hb dL_rank_3 rfl (lv_at hl 1 rfl) ?_
  refine rl_callI CF hTh hA hw (As := [.int p0]) (rest := [.int 0, .ref o]) (kX0_rank l hfl k a ha σ p0) (cwV 1 hts gL_rank_X0_rank rfl rfl rfl (by decide +kernel) ⟨Nat.le_of_ble_eq_true rfl, Nat.le_of_ble_eq_true rfl⟩) rfl hl.1 rfl (lv_room (Nat.le_of_ble_eq_true rfl)) dL_rank_4 ⟨Nat.le_of_ble_eq_true rfl, Nat.le_of_ble_eq_true rfl⟩ ?_ ?_
  · intro E ce q9 H locs hthr hw hce hcv hcl
    obtain rfl := rm_tN_c hthr
    refine vx_catch (name := "java/lang/IndexOutOfBoundsException") hown [] (⟨0, 9, 12, 19⟩ : ExceptionTableEntry) [] (by rw [htab]; rfl) (fun z hz => nomatch hz) (by decide) (by decide) (hts (.classLink RL 19 "java/lang/IndexOutOfBoundsException") (by decide +kernel)) (hTh.2.2.2.2.2.2.1.use rfl) hce hcv hcl ?_
    refine lv_astore_n (lv' := [(3, .ref q9), (0, .ref (a 0)), (1, .int p0), (2, .ref o)]) hx hb dL_rank_12 rfl hl (by decide) rfl (fun ls hl => ?_)
    refine lv_iconst (v := 1) hx hb dL_rank_13 (by decide) ?_
    exact rl_iret CF hr hlocks hw (Nat.le_of_ble_eq_true rfl) (Nat.le_of_ble_eq_true rfl) dL_rank_14 ⟨by rw [hthr]; rfl, by rw [hthr]; rfl⟩
  · intro hthr H locs hw
    refine lv_i2l (v := ((σ 9 p0.toNatClampNeg)).toInt64) hx hb dL_rank_7 rfl ?_
    refine rl_last CF hw dL_rank_8 (fun H locs hw => ?_)
    refine lv_goto (tgt := 15) hx hb dL_rank_9 (by decide) ?_
    refine lv_iconst (v := 0) hx hb dL_rank_15 (by decide) ?_
    exact rl_iret CF hr hlocks hw (Nat.le_of_ble_eq_true rfl) (Nat.le_of_ble_eq_true rfl) dL_rank_16 ⟨by rw [hthr]; rfl, by rw [hthr]; rfl⟩
set_option maxHeartbeats 4000000 in
set_option maxRecDepth 100000 in
theorem jL_parent (l : Launch) (hfl : l.stackTraces = false) (k : rm_K) (a : Nat → Nat) (ha : rm_inj a) (o : Nat) (hao : ∀ j, j < 55 → a j ≠ o) (σ : rm_St) (f : Nat → Int64) (p0 : Int32) (sz : Nat) : Met l yL_parent wsL_parent ({ frames := 8, cells := 1, slots := 6, locals := 131 }) (va_Pc [.ref (a 0), .int p0, .ref o] (fun U => U.heap.size = sz ∧ rl_P k a σ o f U ∧ rm_Th (rl_A a o sz) U ∧ rl_N U)) (va_Qi (fun (r : Int32) (u : rm_St × (Nat → Int64)) => r = (rl_c1 (rm_tN p0)) ∧ u = (rl_s (σ, (vp_updL f 0 ((σ 11 p0.toNatClampNeg)).toInt64)) (σ, f) (rm_tN p0))) (fun u t => rl_P k a u.1 o u.2 t) (rl_A a o sz)) 1 6 (rl_A a o sz) := by
  refine rl_ofWH (hh := [(0, 9, 12, 19)]) (cc := cL_parent) (maxL := 4) (ret := some .int) (by decide) rfl ?_
  intro p e s m args below meth c s₁ B hml hv
  obtain ⟨rfl, hsz, hP, hTh, hN⟩ := hv
  have hx := B.exec
  have hb := B.bytes
  have hr := B.returns
  have hts := atoms_spec (ws := wsL_parent) B.pre
  have hown : s.vm.findClass RL = some m.cls := findClass_of_methodNamed B.named
  have hlocks := B.notSynchronized
  have htab := vx_table (x := yL_parent) B (hts _ List.mem_cons_self)
  subst hsz
  have CF : CallFix p m c cL_parent 4 s _ wsL_parent RL := ⟨hx, hb, hml, hown, hts⟩
  have hA : ∀ q, s.heap.size ≤ q → rl_A a o s.heap.size q := fun q h => Or.inl (Or.inr h)
  have hw : rl_Wd k a o (rl_A a o s.heap.size) s.heap s σ f s.heap [] := ⟨hP.1.2, hP.1.1, hP.2, ⟨ha, fun j hj => Or.inl (Or.inl ⟨j, hj, rfl⟩), Or.inr rfl, hao⟩, va_S.rf⟩
  have hl := lv_entry ([.ref (a 0), .int p0, .ref o]) (n := 4) (Nat.le_of_ble_eq_true rfl)
  rw [lg_entry_eq]
  generalize (lg_sl ([.ref (a 0), .int p0, .ref o]) ++ List.replicate (4 - (lg_sl ([.ref (a 0), .int p0, .ref o])).length) Slot.unset).toArray = ls at hl ⊢
  have hl : lv_has ls 4 [(0, .ref (a 0)), (1, .int p0), (2, .ref o)] := hl
  refine lv_aload_n hx hb dL_parent_0 rfl (lv_at hl 2 rfl) ?_
  refine lv_iconst (v := 0) hx hb dL_parent_1 (by decide) ?_
  refine lv_aload_n hx hb dL_parent_2 rfl (lv_at hl 0 rfl) ?_
  refine lv_iload_n hx hb dL_parent_3 rfl (lv_at hl 1 rfl) ?_
  refine rl_callI CF hTh hA hw (As := [.int p0]) (rest := [.int 0, .ref o]) (kX0_parent l hfl k a ha σ p0) (cwV 1 hts gL_parent_X0_parent rfl rfl rfl (by decide +kernel) ⟨Nat.le_of_ble_eq_true rfl, Nat.le_of_ble_eq_true rfl⟩) rfl hl.1 rfl (lv_room (Nat.le_of_ble_eq_true rfl)) dL_parent_4 ⟨Nat.le_of_ble_eq_true rfl, Nat.le_of_ble_eq_true rfl⟩ ?_ ?_
  · intro E ce q9 H locs hthr hw hce hcv hcl
    obtain rfl := rm_tN_c hthr
    refine vx_catch (name := "java/lang/IndexOutOfBoundsException") hown [] (⟨0, 9, 12, 19⟩ : ExceptionTableEntry) [] (by rw [htab]; rfl) (fun z hz => nomatch hz) (by decide) (by decide) (hts (.classLink RL 19 "java/lang/IndexOutOfBoundsException") (by decide +kernel)) (hTh.2.2.2.2.2.2.1.use rfl) hce hcv hcl ?_
    refine lv_astore_n (lv' := [(3, .ref q9), (0, .ref (a 0)), (1, .int p0), (2, .ref o)]) hx hb dL_parent_12 rfl hl (by decide) rfl (fun ls hl => ?_)
    refine lv_iconst (v := 1) hx hb dL_parent_13 (by decide) ?_
    exact rl_iret CF hr hlocks hw (Nat.le_of_ble_eq_true rfl) (Nat.le_of_ble_eq_true rfl) dL_parent_14 ⟨by rw [hthr]; rfl, by rw [hthr]; rfl⟩
  · intro hthr H locs hw
    refine lv_i2l (v := ((σ 11 p0.toNatClampNeg)).toInt64) hx hb dL_parent_7 rfl ?_
    refine rl_last CF hw dL_parent_8 (fun H locs hw => ?_)
    refine lv_goto (tgt := 15) hx hb dL_parent_9 (by decide) ?_
    refine lv_iconst (v := 0) hx hb dL_parent_15 (by decide) ?_
    exact rl_iret CF hr hlocks hw (Nat.le_of_ble_eq_true rfl) (Nat.le_of_ble_eq_true rfl) dL_parent_16 ⟨by rw [hthr]; rfl, by rw [hthr]; rfl⟩
set_option maxHeartbeats 4000000 in
set_option maxRecDepth 100000 in
theorem jL_tree (l : Launch) (hfl : l.stackTraces = false) (k : rm_K) (a : Nat → Nat) (ha : rm_inj a) (o : Nat) (hao : ∀ j, j < 55 → a j ≠ o) (σ : rm_St) (f : Nat → Int64) (p0 : Int32) (sz : Nat) : Met l yL_tree wsL_tree ({ frames := 8, cells := 1, slots := 6, locals := 131 }) (va_Pc [.ref (a 0), .int p0, .ref o] (fun U => U.heap.size = sz ∧ rl_P k a σ o f U ∧ rm_Th (rl_A a o sz) U ∧ rl_N U)) (va_Qi (fun (r : Int32) (u : rm_St × (Nat → Int64)) => r = (rl_c1 (rm_tN p0)) ∧ u = (rl_s (σ, (vp_updL f 0 ((rm_tree σ p0)).toInt64)) (σ, f) (rm_tN p0))) (fun u t => rl_P k a u.1 o u.2 t) (rl_A a o sz)) 1 6 (rl_A a o sz) := by
  refine rl_ofWH (hh := [(0, 9, 12, 19)]) (cc := cL_tree) (maxL := 4) (ret := some .int) (by decide) rfl ?_
  intro p e s m args below meth c s₁ B hml hv
  obtain ⟨rfl, hsz, hP, hTh, hN⟩ := hv
  have hx := B.exec
  have hb := B.bytes
  have hr := B.returns
  have hts := atoms_spec (ws := wsL_tree) B.pre
  have hown : s.vm.findClass RL = some m.cls := findClass_of_methodNamed B.named
  have hlocks := B.notSynchronized
  have htab := vx_table (x := yL_tree) B (hts _ List.mem_cons_self)
  subst hsz
  have CF : CallFix p m c cL_tree 4 s _ wsL_tree RL := ⟨hx, hb, hml, hown, hts⟩
  have hA : ∀ q, s.heap.size ≤ q → rl_A a o s.heap.size q := fun q h => Or.inl (Or.inr h)
  have hw : rl_Wd k a o (rl_A a o s.heap.size) s.heap s σ f s.heap [] := ⟨hP.1.2, hP.1.1, hP.2, ⟨ha, fun j hj => Or.inl (Or.inl ⟨j, hj, rfl⟩), Or.inr rfl, hao⟩, va_S.rf⟩
  have hl := lv_entry ([.ref (a 0), .int p0, .ref o]) (n := 4) (Nat.le_of_ble_eq_true rfl)
  rw [lg_entry_eq]
  generalize (lg_sl ([.ref (a 0), .int p0, .ref o]) ++ List.replicate (4 - (lg_sl ([.ref (a 0), .int p0, .ref o])).length) Slot.unset).toArray = ls at hl ⊢
  have hl : lv_has ls 4 [(0, .ref (a 0)), (1, .int p0), (2, .ref o)] := hl
  refine lv_aload_n hx hb dL_tree_0 rfl (lv_at hl 2 rfl) ?_
  refine lv_iconst (v := 0) hx hb dL_tree_1 (by decide) ?_
  refine lv_aload_n hx hb dL_tree_2 rfl (lv_at hl 0 rfl) ?_
  refine lv_iload_n hx hb dL_tree_3 rfl (lv_at hl 1 rfl) ?_
  refine rl_callI CF hTh hA hw (As := [.int p0]) (rest := [.int 0, .ref o]) (kX0_tree l hfl k a ha σ p0) (cwV 1 hts gL_tree_X0_tree rfl rfl rfl (by decide +kernel) ⟨Nat.le_of_ble_eq_true rfl, Nat.le_of_ble_eq_true rfl⟩) rfl hl.1 rfl (lv_room (Nat.le_of_ble_eq_true rfl)) dL_tree_4 ⟨Nat.le_of_ble_eq_true rfl, Nat.le_of_ble_eq_true rfl⟩ ?_ ?_
  · intro E ce q9 H locs hthr hw hce hcv hcl
    obtain rfl := rm_tN_c hthr
    refine vx_catch (name := "java/lang/IndexOutOfBoundsException") hown [] (⟨0, 9, 12, 19⟩ : ExceptionTableEntry) [] (by rw [htab]; rfl) (fun z hz => nomatch hz) (by decide) (by decide) (hts (.classLink RL 19 "java/lang/IndexOutOfBoundsException") (by decide +kernel)) (hTh.2.2.2.2.2.2.1.use rfl) hce hcv hcl ?_
    refine lv_astore_n (lv' := [(3, .ref q9), (0, .ref (a 0)), (1, .int p0), (2, .ref o)]) hx hb dL_tree_12 rfl hl (by decide) rfl (fun ls hl => ?_)
    refine lv_iconst (v := 1) hx hb dL_tree_13 (by decide) ?_
    exact rl_iret CF hr hlocks hw (Nat.le_of_ble_eq_true rfl) (Nat.le_of_ble_eq_true rfl) dL_tree_14 ⟨by rw [hthr]; rfl, by rw [hthr]; rfl⟩
  · intro hthr H locs hw
    refine lv_i2l (v := ((rm_tree σ p0)).toInt64) hx hb dL_tree_7 rfl ?_
    refine rl_last CF hw dL_tree_8 (fun H locs hw => ?_)
    refine lv_goto (tgt := 15) hx hb dL_tree_9 (by decide) ?_
    refine lv_iconst (v := 0) hx hb dL_tree_15 (by decide) ?_
    exact rl_iret CF hr hlocks hw (Nat.le_of_ble_eq_true rfl) (Nat.le_of_ble_eq_true rfl) dL_tree_16 ⟨by rw [hthr]; rfl, by rw [hthr]; rfl⟩
set_option maxHeartbeats 4000000 in
set_option maxRecDepth 100000 in
theorem jL_nextTelling (l : Launch) (hfl : l.stackTraces = false) (k : rm_K) (a : Nat → Nat) (ha : rm_inj a) (o : Nat) (hao : ∀ j, j < 55 → a j ≠ o) (σ : rm_St) (f : Nat → Int64) (p0 : Int32) (sz : Nat) : Met l yL_nextTelling wsL_nextTelling ({ frames := 8, cells := 1, slots := 6, locals := 131 }) (va_Pc [.ref (a 0), .int p0, .ref o] (fun U => U.heap.size = sz ∧ rl_P k a σ o f U ∧ rm_Th (rl_A a o sz) U ∧ rl_N U)) (va_Qi (fun (r : Int32) (u : rm_St × (Nat → Int64)) => r = (rl_c1 (rm_tN p0)) ∧ u = (rl_s (σ, (vp_updL f 0 ((σ 13 p0.toNatClampNeg)).toInt64)) (σ, f) (rm_tN p0))) (fun u t => rl_P k a u.1 o u.2 t) (rl_A a o sz)) 1 6 (rl_A a o sz) := by
  refine rl_ofWH (hh := [(0, 9, 12, 19)]) (cc := cL_nextTelling) (maxL := 4) (ret := some .int) (by decide) rfl ?_
  intro p e s m args below meth c s₁ B hml hv
  obtain ⟨rfl, hsz, hP, hTh, hN⟩ := hv
  have hx := B.exec
  have hb := B.bytes
  have hr := B.returns
  have hts := atoms_spec (ws := wsL_nextTelling) B.pre
  have hown : s.vm.findClass RL = some m.cls := findClass_of_methodNamed B.named
  have hlocks := B.notSynchronized
  have htab := vx_table (x := yL_nextTelling) B (hts _ List.mem_cons_self)
  subst hsz
  have CF : CallFix p m c cL_nextTelling 4 s _ wsL_nextTelling RL := ⟨hx, hb, hml, hown, hts⟩
  have hA : ∀ q, s.heap.size ≤ q → rl_A a o s.heap.size q := fun q h => Or.inl (Or.inr h)
  have hw : rl_Wd k a o (rl_A a o s.heap.size) s.heap s σ f s.heap [] := ⟨hP.1.2, hP.1.1, hP.2, ⟨ha, fun j hj => Or.inl (Or.inl ⟨j, hj, rfl⟩), Or.inr rfl, hao⟩, va_S.rf⟩
  have hl := lv_entry ([.ref (a 0), .int p0, .ref o]) (n := 4) (Nat.le_of_ble_eq_true rfl)
  rw [lg_entry_eq]
  generalize (lg_sl ([.ref (a 0), .int p0, .ref o]) ++ List.replicate (4 - (lg_sl ([.ref (a 0), .int p0, .ref o])).length) Slot.unset).toArray = ls at hl ⊢
  have hl : lv_has ls 4 [(0, .ref (a 0)), (1, .int p0), (2, .ref o)] := hl
  refine lv_aload_n hx hb dL_nextTelling_0 rfl (lv_at hl 2 rfl) ?_
  refine lv_iconst (v := 0) hx hb dL_nextTelling_1 (by decide) ?_
  refine lv_aload_n hx hb dL_nextTelling_2 rfl (lv_at hl 0 rfl) ?_
  refine lv_iload_n hx hb dL_nextTelling_3 rfl (lv_at hl 1 rfl) ?_
  refine rl_callI CF hTh hA hw (As := [.int p0]) (rest := [.int 0, .ref o]) (kX0_nextTelling l hfl k a ha σ p0) (cwV 1 hts gL_nextTelling_X0_nextTelling rfl rfl rfl (by decide +kernel) ⟨Nat.le_of_ble_eq_true rfl, Nat.le_of_ble_eq_true rfl⟩) rfl hl.1 rfl (lv_room (Nat.le_of_ble_eq_true rfl)) dL_nextTelling_4 ⟨Nat.le_of_ble_eq_true rfl, Nat.le_of_ble_eq_true rfl⟩ ?_ ?_
  · intro E ce q9 H locs hthr hw hce hcv hcl
    obtain rfl := rm_tN_c hthr
    refine vx_catch (name := "java/lang/IndexOutOfBoundsException") hown [] (⟨0, 9, 12, 19⟩ : ExceptionTableEntry) [] (by rw [htab]; rfl) (fun z hz => nomatch hz) (by decide) (by decide) (hts (.classLink RL 19 "java/lang/IndexOutOfBoundsException") (by decide +kernel)) (hTh.2.2.2.2.2.2.1.use rfl) hce hcv hcl ?_
    refine lv_astore_n (lv' := [(3, .ref q9), (0, .ref (a 0)), (1, .int p0), (2, .ref o)]) hx hb dL_nextTelling_12 rfl hl (by decide) rfl (fun ls hl => ?_)
    refine lv_iconst (v := 1) hx hb dL_nextTelling_13 (by decide) ?_
    exact rl_iret CF hr hlocks hw (Nat.le_of_ble_eq_true rfl) (Nat.le_of_ble_eq_true rfl) dL_nextTelling_14 ⟨by rw [hthr]; rfl, by rw [hthr]; rfl⟩
  · intro hthr H locs hw
    refine lv_i2l (v := ((σ 13 p0.toNatClampNeg)).toInt64) hx hb dL_nextTelling_7 rfl ?_
    refine rl_last CF hw dL_nextTelling_8 (fun H locs hw => ?_)
    refine lv_goto (tgt := 15) hx hb dL_nextTelling_9 (by decide) ?_
    refine lv_iconst (v := 0) hx hb dL_nextTelling_15 (by decide) ?_
    exact rl_iret CF hr hlocks hw (Nat.le_of_ble_eq_true rfl) (Nat.le_of_ble_eq_true rfl) dL_nextTelling_16 ⟨by rw [hthr]; rfl, by rw [hthr]; rfl⟩
set_option maxHeartbeats 4000000 in
set_option maxRecDepth 100000 in
theorem jL_heard (l : Launch) (hfl : l.stackTraces = false) (k : rm_K) (a : Nat → Nat) (ha : rm_inj a) (o : Nat) (hao : ∀ j, j < 55 → a j ≠ o) (σ : rm_St) (f : Nat → Int64) (p0 : Int32) (p1 : Int32) (sz : Nat) : Met l yL_heard wsL_heard ({ frames := 8, cells := 2, slots := 12, locals := 132 }) (va_Pc [.ref (a 0), .int p0, .int p1, .ref o] (fun U => U.heap.size = sz ∧ rl_P k a σ o f U ∧ rm_Th (rl_A a o sz) U ∧ rl_N U)) (va_Qi (fun (r : Int32) (u : rm_St × (Nat → Int64)) => r = (rl_c1 (rm_t2 p0 p1)) ∧ u = (rl_s (σ, (vp_updL f 0 ((σ (45 + p0.toNatClampNeg) p1.toNatClampNeg)).toInt64)) (σ, f) (rm_t2 p0 p1))) (fun u t => rl_P k a u.1 o u.2 t) (rl_A a o sz)) 2 12 (rl_A a o sz) := by
  refine rl_ofWH (hh := [(0, 10, 13, 19)]) (cc := cL_heard) (maxL := 5) (ret := some .int) (by decide) rfl ?_
  intro p e s m args below meth c s₁ B hml hv
  obtain ⟨rfl, hsz, hP, hTh, hN⟩ := hv
  have hx := B.exec
  have hb := B.bytes
  have hr := B.returns
  have hts := atoms_spec (ws := wsL_heard) B.pre
  have hown : s.vm.findClass RL = some m.cls := findClass_of_methodNamed B.named
  have hlocks := B.notSynchronized
  have htab := vx_table (x := yL_heard) B (hts _ List.mem_cons_self)
  subst hsz
  have CF : CallFix p m c cL_heard 5 s _ wsL_heard RL := ⟨hx, hb, hml, hown, hts⟩
  have hA : ∀ q, s.heap.size ≤ q → rl_A a o s.heap.size q := fun q h => Or.inl (Or.inr h)
  have hw : rl_Wd k a o (rl_A a o s.heap.size) s.heap s σ f s.heap [] := ⟨hP.1.2, hP.1.1, hP.2, ⟨ha, fun j hj => Or.inl (Or.inl ⟨j, hj, rfl⟩), Or.inr rfl, hao⟩, va_S.rf⟩
  have hl := lv_entry ([.ref (a 0), .int p0, .int p1, .ref o]) (n := 5) (Nat.le_of_ble_eq_true rfl)
  rw [lg_entry_eq]
  generalize (lg_sl ([.ref (a 0), .int p0, .int p1, .ref o]) ++ List.replicate (5 - (lg_sl ([.ref (a 0), .int p0, .int p1, .ref o])).length) Slot.unset).toArray = ls at hl ⊢
  have hl : lv_has ls 5 [(0, .ref (a 0)), (1, .int p0), (2, .int p1), (3, .ref o)] := hl
  refine lv_aload_n hx hb dL_heard_0 rfl (lv_at hl 3 rfl) ?_
  refine lv_iconst (v := 0) hx hb dL_heard_1 (by decide) ?_
  refine lv_aload_n hx hb dL_heard_2 rfl (lv_at hl 0 rfl) ?_
  refine lv_iload_n hx hb dL_heard_3 rfl (lv_at hl 1 rfl) ?_
  refine lv_iload_n hx hb dL_heard_4 rfl (lv_at hl 2 rfl) ?_
  refine rl_callI CF hTh hA hw (As := [.int p0, .int p1]) (rest := [.int 0, .ref o]) (kX0_heard l hfl k a ha σ p0 p1) (cwV 2 hts gL_heard_X0_heard rfl rfl rfl (by decide +kernel) ⟨Nat.le_of_ble_eq_true rfl, Nat.le_of_ble_eq_true rfl⟩) rfl hl.1 rfl (lv_room (Nat.le_of_ble_eq_true rfl)) dL_heard_5 ⟨Nat.le_of_ble_eq_true rfl, Nat.le_of_ble_eq_true rfl⟩ ?_ ?_
  · intro E ce q9 H locs hthr hw hce hcv hcl
    obtain rfl := rm_t2_c hthr
    refine vx_catch (name := "java/lang/IndexOutOfBoundsException") hown [] (⟨0, 10, 13, 19⟩ : ExceptionTableEntry) [] (by rw [htab]; rfl) (fun z hz => nomatch hz) (by decide) (by decide) (hts (.classLink RL 19 "java/lang/IndexOutOfBoundsException") (by decide +kernel)) (hTh.2.2.2.2.2.2.1.use rfl) hce hcv hcl ?_
    refine lv_astore (lv' := [(4, .ref q9), (0, .ref (a 0)), (1, .int p0), (2, .int p1), (3, .ref o)]) hx hb dL_heard_13 hl (by decide) rfl (fun ls hl => ?_)
    refine lv_iconst (v := 1) hx hb dL_heard_15 (by decide) ?_
    exact rl_iret CF hr hlocks hw (Nat.le_of_ble_eq_true rfl) (Nat.le_of_ble_eq_true rfl) dL_heard_16 ⟨by rw [hthr]; rfl, by rw [hthr]; rfl⟩
  · intro hthr H locs hw
    refine lv_i2l (v := ((σ (45 + p0.toNatClampNeg) p1.toNatClampNeg)).toInt64) hx hb dL_heard_8 rfl ?_
    refine rl_last CF hw dL_heard_9 (fun H locs hw => ?_)
    refine lv_goto (tgt := 17) hx hb dL_heard_10 (by decide) ?_
    refine lv_iconst (v := 0) hx hb dL_heard_17 (by decide) ?_
    exact rl_iret CF hr hlocks hw (Nat.le_of_ble_eq_true rfl) (Nat.le_of_ble_eq_true rfl) dL_heard_18 ⟨by rw [hthr]; rfl, by rw [hthr]; rfl⟩
set_option maxHeartbeats 4000000 in
set_option maxRecDepth 100000 in
theorem jL_leastRank (l : Launch) (hfl : l.stackTraces = false) (k : rm_K) (a : Nat → Nat) (ha : rm_inj a) (o : Nat) (hao : ∀ j, j < 55 → a j ≠ o) (σ : rm_St) (f : Nat → Int64) (p0 : Int32) (sz : Nat) : Met l yL_leastRank wsL_leastRank ({ frames := 8, cells := 1, slots := 6, locals := 132 }) (va_Pc [.ref (a 0), .int p0, .ref o] (fun U => U.heap.size = sz ∧ rl_P k a σ o f U ∧ rm_Th (rl_A a o sz) U ∧ rl_N U)) (va_Qi (fun (r : Int32) (u : rm_St × (Nat → Int64)) => r = (rl_c1 (rm_tN p0)) ∧ u = (rl_s ((rm_least σ), (vp_updL f 0 ((rm_least σ 14 p0.toNatClampNeg)).toInt64)) (σ, f) (rm_tN p0))) (fun u t => rl_P k a u.1 o u.2 t) (rl_A a o sz)) 1 6 (rl_A a o sz) := by
  refine rl_ofWH (hh := [(0, 9, 12, 19)]) (cc := cL_leastRank) (maxL := 4) (ret := some .int) (by decide) rfl ?_
  intro p e s m args below meth c s₁ B hml hv
  obtain ⟨rfl, hsz, hP, hTh, hN⟩ := hv
  have hx := B.exec
  have hb := B.bytes
  have hr := B.returns
  have hts := atoms_spec (ws := wsL_leastRank) B.pre
  have hown : s.vm.findClass RL = some m.cls := findClass_of_methodNamed B.named
  have hlocks := B.notSynchronized
  have htab := vx_table (x := yL_leastRank) B (hts _ List.mem_cons_self)
  subst hsz
  have CF : CallFix p m c cL_leastRank 4 s _ wsL_leastRank RL := ⟨hx, hb, hml, hown, hts⟩
  have hA : ∀ q, s.heap.size ≤ q → rl_A a o s.heap.size q := fun q h => Or.inl (Or.inr h)
  have hw : rl_Wd k a o (rl_A a o s.heap.size) s.heap s σ f s.heap [] := ⟨hP.1.2, hP.1.1, hP.2, ⟨ha, fun j hj => Or.inl (Or.inl ⟨j, hj, rfl⟩), Or.inr rfl, hao⟩, va_S.rf⟩
  have hl := lv_entry ([.ref (a 0), .int p0, .ref o]) (n := 4) (Nat.le_of_ble_eq_true rfl)
  rw [lg_entry_eq]
  generalize (lg_sl ([.ref (a 0), .int p0, .ref o]) ++ List.replicate (4 - (lg_sl ([.ref (a 0), .int p0, .ref o])).length) Slot.unset).toArray = ls at hl ⊢
  have hl : lv_has ls 4 [(0, .ref (a 0)), (1, .int p0), (2, .ref o)] := hl
  refine lv_aload_n hx hb dL_leastRank_0 rfl (lv_at hl 2 rfl) ?_
  refine lv_iconst (v := 0) hx hb dL_leastRank_1 (by decide) ?_
  refine lv_aload_n hx hb dL_leastRank_2 rfl (lv_at hl 0 rfl) ?_
  refine lv_iload_n hx hb dL_leastRank_3 rfl (lv_at hl 1 rfl) ?_
  refine rl_callI CF hTh hA hw (As := [.int p0]) (rest := [.int 0, .ref o]) (kX0_leastRank l hfl k a ha σ p0) (cwV 1 hts gL_leastRank_X0_leastRank rfl rfl rfl (by decide +kernel) ⟨Nat.le_of_ble_eq_true rfl, Nat.le_of_ble_eq_true rfl⟩) rfl hl.1 rfl (lv_room (Nat.le_of_ble_eq_true rfl)) dL_leastRank_4 ⟨Nat.le_of_ble_eq_true rfl, Nat.le_of_ble_eq_true rfl⟩ ?_ ?_
  · intro E ce q9 H locs hthr hw hce hcv hcl
    obtain rfl := rm_tN_c hthr
    refine vx_catch (name := "java/lang/IndexOutOfBoundsException") hown [] (⟨0, 9, 12, 19⟩ : ExceptionTableEntry) [] (by rw [htab]; rfl) (fun z hz => nomatch hz) (by decide) (by decide) (hts (.classLink RL 19 "java/lang/IndexOutOfBoundsException") (by decide +kernel)) (hTh.2.2.2.2.2.2.1.use rfl) hce hcv hcl ?_
    refine lv_astore_n (lv' := [(3, .ref q9), (0, .ref (a 0)), (1, .int p0), (2, .ref o)]) hx hb dL_leastRank_12 rfl hl (by decide) rfl (fun ls hl => ?_)
    refine lv_iconst (v := 1) hx hb dL_leastRank_13 (by decide) ?_
    exact rl_iret CF hr hlocks hw (Nat.le_of_ble_eq_true rfl) (Nat.le_of_ble_eq_true rfl) dL_leastRank_14 ⟨by rw [hthr]; rfl, by rw [hthr]; rfl⟩
  · intro hthr H locs hw
    refine lv_i2l (v := ((rm_least σ 14 p0.toNatClampNeg)).toInt64) hx hb dL_leastRank_7 rfl ?_
    refine rl_last CF hw dL_leastRank_8 (fun H locs hw => ?_)
    refine lv_goto (tgt := 15) hx hb dL_leastRank_9 (by decide) ?_
    refine lv_iconst (v := 0) hx hb dL_leastRank_15 (by decide) ?_
    exact rl_iret CF hr hlocks hw (Nat.le_of_ble_eq_true rfl) (Nat.le_of_ble_eq_true rfl) dL_leastRank_16 ⟨by rw [hthr]; rfl, by rw [hthr]; rfl⟩
set_option maxHeartbeats 4000000 in
set_option maxRecDepth 100000 in
theorem jL_up (l : Launch) (hfl : l.stackTraces = false) (k : rm_K) (a : Nat → Nat) (ha : rm_inj a) (o : Nat) (hao : ∀ j, j < 55 → a j ≠ o) (σ : rm_St) (f : Nat → Int64) (p0 : Int32) (sz : Nat) : Met l yL_up wsL_up ({ frames := 8, cells := 1, slots := 6, locals := 136 }) (va_Pc [.ref (a 0), .int p0, .ref o] (fun U => U.heap.size = sz ∧ rl_P k a σ o f U ∧ rm_Th (rl_A a o sz) U ∧ rl_N U)) (va_Qi (fun (r : Int32) (u : rm_St × (Nat → Int64)) => r = (rl_c1 (rm_tN p0)) ∧ u = (rl_s (((rm_upS σ p0).1), (vp_updL f 0 (((rm_upS σ p0).2)).toInt64)) (σ, f) (rm_tN p0))) (fun u t => rl_P k a u.1 o u.2 t) (rl_A a o sz)) 1 6 (rl_A a o sz) := by
  refine rl_ofWH (hh := [(0, 9, 12, 19)]) (cc := cL_up) (maxL := 4) (ret := some .int) (by decide) rfl ?_
  intro p e s m args below meth c s₁ B hml hv
  obtain ⟨rfl, hsz, hP, hTh, hN⟩ := hv
  have hx := B.exec
  have hb := B.bytes
  have hr := B.returns
  have hts := atoms_spec (ws := wsL_up) B.pre
  have hown : s.vm.findClass RL = some m.cls := findClass_of_methodNamed B.named
  have hlocks := B.notSynchronized
  have htab := vx_table (x := yL_up) B (hts _ List.mem_cons_self)
  subst hsz
  have CF : CallFix p m c cL_up 4 s _ wsL_up RL := ⟨hx, hb, hml, hown, hts⟩
  have hA : ∀ q, s.heap.size ≤ q → rl_A a o s.heap.size q := fun q h => Or.inl (Or.inr h)
  have hw : rl_Wd k a o (rl_A a o s.heap.size) s.heap s σ f s.heap [] := ⟨hP.1.2, hP.1.1, hP.2, ⟨ha, fun j hj => Or.inl (Or.inl ⟨j, hj, rfl⟩), Or.inr rfl, hao⟩, va_S.rf⟩
  have hl := lv_entry ([.ref (a 0), .int p0, .ref o]) (n := 4) (Nat.le_of_ble_eq_true rfl)
  rw [lg_entry_eq]
  generalize (lg_sl ([.ref (a 0), .int p0, .ref o]) ++ List.replicate (4 - (lg_sl ([.ref (a 0), .int p0, .ref o])).length) Slot.unset).toArray = ls at hl ⊢
  have hl : lv_has ls 4 [(0, .ref (a 0)), (1, .int p0), (2, .ref o)] := hl
  refine lv_aload_n hx hb dL_up_0 rfl (lv_at hl 2 rfl) ?_
  refine lv_iconst (v := 0) hx hb dL_up_1 (by decide) ?_
  refine lv_aload_n hx hb dL_up_2 rfl (lv_at hl 0 rfl) ?_
  refine lv_iload_n hx hb dL_up_3 rfl (lv_at hl 1 rfl) ?_
  refine rl_callI CF hTh hA hw (As := [.int p0]) (rest := [.int 0, .ref o]) (kX0_up l hfl k a ha σ p0) (cwV 1 hts gL_up_X0_up rfl rfl rfl (by decide +kernel) ⟨Nat.le_of_ble_eq_true rfl, Nat.le_of_ble_eq_true rfl⟩) rfl hl.1 rfl (lv_room (Nat.le_of_ble_eq_true rfl)) dL_up_4 ⟨Nat.le_of_ble_eq_true rfl, Nat.le_of_ble_eq_true rfl⟩ ?_ ?_
  · intro E ce q9 H locs hthr hw hce hcv hcl
    obtain rfl := rm_tN_c hthr
    refine vx_catch (name := "java/lang/IndexOutOfBoundsException") hown [] (⟨0, 9, 12, 19⟩ : ExceptionTableEntry) [] (by rw [htab]; rfl) (fun z hz => nomatch hz) (by decide) (by decide) (hts (.classLink RL 19 "java/lang/IndexOutOfBoundsException") (by decide +kernel)) (hTh.2.2.2.2.2.2.1.use rfl) hce hcv hcl ?_
    refine lv_astore_n (lv' := [(3, .ref q9), (0, .ref (a 0)), (1, .int p0), (2, .ref o)]) hx hb dL_up_12 rfl hl (by decide) rfl (fun ls hl => ?_)
    refine lv_iconst (v := 1) hx hb dL_up_13 (by decide) ?_
    exact rl_iret CF hr hlocks hw (Nat.le_of_ble_eq_true rfl) (Nat.le_of_ble_eq_true rfl) dL_up_14 ⟨by rw [hthr]; rfl, by rw [hthr]; rfl⟩
  · intro hthr H locs hw
    refine lv_i2l (v := (((rm_upS σ p0).2)).toInt64) hx hb dL_up_7 rfl ?_
    refine rl_last CF hw dL_up_8 (fun H locs hw => ?_)
    refine lv_goto (tgt := 15) hx hb dL_up_9 (by decide) ?_
    refine lv_iconst (v := 0) hx hb dL_up_15 (by decide) ?_
    exact rl_iret CF hr hlocks hw (Nat.le_of_ble_eq_true rfl) (Nat.le_of_ble_eq_true rfl) dL_up_16 ⟨by rw [hthr]; rfl, by rw [hthr]; rfl⟩
set_option maxHeartbeats 4000000 in
set_option maxRecDepth 100000 in
theorem jL_below (l : Launch) (hfl : l.stackTraces = false) (k : rm_K) (a : Nat → Nat) (ha : rm_inj a) (o : Nat) (hao : ∀ j, j < 55 → a j ≠ o) (σ : rm_St) (f : Nat → Int64) (p0 : Int32) (sz : Nat) : Met l yL_below wsL_below ({ frames := 8, cells := 1, slots := 6, locals := 133 }) (va_Pc [.ref (a 0), .int p0, .ref o] (fun U => U.heap.size = sz ∧ rl_P k a σ o f U ∧ rm_Th (rl_A a o sz) U ∧ rl_N U)) (va_Qi (fun (r : Int32) (u : rm_St × (Nat → Int64)) => r = (rl_c1 (rm_tN p0)) ∧ u = (rl_s (σ, (vp_updL f 0 ((rm_below σ p0)).toInt64)) (σ, f) (rm_tN p0))) (fun u t => rl_P k a u.1 o u.2 t) (rl_A a o sz)) 1 6 (rl_A a o sz) := by
  refine rl_ofWH (hh := [(0, 9, 12, 19)]) (cc := cL_below) (maxL := 4) (ret := some .int) (by decide) rfl ?_
  intro p e s m args below meth c s₁ B hml hv
  obtain ⟨rfl, hsz, hP, hTh, hN⟩ := hv
  have hx := B.exec
  have hb := B.bytes
  have hr := B.returns
  have hts := atoms_spec (ws := wsL_below) B.pre
  have hown : s.vm.findClass RL = some m.cls := findClass_of_methodNamed B.named
  have hlocks := B.notSynchronized
  have htab := vx_table (x := yL_below) B (hts _ List.mem_cons_self)
  subst hsz
  have CF : CallFix p m c cL_below 4 s _ wsL_below RL := ⟨hx, hb, hml, hown, hts⟩
  have hA : ∀ q, s.heap.size ≤ q → rl_A a o s.heap.size q := fun q h => Or.inl (Or.inr h)
  have hw : rl_Wd k a o (rl_A a o s.heap.size) s.heap s σ f s.heap [] := ⟨hP.1.2, hP.1.1, hP.2, ⟨ha, fun j hj => Or.inl (Or.inl ⟨j, hj, rfl⟩), Or.inr rfl, hao⟩, va_S.rf⟩
  have hl := lv_entry ([.ref (a 0), .int p0, .ref o]) (n := 4) (Nat.le_of_ble_eq_true rfl)
  rw [lg_entry_eq]
  generalize (lg_sl ([.ref (a 0), .int p0, .ref o]) ++ List.replicate (4 - (lg_sl ([.ref (a 0), .int p0, .ref o])).length) Slot.unset).toArray = ls at hl ⊢
  have hl : lv_has ls 4 [(0, .ref (a 0)), (1, .int p0), (2, .ref o)] := hl
  refine lv_aload_n hx hb dL_below_0 rfl (lv_at hl 2 rfl) ?_
  refine lv_iconst (v := 0) hx hb dL_below_1 (by decide) ?_
  refine lv_aload_n hx hb dL_below_2 rfl (lv_at hl 0 rfl) ?_
  refine lv_iload_n hx hb dL_below_3 rfl (lv_at hl 1 rfl) ?_
  refine rl_callI CF hTh hA hw (As := [.int p0]) (rest := [.int 0, .ref o]) (kX0_below l hfl k a ha σ p0) (cwV 1 hts gL_below_X0_below rfl rfl rfl (by decide +kernel) ⟨Nat.le_of_ble_eq_true rfl, Nat.le_of_ble_eq_true rfl⟩) rfl hl.1 rfl (lv_room (Nat.le_of_ble_eq_true rfl)) dL_below_4 ⟨Nat.le_of_ble_eq_true rfl, Nat.le_of_ble_eq_true rfl⟩ ?_ ?_
  · intro E ce q9 H locs hthr hw hce hcv hcl
    obtain rfl := rm_tN_c hthr
    refine vx_catch (name := "java/lang/IndexOutOfBoundsException") hown [] (⟨0, 9, 12, 19⟩ : ExceptionTableEntry) [] (by rw [htab]; rfl) (fun z hz => nomatch hz) (by decide) (by decide) (hts (.classLink RL 19 "java/lang/IndexOutOfBoundsException") (by decide +kernel)) (hTh.2.2.2.2.2.2.1.use rfl) hce hcv hcl ?_
    refine lv_astore_n (lv' := [(3, .ref q9), (0, .ref (a 0)), (1, .int p0), (2, .ref o)]) hx hb dL_below_12 rfl hl (by decide) rfl (fun ls hl => ?_)
    refine lv_iconst (v := 1) hx hb dL_below_13 (by decide) ?_
    exact rl_iret CF hr hlocks hw (Nat.le_of_ble_eq_true rfl) (Nat.le_of_ble_eq_true rfl) dL_below_14 ⟨by rw [hthr]; rfl, by rw [hthr]; rfl⟩
  · intro hthr H locs hw
    refine lv_i2l (v := ((rm_below σ p0)).toInt64) hx hb dL_below_7 rfl ?_
    refine rl_last CF hw dL_below_8 (fun H locs hw => ?_)
    refine lv_goto (tgt := 15) hx hb dL_below_9 (by decide) ?_
    refine lv_iconst (v := 0) hx hb dL_below_15 (by decide) ?_
    exact rl_iret CF hr hlocks hw (Nat.le_of_ble_eq_true rfl) (Nat.le_of_ble_eq_true rfl) dL_below_16 ⟨by rw [hthr]; rfl, by rw [hthr]; rfl⟩
set_option maxHeartbeats 4000000 in
set_option maxRecDepth 100000 in
theorem jL_down (l : Launch) (hfl : l.stackTraces = false) (k : rm_K) (a : Nat → Nat) (ha : rm_inj a) (o : Nat) (hao : ∀ j, j < 55 → a j ≠ o) (σ : rm_St) (f : Nat → Int64) (p0 : Int32) (p1 : Int32) (sz : Nat) : Met l yL_down wsL_down ({ frames := 8, cells := 3, slots := 18, locals := 134 }) (va_Pc [.ref (a 0), .int p0, .int p1, .ref o] (fun U => U.heap.size = sz ∧ rl_P k a σ o f U ∧ rm_Th (rl_A a o sz) U ∧ rl_N U)) (va_Qi (fun (r : Int32) (u : rm_St × (Nat → Int64)) => r = (rl_c2 rm_IO (rm_tDown σ p0 p1)) ∧ u = (rl_s (σ, (vp_updL f 0 (((rm_dnL σ p0 10 0 p1).getD 0)).toInt64)) (σ, f) (rm_tDown σ p0 p1))) (fun u t => rl_P k a u.1 o u.2 t) (rl_A a o sz)) 3 18 (rl_A a o sz) := by
  refine rl_ofWH (hh := [(0, 10, 13, 19), (0, 10, 17, 25)]) (cc := cL_down) (maxL := 5) (ret := some .int) (by decide) rfl ?_
  intro p e s m args below meth c s₁ B hml hv
  obtain ⟨rfl, hsz, hP, hTh, hN⟩ := hv
  have hx := B.exec
  have hb := B.bytes
  have hr := B.returns
  have hts := atoms_spec (ws := wsL_down) B.pre
  have hown : s.vm.findClass RL = some m.cls := findClass_of_methodNamed B.named
  have hlocks := B.notSynchronized
  have htab := vx_table (x := yL_down) B (hts _ List.mem_cons_self)
  subst hsz
  have CF : CallFix p m c cL_down 5 s _ wsL_down RL := ⟨hx, hb, hml, hown, hts⟩
  have hA : ∀ q, s.heap.size ≤ q → rl_A a o s.heap.size q := fun q h => Or.inl (Or.inr h)
  have hw : rl_Wd k a o (rl_A a o s.heap.size) s.heap s σ f s.heap [] := ⟨hP.1.2, hP.1.1, hP.2, ⟨ha, fun j hj => Or.inl (Or.inl ⟨j, hj, rfl⟩), Or.inr rfl, hao⟩, va_S.rf⟩
  have hl := lv_entry ([.ref (a 0), .int p0, .int p1, .ref o]) (n := 5) (Nat.le_of_ble_eq_true rfl)
  rw [lg_entry_eq]
  generalize (lg_sl ([.ref (a 0), .int p0, .int p1, .ref o]) ++ List.replicate (5 - (lg_sl ([.ref (a 0), .int p0, .int p1, .ref o])).length) Slot.unset).toArray = ls at hl ⊢
  have hl : lv_has ls 5 [(0, .ref (a 0)), (1, .int p0), (2, .int p1), (3, .ref o)] := hl
  refine lv_aload_n hx hb dL_down_0 rfl (lv_at hl 3 rfl) ?_
  refine lv_iconst (v := 0) hx hb dL_down_1 (by decide) ?_
  refine lv_aload_n hx hb dL_down_2 rfl (lv_at hl 0 rfl) ?_
  refine lv_iload_n hx hb dL_down_3 rfl (lv_at hl 1 rfl) ?_
  refine lv_iload_n hx hb dL_down_4 rfl (lv_at hl 2 rfl) ?_
  refine rl_callI CF hTh hA hw (As := [.int p0, .int p1]) (rest := [.int 0, .ref o]) (kX0_down l hfl k a ha σ p0 p1) (cwV 2 hts gL_down_X0_down rfl rfl rfl (by decide +kernel) ⟨Nat.le_of_ble_eq_true rfl, Nat.le_of_ble_eq_true rfl⟩) rfl hl.1 rfl (lv_room (Nat.le_of_ble_eq_true rfl)) dL_down_5 ⟨Nat.le_of_ble_eq_true rfl, Nat.le_of_ble_eq_true rfl⟩ ?_ ?_
  · intro E ce q9 H locs hthr hw hce hcv hcl
    rcases rm_tDown_c hthr with rfl | rfl
    · skip
      refine vx_catch (name := "java/lang/IndexOutOfBoundsException") hown [] (⟨0, 10, 13, 19⟩ : ExceptionTableEntry) [(⟨0, 10, 17, 25⟩ : ExceptionTableEntry)] (by rw [htab]; rfl) (fun z hz => nomatch hz) (by decide) (by decide) (hts (.classLink RL 19 "java/lang/IndexOutOfBoundsException") (by decide +kernel)) (hTh.2.2.2.2.2.2.1.use rfl) hce hcv hcl ?_
      refine lv_astore (lv' := [(4, .ref q9), (0, .ref (a 0)), (1, .int p0), (2, .int p1), (3, .ref o)]) hx hb dL_down_13 hl (by decide) rfl (fun ls hl => ?_)
      refine lv_iconst (v := 1) hx hb dL_down_15 (by decide) ?_
      exact rl_iret CF hr hlocks hw (Nat.le_of_ble_eq_true rfl) (Nat.le_of_ble_eq_true rfl) dL_down_16 ⟨by rw [hthr]; exact (rl_c2_1 _).symm, by rw [hthr]; rfl⟩
    · skip
      refine vx_catch (name := "java/lang/IllegalStateException") hown [(⟨0, 10, 13, 19⟩ : ExceptionTableEntry)] (⟨0, 10, 17, 25⟩ : ExceptionTableEntry) [] (by rw [htab]; rfl) (fun z hz => by
        have hz := List.mem_singleton.mp hz
        subst hz
        exact Or.inr ⟨by decide, "java/lang/IndexOutOfBoundsException", hts (.classLink RL 19 "java/lang/IndexOutOfBoundsException") (by decide +kernel), hN.2⟩) (by decide) (by decide) (hts (.classLink RL 25 "java/lang/IllegalStateException") (by decide +kernel)) (hTh.2.2.2.2.2.2.2.2.use rfl) hce hcv hcl ?_
      refine lv_astore (lv' := [(4, .ref q9), (0, .ref (a 0)), (1, .int p0), (2, .int p1), (3, .ref o)]) hx hb dL_down_17 hl (by decide) rfl (fun ls hl => ?_)
      refine lv_iconst (v := 2) hx hb dL_down_19 (by decide) ?_
      exact rl_iret CF hr hlocks hw (Nat.le_of_ble_eq_true rfl) (Nat.le_of_ble_eq_true rfl) dL_down_20 ⟨by rw [hthr]; exact (rl_c2_2 (by decide)).symm, by rw [hthr]; rfl⟩
  · intro hthr H locs hw
    refine lv_i2l (v := (((rm_dnL σ p0 10 0 p1).getD 0)).toInt64) hx hb dL_down_8 rfl ?_
    refine rl_last CF hw dL_down_9 (fun H locs hw => ?_)
    refine lv_goto (tgt := 21) hx hb dL_down_10 (by decide) ?_
    refine lv_iconst (v := 0) hx hb dL_down_21 (by decide) ?_
    exact rl_iret CF hr hlocks hw (Nat.le_of_ble_eq_true rfl) (Nat.le_of_ble_eq_true rfl) dL_down_22 ⟨by rw [hthr]; rfl, by rw [hthr]; rfl⟩

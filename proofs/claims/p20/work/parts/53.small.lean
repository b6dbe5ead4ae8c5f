/-! the law's small methods: cost, part; calls of them; what is thrown -/
def rl_s {α : Type} (x y : α) : Option String → α
  | none => x
  | some _ => y
theorem rm_tN_c {v : Int32} {E : String} (h : rm_tN v = some E) : E = rm_IO := by
  unfold rm_tN at h
  split at h
  · cases h
  · exact (Option.some.inj h).symm
theorem rm_tR_c {v f t : Int32} {E : String} (h : rm_tR v f t = some E) : E = rm_IA := by
  unfold rm_tR at h
  split at h
  · exact (Option.some.inj h).symm
  · split at h
    · cases h
    · exact (Option.some.inj h).symm
theorem rm_or_c {a b : Option String} {E : String} (h : rm_or a b = some E) : a = some E ∨ b = some E := by
  cases a with
  | none => exact Or.inr h
  | some e => exact Or.inl h
theorem rm_tSet_c {x y z w : Int32} {E : String} (h : rm_tSet x y z w = some E) : E = rm_IA := by
  rcases rm_or_c h with h | h
  · exact rm_tR_c h
  · rcases rm_or_c h with h | h
    · exact rm_tR_c h
    · rcases rm_or_c h with h | h <;> exact rm_tR_c h
theorem rm_tLink_c {x y v : Int32} {E : String} (h : rm_tLink x y v = some E) : E = rm_IO ∨ E = rm_IA := by
  rcases rm_or_c h with h | h
  · exact Or.inl (rm_tN_c h)
  · rcases rm_or_c h with h | h
    · exact Or.inl (rm_tN_c h)
    · split at h
      · exact Or.inr (Option.some.inj h).symm
      · exact Or.inr (rm_tR_c h)
theorem rm_tMake_c {σ : rm_St} {v : Int32} {E : String} (h : rm_tMake σ v = some E) : E = rm_IO ∨ E = rm_IS := by
  rcases rm_or_c h with h | h
  · exact Or.inl (rm_tN_c h)
  · split at h
    · cases h
    · exact Or.inr (Option.some.inj h).symm
theorem rm_tRoot_c {σ : rm_St} {v : Int32} {E : String} (h : rm_tRoot σ v = some E) : E = rm_IO ∨ E = rm_IS := by
  rcases rm_or_c h with h | h
  · exact Or.inl (rm_tN_c h)
  · split at h
    · exact Or.inr (Option.some.inj h).symm
    · cases h
theorem rm_t2_c {x y : Int32} {E : String} (h : rm_t2 x y = some E) : E = rm_IO := by
  rcases rm_or_c h with h | h <;> exact rm_tN_c h
theorem rm_tDown_c {σ : rm_St} {x y : Int32} {E : String} (h : rm_tDown σ x y = some E) : E = rm_IO ∨ E = rm_IS := by
  rcases rm_or_c h with h | h
  · exact Or.inl (rm_tN_c h)
  · rcases rm_or_c h with h | h
    · exact Or.inl (rm_tN_c h)
    · split at h
      · exact Or.inr (Option.some.inj h).symm
      · split at h
        · exact Or.inr (Option.some.inj h).symm
        · cases h
def lz_code (thr : Option String) (r : Int32) : Int32 := match thr with
  | none => r
  | some E => if E = rm_IO then -30 else if E = rm_IA then -20 else -10
def lz_CM (l : Launch) (k : rm_K) (q : Nat → Nat) (θ : rm_St) (y : MethodName) (ws : List Cond) (rmm : Room) (As : List Value) (r0 : Int32) : Prop :=
  Met l y ws rmm (va_Pc As (fun U => va_P k.1 vwCl (lz_W k q θ) U.heap ∧ va_K k.1 vwCl (rm_ty k) U)) (va_Qi (fun (r : Int32) (_ : Unit) => r = r0) (fun _ _ => True) (fun _ => False)) 0 0 (fun _ => False)
def lz_PM (l : Launch) (bq L : Nat) (xs : Nat → Int32) (y : MethodName) (ws : List Cond) (rmm : Room) (As : List Value) (n : Nat) : Prop :=
  Met l y ws rmm (va_Pc As (fun U => va_X bq L xs U U.heap ∧ bq < U.heap.size)) (va_Qi (fun (r : Int32) (_ : Unit) => ∃ x, x < n ∧ r = nI x) (fun _ _ => True) (fun _ => False)) 0 0 (fun _ => False)
section LZS
variable {p : Program} {l : Launch} {e : Env} {R : Room} {s : State} {m : MethodId} {args : Array Value} {below : List Frame} {meth : Method} {c : Code} {H : Heap} {locs : List Loc} {cells slots : Nat} {Q : State → Prop}
variable {cc : ByteArray} {pc nL : Nat} {ls : Array Slot} {rest : List Value} {Ts : List Cond} {k : rm_K} {a q : Nat → Nat} {A : Nat → Prop} {σ θ : rm_St} {r0 : Int32} {own : String}
variable {y : MethodName} {bytes : ByteArray} {maxL index n : Nat} {ret : Option FieldType} {ws : List Cond} {rmm : Room} {As st0 : List Value}
theorem lz_kept {H0 H1 : Heap} {locs1 : List Loc} (hw : lz_Wd k a q A H0 s σ θ H locs) (hk : ∀ x : Nat, x < H.size → H1[x]? = H[x]?) (hS : va_S A H0 H1 locs1) : lz_Wd k a q A H0 s σ θ H1 locs1 :=
  ⟨hw.1, rm_kept hw.2.1 hk, rm_kept hw.2.2.1 hk, hw.2.2.2.1, hS⟩
theorem lz_callC (CF : CallFix p m c cc nL s args Ts own) (hw : lz_Wd k a q A s.heap s σ θ H locs) (hM : lz_CM l k q θ y ws rmm As r0) (cw : CallB R s args own index y bytes maxL ret ws rmm 0 0 n ∧ (Cond.static y).before args s = true) (hn : As.length = n) (hsize : ls.size = nL) (hstack : st0 = As.reverse ++ rest)
    (hW : 2 * (F0 m pc ls st0).monitorRoom + (rest.map fun v => v.category).sum ≤ 8) (hdg : decode cc pc = .ok (.invokestatic index, 3)) (hf : cells ≤ R.cells ∧ slots ≤ R.slots)
    (kk : ∀ (H1 : Heap) (locs1 : List Loc), lz_Wd k a q A s.heap s σ θ H1 locs1 → W p l e R s m args below meth c H1 locs1 cells slots Q (F0 m (pc + 3) ls (.int r0 :: rest))) : W p l e R s m args below meth c H locs cells slots Q (F0 m pc ls st0) := by
  refine va_calli (va_runS (As := As) (rest := rest) CF hM cw ⟨fun x U g mk z => ⟨z.1, z.2.1, va_K.moved (u := U) (U := U.calling g mk x) (Vm.Alike.refl U.vm) z.2.2⟩, fun U hU hWm => ⟨rfl, by rw [hU]; exact hw.2.2.1, va_K.moved hWm.alike hw.1⟩⟩ rfl hn hsize hstack hW hdg hf) hw.2.2.2.2 (fun x _ h => h.elim) (fun x h => h.elim) (fun r u t H1 locs1 ht hvm hp hB hz1 hk1 hS => ?_)
  obtain rfl := hp
  exact kk H1 locs1 (lz_kept hw (fun x hx => hk1 x hx id) hS)
theorem lz_callP (CF : CallFix p m c cc nL s args Ts own) {bq L : Nat} {xs : Nat → Int32} (hX : va_X bq L xs s s.heap) (hbl : bq < s.heap.size) (hbA : ¬ A bq) (hw : lz_Wd k a q A s.heap s σ θ H locs) {N : Nat} (hM : lz_PM l bq L xs y ws rmm As N) (cw : CallB R s args own index y bytes maxL ret ws rmm 0 0 n ∧ (Cond.static y).before args s = true) (hn : As.length = n) (hsize : ls.size = nL) (hstack : st0 = As.reverse ++ rest)
    (hW : 2 * (F0 m pc ls st0).monitorRoom + (rest.map fun v => v.category).sum ≤ 8) (hdg : decode cc pc = .ok (.invokestatic index, 3)) (hf : cells ≤ R.cells ∧ slots ≤ R.slots)
    (kk : ∀ (H1 : Heap) (locs1 : List Loc) (x : Nat), x < N → lz_Wd k a q A s.heap s σ θ H1 locs1 → W p l e R s m args below meth c H1 locs1 cells slots Q (F0 m (pc + 3) ls (.int (nI x) :: rest))) : W p l e R s m args below meth c H locs cells slots Q (F0 m pc ls st0) := by
  refine va_calli (va_runS (As := As) (rest := rest) CF hM cw ⟨fun x U g mk z => ⟨z.1, va_X.moved (u := U) (U := U.calling g mk x) (Vm.Alike.refl U.vm) z.2.1, z.2.2⟩, fun U hU hWm => ⟨rfl, ?_, ?_⟩⟩ rfl hn hsize hstack hW hdg hf) hw.2.2.2.2 (fun x _ h => h.elim) (fun x h => h.elim) (fun r u t H1 locs1 ht hvm hp hB hz1 hk1 hS => ?_)
  · rw [hU]
    exact va_X.moved hWm.alike (va_X.kept hX (hw.2.2.2.2.2.1 bq hbl hbA))
  · rw [hU]
    exact Nat.lt_of_lt_of_le hbl hw.2.2.2.2.1
  · obtain ⟨x, hx, rfl⟩ := hp
    exact kk H1 locs1 x hx (lz_kept hw (fun x hx => hk1 x hx id) hS)
/-- told's calls: an exception goes on -/
theorem lt_callV {mc ms : Nat} {thr : Option String} {σ0 : rm_St} {Qc : Array Value → State → Outcome → State → Prop} (CF : CallFix p m c cc nL s args Ts own) (hlocks : meth.locks = false) (htab : ∀ x ∈ c.exceptionTable.toList, False) (hTh : rm_Th (rm_A a s.heap.size) s) (hw : rm_Wd k a (rm_A a s.heap.size) s.heap s σ H locs) (hM : rm_XV l k a y ws rmm As σ thr σ0) (cw : CallW R s args own RX0 index y bytes maxL ret ws rmm rmm.cells rmm.slots n) (hn : As.length = n) (hsize : ls.size = nL) (hstack : st0 = As.reverse ++ .ref (a 0) :: rest)
    (hW : 2 * (F0 m pc ls st0).monitorRoom + (rest.map fun v => v.category).sum ≤ 8) (hdg : decode cc pc = .ok (.invokevirtual index, 3)) (hf : cells + rmm.cells ≤ R.cells ∧ slots + rmm.slots ≤ R.slots) (hc : cells + rmm.cells ≤ mc) (hs : slots + rmm.slots ≤ ms)
    (kk : thr = none → ∀ (H1 : Heap) (locs1 : List Loc), rm_Wd k a (rm_A a s.heap.size) s.heap s σ0 H1 locs1 → W p l e R s m args below meth c H1 locs1 (cells + rmm.cells) (slots + rmm.slots) (vx_MQ below Qc (rm_XC k a σ thr (rm_A a s.heap.size)) args s mc ms (rm_A a s.heap.size)) (F0 m (pc + 3) ls rest)) :
    W p l e R s m args below meth c H locs cells slots (vx_MQ below Qc (rm_XC k a σ thr (rm_A a s.heap.size)) args s mc ms (rm_A a s.heap.size)) (F0 m pc ls st0) := by
  have hsub : ∀ x, rm_A a H.size x → rm_A a s.heap.size x := rm_sub hw (fun x h => Or.inr h)
  refine vx_callv (vx_runV (As := As) (rest := rest) CF (hM H.size) cw (rm_preX hTh hw As) rfl hn hsize hstack hW hdg hf) hw.2.2.2 (fun x _ h => hsub x h) hsub (fun x _ h => hsub x h) ?_ ?_
  · intro E ce q9 u t H1 locs1 ht hvm hp hB hz hk hS hce hcv hcl
    obtain rfl := hp
    exact rm_goes hlocks htab (rm_post hw ht hvm hB.2 hS) hce hcv hcl hB.1 hc hs
  · intro u t H1 locs1 ht hvm hp hB hz hk hS
    obtain ⟨h1, rfl⟩ := hp
    exact kk h1 H1 locs1 (rm_post hw ht hvm hB hS)
end LZS
set_option maxHeartbeats 4000000 in
set_option maxRecDepth 100000 in
theorem jL_cost (l : Launch) (k : rm_K) (q : Nat → Nat) (θ : rm_St) (i j : Nat) (hi : i < 100) (hj : j < 100) (r0 : Int32) (h0 : lz_c θ i j = r0) : lz_CM l k q θ yL_cost wsL_cost ({ frames := 0, cells := 0, slots := 0, locals := 0 }) [.ref (q 0), .int (nI i), .int (nI j)] r0 := by
  refine Met.ofW (cc := cL_cost) (maxL := 3) (ret := some .int) (by decide) rfl ?_
  intro p e s m args below meth c s₁ B hml hv
  obtain ⟨rfl, hP, hK⟩ := hv
  have hx := B.exec
  have hb := B.bytes
  have hr := B.returns
  have hlocks := B.notSynchronized
  have hl := lv_entry ([.ref (q 0), .int (nI i), .int (nI j)]) (n := 3) (Nat.le_of_ble_eq_true rfl)
  rw [lg_entry_eq]
  generalize (lg_sl ([.ref (q 0), .int (nI i), .int (nI j)]) ++ List.replicate (3 - (lg_sl ([.ref (q 0), .int (nI i), .int (nI j)])).length) Slot.unset).toArray = ls at hl ⊢
  have hl : lv_has ls 3 [(0, .ref (q 0)), (1, .int (nI i)), (2, .int (nI j))] := hl
  have fin : ∀ {t : State}, t.heap = s.heap → va_F (fun _ => False) s t := fun ht => ⟨by rw [ht]; exact Nat.le_refl _, fun q _ _ => by rw [ht]⟩
  refine lv_iload_n hx hb dL_cost_0 rfl (lv_at hl 1 rfl) ?_
  refine lv_bipush (v := 8) hx hb dL_cost_1 (by decide) ?_
  refine lv_icmp_ge (tgt := 23) hx hb dL_cost_3 (by decide) (fun c1 => ?_) (fun c1 => ?_)
  · have h1 : ¬ i < 8 := fun h => nI_ge (a := i) (b := 8) h (by decide) c1
    refine lv_iconst (v := 0) hx hb dL_cost_23 (by decide) ?_
    exact W.iret (v := 0) hx hb hr (fun t ht hW => ⟨⟨0, (), rfl, by rw [← h0, lz_c, if_neg h1], trivial⟩, fin ht⟩) (fun q h => nomatch h) dL_cost_24 hlocks
  · have h1 : i < 8 := Nat.lt_of_not_le (fun h => c1 (nI_le (a := 8) (b := i) h (by omega)))
    refine lv_iload_n hx hb dL_cost_6 rfl (lv_at hl 2 rfl) ?_
    refine lv_bipush (v := 8) hx hb dL_cost_7 (by decide) ?_
    refine lv_icmp_ge (tgt := 23) hx hb dL_cost_9 (by decide) (fun c2 => ?_) (fun c2 => ?_)
    · have h2 : ¬ j < 8 := fun h => nI_ge (a := j) (b := 8) h (by decide) c2
      refine lv_iconst (v := 0) hx hb dL_cost_23 (by decide) ?_
      exact W.iret (v := 0) hx hb hr (fun t ht hW => ⟨⟨0, (), rfl, by rw [← h0, lz_c, if_pos h1, if_neg h2], trivial⟩, fin ht⟩) (fun q h => nomatch h) dL_cost_24 hlocks
    · have h2 : j < 8 := Nat.lt_of_not_le (fun h => c2 (nI_le (a := 8) (b := j) h (by omega)))
      refine lv_aload_n hx hb dL_cost_12 rfl (lv_at hl 0 rfl) ?_
      refine lv_bipush (v := 8) hx hb dL_cost_13 (by decide) ?_
      refine lv_iload_n hx hb dL_cost_15 rfl (lv_at hl 1 rfl) ?_
      refine lv_imul hx hb dL_cost_16 ?_
      refine lv_iload_n hx hb dL_cost_17 rfl (lv_at hl 2 rfl) ?_
      refine lv_iadd hx hb dL_cost_18 ?_
      rw [show (8 : Int32) * nI i = nI (8 * i) from pk_mul 8 i, nI_add]
      have hb8 : 8 * i + j < 64 := by omega
      refine va_iald hx hb hK hP 0 0 (n := 64) (f := θ 0) (cA := k.2.1) (lz_get (by decide)) rfl (vp_in_nI hb8 (by decide)) dL_cost_19 ?_
      rw [nI_clamp (by omega)]
      refine lv_goto (tgt := 24) hx hb dL_cost_20 (by decide) ?_
      exact W.iret (v := θ 0 (8 * i + j)) hx hb hr (fun t ht hW => ⟨⟨_, (), rfl, by rw [← h0, lz_c, if_pos h1, if_pos h2], trivial⟩, fin ht⟩) (fun q h => nomatch h) dL_cost_24 hlocks
set_option maxHeartbeats 4000000 in
set_option maxRecDepth 100000 in
theorem jL_part (l : Launch) (bq L : Nat) (xs : Nat → Int32) (hL : L ≤ 260) (i n : Nat) (hi : i < 1000) (hn0 : 0 < n) (hn : n < 2 ^ 31) : lz_PM l bq L xs yL_part wsL_part ({ frames := 0, cells := 0, slots := 0, locals := 0 }) [.ref bq, .int (nI i), .int (nI n)] n := by
  refine Met.ofW (cc := cL_part) (maxL := 4) (ret := some .int) (by decide) rfl ?_
  intro p e s m args below meth c s₁ B hml hv
  obtain ⟨rfl, hX, hbl⟩ := hv
  have hx := B.exec
  have hb := B.bytes
  have hr := B.returns
  have hlocks := B.notSynchronized
  have hts := atoms_spec (ws := wsL_part) B.pre
  have hown : s.vm.findClass RL = some m.cls := findClass_of_methodNamed B.named
  have hl := lv_entry ([.ref bq, .int (nI i), .int (nI n)]) (n := 4) (Nat.le_of_ble_eq_true rfl)
  rw [lg_entry_eq]
  generalize (lg_sl ([.ref bq, .int (nI i), .int (nI n)]) ++ List.replicate (4 - (lg_sl ([.ref bq, .int (nI i), .int (nI n)])).length) Slot.unset).toArray = ls at hl ⊢
  have hl : lv_has ls 4 [(0, .ref bq), (1, .int (nI i)), (2, .int (nI n))] := hl
  have fin : ∀ {t : State}, t.heap = s.heap → va_F (fun _ => False) s t := fun ht => ⟨by rw [ht]; exact Nat.le_refl _, fun q _ _ => by rw [ht]⟩
  have hS : va_S (fun _ => False) s.heap s.heap [] := va_S.rf
  have tail : ∀ v : Int32, W p l e (headSpec wsL_part ({ frames := 0, cells := 0, slots := 0, locals := 0 })).room s m ([Value.ref bq, Value.int (nI i), Value.int (nI n)] : List Value).toArray below meth c s.heap [] 0 0 (MQ below (va_Qi (fun (r : Int32) (_ : Unit) => ∃ x, x < n ∧ r = nI x) (fun _ _ => True) (fun _ => False)) ([Value.ref bq, Value.int (nI i), Value.int (nI n)] : List Value).toArray s 0 0 (fun _ => False)) (F0 m 25 ls [.int v]) := by
    intro v
    refine lv_istore_n (lv' := [(3, .int v), (0, .ref bq), (1, .int (nI i)), (2, .int (nI n))]) hx hb dL_part_25 rfl hl (by decide) rfl (fun ls hl => ?_)
    refine lv_iload_n hx hb dL_part_26 rfl (lv_at hl 0 rfl) ?_
    refine lv_ldc (own := RL) (v := 2147483647) hx hb hown (hts (.constant RL 7 2147483647) (by decide +kernel)) dL_part_27 ?_
    refine lv_iand hx hb dL_part_29 ?_
    rw [pk_and v (m := 2147483647) 31 (by decide +kernel)]
    refine lv_iload_n hx hb dL_part_30 rfl (lv_at hl 3 rfl) ?_
    refine lv_irem hx hb dL_part_31 (nI_ne0 hn0 hn) ?_
    rw [pk_rem (Nat.mod_lt _ (by decide)) hn0 hn]
    exact W.iret (v := nI (v.toBitVec.toNat % 2 ^ 31 % n)) hx hb hr (fun t ht hW => ⟨⟨_, (), rfl, ⟨_, Nat.mod_lt _ hn0, rfl⟩, trivial⟩, fin ht⟩) (fun q h => nomatch h) dL_part_32 hlocks
  refine lv_iload_n hx hb dL_part_0 rfl (lv_at hl 1 rfl) ?_
  refine lv_aload_n hx hb dL_part_1 rfl (lv_at hl 0 rfl) ?_
  refine va_slen hx hb hX hbl (fun h => h) hS dL_part_2 ?_
  refine lv_icmp_ge (tgt := 12) hx hb dL_part_3 (by decide) (fun c1 => ?_) (fun c1 => ?_)
  · refine lv_sipush (v := 401) hx hb dL_part_12 (by decide) ?_
    refine lv_iload_n hx hb dL_part_15 rfl (lv_at hl 1 rfl) ?_
    refine lv_imul hx hb dL_part_16 ?_
    refine lv_sipush (v := 269) hx hb dL_part_17 (by decide) ?_
    refine lv_iload_n hx hb dL_part_20 rfl (lv_at hl 1 rfl) ?_
    refine lv_imul hx hb dL_part_21 ?_
    refine lv_iload_n hx hb dL_part_22 rfl (lv_at hl 1 rfl) ?_
    refine lv_imul hx hb dL_part_23 ?_
    refine lv_iadd hx hb dL_part_24 ?_
    exact tail _
  · have h1 : i < L := Nat.lt_of_not_le (fun h => c1 (nI_le (a := L) (b := i) h (by omega)))
    refine lv_aload_n hx hb dL_part_6 rfl (lv_at hl 0 rfl) ?_
    refine lv_iload_n hx hb dL_part_7 rfl (lv_at hl 1 rfl) ?_
    refine va_sld hx hb hX hbl (fun h => h) hS (vp_in_nI h1 (by omega)) dL_part_8 ?_
    refine lv_goto (tgt := 25) hx hb dL_part_9 (by decide) ?_
    exact tail _

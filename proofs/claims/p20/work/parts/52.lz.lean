/-! the law's world: the mesh beside the law's three arrays (q 0: costs, 64; q 1: roots and versions, 20; q 2: time, least interval, loops), their contents θ -/
def lz_n (i : Nat) : Nat := if i = 0 then 64 else if i = 1 then 20 else 3
theorem lz_n_le (i : Nat) : lz_n i ≤ 64 := by
  unfold lz_n
  by_cases h : i = 0
  · rw [if_pos h]; exact Nat.le_refl _
  · rw [if_neg h]
    by_cases h2 : i = 1
    · rw [if_pos h2]; decide
    · rw [if_neg h2]; decide
def lz_e (k : rm_K) (θ : rm_St) (i : Nat) : va_E := .inl (k.2.1, lz_n i, .inl (θ i))
def lz_W (k : rm_K) (q : Nat → Nat) (θ : rm_St) : va_W := (List.range 3).map (fun i => (q i, lz_e k θ i))
theorem lz_get {k : rm_K} {q : Nat → Nat} {θ : rm_St} {i : Nat} (h : i < 3) : (lz_W k q θ)[i]? = some (q i, lz_e k θ i) := by simp [lz_W, h]
theorem lz_get_of {k : rm_K} {q : Nat → Nat} {θ : rm_St} {j : Nat} {x : Nat × va_E} (h : (lz_W k q θ)[j]? = some x) : j < 3 ∧ x = (q j, lz_e k θ j) := by
  have hj : j < 3 := by
    have := (List.getElem?_eq_some_iff.mp h).1
    simpa [lz_W] using this
  rw [lz_get hj] at h
  exact ⟨hj, (Option.some.inj h).symm⟩
theorem lz_len {k : rm_K} {q : Nat → Nat} {θ : rm_St} : (lz_W k q θ).length = 3 := by simp [lz_W]
theorem rm_Wlen {k : rm_K} {a : Nat → Nat} {σ : rm_St} : (rm_W k a σ).length = 55 := by simp [rm_W]
theorem lz_set {k : rm_K} {q : Nat → Nat} {θ : rm_St} {i j : Nat} {v : Int32} (hi : i < 3) : (lz_W k q θ).set i (q i, .inl (k.2.1, lz_n i, .inl (upd (θ i) j v))) = lz_W k q (rm_up θ i j v) := by
  apply List.ext_getElem?
  intro r
  by_cases hr : r = i
  · subst hr
    rw [List.getElem?_set_self (by simp [lz_W, hi]), lz_get hi]
    unfold lz_e
    rw [rm_up_row]
  · rw [List.getElem?_set_ne (Ne.symm hr)]
    by_cases hl : r < 3
    · rw [lz_get hl, lz_get hl]
      unfold lz_e
      rw [rm_up_row_ne hr]
    · rw [List.getElem?_eq_none (by rw [lz_len]; omega), List.getElem?_eq_none (by rw [lz_len]; omega)]
def lz_sep (a q : Nat → Nat) : Prop := rm_inj a ∧ (∀ i j, i < 3 → j < 3 → q i = q j → i = j) ∧ ∀ j i, j < 55 → i < 3 → a j ≠ q i
def lz_A (a q : Nat → Nat) (sz : Nat) : Nat → Prop := fun x => rm_A a sz x ∨ ∃ i, i < 3 ∧ x = q i
def lz_P (k : rm_K) (a q : Nat → Nat) (σ θ : rm_St) (U : State) : Prop := rm_P k a σ U ∧ va_P k.1 vwCl (lz_W k q θ) U.heap
def lz_in (a q : Nat → Nat) (A : Nat → Prop) : Prop := (∀ j, j < 55 → A (a j)) ∧ ∀ i, i < 3 → A (q i)
def rl_N (U : State) : Prop := va_Nc "java/lang/IllegalArgumentException" "java/lang/IndexOutOfBoundsException" U ∧ va_Nc "java/lang/IllegalStateException" "java/lang/IndexOutOfBoundsException" U ∧ va_Nc "java/lang/IllegalStateException" "java/lang/IllegalArgumentException" U
theorem rl_N.moved {u U : State} (hvm : u.vm.Alike U.vm) (h : rl_N u) : rl_N U := ⟨h.1.moved hvm, h.2.1.moved hvm, h.2.2.moved hvm⟩
def lz_Wd (k : rm_K) (a q : Nat → Nat) (A : Nat → Prop) (H0 : Heap) (s : State) (σ θ : rm_St) (H : Heap) (locs : List Loc) : Prop :=
  va_K k.1 vwCl (rm_ty k) s ∧ va_P k.1 vwCl (rm_W k a σ) H ∧ va_P k.1 vwCl (lz_W k q θ) H ∧ (lz_sep a q ∧ lz_in a q A) ∧ va_S A H0 H locs
/-- a contract of the law's methods -/
def lz_M (l : Launch) (k : rm_K) (a q : Nat → Nat) (X : State → Prop) (y : MethodName) (ws : List Cond) (rmm : Room) (As : List Value) (σ θ : rm_St) (post : Int32 → rm_St → rm_St → Prop) : Prop :=
  ∀ sz : Nat, Met l y ws rmm (va_Pc As (fun U => U.heap.size = sz ∧ lz_P k a q σ θ U ∧ rm_Th (lz_A a q sz) U ∧ rl_N U ∧ X U)) (va_Qi (fun (r : Int32) (u : rm_St × rm_St) => post r u.1 u.2) (fun u t => lz_P k a q u.1 u.2 t) (lz_A a q sz)) rmm.cells rmm.slots (lz_A a q sz)
theorem lz_ofWH {l : Launch} {y : MethodName} {ws ws' : List Cond} {rm : Room} {Pc : Array Value → State → Prop} {Qc : Array Value → State → Outcome → State → Prop} {mc ms : Nat} {free : Addr → Prop} {cc : ByteArray} {maxL : Nat} {ret : Option FieldType} {hh : List (Nat × Nat × Nat × Nat)}
    (hy : plainName y.cls = true) (hw : ws = Cond.codeWith y cc maxL ret hh :: ws')
    (body : ∀ p e s m args below meth c s₁, BodyLoose p l y (headSpec ws rm) cc maxL ret e s m args below meth c s₁ → c.maxLocals = maxL → Pc args s →
      W p l e (headSpec ws rm).room s m args below meth c s.heap [] 0 0 (MQ below Qc args s mc ms free) (entryFrame m args maxL)) : Met l y ws rm Pc Qc mc ms free := by
  refine MetFree.of_bodyS (code := cc) (maxLocals := maxL) (ret := ret) hy ?_ ?_
  · intro args s m h hn
    obtain ⟨m9, meth, c, hn9, h1, h2, h3, h4, -, h5, h6, -⟩ := Cond.codeWith_spec (atoms_spec (ws := ws) h _ (by rw [hw]; exact List.mem_cons_self))
    cases hn.symm.trans hn9
    exact ⟨meth, c, h1, h2, h3, h4, h5, h6⟩
  · intro p e s m args below meth c s₁ B hml hP _
    have hh0 : s₁.heap = s.heap := by rw [B.state]; rfl
    obtain ⟨t, a1, o, b1, b2, b3⟩ := body p e s m args below meth c s₁ B hml hP s₁ hh0 (Stand.of_body B)
    exact ⟨t, o, a1, b1, b2, b3⟩
section LZE
variable {l : Launch} {k : rm_K} {a q : Nat → Nat} {X : State → Prop} {y : MethodName} {ws ws' : List Cond} {rmm : Room} {As : List Value} {σ θ : rm_St} {post : Int32 → rm_St → rm_St → Prop} {cc : ByteArray} {nL : Nat} {ret : Option FieldType}
theorem lz_start {s : State} (hsep : lz_sep a q) (h : lz_P k a q σ θ s) : lz_Wd k a q (lz_A a q s.heap.size) s.heap s σ θ s.heap [] :=
  ⟨h.1.2, h.1.1, h.2, ⟨hsep, fun j hj => Or.inl (Or.inl ⟨j, hj, rfl⟩), fun i hi => Or.inr ⟨i, hi, rfl⟩⟩, va_S.rf⟩
theorem lz_enter (hsep : lz_sep a q) (hy : plainName y.cls = true) (hcls : y.cls = RL) (hw : ws = Cond.code y cc nL ret :: ws') (hn : (lg_sl As).length ≤ nL)
    (body : ∀ (p : Program) (e : Env) (s : State) (m : MethodId) (args : Array Value) (below : List Frame) (meth : Method) (c : Code) (ls : Array Slot), CallFix p m c cc nL s args ws RL → meth.sig.returnType = ret → meth.locks = false → rm_Th (lz_A a q s.heap.size) s → rl_N s → X s → lz_Wd k a q (lz_A a q s.heap.size) s.heap s σ θ s.heap [] → lv_has ls nL (lv_args 0 As) →
      W p l e (headSpec ws rmm).room s m args below meth c s.heap [] 0 0 (MQ below (va_Qi (fun (r : Int32) (u : rm_St × rm_St) => post r u.1 u.2) (fun u t => lz_P k a q u.1 u.2 t) (lz_A a q s.heap.size)) args s rmm.cells rmm.slots (lz_A a q s.heap.size)) (F0 m 0 ls [])) : lz_M l k a q X y ws rmm As σ θ post := by
  intro sz
  refine Met.ofW (cc := cc) (maxL := nL) (ret := ret) hy hw ?_
  intro p e s m args below meth c s₁ B hml hv
  obtain ⟨rfl, hsz, hP, hTh, hN, hX⟩ := hv
  have hown : s.vm.findClass RL = some m.cls := hcls ▸ findClass_of_methodNamed B.named
  subst hsz
  have hl := lv_entry As (n := nL) hn
  rw [lg_entry_eq]
  exact body p e s m _ below meth c _ ⟨B.exec, B.bytes, hml, hown, atoms_spec (ws := ws) B.pre⟩ B.returns B.notSynchronized hTh hN hX (lz_start hsep hP) hl
end LZE
section LZR
variable {p : Program} {l : Launch} {e : Env} {R : Room} {s : State} {m : MethodId} {args : Array Value} {below : List Frame} {meth : Method} {c : Code} {H : Heap} {locs : List Loc} {cells slots mc ms : Nat} {Q : State → Prop}
variable {cc : ByteArray} {pc nL : Nat} {ls : Array Slot} {rest : List Value} {Ts : List Cond} {k : rm_K} {a q : Nat → Nat} {A : Nat → Prop} {H0 : Heap} {σ σ0 θ : rm_St} {r0 v : Int32} {thr : Option String} {own : String} {post : Int32 → rm_St → rm_St → Prop}
theorem lz_D (h : lz_sep a q ∧ lz_in a q A) : va_D A (rm_W k a σ ++ lz_W k q θ) := by
  refine (rm_D h.1.1 h.2.1).app ⟨fun i j x y hi hj hxy => ?_, fun i x hx => ?_⟩ (fun i j x y hi hj hxy => ?_)
  · obtain ⟨h1, rfl⟩ := lz_get_of hi
    obtain ⟨h2, rfl⟩ := lz_get_of hj
    exact h.1.2.1 i j h1 h2 hxy
  · obtain ⟨h1, rfl⟩ := lz_get_of hx
    exact h.2.2 i h1
  · obtain ⟨h1, rfl⟩ := rm_get_of hi
    obtain ⟨h2, rfl⟩ := lz_get_of hj
    exact h.1.2.2 i j h1 h2 hxy
theorem lz_iald (CF : CallFix p m c cc nL s args Ts own) (hw : lz_Wd k a q A H0 s σ θ H locs) (i : Nat) {j : Nat} (hi : i < 3) (hj : j < lz_n i) (hdg : decode cc pc = .ok (.iaload, 1))
    (kk : W p l e R s m args below meth c H locs cells slots Q (F0 m (pc + 1) ls (.int (θ i j) :: rest))) : W p l e R s m args below meth c H locs cells slots Q (F0 m pc ls (.int (nI j) :: .ref (q i) :: rest)) := by
  have hn := lz_n_le i
  have hc : (nI j).toNatClampNeg = j := nI_clamp (by omega)
  refine va_iald CF.1 CF.2.1 hw.1 hw.2.2.1 i 0 (n := lz_n i) (f := θ i) (cA := k.2.1) (lz_get hi) rfl (vp_in_nI hj (by omega)) hdg ?_
  rw [hc]
  exact kk
theorem lz_iast (CF : CallFix p m c cc nL s args Ts own) (hw : lz_Wd k a q A H0 s σ θ H locs) (i : Nat) {j : Nat} {x : Int32} (hi : i < 3) (hj : j < lz_n i) (hdg : decode cc pc = .ok (.iastore, 1))
    (kk : ∀ (H1 : Heap) (locs1 : List Loc), lz_Wd k a q A H0 s σ (rm_up θ i j x) H1 locs1 → W p l e R s m args below meth c H1 locs1 cells slots Q (F0 m (pc + 1) ls rest)) : W p l e R s m args below meth c H locs cells slots Q (F0 m pc ls (.int x :: .int (nI j) :: .ref (q i) :: rest)) := by
  have hn := lz_n_le i
  have hc : (nI j).toNatClampNeg = j := nI_clamp (by omega)
  have hat : (rm_W k a σ ++ lz_W k q θ)[55 + i]? = some (q i, .inl (k.2.1, lz_n i, .inl (θ i))) := by
    rw [List.getElem?_append_right (by rw [rm_Wlen]; omega), rm_Wlen, Nat.add_sub_cancel_left]
    exact lz_get hi
  refine va_iast CF.1 CF.2.1 hw.1 (hw.2.1.app hw.2.2.1) (lz_D hw.2.2.2.1) hw.2.2.2.2 (55 + i) 0 (n := lz_n i) (f := θ i) (cA := k.2.1) hat rfl (vp_in_nI hj (by omega)) hdg (fun H1 locs1 hP hD hS => ?_)
  have hset : (rm_W k a σ ++ lz_W k q θ).set (55 + i) (q i, .inl (k.2.1, lz_n i, .inl (upd (θ i) (nI j).toNatClampNeg x))) = rm_W k a σ ++ lz_W k q (rm_up θ i j x) := by
    rw [List.set_append_right _ _ (by rw [rm_Wlen]; omega), rm_Wlen, Nat.add_sub_cancel_left, hc, lz_set hi]
  rw [hset] at hP
  refine kk H1 locs1 ⟨hw.1, fun r z hz => ?_, fun r z hz => ?_, hw.2.2.2.1, hS⟩
  · have hr : r < 55 := (rm_get_of hz).1
    exact hP r z (by rw [List.getElem?_append_left (by rw [rm_Wlen]; exact hr)]; exact hz)
  · exact hP (55 + r) z (by rw [List.getElem?_append_right (by rw [rm_Wlen]; omega), rm_Wlen, Nat.add_sub_cancel_left]; exact hz)
theorem lz_subM (hw : lz_Wd k a q A H0 s σ θ H locs) (hA : ∀ x, H0.size ≤ x → A x) : ∀ x, rm_A a H.size x → A x := fun x h => by
  rcases h with ⟨j, hj, rfl⟩ | h
  · exact hw.2.2.2.1.2.1 j hj
  · exact hA x (Nat.le_trans hw.2.2.2.2.1 h)
theorem lz_subL (hw : lz_Wd k a q A H0 s σ θ H locs) (hA : ∀ x, H0.size ≤ x → A x) : ∀ x, lz_A a q H.size x → A x := fun x h => by
  rcases h with h | ⟨i, hi, rfl⟩
  · exact lz_subM hw hA x h
  · exact hw.2.2.2.1.2.2 i hi
theorem lz_postM {t : State} {H1 : Heap} {locs1 : List Loc} {τ : rm_St} (hw : lz_Wd k a q A H0 s σ θ H locs) (ht : t.heap = H1) (hB : rm_P k a τ t) (hk : ∀ x : Nat, x < H.size → ¬ rm_A a H.size x → H1[x]? = H[x]?) (hS : va_S A H0 H1 locs1) : lz_Wd k a q A H0 s τ θ H1 locs1 := by
  refine ⟨hw.1, by rw [← ht]; exact hB.1, hw.2.2.1.kept (fun i x hx => ?_), hw.2.2.2.1, hS⟩
  have hlt := (hw.2.2.1 i x hx).lt
  obtain ⟨hi, rfl⟩ := lz_get_of hx
  refine hk _ hlt (fun z => ?_)
  rcases z with ⟨j, hj, z⟩ | z
  · exact hw.2.2.2.1.1.2.2 j i hj hi z.symm
  · exact absurd hlt (Nat.not_lt.mpr z)
theorem lz_preM (hTh : rm_Th A s) (hA : ∀ x, s.heap.size ≤ x → A x) (hw : lz_Wd k a q A s.heap s σ θ H locs) (av : List Value) : PreV s H RX0 (a 0) (va_Pc (.ref (a 0) :: av) (fun U => U.heap.size = H.size ∧ rm_P k a σ U ∧ rm_Th (rm_A a H.size) U)) av :=
  ⟨fun x U g mk z => by obtain ⟨q0, q1, ⟨q2, q3⟩, q4⟩ := z; exact ⟨q0, q1, ⟨q2, va_K.moved (u := U) (U := U.calling g mk x) (Vm.Alike.refl U.vm) q3⟩, q4.blind g mk x⟩,
    va_recv hw.1 hw.2.1 (ci := 0) (q0 := 0) (show vwCl[0]? = some (RX0, TX0, 20) from rfl) (rm_get (q := 0) (by decide)), fun U hU hW => ⟨rfl, by rw [hU], ⟨by rw [hU]; exact hw.2.1, va_K.moved hW.alike hw.1⟩, hTh.call hw.2.2.2.2 hU hW (lz_subM hw hA)⟩⟩
variable {y : MethodName} {bytes : ByteArray} {maxL index n : Nat} {ret : Option FieldType} {ws : List Cond} {rmm : Room} {As st0 : List Value} {X : State → Prop} {hh : List (Nat × Nat × Nat × Nat)}
/-- the mesh's calls that may throw: both ends -/
theorem lz_callX (CF : CallFix p m c cc nL s args Ts own) (hTh : rm_Th A s) (hA : ∀ x, s.heap.size ≤ x → A x) (hw : lz_Wd k a q A s.heap s σ θ H locs) (hM : rm_XI l k a y ws rmm As σ thr r0 σ0) (cw : CallW R s args own RX0 index y bytes maxL ret ws rmm rmm.cells rmm.slots n) (hn : As.length = n) (hsize : ls.size = nL) (hstack : st0 = As.reverse ++ .ref (a 0) :: rest)
    (hW : 2 * (F0 m pc ls st0).monitorRoom + (rest.map fun v => v.category).sum ≤ 8) (hdg : decode cc pc = .ok (.invokevirtual index, 3)) (hf : cells + rmm.cells ≤ R.cells ∧ slots + rmm.slots ≤ R.slots)
    (kx : ∀ (E : String) (ce : Cell) (q9 : Addr) (H1 : Heap) (locs1 : List Loc), thr = some E → lz_Wd k a q A s.heap s σ θ H1 locs1 → H1[q9]? = some ce → ce.vm = .none → s.vm.findClass E = some ce.cls → vx_W p l e R s m args below meth c H1 locs1 (cells + rmm.cells) (slots + rmm.slots) Q (F0 m pc ls rest) q9)
    (kk : thr = none → ∀ (H1 : Heap) (locs1 : List Loc), lz_Wd k a q A s.heap s σ0 θ H1 locs1 → W p l e R s m args below meth c H1 locs1 (cells + rmm.cells) (slots + rmm.slots) Q (F0 m (pc + 3) ls (.int r0 :: rest))) : W p l e R s m args below meth c H locs cells slots Q (F0 m pc ls st0) := by
  have hsub := lz_subM hw hA
  refine vx_calli (vx_runV (As := As) (rest := rest) CF (hM H.size) cw (lz_preM hTh hA hw As) rfl hn hsize hstack hW hdg hf) hw.2.2.2.2 (fun x _ h => hsub x h) hsub (fun x _ h => hsub x h) ?_ ?_
  · intro E ce q9 u t H1 locs1 ht hvm hp hB hz hk hS hce hcv hcl
    obtain rfl := hp
    exact kx E ce q9 H1 locs1 hB.1 (lz_postM hw ht hB.2 hk hS) hce hcv hcl
  · intro r u t H1 locs1 ht hvm hp hB hz hk hS
    obtain ⟨h1, rfl, rfl⟩ := hp
    exact kk h1 H1 locs1 (lz_postM hw ht hB hk hS)
/-- the mesh's calls that do not throw here -/
theorem lz_callI (CF : CallFix p m c cc nL s args Ts own) (hTh : rm_Th A s) (hA : ∀ x, s.heap.size ≤ x → A x) (hw : lz_Wd k a q A s.heap s σ θ H locs) (hM : rm_XI l k a y ws rmm As σ none r0 σ0) (cw : CallW R s args own RX0 index y bytes maxL ret ws rmm rmm.cells rmm.slots n) (hn : As.length = n) (hsize : ls.size = nL) (hstack : st0 = As.reverse ++ .ref (a 0) :: rest)
    (hW : 2 * (F0 m pc ls st0).monitorRoom + (rest.map fun v => v.category).sum ≤ 8) (hdg : decode cc pc = .ok (.invokevirtual index, 3)) (hf : cells + rmm.cells ≤ R.cells ∧ slots + rmm.slots ≤ R.slots)
    (kk : ∀ (H1 : Heap) (locs1 : List Loc), lz_Wd k a q A s.heap s σ0 θ H1 locs1 → W p l e R s m args below meth c H1 locs1 (cells + rmm.cells) (slots + rmm.slots) Q (F0 m (pc + 3) ls (.int r0 :: rest))) : W p l e R s m args below meth c H locs cells slots Q (F0 m pc ls st0) :=
  lz_callX CF hTh hA hw hM cw hn hsize hstack hW hdg hf (fun E ce q9 H1 locs1 h => nomatch h) (fun _ => kk)
/-- told: a static call that may throw, both ends -/
theorem lz_callT (CF : CallFix p m c cc nL s args Ts own) (hTh : rm_Th A s) (hA : ∀ x, s.heap.size ≤ x → A x) (hw : lz_Wd k a q A s.heap s σ θ H locs) (hM : rm_XI l k a y ws rmm As σ thr r0 σ0) (cw : CallB R s args own index y bytes maxL ret ws rmm rmm.cells rmm.slots n ∧ (Cond.static y).before args s = true) (hn : As.length + 1 = n) (hsize : ls.size = nL) (hstack : st0 = (Value.ref (a 0) :: As).reverse ++ rest)
    (hW : 2 * (F0 m pc ls st0).monitorRoom + (rest.map fun v => v.category).sum ≤ 8) (hdg : decode cc pc = .ok (.invokestatic index, 3)) (hf : cells + rmm.cells ≤ R.cells ∧ slots + rmm.slots ≤ R.slots)
    (kx : ∀ (E : String) (ce : Cell) (q9 : Addr) (H1 : Heap) (locs1 : List Loc), thr = some E → lz_Wd k a q A s.heap s σ θ H1 locs1 → H1[q9]? = some ce → ce.vm = .none → s.vm.findClass E = some ce.cls → vx_W p l e R s m args below meth c H1 locs1 (cells + rmm.cells) (slots + rmm.slots) Q (F0 m pc ls rest) q9)
    (kk : thr = none → ∀ (H1 : Heap) (locs1 : List Loc), lz_Wd k a q A s.heap s σ0 θ H1 locs1 → W p l e R s m args below meth c H1 locs1 (cells + rmm.cells) (slots + rmm.slots) Q (F0 m (pc + 3) ls (.int r0 :: rest))) : W p l e R s m args below meth c H locs cells slots Q (F0 m pc ls st0) := by
  have hsub := lz_subM hw hA
  have hpre := lz_preM hTh hA hw As
  refine vx_calli (vx_runS (As := .ref (a 0) :: As) (rest := rest) CF (hM H.size) cw ⟨hpre.1, hpre.2.2⟩ rfl hn hsize hstack hW hdg hf) hw.2.2.2.2 (fun x _ h => hsub x h) hsub (fun x _ h => hsub x h) ?_ ?_
  · intro E ce q9 u t H1 locs1 ht hvm hp hB hz hk hS hce hcv hcl
    obtain rfl := hp
    exact kx E ce q9 H1 locs1 hB.1 (lz_postM hw ht hB.2 hk hS) hce hcv hcl
  · intro r u t H1 locs1 ht hvm hp hB hz hk hS
    obtain ⟨h1, rfl, rfl⟩ := hp
    exact kk h1 H1 locs1 (lz_postM hw ht hB hk hS)
/-- the mesh's own call that cannot throw (time, loops) -/
theorem lz_callG (CF : CallFix p m c cc nL s args Ts own) (hA : ∀ x, s.heap.size ≤ x → A x) (hw : lz_Wd k a q A s.heap s σ θ H locs) (hM : rm_MI l k a y ws rmm As σ r0 σ0) (cw : CallW R s args own RX0 index y bytes maxL ret ws rmm 0 0 n) (hn : As.length = n) (hsize : ls.size = nL) (hstack : st0 = As.reverse ++ .ref (a 0) :: rest)
    (hW : 2 * (F0 m pc ls st0).monitorRoom + (rest.map fun v => v.category).sum ≤ 8) (hdg : decode cc pc = .ok (.invokevirtual index, 3)) (hf : cells ≤ R.cells ∧ slots ≤ R.slots)
    (kk : ∀ (H1 : Heap) (locs1 : List Loc), lz_Wd k a q A s.heap s σ0 θ H1 locs1 → W p l e R s m args below meth c H1 locs1 cells slots Q (F0 m (pc + 3) ls (.int r0 :: rest))) : W p l e R s m args below meth c H locs cells slots Q (F0 m pc ls st0) := by
  have hsub := lz_subM hw hA
  refine va_calli (va_runV (As := As) (rest := rest) CF (hM H.size) cw ⟨fun x U g mk z => ?_, va_recv hw.1 hw.2.1 (ci := 0) (q0 := 0) (show vwCl[0]? = some (RX0, TX0, 20) from rfl) (rm_get (q := 0) (by decide)), fun U hU hWm => ⟨rfl, by rw [hU], by rw [hU]; exact hw.2.1, va_K.moved hWm.alike hw.1⟩⟩ rfl hn hsize hstack hW hdg hf) hw.2.2.2.2 (fun x _ h => hsub x h) (fun x h => hsub x h) (fun r u t H1 locs1 ht hvm hp hB hz hk hS => ?_)
  · obtain ⟨q0, q1, q2, q3⟩ := z
    exact ⟨q0, q1, q2, va_K.moved (u := U) (U := U.calling g mk x) (Vm.Alike.refl U.vm) q3⟩
  · obtain ⟨rfl, rfl⟩ := hp
    exact kk H1 locs1 (lz_postM hw ht hB hk hS)
theorem lz_postL {t : State} {H1 : Heap} {locs1 : List Loc} {σ1 θ1 : rm_St} (hw : lz_Wd k a q A H0 s σ θ H locs) (ht : t.heap = H1) (hB : lz_P k a q σ1 θ1 t) (hS : va_S A H0 H1 locs1) : lz_Wd k a q A H0 s σ1 θ1 H1 locs1 :=
  ⟨hw.1, by rw [← ht]; exact hB.1.1, by rw [← ht]; exact hB.2, hw.2.2.2.1, hS⟩
theorem lz_preL (hTh : rm_Th A s) (hN : rl_N s) (hA : ∀ x, s.heap.size ≤ x → A x) (hw : lz_Wd k a q A s.heap s σ θ H locs) (hXb : ∀ (U : State) (g : JFrame) (mk : MethodId) (x : Array Value), X U → X (U.calling g mk x)) (hXs : ∀ U : State, U.heap = H → s.WarmedH U.vm → X U) (av : List Value) : PreS s H (va_Pc av (fun U => U.heap.size = H.size ∧ lz_P k a q σ θ U ∧ rm_Th (lz_A a q H.size) U ∧ rl_N U ∧ X U)) av :=
  ⟨fun x U g mk z => by obtain ⟨q0, q1, ⟨⟨q2, q3⟩, q4⟩, q5, q6, q7⟩ := z; exact ⟨q0, q1, ⟨⟨q2, va_K.moved (u := U) (U := U.calling g mk x) (Vm.Alike.refl U.vm) q3⟩, q4⟩, q5.blind g mk x, rl_N.moved (u := U) (U := U.calling g mk x) (Vm.Alike.refl U.vm) q6, hXb U g mk x q7⟩,
    fun U hU hWm => ⟨rfl, by rw [hU], ⟨⟨by rw [hU]; exact hw.2.1, va_K.moved hWm.alike hw.1⟩, by rw [hU]; exact hw.2.2.1⟩, hTh.call hw.2.2.2.2 hU hWm (lz_subL hw hA), hN.moved hWm.alike, hXs U hU hWm⟩⟩
/-- a method of the law -/
theorem lz_callL (CF : CallFix p m c cc nL s args Ts own) (hTh : rm_Th A s) (hN : rl_N s) (hA : ∀ x, s.heap.size ≤ x → A x) (hw : lz_Wd k a q A s.heap s σ θ H locs) (hM : lz_M l k a q X y ws rmm As σ θ post) (hXb : ∀ (U : State) (g : JFrame) (mk : MethodId) (x : Array Value), X U → X (U.calling g mk x)) (hXs : ∀ U : State, U.heap = H → s.WarmedH U.vm → X U)
    (cw : CallB R s args own index y bytes maxL ret ws rmm rmm.cells rmm.slots n ∧ (Cond.static y).before args s = true) (hn : As.length = n) (hsize : ls.size = nL) (hstack : st0 = As.reverse ++ rest)
    (hW : 2 * (F0 m pc ls st0).monitorRoom + (rest.map fun v => v.category).sum ≤ 8) (hdg : decode cc pc = .ok (.invokestatic index, 3)) (hf : cells + rmm.cells ≤ R.cells ∧ slots + rmm.slots ≤ R.slots)
    (kk : ∀ (H1 : Heap) (locs1 : List Loc) (r : Int32) (σ1 θ1 : rm_St), post r σ1 θ1 → lz_Wd k a q A s.heap s σ1 θ1 H1 locs1 → W p l e R s m args below meth c H1 locs1 (cells + rmm.cells) (slots + rmm.slots) Q (F0 m (pc + 3) ls (.int r :: rest))) : W p l e R s m args below meth c H locs cells slots Q (F0 m pc ls st0) := by
  have hsub := lz_subL hw hA
  refine va_calli (va_runS (As := As) (rest := rest) CF (hM H.size) cw (lz_preL hTh hN hA hw hXb hXs As) rfl hn hsize hstack hW hdg hf) hw.2.2.2.2 (fun x _ h => hsub x h) (fun x h => hsub x h) (fun r u t H1 locs1 ht hvm hp hB hz hk hS => ?_)
  exact kk H1 locs1 r u.1 u.2 hp (lz_postL hw ht hB hS)
/-- a method of the law with a table of its own -/
theorem lz_callH (CF : CallFix p m c cc nL s args Ts own) (hTh : rm_Th A s) (hN : rl_N s) (hA : ∀ x, s.heap.size ≤ x → A x) (hw : lz_Wd k a q A s.heap s σ θ H locs) (hM : lz_M l k a q X y ws rmm As σ θ post) (hXb : ∀ (U : State) (g : JFrame) (mk : MethodId) (x : Array Value), X U → X (U.calling g mk x)) (hXs : ∀ U : State, U.heap = H → s.WarmedH U.vm → X U)
    (cw : vx_CSW R s args own index y bytes maxL ret hh ws rmm rmm.cells rmm.slots n) (hn : As.length = n) (hsize : ls.size = nL) (hstack : st0 = As.reverse ++ rest)
    (hW : 2 * (F0 m pc ls st0).monitorRoom + (rest.map fun v => v.category).sum ≤ 8) (hdg : decode cc pc = .ok (.invokestatic index, 3)) (hf : cells + rmm.cells ≤ R.cells ∧ slots + rmm.slots ≤ R.slots)
    (kk : ∀ (H1 : Heap) (locs1 : List Loc) (r : Int32) (σ1 θ1 : rm_St), post r σ1 θ1 → lz_Wd k a q A s.heap s σ1 θ1 H1 locs1 → W p l e R s m args below meth c H1 locs1 (cells + rmm.cells) (slots + rmm.slots) Q (F0 m (pc + 3) ls (.int r :: rest))) : W p l e R s m args below meth c H locs cells slots Q (F0 m pc ls st0) := by
  have hsub := lz_subL hw hA
  refine va_calli (vx_runSW (As := As) (rest := rest) CF (hM H.size) cw (lz_preL hTh hN hA hw hXb hXs As) rfl hn hsize hstack hW hdg hf) hw.2.2.2.2 (fun x _ h => hsub x h) (fun x h => hsub x h) (fun r u t H1 locs1 ht hvm hp hB hz hk hS => ?_)
  exact kk H1 locs1 r u.1 u.2 hp (lz_postL hw ht hB hS)
theorem lz_end {t : State} (hw : lz_Wd k a q (lz_A a q s.heap.size) s.heap s σ θ H locs) (ht : t.heap = H) (hW : s.WarmedH t.vm) : lz_P k a q σ θ t ∧ va_F (lz_A a q s.heap.size) s t :=
  ⟨⟨⟨by rw [ht]; exact hw.2.1, va_K.moved hW.alike hw.1⟩, by rw [ht]; exact hw.2.2.1⟩, hw.2.2.2.2.F ht⟩
theorem lz_iret (CF : CallFix p m c cc nL s args Ts own) (hr : meth.sig.returnType = some .int) (hlocks : meth.locks = false) (hw : lz_Wd k a q (lz_A a q s.heap.size) s.heap s σ θ H locs) (hc : cells ≤ mc) (hs : slots ≤ ms) (hdg : decode cc pc = .ok (.ireturn, 1)) (h : post v σ θ) :
    W p l e R s m args below meth c H locs cells slots (MQ below (va_Qi (fun (r : Int32) (u : rm_St × rm_St) => post r u.1 u.2) (fun u t => lz_P k a q u.1 u.2 t) (lz_A a q s.heap.size)) args s mc ms (lz_A a q s.heap.size)) (F0 m pc ls [.int v]) :=
  W.widen (k := mc) (n := ms) hc hs (W.iret (v := v) CF.1 CF.2.1 hr (fun t ht hW => ⟨⟨v, (σ, θ), rfl, h, (lz_end hw ht hW).1⟩, (lz_end hw ht hW).2⟩) hw.2.2.2.2.2.2 hdg hlocks)
theorem lz_zret (CF : CallFix p m c cc nL s args Ts own) (hr : meth.sig.returnType = some .boolean) (hlocks : meth.locks = false) (hw : lz_Wd k a q (lz_A a q s.heap.size) s.heap s σ θ H locs) (hc : cells ≤ mc) (hs : slots ≤ ms) (hdg : decode cc pc = .ok (.ireturn, 1)) (h : post 1 σ θ) :
    W p l e R s m args below meth c H locs cells slots (MQ below (va_Qi (fun (r : Int32) (u : rm_St × rm_St) => post r u.1 u.2) (fun u t => lz_P k a q u.1 u.2 t) (lz_A a q s.heap.size)) args s mc ms (lz_A a q s.heap.size)) (F0 m pc ls [.int 1]) :=
  W.widen (k := mc) (n := ms) hc hs (W.zret (v := 1) CF.1 CF.2.1 hr (by decide) (fun t ht hW => ⟨⟨1, (σ, θ), rfl, h, (lz_end hw ht hW).1⟩, (lz_end hw ht hW).2⟩) hw.2.2.2.2.2.2 hdg hlocks)
end LZR

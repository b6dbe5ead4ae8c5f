/-! what a call of the mesh needs to throw, and the contracts of methods that may throw -/
def rm_str (U : State) : Prop :=
  (∃ q, vk_R RX0 94 "a node is not linked to itself" q U) ∧ (∃ q, vk_R RX0 104 "the node is a root" q U) ∧ (∃ q, vk_R RX0 128 "the node is not below itself" q U) ∧ (∃ q, vk_R RX0 130 "the node is not below the other one" q U) ∧
  (∃ q, vk_R RX0 134 "no such node" q U) ∧ (∃ q, vk_R RX0 137 "the node is no root" q U) ∧ (∃ q, vk_R RX0 139 "an argument is out of range" q U)
theorem rm_str.warm {s U : State} (hW : s.WarmedH U.vm) (h : rm_str s) : rm_str U := by
  obtain ⟨⟨q1, h1⟩, ⟨q2, h2⟩, ⟨q3, h3⟩, ⟨q4, h4⟩, ⟨q5, h5⟩, ⟨q6, h6⟩, ⟨q7, h7⟩⟩ := h
  exact ⟨⟨q1, h1.warm hW⟩, ⟨q2, h2.warm hW⟩, ⟨q3, h3.warm hW⟩, ⟨q4, h4.warm hW⟩, ⟨q5, h5.warm hW⟩, ⟨q6, h6.warm hW⟩, ⟨q7, h7.warm hW⟩⟩
theorem rm_str.same {u U : State} (hv : U.vm = u.vm) (h : rm_str u) : rm_str U := by
  obtain ⟨⟨q1, h1⟩, ⟨q2, h2⟩, ⟨q3, h3⟩, ⟨q4, h4⟩, ⟨q5, h5⟩, ⟨q6, h6⟩, ⟨q7, h7⟩⟩ := h
  exact ⟨⟨q1, h1.same hv⟩, ⟨q2, h2.same hv⟩, ⟨q3, h3.same hv⟩, ⟨q4, h4.same hv⟩, ⟨q5, h5.same hv⟩, ⟨q6, h6.same hv⟩, ⟨q7, h7.same hv⟩⟩
def rm_IO : String := "java/lang/IndexOutOfBoundsException"
/-- what the tables say of the exceptions' classes beside the good words -/
def rm_nw (U : State) : Prop := va_Nw (.declares (Bundle.initS "java/lang/RuntimeException")) U ∧ va_Nw (.declares (Bundle.initS "java/lang/Exception")) U ∧ va_Nw (.declares (Bundle.initS "java/lang/Throwable")) U ∧
  va_Nw (.castable "java/lang/IndexOutOfBoundsException" "java/lang/IndexOutOfBoundsException") U ∧ va_Nw (.castable "java/lang/IllegalArgumentException" "java/lang/IllegalArgumentException") U ∧ va_Nw (.castable "java/lang/IllegalStateException" "java/lang/IllegalStateException") U
theorem rm_nw.warm {s U : State} (hW : s.WarmedH U.vm) (h : rm_nw s) : rm_nw U :=
  ⟨h.1.warmD hW, h.2.1.warmD hW, h.2.2.1.warmD hW, h.2.2.2.1.warmC hW, h.2.2.2.2.1.warmC hW, h.2.2.2.2.2.warmC hW⟩
theorem rm_nw.same {u U : State} (hv : u.vm = U.vm) (h : rm_nw u) : rm_nw U :=
  ⟨h.1.same rfl hv, h.2.1.same rfl hv, h.2.2.1.same rfl hv, h.2.2.2.1.same rfl hv, h.2.2.2.2.1.same rfl hv, h.2.2.2.2.2.same rfl hv⟩
def rm_Th (A : Nat → Prop) (U : State) : Prop := vx_Zq Bundle.tN "UNASSIGNED_STACK" Bundle.steD A U U.heap ∧ vx_Zq Bundle.tN "SUPPRESSED_SENTINEL" Bundle.listD A U U.heap ∧ rm_str U ∧ rm_nw U
theorem rm_Th.blind {A : Nat → Prop} {U : State} (g : JFrame) (mk : MethodId) (a : Array Value) (h : rm_Th A U) : rm_Th A (U.calling g mk a) :=
  ⟨vx_Zq.moved (u := U) (U := U.calling g mk a) (Vm.Alike.refl U.vm) h.1, vx_Zq.moved (u := U) (U := U.calling g mk a) (Vm.Alike.refl U.vm) h.2.1, rm_str.same (u := U) rfl h.2.2.1, rm_nw.same (u := U) rfl h.2.2.2⟩
theorem rm_Th.call {A A1 : Nat → Prop} {s U : State} {H : Heap} {locs : List Loc} (h : rm_Th A s) (hS : va_S A s.heap H locs) (hU : U.heap = H) (hW : s.WarmedH U.vm) (hA : ∀ q, A1 q → A q) : rm_Th A1 U := by
  refine ⟨?_, ?_, h.2.2.1.warm hW, h.2.2.2.warm hW⟩
  · rw [hU]
    exact vx_Zq.narrow (vx_Zq.moved hW.alike (h.1.kept hS.2.1)) hA
  · rw [hU]
    exact vx_Zq.narrow (vx_Zq.moved hW.alike (h.2.1.kept hS.2.1)) hA
def rm_XC (k : rm_K) (a : Nat → Nat) (σ : rm_St) (thr : Option String) (A : Nat → Prop) : String → State → State → Prop := vx_X (fun τ : rm_St => τ = σ) (fun E τ t => thr = some E ∧ rm_P k a τ t) A
def rm_XV (l : Launch) (k : rm_K) (a : Nat → Nat) (y : MethodName) (ws : List Cond) (rmm : Room) (As : List Value) (σ : rm_St) (thr : Option String) (σ0 : rm_St) : Prop :=
  ∀ sz : Nat, vx_Met l y ws rmm (va_Pc (.ref (a 0) :: As) (fun U => U.heap.size = sz ∧ rm_P k a σ U ∧ rm_Th (rm_A a sz) U)) (va_Qv (fun (τ : rm_St) => thr = none ∧ τ = σ0) (fun τ t => rm_P k a τ t) (rm_A a sz)) (rm_XC k a σ thr (rm_A a sz)) rmm.cells rmm.slots (rm_A a sz)
def rm_XI (l : Launch) (k : rm_K) (a : Nat → Nat) (y : MethodName) (ws : List Cond) (rmm : Room) (As : List Value) (σ : rm_St) (thr : Option String) (r0 : Int32) (σ0 : rm_St) : Prop :=
  ∀ sz : Nat, vx_Met l y ws rmm (va_Pc (.ref (a 0) :: As) (fun U => U.heap.size = sz ∧ rm_P k a σ U ∧ rm_Th (rm_A a sz) U)) (va_Qi (fun (r : Int32) (τ : rm_St) => thr = none ∧ r = r0 ∧ τ = σ0) (fun τ t => rm_P k a τ t) (rm_A a sz)) (rm_XC k a σ thr (rm_A a sz)) rmm.cells rmm.slots (rm_A a sz)
def rm_XS (l : Launch) (y : MethodName) (ws : List Cond) (rmm : Room) (As : List Value) (thr : Option String) : Prop :=
  vx_Met l y ws rmm (va_Pc As (fun U => rm_Th (fun _ => False) U)) (va_Qv (fun _ : Unit => thr = none) (fun _ _ => True) (fun _ => False)) (vx_X (fun _ : Unit => True) (fun E _ _ => thr = some E) (fun _ => False)) rmm.cells rmm.slots (fun _ => False)
section RXE
variable {l : Launch} {k : rm_K} {a : Nat → Nat} {y : MethodName} {ws ws' : List Cond} {rmm : Room} {As : List Value} {σ σ0 σ' : rm_St} {r0 : Int32} {cc : ByteArray} {nL : Nat} {ret : Option FieldType} {thr : Option String}
theorem rm_enterXI (ha : rm_inj a) (hy : plainName y.cls = true) (hcls : y.cls = RX0) (hw : ws = Cond.code y cc nL ret :: ws') (hin : ∀ w ∈ u_ws RX0 TX0 20, w ∈ ws) (hn : (lg_sl (.ref (a 0) :: As)).length ≤ nL)
    (body : ∀ (p : Program) (e : Env) (s : State) (m : MethodId) (args : Array Value) (below : List Frame) (meth : Method) (c : Code) (ls : Array Slot), rm_C p m c cc nL s args ws → meth.sig.returnType = ret → meth.locks = false → (∀ x ∈ c.exceptionTable.toList, False) → rm_Th (rm_A a s.heap.size) s → rm_Wd k a (rm_A a s.heap.size) s.heap s σ s.heap [] → lv_has ls nL (lv_args 0 (.ref (a 0) :: As)) →
      W p l e (headSpec ws rmm).room s m args below meth c s.heap [] 0 0 (vx_MQ below (va_Qi (fun (r : Int32) (τ : rm_St) => thr = none ∧ r = r0 ∧ τ = σ0) (fun τ t => rm_P k a τ t) (rm_A a s.heap.size)) (rm_XC k a σ thr (rm_A a s.heap.size)) args s rmm.cells rmm.slots (rm_A a s.heap.size)) (F0 m 0 ls [])) : rm_XI l k a y ws rmm As σ thr r0 σ0 := by
  intro sz
  refine vx_ofW (cc := cc) (maxL := nL) (ret := ret) hy hw ?_
  intro p e s m args below meth c s₁ B hml htab hv
  obtain ⟨rfl, hsz, hP, hT⟩ := hv
  have hown : s.vm.findClass RX0 = some m.cls := hcls ▸ findClass_of_methodNamed B.named
  subst hsz
  have hl := lv_entry (.ref (a 0) :: As) (n := nL) hn
  rw [lg_entry_eq]
  exact body p e s m _ below meth c _ ⟨⟨B.exec, B.bytes, hml, hown, atoms_spec (ws := ws) B.pre⟩, hin⟩ B.returns B.notSynchronized htab hT (rm_start ha hP) hl
theorem rm_enterXV (ha : rm_inj a) (hy : plainName y.cls = true) (hcls : y.cls = RX0) (hw : ws = Cond.code y cc nL ret :: ws') (hin : ∀ w ∈ u_ws RX0 TX0 20, w ∈ ws) (hn : (lg_sl (.ref (a 0) :: As)).length ≤ nL)
    (body : ∀ (p : Program) (e : Env) (s : State) (m : MethodId) (args : Array Value) (below : List Frame) (meth : Method) (c : Code) (ls : Array Slot), rm_C p m c cc nL s args ws → meth.sig.returnType = ret → meth.locks = false → (∀ x ∈ c.exceptionTable.toList, False) → rm_Th (rm_A a s.heap.size) s → rm_Wd k a (rm_A a s.heap.size) s.heap s σ s.heap [] → lv_has ls nL (lv_args 0 (.ref (a 0) :: As)) →
      W p l e (headSpec ws rmm).room s m args below meth c s.heap [] 0 0 (vx_MQ below (va_Qv (fun (τ : rm_St) => thr = none ∧ τ = σ0) (fun τ t => rm_P k a τ t) (rm_A a s.heap.size)) (rm_XC k a σ thr (rm_A a s.heap.size)) args s rmm.cells rmm.slots (rm_A a s.heap.size)) (F0 m 0 ls [])) : rm_XV l k a y ws rmm As σ thr σ0 := by
  intro sz
  refine vx_ofW (cc := cc) (maxL := nL) (ret := ret) hy hw ?_
  intro p e s m args below meth c s₁ B hml htab hv
  obtain ⟨rfl, hsz, hP, hT⟩ := hv
  have hown : s.vm.findClass RX0 = some m.cls := hcls ▸ findClass_of_methodNamed B.named
  subst hsz
  have hl := lv_entry (.ref (a 0) :: As) (n := nL) hn
  rw [lg_entry_eq]
  exact body p e s m _ below meth c _ ⟨⟨B.exec, B.bytes, hml, hown, atoms_spec (ws := ws) B.pre⟩, hin⟩ B.returns B.notSynchronized htab hT (rm_start ha hP) hl
end RXE
section RXQ
variable {p : Program} {l : Launch} {e : Env} {R : Room} {s : State} {m : MethodId} {args : Array Value} {below : List Frame} {meth : Method} {c : Code} {H : Heap} {locs : List Loc} {cells slots mc ms : Nat} {Q : State → Prop}
variable {cc : ByteArray} {pc nL : Nat} {ls : Array Slot} {rest : List Value} {Ts : List Cond} {k : rm_K} {a : Nat → Nat} {A : Nat → Prop} {H0 : Heap} {σ σ0 : rm_St} {r0 v : Int32} {thr thr1 : Option String} {Qc : Array Value → State → Outcome → State → Prop}
theorem rm_endA {t : State} (hw : rm_Wd k a (rm_A a s.heap.size) s.heap s σ H locs) (ht : t.heap = H) (hvm : s.vm.Alike t.vm) : rm_P k a σ t ∧ va_F (rm_A a s.heap.size) s t :=
  ⟨⟨by rw [ht]; exact hw.2.1, va_K.moved hvm hw.1⟩, hw.2.2.2.F ht⟩
theorem rm_xret (C : rm_C p m c cc nL s args Ts) (hr : meth.sig.returnType = some .int) (hlocks : meth.locks = false) (hw : rm_Wd k a (rm_A a s.heap.size) s.heap s σ H locs) (hc : cells ≤ mc) (hs : slots ≤ ms) (hdg : decode cc pc = .ok (.ireturn, 1)) (h : thr = none ∧ v = r0 ∧ σ = σ0) {XC : String → State → State → Prop} :
    W p l e R s m args below meth c H locs cells slots (vx_MQ below (va_Qi (fun (r : Int32) (τ : rm_St) => thr = none ∧ r = r0 ∧ τ = σ0) (fun τ t => rm_P k a τ t) (rm_A a s.heap.size)) XC args s mc ms (rm_A a s.heap.size)) (F0 m pc ls [.int v]) :=
  W.widen (k := mc) (n := ms) hc hs (vx_ret (W.iret (v := v) C.1.1 C.1.2.1 hr (fun t ht hW => ⟨⟨v, σ, rfl, h, (rm_end hw ht hW).1⟩, (rm_end hw ht hW).2⟩) hw.2.2.2.2.2 hdg hlocks))
theorem rm_xvret (C : rm_C p m c cc nL s args Ts) (hr : meth.sig.returnType = none) (hlocks : meth.locks = false) (hw : rm_Wd k a (rm_A a s.heap.size) s.heap s σ H locs) (hc : cells ≤ mc) (hs : slots ≤ ms) (hdg : decode cc pc = .ok (.return_, 1)) (h : thr = none ∧ σ = σ0) {XC : String → State → State → Prop} :
    W p l e R s m args below meth c H locs cells slots (vx_MQ below (va_Qv (fun (τ : rm_St) => thr = none ∧ τ = σ0) (fun τ t => rm_P k a τ t) (rm_A a s.heap.size)) XC args s mc ms (rm_A a s.heap.size)) (F0 m pc ls []) :=
  W.widen (k := mc) (n := ms) hc hs (vx_ret (W.vret C.1.1 C.1.2.1 hr (fun t ht hW => ⟨⟨σ, rfl, h, (rm_end hw ht hW).1⟩, (rm_end hw ht hW).2⟩) hw.2.2.2.2.2 hdg hlocks))
theorem rm_covers (ht : ∀ x ∈ c.exceptionTable.toList, False) (pc : Nat) : ∀ x ∈ c.exceptionTable.toList, covers x pc = false := fun x h => (ht x h).elim
/-- an exception goes on to the caller -/
theorem rm_goes (hlocks : meth.locks = false) (ht : ∀ x ∈ c.exceptionTable.toList, False) (hw : rm_Wd k a (rm_A a s.heap.size) s.heap s σ H locs) {E : String} {ce : Cell} {q9 : Addr} (hce : H[q9]? = some ce) (hcv : ce.vm = .none) (hcl : s.vm.findClass E = some ce.cls) (hthr : thr = some E) (hc : cells ≤ mc) (hs : slots ≤ ms) :
    vx_W p l e R s m args below meth c H locs cells slots (vx_MQ below Qc (rm_XC k a σ thr (rm_A a s.heap.size)) args s mc ms (rm_A a s.heap.size)) (F0 m pc ls rest) q9 :=
  vx_out (rm_covers ht pc) hlocks hce hcv hcl (fun t ht hvm => ⟨σ, rfl, ⟨hthr, (rm_endA hw ht hvm).1⟩, (rm_endA hw ht hvm).2⟩) hw.2.2.2.2.2 hc hs
variable {y : MethodName} {bytes : ByteArray} {maxL index n : Nat} {ret : Option FieldType} {ws : List Cond} {rmm : Room} {As st0 : List Value}
theorem rm_callXS (C : rm_C p m c cc nL s args Ts) (hlocks : meth.locks = false) (htab : ∀ x ∈ c.exceptionTable.toList, False) (hTh : rm_Th (rm_A a s.heap.size) s) (hw : rm_Wd k a (rm_A a s.heap.size) s.heap s σ H locs) (hM : rm_XS l y ws rmm As thr1) (cw : CallB R s args RX0 index y bytes maxL ret ws rmm rmm.cells rmm.slots n ∧ (Cond.static y).before args s = true) (hn : As.length = n) (hsize : ls.size = nL) (hstack : st0 = As.reverse ++ rest)
    (hW : 2 * (F0 m pc ls st0).monitorRoom + (rest.map fun v => v.category).sum ≤ 8) (hdg : decode cc pc = .ok (.invokestatic index, 3)) (hf : cells + rmm.cells ≤ R.cells ∧ slots + rmm.slots ≤ R.slots) (hc : cells + rmm.cells ≤ mc) (hs : slots + rmm.slots ≤ ms)
    (kx : ∀ E : String, thr1 = some E → thr = some E)
    (kk : thr1 = none → ∀ (H1 : Heap) (locs1 : List Loc), rm_Wd k a (rm_A a s.heap.size) s.heap s σ H1 locs1 → W p l e R s m args below meth c H1 locs1 (cells + rmm.cells) (slots + rmm.slots) (vx_MQ below Qc (rm_XC k a σ thr (rm_A a s.heap.size)) args s mc ms (rm_A a s.heap.size)) (F0 m (pc + 3) ls rest)) :
    W p l e R s m args below meth c H locs cells slots (vx_MQ below Qc (rm_XC k a σ thr (rm_A a s.heap.size)) args s mc ms (rm_A a s.heap.size)) (F0 m pc ls st0) := by
  refine vx_callv (vx_runS (As := As) (rest := rest) C.1 hM cw ⟨fun x U g mk q => ⟨q.1, q.2.blind g mk x⟩, fun U hU hW => ⟨rfl, hTh.call hw.2.2.2 hU hW (fun _ h => h.elim)⟩⟩ rfl hn hsize hstack hW hdg hf) hw.2.2.2 (fun q _ h => h.elim) (fun q h => h.elim) (fun q _ h => h.elim) ?_ ?_
  · intro E ce q9 u t H1 locs1 ht hvm hp hB hz hk hS hce hcv hcl
    exact rm_goes hlocks htab ⟨hw.1, rm_kept hw.2.1 (fun q hq => hk q hq id), hw.2.2.1, hS⟩ hce hcv hcl (kx E hB) hc hs
  · intro u t H1 locs1 ht hvm hp hB hz hk hS
    exact kk hp H1 locs1 ⟨hw.1, rm_kept hw.2.1 (fun q hq => hk q hq id), hw.2.2.1, hS⟩
/-- what a call of an instance method that may throw needs -/
theorem rm_preX (hTh : rm_Th (rm_A a s.heap.size) s) (hw : rm_Wd k a (rm_A a s.heap.size) s.heap s σ H locs) (av : List Value) : PreV s H RX0 (a 0) (va_Pc (.ref (a 0) :: av) (fun U => U.heap.size = H.size ∧ rm_P k a σ U ∧ rm_Th (rm_A a H.size) U)) av :=
  ⟨fun x U g mk q => by obtain ⟨q0, q1, ⟨q2, q3⟩, q4⟩ := q; exact ⟨q0, q1, ⟨q2, va_K.moved (u := U) (U := U.calling g mk x) (Vm.Alike.refl U.vm) q3⟩, q4.blind g mk x⟩,
    va_recv hw.1 hw.2.1 (ci := 0) (q0 := 0) (show vwCl[0]? = some (RX0, TX0, 20) from rfl) (rm_get (q := 0) (by decide)), fun U hU hW => ⟨rfl, by rw [hU], ⟨by rw [hU]; exact hw.2.1, va_K.moved hW.alike hw.1⟩, hTh.call hw.2.2.2 hU hW (rm_sub hw (fun q h => Or.inr h))⟩⟩
theorem rm_callXV (C : rm_C p m c cc nL s args Ts) (hlocks : meth.locks = false) (htab : ∀ x ∈ c.exceptionTable.toList, False) (hTh : rm_Th (rm_A a s.heap.size) s) (hw : rm_Wd k a (rm_A a s.heap.size) s.heap s σ H locs) (hM : rm_XV l k a y ws rmm As σ thr1 σ) (cw : CallW R s args RX0 RX0 index y bytes maxL ret ws rmm rmm.cells rmm.slots n) (hn : As.length = n) (hsize : ls.size = nL) (hstack : st0 = As.reverse ++ .ref (a 0) :: rest)
    (hW : 2 * (F0 m pc ls st0).monitorRoom + (rest.map fun v => v.category).sum ≤ 8) (hdg : decode cc pc = .ok (.invokevirtual index, 3)) (hf : cells + rmm.cells ≤ R.cells ∧ slots + rmm.slots ≤ R.slots) (hc : cells + rmm.cells ≤ mc) (hs : slots + rmm.slots ≤ ms)
    (kx : ∀ E : String, thr1 = some E → thr = some E)
    (kk : thr1 = none → ∀ (H1 : Heap) (locs1 : List Loc), rm_Wd k a (rm_A a s.heap.size) s.heap s σ H1 locs1 → W p l e R s m args below meth c H1 locs1 (cells + rmm.cells) (slots + rmm.slots) (vx_MQ below Qc (rm_XC k a σ thr (rm_A a s.heap.size)) args s mc ms (rm_A a s.heap.size)) (F0 m (pc + 3) ls rest)) :
    W p l e R s m args below meth c H locs cells slots (vx_MQ below Qc (rm_XC k a σ thr (rm_A a s.heap.size)) args s mc ms (rm_A a s.heap.size)) (F0 m pc ls st0) := by
  have hsub : ∀ q, rm_A a H.size q → rm_A a s.heap.size q := rm_sub hw (fun q h => Or.inr h)
  refine vx_callv (vx_runV (As := As) (rest := rest) C.1 (hM H.size) cw (rm_preX hTh hw As) rfl hn hsize hstack hW hdg hf) hw.2.2.2 (fun q _ h => hsub q h) hsub (fun q _ h => hsub q h) ?_ ?_
  · intro E ce q9 u t H1 locs1 ht hvm hp hB hz hk hS hce hcv hcl
    obtain rfl := hp
    exact rm_goes hlocks htab (rm_post hw ht hvm hB.2 hS) hce hcv hcl (kx E hB.1) hc hs
  · intro u t H1 locs1 ht hvm hp hB hz hk hS
    obtain ⟨h1, rfl⟩ := hp
    exact kk h1 H1 locs1 (rm_post hw ht hvm hB hS)
abbrev rm_RE : List String := ["java/lang/RuntimeException", "java/lang/Exception"]
theorem rm_throwS (C : rm_C p m c cc nL s args Ts) (hl : l.stackTraces = false) (hlocks : meth.locks = false) (htab : ∀ x ∈ c.exceptionTable.toList, False) (hTh : rm_Th (rm_A a s.heap.size) s) (hw : rm_Wd k a (rm_A a s.heap.size) s.heap s σ H locs) {cls text : String} {ik is ic : Nat}
    (hcls : Bundle.fit cls = true) (hk : Cond.classLink RX0 ik cls ∈ Ts) (hini : Cond.initialized cls ∈ Ts) (hstr : ∃ q, vk_R RX0 is text q s) (hat : ∀ w ∈ (vx_atS RX0 ic cls rm_RE).filter goodWord, w ∈ Ts) (hat2 : ∀ w ∈ (vx_atS RX0 ic cls rm_RE).filter (fun w => !goodWord w), w ∈ ([.declares (Bundle.initS "java/lang/RuntimeException"), .declares (Bundle.initS "java/lang/Exception"), .declares (Bundle.initS "java/lang/Throwable"), .castable cls cls] : List Cond)) (hcc : va_Nw (.castable cls cls) s)
    (hgood : (Cond.classLink RX0 ik cls :: Cond.initialized cls :: vx_atS RX0 ic cls rm_RE).all vx_ot = true) (hsize : ls.size = nL)
    (d0 : decode cc pc = .ok (.new ik, 3)) (d3 : decode cc (pc + 3) = .ok (.dup, 1)) (d4 : decode cc (pc + 4) = .ok (.ldc is, 2)) (d6 : decode cc (pc + 6) = .ok (.invokespecial ic, 3)) (d9 : decode cc (pc + 9) = .ok (.athrow, 1))
    (hRf : 6 ≤ R.frames) (hRl : (rest.map fun v => v.category).sum + 82 ≤ R.locals) (hRc : cells + 1 ≤ R.cells) (hRs : slots + 6 ≤ R.slots) (hc : cells + 1 ≤ mc) (hs : slots + 6 ≤ ms) (hthr : thr = some cls) :
    W p l e R s m args below meth c H locs cells slots (vx_MQ below Qc (rm_XC k a σ thr (rm_A a s.heap.size)) args s mc ms (rm_A a s.heap.size)) (F0 m pc ls rest) := by
  obtain ⟨sa, hsa⟩ := hstr
  have hts := C.1.2.2.2.2
  refine vx_throwS (names := rm_RE) (sa := sa) (text := text) C.1.1 C.1.2.1 hl C.1.2.2.2.1 hcls (by decide +kernel) (hts _ hk) (hts _ hini) hsa (vx_hat (fun w h => hts w (hat w h)) hat2 (vx_c (hTh.2.2.2.1.use rfl) (vx_c (hTh.2.2.2.2.1.use rfl) (vx_c (hTh.2.2.2.2.2.1.use rfl) (vx_c (hcc.use rfl) vx_n))))) (List.all_eq_true.mp hgood) hTh.1 hTh.2.1 hw.2.2.2 (hsize.trans C.1.2.2.1.symm) d0 d3 d4 d6 d9 (rm_covers htab _) hRf hRl hRc hRs hlocks ?_ hw.2.2.2.2.2 hc hs
  intro t hvm hz hk9
  have hw2 : va_P k.1 vwCl (rm_W k a σ) t.heap := rm_kept hw.2.1 hk9
  refine ⟨σ, rfl, ⟨hthr, hw2, va_K.moved hvm hw.1⟩, ?_⟩
  exact ⟨Nat.le_trans hw.2.2.2.1 hz, fun q h1 h2 => (hk9 q (Nat.lt_of_lt_of_le h1 hw.2.2.2.1)).trans (hw.2.2.2.2.1 q h1 h2)⟩
end RXQ
theorem rm_ot1 : (Cond.classLink RX0 132 "java/lang/IndexOutOfBoundsException" :: Cond.initialized "java/lang/IndexOutOfBoundsException" :: vx_atS RX0 136 "java/lang/IndexOutOfBoundsException" rm_RE).all vx_ot = true := by decide +kernel
theorem rm_ot2 : (Cond.classLink RX0 92 "java/lang/IllegalArgumentException" :: Cond.initialized "java/lang/IllegalArgumentException" :: vx_atS RX0 96 "java/lang/IllegalArgumentException" rm_RE).all vx_ot = true := by decide +kernel
theorem rm_ot3 : (Cond.classLink RX0 102 "java/lang/IllegalStateException" :: Cond.initialized "java/lang/IllegalStateException" :: vx_atS RX0 106 "java/lang/IllegalStateException" rm_RE).all vx_ot = true := by decide +kernel
theorem rm_nb1 : ∀ w ∈ (vx_atS RX0 136 "java/lang/IndexOutOfBoundsException" rm_RE).filter (fun w => !goodWord w), w ∈ ([.declares (Bundle.initS "java/lang/RuntimeException"), .declares (Bundle.initS "java/lang/Exception"), .declares (Bundle.initS "java/lang/Throwable"), .castable "java/lang/IndexOutOfBoundsException" "java/lang/IndexOutOfBoundsException"] : List Cond) := by decide +kernel
theorem rm_nb2 : ∀ w ∈ (vx_atS RX0 96 "java/lang/IllegalArgumentException" rm_RE).filter (fun w => !goodWord w), w ∈ ([.declares (Bundle.initS "java/lang/RuntimeException"), .declares (Bundle.initS "java/lang/Exception"), .declares (Bundle.initS "java/lang/Throwable"), .castable "java/lang/IllegalArgumentException" "java/lang/IllegalArgumentException"] : List Cond) := by decide +kernel
theorem rm_nb3 : ∀ w ∈ (vx_atS RX0 106 "java/lang/IllegalStateException" rm_RE).filter (fun w => !goodWord w), w ∈ ([.declares (Bundle.initS "java/lang/RuntimeException"), .declares (Bundle.initS "java/lang/Exception"), .declares (Bundle.initS "java/lang/Throwable"), .castable "java/lang/IllegalStateException" "java/lang/IllegalStateException"] : List Cond) := by decide +kernel

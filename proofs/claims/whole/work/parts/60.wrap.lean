/-! the law's wrappers: the mesh's world beside the cell for an answer; a call that may throw; the catches -/
def rl_A (a : Nat → Nat) (o sz : Nat) : Nat → Prop := fun q => rm_A a sz q ∨ q = o
abbrev rl_o (k : rm_K) (o : Nat) (f : Nat → Int64) : va_W := [(o, .inl (k.2.2.2.2, 1, .inr (.inl f)))]
def rl_P (k : rm_K) (a : Nat → Nat) (σ : rm_St) (o : Nat) (f : Nat → Int64) (U : State) : Prop := rm_P k a σ U ∧ va_P k.1 vwCl (rl_o k o f) U.heap
def rl_N (U : State) : Prop := va_Nc "java/lang/IllegalArgumentException" "java/lang/IndexOutOfBoundsException" U ∧ va_Nc "java/lang/IllegalStateException" "java/lang/IndexOutOfBoundsException" U
theorem rl_N.moved {u U : State} (hvm : u.vm.Alike U.vm) (h : rl_N u) : rl_N U := ⟨h.1.moved hvm, h.2.moved hvm⟩
def rl_Wd (k : rm_K) (a : Nat → Nat) (o : Nat) (A : Nat → Prop) (H0 : Heap) (s : State) (σ : rm_St) (f : Nat → Int64) (H : Heap) (locs : List Loc) : Prop :=
  va_K k.1 vwCl (rm_ty k) s ∧ va_P k.1 vwCl (rm_W k a σ) H ∧ va_P k.1 vwCl (rl_o k o f) H ∧ (rm_inj a ∧ (∀ j, j < 55 → A (a j)) ∧ A o ∧ ∀ j, j < 55 → a j ≠ o) ∧ va_S A H0 H locs
theorem rl_ofWH {l : Launch} {y : MethodName} {ws ws' : List Cond} {rm : Room} {Pc : Array Value → State → Prop} {Qc : Array Value → State → Outcome → State → Prop} {mc ms : Nat} {free : Addr → Prop} {cc : ByteArray} {maxL : Nat} {ret : Option FieldType} {hh : List (Nat × Nat × Nat × Nat)}
    (hy : plainName y.cls = true) (hw : ws = Cond.codeWith y cc maxL ret hh :: ws')
    (body : ∀ p e s m args below meth c s₁, BodyLoose p l y (headSpec ws rm) cc maxL ret e s m args below meth c s₁ → c.maxLocals = maxL → Pc args s →
      W p l e (headSpec ws rm).room s m args below meth c s.heap [] 0 0 (MQ below Qc args s mc ms free) (entryFrame m args maxL)) : Met l y ws rm Pc Qc mc ms free := by
  refine MetFree.of_bodyS (code := cc) (maxLocals := maxL) (ret := ret) hy ?_ ?_
  · intro args s m h hn
    obtain ⟨m9, meth, c, hn9, h1, h2, h3, h4, -, h5, h6, -⟩ := Cond.codeWith_spec (atoms_spec (ws := ws) h _ (by rw [hw]; exact List.mem_cons_self))
    cases hn.symm.trans hn9
    exact ⟨meth, c, h1, h2, h3, h4, h5, h6⟩
  · intro p e s m args below meth c s₁ B hml hP _
    have hh0 : s₁.heap = s.heap := by rw [B.state]; rfl
    obtain ⟨t, a1, o, b1, b2, b3⟩ := body p e s m args below meth c s₁ B hml hP s₁ hh0 (Stand.of_body B)
    exact ⟨t, o, a1, b1, b2, b3⟩
section RLW
variable {p : Program} {l : Launch} {e : Env} {R : Room} {s : State} {m : MethodId} {args : Array Value} {below : List Frame} {meth : Method} {c : Code} {H : Heap} {locs : List Loc} {cells slots mc ms : Nat} {Q : State → Prop}
variable {cc : ByteArray} {pc nL : Nat} {ls : Array Slot} {rest : List Value} {Ts : List Cond} {k : rm_K} {a : Nat → Nat} {o : Nat} {A : Nat → Prop} {H0 : Heap} {σ σ0 : rm_St} {f : Nat → Int64} {r0 v : Int32} {thr : Option String} {own : String}
theorem rl_sub (hw : rl_Wd k a o A H0 s σ f H locs) (hA : ∀ q, H0.size ≤ q → A q) : ∀ q, rm_A a H.size q → A q := fun q h => by
  rcases h with ⟨j, hj, rfl⟩ | h
  · exact hw.2.2.2.1.2.1 j hj
  · exact hA q (Nat.le_trans hw.2.2.2.2.1 h)
theorem rl_post {t : State} {H1 : Heap} {locs1 : List Loc} {τ : rm_St} (hw : rl_Wd k a o A H0 s σ f H locs) (ht : t.heap = H1) (hvm : s.vm.Alike t.vm) (hB : rm_P k a τ t) (hk : ∀ q : Nat, q < H.size → ¬ rm_A a H.size q → H1[q]? = H[q]?) (hS : va_S A H0 H1 locs1) : rl_Wd k a o A H0 s τ f H1 locs1 := by
  refine ⟨hw.1, by rw [← ht]; exact hB.1, hw.2.2.1.kept (fun i x hx => ?_), hw.2.2.2.1, hS⟩
  have hlt := (hw.2.2.1 i x hx).lt
  have hx0 : x.1 = o := by
    have h1 := (List.getElem?_eq_some_iff.mp hx).1
    have h0 : i = 0 := by simp at h1; omega
    subst h0
    cases hx
    rfl
  refine hk x.1 hlt (fun q => ?_)
  rcases q with ⟨j, hj, q⟩ | q
  · exact hw.2.2.2.1.2.2.2 j hj (q.symm.trans hx0)
  · omega
theorem rl_pre (hTh : rm_Th A s) (hA : ∀ q, s.heap.size ≤ q → A q) (hw : rl_Wd k a o A s.heap s σ f H locs) (av : List Value) : PreV s H RX0 (a 0) (va_Pc (.ref (a 0) :: av) (fun U => U.heap.size = H.size ∧ rm_P k a σ U ∧ rm_Th (rm_A a H.size) U)) av :=
  ⟨fun x U g mk q => by obtain ⟨q0, q1, ⟨q2, q3⟩, q4⟩ := q; exact ⟨q0, q1, ⟨q2, va_K.moved (u := U) (U := U.calling g mk x) (Vm.Alike.refl U.vm) q3⟩, q4.blind g mk x⟩,
    va_recv hw.1 hw.2.1 (ci := 0) (q0 := 0) (show vwCl[0]? = some (RX0, TX0, 20) from rfl) (rm_get (q := 0) (by decide)), fun U hU hW => ⟨rfl, by rw [hU], ⟨by rw [hU]; exact hw.2.1, va_K.moved hW.alike hw.1⟩, hTh.call hw.2.2.2.2 hU hW (rl_sub hw hA)⟩⟩
variable {y : MethodName} {bytes : ByteArray} {maxL index n : Nat} {ret : Option FieldType} {ws : List Cond} {rmm : Room} {As st0 : List Value}
theorem rl_callI (CF : CallFix p m c cc nL s args Ts own) (hTh : rm_Th A s) (hA : ∀ q, s.heap.size ≤ q → A q) (hw : rl_Wd k a o A s.heap s σ f H locs) (hM : rm_XI l k a y ws rmm As σ thr r0 σ0) (cw : CallW R s args own RX0 index y bytes maxL ret ws rmm rmm.cells rmm.slots n) (hn : As.length = n) (hsize : ls.size = nL) (hstack : st0 = As.reverse ++ .ref (a 0) :: rest)
    (hW : 2 * (F0 m pc ls st0).monitorRoom + (rest.map fun v => v.category).sum ≤ 8) (hdg : decode cc pc = .ok (.invokevirtual index, 3)) (hf : cells + rmm.cells ≤ R.cells ∧ slots + rmm.slots ≤ R.slots)
    (kx : ∀ (E : String) (ce : Cell) (q9 : Addr) (H1 : Heap) (locs1 : List Loc), thr = some E → rl_Wd k a o A s.heap s σ f H1 locs1 → H1[q9]? = some ce → ce.vm = .none → s.vm.findClass E = some ce.cls → vx_W p l e R s m args below meth c H1 locs1 (cells + rmm.cells) (slots + rmm.slots) Q (F0 m pc ls rest) q9)
    (kk : thr = none → ∀ (H1 : Heap) (locs1 : List Loc), rl_Wd k a o A s.heap s σ0 f H1 locs1 → W p l e R s m args below meth c H1 locs1 (cells + rmm.cells) (slots + rmm.slots) Q (F0 m (pc + 3) ls (.int r0 :: rest))) : W p l e R s m args below meth c H locs cells slots Q (F0 m pc ls st0) := by
  have hsub := rl_sub hw hA
  refine vx_calli (vx_runV (As := As) (rest := rest) CF (hM H.size) cw (rl_pre hTh hA hw As) rfl hn hsize hstack hW hdg hf) hw.2.2.2.2 (fun q _ h => hsub q h) hsub (fun q _ h => hsub q h) ?_ ?_
  · intro E ce q9 u t H1 locs1 ht hvm hp hB hz hk hS hce hcv hcl
    obtain rfl := hp
    exact kx E ce q9 H1 locs1 hB.1 (rl_post hw ht hvm hB.2 hk hS) hce hcv hcl
  · intro r u t H1 locs1 ht hvm hp hB hz hk hS
    obtain ⟨h1, rfl, rfl⟩ := hp
    exact kk h1 H1 locs1 (rl_post hw ht hvm hB hk hS)
theorem rl_callV (CF : CallFix p m c cc nL s args Ts own) (hTh : rm_Th A s) (hA : ∀ q, s.heap.size ≤ q → A q) (hw : rl_Wd k a o A s.heap s σ f H locs) (hM : rm_XV l k a y ws rmm As σ thr σ0) (cw : CallW R s args own RX0 index y bytes maxL ret ws rmm rmm.cells rmm.slots n) (hn : As.length = n) (hsize : ls.size = nL) (hstack : st0 = As.reverse ++ .ref (a 0) :: rest)
    (hW : 2 * (F0 m pc ls st0).monitorRoom + (rest.map fun v => v.category).sum ≤ 8) (hdg : decode cc pc = .ok (.invokevirtual index, 3)) (hf : cells + rmm.cells ≤ R.cells ∧ slots + rmm.slots ≤ R.slots)
    (kx : ∀ (E : String) (ce : Cell) (q9 : Addr) (H1 : Heap) (locs1 : List Loc), thr = some E → rl_Wd k a o A s.heap s σ f H1 locs1 → H1[q9]? = some ce → ce.vm = .none → s.vm.findClass E = some ce.cls → vx_W p l e R s m args below meth c H1 locs1 (cells + rmm.cells) (slots + rmm.slots) Q (F0 m pc ls rest) q9)
    (kk : thr = none → ∀ (H1 : Heap) (locs1 : List Loc), rl_Wd k a o A s.heap s σ0 f H1 locs1 → W p l e R s m args below meth c H1 locs1 (cells + rmm.cells) (slots + rmm.slots) Q (F0 m (pc + 3) ls rest)) : W p l e R s m args below meth c H locs cells slots Q (F0 m pc ls st0) := by
  have hsub := rl_sub hw hA
  refine vx_callv (vx_runV (As := As) (rest := rest) CF (hM H.size) cw (rl_pre hTh hA hw As) rfl hn hsize hstack hW hdg hf) hw.2.2.2.2 (fun q _ h => hsub q h) hsub (fun q _ h => hsub q h) ?_ ?_
  · intro E ce q9 u t H1 locs1 ht hvm hp hB hz hk hS hce hcv hcl
    obtain rfl := hp
    exact kx E ce q9 H1 locs1 hB.1 (rl_post hw ht hvm hB.2 hk hS) hce hcv hcl
  · intro u t H1 locs1 ht hvm hp hB hz hk hS
    obtain ⟨h1, rfl⟩ := hp
    exact kk h1 H1 locs1 (rl_post hw ht hvm hB hk hS)
theorem rm_Wlen : (rm_W k a σ).length = 55 := by simp [rm_W]
theorem rl_D (h : rm_inj a ∧ (∀ j, j < 55 → A (a j)) ∧ A o ∧ ∀ j, j < 55 → a j ≠ o) : va_D A (rm_W k a σ ++ rl_o k o f) := by
  refine (rm_D h.1 h.2.1).app ⟨fun i j x y hi hj _ => ?_, fun i x hx => ?_⟩ (fun i j x y hi hj hxy => ?_)
  · have h1 := (List.getElem?_eq_some_iff.mp hi).1
    have h2 := (List.getElem?_eq_some_iff.mp hj).1
    simp at h1 h2
    omega
  · have h1 := (List.getElem?_eq_some_iff.mp hx).1
    have h0 : i = 0 := by simp at h1; omega
    subst h0
    cases hx
    exact h.2.2.1
  · obtain ⟨hi5, rfl⟩ := rm_get_of hi
    have h1 := (List.getElem?_eq_some_iff.mp hj).1
    have h0 : j = 0 := by simp at h1; omega
    subst h0
    cases hj
    exact h.2.2.2 i hi5 hxy
/-- out[0] = v -/
theorem rl_last (CF : CallFix p m c cc nL s args Ts own) (hw : rl_Wd k a o A H0 s σ f H locs) {x : Int64} (hdg : decode cc pc = .ok (.lastore, 1))
    (kk : ∀ (H1 : Heap) (locs1 : List Loc), rl_Wd k a o A H0 s σ (vp_updL f 0 x) H1 locs1 → W p l e R s m args below meth c H1 locs1 cells slots Q (F0 m (pc + 1) ls rest)) : W p l e R s m args below meth c H locs cells slots Q (F0 m pc ls (.long x :: .int 0 :: .ref o :: rest)) := by
  have hat : (rm_W k a σ ++ rl_o k o f)[55]? = some (o, .inl (k.2.2.2.2, 1, .inr (.inl f))) := by
    rw [List.getElem?_append_right (by rw [rm_Wlen]; exact Nat.le_refl _), rm_Wlen]
    rfl
  refine va_last CF.1 CF.2.1 hw.1 (hw.2.1.app hw.2.2.1) (rl_D hw.2.2.2.1) hw.2.2.2.2 55 3 (n := 1) (f := f) hat rfl (i := 0) (vp_in_nI (n := 0) (by decide) (by decide)) hdg (fun H1 locs1 hP hD hS => ?_)
  have hset : (rm_W k a σ ++ rl_o k o f).set 55 (o, .inl (k.2.2.2.2, 1, .inr (.inl (vp_updL f (0 : Int32).toNatClampNeg x)))) = rm_W k a σ ++ rl_o k o (vp_updL f 0 x) := by
    rw [List.set_append_right _ _ (by rw [rm_Wlen]; exact Nat.le_refl _), rm_Wlen]
    rfl
  rw [hset] at hP
  refine kk H1 locs1 ⟨hw.1, fun i x hx => ?_, fun i x hx => ?_, hw.2.2.2.1, hS⟩
  · have hi : i < 55 := (rm_get_of hx).1
    exact hP i x (by rw [List.getElem?_append_left (by rw [rm_Wlen]; exact hi)]; exact hx)
  · exact hP (55 + i) x (by rw [List.getElem?_append_right (by rw [rm_Wlen]; omega), rm_Wlen, Nat.add_sub_cancel_left]; exact hx)
theorem rl_end {t : State} (hw : rl_Wd k a o (rl_A a o s.heap.size) s.heap s σ f H locs) (ht : t.heap = H) (hW : s.WarmedH t.vm) : rl_P k a σ o f t ∧ va_F (rl_A a o s.heap.size) s t :=
  ⟨⟨⟨by rw [ht]; exact hw.2.1, va_K.moved hW.alike hw.1⟩, by rw [ht]; exact hw.2.2.1⟩, hw.2.2.2.2.F ht⟩
theorem rl_iret {C0 : Int32} {u1 : rm_St × (Nat → Int64)} (CF : CallFix p m c cc nL s args Ts own) (hr : meth.sig.returnType = some .int) (hlocks : meth.locks = false) (hw : rl_Wd k a o (rl_A a o s.heap.size) s.heap s σ f H locs) (hc : cells ≤ mc) (hs : slots ≤ ms) (hdg : decode cc pc = .ok (.ireturn, 1)) (h : v = C0 ∧ (σ, f) = u1) :
    W p l e R s m args below meth c H locs cells slots (MQ below (va_Qi (fun (r : Int32) (u : rm_St × (Nat → Int64)) => r = C0 ∧ u = u1) (fun u t => rl_P k a u.1 o u.2 t) (rl_A a o s.heap.size)) args s mc ms (rl_A a o s.heap.size)) (F0 m pc ls [.int v]) :=
  W.widen (k := mc) (n := ms) hc hs (W.iret (v := v) CF.1 CF.2.1 hr (fun t ht hW => ⟨⟨v, (σ, f), rfl, h, (rl_end hw ht hW).1⟩, (rl_end hw ht hW).2⟩) hw.2.2.2.2.2.2 hdg hlocks)
end RLW

/-! the model's world: one object and 14 arrays -/
def rn_len (q : Nat) : Nat := if q = 1 ∨ (11 ≤ q ∧ q ≤ 13) then 100 else 10
def rn_F (a : Nat → Nat) (σ : rm_St) : List Value := [.int (σ 0 0), .int (σ 0 1), .int (σ 0 2), .int (σ 0 3), .int (σ 0 4), .ref (a 1), .ref (a 2), .ref (a 3), .ref (a 4), .ref (a 5), .ref (a 6), .ref (a 7), .ref (a 8), .ref (a 9), .ref (a 10), .ref (a 11), .ref (a 12), .ref (a 13), .ref (a 14), .int (σ 0 19), .int (σ 0 20)]
def rn_E (k : rm_K) (a : Nat → Nat) (σ : rm_St) (q : Nat) : va_E :=
  if q = 0 then .inr (1, rn_F a σ)
  else if q = 2 then .inl (k.2.2.1, 10, .inl (σ q))
  else .inl (k.2.1, rn_len q, .inl (σ q))
def rn_W (k : rm_K) (a : Nat → Nat) (σ : rm_St) : va_W := (List.range 15).map (fun q => (a q, rn_E k a σ q))
theorem rn_get {k : rm_K} {a : Nat → Nat} {σ : rm_St} {q : Nat} (hq : q < 15) : (rn_W k a σ)[q]? = some (a q, rn_E k a σ q) := by simp [rn_W, hq]
theorem rn_get_of {k : rm_K} {a : Nat → Nat} {σ : rm_St} {j : Nat} {x : Nat × va_E} (h : (rn_W k a σ)[j]? = some x) : j < 15 ∧ x = (a j, rn_E k a σ j) := by
  have hj : j < 15 := by
    have := (List.getElem?_eq_some_iff.mp h).1
    simpa [rn_W] using this
  rw [rn_get hj] at h
  exact ⟨hj, (Option.some.inj h).symm⟩
theorem rn_E0 {k : rm_K} {a : Nat → Nat} {σ : rm_St} : rn_E k a σ 0 = .inr (1, rn_F a σ) := rfl
theorem rn_E2 {k : rm_K} {a : Nat → Nat} {σ : rm_St} : rn_E k a σ 2 = .inl (k.2.2.1, 10, .inl (σ 2)) := rfl
theorem rn_Er {k : rm_K} {a : Nat → Nat} {σ : rm_St} {q N : Nat} (h : q ≠ 0 ∧ q ≠ 2) (hN : rn_len q = N) : rn_E k a σ q = .inl (k.2.1, N, .inl (σ q)) := by
  subst hN
  unfold rn_E
  rw [if_neg h.1, if_neg h.2]
theorem rn_E_ne {k : rm_K} {a : Nat → Nat} {σ : rm_St} {q j r : Nat} {v : Int32} (h : r ≠ q) : rn_E k a (rm_up σ q j v) r = rn_E k a σ r := by
  unfold rn_E
  by_cases h0 : r = 0
  · subst h0
    rw [if_pos rfl, if_pos rfl]
    unfold rn_F
    rw [rm_up_row_ne h]
  · rw [if_neg h0, if_neg h0, rm_up_row_ne h]
theorem rn_set {k : rm_K} {a : Nat → Nat} {σ : rm_St} {q j : Nat} {v : Int32} {e : va_E} (hq : q < 15) (he : rn_E k a (rm_up σ q j v) q = e) : (rn_W k a σ).set q (a q, e) = rn_W k a (rm_up σ q j v) := by
  apply List.ext_getElem?
  intro i
  by_cases hi : i = q
  · subst hi
    rw [List.getElem?_set_self (by simp [rn_W, hq]), rn_get hq, he]
  · rw [List.getElem?_set_ne (Ne.symm hi)]
    by_cases hl : i < 15
    · rw [rn_get hl, rn_get hl, rn_E_ne hi]
    · rw [List.getElem?_eq_none (by simp [rn_W]; omega), List.getElem?_eq_none (by simp [rn_W]; omega)]
def rn_inj (a : Nat → Nat) : Prop := ∀ i j, i < 15 → j < 15 → a i = a j → i = j
def rn_A (a : Nat → Nat) (sz : Nat) : Nat → Prop := fun q => (∃ j, j < 15 ∧ q = a j) ∨ sz ≤ q
def rn_P (k : rm_K) (a : Nat → Nat) (σ : rm_St) (U : State) : Prop := va_P k.1 vwCl (rn_W k a σ) U.heap ∧ va_K k.1 vwCl (rm_ty k) U
theorem rn_D {k : rm_K} {a : Nat → Nat} {σ : rm_St} {A : Nat → Prop} (h : rn_inj a) (hA : ∀ j, j < 15 → A (a j)) : va_D A (rn_W k a σ) := by
  refine ⟨fun i j x y hi hj hxy => ?_, fun q x hq => ?_⟩
  · obtain ⟨h1, e1⟩ := rn_get_of hi
    obtain ⟨h2, e2⟩ := rn_get_of hj
    rw [e1, e2] at hxy
    exact h i j h1 h2 hxy
  · obtain ⟨h1, e1⟩ := rn_get_of hq
    rw [e1]
    exact hA q h1
theorem rn_D_inj {k : rm_K} {a : Nat → Nat} {σ : rm_St} {A : Nat → Prop} (h : va_D A (rn_W k a σ)) : rn_inj a := fun i j hi hj e => h.1 i j _ _ (rn_get hi) (rn_get hj) e
theorem rn_D_A {k : rm_K} {a : Nat → Nat} {σ : rm_St} {A : Nat → Prop} (h : va_D A (rn_W k a σ)) : ∀ j, j < 15 → A (a j) := fun j hj => h.2 j _ (rn_get hj)
/-- the world of a walk: the classes, the cells, apart and among those that may change, and what has changed so far -/
def rn_Wd (k : rm_K) (a : Nat → Nat) (A : Nat → Prop) (H0 : Heap) (s : State) (σ : rm_St) (H : Heap) (locs : List Loc) : Prop :=
  va_K k.1 vwCl (rm_ty k) s ∧ va_P k.1 vwCl (rn_W k a σ) H ∧ va_D A (rn_W k a σ) ∧ va_S A H0 H locs
section RNR
variable {p : Program} {l : Launch} {e : Env} {R : Room} {s : State} {m : MethodId} {args : Array Value} {below : List Frame} {meth : Method} {c : Code} {H : Heap} {locs : List Loc} {cells slots : Nat} {Q : State → Prop}
variable {cc : ByteArray} {pc nL : Nat} {ls : Array Slot} {rest : List Value} {Ts : List Cond} {own : String} {k : rm_K} {a : Nat → Nat} {A : Nat → Prop} {H0 : Heap} {σ : rm_St}
abbrev rn_C (p : Program) (m : MethodId) (c : Code) (cc : ByteArray) (nL : Nat) (s : State) (args : Array Value) (Ts : List Cond) : Prop := CallFix p m c cc nL s args Ts RX1 ∧ ∀ w ∈ u_ws RX1 TX1 21, w ∈ Ts
theorem rn_iald (C : rn_C p m c cc nL s args Ts) (hw : rn_Wd k a A H0 s σ H locs) {q N i : Nat} (hq : q ≠ 0 ∧ q ≠ 2 ∧ q < 15 ∧ rn_len q = N) (hi : i < N) (hN : N ≤ 100) (hdg : decode cc pc = .ok (.iaload, 1))
    (kk : W p l e R s m args below meth c H locs cells slots Q (F0 m (pc + 1) ls (.int (σ q i) :: rest))) : W p l e R s m args below meth c H locs cells slots Q (F0 m pc ls (.int (nI i) :: .ref (a q) :: rest)) := by
  have hc : (nI i).toNatClampNeg = i := nI_clamp (by omega)
  refine va_iald C.1.1 C.1.2.1 hw.1 hw.2.1 q 0 (n := N) (f := σ q) (cA := k.2.1) (by rw [rn_get hq.2.2.1, rn_Er ⟨hq.1, hq.2.1⟩ hq.2.2.2]) rfl (vp_in_nI hi (by omega)) hdg ?_
  rw [hc]
  exact kk
theorem rn_zald (C : rn_C p m c cc nL s args Ts) (hw : rn_Wd k a A H0 s σ H locs) {i : Nat} (hi : i < 10) (hdg : decode cc pc = .ok (.baload, 1))
    (kk : W p l e R s m args below meth c H locs cells slots Q (F0 m (pc + 1) ls (.int (σ 2 i) :: rest))) : W p l e R s m args below meth c H locs cells slots Q (F0 m pc ls (.int (nI i) :: .ref (a 2) :: rest)) := by
  have hc : (nI i).toNatClampNeg = i := nI_clamp (by omega)
  refine va_zald C.1.1 C.1.2.1 hw.1 hw.2.1 2 1 (n := 10) (f := σ 2) (cA := k.2.2.1) (by rw [rn_get (by decide), rn_E2]) rfl (vp_in_nI hi (by decide)) hdg ?_
  rw [hc]
  exact kk
theorem rn_iast (C : rn_C p m c cc nL s args Ts) (hw : rn_Wd k a A H0 s σ H locs) {q N i : Nat} {x : Int32} (hq : q ≠ 0 ∧ q ≠ 2 ∧ q < 15 ∧ rn_len q = N) (hi : i < N) (hN : N ≤ 100) (hdg : decode cc pc = .ok (.iastore, 1))
    (kk : ∀ (H1 : Heap) (locs1 : List Loc), rn_Wd k a A H0 s (rm_up σ q i x) H1 locs1 → W p l e R s m args below meth c H1 locs1 cells slots Q (F0 m (pc + 1) ls rest)) : W p l e R s m args below meth c H locs cells slots Q (F0 m pc ls (.int x :: .int (nI i) :: .ref (a q) :: rest)) := by
  have hc : (nI i).toNatClampNeg = i := nI_clamp (by omega)
  refine va_iast C.1.1 C.1.2.1 hw.1 hw.2.1 hw.2.2.1 hw.2.2.2 q 0 (n := N) (f := σ q) (cA := k.2.1) (by rw [rn_get hq.2.2.1, rn_Er ⟨hq.1, hq.2.1⟩ hq.2.2.2]) rfl (vp_in_nI hi (by omega)) hdg (fun H1 locs1 hP hD hS => ?_)
  rw [hc, rn_set (j := i) (v := x) hq.2.2.1 (by rw [rn_Er ⟨hq.1, hq.2.1⟩ hq.2.2.2, rm_up_row])] at hP hD
  exact kk H1 locs1 ⟨hw.1, hP, hD, hS⟩
theorem rn_zast (C : rn_C p m c cc nL s args Ts) (hw : rn_Wd k a A H0 s σ H locs) {i : Nat} {x : Int32} (hi : i < 10) (hx : vp_nar .boolean x = x) (hdg : decode cc pc = .ok (.bastore, 1))
    (kk : ∀ (H1 : Heap) (locs1 : List Loc), rn_Wd k a A H0 s (rm_up σ 2 i x) H1 locs1 → W p l e R s m args below meth c H1 locs1 cells slots Q (F0 m (pc + 1) ls rest)) : W p l e R s m args below meth c H locs cells slots Q (F0 m pc ls (.int x :: .int (nI i) :: .ref (a 2) :: rest)) := by
  have hc : (nI i).toNatClampNeg = i := nI_clamp (by omega)
  refine va_zast C.1.1 C.1.2.1 hw.1 hw.2.1 hw.2.2.1 hw.2.2.2 2 1 (n := 10) (f := σ 2) (cA := k.2.2.1) (by rw [rn_get (by decide), rn_E2]) rfl (vp_in_nI hi (by decide)) hdg (fun H1 locs1 hP hD hS => ?_)
  rw [hc, hx, rn_set (j := i) (v := x) (by decide) (by rw [rn_E2, rm_up_row])] at hP hD
  exact kk H1 locs1 ⟨hw.1, hP, hD, hS⟩
theorem rn_F_i {j : Nat} (hj : j < 5 ∨ (18 < j ∧ j < 21)) : (rn_F a σ)[j]? = some (.int (σ 0 j)) := by
  rcases (show j = 0 ∨ j = 1 ∨ j = 2 ∨ j = 3 ∨ j = 4 ∨ j = 19 ∨ j = 20 by omega) with rfl | rfl | rfl | rfl | rfl | rfl | rfl <;> rfl
theorem rn_F_set {j : Nat} (hj : j < 5 ∨ (18 < j ∧ j < 21)) {v : Int32} : rn_F a (rm_up σ 0 j v) = (rn_F a σ).set j (.int v) := by
  rcases (show j = 0 ∨ j = 1 ∨ j = 2 ∨ j = 3 ∨ j = 4 ∨ j = 19 ∨ j = 20 by omega) with rfl | rfl | rfl | rfl | rfl | rfl | rfl <;> simp [rn_F, rm_up]
theorem rn_geti (C : rn_C p m c cc nL s args Ts) (hw : rn_Wd k a A H0 s σ H locs) (j : Nat) (hj : j < 5 ∨ (18 < j ∧ j < 21)) {index : Nat} (hl : (Cond.fieldLink RX1 index "RankMeshModel" (TX1 j).2.1 (TX1 j).2.2.1).before args s = true) (hsame : (TX1 j).1 = "RankMeshModel") (hdg : decode cc pc = .ok (.getfield index, 3))
    (kk : W p l e R s m args below meth c H locs cells slots Q (F0 m (pc + 3) ls (.int (σ 0 j) :: rest))) : W p l e R s m args below meth c H locs cells slots Q (F0 m pc ls (.ref (a 0) :: rest)) :=
  va_get (D := k.1) (ci := 1) (v := .int (σ 0 j)) (C := RX1) (T := TX1) (N := 21) C.1.1 C.1.2.1 C.1.2.2.2.2 C.2 C.1.2.2.2.1 hw.1 hw.2.1 0 (rn_get (by decide)) rfl j (by omega) hl (fun _ h9 => by rw [hsame] at h9; exact h9) (rn_F_i hj) hdg kk
theorem rn_geta (C : rn_C p m c cc nL s args Ts) (hw : rn_Wd k a A H0 s σ H locs) (f q : Nat) (hf : f < 21) (hv : (rn_F a σ)[f]? = some (.ref (a q))) {index : Nat} (hl : (Cond.fieldLink RX1 index "RankMeshModel" (TX1 f).2.1 (TX1 f).2.2.1).before args s = true) (hsame : (TX1 f).1 = "RankMeshModel") (hdg : decode cc pc = .ok (.getfield index, 3))
    (kk : W p l e R s m args below meth c H locs cells slots Q (F0 m (pc + 3) ls (.ref (a q) :: rest))) : W p l e R s m args below meth c H locs cells slots Q (F0 m pc ls (.ref (a 0) :: rest)) :=
  va_get (D := k.1) (ci := 1) (v := .ref (a q)) (C := RX1) (T := TX1) (N := 21) C.1.1 C.1.2.1 C.1.2.2.2.2 C.2 C.1.2.2.2.1 hw.1 hw.2.1 0 (rn_get (by decide)) rfl f hf hl (fun _ h9 => by rw [hsame] at h9; exact h9) hv hdg kk
theorem rn_puti (C : rn_C p m c cc nL s args Ts) (hw : rn_Wd k a A H0 s σ H locs) (j : Nat) (hj : j < 5 ∨ (18 < j ∧ j < 21)) {x : Int32} {index : Nat} (hl : (Cond.fieldLink RX1 index "RankMeshModel" (TX1 j).2.1 (TX1 j).2.2.1).before args s = true) (hsame : (TX1 j).1 = "RankMeshModel") (hfin : (TX1 j).2.2.2 = false) (hd : parseFieldDescriptor (TX1 j).2.2.1 = some .int) (hdg : decode cc pc = .ok (.putfield index, 3))
    (kk : ∀ (H1 : Heap) (locs1 : List Loc), rn_Wd k a A H0 s (rm_up σ 0 j x) H1 locs1 → W p l e R s m args below meth c H1 locs1 cells slots Q (F0 m (pc + 3) ls rest)) : W p l e R s m args below meth c H locs cells slots Q (F0 m pc ls (.int x :: .ref (a 0) :: rest)) := by
  refine va_put (D := k.1) (ci := 1) (v := .int x) (ty := .int) (C := RX1) (T := TX1) (N := 21) (fs := rn_F a σ) C.1.1 C.1.2.1 C.1.2.2.2.2 C.2 tyX1 tyX1_ok nmX1 C.1.2.2.2.1 hw.1 hw.2.1 hw.2.2.1 hw.2.2.2 0 (rn_get (by decide)) rfl j (by omega) hl (fun _ h9 => by rw [hsame] at h9; exact h9) hfin hd rfl rfl (by show j < 21; omega) hdg (fun H1 locs1 hP hD hS => ?_)
  rw [rn_set (j := j) (v := x) (by decide) (by rw [rn_E0, rn_F_set hj])] at hP hD
  exact kk H1 locs1 ⟨hw.1, hP, hD, hS⟩
end RNR
/-- contracts: an int, nothing -/
def rn_MI (l : Launch) (k : rm_K) (a : Nat → Nat) (y : MethodName) (ws : List Cond) (rmm : Room) (As : List Value) (σ : rm_St) (r0 : Int32) (σ0 : rm_St) : Prop :=
  ∀ sz : Nat, Met l y ws rmm (va_Pc (.ref (a 0) :: As) (fun U => U.heap.size = sz ∧ rn_P k a σ U)) (va_Qi (fun (r : Int32) (τ : rm_St) => r = r0 ∧ τ = σ0) (fun τ t => rn_P k a τ t) (rn_A a sz)) 0 0 (rn_A a sz)
def rn_MV (l : Launch) (k : rm_K) (a : Nat → Nat) (y : MethodName) (ws : List Cond) (rmm : Room) (As : List Value) (σ : rm_St) (σ0 : rm_St) : Prop :=
  ∀ sz : Nat, Met l y ws rmm (va_Pc (.ref (a 0) :: As) (fun U => U.heap.size = sz ∧ rn_P k a σ U)) (va_Qv (fun (τ : rm_St) => τ = σ0) (fun τ t => rn_P k a τ t) (rn_A a sz)) 0 0 (rn_A a sz)
section RNE
variable {l : Launch} {k : rm_K} {a : Nat → Nat} {y : MethodName} {ws ws' : List Cond} {rmm : Room} {As : List Value} {σ σ0 σ' : rm_St} {r0 : Int32} {cc : ByteArray} {nL : Nat} {ret : Option FieldType}
theorem rn_start {s : State} (ha : rn_inj a) (h : rn_P k a σ s) : rn_Wd k a (rn_A a s.heap.size) s.heap s σ s.heap [] :=
  ⟨h.2, h.1, rn_D ha (fun j hj => Or.inl ⟨j, hj, rfl⟩), va_S.rf⟩
theorem rn_enterI (ha : rn_inj a) (hy : plainName y.cls = true) (hcls : y.cls = RX1) (hw : ws = Cond.code y cc nL ret :: ws') (hin : ∀ w ∈ u_ws RX1 TX1 21, w ∈ ws) (hn : (lg_sl (.ref (a 0) :: As)).length ≤ nL)
    (body : ∀ (p : Program) (e : Env) (s : State) (m : MethodId) (args : Array Value) (below : List Frame) (meth : Method) (c : Code) (ls : Array Slot), rn_C p m c cc nL s args ws → meth.sig.returnType = ret → meth.locks = false → rn_Wd k a (rn_A a s.heap.size) s.heap s σ s.heap [] → lv_has ls nL (lv_args 0 (.ref (a 0) :: As)) →
      W p l e (headSpec ws rmm).room s m args below meth c s.heap [] 0 0 (MQ below (va_Qi (fun (r : Int32) (τ : rm_St) => r = r0 ∧ τ = σ0) (fun τ t => rn_P k a τ t) (rn_A a s.heap.size)) args s 0 0 (rn_A a s.heap.size)) (F0 m 0 ls [])) : rn_MI l k a y ws rmm As σ r0 σ0 := by
  intro sz
  refine Met.ofW (cc := cc) (maxL := nL) (ret := ret) hy hw ?_
  intro p e s m args below meth c s₁ B hml hv
  obtain ⟨rfl, hsz, hP⟩ := hv
  have hown : s.vm.findClass RX1 = some m.cls := hcls ▸ findClass_of_methodNamed B.named
  subst hsz
  have hl := lv_entry (.ref (a 0) :: As) (n := nL) hn
  rw [lg_entry_eq]
  exact body p e s m _ below meth c _ ⟨⟨B.exec, B.bytes, hml, hown, atoms_spec (ws := ws) B.pre⟩, hin⟩ B.returns B.notSynchronized (rn_start ha hP) hl
theorem rn_enterV (ha : rn_inj a) (hy : plainName y.cls = true) (hcls : y.cls = RX1) (hw : ws = Cond.code y cc nL ret :: ws') (hin : ∀ w ∈ u_ws RX1 TX1 21, w ∈ ws) (hn : (lg_sl (.ref (a 0) :: As)).length ≤ nL)
    (body : ∀ (p : Program) (e : Env) (s : State) (m : MethodId) (args : Array Value) (below : List Frame) (meth : Method) (c : Code) (ls : Array Slot), rn_C p m c cc nL s args ws → meth.sig.returnType = ret → meth.locks = false → rn_Wd k a (rn_A a s.heap.size) s.heap s σ s.heap [] → lv_has ls nL (lv_args 0 (.ref (a 0) :: As)) →
      W p l e (headSpec ws rmm).room s m args below meth c s.heap [] 0 0 (MQ below (va_Qv (fun (τ : rm_St) => τ = σ0) (fun τ t => rn_P k a τ t) (rn_A a s.heap.size)) args s 0 0 (rn_A a s.heap.size)) (F0 m 0 ls [])) : rn_MV l k a y ws rmm As σ σ0 := by
  intro sz
  refine Met.ofW (cc := cc) (maxL := nL) (ret := ret) hy hw ?_
  intro p e s m args below meth c s₁ B hml hv
  obtain ⟨rfl, hsz, hP⟩ := hv
  have hown : s.vm.findClass RX1 = some m.cls := hcls ▸ findClass_of_methodNamed B.named
  subst hsz
  have hl := lv_entry (.ref (a 0) :: As) (n := nL) hn
  rw [lg_entry_eq]
  exact body p e s m _ below meth c _ ⟨⟨B.exec, B.bytes, hml, hown, atoms_spec (ws := ws) B.pre⟩, hin⟩ B.returns B.notSynchronized (rn_start ha hP) hl
end RNE
section RNQ
variable {p : Program} {l : Launch} {e : Env} {R : Room} {s : State} {m : MethodId} {args : Array Value} {below : List Frame} {meth : Method} {c : Code} {H : Heap} {locs : List Loc} {cells slots : Nat} {Q : State → Prop}
variable {cc : ByteArray} {pc nL : Nat} {ls : Array Slot} {rest : List Value} {Ts : List Cond} {k : rm_K} {a : Nat → Nat} {A : Nat → Prop} {H0 : Heap} {σ σ0 : rm_St} {r0 v : Int32}
theorem rn_end {t : State} (hw : rn_Wd k a (rn_A a s.heap.size) s.heap s σ H locs) (ht : t.heap = H) (hW : s.WarmedH t.vm) : rn_P k a σ t ∧ va_F (rn_A a s.heap.size) s t :=
  ⟨⟨by rw [ht]; exact hw.2.1, va_K.moved hW.alike hw.1⟩, hw.2.2.2.F ht⟩
theorem rn_iret (C : rn_C p m c cc nL s args Ts) (hr : meth.sig.returnType = some .int) (hlocks : meth.locks = false) (hw : rn_Wd k a (rn_A a s.heap.size) s.heap s σ H locs) (hdg : decode cc pc = .ok (.ireturn, 1)) (h : v = r0 ∧ σ = σ0) :
    W p l e R s m args below meth c H locs cells slots (MQ below (va_Qi (fun (r : Int32) (τ : rm_St) => r = r0 ∧ τ = σ0) (fun τ t => rn_P k a τ t) (rn_A a s.heap.size)) args s cells slots (rn_A a s.heap.size)) (F0 m pc ls [.int v]) :=
  W.iret (v := v) C.1.1 C.1.2.1 hr (fun t ht hW => ⟨⟨v, σ, rfl, h, (rn_end hw ht hW).1⟩, (rn_end hw ht hW).2⟩) hw.2.2.2.2.2 hdg hlocks
theorem rn_zret (C : rn_C p m c cc nL s args Ts) (hr : meth.sig.returnType = some .boolean) (hlocks : meth.locks = false) (hw : rn_Wd k a (rn_A a s.heap.size) s.heap s σ H locs) (hn : narrow .boolean (.int v) = .int v) (hdg : decode cc pc = .ok (.ireturn, 1)) (h : v = r0 ∧ σ = σ0) :
    W p l e R s m args below meth c H locs cells slots (MQ below (va_Qi (fun (r : Int32) (τ : rm_St) => r = r0 ∧ τ = σ0) (fun τ t => rn_P k a τ t) (rn_A a s.heap.size)) args s cells slots (rn_A a s.heap.size)) (F0 m pc ls [.int v]) :=
  W.zret (v := v) C.1.1 C.1.2.1 hr hn (fun t ht hW => ⟨⟨v, σ, rfl, h, (rn_end hw ht hW).1⟩, (rn_end hw ht hW).2⟩) hw.2.2.2.2.2 hdg hlocks
theorem rn_vret (C : rn_C p m c cc nL s args Ts) (hr : meth.sig.returnType = none) (hlocks : meth.locks = false) (hw : rn_Wd k a (rn_A a s.heap.size) s.heap s σ H locs) (hdg : decode cc pc = .ok (.return_, 1)) (h : σ = σ0) :
    W p l e R s m args below meth c H locs cells slots (MQ below (va_Qv (fun (τ : rm_St) => τ = σ0) (fun τ t => rn_P k a τ t) (rn_A a s.heap.size)) args s cells slots (rn_A a s.heap.size)) (F0 m pc ls []) :=
  W.vret C.1.1 C.1.2.1 hr (fun t ht hW => ⟨⟨σ, rfl, h, (rn_end hw ht hW).1⟩, (rn_end hw ht hW).2⟩) hw.2.2.2.2.2 hdg hlocks
/-- what a call needs of the caller's world, and what it leaves -/
theorem rn_pre (hw : rn_Wd k a A H0 s σ H locs) (av : List Value) : PreV s H RX1 (a 0) (va_Pc (.ref (a 0) :: av) (fun U => U.heap.size = H.size ∧ rn_P k a σ U)) av :=
  ⟨fun x U g mk q => by obtain ⟨q0, q1, q2, q3⟩ := q; exact ⟨q0, q1, q2, va_K.moved (u := U) (U := U.calling g mk x) (Vm.Alike.refl U.vm) q3⟩,
    va_recv hw.1 hw.2.1 (ci := 1) (q0 := 0) (show vwCl[1]? = some (RX1, TX1, 21) from rfl) (rn_get (q := 0) (by decide)), fun U hU hW => ⟨rfl, by rw [hU], by rw [hU]; exact hw.2.1, va_K.moved hW.alike hw.1⟩⟩
theorem rn_sub (hw : rn_Wd k a A H0 s σ H locs) (hA : ∀ q, H0.size ≤ q → A q) : ∀ q, rn_A a H.size q → A q := fun q h => by
  rcases h with ⟨j, hj, rfl⟩ | h
  · exact rn_D_A hw.2.2.1 j hj
  · exact hA q (Nat.le_trans hw.2.2.2.1 h)
theorem rn_post {t : State} {H1 : Heap} {locs1 : List Loc} {τ : rm_St} (hw : rn_Wd k a A H0 s σ H locs) (ht : t.heap = H1) (hvm : s.vm.Alike t.vm) (hB : rn_P k a τ t) (hS : va_S A H0 H1 locs1) : rn_Wd k a A H0 s τ H1 locs1 :=
  ⟨va_K.moved hvm.symm hB.2, by rw [← ht]; exact hB.1, rn_D (rn_D_inj hw.2.2.1) (rn_D_A hw.2.2.1), hS⟩
variable {y : MethodName} {bytes : ByteArray} {maxL index n : Nat} {ret : Option FieldType} {ws : List Cond} {rmm : Room} {As st0 : List Value}
theorem rn_callI (C : rn_C p m c cc nL s args Ts) (hw : rn_Wd k a A H0 s σ H locs) (hA : ∀ q, H0.size ≤ q → A q) (hM : rn_MI l k a y ws rmm As σ r0 σ0) (cw : CallW R s args RX1 RX1 index y bytes maxL ret ws rmm 0 0 n) (hn : As.length = n) (hsize : ls.size = nL) (hstack : st0 = As.reverse ++ .ref (a 0) :: rest)
    (hW : 2 * (F0 m pc ls st0).monitorRoom + (rest.map fun v => v.category).sum ≤ 8) (hdg : decode cc pc = .ok (.invokevirtual index, 3)) (hf : cells ≤ R.cells ∧ slots ≤ R.slots)
    (kk : ∀ (H1 : Heap) (locs1 : List Loc), rn_Wd k a A H0 s σ0 H1 locs1 → W p l e R s m args below meth c H1 locs1 cells slots Q (F0 m (pc + 3) ls (.int r0 :: rest))) : W p l e R s m args below meth c H locs cells slots Q (F0 m pc ls st0) := by
  refine va_calli (va_runV (As := As) (rest := rest) C.1 (hM H.size) cw (rn_pre hw As) rfl hn hsize hstack hW hdg hf) hw.2.2.2 (fun q _ h => rn_sub hw hA q h) (fun q h => rn_sub hw hA q h) (fun r u t H1 locs1 ht hvm hp hB hz1 hk1 hS => ?_)
  obtain ⟨rfl, rfl⟩ := hp
  exact kk H1 locs1 (rn_post hw ht hvm hB hS)
theorem rn_callV (C : rn_C p m c cc nL s args Ts) (hw : rn_Wd k a A H0 s σ H locs) (hA : ∀ q, H0.size ≤ q → A q) (hM : rn_MV l k a y ws rmm As σ σ0) (cw : CallW R s args RX1 RX1 index y bytes maxL ret ws rmm 0 0 n) (hn : As.length = n) (hsize : ls.size = nL) (hstack : st0 = As.reverse ++ .ref (a 0) :: rest)
    (hW : 2 * (F0 m pc ls st0).monitorRoom + (rest.map fun v => v.category).sum ≤ 8) (hdg : decode cc pc = .ok (.invokevirtual index, 3)) (hf : cells ≤ R.cells ∧ slots ≤ R.slots)
    (kk : ∀ (H1 : Heap) (locs1 : List Loc), rn_Wd k a A H0 s σ0 H1 locs1 → W p l e R s m args below meth c H1 locs1 cells slots Q (F0 m (pc + 3) ls rest)) : W p l e R s m args below meth c H locs cells slots Q (F0 m pc ls st0) := by
  refine va_callv (va_runV (As := As) (rest := rest) C.1 (hM H.size) cw (rn_pre hw As) rfl hn hsize hstack hW hdg hf) hw.2.2.2 (fun q _ h => rn_sub hw hA q h) (fun q h => rn_sub hw hA q h) (fun u t H1 locs1 ht hvm hp hB hz1 hk1 hS => ?_)
  obtain rfl := hp
  exact kk H1 locs1 (rn_post hw ht hvm hB hS)
end RNQ

theorem rn_mul (n : Nat) : (10 : Int32) * nI n = nI (10 * n) := pk_mul 10 n
theorem rn_inc (b i : Nat) : nI (b + i) + Int32.ofInt 1 = nI (b + (i + 1)) := nI_1 (b + i)
theorem rn_add10 (b : Nat) : nI b + 10 = nI (b + 10) := nI_add b 10
theorem bI_nar (b : Bool) : narrow .boolean (.int (bI b)) = .int (bI b) := by cases b <;> rfl
section RNS
variable {p : Program} {l : Launch} {e : Env} {R : Room} {s : State} {m : MethodId} {args : Array Value} {below : List Frame} {meth : Method} {c : Code} {H : Heap} {locs : List Loc} {cells slots : Nat} {Q : State → Prop}
variable {cc : ByteArray} {pc nL : Nat} {ls : Array Slot} {rest : List Value} {Ts : List Cond} {k : rm_K} {a : Nat → Nat} {A : Nat → Prop} {H0 : Heap} {σ σ0 : rm_St} {r0 v : Int32} {own : String}
variable {y : MethodName} {bytes : ByteArray} {maxL index n : Nat} {ret : Option FieldType} {ws : List Cond} {rmm : Room} {As st0 : List Value}
theorem rn_callSI (C : rn_C p m c cc nL s args Ts) (hw : rn_Wd k a A H0 s σ H locs) (hM : rm_SI l y ws rmm As r0) (cw : CallB R s args RX1 index y bytes maxL ret ws rmm 0 0 n ∧ (Cond.static y).before args s = true) (hn : As.length = n) (hsize : ls.size = nL) (hstack : st0 = As.reverse ++ rest)
    (hW : 2 * (F0 m pc ls st0).monitorRoom + (rest.map fun v => v.category).sum ≤ 8) (hdg : decode cc pc = .ok (.invokestatic index, 3)) (hf : cells ≤ R.cells ∧ slots ≤ R.slots)
    (kk : ∀ (H1 : Heap) (locs1 : List Loc), rn_Wd k a A H0 s σ H1 locs1 → W p l e R s m args below meth c H1 locs1 cells slots Q (F0 m (pc + 3) ls (.int r0 :: rest))) : W p l e R s m args below meth c H locs cells slots Q (F0 m pc ls st0) :=
  rm_callSI0 C.1 hw.2.2.2 hM cw hn hsize hstack hW hdg hf (fun H1 locs1 hk hS => kk H1 locs1 ⟨hw.1, rm_kept hw.2.1 hk, hw.2.2.1, hS⟩)
end RNS

/-! the law's world: the mesh, the model, the cell for an answer, all made by the law; the script stands below them -/
abbrev rw_A (s : State) : Nat → Prop := fun q => s.heap.size ≤ q
def rw_sep (a b : Nat → Nat) (o sz : Nat) : Prop := (rm_inj a ∧ rn_inj b) ∧ ((∀ j, j < 55 → sz ≤ a j) ∧ (∀ j, j < 15 → sz ≤ b j) ∧ sz ≤ o) ∧ (∀ j, j < 55 → a j ≠ o) ∧ (∀ j, j < 15 → b j ≠ o) ∧ ∀ i j, i < 55 → j < 15 → a i ≠ b j
def rw_E (k : rm_K) (a b : Nat → Nat) (o : Nat) (s : State) : Prop := va_K k.1 vwCl (rm_ty k) s ∧ rm_Th (rw_A s) s ∧ rl_N s ∧ rw_sep a b o s.heap.size
def rw_Wd (k : rm_K) (a b : Nat → Nat) (o : Nat) (s : State) (σ τ : rm_St) (f : Nat → Int64) (H : Heap) (locs : List Loc) : Prop :=
  va_P k.1 vwCl (rm_W k a σ) H ∧ va_P k.1 vwCl (rl_o k o f) H ∧ va_P k.1 vwCl (rn_W k b τ) H ∧ va_S (rw_A s) s.heap H locs
section RWB
variable {p : Program} {l : Launch} {e : Env} {R : Room} {s : State} {m : MethodId} {args : Array Value} {below : List Frame} {meth : Method} {c : Code} {H : Heap} {locs : List Loc} {cells slots mc ms : Nat} {Q : State → Prop}
variable {cc : ByteArray} {pc nL : Nat} {ls : Array Slot} {rest : List Value} {Ts : List Cond} {k : rm_K} {a b : Nat → Nat} {o : Nat} {σ σ0 τ τ0 : rm_St} {f : Nat → Int64} {r0 v : Int32} {own : String}
variable {y : MethodName} {bytes : ByteArray} {maxL index n : Nat} {ret : Option FieldType} {hh : List (Nat × Nat × Nat × Nat)} {ws : List Cond} {rmm : Room} {As st0 : List Value} {u0 : rm_St × (Nat → Int64)}
theorem rw_o_of {i : Nat} {x : Nat × va_E} (h : (rl_o k o f)[i]? = some x) : x.1 = o := by
  have h1 := (List.getElem?_eq_some_iff.mp h).1
  have h0 : i = 0 := by simp at h1; omega
  subst h0
  cases h
  rfl
theorem rw_subL (E : rw_E k a b o s) (hw : rw_Wd k a b o s σ τ f H locs) : ∀ q, rl_A a o H.size q → rw_A s q := fun q h => by
  rcases h with (⟨j, hj, rfl⟩ | h) | rfl
  · exact E.2.2.2.2.1.1 j hj
  · exact Nat.le_trans hw.2.2.2.1 h
  · exact E.2.2.2.2.1.2.2
theorem rw_subN (E : rw_E k a b o s) (hw : rw_Wd k a b o s σ τ f H locs) : ∀ q, rn_A b H.size q → rw_A s q := fun q h => by
  rcases h with ⟨j, hj, rfl⟩ | h
  · exact E.2.2.2.2.1.2.1 j hj
  · exact Nat.le_trans hw.2.2.2.1 h
theorem rw_subM (E : rw_E k a b o s) (hw : rw_Wd k a b o s σ τ f H locs) : ∀ q, rm_A a H.size q → rw_A s q := fun q h => rw_subL E hw q (Or.inl h)
/-- a wrapper's call -/
theorem rw_callW (CF : CallFix p m c cc nL s args Ts own) (E : rw_E k a b o s) (hw : rw_Wd k a b o s σ τ f H locs)
    (hM : Met l y ws rmm (va_Pc As (fun U => U.heap.size = H.size ∧ rl_P k a σ o f U ∧ rm_Th (rl_A a o H.size) U ∧ rl_N U)) (va_Qi (fun (r : Int32) (u : rm_St × (Nat → Int64)) => r = r0 ∧ u = u0) (fun u t => rl_P k a u.1 o u.2 t) (rl_A a o H.size)) mc ms (rl_A a o H.size))
    (cw : vx_CSW R s args own index y bytes maxL ret hh ws rmm mc ms n) (hn : As.length = n) (hsize : ls.size = nL) (hstack : st0 = As.reverse ++ rest)
    (hW : 2 * (F0 m pc ls st0).monitorRoom + (rest.map fun v => v.category).sum ≤ 8) (hdg : decode cc pc = .ok (.invokestatic index, 3)) (hf : cells + mc ≤ R.cells ∧ slots + ms ≤ R.slots)
    (kk : ∀ (H1 : Heap) (locs1 : List Loc), rw_Wd k a b o s u0.1 τ u0.2 H1 locs1 → W p l e R s m args below meth c H1 locs1 (cells + mc) (slots + ms) Q (F0 m (pc + 3) ls (.int r0 :: rest))) : W p l e R s m args below meth c H locs cells slots Q (F0 m pc ls st0) := by
  have hsub := rw_subL E hw
  refine va_calli (vx_runSW (As := As) (rest := rest) CF hM cw ⟨fun x U g mk q => ?_, fun U hU hWm => ⟨rfl, by rw [hU], ⟨⟨by rw [hU]; exact hw.1, va_K.moved hWm.alike E.1⟩, by rw [hU]; exact hw.2.1⟩, E.2.1.call hw.2.2.2 hU hWm hsub, E.2.2.1.moved hWm.alike⟩⟩ rfl hn hsize hstack hW hdg hf) hw.2.2.2 (fun q _ h => hsub q h) hsub (fun r u t H1 locs1 ht hvm hp hB hz hk hS => ?_)
  · obtain ⟨q0, q1, ⟨⟨q2, q3⟩, q4⟩, q5, q6⟩ := q
    exact ⟨q0, q1, ⟨⟨q2, va_K.moved (u := U) (U := U.calling g mk x) (Vm.Alike.refl U.vm) q3⟩, q4⟩, q5.blind g mk x, rl_N.moved (u := U) (U := U.calling g mk x) (Vm.Alike.refl U.vm) q6⟩
  · obtain ⟨rfl, rfl⟩ := hp
    refine kk H1 locs1 ⟨by rw [← ht]; exact hB.1.1, by rw [← ht]; exact hB.2, hw.2.2.1.kept (fun i x hx => ?_), hS⟩
    have hlt := (hw.2.2.1 i x hx).lt
    obtain ⟨hi, rfl⟩ := rn_get_of hx
    refine hk _ hlt (fun q => ?_)
    rcases q with (⟨j, hj, q⟩ | q) | q
    · exact E.2.2.2.2.2.2.2 j i hj hi q.symm
    · omega
    · exact E.2.2.2.2.2.2.1 i hi q
/-- a model's call -/
theorem rw_preN (E : rw_E k a b o s) (hw : rw_Wd k a b o s σ τ f H locs) (av : List Value) : PreV s H RX1 (b 0) (va_Pc (.ref (b 0) :: av) (fun U => U.heap.size = H.size ∧ rn_P k b τ U)) av :=
  ⟨fun x U g mk q => by obtain ⟨q0, q1, q2, q3⟩ := q; exact ⟨q0, q1, q2, va_K.moved (u := U) (U := U.calling g mk x) (Vm.Alike.refl U.vm) q3⟩,
    va_recv E.1 hw.2.2.1 (ci := 1) (q0 := 0) (show vwCl[1]? = some (RX1, TX1, 21) from rfl) (rn_get (q := 0) (by decide)), fun U hU hW => ⟨rfl, by rw [hU], by rw [hU]; exact hw.2.2.1, va_K.moved hW.alike E.1⟩⟩
theorem rw_postN {t : State} {H1 : Heap} {locs1 : List Loc} (E : rw_E k a b o s) (hw : rw_Wd k a b o s σ τ f H locs) (ht : t.heap = H1) (hB : rn_P k b τ0 t) (hk : ∀ q : Nat, q < H.size → ¬ rn_A b H.size q → H1[q]? = H[q]?) (hS : va_S (rw_A s) s.heap H1 locs1) : rw_Wd k a b o s σ τ0 f H1 locs1 := by
  refine ⟨hw.1.kept (fun i x hx => ?_), hw.2.1.kept (fun i x hx => ?_), by rw [← ht]; exact hB.1, hS⟩
  · have hlt := (hw.1 i x hx).lt
    obtain ⟨hi, rfl⟩ := rm_get_of hx
    refine hk _ hlt (fun q => ?_)
    rcases q with ⟨j, hj, q⟩ | q
    · exact E.2.2.2.2.2.2.2 i j hi hj q
    · omega
  · have hlt := (hw.2.1 i x hx).lt
    have hx0 := rw_o_of hx
    refine hk _ hlt (fun q => ?_)
    rcases q with ⟨j, hj, q⟩ | q
    · exact E.2.2.2.2.2.2.1 j hj (q.symm.trans hx0)
    · omega
theorem rw_callI (CF : CallFix p m c cc nL s args Ts own) (E : rw_E k a b o s) (hw : rw_Wd k a b o s σ τ f H locs) (hM : rn_MI l k b y ws rmm As τ r0 τ0) (cw : CallW R s args own RX1 index y bytes maxL ret ws rmm 0 0 n) (hn : As.length = n) (hsize : ls.size = nL) (hstack : st0 = As.reverse ++ .ref (b 0) :: rest)
    (hW : 2 * (F0 m pc ls st0).monitorRoom + (rest.map fun v => v.category).sum ≤ 8) (hdg : decode cc pc = .ok (.invokevirtual index, 3)) (hf : cells ≤ R.cells ∧ slots ≤ R.slots)
    (kk : ∀ (H1 : Heap) (locs1 : List Loc), rw_Wd k a b o s σ τ0 f H1 locs1 → W p l e R s m args below meth c H1 locs1 cells slots Q (F0 m (pc + 3) ls (.int r0 :: rest))) : W p l e R s m args below meth c H locs cells slots Q (F0 m pc ls st0) := by
  have hsub := rw_subN E hw
  refine va_calli (va_runV (As := As) (rest := rest) CF (hM H.size) cw (rw_preN E hw As) rfl hn hsize hstack hW hdg hf) hw.2.2.2 (fun q _ h => hsub q h) hsub (fun r u t H1 locs1 ht hvm hp hB hz1 hk1 hS => ?_)
  obtain ⟨rfl, rfl⟩ := hp
  exact kk H1 locs1 (rw_postN E hw ht hB hk1 hS)
theorem rw_callV (CF : CallFix p m c cc nL s args Ts own) (E : rw_E k a b o s) (hw : rw_Wd k a b o s σ τ f H locs) (hM : rn_MV l k b y ws rmm As τ τ0) (cw : CallW R s args own RX1 index y bytes maxL ret ws rmm 0 0 n) (hn : As.length = n) (hsize : ls.size = nL) (hstack : st0 = As.reverse ++ .ref (b 0) :: rest)
    (hW : 2 * (F0 m pc ls st0).monitorRoom + (rest.map fun v => v.category).sum ≤ 8) (hdg : decode cc pc = .ok (.invokevirtual index, 3)) (hf : cells ≤ R.cells ∧ slots ≤ R.slots)
    (kk : ∀ (H1 : Heap) (locs1 : List Loc), rw_Wd k a b o s σ τ0 f H1 locs1 → W p l e R s m args below meth c H1 locs1 cells slots Q (F0 m (pc + 3) ls rest)) : W p l e R s m args below meth c H locs cells slots Q (F0 m pc ls st0) := by
  have hsub := rw_subN E hw
  refine va_callv (va_runV (As := As) (rest := rest) CF (hM H.size) cw (rw_preN E hw As) rfl hn hsize hstack hW hdg hf) hw.2.2.2 (fun q _ h => hsub q h) hsub (fun u t H1 locs1 ht hvm hp hB hz1 hk1 hS => ?_)
  obtain rfl := hp
  exact kk H1 locs1 (rw_postN E hw ht hB hk1 hS)
/-- the mesh's own call (time, loops) -/
theorem rw_callM (CF : CallFix p m c cc nL s args Ts own) (E : rw_E k a b o s) (hw : rw_Wd k a b o s σ τ f H locs) (hM : rm_MI l k a y ws rmm As σ r0 σ0) (cw : CallW R s args own RX0 index y bytes maxL ret ws rmm 0 0 n) (hn : As.length = n) (hsize : ls.size = nL) (hstack : st0 = As.reverse ++ .ref (a 0) :: rest)
    (hW : 2 * (F0 m pc ls st0).monitorRoom + (rest.map fun v => v.category).sum ≤ 8) (hdg : decode cc pc = .ok (.invokevirtual index, 3)) (hf : cells ≤ R.cells ∧ slots ≤ R.slots)
    (kk : ∀ (H1 : Heap) (locs1 : List Loc), rw_Wd k a b o s σ0 τ f H1 locs1 → W p l e R s m args below meth c H1 locs1 cells slots Q (F0 m (pc + 3) ls (.int r0 :: rest))) : W p l e R s m args below meth c H locs cells slots Q (F0 m pc ls st0) := by
  have hsub := rw_subM E hw
  refine va_calli (va_runV (As := As) (rest := rest) CF (hM H.size) cw ⟨fun x U g mk q => ?_, va_recv E.1 hw.1 (ci := 0) (q0 := 0) (show vwCl[0]? = some (RX0, TX0, 20) from rfl) (rm_get (q := 0) (by decide)), fun U hU hWm => ⟨rfl, by rw [hU], by rw [hU]; exact hw.1, va_K.moved hWm.alike E.1⟩⟩ rfl hn hsize hstack hW hdg hf) hw.2.2.2 (fun q _ h => hsub q h) hsub (fun r u t H1 locs1 ht hvm hp hB hz hk hS => ?_)
  · obtain ⟨q0, q1, q2, q3⟩ := q
    exact ⟨q0, q1, q2, va_K.moved (u := U) (U := U.calling g mk x) (Vm.Alike.refl U.vm) q3⟩
  · obtain ⟨rfl, rfl⟩ := hp
    refine kk H1 locs1 ⟨by rw [← ht]; exact hB.1, hw.2.1.kept (fun i x hx => ?_), hw.2.2.1.kept (fun i x hx => ?_), hS⟩
    · have hlt := (hw.2.1 i x hx).lt
      have hx0 := rw_o_of hx
      refine hk _ hlt (fun q => ?_)
      rcases q with ⟨j, hj, q⟩ | q
      · exact E.2.2.2.2.2.1 j hj (q.symm.trans hx0)
      · omega
    · have hlt := (hw.2.2.1 i x hx).lt
      obtain ⟨hi, rfl⟩ := rn_get_of hx
      refine hk _ hlt (fun q => ?_)
      rcases q with ⟨j, hj, q⟩ | q
      · exact E.2.2.2.2.2.2.2 j i hj hi q.symm
      · omega
/-- out[0] -/
theorem rw_out (CF : CallFix p m c cc nL s args Ts own) (E : rw_E k a b o s) (hw : rw_Wd k a b o s σ τ f H locs) (hdg : decode cc pc = .ok (.laload, 1))
    (kk : W p l e R s m args below meth c H locs cells slots Q (F0 m (pc + 1) ls (.long (f 0) :: rest))) : W p l e R s m args below meth c H locs cells slots Q (F0 m pc ls (.int 0 :: .ref o :: rest)) :=
  va_lald CF.1 CF.2.1 E.1 hw.2.1 0 3 (n := 1) (f := f) rfl rfl (i := 0) (vp_in_nI (n := 0) (by decide) (by decide)) hdg kk
/-- script[i + j] -/
theorem rw_ld (CF : CallFix p m c cc nL s args Ts own) (hw : rw_Wd k a b o s σ τ f H locs) {bq L : Nat} {xs : Nat → Int32} (hX : va_X bq L xs s s.heap) (hbl : bq < s.heap.size) {i : Nat} (hi : i < L) (hL : L ≤ 2560) (hdg : decode cc pc = .ok (.iaload, 1))
    (kk : W p l e R s m args below meth c H locs cells slots Q (F0 m (pc + 1) ls (.int (xs i) :: rest))) : W p l e R s m args below meth c H locs cells slots Q (F0 m pc ls (.int (nI i) :: .ref bq :: rest)) := by
  refine va_sld CF.1 CF.2.1 hX hbl (fun q => by have q : s.heap.size ≤ bq := q; omega) hw.2.2.2 (vp_in_nI hi (by omega)) hdg ?_
  rw [nI_clamp (by omega)]
  exact kk
theorem rw_len (CF : CallFix p m c cc nL s args Ts own) (hw : rw_Wd k a b o s σ τ f H locs) {bq L : Nat} {xs : Nat → Int32} (hX : va_X bq L xs s s.heap) (hbl : bq < s.heap.size) (hdg : decode cc pc = .ok (.arraylength, 1))
    (kk : W p l e R s m args below meth c H locs cells slots Q (F0 m (pc + 1) ls (.int (nI L) :: rest))) : W p l e R s m args below meth c H locs cells slots Q (F0 m pc ls (.ref bq :: rest)) :=
  va_slen CF.1 CF.2.1 hX hbl (fun q => by have q : s.heap.size ≤ bq := q; omega) hw.2.2.2 hdg kk
end RWB

/-! rows of the two constructors: arrays are made, fields are set -/
theorem va_AOA.moved {t : FieldType} {u U : State} (hvm : u.vm.Alike U.vm) (h : va_AOA t u) : va_AOA t U := Jvm.Stand.arrayOver_alikeB hvm h
abbrev rm_R0 (k : rm_K) : va_E := .inl (k.2.1, 10, .inl (fun _ => 0))
section RXN
variable {p : Program} {l : Launch} {e : Env} {R : Room} {s : State} {m : MethodId} {args : Array Value} {below : List Frame} {meth : Method} {c : Code} {H : Heap} {locs : List Loc} {cells slots : Nat} {Q : State → Prop}
variable {cc : ByteArray} {pc nL : Nat} {ls : Array Slot} {rest : List Value} {Ts : List Cond} {k : rm_K} {A : Nat → Prop} {H0 : Heap} {ws : va_W} {own : String}
theorem rx_newI (CF : CallFix p m c cc nL s args Ts own) (harr : Cond.arrayClass .int ∈ Ts) (hK : va_K k.1 vwCl (rm_ty k) s) (hP : va_P k.1 vwCl ws H) (hD : va_D A ws) (hS : va_S A H0 H locs) (hA : ∀ q, H0.size ≤ q → A q)
    {n : Int32} {N : Nat} (hn : ¬ n < 0) (hN : n.toNatClampNeg = N) (hN1 : N ≤ 100) (hcells : cells + 1 ≤ R.cells) (hslots : slots + N ≤ R.slots) (hdg : decode cc pc = .ok (.newarray .int, 2))
    (kk : ∀ (q : Nat) (H1 : Heap), va_P k.1 vwCl (ws ++ [(q, .inl (k.2.1, N, .inl (fun _ => 0)))]) H1 → va_D A (ws ++ [(q, .inl (k.2.1, N, .inl (fun _ => 0)))]) → va_S A H0 H1 locs →
      W p l e R s m args below meth c H1 locs (cells + 1) (slots + N) Q (F0 m (pc + 2) ls (.ref q :: rest))) : W p l e R s m args below meth c H locs cells slots Q (F0 m pc ls (.int n :: rest)) := by
  refine va_newa (atype := .int) (ty := .int) (a0 := (N, .inl (fun _ => 0))) (N' := N) CF.1 CF.2.1 (CF.2.2.2.2 _ harr) rfl hK hP hD hS hA (fun cA => rfl) hn hN (by show N * 4 ≤ 536870912; omega) hcells hslots hdg (fun q cA H1 hK2 hP1 hD1 hS1 => ?_)
  have e1 : s.vm.findClass ("[" ++ FieldType.int.toString) = some cA := (hK2.2 (rm_ty k).length (cA, .int) (by simp)).2
  have e2 : s.vm.findClass ("[" ++ FieldType.int.toString) = some k.2.1 := (hK.2 0 _ rfl).2
  obtain rfl : k.2.1 = cA := Option.some.inj (e2.symm.trans e1)
  exact kk q H1 hP1 hD1 hS1
theorem rx_newZ (CF : CallFix p m c cc nL s args Ts own) (harr : Cond.arrayClass .boolean ∈ Ts) (hK : va_K k.1 vwCl (rm_ty k) s) (hP : va_P k.1 vwCl ws H) (hD : va_D A ws) (hS : va_S A H0 H locs) (hA : ∀ q, H0.size ≤ q → A q)
    {n : Int32} {N : Nat} (hn : ¬ n < 0) (hN : n.toNatClampNeg = N) (hN1 : N ≤ 100) (hcells : cells + 1 ≤ R.cells) (hslots : slots + N ≤ R.slots) (hdg : decode cc pc = .ok (.newarray .boolean, 2))
    (kk : ∀ (q : Nat) (H1 : Heap), va_P k.1 vwCl (ws ++ [(q, .inl (k.2.2.1, N, .inl (fun _ => 0)))]) H1 → va_D A (ws ++ [(q, .inl (k.2.2.1, N, .inl (fun _ => 0)))]) → va_S A H0 H1 locs →
      W p l e R s m args below meth c H1 locs (cells + 1) (slots + N) Q (F0 m (pc + 2) ls (.ref q :: rest))) : W p l e R s m args below meth c H locs cells slots Q (F0 m pc ls (.int n :: rest)) := by
  refine va_newa (atype := .boolean) (ty := .boolean) (a0 := (N, .inl (fun _ => 0))) (N' := N) CF.1 CF.2.1 (CF.2.2.2.2 _ harr) rfl hK hP hD hS hA (fun cA => rfl) hn hN (by show N * 1 ≤ 536870912; omega) hcells hslots hdg (fun q cA H1 hK2 hP1 hD1 hS1 => ?_)
  have e1 : s.vm.findClass ("[" ++ FieldType.boolean.toString) = some cA := (hK2.2 (rm_ty k).length (cA, .boolean) (by simp)).2
  have e2 : s.vm.findClass ("[" ++ FieldType.boolean.toString) = some k.2.2.1 := (hK.2 1 _ rfl).2
  obtain rfl : k.2.2.1 = cA := Option.some.inj (e2.symm.trans e1)
  exact kk q H1 hP1 hD1 hS1
theorem rx_newG (CF : CallFix p m c cc nL s args Ts own) {index : Nat} (hcl : Cond.classLink own index "[[I" ∈ Ts) (harr : Cond.arrayClass .int ∈ Ts) (hover : va_AOA .int s) (hK : va_K k.1 vwCl (rm_ty k) s) (hP : va_P k.1 vwCl ws H) (hD : va_D A ws) (hS : va_S A H0 H locs) (hA : ∀ q, H0.size ≤ q → A q)
    (hcells : cells + 11 ≤ R.cells) (hslots : slots + 110 ≤ R.slots) (hdg : decode cc pc = .ok (.multianewarray index 2, 4))
    (kk : ∀ (q : Nat) (r : Nat → Nat) (H1 : Heap), va_P k.1 vwCl (ws ++ ((q, .inl (k.2.2.2, 10, .inr (.inr (.inr (.inr (fun i => if i < 10 then some (r i) else none)))))) :: (List.range 10).map (fun i => (r i, rm_R0 k)))) H1 → va_D A (ws ++ ((q, .inl (k.2.2.2, 10, .inr (.inr (.inr (.inr (fun i => if i < 10 then some (r i) else none)))))) :: (List.range 10).map (fun i => (r i, rm_R0 k)))) → va_S A H0 H1 locs →
      W p l e R s m args below meth c H1 locs (cells + 11) (slots + 110) Q (F0 m (pc + 4) ls (.ref q :: rest))) : W p l e R s m args below meth c H locs cells slots Q (F0 m pc ls (.int 10 :: .int 10 :: rest)) := by
  have e2 : s.vm.findClass ("[" ++ FieldType.int.toString) = some k.2.1 := (hK.2 0 _ rfl).2
  have hP0 : va_P k.1 vwCl (ws ++ va_pl [] (fun _ => rm_R0 k)) H := by
    show va_P k.1 vwCl (ws ++ []) H
    rw [List.append_nil]
    exact hP
  have hD0 : va_D A (ws ++ va_pl [] (fun _ => rm_R0 k)) := by
    show va_D A (ws ++ [])
    rw [List.append_nil]
    exact hD
  refine va_mna (ty := .int) (cy := k.2.1) (N' := 10) (K' := 10) (z := (10, .inl (fun _ => 0))) CF.1 CF.2.1 CF.2.2.2.1 (CF.2.2.2.2 _ hcl) hover (CF.2.2.2.2 _ harr) e2 hK hP0 hD0 hS hA (by decide) (by decide) (by decide) (by decide) (by decide) (by decide) (by decide) rfl rfl hcells hslots (fun c9 => by unfold Jvm.Free.Multi.innerC; rw [vp_cell_i, ← arrV_new]; rfl) hdg ?_
  intro q r cA H1 hr1 hr2 hK2 hP1 hD1 hS1
  have e3 : s.vm.findClass ("[" ++ (FieldType.array .int).toString) = some cA := (hK2.2 (rm_ty k).length (cA, .array .int) (by simp)).2
  have e4 : s.vm.findClass ("[" ++ (FieldType.array .int).toString) = some k.2.2.2 := (hK.2 2 _ rfl).2
  obtain rfl : k.2.2.2 = cA := Option.some.inj (e4.symm.trans e3)
  have hlist : va_pl ([] ++ (List.range 10).map r) (vr_up (fun _ => rm_R0 k) ((List.range 10).map r) (.inl (k.2.1, (10, .inl (fun _ => 0))))) = (List.range 10).map (fun i => (r i, rm_R0 k)) := by
    rw [List.nil_append]
    unfold va_pl
    rw [List.map_map]
    apply List.map_congr_left
    intro i hi
    show (r i, vr_up _ _ _ (r i)) = (r i, rm_R0 k)
    rw [vr_up_in (List.mem_map.mpr ⟨i, hi, rfl⟩)]
  rw [hlist] at hP1 hD1
  have hassoc : (ws ++ [(q, .inl (k.2.2.2, 10, .inr (.inr (.inr (.inr (fun i => if i < 10 then some (r i) else none))))))]) ++ (List.range 10).map (fun i => (r i, rm_R0 k)) = ws ++ ((q, .inl (k.2.2.2, 10, .inr (.inr (.inr (.inr (fun i => if i < 10 then some (r i) else none)))))) :: (List.range 10).map (fun i => (r i, rm_R0 k))) := by
    rw [List.append_assoc]; rfl
  rw [hassoc] at hP1 hD1
  exact kk q r H1 hP1 hD1 hS1
end RXN

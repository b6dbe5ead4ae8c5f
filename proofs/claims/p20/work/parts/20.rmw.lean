/-! the mesh's world: one object and 54 arrays, told by a function of place and index -/
abbrev rm_St : Type := Nat → Nat → Int32
def rm_up (σ : rm_St) (k j : Nat) (v : Int32) : rm_St := fun a b => if a = k ∧ b = j then v else σ a b
theorem rm_up_s (σ : rm_St) (k j : Nat) (v : Int32) : rm_up σ k j v k j = v := if_pos ⟨rfl, rfl⟩
theorem rm_up_k {σ : rm_St} {k j : Nat} {v : Int32} {a b : Nat} (h : a ≠ k) : rm_up σ k j v a b = σ a b := if_neg fun q => h q.1
theorem rm_up_j {σ : rm_St} {k j : Nat} {v : Int32} {a b : Nat} (h : b ≠ j) : rm_up σ k j v a b = σ a b := if_neg fun q => h q.2
theorem rm_up_row {σ : rm_St} {k j : Nat} {v : Int32} : rm_up σ k j v k = upd (σ k) j v := by
  funext b
  by_cases h : b = j
  · subst h
    rw [rm_up_s]
    simp [upd]
  · rw [rm_up_j h]
    simp [upd, h]
theorem rm_up_row_ne {σ : rm_St} {k j : Nat} {v : Int32} {a : Nat} (h : a ≠ k) : rm_up σ k j v a = σ a := funext fun _ => rm_up_k h
def bI (b : Bool) : Int32 := if b then 1 else 0
theorem bI_t : bI true = 1 := rfl
theorem bI_f : bI false = 0 := rfl
theorem bI_0 {b : Bool} (h : bI b = 0) : b = false := by cases b <;> first | rfl | exact absurd h (by decide)
theorem bI_n {b : Bool} (h : ¬ bI b = 0) : b = true := by cases b <;> first | rfl | exact absurd rfl h
def isNd (x : Int32) : Bool := decide (¬ x < 0) && decide (x < 10)
theorem isNd_of {x : Int32} (h : isNd x = true) : ∃ o : Nat, o < 10 ∧ x = nI o := by
  simp only [isNd, Bool.and_eq_true, decide_eq_true_eq] at h
  obtain ⟨j, hj, e⟩ := nI_of h.1
  refine ⟨j, ?_, e⟩
  have h2 := h.2
  rw [e, show (10 : Int32) = nI 10 from rfl, nI_ltI hj (by decide)] at h2
  exact h2
theorem isNd_nI {o : Nat} (h : o < 10) : isNd (nI o) = true := by
  simp only [isNd, Bool.and_eq_true, decide_eq_true_eq]
  exact ⟨nI_pos (by omega), (show nI o < nI 10 from nI_lt h (by decide))⟩
abbrev rm_K : Type := va_G × (ClassId × ClassId × ClassId)
def rm_ty (k : rm_K) : List (ClassId × FieldType) := [(k.2.1, .int), (k.2.2.1, .boolean), (k.2.2.2, .array .int)]
def rm_F (a : Nat → Nat) (σ : rm_St) : List Value := [.int (σ 0 0), .int (σ 0 1), .int (σ 0 2), .int (σ 0 3), .int (σ 0 4), .int (σ 0 5), .ref (a 1), .ref (a 2), .ref (a 3), .ref (a 4), .ref (a 5), .ref (a 6), .ref (a 7), .ref (a 8), .ref (a 9), .ref (a 10), .ref (a 11), .ref (a 12), .ref (a 13), .ref (a 14)]
def rm_G (a : Nat → Nat) (g : Nat) : Nat → Option Nat := fun i => if i < 10 then some (a (5 + 10 * g + i)) else none
def rm_E (k : rm_K) (a : Nat → Nat) (σ : rm_St) (q : Nat) : va_E :=
  if q = 0 then .inr (0, rm_F a σ)
  else if q < 5 then .inl (k.2.2.2, 10, .inr (.inr (.inr (.inr (rm_G a q)))))
  else if q = 5 then .inl (k.2.2.1, 10, .inl (σ q))
  else .inl (k.2.1, 10, .inl (σ q))
def rm_W (k : rm_K) (a : Nat → Nat) (σ : rm_St) : va_W := (List.range 55).map (fun q => (a q, rm_E k a σ q))
theorem rm_get {k : rm_K} {a : Nat → Nat} {σ : rm_St} {q : Nat} (hq : q < 55) : (rm_W k a σ)[q]? = some (a q, rm_E k a σ q) := by simp [rm_W, hq]
theorem rm_get_of {k : rm_K} {a : Nat → Nat} {σ : rm_St} {j : Nat} {x : Nat × va_E} (h : (rm_W k a σ)[j]? = some x) : j < 55 ∧ x = (a j, rm_E k a σ j) := by
  have hj : j < 55 := by
    have := (List.getElem?_eq_some_iff.mp h).1
    simpa [rm_W] using this
  rw [rm_get hj] at h
  exact ⟨hj, (Option.some.inj h).symm⟩
theorem rm_E0 {k : rm_K} {a : Nat → Nat} {σ : rm_St} : rm_E k a σ 0 = .inr (0, rm_F a σ) := rfl
theorem rm_E5 {k : rm_K} {a : Nat → Nat} {σ : rm_St} : rm_E k a σ 5 = .inl (k.2.2.1, 10, .inl (σ 5)) := rfl
theorem rm_Eg {k : rm_K} {a : Nat → Nat} {σ : rm_St} {q : Nat} (h : 1 ≤ q ∧ q < 5) : rm_E k a σ q = .inl (k.2.2.2, 10, .inr (.inr (.inr (.inr (rm_G a q))))) := by
  unfold rm_E
  rw [if_neg (by omega), if_pos h.2]
theorem rm_Er {k : rm_K} {a : Nat → Nat} {σ : rm_St} {q : Nat} (h : 6 ≤ q) : rm_E k a σ q = .inl (k.2.1, 10, .inl (σ q)) := by
  unfold rm_E
  rw [if_neg (by omega), if_neg (by omega), if_neg (by omega)]
theorem rm_E_ne {k : rm_K} {a : Nat → Nat} {σ : rm_St} {q j r : Nat} {v : Int32} (h : r ≠ q) : rm_E k a (rm_up σ q j v) r = rm_E k a σ r := by
  unfold rm_E
  by_cases h0 : r = 0
  · subst h0
    rw [if_pos rfl, if_pos rfl]
    unfold rm_F
    rw [rm_up_row_ne h]
  · rw [if_neg h0, if_neg h0, rm_up_row_ne h]
theorem rm_set {k : rm_K} {a : Nat → Nat} {σ : rm_St} {q j : Nat} {v : Int32} {e : va_E} (hq : q < 55) (he : rm_E k a (rm_up σ q j v) q = e) : (rm_W k a σ).set q (a q, e) = rm_W k a (rm_up σ q j v) := by
  apply List.ext_getElem?
  intro i
  by_cases hi : i = q
  · subst hi
    rw [List.getElem?_set_self (by simp [rm_W, hq]), rm_get hq, he]
  · rw [List.getElem?_set_ne (Ne.symm hi)]
    by_cases hl : i < 55
    · rw [rm_get hl, rm_get hl, rm_E_ne hi]
    · rw [List.getElem?_eq_none (by simp [rm_W]; omega), List.getElem?_eq_none (by simp [rm_W]; omega)]
def rm_inj (a : Nat → Nat) : Prop := ∀ i j, i < 55 → j < 55 → a i = a j → i = j
def rm_A (a : Nat → Nat) (sz : Nat) : Nat → Prop := fun q => (∃ j, j < 55 ∧ q = a j) ∨ sz ≤ q
def rm_P (k : rm_K) (a : Nat → Nat) (σ : rm_St) (U : State) : Prop := va_P k.1 vwCl (rm_W k a σ) U.heap ∧ va_K k.1 vwCl (rm_ty k) U
theorem rm_D {k : rm_K} {a : Nat → Nat} {σ : rm_St} {A : Nat → Prop} (h : rm_inj a) (hA : ∀ j, j < 55 → A (a j)) : va_D A (rm_W k a σ) := by
  refine ⟨fun i j x y hi hj hxy => ?_, fun q x hq => ?_⟩
  · obtain ⟨h1, e1⟩ := rm_get_of hi
    obtain ⟨h2, e2⟩ := rm_get_of hj
    rw [e1, e2] at hxy
    exact h i j h1 h2 hxy
  · obtain ⟨h1, e1⟩ := rm_get_of hq
    rw [e1]
    exact hA q h1
theorem rm_D_inj {k : rm_K} {a : Nat → Nat} {σ : rm_St} {A : Nat → Prop} (h : va_D A (rm_W k a σ)) : rm_inj a := fun i j hi hj e => h.1 i j _ _ (rm_get hi) (rm_get hj) e
theorem rm_D_A {k : rm_K} {a : Nat → Nat} {σ : rm_St} {A : Nat → Prop} (h : va_D A (rm_W k a σ)) : ∀ j, j < 55 → A (a j) := fun j hj => h.2 j _ (rm_get hj)
/-- the world of a walk: the classes, the cells, apart and among those that may change, and what has changed so far -/
def rm_Wd (k : rm_K) (a : Nat → Nat) (A : Nat → Prop) (H0 : Heap) (s : State) (σ : rm_St) (H : Heap) (locs : List Loc) : Prop :=
  va_K k.1 vwCl (rm_ty k) s ∧ va_P k.1 vwCl (rm_W k a σ) H ∧ va_D A (rm_W k a σ) ∧ va_S A H0 H locs
section RMR
variable {p : Program} {l : Launch} {e : Env} {R : Room} {s : State} {m : MethodId} {args : Array Value} {below : List Frame} {meth : Method} {c : Code} {H : Heap} {locs : List Loc} {cells slots : Nat} {Q : State → Prop}
variable {cc : ByteArray} {pc nL : Nat} {ls : Array Slot} {rest : List Value} {Ts : List Cond} {own : String} {k : rm_K} {a : Nat → Nat} {A : Nat → Prop} {H0 : Heap} {σ : rm_St}
abbrev rm_C (p : Program) (m : MethodId) (c : Code) (cc : ByteArray) (nL : Nat) (s : State) (args : Array Value) (Ts : List Cond) : Prop := CallFix p m c cc nL s args Ts RX0 ∧ ∀ w ∈ u_ws RX0 TX0 20, w ∈ Ts
theorem rm_iald (C : rm_C p m c cc nL s args Ts) (hw : rm_Wd k a A H0 s σ H locs) {q i : Nat} (hq : 6 ≤ q ∧ q < 55) (hi : i < 10) (hdg : decode cc pc = .ok (.iaload, 1))
    (kk : W p l e R s m args below meth c H locs cells slots Q (F0 m (pc + 1) ls (.int (σ q i) :: rest))) : W p l e R s m args below meth c H locs cells slots Q (F0 m pc ls (.int (nI i) :: .ref (a q) :: rest)) := by
  have hc : (nI i).toNatClampNeg = i := nI_clamp (by omega)
  refine va_iald C.1.1 C.1.2.1 hw.1 hw.2.1 q 0 (n := 10) (f := σ q) (cA := k.2.1) (by rw [rm_get hq.2, rm_Er hq.1]) rfl (vp_in_nI hi (by decide)) hdg ?_
  rw [hc]
  exact kk
theorem rm_zald (C : rm_C p m c cc nL s args Ts) (hw : rm_Wd k a A H0 s σ H locs) {i : Nat} (hi : i < 10) (hdg : decode cc pc = .ok (.baload, 1))
    (kk : W p l e R s m args below meth c H locs cells slots Q (F0 m (pc + 1) ls (.int (σ 5 i) :: rest))) : W p l e R s m args below meth c H locs cells slots Q (F0 m pc ls (.int (nI i) :: .ref (a 5) :: rest)) := by
  have hc : (nI i).toNatClampNeg = i := nI_clamp (by omega)
  refine va_zald C.1.1 C.1.2.1 hw.1 hw.2.1 5 1 (n := 10) (f := σ 5) (cA := k.2.2.1) (by rw [rm_get (by decide), rm_E5]) rfl (vp_in_nI hi (by decide)) hdg ?_
  rw [hc]
  exact kk
theorem rm_iast (C : rm_C p m c cc nL s args Ts) (hw : rm_Wd k a A H0 s σ H locs) {q i : Nat} {x : Int32} (hq : 6 ≤ q ∧ q < 55) (hi : i < 10) (hdg : decode cc pc = .ok (.iastore, 1))
    (kk : ∀ (H1 : Heap) (locs1 : List Loc), rm_Wd k a A H0 s (rm_up σ q i x) H1 locs1 → W p l e R s m args below meth c H1 locs1 cells slots Q (F0 m (pc + 1) ls rest)) : W p l e R s m args below meth c H locs cells slots Q (F0 m pc ls (.int x :: .int (nI i) :: .ref (a q) :: rest)) := by
  have hc : (nI i).toNatClampNeg = i := nI_clamp (by omega)
  refine va_iast C.1.1 C.1.2.1 hw.1 hw.2.1 hw.2.2.1 hw.2.2.2 q 0 (n := 10) (f := σ q) (cA := k.2.1) (by rw [rm_get hq.2, rm_Er hq.1]) rfl (vp_in_nI hi (by decide)) hdg (fun H1 locs1 hP hD hS => ?_)
  rw [hc, rm_set (j := i) (v := x) hq.2 (by rw [rm_Er hq.1, rm_up_row])] at hP hD
  exact kk H1 locs1 ⟨hw.1, hP, hD, hS⟩
theorem rm_zast (C : rm_C p m c cc nL s args Ts) (hw : rm_Wd k a A H0 s σ H locs) {i : Nat} {x : Int32} (hi : i < 10) (hx : vp_nar .boolean x = x) (hdg : decode cc pc = .ok (.bastore, 1))
    (kk : ∀ (H1 : Heap) (locs1 : List Loc), rm_Wd k a A H0 s (rm_up σ 5 i x) H1 locs1 → W p l e R s m args below meth c H1 locs1 cells slots Q (F0 m (pc + 1) ls rest)) : W p l e R s m args below meth c H locs cells slots Q (F0 m pc ls (.int x :: .int (nI i) :: .ref (a 5) :: rest)) := by
  have hc : (nI i).toNatClampNeg = i := nI_clamp (by omega)
  refine va_zast C.1.1 C.1.2.1 hw.1 hw.2.1 hw.2.2.1 hw.2.2.2 5 1 (n := 10) (f := σ 5) (cA := k.2.2.1) (by rw [rm_get (by decide), rm_E5]) rfl (vp_in_nI hi (by decide)) hdg (fun H1 locs1 hP hD hS => ?_)
  rw [hc, hx, rm_set (j := i) (v := x) (by decide) (by rw [rm_E5, rm_up_row])] at hP hD
  exact kk H1 locs1 ⟨hw.1, hP, hD, hS⟩
theorem rm_aald (C : rm_C p m c cc nL s args Ts) (hw : rm_Wd k a A H0 s σ H locs) {g i : Nat} (r : Nat) (hg : 1 ≤ g ∧ g < 5 ∧ 5 + 10 * g = r) (hi : i < 10) (hdg : decode cc pc = .ok (.aaload, 1))
    (kk : W p l e R s m args below meth c H locs cells slots Q (F0 m (pc + 1) ls (.ref (a (r + i)) :: rest))) : W p l e R s m args below meth c H locs cells slots Q (F0 m pc ls (.int (nI i) :: .ref (a g) :: rest)) := by
  have hc : (nI i).toNatClampNeg = i := nI_clamp (by omega)
  have hin : vp_in (nI i) 10 := vp_in_nI hi (by decide)
  have ha : (rm_W k a σ)[g]? = some (a g, .inl (k.2.2.2, 10, .inr (.inr (.inr (.inr (rm_G a g)))))) := by rw [rm_get (by omega), rm_Eg ⟨hg.1, hg.2.1⟩]
  have hlt : (nI i).toNatClampNeg < 10 := by rw [hc]; exact hi
  have hv : va_rf (rm_G a g (nI i).toNatClampNeg) = .ref (a (r + i)) := by rw [hc]; unfold rm_G; rw [if_pos hi, hg.2.2]; rfl
  refine W.aald (v := va_rf (rm_G a g (nI i).toNatClampNeg)) (ty := .array .int) C.1.1 C.1.2.1 (hw.2.1 g _ ha) ((hw.1.2 2 _ rfl).1 10 (fun j => va_rf (rm_G a g j))) rfl (fun q => by cases q) (by show ¬ (nI i < 0 ∨ (arrV _ _ _).slots.size ≤ _); rw [arrV_size]; exact hin) (by show (arrV _ _ _).slots[_]? = _; rw [arrV_read _ _ hlt]) rfl rfl hdg ?_
  rw [hv]
  exact kk
theorem rm_F_i {j : Nat} (hj : j < 6) : (rm_F a σ)[j]? = some (.int (σ 0 j)) := by
  match j, hj with
  | 0, _ => rfl
  | 1, _ => rfl
  | 2, _ => rfl
  | 3, _ => rfl
  | 4, _ => rfl
  | 5, _ => rfl
theorem rm_F_set {j : Nat} (hj : j < 6) {v : Int32} : rm_F a (rm_up σ 0 j v) = (rm_F a σ).set j (.int v) := by
  match j, hj with
  | 0, _ => simp [rm_F, rm_up]
  | 1, _ => simp [rm_F, rm_up]
  | 2, _ => simp [rm_F, rm_up]
  | 3, _ => simp [rm_F, rm_up]
  | 4, _ => simp [rm_F, rm_up]
  | 5, _ => simp [rm_F, rm_up]
theorem rm_geti (C : rm_C p m c cc nL s args Ts) (hw : rm_Wd k a A H0 s σ H locs) (j : Nat) (hj : j < 6) {index : Nat} (hl : (Cond.fieldLink RX0 index "RankMesh" (TX0 j).2.1 (TX0 j).2.2.1).before args s = true) (hsame : (TX0 j).1 = "RankMesh") (hdg : decode cc pc = .ok (.getfield index, 3))
    (kk : W p l e R s m args below meth c H locs cells slots Q (F0 m (pc + 3) ls (.int (σ 0 j) :: rest))) : W p l e R s m args below meth c H locs cells slots Q (F0 m pc ls (.ref (a 0) :: rest)) :=
  va_get (D := k.1) (ci := 0) (v := .int (σ 0 j)) (C := RX0) (T := TX0) (N := 20) C.1.1 C.1.2.1 C.1.2.2.2.2 C.2 C.1.2.2.2.1 hw.1 hw.2.1 0 (rm_get (by decide)) rfl j (by omega) hl (fun _ h9 => by rw [hsame] at h9; exact h9) (rm_F_i hj) hdg kk
theorem rm_geta (C : rm_C p m c cc nL s args Ts) (hw : rm_Wd k a A H0 s σ H locs) (f q : Nat) (hf : f < 20) (hv : (rm_F a σ)[f]? = some (.ref (a q))) {index : Nat} (hl : (Cond.fieldLink RX0 index "RankMesh" (TX0 f).2.1 (TX0 f).2.2.1).before args s = true) (hsame : (TX0 f).1 = "RankMesh") (hdg : decode cc pc = .ok (.getfield index, 3))
    (kk : W p l e R s m args below meth c H locs cells slots Q (F0 m (pc + 3) ls (.ref (a q) :: rest))) : W p l e R s m args below meth c H locs cells slots Q (F0 m pc ls (.ref (a 0) :: rest)) :=
  va_get (D := k.1) (ci := 0) (v := .ref (a q)) (C := RX0) (T := TX0) (N := 20) C.1.1 C.1.2.1 C.1.2.2.2.2 C.2 C.1.2.2.2.1 hw.1 hw.2.1 0 (rm_get (by decide)) rfl f hf hl (fun _ h9 => by rw [hsame] at h9; exact h9) hv hdg kk
theorem rm_puti (C : rm_C p m c cc nL s args Ts) (hw : rm_Wd k a A H0 s σ H locs) (j : Nat) (hj : j < 6) {x : Int32} {index : Nat} (hl : (Cond.fieldLink RX0 index "RankMesh" (TX0 j).2.1 (TX0 j).2.2.1).before args s = true) (hsame : (TX0 j).1 = "RankMesh") (hfin : (TX0 j).2.2.2 = false) (hd : parseFieldDescriptor (TX0 j).2.2.1 = some .int) (hdg : decode cc pc = .ok (.putfield index, 3))
    (kk : ∀ (H1 : Heap) (locs1 : List Loc), rm_Wd k a A H0 s (rm_up σ 0 j x) H1 locs1 → W p l e R s m args below meth c H1 locs1 cells slots Q (F0 m (pc + 3) ls rest)) : W p l e R s m args below meth c H locs cells slots Q (F0 m pc ls (.int x :: .ref (a 0) :: rest)) := by
  refine va_put (D := k.1) (ci := 0) (v := .int x) (ty := .int) (C := RX0) (T := TX0) (N := 20) (fs := rm_F a σ) C.1.1 C.1.2.1 C.1.2.2.2.2 C.2 tyX0 tyX0_ok nmX0 C.1.2.2.2.1 hw.1 hw.2.1 hw.2.2.1 hw.2.2.2 0 (rm_get (by decide)) rfl j (by omega) hl (fun _ h9 => by rw [hsame] at h9; exact h9) hfin hd rfl rfl (by show j < 20; omega) hdg (fun H1 locs1 hP hD hS => ?_)
  rw [rm_set (j := j) (v := x) (by decide) (by rw [rm_E0, rm_F_set hj])] at hP hD
  exact kk H1 locs1 ⟨hw.1, hP, hD, hS⟩
/-- a branch on a truth value -/
theorem rm_ifeq (hexec : p.tables.exec = Jvm.exec) (hb : c.code = cc) {b : Bool} {off : Int} {tgt : Nat} (hdg : decode cc pc = .ok (.ifCond .eq off, 3)) (ht : (pc : Int) + off = (tgt : Int))
    (kt : b = false → W p l e R s m args below meth c H locs cells slots Q (F0 m tgt ls rest)) (kf : b = true → W p l e R s m args below meth c H locs cells slots Q (F0 m (pc + 3) ls rest)) : W p l e R s m args below meth c H locs cells slots Q (F0 m pc ls (.int (bI b) :: rest)) :=
  lv_if_eq hexec hb hdg ht (fun h => kt (bI_0 h)) (fun h => kf (bI_n h))
theorem rm_ifne (hexec : p.tables.exec = Jvm.exec) (hb : c.code = cc) {b : Bool} {off : Int} {tgt : Nat} (hdg : decode cc pc = .ok (.ifCond .ne off, 3)) (ht : (pc : Int) + off = (tgt : Int))
    (kt : b = true → W p l e R s m args below meth c H locs cells slots Q (F0 m tgt ls rest)) (kf : b = false → W p l e R s m args below meth c H locs cells slots Q (F0 m (pc + 3) ls rest)) : W p l e R s m args below meth c H locs cells slots Q (F0 m pc ls (.int (bI b) :: rest)) :=
  lv_if_ne hexec hb hdg ht (fun h => kt (bI_n h)) (fun h => kf (bI_0 h))
end RMR
/-- contracts: an int, nothing -/
def rm_MI (l : Launch) (k : rm_K) (a : Nat → Nat) (y : MethodName) (ws : List Cond) (rmm : Room) (As : List Value) (σ : rm_St) (r0 : Int32) (σ0 : rm_St) : Prop :=
  ∀ sz : Nat, Met l y ws rmm (va_Pc (.ref (a 0) :: As) (fun U => U.heap.size = sz ∧ rm_P k a σ U)) (va_Qi (fun (r : Int32) (τ : rm_St) => r = r0 ∧ τ = σ0) (fun τ t => rm_P k a τ t) (rm_A a sz)) 0 0 (rm_A a sz)
def rm_MV (l : Launch) (k : rm_K) (a : Nat → Nat) (y : MethodName) (ws : List Cond) (rmm : Room) (As : List Value) (σ : rm_St) (σ0 : rm_St) : Prop :=
  ∀ sz : Nat, Met l y ws rmm (va_Pc (.ref (a 0) :: As) (fun U => U.heap.size = sz ∧ rm_P k a σ U)) (va_Qv (fun (τ : rm_St) => τ = σ0) (fun τ t => rm_P k a τ t) (rm_A a sz)) 0 0 (rm_A a sz)
section RME
variable {l : Launch} {k : rm_K} {a : Nat → Nat} {y : MethodName} {ws ws' : List Cond} {rmm : Room} {As : List Value} {σ σ0 σ' : rm_St} {r0 : Int32} {cc : ByteArray} {nL : Nat} {ret : Option FieldType}
theorem rm_start {s : State} (ha : rm_inj a) (h : rm_P k a σ s) : rm_Wd k a (rm_A a s.heap.size) s.heap s σ s.heap [] :=
  ⟨h.2, h.1, rm_D ha (fun j hj => Or.inl ⟨j, hj, rfl⟩), va_S.rf⟩
theorem rm_enterI (ha : rm_inj a) (hy : plainName y.cls = true) (hcls : y.cls = RX0) (hw : ws = Cond.code y cc nL ret :: ws') (hin : ∀ w ∈ u_ws RX0 TX0 20, w ∈ ws) (hn : (lg_sl (.ref (a 0) :: As)).length ≤ nL)
    (body : ∀ (p : Program) (e : Env) (s : State) (m : MethodId) (args : Array Value) (below : List Frame) (meth : Method) (c : Code) (ls : Array Slot), rm_C p m c cc nL s args ws → meth.sig.returnType = ret → meth.locks = false → rm_Wd k a (rm_A a s.heap.size) s.heap s σ s.heap [] → lv_has ls nL (lv_args 0 (.ref (a 0) :: As)) →
      W p l e (headSpec ws rmm).room s m args below meth c s.heap [] 0 0 (MQ below (va_Qi (fun (r : Int32) (τ : rm_St) => r = r0 ∧ τ = σ0) (fun τ t => rm_P k a τ t) (rm_A a s.heap.size)) args s 0 0 (rm_A a s.heap.size)) (F0 m 0 ls [])) : rm_MI l k a y ws rmm As σ r0 σ0 := by
  intro sz
  refine Met.ofW (cc := cc) (maxL := nL) (ret := ret) hy hw ?_
  intro p e s m args below meth c s₁ B hml hv
  obtain ⟨rfl, hsz, hP⟩ := hv
  have hown : s.vm.findClass RX0 = some m.cls := hcls ▸ findClass_of_methodNamed B.named
  subst hsz
  have hl := lv_entry (.ref (a 0) :: As) (n := nL) hn
  rw [lg_entry_eq]
  exact body p e s m _ below meth c _ ⟨⟨B.exec, B.bytes, hml, hown, atoms_spec (ws := ws) B.pre⟩, hin⟩ B.returns B.notSynchronized (rm_start ha hP) hl
theorem rm_enterV (ha : rm_inj a) (hy : plainName y.cls = true) (hcls : y.cls = RX0) (hw : ws = Cond.code y cc nL ret :: ws') (hin : ∀ w ∈ u_ws RX0 TX0 20, w ∈ ws) (hn : (lg_sl (.ref (a 0) :: As)).length ≤ nL)
    (body : ∀ (p : Program) (e : Env) (s : State) (m : MethodId) (args : Array Value) (below : List Frame) (meth : Method) (c : Code) (ls : Array Slot), rm_C p m c cc nL s args ws → meth.sig.returnType = ret → meth.locks = false → rm_Wd k a (rm_A a s.heap.size) s.heap s σ s.heap [] → lv_has ls nL (lv_args 0 (.ref (a 0) :: As)) →
      W p l e (headSpec ws rmm).room s m args below meth c s.heap [] 0 0 (MQ below (va_Qv (fun (τ : rm_St) => τ = σ0) (fun τ t => rm_P k a τ t) (rm_A a s.heap.size)) args s 0 0 (rm_A a s.heap.size)) (F0 m 0 ls [])) : rm_MV l k a y ws rmm As σ σ0 := by
  intro sz
  refine Met.ofW (cc := cc) (maxL := nL) (ret := ret) hy hw ?_
  intro p e s m args below meth c s₁ B hml hv
  obtain ⟨rfl, hsz, hP⟩ := hv
  have hown : s.vm.findClass RX0 = some m.cls := hcls ▸ findClass_of_methodNamed B.named
  subst hsz
  have hl := lv_entry (.ref (a 0) :: As) (n := nL) hn
  rw [lg_entry_eq]
  exact body p e s m _ below meth c _ ⟨⟨B.exec, B.bytes, hml, hown, atoms_spec (ws := ws) B.pre⟩, hin⟩ B.returns B.notSynchronized (rm_start ha hP) hl
end RME
section RMQ
variable {p : Program} {l : Launch} {e : Env} {R : Room} {s : State} {m : MethodId} {args : Array Value} {below : List Frame} {meth : Method} {c : Code} {H : Heap} {locs : List Loc} {cells slots : Nat} {Q : State → Prop}
variable {cc : ByteArray} {pc nL : Nat} {ls : Array Slot} {rest : List Value} {Ts : List Cond} {k : rm_K} {a : Nat → Nat} {A : Nat → Prop} {H0 : Heap} {σ σ0 : rm_St} {r0 v : Int32}
theorem rm_end {t : State} (hw : rm_Wd k a (rm_A a s.heap.size) s.heap s σ H locs) (ht : t.heap = H) (hW : s.WarmedH t.vm) : rm_P k a σ t ∧ va_F (rm_A a s.heap.size) s t :=
  ⟨⟨by rw [ht]; exact hw.2.1, va_K.moved hW.alike hw.1⟩, hw.2.2.2.F ht⟩
theorem rm_iret (C : rm_C p m c cc nL s args Ts) (hr : meth.sig.returnType = some .int) (hlocks : meth.locks = false) (hw : rm_Wd k a (rm_A a s.heap.size) s.heap s σ H locs) (hdg : decode cc pc = .ok (.ireturn, 1)) (h : v = r0 ∧ σ = σ0) :
    W p l e R s m args below meth c H locs cells slots (MQ below (va_Qi (fun (r : Int32) (τ : rm_St) => r = r0 ∧ τ = σ0) (fun τ t => rm_P k a τ t) (rm_A a s.heap.size)) args s cells slots (rm_A a s.heap.size)) (F0 m pc ls [.int v]) :=
  W.iret (v := v) C.1.1 C.1.2.1 hr (fun t ht hW => ⟨⟨v, σ, rfl, h, (rm_end hw ht hW).1⟩, (rm_end hw ht hW).2⟩) hw.2.2.2.2.2 hdg hlocks
theorem rm_zret (C : rm_C p m c cc nL s args Ts) (hr : meth.sig.returnType = some .boolean) (hlocks : meth.locks = false) (hw : rm_Wd k a (rm_A a s.heap.size) s.heap s σ H locs) (hn : narrow .boolean (.int v) = .int v) (hdg : decode cc pc = .ok (.ireturn, 1)) (h : v = r0 ∧ σ = σ0) :
    W p l e R s m args below meth c H locs cells slots (MQ below (va_Qi (fun (r : Int32) (τ : rm_St) => r = r0 ∧ τ = σ0) (fun τ t => rm_P k a τ t) (rm_A a s.heap.size)) args s cells slots (rm_A a s.heap.size)) (F0 m pc ls [.int v]) :=
  W.zret (v := v) C.1.1 C.1.2.1 hr hn (fun t ht hW => ⟨⟨v, σ, rfl, h, (rm_end hw ht hW).1⟩, (rm_end hw ht hW).2⟩) hw.2.2.2.2.2 hdg hlocks
theorem rm_vret (C : rm_C p m c cc nL s args Ts) (hr : meth.sig.returnType = none) (hlocks : meth.locks = false) (hw : rm_Wd k a (rm_A a s.heap.size) s.heap s σ H locs) (hdg : decode cc pc = .ok (.return_, 1)) (h : σ = σ0) :
    W p l e R s m args below meth c H locs cells slots (MQ below (va_Qv (fun (τ : rm_St) => τ = σ0) (fun τ t => rm_P k a τ t) (rm_A a s.heap.size)) args s cells slots (rm_A a s.heap.size)) (F0 m pc ls []) :=
  W.vret C.1.1 C.1.2.1 hr (fun t ht hW => ⟨⟨σ, rfl, h, (rm_end hw ht hW).1⟩, (rm_end hw ht hW).2⟩) hw.2.2.2.2.2 hdg hlocks
/-- what a call needs of the caller's world, and what it leaves -/
theorem rm_pre (hw : rm_Wd k a A H0 s σ H locs) (av : List Value) : PreV s H RX0 (a 0) (va_Pc (.ref (a 0) :: av) (fun U => U.heap.size = H.size ∧ rm_P k a σ U)) av :=
  ⟨fun x U g mk q => by obtain ⟨q0, q1, q2, q3⟩ := q; exact ⟨q0, q1, q2, va_K.moved (u := U) (U := U.calling g mk x) (Vm.Alike.refl U.vm) q3⟩,
    va_recv hw.1 hw.2.1 (ci := 0) (q0 := 0) (show vwCl[0]? = some (RX0, TX0, 20) from rfl) (rm_get (q := 0) (by decide)), fun U hU hW => ⟨rfl, by rw [hU], by rw [hU]; exact hw.2.1, va_K.moved hW.alike hw.1⟩⟩
theorem rm_sub (hw : rm_Wd k a A H0 s σ H locs) (hA : ∀ q, H0.size ≤ q → A q) : ∀ q, rm_A a H.size q → A q := fun q h => by
  rcases h with ⟨j, hj, rfl⟩ | h
  · exact rm_D_A hw.2.2.1 j hj
  · exact hA q (Nat.le_trans hw.2.2.2.1 h)
theorem rm_post {t : State} {H1 : Heap} {locs1 : List Loc} {τ : rm_St} (hw : rm_Wd k a A H0 s σ H locs) (ht : t.heap = H1) (hvm : s.vm.Alike t.vm) (hB : rm_P k a τ t) (hS : va_S A H0 H1 locs1) : rm_Wd k a A H0 s τ H1 locs1 :=
  ⟨va_K.moved hvm.symm hB.2, by rw [← ht]; exact hB.1, rm_D (rm_D_inj hw.2.2.1) (rm_D_A hw.2.2.1), hS⟩
variable {y : MethodName} {bytes : ByteArray} {maxL index n : Nat} {ret : Option FieldType} {ws : List Cond} {rmm : Room} {As st0 : List Value}
theorem rm_callI (C : rm_C p m c cc nL s args Ts) (hw : rm_Wd k a A H0 s σ H locs) (hA : ∀ q, H0.size ≤ q → A q) (hM : rm_MI l k a y ws rmm As σ r0 σ0) (cw : CallW R s args RX0 RX0 index y bytes maxL ret ws rmm 0 0 n) (hn : As.length = n) (hsize : ls.size = nL) (hstack : st0 = As.reverse ++ .ref (a 0) :: rest)
    (hW : 2 * (F0 m pc ls st0).monitorRoom + (rest.map fun v => v.category).sum ≤ 8) (hdg : decode cc pc = .ok (.invokevirtual index, 3)) (hf : cells ≤ R.cells ∧ slots ≤ R.slots)
    (kk : ∀ (H1 : Heap) (locs1 : List Loc), rm_Wd k a A H0 s σ0 H1 locs1 → W p l e R s m args below meth c H1 locs1 cells slots Q (F0 m (pc + 3) ls (.int r0 :: rest))) : W p l e R s m args below meth c H locs cells slots Q (F0 m pc ls st0) := by
  refine va_calli (va_runV (As := As) (rest := rest) C.1 (hM H.size) cw (rm_pre hw As) rfl hn hsize hstack hW hdg hf) hw.2.2.2 (fun q _ h => rm_sub hw hA q h) (fun q h => rm_sub hw hA q h) (fun r u t H1 locs1 ht hvm hp hB hz1 hk1 hS => ?_)
  obtain ⟨rfl, rfl⟩ := hp
  exact kk H1 locs1 (rm_post hw ht hvm hB hS)
theorem rm_callV (C : rm_C p m c cc nL s args Ts) (hw : rm_Wd k a A H0 s σ H locs) (hA : ∀ q, H0.size ≤ q → A q) (hM : rm_MV l k a y ws rmm As σ σ0) (cw : CallW R s args RX0 RX0 index y bytes maxL ret ws rmm 0 0 n) (hn : As.length = n) (hsize : ls.size = nL) (hstack : st0 = As.reverse ++ .ref (a 0) :: rest)
    (hW : 2 * (F0 m pc ls st0).monitorRoom + (rest.map fun v => v.category).sum ≤ 8) (hdg : decode cc pc = .ok (.invokevirtual index, 3)) (hf : cells ≤ R.cells ∧ slots ≤ R.slots)
    (kk : ∀ (H1 : Heap) (locs1 : List Loc), rm_Wd k a A H0 s σ0 H1 locs1 → W p l e R s m args below meth c H1 locs1 cells slots Q (F0 m (pc + 3) ls rest)) : W p l e R s m args below meth c H locs cells slots Q (F0 m pc ls st0) := by
  refine va_callv (va_runV (As := As) (rest := rest) C.1 (hM H.size) cw (rm_pre hw As) rfl hn hsize hstack hW hdg hf) hw.2.2.2 (fun q _ h => rm_sub hw hA q h) (fun q h => rm_sub hw hA q h) (fun u t H1 locs1 ht hvm hp hB hz1 hk1 hS => ?_)
  obtain rfl := hp
  exact kk H1 locs1 (rm_post hw ht hvm hB hS)
end RMQ
